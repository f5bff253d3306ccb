set_option maxHeartbeats 4000000 in
set_option maxRecDepth 100000 in
theorem c_M_tell (l : Launch) (D : va_G) (cI : ClassId) (cB : ClassId) (o mt mo mf mc mm mk mb mu ml mg mx : Nat) (th lim lf fl f1 f2 ck : Int32) (nT nO nF : Nat) (fT fO fF : Nat → Int32) (hT : nT ≤ 400) (hO : nO ≤ 2000) (way : Int32) (sz : Nat) : ft_Mi l y_M_tell (.code y_M_tell b_M_tell 5 (some .int) :: ft_big) ({ frames := 2, cells := 0, slots := 0, locals := 60 }) D [(cI, .int), (cB, .boolean)] sz [.ref o, .int way] [(o, .inr (5, [.int th, .ref mt, .int (nI nT), .int lim, .ref mo, .int (nI nO), .ref mf, .int (nI nF), .ref mc, .ref mm, .ref mk, .ref mb, .int lf, .int fl, .ref mu, .int f1, .int f2, .int ck, .ref ml, .ref mg, .ref mx])), (mt, .inl (cI, 400, .inl fT)), (mo, .inl (cI, 2000, .inl fO)), (mf, .inl (cI, 900, .inl fF))] (fun (v : Int32) (u : (Nat → Int32) × Nat × (Nat → Int32) × Nat) => tellR fT nT lim way fO nO v u.1 u.2.1) (fun u : (Nat → Int32) × Nat × (Nat → Int32) × Nat => [(o, .inr (5, [.int 0, .ref mt, .int (nI 0), .int lim, .ref mo, .int (nI u.2.1), .ref mf, .int (nI u.2.2.2), .ref mc, .ref mm, .ref mk, .ref mb, .int lf, .int fl, .ref mu, .int f1, .int f2, .int ck, .ref ml, .ref mg, .ref mx])), (mt, .inl (cI, 400, .inl fT)), (mo, .inl (cI, 2000, .inl u.1)), (mf, .inl (cI, 900, .inl u.2.2.1))]) 0 0 := by
  refine ft_ei (cc := b_M_tell) (maxL := 5) (ret := (some .int)) (by decide) rfl (Nat.le_of_ble_eq_true rfl) ?_
  intro p e s m below meth c A ls hx hb hr hml hts hown hlocks hmn hP hK hD hA hS hNW hl
  have ht : ∀ w ∈ ft_big, w.before _ s = true := fun w h => hts w (List.mem_cons_of_mem _ h)
  have hP : va_P D vwCl [(o, .inr (5, [.int th, .ref mt, .int (nI nT), .int lim, .ref mo, .int (nI nO), .ref mf, .int (nI nF), .ref mc, .ref mm, .ref mk, .ref mb, .int lf, .int fl, .ref mu, .int f1, .int f2, .int ck, .ref ml, .ref mg, .ref mx])), (mt, .inl (cI, 400, .inl fT)), (mo, .inl (cI, 2000, .inl fO)), (mf, .inl (cI, 900, .inl fF))] s.heap := hP
  have hD : va_D A [(o, .inr (5, [.int th, .ref mt, .int (nI nT), .int lim, .ref mo, .int (nI nO), .ref mf, .int (nI nF), .ref mc, .ref mm, .ref mk, .ref mb, .int lf, .int fl, .ref mu, .int f1, .int f2, .int ck, .ref ml, .ref mg, .ref mx])), (mt, .inl (cI, 400, .inl fT)), (mo, .inl (cI, 2000, .inl fO)), (mf, .inl (cI, 900, .inl fF))] := hD
  have hl : lv_has ls 5 [(0, .ref o), (1, .int way)] := hl
  refine lv_aload_n hx hb d_M_tell_0 rfl (lv_at hl 0 rfl) ?_
  refine lv_iconst (v := 0) hx hb d_M_tell_1 (by decide +kernel) ?_
  refine va_put (D := D) (ci := 5) (v := .int 0) (ty := .int) (C := R_M) (T := F_M) (N := 21) hx hb ht bi_M t_M t_M_ok n_M hown hK hP hD hS 0 rfl rfl 0 (by decide) (ht _ bw_407) (fun _ h9 => h9) rfl (by decide +kernel) rfl rfl (Nat.le_of_ble_eq_true rfl) d_M_tell_2 (fun H locs hP hD hS => ?_)
  have hP : va_P D vwCl [(o, .inr (5, [.int 0, .ref mt, .int (nI nT), .int lim, .ref mo, .int (nI nO), .ref mf, .int (nI nF), .ref mc, .ref mm, .ref mk, .ref mb, .int lf, .int fl, .ref mu, .int f1, .int f2, .int ck, .ref ml, .ref mg, .ref mx])), (mt, .inl (cI, 400, .inl fT)), (mo, .inl (cI, 2000, .inl fO)), (mf, .inl (cI, 900, .inl fF))] H := hP
  have hD : va_D A [(o, .inr (5, [.int 0, .ref mt, .int (nI nT), .int lim, .ref mo, .int (nI nO), .ref mf, .int (nI nF), .ref mc, .ref mm, .ref mk, .ref mb, .int lf, .int fl, .ref mu, .int f1, .int f2, .int ck, .ref ml, .ref mg, .ref mx])), (mt, .inl (cI, 400, .inl fT)), (mo, .inl (cI, 2000, .inl fO)), (mf, .inl (cI, 900, .inl fF))] := hD
  refine lv_aload_n hx hb d_M_tell_5 rfl (lv_at hl 0 rfl) ?_
  refine va_get (D := D) (ci := 5) (v := .int (nI nT)) (C := R_M) (T := F_M) (N := 21) hx hb ht bi_M hown hK hP 0 rfl rfl 2 (by decide) (ht _ bw_409) (fun _ h9 => h9) rfl d_M_tell_6 ?_
  refine lv_istore_n (lv' := [(2, .int (nI nT)), (0, .ref o), (1, .int way)]) hx hb d_M_tell_9 rfl hl (by decide) rfl (fun ls hl => ?_)
  refine lv_aload_n hx hb d_M_tell_10 rfl (lv_at hl 1 rfl) ?_
  refine lv_iconst (v := nI 0) hx hb d_M_tell_11 (by decide +kernel) ?_
  refine va_put (D := D) (ci := 5) (v := .int (nI 0)) (ty := .int) (C := R_M) (T := F_M) (N := 21) hx hb ht bi_M t_M t_M_ok n_M hown hK hP hD hS 0 rfl rfl 2 (by decide) (ht _ bw_409) (fun _ h9 => h9) rfl (by decide +kernel) rfl rfl (Nat.le_of_ble_eq_true rfl) d_M_tell_12 (fun H locs hP hD hS => ?_)
  have hP : va_P D vwCl [(o, .inr (5, [.int 0, .ref mt, .int (nI 0), .int lim, .ref mo, .int (nI nO), .ref mf, .int (nI nF), .ref mc, .ref mm, .ref mk, .ref mb, .int lf, .int fl, .ref mu, .int f1, .int f2, .int ck, .ref ml, .ref mg, .ref mx])), (mt, .inl (cI, 400, .inl fT)), (mo, .inl (cI, 2000, .inl fO)), (mf, .inl (cI, 900, .inl fF))] H := hP
  have hD : va_D A [(o, .inr (5, [.int 0, .ref mt, .int (nI 0), .int lim, .ref mo, .int (nI nO), .ref mf, .int (nI nF), .ref mc, .ref mm, .ref mk, .ref mb, .int lf, .int fl, .ref mu, .int f1, .int f2, .int ck, .ref ml, .ref mg, .ref mx])), (mt, .inl (cI, 400, .inl fT)), (mo, .inl (cI, 2000, .inl fO)), (mf, .inl (cI, 900, .inl fF))] := hD
  refine lv_iload_n hx hb d_M_tell_15 rfl (lv_at hl 2 rfl) ?_
  refine ft_ci (wc := []) (wr := [(o, .inr (5, [.int 0, .ref mt, .int (nI 0), .int lim, .ref mo, .int (nI nO), .ref mf, .int (nI nF), .ref mc, .ref mm, .ref mk, .ref mb, .int lf, .int fl, .ref mu, .int f1, .int f2, .int ck, .ref ml, .ref mg, .ref mx])), (mt, .inl (cI, 400, .inl fT)), (mo, .inl (cI, 2000, .inl fO)), (mf, .inl (cI, 900, .inl fF))]) (va_runS (As := [.int way]) (rest := []) ⟨hx, hb, hml, hown, ht⟩ (c_M_isWay l D cI cB way H.size) (ft_cwS 1 ht bw_492 bw_493 bw_39 bw_494 (by decide) ⟨Nat.le_of_ble_eq_true rfl, Nat.le_of_ble_eq_true rfl⟩) ⟨ft_blind, (ft_pre hP hD hK hNW [] [0, 1] rfl rfl (by decide) rfl _)⟩ rfl rfl hl.1 rfl (lv_room (Nat.le_of_ble_eq_true rfl)) d_M_tell_16 ⟨Nat.le_of_ble_eq_true rfl, Nat.le_of_ble_eq_true rfl⟩) hP hD hS hA [] [0, 1, 2, 3] rfl rfl (by decide) (by decide) (fun r_1 u_2 H locs hu_2 hP hD hS => ?_)
  have hP : va_P D vwCl [(o, .inr (5, [.int 0, .ref mt, .int (nI 0), .int lim, .ref mo, .int (nI nO), .ref mf, .int (nI nF), .ref mc, .ref mm, .ref mk, .ref mb, .int lf, .int fl, .ref mu, .int f1, .int f2, .int ck, .ref ml, .ref mg, .ref mx])), (mt, .inl (cI, 400, .inl fT)), (mo, .inl (cI, 2000, .inl fO)), (mf, .inl (cI, 900, .inl fF))] H := hP
  have hD : va_D A [(o, .inr (5, [.int 0, .ref mt, .int (nI 0), .int lim, .ref mo, .int (nI nO), .ref mf, .int (nI nF), .ref mc, .ref mm, .ref mk, .ref mb, .int lf, .int fl, .ref mu, .int f1, .int f2, .int ck, .ref ml, .ref mg, .ref mx])), (mt, .inl (cI, 400, .inl fT)), (mo, .inl (cI, 2000, .inl fO)), (mf, .inl (cI, 900, .inl fF))] := hD
  rcases hu_2 with ⟨rfl, rfl | rfl | rfl⟩ | ⟨rfl, n0, n1, n2⟩
  · skip
    have hl : lv_has ls 5 [(2, .int (nI nT)), (0, .ref o), (1, .int (nI 0))] := hl
    have hP : va_P D vwCl [(o, .inr (5, [.int 0, .ref mt, .int (nI 0), .int lim, .ref mo, .int (nI nO), .ref mf, .int (nI nF), .ref mc, .ref mm, .ref mk, .ref mb, .int lf, .int fl, .ref mu, .int f1, .int f2, .int ck, .ref ml, .ref mg, .ref mx])), (mt, .inl (cI, 400, .inl fT)), (mo, .inl (cI, 2000, .inl fO)), (mf, .inl (cI, 900, .inl fF))] H := hP
    have hD : va_D A [(o, .inr (5, [.int 0, .ref mt, .int (nI 0), .int lim, .ref mo, .int (nI nO), .ref mf, .int (nI nF), .ref mc, .ref mm, .ref mk, .ref mb, .int lf, .int fl, .ref mu, .int f1, .int f2, .int ck, .ref ml, .ref mg, .ref mx])), (mt, .inl (cI, 400, .inl fT)), (mo, .inl (cI, 2000, .inl fO)), (mf, .inl (cI, 900, .inl fF))] := hD
    refine lv_if_eq (tgt := 38) hx hb d_M_tell_19 (by decide) (fun c19 => absurd c19 (by decide)) (fun _ => ?_)
    refine lv_iload_n hx hb d_M_tell_22 rfl (lv_at hl 0 rfl) ?_
    refine lv_aload_n hx hb d_M_tell_23 rfl (lv_at hl 1 rfl) ?_
    refine va_get (D := D) (ci := 5) (v := .int lim) (C := R_M) (T := F_M) (N := 21) hx hb ht bi_M hown hK hP 0 rfl rfl 3 (by decide) (ht _ bw_410) (fun _ h9 => h9) rfl d_M_tell_24 ?_
    refine lv_icmp_gt (tgt := 38) hx hb d_M_tell_27 (by decide) (fun c27 => ?_) (fun c27 => ?_)
    · skip
      refine lv_iconst (v := (-1)) hx hb d_M_tell_38 (by decide +kernel) ?_
      exact ft_reti (fO, nO, fF, nF) hx hb hr hlocks hP hK hD hS (tell_l c27) d_M_tell_39
    · skip
      refine lv_iload_n hx hb d_M_tell_30 rfl (lv_at hl 2 rfl) ?_
      refine lv_if_le (tgt := 40) hx hb d_M_tell_31 (by decide) (fun _ => ?_) (fun c31 => absurd (by decide) c31)
      refine lv_aload_n hx hb d_M_tell_40 rfl (lv_at hl 1 rfl) ?_
      refine lv_iconst (v := nI 0) hx hb d_M_tell_41 (by decide +kernel) ?_
      refine va_put (D := D) (ci := 5) (v := .int (nI 0)) (ty := .int) (C := R_M) (T := F_M) (N := 21) hx hb ht bi_M t_M t_M_ok n_M hown hK hP hD hS 0 rfl rfl 7 (by decide) (ht _ bw_414) (fun _ h9 => h9) rfl (by decide +kernel) rfl rfl (Nat.le_of_ble_eq_true rfl) d_M_tell_42 (fun H locs hP hD hS => ?_)
      have hP : va_P D vwCl [(o, .inr (5, [.int 0, .ref mt, .int (nI 0), .int lim, .ref mo, .int (nI nO), .ref mf, .int (nI 0), .ref mc, .ref mm, .ref mk, .ref mb, .int lf, .int fl, .ref mu, .int f1, .int f2, .int ck, .ref ml, .ref mg, .ref mx])), (mt, .inl (cI, 400, .inl fT)), (mo, .inl (cI, 2000, .inl fO)), (mf, .inl (cI, 900, .inl fF))] H := hP
      have hD : va_D A [(o, .inr (5, [.int 0, .ref mt, .int (nI 0), .int lim, .ref mo, .int (nI nO), .ref mf, .int (nI 0), .ref mc, .ref mm, .ref mk, .ref mb, .int lf, .int fl, .ref mu, .int f1, .int f2, .int ck, .ref ml, .ref mg, .ref mx])), (mt, .inl (cI, 400, .inl fT)), (mo, .inl (cI, 2000, .inl fO)), (mf, .inl (cI, 900, .inl fF))] := hD
      refine lv_iload_n hx hb d_M_tell_45 rfl (lv_at hl 2 rfl) ?_
      refine lv_if_ne (tgt := 54) hx hb d_M_tell_46 (by decide) (fun c46 => absurd (by decide) c46) (fun _ => ?_)
      refine lv_aload_n hx hb d_M_tell_49 rfl (lv_at hl 1 rfl) ?_
      refine lv_iload_n hx hb d_M_tell_50 rfl (lv_at hl 0 rfl) ?_
      refine ft_cv (wc := [(o, .inr (5, [.int 0, .ref mt, .int (nI 0), .int lim, .ref mo, .int (nI nO), .ref mf, .int (nI 0), .ref mc, .ref mm, .ref mk, .ref mb, .int lf, .int fl, .ref mu, .int f1, .int f2, .int ck, .ref ml, .ref mg, .ref mx])), (mt, .inl (cI, 400, .inl fT)), (mf, .inl (cI, 900, .inl fF))]) (wr := [(mo, .inl (cI, 2000, .inl fO))]) (va_runV (As := [.int (nI nT)]) (rest := []) ⟨hx, hb, hml, hown, ht⟩ (c_M_sayGroups l D cI cB o mt mo mf mc mm mk mb mu ml mg mx 0 lim lf fl f1 f2 ck 0 nO 0 fT fF nT (by omega) (by omega) H.size) (ft_cwV 1 ht bw_495 bw_497 bw_19 bw_39 bw_498 (by decide) ⟨Nat.le_of_ble_eq_true rfl, Nat.le_of_ble_eq_true rfl⟩) ⟨ft_blind, va_recv hK hP (ci := 5) (q0 := 0) rfl rfl, (ft_pre hP hD hK hNW [0, 1, 3] [0, 1] rfl rfl (by decide) rfl _)⟩ rfl rfl hl.1 rfl (lv_room (Nat.le_of_ble_eq_true rfl)) d_M_tell_51 ⟨Nat.le_of_ble_eq_true rfl, Nat.le_of_ble_eq_true rfl⟩) hP hD hS hA [0, 1, 3] [2] rfl rfl (by decide) (by decide) (fun u_4 H locs hu_4 hP hD hS => ?_)
      obtain ⟨fG, nG⟩ := u_4
      obtain ⟨L0, e_G, e_L⟩ := hu_4
      have e_nG : nG ≤ 899 := by
        have q := congrArg Prod.snd e_G
        rw [asays_n] at q
        have q1 : nG = 0 + L0.length := q
        have q2 := congrArg List.length e_L
        have q3 := e0_len fT nT nT 0 0 0 (by omega) (by omega)
        rw [List.length_append] at q2
        have q4 : L0.length + 1 = _ := q2
        omega
      have hP : va_P D vwCl [(mo, .inl (cI, 2000, .inl fO)), (o, .inr (5, [.int 0, .ref mt, .int (nI 0), .int lim, .ref mo, .int (nI nO), .ref mf, .int (nI nG), .ref mc, .ref mm, .ref mk, .ref mb, .int lf, .int fl, .ref mu, .int f1, .int f2, .int ck, .ref ml, .ref mg, .ref mx])), (mt, .inl (cI, 400, .inl fT)), (mf, .inl (cI, 900, .inl fG))] H := hP
      have hD : va_D A [(mo, .inl (cI, 2000, .inl fO)), (o, .inr (5, [.int 0, .ref mt, .int (nI 0), .int lim, .ref mo, .int (nI nO), .ref mf, .int (nI nG), .ref mc, .ref mm, .ref mk, .ref mb, .int lf, .int fl, .ref mu, .int f1, .int f2, .int ck, .ref ml, .ref mg, .ref mx])), (mt, .inl (cI, 400, .inl fT)), (mf, .inl (cI, 900, .inl fG))] := hD
      refine lv_ldc hx hb hown (ht _ bw_507) d_M_tell_54 ?_
      refine lv_istore_n (lv' := [(3, .int 65535), (2, .int (nI nT)), (0, .ref o), (1, .int (nI 0))]) hx hb d_M_tell_56 rfl hl (by decide) rfl (fun ls hl => ?_)
      refine lv_iconst (v := nI 0) hx hb d_M_tell_57 (by decide +kernel) ?_
      refine lv_istore (lv' := [(4, .int (nI 0)), (3, .int 65535), (2, .int (nI nT)), (0, .ref o), (1, .int (nI 0))]) hx hb d_M_tell_58 hl (by decide) rfl (fun ls hl => ?_)
      refine lv_iload hx hb d_M_tell_60 (lv_at hl 0 rfl) ?_
      refine lv_iload_n hx hb d_M_tell_62 rfl (lv_at hl 2 rfl) ?_
      refine lv_icmp_ge (tgt := 100) hx hb d_M_tell_63 (by decide) (fun c63 => ?_) (fun c63 => ?_)
      · skip
        have c63 : nT ≤ 0 := (nI_leI (by omega) (by omega)).mp c63
        refine lv_iload_n hx hb d_M_tell_100 rfl (lv_at hl 4 rfl) ?_
        refine lv_iconst (v := 2) hx hb d_M_tell_101 (by decide +kernel) ?_
        refine lv_icmp_ne (tgt := 132) hx hb d_M_tell_102 (by decide) (fun _ => ?_) (fun c102 => absurd c102 (by decide))
        refine lv_aload_n hx hb d_M_tell_132 rfl (lv_at hl 3 rfl) ?_
        refine lv_iload_n hx hb d_M_tell_133 rfl (lv_at hl 4 rfl) ?_
        refine lv_if_ne (tgt := 141) hx hb d_M_tell_134 (by decide) (fun c134 => absurd (by decide) c134) (fun _ => ?_)
        refine lv_iconst (v := 0) hx hb d_M_tell_137 (by decide +kernel) ?_
        refine lv_goto (tgt := 154) hx hb d_M_tell_138 (by decide) ?_
        refine ft_cv (wc := [(o, .inr (5, [.int 0, .ref mt, .int (nI 0), .int lim, .ref mo, .int (nI nO), .ref mf, .int (nI nG), .ref mc, .ref mm, .ref mk, .ref mb, .int lf, .int fl, .ref mu, .int f1, .int f2, .int ck, .ref ml, .ref mg, .ref mx])), (mf, .inl (cI, 900, .inl fG))]) (wr := [(mo, .inl (cI, 2000, .inl fO)), (mt, .inl (cI, 400, .inl fT))]) (va_runV (As := [.int 0]) (rest := []) ⟨hx, hb, hml, hown, ht⟩ (c_M_say l D cI cB o mt mo mf mc mm mk mb mu ml mg mx 0 lim lf fl f1 f2 ck 0 nO nG fG (by omega) 0 H.size) (ft_cwV 1 ht bw_503 bw_505 bw_21 bw_39 bw_506 (by decide) ⟨Nat.le_of_ble_eq_true rfl, Nat.le_of_ble_eq_true rfl⟩) ⟨ft_blind, va_recv hK hP (ci := 5) (q0 := 1) rfl rfl, (ft_pre hP hD hK hNW [1, 3] [0, 1] rfl rfl (by decide) rfl _)⟩ rfl rfl hl.1 rfl (lv_room (Nat.le_of_ble_eq_true rfl)) d_M_tell_154 ⟨Nat.le_of_ble_eq_true rfl, Nat.le_of_ble_eq_true rfl⟩) hP hD hS hA [1, 3] [0, 2] rfl rfl (by decide) (by decide) (fun u_7 H locs hu_7 hP hD hS => ?_)
        obtain ⟨fFs5, nFs5⟩ := u_7
        have e_ns5 : nFs5 = nG + 1 := congrArg Prod.snd hu_7
        have hP : va_P D vwCl [(mo, .inl (cI, 2000, .inl fO)), (mt, .inl (cI, 400, .inl fT)), (o, .inr (5, [.int 0, .ref mt, .int (nI 0), .int lim, .ref mo, .int (nI nO), .ref mf, .int (nI nFs5), .ref mc, .ref mm, .ref mk, .ref mb, .int lf, .int fl, .ref mu, .int f1, .int f2, .int ck, .ref ml, .ref mg, .ref mx])), (mf, .inl (cI, 900, .inl fFs5))] H := hP
        have hD : va_D A [(mo, .inl (cI, 2000, .inl fO)), (mt, .inl (cI, 400, .inl fT)), (o, .inr (5, [.int 0, .ref mt, .int (nI 0), .int lim, .ref mo, .int (nI nO), .ref mf, .int (nI nFs5), .ref mc, .ref mm, .ref mk, .ref mb, .int lf, .int fl, .ref mu, .int f1, .int f2, .int ck, .ref ml, .ref mg, .ref mx])), (mf, .inl (cI, 900, .inl fFs5))] := hD
        have eF : (fFs5, nFs5) = asays (fF, 0) (e0 fT nT nT 0 0 0) := by rw [hu_7, e_G, ← e_L, asays_app]; rfl
        refine lv_aload_n hx hb d_M_tell_157 rfl (lv_at hl 3 rfl) ?_
        refine va_get (D := D) (ci := 5) (v := .int (nI nO)) (C := R_M) (T := F_M) (N := 21) hx hb ht bi_M hown hK hP 2 rfl rfl 5 (by decide) (ht _ bw_412) (fun _ h9 => h9) rfl d_M_tell_158 ?_
        refine lv_aload_n hx hb d_M_tell_161 rfl (lv_at hl 3 rfl) ?_
        refine va_get (D := D) (ci := 5) (v := .int (nI nFs5)) (C := R_M) (T := F_M) (N := 21) hx hb ht bi_M hown hK hP 2 rfl rfl 7 (by decide) (ht _ bw_414) (fun _ h9 => h9) rfl d_M_tell_162 ?_
        refine lv_iadd hx hb d_M_tell_165 ?_
        refine ft_top (nI_add nO nFs5) ?_
        refine lv_sipush (v := nI 2000) hx hb d_M_tell_166 (by decide +kernel) ?_
        refine lv_icmp_le (tgt := 174) hx hb d_M_tell_169 (by decide) (fun c169 => ?_) (fun c169 => ?_)
        · skip
          have c169 : nO + nFs5 ≤ 2000 := (nI_leI (by omega) (by omega)).mp c169
          refine lv_iconst (v := nI 0) hx hb d_M_tell_174 (by decide +kernel) ?_
          refine lv_istore (lv' := [(4, .int (nI 0)), (3, .int 65535), (2, .int (nI nT)), (0, .ref o), (1, .int (nI 0))]) hx hb d_M_tell_175 hl (by decide) rfl (fun ls hl => ?_)
          have cp : ∀ (q : Nat) (k : Nat) (gO : Nat → Int32) (H : Heap) (locs : List Loc) (ls : Array Slot), k + q = nFs5 → va_P D vwCl [(mo, .inl (cI, 2000, .inl gO)), (mt, .inl (cI, 400, .inl fT)), (o, .inr (5, [.int 0, .ref mt, .int (nI 0), .int lim, .ref mo, .int (nI nO), .ref mf, .int (nI nFs5), .ref mc, .ref mm, .ref mk, .ref mb, .int lf, .int fl, .ref mu, .int f1, .int f2, .int ck, .ref ml, .ref mg, .ref mx])), (mf, .inl (cI, 900, .inl fFs5))] H → va_D A [(mo, .inl (cI, 2000, .inl gO)), (mt, .inl (cI, 400, .inl fT)), (o, .inr (5, [.int 0, .ref mt, .int (nI 0), .int lim, .ref mo, .int (nI nO), .ref mf, .int (nI nFs5), .ref mc, .ref mm, .ref mk, .ref mb, .int lf, .int fl, .ref mu, .int f1, .int f2, .int ck, .ref ml, .ref mg, .ref mx])), (mf, .inl (cI, 900, .inl fFs5))] → va_S A s.heap H locs → lv_has ls 5 [(4, .int (nI k)), (3, .int 65535), (2, .int (nI nT)), (0, .ref o), (1, .int (nI 0))] → (∀ i, i < nO → gO i = fO i) → (∀ j, j < k → gO (nO + j) = fFs5 j) → W p l e ({ frames := 2, cells := 0, slots := 0, locals := 60 } : Room) s m ([.ref o, .int 0] : List Value).toArray below meth c H locs 0 0 (MQ below (va_Qi (fun (v : Int32) (u : (Nat → Int32) × Nat × (Nat → Int32) × Nat) => tellR fT nT lim 0 fO nO v u.1 u.2.1) (ft_B D vwCl [(cI, .int), (cB, .boolean)] A (fun u : (Nat → Int32) × Nat × (Nat → Int32) × Nat => [(o, .inr (5, [.int 0, .ref mt, .int (nI 0), .int lim, .ref mo, .int (nI u.2.1), .ref mf, .int (nI u.2.2.2), .ref mc, .ref mm, .ref mk, .ref mb, .int lf, .int fl, .ref mu, .int f1, .int f2, .int ck, .ref ml, .ref mg, .ref mx])), (mt, .inl (cI, 400, .inl fT)), (mo, .inl (cI, 2000, .inl u.1)), (mf, .inl (cI, 900, .inl u.2.2.1))])) A) ([.ref o, .int 0] : List Value).toArray s 0 0 A) (F0 m 177 ls []) := by
            intro q
            induction q with
            | zero =>
              intro k gO H locs ls hk hP hD hS hl g1 g2
              refine lv_iload hx hb d_M_tell_177 (lv_at hl 0 rfl) ?_
              refine lv_aload_n hx hb d_M_tell_179 rfl (lv_at hl 3 rfl) ?_
              refine va_get (D := D) (ci := 5) (v := .int (nI nFs5)) (C := R_M) (T := F_M) (N := 21) hx hb ht bi_M hown hK hP 2 rfl rfl 7 (by decide) (ht _ bw_414) (fun _ h9 => h9) rfl d_M_tell_180 ?_
              refine lv_icmp_ge (tgt := 211) hx hb d_M_tell_183 (by decide) (fun c183 => ?_) (fun c183 => absurd (nI_le (by omega) (by omega)) c183)
              have c183 : nFs5 ≤ k := (nI_leI (by omega) (by omega)).mp c183
              refine lv_aload_n hx hb d_M_tell_211 rfl (lv_at hl 3 rfl) ?_
              refine lv_dup hx hb d_M_tell_212 rfl ?_
              refine va_get (D := D) (ci := 5) (v := .int (nI nO)) (C := R_M) (T := F_M) (N := 21) hx hb ht bi_M hown hK hP 2 rfl rfl 5 (by decide) (ht _ bw_412) (fun _ h9 => h9) rfl d_M_tell_213 ?_
              refine lv_aload_n hx hb d_M_tell_216 rfl (lv_at hl 3 rfl) ?_
              refine va_get (D := D) (ci := 5) (v := .int (nI nFs5)) (C := R_M) (T := F_M) (N := 21) hx hb ht bi_M hown hK hP 2 rfl rfl 7 (by decide) (ht _ bw_414) (fun _ h9 => h9) rfl d_M_tell_217 ?_
              refine lv_iadd hx hb d_M_tell_220 ?_
              refine ft_top (nI_add nO nFs5) ?_
              refine va_put (D := D) (ci := 5) (v := .int (nI (nO + nFs5))) (ty := .int) (C := R_M) (T := F_M) (N := 21) hx hb ht bi_M t_M t_M_ok n_M hown hK hP hD hS 2 rfl rfl 5 (by decide) (ht _ bw_412) (fun _ h9 => h9) rfl (by decide +kernel) rfl rfl (Nat.le_of_ble_eq_true rfl) d_M_tell_221 (fun H locs hP hD hS => ?_)
              have hP : va_P D vwCl [(mo, .inl (cI, 2000, .inl gO)), (mt, .inl (cI, 400, .inl fT)), (o, .inr (5, [.int 0, .ref mt, .int (nI 0), .int lim, .ref mo, .int (nI (nO + nFs5)), .ref mf, .int (nI nFs5), .ref mc, .ref mm, .ref mk, .ref mb, .int lf, .int fl, .ref mu, .int f1, .int f2, .int ck, .ref ml, .ref mg, .ref mx])), (mf, .inl (cI, 900, .inl fFs5))] H := hP
              have hD : va_D A [(mo, .inl (cI, 2000, .inl gO)), (mt, .inl (cI, 400, .inl fT)), (o, .inr (5, [.int 0, .ref mt, .int (nI 0), .int lim, .ref mo, .int (nI (nO + nFs5)), .ref mf, .int (nI nFs5), .ref mc, .ref mm, .ref mk, .ref mb, .int lf, .int fl, .ref mu, .int f1, .int f2, .int ck, .ref ml, .ref mg, .ref mx])), (mf, .inl (cI, 900, .inl fFs5))] := hD
              refine lv_aload_n hx hb d_M_tell_224 rfl (lv_at hl 3 rfl) ?_
              refine va_get (D := D) (ci := 5) (v := .int (nI (nO + nFs5))) (C := R_M) (T := F_M) (N := 21) hx hb ht bi_M hown hK hP 2 rfl rfl 5 (by decide) (ht _ bw_412) (fun _ h9 => h9) rfl d_M_tell_225 ?_
              exact ft_reti (gO, nO + nFs5, fFs5, nFs5) hx hb hr hlocks (hP.sub [2, 1, 0, 3] rfl) hK (hD.sub [2, 1, 0, 3] (by decide) rfl) hS (tell_k (encM_0 fT nT) eF (Or.inl rfl) c27 (Or.inl rfl) c169 g1 (fun j h => g2 j (by omega))) d_M_tell_228
            | succ q ih_cp =>
              intro k gO H locs ls hk hP hD hS hl g1 g2
              refine lv_iload hx hb d_M_tell_177 (lv_at hl 0 rfl) ?_
              refine lv_aload_n hx hb d_M_tell_179 rfl (lv_at hl 3 rfl) ?_
              refine va_get (D := D) (ci := 5) (v := .int (nI nFs5)) (C := R_M) (T := F_M) (N := 21) hx hb ht bi_M hown hK hP 2 rfl rfl 7 (by decide) (ht _ bw_414) (fun _ h9 => h9) rfl d_M_tell_180 ?_
              refine lv_icmp_ge (tgt := 211) hx hb d_M_tell_183 (by decide) (fun c183 => absurd c183 (nI_ge (by omega) (by omega))) (fun c183 => ?_)
              have c183 : ¬ nFs5 ≤ k := fun h => c183 ((nI_leI (by omega) (by omega)).mpr h)
              refine lv_aload_n hx hb d_M_tell_186 rfl (lv_at hl 3 rfl) ?_
              refine va_get (D := D) (ci := 5) (v := .ref mo) (C := R_M) (T := F_M) (N := 21) hx hb ht bi_M hown hK hP 2 rfl rfl 4 (by decide) (ht _ bw_411) (fun _ h9 => h9) rfl d_M_tell_187 ?_
              refine lv_aload_n hx hb d_M_tell_190 rfl (lv_at hl 3 rfl) ?_
              refine va_get (D := D) (ci := 5) (v := .int (nI nO)) (C := R_M) (T := F_M) (N := 21) hx hb ht bi_M hown hK hP 2 rfl rfl 5 (by decide) (ht _ bw_412) (fun _ h9 => h9) rfl d_M_tell_191 ?_
              refine lv_iload hx hb d_M_tell_194 (lv_at hl 0 rfl) ?_
              refine lv_iadd hx hb d_M_tell_196 ?_
              refine ft_top (nI_add nO k) ?_
              refine lv_aload_n hx hb d_M_tell_197 rfl (lv_at hl 3 rfl) ?_
              refine va_get (D := D) (ci := 5) (v := .ref mf) (C := R_M) (T := F_M) (N := 21) hx hb ht bi_M hown hK hP 2 rfl rfl 6 (by decide) (ht _ bw_413) (fun _ h9 => h9) rfl d_M_tell_198 ?_
              refine lv_iload hx hb d_M_tell_201 (lv_at hl 0 rfl) ?_
              refine va_iald hx hb hK hP 3 0 rfl rfl (vp_in_nI (by omega) (by omega)) d_M_tell_203 ?_
              refine ft_top (congrArg fFs5 (nI_clamp (n := k) (by omega))) ?_
              refine va_iast hx hb hK hP hD hS 0 0 rfl rfl (vp_in_nI (by omega) (by omega)) d_M_tell_204 (fun H locs hP hD hS => ?_)
              rw [nI_clamp (n := nO + k) (by omega)] at hP hD
              obtain ⟨gO_8, egO_8⟩ : ∃ g : Nat → Int32, g = upd gO (nO + k) (fFs5 k) := ⟨_, rfl⟩
              rw [← egO_8] at hP hD
              have hP : va_P D vwCl [(mo, .inl (cI, 2000, .inl gO_8)), (mt, .inl (cI, 400, .inl fT)), (o, .inr (5, [.int 0, .ref mt, .int (nI 0), .int lim, .ref mo, .int (nI nO), .ref mf, .int (nI nFs5), .ref mc, .ref mm, .ref mk, .ref mb, .int lf, .int fl, .ref mu, .int f1, .int f2, .int ck, .ref ml, .ref mg, .ref mx])), (mf, .inl (cI, 900, .inl fFs5))] H := hP
              have hD : va_D A [(mo, .inl (cI, 2000, .inl gO_8)), (mt, .inl (cI, 400, .inl fT)), (o, .inr (5, [.int 0, .ref mt, .int (nI 0), .int lim, .ref mo, .int (nI nO), .ref mf, .int (nI nFs5), .ref mc, .ref mm, .ref mk, .ref mb, .int lf, .int fl, .ref mu, .int f1, .int f2, .int ck, .ref ml, .ref mg, .ref mx])), (mf, .inl (cI, 900, .inl fFs5))] := hD
              refine lv_iinc (v := nI (k + 1)) (lv' := [(4, .int (nI (k + 1))), (3, .int 65535), (2, .int (nI nT)), (0, .ref o), (1, .int (nI 0))]) hx hb d_M_tell_205 hl (k := 0) rfl (nI_1 k) (by decide) rfl (fun ls hl => ?_)
              refine lv_goto (tgt := 177) hx hb d_M_tell_208 (by decide) ?_
              exact ih_cp (k + 1) gO_8 H locs ls (by omega) (hP.sub [0, 1, 2, 3] rfl) (hD.sub [0, 1, 2, 3] (by decide) rfl) hS (lv_sub hl [0, 1, 2, 3, 4] rfl) (fun i h => by rw [egO_8, pk_un (by omega)]; exact g1 i h) (fun j h => by rw [egO_8]; rcases Nat.lt_or_ge j k with z | z; rw [pk_un (by omega)]; exact g2 j z; rw [show j = k from by omega]; exact pk_us)
          exact cp nFs5 0 fO H locs ls (by omega) (hP.sub [0, 1, 2, 3] rfl) (hD.sub [0, 1, 2, 3] (by decide) rfl) hS (lv_sub hl [0, 1, 2, 3, 4] rfl) (fun _ _ => rfl) (fun j h => absurd h (Nat.not_lt_zero j))
        · skip
          have c169 : ¬ nO + nFs5 ≤ 2000 := fun h => c169 ((nI_leI (by omega) (by omega)).mpr h)
          refine lv_iconst (v := (-1)) hx hb d_M_tell_172 (by decide +kernel) ?_
          exact ft_reti (fO, nO, fFs5, nFs5) hx hb hr hlocks (hP.sub [2, 1, 0, 3] rfl) hK (hD.sub [2, 1, 0, 3] (by decide) rfl) hS (tell_x (encM_0 fT nT) eF c169) d_M_tell_173
      · skip
        have c63 : ¬ nT ≤ 0 := fun h => c63 ((nI_leI (by omega) (by omega)).mpr h)
        refine lv_iload_n hx hb d_M_tell_66 rfl (lv_at hl 4 rfl) ?_
        refine lv_if_le (tgt := 100) hx hb d_M_tell_67 (by decide) (fun _ => ?_) (fun c67 => absurd (by decide) c67)
        refine lv_iload_n hx hb d_M_tell_100 rfl (lv_at hl 4 rfl) ?_
        refine lv_iconst (v := 2) hx hb d_M_tell_101 (by decide +kernel) ?_
        refine lv_icmp_ne (tgt := 132) hx hb d_M_tell_102 (by decide) (fun _ => ?_) (fun c102 => absurd c102 (by decide))
        refine lv_aload_n hx hb d_M_tell_132 rfl (lv_at hl 3 rfl) ?_
        refine lv_iload_n hx hb d_M_tell_133 rfl (lv_at hl 4 rfl) ?_
        refine lv_if_ne (tgt := 141) hx hb d_M_tell_134 (by decide) (fun c134 => absurd (by decide) c134) (fun _ => ?_)
        refine lv_iconst (v := 0) hx hb d_M_tell_137 (by decide +kernel) ?_
        refine lv_goto (tgt := 154) hx hb d_M_tell_138 (by decide) ?_
        refine ft_cv (wc := [(o, .inr (5, [.int 0, .ref mt, .int (nI 0), .int lim, .ref mo, .int (nI nO), .ref mf, .int (nI nG), .ref mc, .ref mm, .ref mk, .ref mb, .int lf, .int fl, .ref mu, .int f1, .int f2, .int ck, .ref ml, .ref mg, .ref mx])), (mf, .inl (cI, 900, .inl fG))]) (wr := [(mo, .inl (cI, 2000, .inl fO)), (mt, .inl (cI, 400, .inl fT))]) (va_runV (As := [.int 0]) (rest := []) ⟨hx, hb, hml, hown, ht⟩ (c_M_say l D cI cB o mt mo mf mc mm mk mb mu ml mg mx 0 lim lf fl f1 f2 ck 0 nO nG fG (by omega) 0 H.size) (ft_cwV 1 ht bw_503 bw_505 bw_21 bw_39 bw_506 (by decide) ⟨Nat.le_of_ble_eq_true rfl, Nat.le_of_ble_eq_true rfl⟩) ⟨ft_blind, va_recv hK hP (ci := 5) (q0 := 1) rfl rfl, (ft_pre hP hD hK hNW [1, 3] [0, 1] rfl rfl (by decide) rfl _)⟩ rfl rfl hl.1 rfl (lv_room (Nat.le_of_ble_eq_true rfl)) d_M_tell_154 ⟨Nat.le_of_ble_eq_true rfl, Nat.le_of_ble_eq_true rfl⟩) hP hD hS hA [1, 3] [0, 2] rfl rfl (by decide) (by decide) (fun u_11 H locs hu_11 hP hD hS => ?_)
        obtain ⟨fFs9, nFs9⟩ := u_11
        have e_ns9 : nFs9 = nG + 1 := congrArg Prod.snd hu_11
        have hP : va_P D vwCl [(mo, .inl (cI, 2000, .inl fO)), (mt, .inl (cI, 400, .inl fT)), (o, .inr (5, [.int 0, .ref mt, .int (nI 0), .int lim, .ref mo, .int (nI nO), .ref mf, .int (nI nFs9), .ref mc, .ref mm, .ref mk, .ref mb, .int lf, .int fl, .ref mu, .int f1, .int f2, .int ck, .ref ml, .ref mg, .ref mx])), (mf, .inl (cI, 900, .inl fFs9))] H := hP
        have hD : va_D A [(mo, .inl (cI, 2000, .inl fO)), (mt, .inl (cI, 400, .inl fT)), (o, .inr (5, [.int 0, .ref mt, .int (nI 0), .int lim, .ref mo, .int (nI nO), .ref mf, .int (nI nFs9), .ref mc, .ref mm, .ref mk, .ref mb, .int lf, .int fl, .ref mu, .int f1, .int f2, .int ck, .ref ml, .ref mg, .ref mx])), (mf, .inl (cI, 900, .inl fFs9))] := hD
        have eF : (fFs9, nFs9) = asays (fF, 0) (e0 fT nT nT 0 0 0) := by rw [hu_11, e_G, ← e_L, asays_app]; rfl
        refine lv_aload_n hx hb d_M_tell_157 rfl (lv_at hl 3 rfl) ?_
        refine va_get (D := D) (ci := 5) (v := .int (nI nO)) (C := R_M) (T := F_M) (N := 21) hx hb ht bi_M hown hK hP 2 rfl rfl 5 (by decide) (ht _ bw_412) (fun _ h9 => h9) rfl d_M_tell_158 ?_
        refine lv_aload_n hx hb d_M_tell_161 rfl (lv_at hl 3 rfl) ?_
        refine va_get (D := D) (ci := 5) (v := .int (nI nFs9)) (C := R_M) (T := F_M) (N := 21) hx hb ht bi_M hown hK hP 2 rfl rfl 7 (by decide) (ht _ bw_414) (fun _ h9 => h9) rfl d_M_tell_162 ?_
        refine lv_iadd hx hb d_M_tell_165 ?_
        refine ft_top (nI_add nO nFs9) ?_
        refine lv_sipush (v := nI 2000) hx hb d_M_tell_166 (by decide +kernel) ?_
        refine lv_icmp_le (tgt := 174) hx hb d_M_tell_169 (by decide) (fun c169 => ?_) (fun c169 => ?_)
        · skip
          have c169 : nO + nFs9 ≤ 2000 := (nI_leI (by omega) (by omega)).mp c169
          refine lv_iconst (v := nI 0) hx hb d_M_tell_174 (by decide +kernel) ?_
          refine lv_istore (lv' := [(4, .int (nI 0)), (3, .int 65535), (2, .int (nI nT)), (0, .ref o), (1, .int (nI 0))]) hx hb d_M_tell_175 hl (by decide) rfl (fun ls hl => ?_)
          have cp : ∀ (q : Nat) (k : Nat) (gO : Nat → Int32) (H : Heap) (locs : List Loc) (ls : Array Slot), k + q = nFs9 → va_P D vwCl [(mo, .inl (cI, 2000, .inl gO)), (mt, .inl (cI, 400, .inl fT)), (o, .inr (5, [.int 0, .ref mt, .int (nI 0), .int lim, .ref mo, .int (nI nO), .ref mf, .int (nI nFs9), .ref mc, .ref mm, .ref mk, .ref mb, .int lf, .int fl, .ref mu, .int f1, .int f2, .int ck, .ref ml, .ref mg, .ref mx])), (mf, .inl (cI, 900, .inl fFs9))] H → va_D A [(mo, .inl (cI, 2000, .inl gO)), (mt, .inl (cI, 400, .inl fT)), (o, .inr (5, [.int 0, .ref mt, .int (nI 0), .int lim, .ref mo, .int (nI nO), .ref mf, .int (nI nFs9), .ref mc, .ref mm, .ref mk, .ref mb, .int lf, .int fl, .ref mu, .int f1, .int f2, .int ck, .ref ml, .ref mg, .ref mx])), (mf, .inl (cI, 900, .inl fFs9))] → va_S A s.heap H locs → lv_has ls 5 [(4, .int (nI k)), (3, .int 65535), (2, .int (nI nT)), (0, .ref o), (1, .int (nI 0))] → (∀ i, i < nO → gO i = fO i) → (∀ j, j < k → gO (nO + j) = fFs9 j) → W p l e ({ frames := 2, cells := 0, slots := 0, locals := 60 } : Room) s m ([.ref o, .int 0] : List Value).toArray below meth c H locs 0 0 (MQ below (va_Qi (fun (v : Int32) (u : (Nat → Int32) × Nat × (Nat → Int32) × Nat) => tellR fT nT lim 0 fO nO v u.1 u.2.1) (ft_B D vwCl [(cI, .int), (cB, .boolean)] A (fun u : (Nat → Int32) × Nat × (Nat → Int32) × Nat => [(o, .inr (5, [.int 0, .ref mt, .int (nI 0), .int lim, .ref mo, .int (nI u.2.1), .ref mf, .int (nI u.2.2.2), .ref mc, .ref mm, .ref mk, .ref mb, .int lf, .int fl, .ref mu, .int f1, .int f2, .int ck, .ref ml, .ref mg, .ref mx])), (mt, .inl (cI, 400, .inl fT)), (mo, .inl (cI, 2000, .inl u.1)), (mf, .inl (cI, 900, .inl u.2.2.1))])) A) ([.ref o, .int 0] : List Value).toArray s 0 0 A) (F0 m 177 ls []) := by
            intro q
            induction q with
            | zero =>
              intro k gO H locs ls hk hP hD hS hl g1 g2
              refine lv_iload hx hb d_M_tell_177 (lv_at hl 0 rfl) ?_
              refine lv_aload_n hx hb d_M_tell_179 rfl (lv_at hl 3 rfl) ?_
              refine va_get (D := D) (ci := 5) (v := .int (nI nFs9)) (C := R_M) (T := F_M) (N := 21) hx hb ht bi_M hown hK hP 2 rfl rfl 7 (by decide) (ht _ bw_414) (fun _ h9 => h9) rfl d_M_tell_180 ?_
              refine lv_icmp_ge (tgt := 211) hx hb d_M_tell_183 (by decide) (fun c183 => ?_) (fun c183 => absurd (nI_le (by omega) (by omega)) c183)
              have c183 : nFs9 ≤ k := (nI_leI (by omega) (by omega)).mp c183
              refine lv_aload_n hx hb d_M_tell_211 rfl (lv_at hl 3 rfl) ?_
              refine lv_dup hx hb d_M_tell_212 rfl ?_
              refine va_get (D := D) (ci := 5) (v := .int (nI nO)) (C := R_M) (T := F_M) (N := 21) hx hb ht bi_M hown hK hP 2 rfl rfl 5 (by decide) (ht _ bw_412) (fun _ h9 => h9) rfl d_M_tell_213 ?_
              refine lv_aload_n hx hb d_M_tell_216 rfl (lv_at hl 3 rfl) ?_
              refine va_get (D := D) (ci := 5) (v := .int (nI nFs9)) (C := R_M) (T := F_M) (N := 21) hx hb ht bi_M hown hK hP 2 rfl rfl 7 (by decide) (ht _ bw_414) (fun _ h9 => h9) rfl d_M_tell_217 ?_
              refine lv_iadd hx hb d_M_tell_220 ?_
              refine ft_top (nI_add nO nFs9) ?_
              refine va_put (D := D) (ci := 5) (v := .int (nI (nO + nFs9))) (ty := .int) (C := R_M) (T := F_M) (N := 21) hx hb ht bi_M t_M t_M_ok n_M hown hK hP hD hS 2 rfl rfl 5 (by decide) (ht _ bw_412) (fun _ h9 => h9) rfl (by decide +kernel) rfl rfl (Nat.le_of_ble_eq_true rfl) d_M_tell_221 (fun H locs hP hD hS => ?_)
              have hP : va_P D vwCl [(mo, .inl (cI, 2000, .inl gO)), (mt, .inl (cI, 400, .inl fT)), (o, .inr (5, [.int 0, .ref mt, .int (nI 0), .int lim, .ref mo, .int (nI (nO + nFs9)), .ref mf, .int (nI nFs9), .ref mc, .ref mm, .ref mk, .ref mb, .int lf, .int fl, .ref mu, .int f1, .int f2, .int ck, .ref ml, .ref mg, .ref mx])), (mf, .inl (cI, 900, .inl fFs9))] H := hP
              have hD : va_D A [(mo, .inl (cI, 2000, .inl gO)), (mt, .inl (cI, 400, .inl fT)), (o, .inr (5, [.int 0, .ref mt, .int (nI 0), .int lim, .ref mo, .int (nI (nO + nFs9)), .ref mf, .int (nI nFs9), .ref mc, .ref mm, .ref mk, .ref mb, .int lf, .int fl, .ref mu, .int f1, .int f2, .int ck, .ref ml, .ref mg, .ref mx])), (mf, .inl (cI, 900, .inl fFs9))] := hD
              refine lv_aload_n hx hb d_M_tell_224 rfl (lv_at hl 3 rfl) ?_
              refine va_get (D := D) (ci := 5) (v := .int (nI (nO + nFs9))) (C := R_M) (T := F_M) (N := 21) hx hb ht bi_M hown hK hP 2 rfl rfl 5 (by decide) (ht _ bw_412) (fun _ h9 => h9) rfl d_M_tell_225 ?_
              exact ft_reti (gO, nO + nFs9, fFs9, nFs9) hx hb hr hlocks (hP.sub [2, 1, 0, 3] rfl) hK (hD.sub [2, 1, 0, 3] (by decide) rfl) hS (tell_k (encM_0 fT nT) eF (Or.inl rfl) c27 (Or.inl rfl) c169 g1 (fun j h => g2 j (by omega))) d_M_tell_228
            | succ q ih_cp =>
              intro k gO H locs ls hk hP hD hS hl g1 g2
              refine lv_iload hx hb d_M_tell_177 (lv_at hl 0 rfl) ?_
              refine lv_aload_n hx hb d_M_tell_179 rfl (lv_at hl 3 rfl) ?_
              refine va_get (D := D) (ci := 5) (v := .int (nI nFs9)) (C := R_M) (T := F_M) (N := 21) hx hb ht bi_M hown hK hP 2 rfl rfl 7 (by decide) (ht _ bw_414) (fun _ h9 => h9) rfl d_M_tell_180 ?_
              refine lv_icmp_ge (tgt := 211) hx hb d_M_tell_183 (by decide) (fun c183 => absurd c183 (nI_ge (by omega) (by omega))) (fun c183 => ?_)
              have c183 : ¬ nFs9 ≤ k := fun h => c183 ((nI_leI (by omega) (by omega)).mpr h)
              refine lv_aload_n hx hb d_M_tell_186 rfl (lv_at hl 3 rfl) ?_
              refine va_get (D := D) (ci := 5) (v := .ref mo) (C := R_M) (T := F_M) (N := 21) hx hb ht bi_M hown hK hP 2 rfl rfl 4 (by decide) (ht _ bw_411) (fun _ h9 => h9) rfl d_M_tell_187 ?_
              refine lv_aload_n hx hb d_M_tell_190 rfl (lv_at hl 3 rfl) ?_
              refine va_get (D := D) (ci := 5) (v := .int (nI nO)) (C := R_M) (T := F_M) (N := 21) hx hb ht bi_M hown hK hP 2 rfl rfl 5 (by decide) (ht _ bw_412) (fun _ h9 => h9) rfl d_M_tell_191 ?_
              refine lv_iload hx hb d_M_tell_194 (lv_at hl 0 rfl) ?_
              refine lv_iadd hx hb d_M_tell_196 ?_
              refine ft_top (nI_add nO k) ?_
              refine lv_aload_n hx hb d_M_tell_197 rfl (lv_at hl 3 rfl) ?_
              refine va_get (D := D) (ci := 5) (v := .ref mf) (C := R_M) (T := F_M) (N := 21) hx hb ht bi_M hown hK hP 2 rfl rfl 6 (by decide) (ht _ bw_413) (fun _ h9 => h9) rfl d_M_tell_198 ?_
              refine lv_iload hx hb d_M_tell_201 (lv_at hl 0 rfl) ?_
              refine va_iald hx hb hK hP 3 0 rfl rfl (vp_in_nI (by omega) (by omega)) d_M_tell_203 ?_
              refine ft_top (congrArg fFs9 (nI_clamp (n := k) (by omega))) ?_
              refine va_iast hx hb hK hP hD hS 0 0 rfl rfl (vp_in_nI (by omega) (by omega)) d_M_tell_204 (fun H locs hP hD hS => ?_)
              rw [nI_clamp (n := nO + k) (by omega)] at hP hD
              obtain ⟨gO_12, egO_12⟩ : ∃ g : Nat → Int32, g = upd gO (nO + k) (fFs9 k) := ⟨_, rfl⟩
              rw [← egO_12] at hP hD
              have hP : va_P D vwCl [(mo, .inl (cI, 2000, .inl gO_12)), (mt, .inl (cI, 400, .inl fT)), (o, .inr (5, [.int 0, .ref mt, .int (nI 0), .int lim, .ref mo, .int (nI nO), .ref mf, .int (nI nFs9), .ref mc, .ref mm, .ref mk, .ref mb, .int lf, .int fl, .ref mu, .int f1, .int f2, .int ck, .ref ml, .ref mg, .ref mx])), (mf, .inl (cI, 900, .inl fFs9))] H := hP
              have hD : va_D A [(mo, .inl (cI, 2000, .inl gO_12)), (mt, .inl (cI, 400, .inl fT)), (o, .inr (5, [.int 0, .ref mt, .int (nI 0), .int lim, .ref mo, .int (nI nO), .ref mf, .int (nI nFs9), .ref mc, .ref mm, .ref mk, .ref mb, .int lf, .int fl, .ref mu, .int f1, .int f2, .int ck, .ref ml, .ref mg, .ref mx])), (mf, .inl (cI, 900, .inl fFs9))] := hD
              refine lv_iinc (v := nI (k + 1)) (lv' := [(4, .int (nI (k + 1))), (3, .int 65535), (2, .int (nI nT)), (0, .ref o), (1, .int (nI 0))]) hx hb d_M_tell_205 hl (k := 0) rfl (nI_1 k) (by decide) rfl (fun ls hl => ?_)
              refine lv_goto (tgt := 177) hx hb d_M_tell_208 (by decide) ?_
              exact ih_cp (k + 1) gO_12 H locs ls (by omega) (hP.sub [0, 1, 2, 3] rfl) (hD.sub [0, 1, 2, 3] (by decide) rfl) hS (lv_sub hl [0, 1, 2, 3, 4] rfl) (fun i h => by rw [egO_12, pk_un (by omega)]; exact g1 i h) (fun j h => by rw [egO_12]; rcases Nat.lt_or_ge j k with z | z; rw [pk_un (by omega)]; exact g2 j z; rw [show j = k from by omega]; exact pk_us)
          exact cp nFs9 0 fO H locs ls (by omega) (hP.sub [0, 1, 2, 3] rfl) (hD.sub [0, 1, 2, 3] (by decide) rfl) hS (lv_sub hl [0, 1, 2, 3, 4] rfl) (fun _ _ => rfl) (fun j h => absurd h (Nat.not_lt_zero j))
        · skip
          have c169 : ¬ nO + nFs9 ≤ 2000 := fun h => c169 ((nI_leI (by omega) (by omega)).mpr h)
          refine lv_iconst (v := (-1)) hx hb d_M_tell_172 (by decide +kernel) ?_
          exact ft_reti (fO, nO, fFs9, nFs9) hx hb hr hlocks (hP.sub [2, 1, 0, 3] rfl) hK (hD.sub [2, 1, 0, 3] (by decide) rfl) hS (tell_x (encM_0 fT nT) eF c169) d_M_tell_173
  · skip
    have hl : lv_has ls 5 [(2, .int (nI nT)), (0, .ref o), (1, .int (nI 1))] := hl
    have hP : va_P D vwCl [(o, .inr (5, [.int 0, .ref mt, .int (nI 0), .int lim, .ref mo, .int (nI nO), .ref mf, .int (nI nF), .ref mc, .ref mm, .ref mk, .ref mb, .int lf, .int fl, .ref mu, .int f1, .int f2, .int ck, .ref ml, .ref mg, .ref mx])), (mt, .inl (cI, 400, .inl fT)), (mo, .inl (cI, 2000, .inl fO)), (mf, .inl (cI, 900, .inl fF))] H := hP
    have hD : va_D A [(o, .inr (5, [.int 0, .ref mt, .int (nI 0), .int lim, .ref mo, .int (nI nO), .ref mf, .int (nI nF), .ref mc, .ref mm, .ref mk, .ref mb, .int lf, .int fl, .ref mu, .int f1, .int f2, .int ck, .ref ml, .ref mg, .ref mx])), (mt, .inl (cI, 400, .inl fT)), (mo, .inl (cI, 2000, .inl fO)), (mf, .inl (cI, 900, .inl fF))] := hD
    refine lv_if_eq (tgt := 38) hx hb d_M_tell_19 (by decide) (fun c19 => absurd c19 (by decide)) (fun _ => ?_)
    refine lv_iload_n hx hb d_M_tell_22 rfl (lv_at hl 0 rfl) ?_
    refine lv_aload_n hx hb d_M_tell_23 rfl (lv_at hl 1 rfl) ?_
    refine va_get (D := D) (ci := 5) (v := .int lim) (C := R_M) (T := F_M) (N := 21) hx hb ht bi_M hown hK hP 0 rfl rfl 3 (by decide) (ht _ bw_410) (fun _ h9 => h9) rfl d_M_tell_24 ?_
    refine lv_icmp_gt (tgt := 38) hx hb d_M_tell_27 (by decide) (fun c27 => ?_) (fun c27 => ?_)
    · skip
      refine lv_iconst (v := (-1)) hx hb d_M_tell_38 (by decide +kernel) ?_
      exact ft_reti (fO, nO, fF, nF) hx hb hr hlocks hP hK hD hS (tell_l c27) d_M_tell_39
    · skip
      refine lv_iload_n hx hb d_M_tell_30 rfl (lv_at hl 2 rfl) ?_
      refine lv_if_le (tgt := 40) hx hb d_M_tell_31 (by decide) (fun c31 => absurd c31 (by decide)) (fun _ => ?_)
      refine lv_iload_n hx hb d_M_tell_34 rfl (lv_at hl 0 rfl) ?_
      refine lv_if_ne (tgt := 40) hx hb d_M_tell_35 (by decide) (fun c35 => ?_) (fun c35 => ?_)
      · skip
        have c35 : ¬ nT = 0 := fun h => c35 ((nI_eq (b := 0) (by omega) (by omega)).mpr h)
        refine lv_aload_n hx hb d_M_tell_40 rfl (lv_at hl 1 rfl) ?_
        refine lv_iconst (v := nI 0) hx hb d_M_tell_41 (by decide +kernel) ?_
        refine va_put (D := D) (ci := 5) (v := .int (nI 0)) (ty := .int) (C := R_M) (T := F_M) (N := 21) hx hb ht bi_M t_M t_M_ok n_M hown hK hP hD hS 0 rfl rfl 7 (by decide) (ht _ bw_414) (fun _ h9 => h9) rfl (by decide +kernel) rfl rfl (Nat.le_of_ble_eq_true rfl) d_M_tell_42 (fun H locs hP hD hS => ?_)
        have hP : va_P D vwCl [(o, .inr (5, [.int 0, .ref mt, .int (nI 0), .int lim, .ref mo, .int (nI nO), .ref mf, .int (nI 0), .ref mc, .ref mm, .ref mk, .ref mb, .int lf, .int fl, .ref mu, .int f1, .int f2, .int ck, .ref ml, .ref mg, .ref mx])), (mt, .inl (cI, 400, .inl fT)), (mo, .inl (cI, 2000, .inl fO)), (mf, .inl (cI, 900, .inl fF))] H := hP
        have hD : va_D A [(o, .inr (5, [.int 0, .ref mt, .int (nI 0), .int lim, .ref mo, .int (nI nO), .ref mf, .int (nI 0), .ref mc, .ref mm, .ref mk, .ref mb, .int lf, .int fl, .ref mu, .int f1, .int f2, .int ck, .ref ml, .ref mg, .ref mx])), (mt, .inl (cI, 400, .inl fT)), (mo, .inl (cI, 2000, .inl fO)), (mf, .inl (cI, 900, .inl fF))] := hD
        refine lv_iload_n hx hb d_M_tell_45 rfl (lv_at hl 2 rfl) ?_
        refine lv_if_ne (tgt := 54) hx hb d_M_tell_46 (by decide) (fun _ => ?_) (fun c46 => absurd c46 (by decide))
        refine lv_ldc hx hb hown (ht _ bw_507) d_M_tell_54 ?_
        refine lv_istore_n (lv' := [(3, .int 65535), (2, .int (nI nT)), (0, .ref o), (1, .int (nI 1))]) hx hb d_M_tell_56 rfl hl (by decide) rfl (fun ls hl => ?_)
        refine lv_iconst (v := nI 0) hx hb d_M_tell_57 (by decide +kernel) ?_
        refine lv_istore (lv' := [(4, .int (nI 0)), (3, .int 65535), (2, .int (nI nT)), (0, .ref o), (1, .int (nI 1))]) hx hb d_M_tell_58 hl (by decide) rfl (fun ls hl => ?_)
        have lp : ∀ (q : Nat) (k : Nat) (c1 : Int32) (fB : Nat → Int32) (nB : Nat) (H : Heap) (locs : List Loc) (ls : Array Slot), k + q = nT → nB ≤ 2 * k → va_P D vwCl [(o, .inr (5, [.int 0, .ref mt, .int (nI 0), .int lim, .ref mo, .int (nI nO), .ref mf, .int (nI nB), .ref mc, .ref mm, .ref mk, .ref mb, .int lf, .int fl, .ref mu, .int f1, .int f2, .int ck, .ref ml, .ref mg, .ref mx])), (mt, .inl (cI, 400, .inl fT)), (mo, .inl (cI, 2000, .inl fO)), (mf, .inl (cI, 900, .inl fB))] H → va_D A [(o, .inr (5, [.int 0, .ref mt, .int (nI 0), .int lim, .ref mo, .int (nI nO), .ref mf, .int (nI nB), .ref mc, .ref mm, .ref mk, .ref mb, .int lf, .int fl, .ref mu, .int f1, .int f2, .int ck, .ref ml, .ref mg, .ref mx])), (mt, .inl (cI, 400, .inl fT)), (mo, .inl (cI, 2000, .inl fO)), (mf, .inl (cI, 900, .inl fB))] → va_S A s.heap H locs → lv_has ls 5 [(4, .int (nI k)), (3, .int c1), (0, .ref o), (1, .int (nI 1)), (2, .int (nI nT))] → asays (fB, nB) (e1 fT q k) = asays (fF, 0) (e1 fT nT 0) → W p l e ({ frames := 2, cells := 0, slots := 0, locals := 60 } : Room) s m ([.ref o, .int 1] : List Value).toArray below meth c H locs 0 0 (MQ below (va_Qi (fun (v : Int32) (u : (Nat → Int32) × Nat × (Nat → Int32) × Nat) => tellR fT nT lim 1 fO nO v u.1 u.2.1) (ft_B D vwCl [(cI, .int), (cB, .boolean)] A (fun u : (Nat → Int32) × Nat × (Nat → Int32) × Nat => [(o, .inr (5, [.int 0, .ref mt, .int (nI 0), .int lim, .ref mo, .int (nI u.2.1), .ref mf, .int (nI u.2.2.2), .ref mc, .ref mm, .ref mk, .ref mb, .int lf, .int fl, .ref mu, .int f1, .int f2, .int ck, .ref ml, .ref mg, .ref mx])), (mt, .inl (cI, 400, .inl fT)), (mo, .inl (cI, 2000, .inl u.1)), (mf, .inl (cI, 900, .inl u.2.2.1))])) A) ([.ref o, .int 1] : List Value).toArray s 0 0 A) (F0 m 60 ls []) := by
          intro q
          induction q with
          | zero =>
            intro k c1 fB nB H locs ls hk hB hP hD hS hl heq
            refine lv_iload hx hb d_M_tell_60 (lv_at hl 0 rfl) ?_
            refine lv_iload_n hx hb d_M_tell_62 rfl (lv_at hl 4 rfl) ?_
            refine lv_icmp_ge (tgt := 100) hx hb d_M_tell_63 (by decide) (fun c63 => ?_) (fun c63 => absurd (nI_le (by omega) (by omega)) c63)
            have c63 : nT ≤ k := (nI_leI (by omega) (by omega)).mp c63
            refine lv_iload_n hx hb d_M_tell_100 rfl (lv_at hl 3 rfl) ?_
            refine lv_iconst (v := 2) hx hb d_M_tell_101 (by decide +kernel) ?_
            refine lv_icmp_ne (tgt := 132) hx hb d_M_tell_102 (by decide) (fun _ => ?_) (fun c102 => absurd c102 (by decide))
            refine lv_aload_n hx hb d_M_tell_132 rfl (lv_at hl 2 rfl) ?_
            refine lv_iload_n hx hb d_M_tell_133 rfl (lv_at hl 3 rfl) ?_
            refine lv_if_ne (tgt := 141) hx hb d_M_tell_134 (by decide) (fun _ => ?_) (fun c134 => absurd c134 (by decide))
            refine lv_iload_n hx hb d_M_tell_141 rfl (lv_at hl 3 rfl) ?_
            refine lv_iconst (v := 1) hx hb d_M_tell_142 (by decide +kernel) ?_
            refine lv_icmp_ne (tgt := 152) hx hb d_M_tell_143 (by decide) (fun c143 => absurd (by decide) c143) (fun _ => ?_)
            refine lv_sipush (v := 192) hx hb d_M_tell_146 (by decide +kernel) ?_
            refine lv_goto (tgt := 154) hx hb d_M_tell_149 (by decide) ?_
            refine ft_cv (wc := [(o, .inr (5, [.int 0, .ref mt, .int (nI 0), .int lim, .ref mo, .int (nI nO), .ref mf, .int (nI nB), .ref mc, .ref mm, .ref mk, .ref mb, .int lf, .int fl, .ref mu, .int f1, .int f2, .int ck, .ref ml, .ref mg, .ref mx])), (mf, .inl (cI, 900, .inl fB))]) (wr := [(mt, .inl (cI, 400, .inl fT)), (mo, .inl (cI, 2000, .inl fO))]) (va_runV (As := [.int 192]) (rest := []) ⟨hx, hb, hml, hown, ht⟩ (c_M_say l D cI cB o mt mo mf mc mm mk mb mu ml mg mx 0 lim lf fl f1 f2 ck 0 nO nB fB (by omega) 192 H.size) (ft_cwV 1 ht bw_503 bw_505 bw_21 bw_39 bw_506 (by decide) ⟨Nat.le_of_ble_eq_true rfl, Nat.le_of_ble_eq_true rfl⟩) ⟨ft_blind, va_recv hK hP (ci := 5) (q0 := 0) rfl rfl, (ft_pre hP hD hK hNW [0, 3] [0, 1] rfl rfl (by decide) rfl _)⟩ rfl rfl hl.1 rfl (lv_room (Nat.le_of_ble_eq_true rfl)) d_M_tell_154 ⟨Nat.le_of_ble_eq_true rfl, Nat.le_of_ble_eq_true rfl⟩) hP hD hS hA [0, 3] [1, 2] rfl rfl (by decide) (by decide) (fun u_15 H locs hu_15 hP hD hS => ?_)
            obtain ⟨fFs13, nFs13⟩ := u_15
            have e_ns13 : nFs13 = nB + 1 := congrArg Prod.snd hu_15
            have hP : va_P D vwCl [(mt, .inl (cI, 400, .inl fT)), (mo, .inl (cI, 2000, .inl fO)), (o, .inr (5, [.int 0, .ref mt, .int (nI 0), .int lim, .ref mo, .int (nI nO), .ref mf, .int (nI nFs13), .ref mc, .ref mm, .ref mk, .ref mb, .int lf, .int fl, .ref mu, .int f1, .int f2, .int ck, .ref ml, .ref mg, .ref mx])), (mf, .inl (cI, 900, .inl fFs13))] H := hP
            have hD : va_D A [(mt, .inl (cI, 400, .inl fT)), (mo, .inl (cI, 2000, .inl fO)), (o, .inr (5, [.int 0, .ref mt, .int (nI 0), .int lim, .ref mo, .int (nI nO), .ref mf, .int (nI nFs13), .ref mc, .ref mm, .ref mk, .ref mb, .int lf, .int fl, .ref mu, .int f1, .int f2, .int ck, .ref ml, .ref mg, .ref mx])), (mf, .inl (cI, 900, .inl fFs13))] := hD
            have eF : (fFs13, nFs13) = asays (fF, 0) (e1 fT nT 0) := by rw [hu_15]; exact heq
            refine lv_aload_n hx hb d_M_tell_157 rfl (lv_at hl 2 rfl) ?_
            refine va_get (D := D) (ci := 5) (v := .int (nI nO)) (C := R_M) (T := F_M) (N := 21) hx hb ht bi_M hown hK hP 2 rfl rfl 5 (by decide) (ht _ bw_412) (fun _ h9 => h9) rfl d_M_tell_158 ?_
            refine lv_aload_n hx hb d_M_tell_161 rfl (lv_at hl 2 rfl) ?_
            refine va_get (D := D) (ci := 5) (v := .int (nI nFs13)) (C := R_M) (T := F_M) (N := 21) hx hb ht bi_M hown hK hP 2 rfl rfl 7 (by decide) (ht _ bw_414) (fun _ h9 => h9) rfl d_M_tell_162 ?_
            refine lv_iadd hx hb d_M_tell_165 ?_
            refine ft_top (nI_add nO nFs13) ?_
            refine lv_sipush (v := nI 2000) hx hb d_M_tell_166 (by decide +kernel) ?_
            refine lv_icmp_le (tgt := 174) hx hb d_M_tell_169 (by decide) (fun c169 => ?_) (fun c169 => ?_)
            · skip
              have c169 : nO + nFs13 ≤ 2000 := (nI_leI (by omega) (by omega)).mp c169
              refine lv_iconst (v := nI 0) hx hb d_M_tell_174 (by decide +kernel) ?_
              refine lv_istore (lv' := [(4, .int (nI 0)), (3, .int c1), (0, .ref o), (1, .int (nI 1)), (2, .int (nI nT))]) hx hb d_M_tell_175 hl (by decide) rfl (fun ls hl => ?_)
              have cp : ∀ (q : Nat) (k : Nat) (gO : Nat → Int32) (H : Heap) (locs : List Loc) (ls : Array Slot), k + q = nFs13 → va_P D vwCl [(mt, .inl (cI, 400, .inl fT)), (mo, .inl (cI, 2000, .inl gO)), (o, .inr (5, [.int 0, .ref mt, .int (nI 0), .int lim, .ref mo, .int (nI nO), .ref mf, .int (nI nFs13), .ref mc, .ref mm, .ref mk, .ref mb, .int lf, .int fl, .ref mu, .int f1, .int f2, .int ck, .ref ml, .ref mg, .ref mx])), (mf, .inl (cI, 900, .inl fFs13))] H → va_D A [(mt, .inl (cI, 400, .inl fT)), (mo, .inl (cI, 2000, .inl gO)), (o, .inr (5, [.int 0, .ref mt, .int (nI 0), .int lim, .ref mo, .int (nI nO), .ref mf, .int (nI nFs13), .ref mc, .ref mm, .ref mk, .ref mb, .int lf, .int fl, .ref mu, .int f1, .int f2, .int ck, .ref ml, .ref mg, .ref mx])), (mf, .inl (cI, 900, .inl fFs13))] → va_S A s.heap H locs → lv_has ls 5 [(4, .int (nI k)), (3, .int c1), (0, .ref o), (1, .int (nI 1)), (2, .int (nI nT))] → (∀ i, i < nO → gO i = fO i) → (∀ j, j < k → gO (nO + j) = fFs13 j) → W p l e ({ frames := 2, cells := 0, slots := 0, locals := 60 } : Room) s m ([.ref o, .int 1] : List Value).toArray below meth c H locs 0 0 (MQ below (va_Qi (fun (v : Int32) (u : (Nat → Int32) × Nat × (Nat → Int32) × Nat) => tellR fT nT lim 1 fO nO v u.1 u.2.1) (ft_B D vwCl [(cI, .int), (cB, .boolean)] A (fun u : (Nat → Int32) × Nat × (Nat → Int32) × Nat => [(o, .inr (5, [.int 0, .ref mt, .int (nI 0), .int lim, .ref mo, .int (nI u.2.1), .ref mf, .int (nI u.2.2.2), .ref mc, .ref mm, .ref mk, .ref mb, .int lf, .int fl, .ref mu, .int f1, .int f2, .int ck, .ref ml, .ref mg, .ref mx])), (mt, .inl (cI, 400, .inl fT)), (mo, .inl (cI, 2000, .inl u.1)), (mf, .inl (cI, 900, .inl u.2.2.1))])) A) ([.ref o, .int 1] : List Value).toArray s 0 0 A) (F0 m 177 ls []) := by
                intro q
                induction q with
                | zero =>
                  intro k gO H locs ls hk hP hD hS hl g1 g2
                  refine lv_iload hx hb d_M_tell_177 (lv_at hl 0 rfl) ?_
                  refine lv_aload_n hx hb d_M_tell_179 rfl (lv_at hl 2 rfl) ?_
                  refine va_get (D := D) (ci := 5) (v := .int (nI nFs13)) (C := R_M) (T := F_M) (N := 21) hx hb ht bi_M hown hK hP 2 rfl rfl 7 (by decide) (ht _ bw_414) (fun _ h9 => h9) rfl d_M_tell_180 ?_
                  refine lv_icmp_ge (tgt := 211) hx hb d_M_tell_183 (by decide) (fun c183 => ?_) (fun c183 => absurd (nI_le (by omega) (by omega)) c183)
                  have c183 : nFs13 ≤ k := (nI_leI (by omega) (by omega)).mp c183
                  refine lv_aload_n hx hb d_M_tell_211 rfl (lv_at hl 2 rfl) ?_
                  refine lv_dup hx hb d_M_tell_212 rfl ?_
                  refine va_get (D := D) (ci := 5) (v := .int (nI nO)) (C := R_M) (T := F_M) (N := 21) hx hb ht bi_M hown hK hP 2 rfl rfl 5 (by decide) (ht _ bw_412) (fun _ h9 => h9) rfl d_M_tell_213 ?_
                  refine lv_aload_n hx hb d_M_tell_216 rfl (lv_at hl 2 rfl) ?_
                  refine va_get (D := D) (ci := 5) (v := .int (nI nFs13)) (C := R_M) (T := F_M) (N := 21) hx hb ht bi_M hown hK hP 2 rfl rfl 7 (by decide) (ht _ bw_414) (fun _ h9 => h9) rfl d_M_tell_217 ?_
                  refine lv_iadd hx hb d_M_tell_220 ?_
                  refine ft_top (nI_add nO nFs13) ?_
                  refine va_put (D := D) (ci := 5) (v := .int (nI (nO + nFs13))) (ty := .int) (C := R_M) (T := F_M) (N := 21) hx hb ht bi_M t_M t_M_ok n_M hown hK hP hD hS 2 rfl rfl 5 (by decide) (ht _ bw_412) (fun _ h9 => h9) rfl (by decide +kernel) rfl rfl (Nat.le_of_ble_eq_true rfl) d_M_tell_221 (fun H locs hP hD hS => ?_)
                  have hP : va_P D vwCl [(mt, .inl (cI, 400, .inl fT)), (mo, .inl (cI, 2000, .inl gO)), (o, .inr (5, [.int 0, .ref mt, .int (nI 0), .int lim, .ref mo, .int (nI (nO + nFs13)), .ref mf, .int (nI nFs13), .ref mc, .ref mm, .ref mk, .ref mb, .int lf, .int fl, .ref mu, .int f1, .int f2, .int ck, .ref ml, .ref mg, .ref mx])), (mf, .inl (cI, 900, .inl fFs13))] H := hP
                  have hD : va_D A [(mt, .inl (cI, 400, .inl fT)), (mo, .inl (cI, 2000, .inl gO)), (o, .inr (5, [.int 0, .ref mt, .int (nI 0), .int lim, .ref mo, .int (nI (nO + nFs13)), .ref mf, .int (nI nFs13), .ref mc, .ref mm, .ref mk, .ref mb, .int lf, .int fl, .ref mu, .int f1, .int f2, .int ck, .ref ml, .ref mg, .ref mx])), (mf, .inl (cI, 900, .inl fFs13))] := hD
                  refine lv_aload_n hx hb d_M_tell_224 rfl (lv_at hl 2 rfl) ?_
                  refine va_get (D := D) (ci := 5) (v := .int (nI (nO + nFs13))) (C := R_M) (T := F_M) (N := 21) hx hb ht bi_M hown hK hP 2 rfl rfl 5 (by decide) (ht _ bw_412) (fun _ h9 => h9) rfl d_M_tell_225 ?_
                  exact ft_reti (gO, nO + nFs13, fFs13, nFs13) hx hb hr hlocks (hP.sub [2, 0, 1, 3] rfl) hK (hD.sub [2, 0, 1, 3] (by decide) rfl) hS (tell_k (encM_1 fT nT) eF (Or.inr (Or.inl rfl)) c27 (Or.inr c35) c169 g1 (fun j h => g2 j (by omega))) d_M_tell_228
                | succ q ih_cp =>
                  intro k gO H locs ls hk hP hD hS hl g1 g2
                  refine lv_iload hx hb d_M_tell_177 (lv_at hl 0 rfl) ?_
                  refine lv_aload_n hx hb d_M_tell_179 rfl (lv_at hl 2 rfl) ?_
                  refine va_get (D := D) (ci := 5) (v := .int (nI nFs13)) (C := R_M) (T := F_M) (N := 21) hx hb ht bi_M hown hK hP 2 rfl rfl 7 (by decide) (ht _ bw_414) (fun _ h9 => h9) rfl d_M_tell_180 ?_
                  refine lv_icmp_ge (tgt := 211) hx hb d_M_tell_183 (by decide) (fun c183 => absurd c183 (nI_ge (by omega) (by omega))) (fun c183 => ?_)
                  have c183 : ¬ nFs13 ≤ k := fun h => c183 ((nI_leI (by omega) (by omega)).mpr h)
                  refine lv_aload_n hx hb d_M_tell_186 rfl (lv_at hl 2 rfl) ?_
                  refine va_get (D := D) (ci := 5) (v := .ref mo) (C := R_M) (T := F_M) (N := 21) hx hb ht bi_M hown hK hP 2 rfl rfl 4 (by decide) (ht _ bw_411) (fun _ h9 => h9) rfl d_M_tell_187 ?_
                  refine lv_aload_n hx hb d_M_tell_190 rfl (lv_at hl 2 rfl) ?_
                  refine va_get (D := D) (ci := 5) (v := .int (nI nO)) (C := R_M) (T := F_M) (N := 21) hx hb ht bi_M hown hK hP 2 rfl rfl 5 (by decide) (ht _ bw_412) (fun _ h9 => h9) rfl d_M_tell_191 ?_
                  refine lv_iload hx hb d_M_tell_194 (lv_at hl 0 rfl) ?_
                  refine lv_iadd hx hb d_M_tell_196 ?_
                  refine ft_top (nI_add nO k) ?_
                  refine lv_aload_n hx hb d_M_tell_197 rfl (lv_at hl 2 rfl) ?_
                  refine va_get (D := D) (ci := 5) (v := .ref mf) (C := R_M) (T := F_M) (N := 21) hx hb ht bi_M hown hK hP 2 rfl rfl 6 (by decide) (ht _ bw_413) (fun _ h9 => h9) rfl d_M_tell_198 ?_
                  refine lv_iload hx hb d_M_tell_201 (lv_at hl 0 rfl) ?_
                  refine va_iald hx hb hK hP 3 0 rfl rfl (vp_in_nI (by omega) (by omega)) d_M_tell_203 ?_
                  refine ft_top (congrArg fFs13 (nI_clamp (n := k) (by omega))) ?_
                  refine va_iast hx hb hK hP hD hS 1 0 rfl rfl (vp_in_nI (by omega) (by omega)) d_M_tell_204 (fun H locs hP hD hS => ?_)
                  rw [nI_clamp (n := nO + k) (by omega)] at hP hD
                  obtain ⟨gO_16, egO_16⟩ : ∃ g : Nat → Int32, g = upd gO (nO + k) (fFs13 k) := ⟨_, rfl⟩
                  rw [← egO_16] at hP hD
                  have hP : va_P D vwCl [(mt, .inl (cI, 400, .inl fT)), (mo, .inl (cI, 2000, .inl gO_16)), (o, .inr (5, [.int 0, .ref mt, .int (nI 0), .int lim, .ref mo, .int (nI nO), .ref mf, .int (nI nFs13), .ref mc, .ref mm, .ref mk, .ref mb, .int lf, .int fl, .ref mu, .int f1, .int f2, .int ck, .ref ml, .ref mg, .ref mx])), (mf, .inl (cI, 900, .inl fFs13))] H := hP
                  have hD : va_D A [(mt, .inl (cI, 400, .inl fT)), (mo, .inl (cI, 2000, .inl gO_16)), (o, .inr (5, [.int 0, .ref mt, .int (nI 0), .int lim, .ref mo, .int (nI nO), .ref mf, .int (nI nFs13), .ref mc, .ref mm, .ref mk, .ref mb, .int lf, .int fl, .ref mu, .int f1, .int f2, .int ck, .ref ml, .ref mg, .ref mx])), (mf, .inl (cI, 900, .inl fFs13))] := hD
                  refine lv_iinc (v := nI (k + 1)) (lv' := [(4, .int (nI (k + 1))), (3, .int c1), (0, .ref o), (1, .int (nI 1)), (2, .int (nI nT))]) hx hb d_M_tell_205 hl (k := 0) rfl (nI_1 k) (by decide) rfl (fun ls hl => ?_)
                  refine lv_goto (tgt := 177) hx hb d_M_tell_208 (by decide) ?_
                  exact ih_cp (k + 1) gO_16 H locs ls (by omega) (hP.sub [0, 1, 2, 3] rfl) (hD.sub [0, 1, 2, 3] (by decide) rfl) hS (lv_sub hl [0, 1, 2, 3, 4] rfl) (fun i h => by rw [egO_16, pk_un (by omega)]; exact g1 i h) (fun j h => by rw [egO_16]; rcases Nat.lt_or_ge j k with z | z; rw [pk_un (by omega)]; exact g2 j z; rw [show j = k from by omega]; exact pk_us)
              exact cp nFs13 0 fO H locs ls (by omega) (hP.sub [0, 1, 2, 3] rfl) (hD.sub [0, 1, 2, 3] (by decide) rfl) hS (lv_sub hl [0, 1, 2, 3, 4] rfl) (fun _ _ => rfl) (fun j h => absurd h (Nat.not_lt_zero j))
            · skip
              have c169 : ¬ nO + nFs13 ≤ 2000 := fun h => c169 ((nI_leI (by omega) (by omega)).mpr h)
              refine lv_iconst (v := (-1)) hx hb d_M_tell_172 (by decide +kernel) ?_
              exact ft_reti (fO, nO, fFs13, nFs13) hx hb hr hlocks (hP.sub [2, 0, 1, 3] rfl) hK (hD.sub [2, 0, 1, 3] (by decide) rfl) hS (tell_x (encM_1 fT nT) eF c169) d_M_tell_173
          | succ q ih_lp =>
            intro k c1 fB nB H locs ls hk hB hP hD hS hl heq
            refine lv_iload hx hb d_M_tell_60 (lv_at hl 0 rfl) ?_
            refine lv_iload_n hx hb d_M_tell_62 rfl (lv_at hl 4 rfl) ?_
            refine lv_icmp_ge (tgt := 100) hx hb d_M_tell_63 (by decide) (fun c63 => absurd c63 (nI_ge (by omega) (by omega))) (fun c63 => ?_)
            have c63 : ¬ nT ≤ k := fun h => c63 ((nI_leI (by omega) (by omega)).mpr h)
            refine lv_iload_n hx hb d_M_tell_66 rfl (lv_at hl 3 rfl) ?_
            refine lv_if_le (tgt := 100) hx hb d_M_tell_67 (by decide) (fun c67 => absurd c67 (by decide)) (fun _ => ?_)
            refine lv_aload_n hx hb d_M_tell_70 rfl (lv_at hl 2 rfl) ?_
            refine lv_iload_n hx hb d_M_tell_71 rfl (lv_at hl 3 rfl) ?_
            refine lv_aload_n hx hb d_M_tell_72 rfl (lv_at hl 2 rfl) ?_
            refine va_get (D := D) (ci := 5) (v := .ref mt) (C := R_M) (T := F_M) (N := 21) hx hb ht bi_M hown hK hP 0 rfl rfl 1 (by decide) (ht _ bw_408) (fun _ h9 => h9) rfl d_M_tell_73 ?_
            refine lv_iload hx hb d_M_tell_76 (lv_at hl 0 rfl) ?_
            refine va_iald hx hb hK hP 1 0 rfl rfl (vp_in_nI (by omega) (by omega)) d_M_tell_78 ?_
            refine ft_top (congrArg fT (nI_clamp (n := k) (by omega))) ?_
            refine ft_cv (wc := [(o, .inr (5, [.int 0, .ref mt, .int (nI 0), .int lim, .ref mo, .int (nI nO), .ref mf, .int (nI nB), .ref mc, .ref mm, .ref mk, .ref mb, .int lf, .int fl, .ref mu, .int f1, .int f2, .int ck, .ref ml, .ref mg, .ref mx])), (mf, .inl (cI, 900, .inl fB))]) (wr := [(mt, .inl (cI, 400, .inl fT)), (mo, .inl (cI, 2000, .inl fO))]) (va_runV (As := [.int (nI 1), .int (fT k)]) (rest := []) ⟨hx, hb, hml, hown, ht⟩ (c_M_sayTurned_1 l D cI cB o mt mo mf mc mm mk mb mu ml mg mx 0 lim lf fl f1 f2 ck 0 nO nB fB (by omega) (fT k) H.size) (ft_cwV 2 ht bw_508 bw_510 bw_22 bw_39 bw_511 (by decide) ⟨Nat.le_of_ble_eq_true rfl, Nat.le_of_ble_eq_true rfl⟩) ⟨ft_blind, va_recv hK hP (ci := 5) (q0 := 0) rfl rfl, (ft_pre hP hD hK hNW [0, 3] [0, 1] rfl rfl (by decide) rfl _)⟩ rfl rfl hl.1 rfl (lv_room (Nat.le_of_ble_eq_true rfl)) d_M_tell_79 ⟨Nat.le_of_ble_eq_true rfl, Nat.le_of_ble_eq_true rfl⟩) hP hD hS hA [0, 3] [1, 2] rfl rfl (by decide) (by decide) (fun u_19 H locs hu_19 hP hD hS => ?_)
            obtain ⟨fFt17, nFt17⟩ := u_19
            have e_nt17 : nFt17 ≤ nB + 2 := by have q := congrArg Prod.snd hu_19; rw [asays_n] at q; have q2 := wb1_len (fT k); have q3 : nFt17 = nB + _ := q; omega
            have hP : va_P D vwCl [(mt, .inl (cI, 400, .inl fT)), (mo, .inl (cI, 2000, .inl fO)), (o, .inr (5, [.int 0, .ref mt, .int (nI 0), .int lim, .ref mo, .int (nI nO), .ref mf, .int (nI nFt17), .ref mc, .ref mm, .ref mk, .ref mb, .int lf, .int fl, .ref mu, .int f1, .int f2, .int ck, .ref ml, .ref mg, .ref mx])), (mf, .inl (cI, 900, .inl fFt17))] H := hP
            have hD : va_D A [(mt, .inl (cI, 400, .inl fT)), (mo, .inl (cI, 2000, .inl fO)), (o, .inr (5, [.int 0, .ref mt, .int (nI 0), .int lim, .ref mo, .int (nI nO), .ref mf, .int (nI nFt17), .ref mc, .ref mm, .ref mk, .ref mb, .int lf, .int fl, .ref mu, .int f1, .int f2, .int ck, .ref ml, .ref mg, .ref mx])), (mf, .inl (cI, 900, .inl fFt17))] := hD
            refine lv_iload_n hx hb d_M_tell_82 rfl (lv_at hl 1 rfl) ?_
            refine lv_aload_n hx hb d_M_tell_83 rfl (lv_at hl 2 rfl) ?_
            refine va_get (D := D) (ci := 5) (v := .ref mt) (C := R_M) (T := F_M) (N := 21) hx hb ht bi_M hown hK hP 2 rfl rfl 1 (by decide) (ht _ bw_408) (fun _ h9 => h9) rfl d_M_tell_84 ?_
            refine lv_iload hx hb d_M_tell_87 (lv_at hl 0 rfl) ?_
            refine va_iald hx hb hK hP 0 0 rfl rfl (vp_in_nI (by omega) (by omega)) d_M_tell_89 ?_
            refine ft_top (congrArg fT (nI_clamp (n := k) (by omega))) ?_
            refine ft_ci (wc := []) (wr := [(mt, .inl (cI, 400, .inl fT)), (mo, .inl (cI, 2000, .inl fO)), (o, .inr (5, [.int 0, .ref mt, .int (nI 0), .int lim, .ref mo, .int (nI nO), .ref mf, .int (nI nFt17), .ref mc, .ref mm, .ref mk, .ref mb, .int lf, .int fl, .ref mu, .int f1, .int f2, .int ck, .ref ml, .ref mg, .ref mx])), (mf, .inl (cI, 900, .inl fFt17))]) (va_runS (As := [.int c1, .int (fT k)]) (rest := []) ⟨hx, hb, hml, hown, ht⟩ (c_M_checked l D cI cB c1 (fT k) H.size) (ft_cwS 2 ht bw_512 bw_513 bw_39 bw_514 (by decide) ⟨Nat.le_of_ble_eq_true rfl, Nat.le_of_ble_eq_true rfl⟩) ⟨ft_blind, (ft_pre hP hD hK hNW [] [0, 1] rfl rfl (by decide) rfl _)⟩ rfl rfl hl.1 rfl (lv_room (Nat.le_of_ble_eq_true rfl)) d_M_tell_90 ⟨Nat.le_of_ble_eq_true rfl, Nat.le_of_ble_eq_true rfl⟩) hP hD hS hA [] [0, 1, 2, 3] rfl rfl (by decide) (by decide) (fun r_20 u_21 H locs hu_21 hP hD hS => ?_)
            subst hu_21
            have hP : va_P D vwCl [(mt, .inl (cI, 400, .inl fT)), (mo, .inl (cI, 2000, .inl fO)), (o, .inr (5, [.int 0, .ref mt, .int (nI 0), .int lim, .ref mo, .int (nI nO), .ref mf, .int (nI nFt17), .ref mc, .ref mm, .ref mk, .ref mb, .int lf, .int fl, .ref mu, .int f1, .int f2, .int ck, .ref ml, .ref mg, .ref mx])), (mf, .inl (cI, 900, .inl fFt17))] H := hP
            have hD : va_D A [(mt, .inl (cI, 400, .inl fT)), (mo, .inl (cI, 2000, .inl fO)), (o, .inr (5, [.int 0, .ref mt, .int (nI 0), .int lim, .ref mo, .int (nI nO), .ref mf, .int (nI nFt17), .ref mc, .ref mm, .ref mk, .ref mb, .int lf, .int fl, .ref mu, .int f1, .int f2, .int ck, .ref ml, .ref mg, .ref mx])), (mf, .inl (cI, 900, .inl fFt17))] := hD
            refine lv_istore_n (lv' := [(3, .int (chkB c1 (fT k))), (4, .int (nI k)), (0, .ref o), (1, .int (nI 1)), (2, .int (nI nT))]) hx hb d_M_tell_93 rfl hl (by decide) rfl (fun ls hl => ?_)
            refine lv_iinc (v := nI (k + 1)) (lv' := [(4, .int (nI (k + 1))), (3, .int (chkB c1 (fT k))), (0, .ref o), (1, .int (nI 1)), (2, .int (nI nT))]) hx hb d_M_tell_94 hl (k := 1) rfl (nI_1 k) (by decide) rfl (fun ls hl => ?_)
            refine lv_goto (tgt := 60) hx hb d_M_tell_97 (by decide) ?_
            exact ih_lp (k + 1) (chkB c1 (fT k)) fFt17 nFt17 H locs ls (by omega) (by omega) (hP.sub [2, 0, 1, 3] rfl) (hD.sub [2, 0, 1, 3] (by decide) rfl) hS (lv_sub hl [0, 1, 2, 3, 4] rfl) (by rw [hu_19, ← asays_app]; exact heq)
        exact lp nT 0 65535 fF 0 H locs ls (by omega) (by omega) (hP.sub [0, 1, 2, 3] rfl) (hD.sub [0, 1, 2, 3] (by decide) rfl) hS (lv_sub hl [0, 1, 3, 4, 2] rfl) rfl
      · skip
        have c35 : nT = 0 := (nI_eq (b := 0) (by omega) (by omega)).mp c35
        refine lv_iconst (v := (-1)) hx hb d_M_tell_38 (by decide +kernel) ?_
        exact ft_reti (fO, nO, fF, nF) hx hb hr hlocks hP hK hD hS (tell_z (by decide) c35) d_M_tell_39
  · skip
    have hl : lv_has ls 5 [(2, .int (nI nT)), (0, .ref o), (1, .int (nI 2))] := hl
    have hP : va_P D vwCl [(o, .inr (5, [.int 0, .ref mt, .int (nI 0), .int lim, .ref mo, .int (nI nO), .ref mf, .int (nI nF), .ref mc, .ref mm, .ref mk, .ref mb, .int lf, .int fl, .ref mu, .int f1, .int f2, .int ck, .ref ml, .ref mg, .ref mx])), (mt, .inl (cI, 400, .inl fT)), (mo, .inl (cI, 2000, .inl fO)), (mf, .inl (cI, 900, .inl fF))] H := hP
    have hD : va_D A [(o, .inr (5, [.int 0, .ref mt, .int (nI 0), .int lim, .ref mo, .int (nI nO), .ref mf, .int (nI nF), .ref mc, .ref mm, .ref mk, .ref mb, .int lf, .int fl, .ref mu, .int f1, .int f2, .int ck, .ref ml, .ref mg, .ref mx])), (mt, .inl (cI, 400, .inl fT)), (mo, .inl (cI, 2000, .inl fO)), (mf, .inl (cI, 900, .inl fF))] := hD
    refine lv_if_eq (tgt := 38) hx hb d_M_tell_19 (by decide) (fun c19 => absurd c19 (by decide)) (fun _ => ?_)
    refine lv_iload_n hx hb d_M_tell_22 rfl (lv_at hl 0 rfl) ?_
    refine lv_aload_n hx hb d_M_tell_23 rfl (lv_at hl 1 rfl) ?_
    refine va_get (D := D) (ci := 5) (v := .int lim) (C := R_M) (T := F_M) (N := 21) hx hb ht bi_M hown hK hP 0 rfl rfl 3 (by decide) (ht _ bw_410) (fun _ h9 => h9) rfl d_M_tell_24 ?_
    refine lv_icmp_gt (tgt := 38) hx hb d_M_tell_27 (by decide) (fun c27 => ?_) (fun c27 => ?_)
    · skip
      refine lv_iconst (v := (-1)) hx hb d_M_tell_38 (by decide +kernel) ?_
      exact ft_reti (fO, nO, fF, nF) hx hb hr hlocks hP hK hD hS (tell_l c27) d_M_tell_39
    · skip
      refine lv_iload_n hx hb d_M_tell_30 rfl (lv_at hl 2 rfl) ?_
      refine lv_if_le (tgt := 40) hx hb d_M_tell_31 (by decide) (fun c31 => absurd c31 (by decide)) (fun _ => ?_)
      refine lv_iload_n hx hb d_M_tell_34 rfl (lv_at hl 0 rfl) ?_
      refine lv_if_ne (tgt := 40) hx hb d_M_tell_35 (by decide) (fun c35 => ?_) (fun c35 => ?_)
      · skip
        have c35 : ¬ nT = 0 := fun h => c35 ((nI_eq (b := 0) (by omega) (by omega)).mpr h)
        refine lv_aload_n hx hb d_M_tell_40 rfl (lv_at hl 1 rfl) ?_
        refine lv_iconst (v := nI 0) hx hb d_M_tell_41 (by decide +kernel) ?_
        refine va_put (D := D) (ci := 5) (v := .int (nI 0)) (ty := .int) (C := R_M) (T := F_M) (N := 21) hx hb ht bi_M t_M t_M_ok n_M hown hK hP hD hS 0 rfl rfl 7 (by decide) (ht _ bw_414) (fun _ h9 => h9) rfl (by decide +kernel) rfl rfl (Nat.le_of_ble_eq_true rfl) d_M_tell_42 (fun H locs hP hD hS => ?_)
        have hP : va_P D vwCl [(o, .inr (5, [.int 0, .ref mt, .int (nI 0), .int lim, .ref mo, .int (nI nO), .ref mf, .int (nI 0), .ref mc, .ref mm, .ref mk, .ref mb, .int lf, .int fl, .ref mu, .int f1, .int f2, .int ck, .ref ml, .ref mg, .ref mx])), (mt, .inl (cI, 400, .inl fT)), (mo, .inl (cI, 2000, .inl fO)), (mf, .inl (cI, 900, .inl fF))] H := hP
        have hD : va_D A [(o, .inr (5, [.int 0, .ref mt, .int (nI 0), .int lim, .ref mo, .int (nI nO), .ref mf, .int (nI 0), .ref mc, .ref mm, .ref mk, .ref mb, .int lf, .int fl, .ref mu, .int f1, .int f2, .int ck, .ref ml, .ref mg, .ref mx])), (mt, .inl (cI, 400, .inl fT)), (mo, .inl (cI, 2000, .inl fO)), (mf, .inl (cI, 900, .inl fF))] := hD
        refine lv_iload_n hx hb d_M_tell_45 rfl (lv_at hl 2 rfl) ?_
        refine lv_if_ne (tgt := 54) hx hb d_M_tell_46 (by decide) (fun _ => ?_) (fun c46 => absurd c46 (by decide))
        refine lv_ldc hx hb hown (ht _ bw_507) d_M_tell_54 ?_
        refine lv_istore_n (lv' := [(3, .int 65535), (2, .int (nI nT)), (0, .ref o), (1, .int (nI 2))]) hx hb d_M_tell_56 rfl hl (by decide) rfl (fun ls hl => ?_)
        refine lv_iconst (v := nI 0) hx hb d_M_tell_57 (by decide +kernel) ?_
        refine lv_istore (lv' := [(4, .int (nI 0)), (3, .int 65535), (2, .int (nI nT)), (0, .ref o), (1, .int (nI 2))]) hx hb d_M_tell_58 hl (by decide) rfl (fun ls hl => ?_)
        have lp : ∀ (q : Nat) (k : Nat) (c1 : Int32) (fB : Nat → Int32) (nB : Nat) (H : Heap) (locs : List Loc) (ls : Array Slot), k + q = nT → nB ≤ 2 * k → va_P D vwCl [(o, .inr (5, [.int 0, .ref mt, .int (nI 0), .int lim, .ref mo, .int (nI nO), .ref mf, .int (nI nB), .ref mc, .ref mm, .ref mk, .ref mb, .int lf, .int fl, .ref mu, .int f1, .int f2, .int ck, .ref ml, .ref mg, .ref mx])), (mt, .inl (cI, 400, .inl fT)), (mo, .inl (cI, 2000, .inl fO)), (mf, .inl (cI, 900, .inl fB))] H → va_D A [(o, .inr (5, [.int 0, .ref mt, .int (nI 0), .int lim, .ref mo, .int (nI nO), .ref mf, .int (nI nB), .ref mc, .ref mm, .ref mk, .ref mb, .int lf, .int fl, .ref mu, .int f1, .int f2, .int ck, .ref ml, .ref mg, .ref mx])), (mt, .inl (cI, 400, .inl fT)), (mo, .inl (cI, 2000, .inl fO)), (mf, .inl (cI, 900, .inl fB))] → va_S A s.heap H locs → lv_has ls 5 [(4, .int (nI k)), (3, .int c1), (0, .ref o), (1, .int (nI 2)), (2, .int (nI nT))] → asays (fB, nB) (e2M fT q k c1) = asays (fF, 0) (e2M fT nT 0 65535) → W p l e ({ frames := 2, cells := 0, slots := 0, locals := 60 } : Room) s m ([.ref o, .int 2] : List Value).toArray below meth c H locs 0 0 (MQ below (va_Qi (fun (v : Int32) (u : (Nat → Int32) × Nat × (Nat → Int32) × Nat) => tellR fT nT lim 2 fO nO v u.1 u.2.1) (ft_B D vwCl [(cI, .int), (cB, .boolean)] A (fun u : (Nat → Int32) × Nat × (Nat → Int32) × Nat => [(o, .inr (5, [.int 0, .ref mt, .int (nI 0), .int lim, .ref mo, .int (nI u.2.1), .ref mf, .int (nI u.2.2.2), .ref mc, .ref mm, .ref mk, .ref mb, .int lf, .int fl, .ref mu, .int f1, .int f2, .int ck, .ref ml, .ref mg, .ref mx])), (mt, .inl (cI, 400, .inl fT)), (mo, .inl (cI, 2000, .inl u.1)), (mf, .inl (cI, 900, .inl u.2.2.1))])) A) ([.ref o, .int 2] : List Value).toArray s 0 0 A) (F0 m 60 ls []) := by
          intro q
          induction q with
          | zero =>
            intro k c1 fB nB H locs ls hk hB hP hD hS hl heq
            refine lv_iload hx hb d_M_tell_60 (lv_at hl 0 rfl) ?_
            refine lv_iload_n hx hb d_M_tell_62 rfl (lv_at hl 4 rfl) ?_
            refine lv_icmp_ge (tgt := 100) hx hb d_M_tell_63 (by decide) (fun c63 => ?_) (fun c63 => absurd (nI_le (by omega) (by omega)) c63)
            have c63 : nT ≤ k := (nI_leI (by omega) (by omega)).mp c63
            refine lv_iload_n hx hb d_M_tell_100 rfl (lv_at hl 3 rfl) ?_
            refine lv_iconst (v := 2) hx hb d_M_tell_101 (by decide +kernel) ?_
            refine lv_icmp_ne (tgt := 132) hx hb d_M_tell_102 (by decide) (fun c102 => absurd (by decide) c102) (fun _ => ?_)
            refine lv_aload_n hx hb d_M_tell_105 rfl (lv_at hl 2 rfl) ?_
            refine lv_iconst (v := 2) hx hb d_M_tell_106 (by decide +kernel) ?_
            refine lv_iload_n hx hb d_M_tell_107 rfl (lv_at hl 1 rfl) ?_
            refine lv_iconst (v := (-1)) hx hb d_M_tell_108 (by decide +kernel) ?_
            refine lv_ixor hx hb d_M_tell_109 ?_
            refine lv_sipush (v := 255) hx hb d_M_tell_110 (by decide +kernel) ?_
            refine lv_iand hx hb d_M_tell_113 ?_
            refine ft_cv (wc := [(o, .inr (5, [.int 0, .ref mt, .int (nI 0), .int lim, .ref mo, .int (nI nO), .ref mf, .int (nI nB), .ref mc, .ref mm, .ref mk, .ref mb, .int lf, .int fl, .ref mu, .int f1, .int f2, .int ck, .ref ml, .ref mg, .ref mx])), (mf, .inl (cI, 900, .inl fB))]) (wr := [(mt, .inl (cI, 400, .inl fT)), (mo, .inl (cI, 2000, .inl fO))]) (va_runV (As := [.int 2, .int ((c1 ^^^ (-1)) &&& 255)]) (rest := []) ⟨hx, hb, hml, hown, ht⟩ (c_M_sayTurned_2 l D cI cB o mt mo mf mc mm mk mb mu ml mg mx 0 lim lf fl f1 f2 ck 0 nO nB fB (by omega) ((c1 ^^^ (-1)) &&& 255) H.size) (ft_cwV 2 ht bw_508 bw_510 bw_22 bw_39 bw_511 (by decide) ⟨Nat.le_of_ble_eq_true rfl, Nat.le_of_ble_eq_true rfl⟩) ⟨ft_blind, va_recv hK hP (ci := 5) (q0 := 0) rfl rfl, (ft_pre hP hD hK hNW [0, 3] [0, 1] rfl rfl (by decide) rfl _)⟩ rfl rfl hl.1 rfl (lv_room (Nat.le_of_ble_eq_true rfl)) d_M_tell_114 ⟨Nat.le_of_ble_eq_true rfl, Nat.le_of_ble_eq_true rfl⟩) hP hD hS hA [0, 3] [1, 2] rfl rfl (by decide) (by decide) (fun u_24 H locs hu_24 hP hD hS => ?_)
            obtain ⟨fFt22, nFt22⟩ := u_24
            have e_nt22 : nFt22 ≤ nB + 2 := by have q := congrArg Prod.snd hu_24; rw [asays_n] at q; have q2 := wb2_len ((c1 ^^^ (-1)) &&& 255); have q3 : nFt22 = nB + _ := q; omega
            have hP : va_P D vwCl [(mt, .inl (cI, 400, .inl fT)), (mo, .inl (cI, 2000, .inl fO)), (o, .inr (5, [.int 0, .ref mt, .int (nI 0), .int lim, .ref mo, .int (nI nO), .ref mf, .int (nI nFt22), .ref mc, .ref mm, .ref mk, .ref mb, .int lf, .int fl, .ref mu, .int f1, .int f2, .int ck, .ref ml, .ref mg, .ref mx])), (mf, .inl (cI, 900, .inl fFt22))] H := hP
            have hD : va_D A [(mt, .inl (cI, 400, .inl fT)), (mo, .inl (cI, 2000, .inl fO)), (o, .inr (5, [.int 0, .ref mt, .int (nI 0), .int lim, .ref mo, .int (nI nO), .ref mf, .int (nI nFt22), .ref mc, .ref mm, .ref mk, .ref mb, .int lf, .int fl, .ref mu, .int f1, .int f2, .int ck, .ref ml, .ref mg, .ref mx])), (mf, .inl (cI, 900, .inl fFt22))] := hD
            refine lv_aload_n hx hb d_M_tell_117 rfl (lv_at hl 2 rfl) ?_
            refine lv_iconst (v := 2) hx hb d_M_tell_118 (by decide +kernel) ?_
            refine lv_iload_n hx hb d_M_tell_119 rfl (lv_at hl 1 rfl) ?_
            refine lv_iconst (v := (-1)) hx hb d_M_tell_120 (by decide +kernel) ?_
            refine lv_ixor hx hb d_M_tell_121 ?_
            refine lv_bipush (v := 8) hx hb d_M_tell_122 (by decide +kernel) ?_
            refine lv_ishr hx hb d_M_tell_124 ?_
            refine lv_sipush (v := 255) hx hb d_M_tell_125 (by decide +kernel) ?_
            refine lv_iand hx hb d_M_tell_128 ?_
            refine ft_cv (wc := [(o, .inr (5, [.int 0, .ref mt, .int (nI 0), .int lim, .ref mo, .int (nI nO), .ref mf, .int (nI nFt22), .ref mc, .ref mm, .ref mk, .ref mb, .int lf, .int fl, .ref mu, .int f1, .int f2, .int ck, .ref ml, .ref mg, .ref mx])), (mf, .inl (cI, 900, .inl fFt22))]) (wr := [(mt, .inl (cI, 400, .inl fT)), (mo, .inl (cI, 2000, .inl fO))]) (va_runV (As := [.int 2, .int (((c1 ^^^ (-1)) >>> ((8 : Int32) &&& 31)) &&& 255)]) (rest := []) ⟨hx, hb, hml, hown, ht⟩ (c_M_sayTurned_2 l D cI cB o mt mo mf mc mm mk mb mu ml mg mx 0 lim lf fl f1 f2 ck 0 nO nFt22 fFt22 (by omega) (((c1 ^^^ (-1)) >>> ((8 : Int32) &&& 31)) &&& 255) H.size) (ft_cwV 2 ht bw_508 bw_510 bw_22 bw_39 bw_511 (by decide) ⟨Nat.le_of_ble_eq_true rfl, Nat.le_of_ble_eq_true rfl⟩) ⟨ft_blind, va_recv hK hP (ci := 5) (q0 := 2) rfl rfl, (ft_pre hP hD hK hNW [2, 3] [0, 1] rfl rfl (by decide) rfl _)⟩ rfl rfl hl.1 rfl (lv_room (Nat.le_of_ble_eq_true rfl)) d_M_tell_129 ⟨Nat.le_of_ble_eq_true rfl, Nat.le_of_ble_eq_true rfl⟩) hP hD hS hA [2, 3] [0, 1] rfl rfl (by decide) (by decide) (fun u_27 H locs hu_27 hP hD hS => ?_)
            obtain ⟨fFt25, nFt25⟩ := u_27
            have e_nt25 : nFt25 ≤ nFt22 + 2 := by have q := congrArg Prod.snd hu_27; rw [asays_n] at q; have q2 := wb2_len (((c1 ^^^ (-1)) >>> ((8 : Int32) &&& 31)) &&& 255); have q3 : nFt25 = nFt22 + _ := q; omega
            have hP : va_P D vwCl [(mt, .inl (cI, 400, .inl fT)), (mo, .inl (cI, 2000, .inl fO)), (o, .inr (5, [.int 0, .ref mt, .int (nI 0), .int lim, .ref mo, .int (nI nO), .ref mf, .int (nI nFt25), .ref mc, .ref mm, .ref mk, .ref mb, .int lf, .int fl, .ref mu, .int f1, .int f2, .int ck, .ref ml, .ref mg, .ref mx])), (mf, .inl (cI, 900, .inl fFt25))] H := hP
            have hD : va_D A [(mt, .inl (cI, 400, .inl fT)), (mo, .inl (cI, 2000, .inl fO)), (o, .inr (5, [.int 0, .ref mt, .int (nI 0), .int lim, .ref mo, .int (nI nO), .ref mf, .int (nI nFt25), .ref mc, .ref mm, .ref mk, .ref mb, .int lf, .int fl, .ref mu, .int f1, .int f2, .int ck, .ref ml, .ref mg, .ref mx])), (mf, .inl (cI, 900, .inl fFt25))] := hD
            refine lv_aload_n hx hb d_M_tell_132 rfl (lv_at hl 2 rfl) ?_
            refine lv_iload_n hx hb d_M_tell_133 rfl (lv_at hl 3 rfl) ?_
            refine lv_if_ne (tgt := 141) hx hb d_M_tell_134 (by decide) (fun _ => ?_) (fun c134 => absurd c134 (by decide))
            refine lv_iload_n hx hb d_M_tell_141 rfl (lv_at hl 3 rfl) ?_
            refine lv_iconst (v := 1) hx hb d_M_tell_142 (by decide +kernel) ?_
            refine lv_icmp_ne (tgt := 152) hx hb d_M_tell_143 (by decide) (fun _ => ?_) (fun c143 => absurd c143 (by decide))
            refine lv_bipush (v := 126) hx hb d_M_tell_152 (by decide +kernel) ?_
            refine ft_cv (wc := [(o, .inr (5, [.int 0, .ref mt, .int (nI 0), .int lim, .ref mo, .int (nI nO), .ref mf, .int (nI nFt25), .ref mc, .ref mm, .ref mk, .ref mb, .int lf, .int fl, .ref mu, .int f1, .int f2, .int ck, .ref ml, .ref mg, .ref mx])), (mf, .inl (cI, 900, .inl fFt25))]) (wr := [(mt, .inl (cI, 400, .inl fT)), (mo, .inl (cI, 2000, .inl fO))]) (va_runV (As := [.int 126]) (rest := []) ⟨hx, hb, hml, hown, ht⟩ (c_M_say l D cI cB o mt mo mf mc mm mk mb mu ml mg mx 0 lim lf fl f1 f2 ck 0 nO nFt25 fFt25 (by omega) 126 H.size) (ft_cwV 1 ht bw_503 bw_505 bw_21 bw_39 bw_506 (by decide) ⟨Nat.le_of_ble_eq_true rfl, Nat.le_of_ble_eq_true rfl⟩) ⟨ft_blind, va_recv hK hP (ci := 5) (q0 := 2) rfl rfl, (ft_pre hP hD hK hNW [2, 3] [0, 1] rfl rfl (by decide) rfl _)⟩ rfl rfl hl.1 rfl (lv_room (Nat.le_of_ble_eq_true rfl)) d_M_tell_154 ⟨Nat.le_of_ble_eq_true rfl, Nat.le_of_ble_eq_true rfl⟩) hP hD hS hA [2, 3] [0, 1] rfl rfl (by decide) (by decide) (fun u_30 H locs hu_30 hP hD hS => ?_)
            obtain ⟨fFs28, nFs28⟩ := u_30
            have e_ns28 : nFs28 = nFt25 + 1 := congrArg Prod.snd hu_30
            have hP : va_P D vwCl [(mt, .inl (cI, 400, .inl fT)), (mo, .inl (cI, 2000, .inl fO)), (o, .inr (5, [.int 0, .ref mt, .int (nI 0), .int lim, .ref mo, .int (nI nO), .ref mf, .int (nI nFs28), .ref mc, .ref mm, .ref mk, .ref mb, .int lf, .int fl, .ref mu, .int f1, .int f2, .int ck, .ref ml, .ref mg, .ref mx])), (mf, .inl (cI, 900, .inl fFs28))] H := hP
            have hD : va_D A [(mt, .inl (cI, 400, .inl fT)), (mo, .inl (cI, 2000, .inl fO)), (o, .inr (5, [.int 0, .ref mt, .int (nI 0), .int lim, .ref mo, .int (nI nO), .ref mf, .int (nI nFs28), .ref mc, .ref mm, .ref mk, .ref mb, .int lf, .int fl, .ref mu, .int f1, .int f2, .int ck, .ref ml, .ref mg, .ref mx])), (mf, .inl (cI, 900, .inl fFs28))] := hD
            have eF : (fFs28, nFs28) = asays (fF, 0) (e2M fT nT 0 65535) := by rw [← heq]; show _ = asays (fB, nB) (wb2 ((c1 ^^^ (-1)) &&& 255) ++ (wb2 ((c1 ^^^ (-1)) >>> ((8 : Int32) &&& 31) &&& 255) ++ [126])); rw [asays_app, asays_app, hu_30, hu_27, hu_24]; rfl
            refine lv_aload_n hx hb d_M_tell_157 rfl (lv_at hl 2 rfl) ?_
            refine va_get (D := D) (ci := 5) (v := .int (nI nO)) (C := R_M) (T := F_M) (N := 21) hx hb ht bi_M hown hK hP 2 rfl rfl 5 (by decide) (ht _ bw_412) (fun _ h9 => h9) rfl d_M_tell_158 ?_
            refine lv_aload_n hx hb d_M_tell_161 rfl (lv_at hl 2 rfl) ?_
            refine va_get (D := D) (ci := 5) (v := .int (nI nFs28)) (C := R_M) (T := F_M) (N := 21) hx hb ht bi_M hown hK hP 2 rfl rfl 7 (by decide) (ht _ bw_414) (fun _ h9 => h9) rfl d_M_tell_162 ?_
            refine lv_iadd hx hb d_M_tell_165 ?_
            refine ft_top (nI_add nO nFs28) ?_
            refine lv_sipush (v := nI 2000) hx hb d_M_tell_166 (by decide +kernel) ?_
            refine lv_icmp_le (tgt := 174) hx hb d_M_tell_169 (by decide) (fun c169 => ?_) (fun c169 => ?_)
            · skip
              have c169 : nO + nFs28 ≤ 2000 := (nI_leI (by omega) (by omega)).mp c169
              refine lv_iconst (v := nI 0) hx hb d_M_tell_174 (by decide +kernel) ?_
              refine lv_istore (lv' := [(4, .int (nI 0)), (3, .int c1), (0, .ref o), (1, .int (nI 2)), (2, .int (nI nT))]) hx hb d_M_tell_175 hl (by decide) rfl (fun ls hl => ?_)
              have cp : ∀ (q : Nat) (k : Nat) (gO : Nat → Int32) (H : Heap) (locs : List Loc) (ls : Array Slot), k + q = nFs28 → va_P D vwCl [(mt, .inl (cI, 400, .inl fT)), (mo, .inl (cI, 2000, .inl gO)), (o, .inr (5, [.int 0, .ref mt, .int (nI 0), .int lim, .ref mo, .int (nI nO), .ref mf, .int (nI nFs28), .ref mc, .ref mm, .ref mk, .ref mb, .int lf, .int fl, .ref mu, .int f1, .int f2, .int ck, .ref ml, .ref mg, .ref mx])), (mf, .inl (cI, 900, .inl fFs28))] H → va_D A [(mt, .inl (cI, 400, .inl fT)), (mo, .inl (cI, 2000, .inl gO)), (o, .inr (5, [.int 0, .ref mt, .int (nI 0), .int lim, .ref mo, .int (nI nO), .ref mf, .int (nI nFs28), .ref mc, .ref mm, .ref mk, .ref mb, .int lf, .int fl, .ref mu, .int f1, .int f2, .int ck, .ref ml, .ref mg, .ref mx])), (mf, .inl (cI, 900, .inl fFs28))] → va_S A s.heap H locs → lv_has ls 5 [(4, .int (nI k)), (3, .int c1), (0, .ref o), (1, .int (nI 2)), (2, .int (nI nT))] → (∀ i, i < nO → gO i = fO i) → (∀ j, j < k → gO (nO + j) = fFs28 j) → W p l e ({ frames := 2, cells := 0, slots := 0, locals := 60 } : Room) s m ([.ref o, .int 2] : List Value).toArray below meth c H locs 0 0 (MQ below (va_Qi (fun (v : Int32) (u : (Nat → Int32) × Nat × (Nat → Int32) × Nat) => tellR fT nT lim 2 fO nO v u.1 u.2.1) (ft_B D vwCl [(cI, .int), (cB, .boolean)] A (fun u : (Nat → Int32) × Nat × (Nat → Int32) × Nat => [(o, .inr (5, [.int 0, .ref mt, .int (nI 0), .int lim, .ref mo, .int (nI u.2.1), .ref mf, .int (nI u.2.2.2), .ref mc, .ref mm, .ref mk, .ref mb, .int lf, .int fl, .ref mu, .int f1, .int f2, .int ck, .ref ml, .ref mg, .ref mx])), (mt, .inl (cI, 400, .inl fT)), (mo, .inl (cI, 2000, .inl u.1)), (mf, .inl (cI, 900, .inl u.2.2.1))])) A) ([.ref o, .int 2] : List Value).toArray s 0 0 A) (F0 m 177 ls []) := by
                intro q
                induction q with
                | zero =>
                  intro k gO H locs ls hk hP hD hS hl g1 g2
                  refine lv_iload hx hb d_M_tell_177 (lv_at hl 0 rfl) ?_
                  refine lv_aload_n hx hb d_M_tell_179 rfl (lv_at hl 2 rfl) ?_
                  refine va_get (D := D) (ci := 5) (v := .int (nI nFs28)) (C := R_M) (T := F_M) (N := 21) hx hb ht bi_M hown hK hP 2 rfl rfl 7 (by decide) (ht _ bw_414) (fun _ h9 => h9) rfl d_M_tell_180 ?_
                  refine lv_icmp_ge (tgt := 211) hx hb d_M_tell_183 (by decide) (fun c183 => ?_) (fun c183 => absurd (nI_le (by omega) (by omega)) c183)
                  have c183 : nFs28 ≤ k := (nI_leI (by omega) (by omega)).mp c183
                  refine lv_aload_n hx hb d_M_tell_211 rfl (lv_at hl 2 rfl) ?_
                  refine lv_dup hx hb d_M_tell_212 rfl ?_
                  refine va_get (D := D) (ci := 5) (v := .int (nI nO)) (C := R_M) (T := F_M) (N := 21) hx hb ht bi_M hown hK hP 2 rfl rfl 5 (by decide) (ht _ bw_412) (fun _ h9 => h9) rfl d_M_tell_213 ?_
                  refine lv_aload_n hx hb d_M_tell_216 rfl (lv_at hl 2 rfl) ?_
                  refine va_get (D := D) (ci := 5) (v := .int (nI nFs28)) (C := R_M) (T := F_M) (N := 21) hx hb ht bi_M hown hK hP 2 rfl rfl 7 (by decide) (ht _ bw_414) (fun _ h9 => h9) rfl d_M_tell_217 ?_
                  refine lv_iadd hx hb d_M_tell_220 ?_
                  refine ft_top (nI_add nO nFs28) ?_
                  refine va_put (D := D) (ci := 5) (v := .int (nI (nO + nFs28))) (ty := .int) (C := R_M) (T := F_M) (N := 21) hx hb ht bi_M t_M t_M_ok n_M hown hK hP hD hS 2 rfl rfl 5 (by decide) (ht _ bw_412) (fun _ h9 => h9) rfl (by decide +kernel) rfl rfl (Nat.le_of_ble_eq_true rfl) d_M_tell_221 (fun H locs hP hD hS => ?_)
                  have hP : va_P D vwCl [(mt, .inl (cI, 400, .inl fT)), (mo, .inl (cI, 2000, .inl gO)), (o, .inr (5, [.int 0, .ref mt, .int (nI 0), .int lim, .ref mo, .int (nI (nO + nFs28)), .ref mf, .int (nI nFs28), .ref mc, .ref mm, .ref mk, .ref mb, .int lf, .int fl, .ref mu, .int f1, .int f2, .int ck, .ref ml, .ref mg, .ref mx])), (mf, .inl (cI, 900, .inl fFs28))] H := hP
                  have hD : va_D A [(mt, .inl (cI, 400, .inl fT)), (mo, .inl (cI, 2000, .inl gO)), (o, .inr (5, [.int 0, .ref mt, .int (nI 0), .int lim, .ref mo, .int (nI (nO + nFs28)), .ref mf, .int (nI nFs28), .ref mc, .ref mm, .ref mk, .ref mb, .int lf, .int fl, .ref mu, .int f1, .int f2, .int ck, .ref ml, .ref mg, .ref mx])), (mf, .inl (cI, 900, .inl fFs28))] := hD
                  refine lv_aload_n hx hb d_M_tell_224 rfl (lv_at hl 2 rfl) ?_
                  refine va_get (D := D) (ci := 5) (v := .int (nI (nO + nFs28))) (C := R_M) (T := F_M) (N := 21) hx hb ht bi_M hown hK hP 2 rfl rfl 5 (by decide) (ht _ bw_412) (fun _ h9 => h9) rfl d_M_tell_225 ?_
                  exact ft_reti (gO, nO + nFs28, fFs28, nFs28) hx hb hr hlocks (hP.sub [2, 0, 1, 3] rfl) hK (hD.sub [2, 0, 1, 3] (by decide) rfl) hS (tell_k (encM_2 fT nT) eF (Or.inr (Or.inr rfl)) c27 (Or.inr c35) c169 g1 (fun j h => g2 j (by omega))) d_M_tell_228
                | succ q ih_cp =>
                  intro k gO H locs ls hk hP hD hS hl g1 g2
                  refine lv_iload hx hb d_M_tell_177 (lv_at hl 0 rfl) ?_
                  refine lv_aload_n hx hb d_M_tell_179 rfl (lv_at hl 2 rfl) ?_
                  refine va_get (D := D) (ci := 5) (v := .int (nI nFs28)) (C := R_M) (T := F_M) (N := 21) hx hb ht bi_M hown hK hP 2 rfl rfl 7 (by decide) (ht _ bw_414) (fun _ h9 => h9) rfl d_M_tell_180 ?_
                  refine lv_icmp_ge (tgt := 211) hx hb d_M_tell_183 (by decide) (fun c183 => absurd c183 (nI_ge (by omega) (by omega))) (fun c183 => ?_)
                  have c183 : ¬ nFs28 ≤ k := fun h => c183 ((nI_leI (by omega) (by omega)).mpr h)
                  refine lv_aload_n hx hb d_M_tell_186 rfl (lv_at hl 2 rfl) ?_
                  refine va_get (D := D) (ci := 5) (v := .ref mo) (C := R_M) (T := F_M) (N := 21) hx hb ht bi_M hown hK hP 2 rfl rfl 4 (by decide) (ht _ bw_411) (fun _ h9 => h9) rfl d_M_tell_187 ?_
                  refine lv_aload_n hx hb d_M_tell_190 rfl (lv_at hl 2 rfl) ?_
                  refine va_get (D := D) (ci := 5) (v := .int (nI nO)) (C := R_M) (T := F_M) (N := 21) hx hb ht bi_M hown hK hP 2 rfl rfl 5 (by decide) (ht _ bw_412) (fun _ h9 => h9) rfl d_M_tell_191 ?_
                  refine lv_iload hx hb d_M_tell_194 (lv_at hl 0 rfl) ?_
                  refine lv_iadd hx hb d_M_tell_196 ?_
                  refine ft_top (nI_add nO k) ?_
                  refine lv_aload_n hx hb d_M_tell_197 rfl (lv_at hl 2 rfl) ?_
                  refine va_get (D := D) (ci := 5) (v := .ref mf) (C := R_M) (T := F_M) (N := 21) hx hb ht bi_M hown hK hP 2 rfl rfl 6 (by decide) (ht _ bw_413) (fun _ h9 => h9) rfl d_M_tell_198 ?_
                  refine lv_iload hx hb d_M_tell_201 (lv_at hl 0 rfl) ?_
                  refine va_iald hx hb hK hP 3 0 rfl rfl (vp_in_nI (by omega) (by omega)) d_M_tell_203 ?_
                  refine ft_top (congrArg fFs28 (nI_clamp (n := k) (by omega))) ?_
                  refine va_iast hx hb hK hP hD hS 1 0 rfl rfl (vp_in_nI (by omega) (by omega)) d_M_tell_204 (fun H locs hP hD hS => ?_)
                  rw [nI_clamp (n := nO + k) (by omega)] at hP hD
                  obtain ⟨gO_31, egO_31⟩ : ∃ g : Nat → Int32, g = upd gO (nO + k) (fFs28 k) := ⟨_, rfl⟩
                  rw [← egO_31] at hP hD
                  have hP : va_P D vwCl [(mt, .inl (cI, 400, .inl fT)), (mo, .inl (cI, 2000, .inl gO_31)), (o, .inr (5, [.int 0, .ref mt, .int (nI 0), .int lim, .ref mo, .int (nI nO), .ref mf, .int (nI nFs28), .ref mc, .ref mm, .ref mk, .ref mb, .int lf, .int fl, .ref mu, .int f1, .int f2, .int ck, .ref ml, .ref mg, .ref mx])), (mf, .inl (cI, 900, .inl fFs28))] H := hP
                  have hD : va_D A [(mt, .inl (cI, 400, .inl fT)), (mo, .inl (cI, 2000, .inl gO_31)), (o, .inr (5, [.int 0, .ref mt, .int (nI 0), .int lim, .ref mo, .int (nI nO), .ref mf, .int (nI nFs28), .ref mc, .ref mm, .ref mk, .ref mb, .int lf, .int fl, .ref mu, .int f1, .int f2, .int ck, .ref ml, .ref mg, .ref mx])), (mf, .inl (cI, 900, .inl fFs28))] := hD
                  refine lv_iinc (v := nI (k + 1)) (lv' := [(4, .int (nI (k + 1))), (3, .int c1), (0, .ref o), (1, .int (nI 2)), (2, .int (nI nT))]) hx hb d_M_tell_205 hl (k := 0) rfl (nI_1 k) (by decide) rfl (fun ls hl => ?_)
                  refine lv_goto (tgt := 177) hx hb d_M_tell_208 (by decide) ?_
                  exact ih_cp (k + 1) gO_31 H locs ls (by omega) (hP.sub [0, 1, 2, 3] rfl) (hD.sub [0, 1, 2, 3] (by decide) rfl) hS (lv_sub hl [0, 1, 2, 3, 4] rfl) (fun i h => by rw [egO_31, pk_un (by omega)]; exact g1 i h) (fun j h => by rw [egO_31]; rcases Nat.lt_or_ge j k with z | z; rw [pk_un (by omega)]; exact g2 j z; rw [show j = k from by omega]; exact pk_us)
              exact cp nFs28 0 fO H locs ls (by omega) (hP.sub [0, 1, 2, 3] rfl) (hD.sub [0, 1, 2, 3] (by decide) rfl) hS (lv_sub hl [0, 1, 2, 3, 4] rfl) (fun _ _ => rfl) (fun j h => absurd h (Nat.not_lt_zero j))
            · skip
              have c169 : ¬ nO + nFs28 ≤ 2000 := fun h => c169 ((nI_leI (by omega) (by omega)).mpr h)
              refine lv_iconst (v := (-1)) hx hb d_M_tell_172 (by decide +kernel) ?_
              exact ft_reti (fO, nO, fFs28, nFs28) hx hb hr hlocks (hP.sub [2, 0, 1, 3] rfl) hK (hD.sub [2, 0, 1, 3] (by decide) rfl) hS (tell_x (encM_2 fT nT) eF c169) d_M_tell_173
          | succ q ih_lp =>
            intro k c1 fB nB H locs ls hk hB hP hD hS hl heq
            refine lv_iload hx hb d_M_tell_60 (lv_at hl 0 rfl) ?_
            refine lv_iload_n hx hb d_M_tell_62 rfl (lv_at hl 4 rfl) ?_
            refine lv_icmp_ge (tgt := 100) hx hb d_M_tell_63 (by decide) (fun c63 => absurd c63 (nI_ge (by omega) (by omega))) (fun c63 => ?_)
            have c63 : ¬ nT ≤ k := fun h => c63 ((nI_leI (by omega) (by omega)).mpr h)
            refine lv_iload_n hx hb d_M_tell_66 rfl (lv_at hl 3 rfl) ?_
            refine lv_if_le (tgt := 100) hx hb d_M_tell_67 (by decide) (fun c67 => absurd c67 (by decide)) (fun _ => ?_)
            refine lv_aload_n hx hb d_M_tell_70 rfl (lv_at hl 2 rfl) ?_
            refine lv_iload_n hx hb d_M_tell_71 rfl (lv_at hl 3 rfl) ?_
            refine lv_aload_n hx hb d_M_tell_72 rfl (lv_at hl 2 rfl) ?_
            refine va_get (D := D) (ci := 5) (v := .ref mt) (C := R_M) (T := F_M) (N := 21) hx hb ht bi_M hown hK hP 0 rfl rfl 1 (by decide) (ht _ bw_408) (fun _ h9 => h9) rfl d_M_tell_73 ?_
            refine lv_iload hx hb d_M_tell_76 (lv_at hl 0 rfl) ?_
            refine va_iald hx hb hK hP 1 0 rfl rfl (vp_in_nI (by omega) (by omega)) d_M_tell_78 ?_
            refine ft_top (congrArg fT (nI_clamp (n := k) (by omega))) ?_
            refine ft_cv (wc := [(o, .inr (5, [.int 0, .ref mt, .int (nI 0), .int lim, .ref mo, .int (nI nO), .ref mf, .int (nI nB), .ref mc, .ref mm, .ref mk, .ref mb, .int lf, .int fl, .ref mu, .int f1, .int f2, .int ck, .ref ml, .ref mg, .ref mx])), (mf, .inl (cI, 900, .inl fB))]) (wr := [(mt, .inl (cI, 400, .inl fT)), (mo, .inl (cI, 2000, .inl fO))]) (va_runV (As := [.int (nI 2), .int (fT k)]) (rest := []) ⟨hx, hb, hml, hown, ht⟩ (c_M_sayTurned_2 l D cI cB o mt mo mf mc mm mk mb mu ml mg mx 0 lim lf fl f1 f2 ck 0 nO nB fB (by omega) (fT k) H.size) (ft_cwV 2 ht bw_508 bw_510 bw_22 bw_39 bw_511 (by decide) ⟨Nat.le_of_ble_eq_true rfl, Nat.le_of_ble_eq_true rfl⟩) ⟨ft_blind, va_recv hK hP (ci := 5) (q0 := 0) rfl rfl, (ft_pre hP hD hK hNW [0, 3] [0, 1] rfl rfl (by decide) rfl _)⟩ rfl rfl hl.1 rfl (lv_room (Nat.le_of_ble_eq_true rfl)) d_M_tell_79 ⟨Nat.le_of_ble_eq_true rfl, Nat.le_of_ble_eq_true rfl⟩) hP hD hS hA [0, 3] [1, 2] rfl rfl (by decide) (by decide) (fun u_34 H locs hu_34 hP hD hS => ?_)
            obtain ⟨fFt32, nFt32⟩ := u_34
            have e_nt32 : nFt32 ≤ nB + 2 := by have q := congrArg Prod.snd hu_34; rw [asays_n] at q; have q2 := wb2_len (fT k); have q3 : nFt32 = nB + _ := q; omega
            have hP : va_P D vwCl [(mt, .inl (cI, 400, .inl fT)), (mo, .inl (cI, 2000, .inl fO)), (o, .inr (5, [.int 0, .ref mt, .int (nI 0), .int lim, .ref mo, .int (nI nO), .ref mf, .int (nI nFt32), .ref mc, .ref mm, .ref mk, .ref mb, .int lf, .int fl, .ref mu, .int f1, .int f2, .int ck, .ref ml, .ref mg, .ref mx])), (mf, .inl (cI, 900, .inl fFt32))] H := hP
            have hD : va_D A [(mt, .inl (cI, 400, .inl fT)), (mo, .inl (cI, 2000, .inl fO)), (o, .inr (5, [.int 0, .ref mt, .int (nI 0), .int lim, .ref mo, .int (nI nO), .ref mf, .int (nI nFt32), .ref mc, .ref mm, .ref mk, .ref mb, .int lf, .int fl, .ref mu, .int f1, .int f2, .int ck, .ref ml, .ref mg, .ref mx])), (mf, .inl (cI, 900, .inl fFt32))] := hD
            refine lv_iload_n hx hb d_M_tell_82 rfl (lv_at hl 1 rfl) ?_
            refine lv_aload_n hx hb d_M_tell_83 rfl (lv_at hl 2 rfl) ?_
            refine va_get (D := D) (ci := 5) (v := .ref mt) (C := R_M) (T := F_M) (N := 21) hx hb ht bi_M hown hK hP 2 rfl rfl 1 (by decide) (ht _ bw_408) (fun _ h9 => h9) rfl d_M_tell_84 ?_
            refine lv_iload hx hb d_M_tell_87 (lv_at hl 0 rfl) ?_
            refine va_iald hx hb hK hP 0 0 rfl rfl (vp_in_nI (by omega) (by omega)) d_M_tell_89 ?_
            refine ft_top (congrArg fT (nI_clamp (n := k) (by omega))) ?_
            refine ft_ci (wc := []) (wr := [(mt, .inl (cI, 400, .inl fT)), (mo, .inl (cI, 2000, .inl fO)), (o, .inr (5, [.int 0, .ref mt, .int (nI 0), .int lim, .ref mo, .int (nI nO), .ref mf, .int (nI nFt32), .ref mc, .ref mm, .ref mk, .ref mb, .int lf, .int fl, .ref mu, .int f1, .int f2, .int ck, .ref ml, .ref mg, .ref mx])), (mf, .inl (cI, 900, .inl fFt32))]) (va_runS (As := [.int c1, .int (fT k)]) (rest := []) ⟨hx, hb, hml, hown, ht⟩ (c_M_checked l D cI cB c1 (fT k) H.size) (ft_cwS 2 ht bw_512 bw_513 bw_39 bw_514 (by decide) ⟨Nat.le_of_ble_eq_true rfl, Nat.le_of_ble_eq_true rfl⟩) ⟨ft_blind, (ft_pre hP hD hK hNW [] [0, 1] rfl rfl (by decide) rfl _)⟩ rfl rfl hl.1 rfl (lv_room (Nat.le_of_ble_eq_true rfl)) d_M_tell_90 ⟨Nat.le_of_ble_eq_true rfl, Nat.le_of_ble_eq_true rfl⟩) hP hD hS hA [] [0, 1, 2, 3] rfl rfl (by decide) (by decide) (fun r_35 u_36 H locs hu_36 hP hD hS => ?_)
            subst hu_36
            have hP : va_P D vwCl [(mt, .inl (cI, 400, .inl fT)), (mo, .inl (cI, 2000, .inl fO)), (o, .inr (5, [.int 0, .ref mt, .int (nI 0), .int lim, .ref mo, .int (nI nO), .ref mf, .int (nI nFt32), .ref mc, .ref mm, .ref mk, .ref mb, .int lf, .int fl, .ref mu, .int f1, .int f2, .int ck, .ref ml, .ref mg, .ref mx])), (mf, .inl (cI, 900, .inl fFt32))] H := hP
            have hD : va_D A [(mt, .inl (cI, 400, .inl fT)), (mo, .inl (cI, 2000, .inl fO)), (o, .inr (5, [.int 0, .ref mt, .int (nI 0), .int lim, .ref mo, .int (nI nO), .ref mf, .int (nI nFt32), .ref mc, .ref mm, .ref mk, .ref mb, .int lf, .int fl, .ref mu, .int f1, .int f2, .int ck, .ref ml, .ref mg, .ref mx])), (mf, .inl (cI, 900, .inl fFt32))] := hD
            refine lv_istore_n (lv' := [(3, .int (chkB c1 (fT k))), (4, .int (nI k)), (0, .ref o), (1, .int (nI 2)), (2, .int (nI nT))]) hx hb d_M_tell_93 rfl hl (by decide) rfl (fun ls hl => ?_)
            refine lv_iinc (v := nI (k + 1)) (lv' := [(4, .int (nI (k + 1))), (3, .int (chkB c1 (fT k))), (0, .ref o), (1, .int (nI 2)), (2, .int (nI nT))]) hx hb d_M_tell_94 hl (k := 1) rfl (nI_1 k) (by decide) rfl (fun ls hl => ?_)
            refine lv_goto (tgt := 60) hx hb d_M_tell_97 (by decide) ?_
            exact ih_lp (k + 1) (chkB c1 (fT k)) fFt32 nFt32 H locs ls (by omega) (by omega) (hP.sub [2, 0, 1, 3] rfl) (hD.sub [2, 0, 1, 3] (by decide) rfl) hS (lv_sub hl [0, 1, 2, 3, 4] rfl) (by rw [hu_34, ← asays_app]; exact heq)
        exact lp nT 0 65535 fF 0 H locs ls (by omega) (by omega) (hP.sub [0, 1, 2, 3] rfl) (hD.sub [0, 1, 2, 3] (by decide) rfl) hS (lv_sub hl [0, 1, 3, 4, 2] rfl) rfl
      · skip
        have c35 : nT = 0 := (nI_eq (b := 0) (by omega) (by omega)).mp c35
        refine lv_iconst (v := (-1)) hx hb d_M_tell_38 (by decide +kernel) ?_
        exact ft_reti (fO, nO, fF, nF) hx hb hr hlocks hP hK hD hS (tell_z (by decide) c35) d_M_tell_39
  · skip
    refine lv_if_eq (tgt := 38) hx hb d_M_tell_19 (by decide) (fun _ => ?_) (fun c19 => absurd (by decide) c19)
    refine lv_iconst (v := (-1)) hx hb d_M_tell_38 (by decide +kernel) ?_
    exact ft_reti (fO, nO, fF, nF) hx hb hr hlocks hP hK hD hS (tell_w n0 n1 n2) d_M_tell_39
