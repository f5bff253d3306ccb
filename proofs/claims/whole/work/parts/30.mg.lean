set_option maxHeartbeats 4000000 in
set_option maxRecDepth 100000 in
theorem c_M_take_0 (l : Launch) (D : va_G) (cI : ClassId) (cB : ClassId) (o mt mo mf mc mm mk mb mu ml mg mx : Nat) (th lim lf fl f1 f2 ck : Int32) (nT nO nF : Nat) (cm mn : Nat → Nat) (kp bd tu la gd ct : Nat → Int32) (hC : cm 0 < 1073741824) (hM : mn 0 < 1073741824) (hB : tu 0 = 0 ∨ tu 0 = 1) (hL : lim ≤ 400) (b : Int32) (sz : Nat) : ft_Mi l y_M_take (.code y_M_take b_M_take 3 (some .int) :: ft_big) ({ frames := 2, cells := 0, slots := 0, locals := 80 }) D [(cI, .int), (cB, .boolean)] sz [.ref o, .int (nI 0), .int b] [(o, .inr (5, [.int th, .ref mt, .int (nI nT), .int lim, .ref mo, .int (nI nO), .ref mf, .int (nI nF), .ref mc, .ref mm, .ref mk, .ref mb, .int lf, .int fl, .ref mu, .int f1, .int f2, .int ck, .ref ml, .ref mg, .ref mx])), (mc, .inl (cI, 3, .inl (fun j => nI (cm j)))), (mm, .inl (cI, 3, .inl (fun j => nI (mn j)))), (mk, .inl (cI, 1200, .inl kp)), (mb, .inl (cB, 3, .inl bd)), (mu, .inl (cB, 3, .inl tu)), (ml, .inl (cI, 3, .inl la)), (mg, .inl (cI, 1200, .inl gd)), (mx, .inl (cI, 12, .inl ct))] (fun (v : Int32) (u : MR) => (v, u) = takeM0 lim b (cm, mn, kp, bd, tu, la, gd, ct, lf, fl, f1, f2, ck)) (fun u : MR => [(o, .inr (5, [.int th, .ref mt, .int (nI nT), .int lim, .ref mo, .int (nI nO), .ref mf, .int (nI nF), .ref mc, .ref mm, .ref mk, .ref mb, .int u.2.2.2.2.2.2.2.2.1, .int u.2.2.2.2.2.2.2.2.2.1, .ref mu, .int u.2.2.2.2.2.2.2.2.2.2.1, .int u.2.2.2.2.2.2.2.2.2.2.2.1, .int u.2.2.2.2.2.2.2.2.2.2.2.2, .ref ml, .ref mg, .ref mx])), (mc, .inl (cI, 3, .inl (fun j => nI (u.1 j)))), (mm, .inl (cI, 3, .inl (fun j => nI (u.2.1 j)))), (mk, .inl (cI, 1200, .inl u.2.2.1)), (mb, .inl (cB, 3, .inl u.2.2.2.1)), (mu, .inl (cB, 3, .inl u.2.2.2.2.1)), (ml, .inl (cI, 3, .inl u.2.2.2.2.2.1)), (mg, .inl (cI, 1200, .inl u.2.2.2.2.2.2.1)), (mx, .inl (cI, 12, .inl u.2.2.2.2.2.2.2.1))]) 0 0 := by
  refine ft_ei (cc := b_M_take) (maxL := 3) (ret := (some .int)) (by decide) rfl (Nat.le_of_ble_eq_true rfl) ?_
  intro p e s m below meth c A ls hx hb hr hml hts hown hlocks hmn hP hK hD hA hS hNW hl
  have ht : ∀ w ∈ ft_big, w.before _ s = true := fun w h => hts w (List.mem_cons_of_mem _ h)
  have hP : va_P D vwCl [(o, .inr (5, [.int th, .ref mt, .int (nI nT), .int lim, .ref mo, .int (nI nO), .ref mf, .int (nI nF), .ref mc, .ref mm, .ref mk, .ref mb, .int lf, .int fl, .ref mu, .int f1, .int f2, .int ck, .ref ml, .ref mg, .ref mx])), (mc, .inl (cI, 3, .inl (fun j => nI (cm j)))), (mm, .inl (cI, 3, .inl (fun j => nI (mn j)))), (mk, .inl (cI, 1200, .inl kp)), (mb, .inl (cB, 3, .inl bd)), (mu, .inl (cB, 3, .inl tu)), (ml, .inl (cI, 3, .inl la)), (mg, .inl (cI, 1200, .inl gd)), (mx, .inl (cI, 12, .inl ct))] s.heap := hP
  have hD : va_D A [(o, .inr (5, [.int th, .ref mt, .int (nI nT), .int lim, .ref mo, .int (nI nO), .ref mf, .int (nI nF), .ref mc, .ref mm, .ref mk, .ref mb, .int lf, .int fl, .ref mu, .int f1, .int f2, .int ck, .ref ml, .ref mg, .ref mx])), (mc, .inl (cI, 3, .inl (fun j => nI (cm j)))), (mm, .inl (cI, 3, .inl (fun j => nI (mn j)))), (mk, .inl (cI, 1200, .inl kp)), (mb, .inl (cB, 3, .inl bd)), (mu, .inl (cB, 3, .inl tu)), (ml, .inl (cI, 3, .inl la)), (mg, .inl (cI, 1200, .inl gd)), (mx, .inl (cI, 12, .inl ct))] := hD
  have hl : lv_has ls 3 [(0, .ref o), (1, .int (nI 0)), (2, .int b)] := hl
  refine lv_iload_n hx hb d_M_take_0 rfl (lv_at hl 2 rfl) ?_
  refine lv_iload_n hx hb d_M_take_1 rfl (lv_at hl 1 rfl) ?_
  refine lv_if_ne (tgt := 9) hx hb d_M_take_2 (by decide) (fun c2 => absurd (by decide) c2) (fun _ => ?_)
  refine lv_iconst (v := 0) hx hb d_M_take_5 (by decide +kernel) ?_
  refine lv_goto (tgt := 22) hx hb d_M_take_6 (by decide) ?_
  refine lv_icmp_ne (tgt := 48) hx hb d_M_take_22 (by decide) (fun c22 => ?_) (fun c22 => ?_)
  · skip
    refine lv_aload_n hx hb d_M_take_48 rfl (lv_at hl 0 rfl) ?_
    refine va_get (D := D) (ci := 5) (v := .ref mc) (C := R_M) (T := F_M) (N := 21) hx hb ht bi_M hown hK hP 0 rfl rfl 8 (by decide) (ht _ bw_415) (fun _ h9 => h9) rfl d_M_take_49 ?_
    refine lv_iload_n hx hb d_M_take_52 rfl (lv_at hl 1 rfl) ?_
    refine va_iald hx hb hK hP 1 0 rfl rfl (vp_in_nI (by omega) (by omega)) d_M_take_53 ?_
    refine ft_top (y := nI (cm 0)) (congrArg (fun j => nI (cm j)) (by decide)) ?_
    refine lv_if_ne (tgt := 62) hx hb d_M_take_54 (by decide) (fun c54 => ?_) (fun c54 => ?_)
    · skip
      have c54 : ¬ cm 0 = 0 := fun h => c54 ((nI_eq (b := 0) (by omega) (by omega)).mpr h)
      refine lv_iload_n hx hb d_M_take_62 rfl (lv_at hl 1 rfl) ?_
      refine lv_if_ne (tgt := 74) hx hb d_M_take_63 (by decide) (fun c63 => absurd (by decide) c63) (fun _ => ?_)
      refine lv_aload_n hx hb d_M_take_66 rfl (lv_at hl 0 rfl) ?_
      refine lv_iload_n hx hb d_M_take_67 rfl (lv_at hl 2 rfl) ?_
      refine ft_cv (wc := [(o, .inr (5, [.int th, .ref mt, .int (nI nT), .int lim, .ref mo, .int (nI nO), .ref mf, .int (nI nF), .ref mc, .ref mm, .ref mk, .ref mb, .int lf, .int fl, .ref mu, .int f1, .int f2, .int ck, .ref ml, .ref mg, .ref mx])), (mc, .inl (cI, 3, .inl (fun j => nI (cm j)))), (mm, .inl (cI, 3, .inl (fun j => nI (mn j)))), (mk, .inl (cI, 1200, .inl kp))]) (wr := [(mb, .inl (cB, 3, .inl bd)), (mu, .inl (cB, 3, .inl tu)), (ml, .inl (cI, 3, .inl la)), (mg, .inl (cI, 1200, .inl gd)), (mx, .inl (cI, 12, .inl ct))]) (va_runV (As := [.int b]) (rest := []) ⟨hx, hb, hml, hown, ht⟩ (c_M_comeGroup l D cI cB o mt mo mf mc mm mk mb mu ml mg mx th lim lf fl f1 f2 ck nT nO nF cm mn kp (by omega) (by omega) b s.heap.size) (ft_cwV 1 ht bw_548 bw_550 bw_27 bw_39 bw_551 (by decide) ⟨Nat.le_of_ble_eq_true rfl, Nat.le_of_ble_eq_true rfl⟩) ⟨ft_blind, va_recv hK hP (ci := 5) (q0 := 0) rfl rfl, (ft_pre hP hD hK hNW [0, 1, 2, 3] [0, 1] rfl rfl (by decide) rfl _)⟩ rfl rfl hl.1 rfl (lv_room (Nat.le_of_ble_eq_true rfl)) d_M_take_68 ⟨Nat.le_of_ble_eq_true rfl, Nat.le_of_ble_eq_true rfl⟩) hP hD hS hA [0, 1, 2, 3] [4, 5, 6, 7, 8] rfl rfl (by decide) (by decide) (fun u_2 H locs hu_2 hP hD hS => ?_)
      obtain ⟨mnG, kpG, lfG, flG⟩ := u_2
      have e_g : (mnG, kpG, lfG, flG) = cgM b cm mn kp lf fl := hu_2
      have hP : va_P D vwCl [(mb, .inl (cB, 3, .inl bd)), (mu, .inl (cB, 3, .inl tu)), (ml, .inl (cI, 3, .inl la)), (mg, .inl (cI, 1200, .inl gd)), (mx, .inl (cI, 12, .inl ct)), (o, .inr (5, [.int th, .ref mt, .int (nI nT), .int lim, .ref mo, .int (nI nO), .ref mf, .int (nI nF), .ref mc, .ref mm, .ref mk, .ref mb, .int lfG, .int flG, .ref mu, .int f1, .int f2, .int ck, .ref ml, .ref mg, .ref mx])), (mc, .inl (cI, 3, .inl (fun j => nI (cm j)))), (mm, .inl (cI, 3, .inl (fun j => nI (mnG j)))), (mk, .inl (cI, 1200, .inl kpG))] H := hP
      have hD : va_D A [(mb, .inl (cB, 3, .inl bd)), (mu, .inl (cB, 3, .inl tu)), (ml, .inl (cI, 3, .inl la)), (mg, .inl (cI, 1200, .inl gd)), (mx, .inl (cI, 12, .inl ct)), (o, .inr (5, [.int th, .ref mt, .int (nI nT), .int lim, .ref mo, .int (nI nO), .ref mf, .int (nI nF), .ref mc, .ref mm, .ref mk, .ref mb, .int lfG, .int flG, .ref mu, .int f1, .int f2, .int ck, .ref ml, .ref mg, .ref mx])), (mc, .inl (cI, 3, .inl (fun j => nI (cm j)))), (mm, .inl (cI, 3, .inl (fun j => nI (mnG j)))), (mk, .inl (cI, 1200, .inl kpG))] := hD
      refine lv_goto (tgt := 80) hx hb d_M_take_71 (by decide) ?_
      refine lv_aload_n hx hb d_M_take_80 rfl (lv_at hl 0 rfl) ?_
      refine va_get (D := D) (ci := 5) (v := .ref mc) (C := R_M) (T := F_M) (N := 21) hx hb ht bi_M hown hK hP 5 rfl rfl 8 (by decide) (ht _ bw_415) (fun _ h9 => h9) rfl d_M_take_81 ?_
      refine lv_iload_n hx hb d_M_take_84 rfl (lv_at hl 1 rfl) ?_
      refine lv_dup2_11 hx hb d_M_take_85 rfl rfl ?_
      refine va_iald hx hb hK hP 6 0 rfl rfl (vp_in_nI (by omega) (by omega)) d_M_take_86 ?_
      refine ft_top (y := nI (cm 0)) (congrArg (fun j => nI (cm j)) (by decide)) ?_
      refine lv_iconst (v := nI 1) hx hb d_M_take_87 (by decide +kernel) ?_
      refine lv_iadd hx hb d_M_take_88 ?_
      refine ft_top (nI_add (cm 0) 1) ?_
      refine va_iast hx hb hK hP hD hS 6 0 rfl rfl (vp_in_nI (by omega) (by omega)) d_M_take_89 (fun H locs hP hD hS => ?_)
      rw [show (nI 0).toNatClampNeg = 0 from by decide] at hP hD
      rw [upd_nI] at hP hD
      obtain ⟨cm_3, ecm_3⟩ : ∃ g : Nat → Nat, g = va_up cm 0 (cm 0 + 1) := ⟨_, rfl⟩
      rw [← ecm_3] at hP hD
      have hP : va_P D vwCl [(mb, .inl (cB, 3, .inl bd)), (mu, .inl (cB, 3, .inl tu)), (ml, .inl (cI, 3, .inl la)), (mg, .inl (cI, 1200, .inl gd)), (mx, .inl (cI, 12, .inl ct)), (o, .inr (5, [.int th, .ref mt, .int (nI nT), .int lim, .ref mo, .int (nI nO), .ref mf, .int (nI nF), .ref mc, .ref mm, .ref mk, .ref mb, .int lfG, .int flG, .ref mu, .int f1, .int f2, .int ck, .ref ml, .ref mg, .ref mx])), (mc, .inl (cI, 3, .inl (fun j => nI (cm_3 j)))), (mm, .inl (cI, 3, .inl (fun j => nI (mnG j)))), (mk, .inl (cI, 1200, .inl kpG))] H := hP
      have hD : va_D A [(mb, .inl (cB, 3, .inl bd)), (mu, .inl (cB, 3, .inl tu)), (ml, .inl (cI, 3, .inl la)), (mg, .inl (cI, 1200, .inl gd)), (mx, .inl (cI, 12, .inl ct)), (o, .inr (5, [.int th, .ref mt, .int (nI nT), .int lim, .ref mo, .int (nI nO), .ref mf, .int (nI nF), .ref mc, .ref mm, .ref mk, .ref mb, .int lfG, .int flG, .ref mu, .int f1, .int f2, .int ck, .ref ml, .ref mg, .ref mx])), (mc, .inl (cI, 3, .inl (fun j => nI (cm_3 j)))), (mm, .inl (cI, 3, .inl (fun j => nI (mnG j)))), (mk, .inl (cI, 1200, .inl kpG))] := hD
      refine lv_iconst (v := 0) hx hb d_M_take_90 (by decide +kernel) ?_
      exact ft_reti (cm_3, mnG, kpG, bd, tu, la, gd, ct, lfG, flG, f1, f2, ck) hx hb hr hlocks (hP.sub [5, 6, 7, 8, 0, 1, 2, 3, 4] rfl) hK (hD.sub [5, 6, 7, 8, 0, 1, 2, 3, 4] (by decide) rfl) hS (by show _ = takeM0 lim b (cm, mn, kp, bd, tu, la, gd, ct, lf, fl, f1, f2, ck); unfold takeM0; rw [if_neg c22, if_neg (show ¬ cm 0 = 0 from c54)]; show _ = (0, va_up cm 0 (cm 0 + 1), (cgM b cm mn kp lf fl).1, (cgM b cm mn kp lf fl).2.1, bd, tu, la, gd, ct, (cgM b cm mn kp lf fl).2.2.1, (cgM b cm mn kp lf fl).2.2.2, f1, f2, ck); rw [← e_g, ← ecm_3]) d_M_take_91
    · skip
      have c54 : cm 0 = 0 := (nI_eq (b := 0) (by omega) (by omega)).mp c54
      refine lv_aload_n hx hb d_M_take_57 rfl (lv_at hl 0 rfl) ?_
      refine lv_iload_n hx hb d_M_take_58 rfl (lv_at hl 1 rfl) ?_
      refine ft_cv (wc := [(o, .inr (5, [.int th, .ref mt, .int (nI nT), .int lim, .ref mo, .int (nI nO), .ref mf, .int (nI nF), .ref mc, .ref mm, .ref mk, .ref mb, .int lf, .int fl, .ref mu, .int f1, .int f2, .int ck, .ref ml, .ref mg, .ref mx])), (mc, .inl (cI, 3, .inl (fun j => nI (cm j)))), (mm, .inl (cI, 3, .inl (fun j => nI (mn j)))), (mb, .inl (cB, 3, .inl bd)), (mu, .inl (cB, 3, .inl tu))]) (wr := [(mk, .inl (cI, 1200, .inl kp)), (ml, .inl (cI, 3, .inl la)), (mg, .inl (cI, 1200, .inl gd)), (mx, .inl (cI, 12, .inl ct))]) (va_runV (As := [.int (nI 0)]) (rest := []) ⟨hx, hb, hml, hown, ht⟩ (c_M_begin_0 l D cI cB o mt mo mf mc mm mk mb mu ml mg mx th lim lf fl f1 f2 ck nT nO nF cm mn bd tu s.heap.size) (ft_cwV 1 ht bw_544 bw_546 bw_26 bw_39 bw_547 (by decide) ⟨Nat.le_of_ble_eq_true rfl, Nat.le_of_ble_eq_true rfl⟩) ⟨ft_blind, va_recv hK hP (ci := 5) (q0 := 0) rfl rfl, (ft_pre hP hD hK hNW [0, 1, 2, 4, 5] [0, 1] rfl rfl (by decide) rfl _)⟩ rfl rfl hl.1 rfl (lv_room (Nat.le_of_ble_eq_true rfl)) d_M_take_59 ⟨Nat.le_of_ble_eq_true rfl, Nat.le_of_ble_eq_true rfl⟩) hP hD hS hA [0, 1, 2, 4, 5] [3, 6, 7, 8] rfl rfl (by decide) (by decide) (fun u_5 H locs hu_5 hP hD hS => ?_)
      obtain ⟨cmB, mnB, bdB, tuB⟩ := u_5
      obtain ⟨e_cmB, e_mnB, e_bdB, e_tuB⟩ : cmB = va_up cm 0 0 ∧ mnB = va_up mn 0 0 ∧ bdB = upd bd 0 0 ∧ tuB = upd tu 0 0 := by simpa using hu_5
      have b_c : cmB 0 = 0 := by rw [e_cmB]; exact if_pos rfl
      have b_m : mnB 0 = 0 := by rw [e_mnB]; exact if_pos rfl
      have b_t : tuB 0 = 0 := by rw [e_tuB]; exact pk_us
      have hP : va_P D vwCl [(mk, .inl (cI, 1200, .inl kp)), (ml, .inl (cI, 3, .inl la)), (mg, .inl (cI, 1200, .inl gd)), (mx, .inl (cI, 12, .inl ct)), (o, .inr (5, [.int th, .ref mt, .int (nI nT), .int lim, .ref mo, .int (nI nO), .ref mf, .int (nI nF), .ref mc, .ref mm, .ref mk, .ref mb, .int 0, .int 0, .ref mu, .int f1, .int f2, .int ck, .ref ml, .ref mg, .ref mx])), (mc, .inl (cI, 3, .inl (fun j => nI (cmB j)))), (mm, .inl (cI, 3, .inl (fun j => nI (mnB j)))), (mb, .inl (cB, 3, .inl bdB)), (mu, .inl (cB, 3, .inl tuB))] H := hP
      have hD : va_D A [(mk, .inl (cI, 1200, .inl kp)), (ml, .inl (cI, 3, .inl la)), (mg, .inl (cI, 1200, .inl gd)), (mx, .inl (cI, 12, .inl ct)), (o, .inr (5, [.int th, .ref mt, .int (nI nT), .int lim, .ref mo, .int (nI nO), .ref mf, .int (nI nF), .ref mc, .ref mm, .ref mk, .ref mb, .int 0, .int 0, .ref mu, .int f1, .int f2, .int ck, .ref ml, .ref mg, .ref mx])), (mc, .inl (cI, 3, .inl (fun j => nI (cmB j)))), (mm, .inl (cI, 3, .inl (fun j => nI (mnB j)))), (mb, .inl (cB, 3, .inl bdB)), (mu, .inl (cB, 3, .inl tuB))] := hD
      refine lv_iload_n hx hb d_M_take_62 rfl (lv_at hl 1 rfl) ?_
      refine lv_if_ne (tgt := 74) hx hb d_M_take_63 (by decide) (fun c63 => absurd (by decide) c63) (fun _ => ?_)
      refine lv_aload_n hx hb d_M_take_66 rfl (lv_at hl 0 rfl) ?_
      refine lv_iload_n hx hb d_M_take_67 rfl (lv_at hl 2 rfl) ?_
      refine ft_cv (wc := [(o, .inr (5, [.int th, .ref mt, .int (nI nT), .int lim, .ref mo, .int (nI nO), .ref mf, .int (nI nF), .ref mc, .ref mm, .ref mk, .ref mb, .int 0, .int 0, .ref mu, .int f1, .int f2, .int ck, .ref ml, .ref mg, .ref mx])), (mc, .inl (cI, 3, .inl (fun j => nI (cmB j)))), (mm, .inl (cI, 3, .inl (fun j => nI (mnB j)))), (mk, .inl (cI, 1200, .inl kp))]) (wr := [(ml, .inl (cI, 3, .inl la)), (mg, .inl (cI, 1200, .inl gd)), (mx, .inl (cI, 12, .inl ct)), (mb, .inl (cB, 3, .inl bdB)), (mu, .inl (cB, 3, .inl tuB))]) (va_runV (As := [.int b]) (rest := []) ⟨hx, hb, hml, hown, ht⟩ (c_M_comeGroup l D cI cB o mt mo mf mc mm mk mb mu ml mg mx th lim 0 0 f1 f2 ck nT nO nF cmB mnB kp (by omega) (by omega) b H.size) (ft_cwV 1 ht bw_548 bw_550 bw_27 bw_39 bw_551 (by decide) ⟨Nat.le_of_ble_eq_true rfl, Nat.le_of_ble_eq_true rfl⟩) ⟨ft_blind, va_recv hK hP (ci := 5) (q0 := 4) rfl rfl, (ft_pre hP hD hK hNW [4, 5, 6, 0] [0, 1] rfl rfl (by decide) rfl _)⟩ rfl rfl hl.1 rfl (lv_room (Nat.le_of_ble_eq_true rfl)) d_M_take_68 ⟨Nat.le_of_ble_eq_true rfl, Nat.le_of_ble_eq_true rfl⟩) hP hD hS hA [4, 5, 6, 0] [1, 2, 3, 7, 8] rfl rfl (by decide) (by decide) (fun u_7 H locs hu_7 hP hD hS => ?_)
      obtain ⟨mnG, kpG, lfG, flG⟩ := u_7
      have e_g : (mnG, kpG, lfG, flG) = cgM b cmB mnB kp 0 0 := hu_7
      have hP : va_P D vwCl [(ml, .inl (cI, 3, .inl la)), (mg, .inl (cI, 1200, .inl gd)), (mx, .inl (cI, 12, .inl ct)), (mb, .inl (cB, 3, .inl bdB)), (mu, .inl (cB, 3, .inl tuB)), (o, .inr (5, [.int th, .ref mt, .int (nI nT), .int lim, .ref mo, .int (nI nO), .ref mf, .int (nI nF), .ref mc, .ref mm, .ref mk, .ref mb, .int lfG, .int flG, .ref mu, .int f1, .int f2, .int ck, .ref ml, .ref mg, .ref mx])), (mc, .inl (cI, 3, .inl (fun j => nI (cmB j)))), (mm, .inl (cI, 3, .inl (fun j => nI (mnG j)))), (mk, .inl (cI, 1200, .inl kpG))] H := hP
      have hD : va_D A [(ml, .inl (cI, 3, .inl la)), (mg, .inl (cI, 1200, .inl gd)), (mx, .inl (cI, 12, .inl ct)), (mb, .inl (cB, 3, .inl bdB)), (mu, .inl (cB, 3, .inl tuB)), (o, .inr (5, [.int th, .ref mt, .int (nI nT), .int lim, .ref mo, .int (nI nO), .ref mf, .int (nI nF), .ref mc, .ref mm, .ref mk, .ref mb, .int lfG, .int flG, .ref mu, .int f1, .int f2, .int ck, .ref ml, .ref mg, .ref mx])), (mc, .inl (cI, 3, .inl (fun j => nI (cmB j)))), (mm, .inl (cI, 3, .inl (fun j => nI (mnG j)))), (mk, .inl (cI, 1200, .inl kpG))] := hD
      refine lv_goto (tgt := 80) hx hb d_M_take_71 (by decide) ?_
      refine lv_aload_n hx hb d_M_take_80 rfl (lv_at hl 0 rfl) ?_
      refine va_get (D := D) (ci := 5) (v := .ref mc) (C := R_M) (T := F_M) (N := 21) hx hb ht bi_M hown hK hP 5 rfl rfl 8 (by decide) (ht _ bw_415) (fun _ h9 => h9) rfl d_M_take_81 ?_
      refine lv_iload_n hx hb d_M_take_84 rfl (lv_at hl 1 rfl) ?_
      refine lv_dup2_11 hx hb d_M_take_85 rfl rfl ?_
      refine va_iald hx hb hK hP 6 0 rfl rfl (vp_in_nI (by omega) (by omega)) d_M_take_86 ?_
      refine ft_top (y := nI (cmB 0)) (congrArg (fun j => nI (cmB j)) (by decide)) ?_
      refine lv_iconst (v := nI 1) hx hb d_M_take_87 (by decide +kernel) ?_
      refine lv_iadd hx hb d_M_take_88 ?_
      refine ft_top (nI_add (cmB 0) 1) ?_
      refine va_iast hx hb hK hP hD hS 6 0 rfl rfl (vp_in_nI (by omega) (by omega)) d_M_take_89 (fun H locs hP hD hS => ?_)
      rw [show (nI 0).toNatClampNeg = 0 from by decide] at hP hD
      rw [upd_nI] at hP hD
      obtain ⟨cmB_8, ecmB_8⟩ : ∃ g : Nat → Nat, g = va_up cmB 0 (cmB 0 + 1) := ⟨_, rfl⟩
      rw [← ecmB_8] at hP hD
      have hP : va_P D vwCl [(ml, .inl (cI, 3, .inl la)), (mg, .inl (cI, 1200, .inl gd)), (mx, .inl (cI, 12, .inl ct)), (mb, .inl (cB, 3, .inl bdB)), (mu, .inl (cB, 3, .inl tuB)), (o, .inr (5, [.int th, .ref mt, .int (nI nT), .int lim, .ref mo, .int (nI nO), .ref mf, .int (nI nF), .ref mc, .ref mm, .ref mk, .ref mb, .int lfG, .int flG, .ref mu, .int f1, .int f2, .int ck, .ref ml, .ref mg, .ref mx])), (mc, .inl (cI, 3, .inl (fun j => nI (cmB_8 j)))), (mm, .inl (cI, 3, .inl (fun j => nI (mnG j)))), (mk, .inl (cI, 1200, .inl kpG))] H := hP
      have hD : va_D A [(ml, .inl (cI, 3, .inl la)), (mg, .inl (cI, 1200, .inl gd)), (mx, .inl (cI, 12, .inl ct)), (mb, .inl (cB, 3, .inl bdB)), (mu, .inl (cB, 3, .inl tuB)), (o, .inr (5, [.int th, .ref mt, .int (nI nT), .int lim, .ref mo, .int (nI nO), .ref mf, .int (nI nF), .ref mc, .ref mm, .ref mk, .ref mb, .int lfG, .int flG, .ref mu, .int f1, .int f2, .int ck, .ref ml, .ref mg, .ref mx])), (mc, .inl (cI, 3, .inl (fun j => nI (cmB_8 j)))), (mm, .inl (cI, 3, .inl (fun j => nI (mnG j)))), (mk, .inl (cI, 1200, .inl kpG))] := hD
      refine lv_iconst (v := 0) hx hb d_M_take_90 (by decide +kernel) ?_
      exact ft_reti (cmB_8, mnG, kpG, bdB, tuB, la, gd, ct, lfG, flG, f1, f2, ck) hx hb hr hlocks (hP.sub [5, 6, 7, 8, 3, 4, 0, 1, 2] rfl) hK (hD.sub [5, 6, 7, 8, 3, 4, 0, 1, 2] (by decide) rfl) hS (by show _ = takeM0 lim b (cm, mn, kp, bd, tu, la, gd, ct, lf, fl, f1, f2, ck); unfold takeM0; rw [if_neg c22, if_pos (show cm 0 = 0 from c54)]; show _ = (0, stepM0 b (va_up cm 0 0, va_up mn 0 0, kp, upd bd 0 0, upd tu 0 0, la, gd, ct, 0, 0, f1, f2, ck)); rw [← e_cmB, ← e_mnB, ← e_bdB, ← e_tuB]; show _ = (0, va_up cmB 0 (cmB 0 + 1), (cgM b cmB mnB kp 0 0).1, (cgM b cmB mnB kp 0 0).2.1, bdB, tuB, la, gd, ct, (cgM b cmB mnB kp 0 0).2.2.1, (cgM b cmB mnB kp 0 0).2.2.2, f1, f2, ck); rw [← e_g, ← ecmB_8]) d_M_take_91
  · skip
    refine lv_iload_n hx hb d_M_take_25 rfl (lv_at hl 1 rfl) ?_
    refine lv_if_le (tgt := 42) hx hb d_M_take_26 (by decide) (fun _ => ?_) (fun c26 => absurd (by decide) c26)
    refine lv_aload_n hx hb d_M_take_42 rfl (lv_at hl 0 rfl) ?_
    refine lv_iload_n hx hb d_M_take_43 rfl (lv_at hl 1 rfl) ?_
    refine ft_ci (wc := [(o, .inr (5, [.int th, .ref mt, .int (nI nT), .int lim, .ref mo, .int (nI nO), .ref mf, .int (nI nF), .ref mc, .ref mm, .ref mk, .ref mb, .int lf, .int fl, .ref mu, .int f1, .int f2, .int ck, .ref ml, .ref mg, .ref mx])), (mc, .inl (cI, 3, .inl (fun j => nI (cm j)))), (mm, .inl (cI, 3, .inl (fun j => nI (mn j)))), (mk, .inl (cI, 1200, .inl kp)), (mb, .inl (cB, 3, .inl bd)), (mu, .inl (cB, 3, .inl tu)), (ml, .inl (cI, 3, .inl la)), (mg, .inl (cI, 1200, .inl gd)), (mx, .inl (cI, 12, .inl ct))]) (wr := []) (va_runV (As := [.int (nI 0)]) (rest := []) ⟨hx, hb, hml, hown, ht⟩ (c_M_ends_0 l D cI cB o mt mo mf mc mm mk mb mu ml mg mx th lim lf fl f1 f2 ck nT nO nF cm mn kp bd tu la gd ct hC hM hL s.heap.size) (ft_cwV 1 ht bw_536 bw_538 bw_24 bw_39 bw_539 (by decide) ⟨Nat.le_of_ble_eq_true rfl, Nat.le_of_ble_eq_true rfl⟩) ⟨ft_blind, va_recv hK hP (ci := 5) (q0 := 0) rfl rfl, (ft_pre hP hD hK hNW [0, 1, 2, 3, 4, 5, 6, 7, 8] [0, 1] rfl rfl (by decide) rfl _)⟩ rfl rfl hl.1 rfl (lv_room (Nat.le_of_ble_eq_true rfl)) d_M_take_44 ⟨Nat.le_of_ble_eq_true rfl, Nat.le_of_ble_eq_true rfl⟩) hP hD hS hA [0, 1, 2, 3, 4, 5, 6, 7, 8] [] rfl rfl (by decide) (by decide) (fun r_9 u_10 H locs hu_10 hP hD hS => ?_)
    obtain ⟨cmE, mnE, kpE, bdE, tuE, laE, gdE, ctE, lfE, flE, f1E, f2E, ckE⟩ := u_10
    have hP : va_P D vwCl [(o, .inr (5, [.int th, .ref mt, .int (nI nT), .int lim, .ref mo, .int (nI nO), .ref mf, .int (nI nF), .ref mc, .ref mm, .ref mk, .ref mb, .int lfE, .int flE, .ref mu, .int f1E, .int f2E, .int ckE, .ref ml, .ref mg, .ref mx])), (mc, .inl (cI, 3, .inl (fun j => nI (cmE j)))), (mm, .inl (cI, 3, .inl (fun j => nI (mnE j)))), (mk, .inl (cI, 1200, .inl kpE)), (mb, .inl (cB, 3, .inl bdE)), (mu, .inl (cB, 3, .inl tuE)), (ml, .inl (cI, 3, .inl laE)), (mg, .inl (cI, 1200, .inl gdE)), (mx, .inl (cI, 12, .inl ctE))] H := hP
    have hD : va_D A [(o, .inr (5, [.int th, .ref mt, .int (nI nT), .int lim, .ref mo, .int (nI nO), .ref mf, .int (nI nF), .ref mc, .ref mm, .ref mk, .ref mb, .int lfE, .int flE, .ref mu, .int f1E, .int f2E, .int ckE, .ref ml, .ref mg, .ref mx])), (mc, .inl (cI, 3, .inl (fun j => nI (cmE j)))), (mm, .inl (cI, 3, .inl (fun j => nI (mnE j)))), (mk, .inl (cI, 1200, .inl kpE)), (mb, .inl (cB, 3, .inl bdE)), (mu, .inl (cB, 3, .inl tuE)), (ml, .inl (cI, 3, .inl laE)), (mg, .inl (cI, 1200, .inl gdE)), (mx, .inl (cI, 12, .inl ctE))] := hD
    exact ft_reti (cmE, mnE, kpE, bdE, tuE, laE, gdE, ctE, lfE, flE, f1E, f2E, ckE) hx hb hr hlocks hP hK hD hS (by show _ = takeM0 lim b (cm, mn, kp, bd, tu, la, gd, ct, lf, fl, f1, f2, ck); unfold takeM0; rw [if_pos c22]; exact hu_10) d_M_take_47

set_option maxHeartbeats 4000000 in
set_option maxRecDepth 100000 in
theorem c_M_take_1 (l : Launch) (D : va_G) (cI : ClassId) (cB : ClassId) (o mt mo mf mc mm mk mb mu ml mg mx : Nat) (th lim lf fl f1 f2 ck : Int32) (nT nO nF : Nat) (cm mn : Nat → Nat) (kp bd tu la gd ct : Nat → Int32) (hC : cm 1 < 1073741824) (hM : mn 1 < 1073741824) (hB : tu 1 = 0 ∨ tu 1 = 1) (hL : lim ≤ 400) (b : Int32) (sz : Nat) : ft_Mi l y_M_take (.code y_M_take b_M_take 3 (some .int) :: ft_big) ({ frames := 2, cells := 0, slots := 0, locals := 80 }) D [(cI, .int), (cB, .boolean)] sz [.ref o, .int (nI 1), .int b] [(o, .inr (5, [.int th, .ref mt, .int (nI nT), .int lim, .ref mo, .int (nI nO), .ref mf, .int (nI nF), .ref mc, .ref mm, .ref mk, .ref mb, .int lf, .int fl, .ref mu, .int f1, .int f2, .int ck, .ref ml, .ref mg, .ref mx])), (mc, .inl (cI, 3, .inl (fun j => nI (cm j)))), (mm, .inl (cI, 3, .inl (fun j => nI (mn j)))), (mk, .inl (cI, 1200, .inl kp)), (mb, .inl (cB, 3, .inl bd)), (mu, .inl (cB, 3, .inl tu)), (ml, .inl (cI, 3, .inl la)), (mg, .inl (cI, 1200, .inl gd)), (mx, .inl (cI, 12, .inl ct))] (fun (v : Int32) (u : MR) => (v, u) = takeM1 lim b (cm, mn, kp, bd, tu, la, gd, ct, lf, fl, f1, f2, ck)) (fun u : MR => [(o, .inr (5, [.int th, .ref mt, .int (nI nT), .int lim, .ref mo, .int (nI nO), .ref mf, .int (nI nF), .ref mc, .ref mm, .ref mk, .ref mb, .int u.2.2.2.2.2.2.2.2.1, .int u.2.2.2.2.2.2.2.2.2.1, .ref mu, .int u.2.2.2.2.2.2.2.2.2.2.1, .int u.2.2.2.2.2.2.2.2.2.2.2.1, .int u.2.2.2.2.2.2.2.2.2.2.2.2, .ref ml, .ref mg, .ref mx])), (mc, .inl (cI, 3, .inl (fun j => nI (u.1 j)))), (mm, .inl (cI, 3, .inl (fun j => nI (u.2.1 j)))), (mk, .inl (cI, 1200, .inl u.2.2.1)), (mb, .inl (cB, 3, .inl u.2.2.2.1)), (mu, .inl (cB, 3, .inl u.2.2.2.2.1)), (ml, .inl (cI, 3, .inl u.2.2.2.2.2.1)), (mg, .inl (cI, 1200, .inl u.2.2.2.2.2.2.1)), (mx, .inl (cI, 12, .inl u.2.2.2.2.2.2.2.1))]) 0 0 := by
  refine ft_ei (cc := b_M_take) (maxL := 3) (ret := (some .int)) (by decide) rfl (Nat.le_of_ble_eq_true rfl) ?_
  intro p e s m below meth c A ls hx hb hr hml hts hown hlocks hmn hP hK hD hA hS hNW hl
  have ht : ∀ w ∈ ft_big, w.before _ s = true := fun w h => hts w (List.mem_cons_of_mem _ h)
  have hP : va_P D vwCl [(o, .inr (5, [.int th, .ref mt, .int (nI nT), .int lim, .ref mo, .int (nI nO), .ref mf, .int (nI nF), .ref mc, .ref mm, .ref mk, .ref mb, .int lf, .int fl, .ref mu, .int f1, .int f2, .int ck, .ref ml, .ref mg, .ref mx])), (mc, .inl (cI, 3, .inl (fun j => nI (cm j)))), (mm, .inl (cI, 3, .inl (fun j => nI (mn j)))), (mk, .inl (cI, 1200, .inl kp)), (mb, .inl (cB, 3, .inl bd)), (mu, .inl (cB, 3, .inl tu)), (ml, .inl (cI, 3, .inl la)), (mg, .inl (cI, 1200, .inl gd)), (mx, .inl (cI, 12, .inl ct))] s.heap := hP
  have hD : va_D A [(o, .inr (5, [.int th, .ref mt, .int (nI nT), .int lim, .ref mo, .int (nI nO), .ref mf, .int (nI nF), .ref mc, .ref mm, .ref mk, .ref mb, .int lf, .int fl, .ref mu, .int f1, .int f2, .int ck, .ref ml, .ref mg, .ref mx])), (mc, .inl (cI, 3, .inl (fun j => nI (cm j)))), (mm, .inl (cI, 3, .inl (fun j => nI (mn j)))), (mk, .inl (cI, 1200, .inl kp)), (mb, .inl (cB, 3, .inl bd)), (mu, .inl (cB, 3, .inl tu)), (ml, .inl (cI, 3, .inl la)), (mg, .inl (cI, 1200, .inl gd)), (mx, .inl (cI, 12, .inl ct))] := hD
  have hl : lv_has ls 3 [(0, .ref o), (1, .int (nI 1)), (2, .int b)] := hl
  refine lv_iload_n hx hb d_M_take_0 rfl (lv_at hl 2 rfl) ?_
  refine lv_iload_n hx hb d_M_take_1 rfl (lv_at hl 1 rfl) ?_
  refine lv_if_ne (tgt := 9) hx hb d_M_take_2 (by decide) (fun _ => ?_) (fun c2 => absurd c2 (by decide))
  refine lv_iload_n hx hb d_M_take_9 rfl (lv_at hl 1 rfl) ?_
  refine lv_iconst (v := nI 1) hx hb d_M_take_10 (by decide +kernel) ?_
  refine lv_icmp_ne (tgt := 20) hx hb d_M_take_11 (by decide) (fun c11 => absurd (by decide) c11) (fun _ => ?_)
  refine lv_sipush (v := 192) hx hb d_M_take_14 (by decide +kernel) ?_
  refine lv_goto (tgt := 22) hx hb d_M_take_17 (by decide) ?_
  refine lv_icmp_ne (tgt := 48) hx hb d_M_take_22 (by decide) (fun c22 => ?_) (fun c22 => ?_)
  · skip
    refine lv_aload_n hx hb d_M_take_48 rfl (lv_at hl 0 rfl) ?_
    refine va_get (D := D) (ci := 5) (v := .ref mc) (C := R_M) (T := F_M) (N := 21) hx hb ht bi_M hown hK hP 0 rfl rfl 8 (by decide) (ht _ bw_415) (fun _ h9 => h9) rfl d_M_take_49 ?_
    refine lv_iload_n hx hb d_M_take_52 rfl (lv_at hl 1 rfl) ?_
    refine va_iald hx hb hK hP 1 0 rfl rfl (vp_in_nI (by omega) (by omega)) d_M_take_53 ?_
    refine ft_top (y := nI (cm 1)) (congrArg (fun j => nI (cm j)) (by decide)) ?_
    refine lv_if_ne (tgt := 62) hx hb d_M_take_54 (by decide) (fun c54 => ?_) (fun c54 => ?_)
    · skip
      have c54 : ¬ cm 1 = 0 := fun h => c54 ((nI_eq (b := 0) (by omega) (by omega)).mpr h)
      refine lv_iload_n hx hb d_M_take_62 rfl (lv_at hl 1 rfl) ?_
      refine lv_if_ne (tgt := 74) hx hb d_M_take_63 (by decide) (fun _ => ?_) (fun c63 => absurd c63 (by decide))
      refine lv_aload_n hx hb d_M_take_74 rfl (lv_at hl 0 rfl) ?_
      refine lv_iload_n hx hb d_M_take_75 rfl (lv_at hl 1 rfl) ?_
      refine lv_iload_n hx hb d_M_take_76 rfl (lv_at hl 2 rfl) ?_
      refine ft_cv (wc := [(o, .inr (5, [.int th, .ref mt, .int (nI nT), .int lim, .ref mo, .int (nI nO), .ref mf, .int (nI nF), .ref mc, .ref mm, .ref mk, .ref mb, .int lf, .int fl, .ref mu, .int f1, .int f2, .int ck, .ref ml, .ref mg, .ref mx])), (mm, .inl (cI, 3, .inl (fun j => nI (mn j)))), (mk, .inl (cI, 1200, .inl kp)), (mb, .inl (cB, 3, .inl bd)), (mu, .inl (cB, 3, .inl tu))]) (wr := [(mc, .inl (cI, 3, .inl (fun j => nI (cm j)))), (ml, .inl (cI, 3, .inl la)), (mg, .inl (cI, 1200, .inl gd)), (mx, .inl (cI, 12, .inl ct))]) (va_runV (As := [.int (nI 1), .int b]) (rest := []) ⟨hx, hb, hml, hown, ht⟩ (c_M_comeTurned_1 l D cI cB o mt mo mf mc mm mk mb mu ml mg mx th lim lf fl f1 f2 ck nT nO nF mn kp bd tu (by omega) hB b s.heap.size) (ft_cwV 2 ht bw_556 bw_558 bw_29 bw_39 bw_559 (by decide) ⟨Nat.le_of_ble_eq_true rfl, Nat.le_of_ble_eq_true rfl⟩) ⟨ft_blind, va_recv hK hP (ci := 5) (q0 := 0) rfl rfl, (ft_pre hP hD hK hNW [0, 2, 3, 4, 5] [0, 1] rfl rfl (by decide) rfl _)⟩ rfl rfl hl.1 rfl (lv_room (Nat.le_of_ble_eq_true rfl)) d_M_take_77 ⟨Nat.le_of_ble_eq_true rfl, Nat.le_of_ble_eq_true rfl⟩) hP hD hS hA [0, 2, 3, 4, 5] [1, 6, 7, 8] rfl rfl (by decide) (by decide) (fun u_2 H locs hu_2 hP hD hS => ?_)
      obtain ⟨mnG, kpG, bdG, tuG⟩ := u_2
      obtain ⟨e_g, e_b, e_u⟩ : (mnG, kpG) = ctM1 b mn kp bd tu ∧ bdG = itB1 b bd tu ∧ tuG = itT 1 219 b tu := hu_2
      have hP : va_P D vwCl [(mc, .inl (cI, 3, .inl (fun j => nI (cm j)))), (ml, .inl (cI, 3, .inl la)), (mg, .inl (cI, 1200, .inl gd)), (mx, .inl (cI, 12, .inl ct)), (o, .inr (5, [.int th, .ref mt, .int (nI nT), .int lim, .ref mo, .int (nI nO), .ref mf, .int (nI nF), .ref mc, .ref mm, .ref mk, .ref mb, .int lf, .int fl, .ref mu, .int f1, .int f2, .int ck, .ref ml, .ref mg, .ref mx])), (mm, .inl (cI, 3, .inl (fun j => nI (mnG j)))), (mk, .inl (cI, 1200, .inl kpG)), (mb, .inl (cB, 3, .inl bdG)), (mu, .inl (cB, 3, .inl tuG))] H := hP
      have hD : va_D A [(mc, .inl (cI, 3, .inl (fun j => nI (cm j)))), (ml, .inl (cI, 3, .inl la)), (mg, .inl (cI, 1200, .inl gd)), (mx, .inl (cI, 12, .inl ct)), (o, .inr (5, [.int th, .ref mt, .int (nI nT), .int lim, .ref mo, .int (nI nO), .ref mf, .int (nI nF), .ref mc, .ref mm, .ref mk, .ref mb, .int lf, .int fl, .ref mu, .int f1, .int f2, .int ck, .ref ml, .ref mg, .ref mx])), (mm, .inl (cI, 3, .inl (fun j => nI (mnG j)))), (mk, .inl (cI, 1200, .inl kpG)), (mb, .inl (cB, 3, .inl bdG)), (mu, .inl (cB, 3, .inl tuG))] := hD
      refine lv_aload_n hx hb d_M_take_80 rfl (lv_at hl 0 rfl) ?_
      refine va_get (D := D) (ci := 5) (v := .ref mc) (C := R_M) (T := F_M) (N := 21) hx hb ht bi_M hown hK hP 4 rfl rfl 8 (by decide) (ht _ bw_415) (fun _ h9 => h9) rfl d_M_take_81 ?_
      refine lv_iload_n hx hb d_M_take_84 rfl (lv_at hl 1 rfl) ?_
      refine lv_dup2_11 hx hb d_M_take_85 rfl rfl ?_
      refine va_iald hx hb hK hP 0 0 rfl rfl (vp_in_nI (by omega) (by omega)) d_M_take_86 ?_
      refine ft_top (y := nI (cm 1)) (congrArg (fun j => nI (cm j)) (by decide)) ?_
      refine lv_iconst (v := nI 1) hx hb d_M_take_87 (by decide +kernel) ?_
      refine lv_iadd hx hb d_M_take_88 ?_
      refine ft_top (nI_add (cm 1) 1) ?_
      refine va_iast hx hb hK hP hD hS 0 0 rfl rfl (vp_in_nI (by omega) (by omega)) d_M_take_89 (fun H locs hP hD hS => ?_)
      rw [show (nI 1).toNatClampNeg = 1 from by decide] at hP hD
      rw [upd_nI] at hP hD
      obtain ⟨cm_3, ecm_3⟩ : ∃ g : Nat → Nat, g = va_up cm 1 (cm 1 + 1) := ⟨_, rfl⟩
      rw [← ecm_3] at hP hD
      have hP : va_P D vwCl [(mc, .inl (cI, 3, .inl (fun j => nI (cm_3 j)))), (ml, .inl (cI, 3, .inl la)), (mg, .inl (cI, 1200, .inl gd)), (mx, .inl (cI, 12, .inl ct)), (o, .inr (5, [.int th, .ref mt, .int (nI nT), .int lim, .ref mo, .int (nI nO), .ref mf, .int (nI nF), .ref mc, .ref mm, .ref mk, .ref mb, .int lf, .int fl, .ref mu, .int f1, .int f2, .int ck, .ref ml, .ref mg, .ref mx])), (mm, .inl (cI, 3, .inl (fun j => nI (mnG j)))), (mk, .inl (cI, 1200, .inl kpG)), (mb, .inl (cB, 3, .inl bdG)), (mu, .inl (cB, 3, .inl tuG))] H := hP
      have hD : va_D A [(mc, .inl (cI, 3, .inl (fun j => nI (cm_3 j)))), (ml, .inl (cI, 3, .inl la)), (mg, .inl (cI, 1200, .inl gd)), (mx, .inl (cI, 12, .inl ct)), (o, .inr (5, [.int th, .ref mt, .int (nI nT), .int lim, .ref mo, .int (nI nO), .ref mf, .int (nI nF), .ref mc, .ref mm, .ref mk, .ref mb, .int lf, .int fl, .ref mu, .int f1, .int f2, .int ck, .ref ml, .ref mg, .ref mx])), (mm, .inl (cI, 3, .inl (fun j => nI (mnG j)))), (mk, .inl (cI, 1200, .inl kpG)), (mb, .inl (cB, 3, .inl bdG)), (mu, .inl (cB, 3, .inl tuG))] := hD
      refine lv_iconst (v := 0) hx hb d_M_take_90 (by decide +kernel) ?_
      exact ft_reti (cm_3, mnG, kpG, bdG, tuG, la, gd, ct, lf, fl, f1, f2, ck) hx hb hr hlocks (hP.sub [4, 0, 5, 6, 7, 8, 1, 2, 3] rfl) hK (hD.sub [4, 0, 5, 6, 7, 8, 1, 2, 3] (by decide) rfl) hS (by show _ = takeM1 lim b (cm, mn, kp, bd, tu, la, gd, ct, lf, fl, f1, f2, ck); unfold takeM1; rw [if_neg c22, if_neg (show ¬ cm 1 = 0 from c54)]; show _ = (0, va_up cm 1 (cm 1 + 1), (ctM1 b mn kp bd tu).1, (ctM1 b mn kp bd tu).2, itB1 b bd tu, itT 1 219 b tu, la, gd, ct, lf, fl, f1, f2, ck); rw [← e_g, ← e_b, ← e_u, ← ecm_3]) d_M_take_91
    · skip
      have c54 : cm 1 = 0 := (nI_eq (b := 0) (by omega) (by omega)).mp c54
      refine lv_aload_n hx hb d_M_take_57 rfl (lv_at hl 0 rfl) ?_
      refine lv_iload_n hx hb d_M_take_58 rfl (lv_at hl 1 rfl) ?_
      refine ft_cv (wc := [(o, .inr (5, [.int th, .ref mt, .int (nI nT), .int lim, .ref mo, .int (nI nO), .ref mf, .int (nI nF), .ref mc, .ref mm, .ref mk, .ref mb, .int lf, .int fl, .ref mu, .int f1, .int f2, .int ck, .ref ml, .ref mg, .ref mx])), (mc, .inl (cI, 3, .inl (fun j => nI (cm j)))), (mm, .inl (cI, 3, .inl (fun j => nI (mn j)))), (mb, .inl (cB, 3, .inl bd)), (mu, .inl (cB, 3, .inl tu))]) (wr := [(mk, .inl (cI, 1200, .inl kp)), (ml, .inl (cI, 3, .inl la)), (mg, .inl (cI, 1200, .inl gd)), (mx, .inl (cI, 12, .inl ct))]) (va_runV (As := [.int (nI 1)]) (rest := []) ⟨hx, hb, hml, hown, ht⟩ (c_M_begin_1 l D cI cB o mt mo mf mc mm mk mb mu ml mg mx th lim lf fl f1 f2 ck nT nO nF cm mn bd tu s.heap.size) (ft_cwV 1 ht bw_544 bw_546 bw_26 bw_39 bw_547 (by decide) ⟨Nat.le_of_ble_eq_true rfl, Nat.le_of_ble_eq_true rfl⟩) ⟨ft_blind, va_recv hK hP (ci := 5) (q0 := 0) rfl rfl, (ft_pre hP hD hK hNW [0, 1, 2, 4, 5] [0, 1] rfl rfl (by decide) rfl _)⟩ rfl rfl hl.1 rfl (lv_room (Nat.le_of_ble_eq_true rfl)) d_M_take_59 ⟨Nat.le_of_ble_eq_true rfl, Nat.le_of_ble_eq_true rfl⟩) hP hD hS hA [0, 1, 2, 4, 5] [3, 6, 7, 8] rfl rfl (by decide) (by decide) (fun u_5 H locs hu_5 hP hD hS => ?_)
      obtain ⟨cmB, mnB, bdB, tuB⟩ := u_5
      obtain ⟨e_cmB, e_mnB, e_bdB, e_tuB⟩ : cmB = va_up cm 1 0 ∧ mnB = va_up mn 1 0 ∧ bdB = upd bd 1 0 ∧ tuB = upd tu 1 0 := by simpa using hu_5
      have b_c : cmB 1 = 0 := by rw [e_cmB]; exact if_pos rfl
      have b_m : mnB 1 = 0 := by rw [e_mnB]; exact if_pos rfl
      have b_t : tuB 1 = 0 := by rw [e_tuB]; exact pk_us
      have hP : va_P D vwCl [(mk, .inl (cI, 1200, .inl kp)), (ml, .inl (cI, 3, .inl la)), (mg, .inl (cI, 1200, .inl gd)), (mx, .inl (cI, 12, .inl ct)), (o, .inr (5, [.int th, .ref mt, .int (nI nT), .int lim, .ref mo, .int (nI nO), .ref mf, .int (nI nF), .ref mc, .ref mm, .ref mk, .ref mb, .int lf, .int fl, .ref mu, .int f1, .int f2, .int ck, .ref ml, .ref mg, .ref mx])), (mc, .inl (cI, 3, .inl (fun j => nI (cmB j)))), (mm, .inl (cI, 3, .inl (fun j => nI (mnB j)))), (mb, .inl (cB, 3, .inl bdB)), (mu, .inl (cB, 3, .inl tuB))] H := hP
      have hD : va_D A [(mk, .inl (cI, 1200, .inl kp)), (ml, .inl (cI, 3, .inl la)), (mg, .inl (cI, 1200, .inl gd)), (mx, .inl (cI, 12, .inl ct)), (o, .inr (5, [.int th, .ref mt, .int (nI nT), .int lim, .ref mo, .int (nI nO), .ref mf, .int (nI nF), .ref mc, .ref mm, .ref mk, .ref mb, .int lf, .int fl, .ref mu, .int f1, .int f2, .int ck, .ref ml, .ref mg, .ref mx])), (mc, .inl (cI, 3, .inl (fun j => nI (cmB j)))), (mm, .inl (cI, 3, .inl (fun j => nI (mnB j)))), (mb, .inl (cB, 3, .inl bdB)), (mu, .inl (cB, 3, .inl tuB))] := hD
      refine lv_iload_n hx hb d_M_take_62 rfl (lv_at hl 1 rfl) ?_
      refine lv_if_ne (tgt := 74) hx hb d_M_take_63 (by decide) (fun _ => ?_) (fun c63 => absurd c63 (by decide))
      refine lv_aload_n hx hb d_M_take_74 rfl (lv_at hl 0 rfl) ?_
      refine lv_iload_n hx hb d_M_take_75 rfl (lv_at hl 1 rfl) ?_
      refine lv_iload_n hx hb d_M_take_76 rfl (lv_at hl 2 rfl) ?_
      refine ft_cv (wc := [(o, .inr (5, [.int th, .ref mt, .int (nI nT), .int lim, .ref mo, .int (nI nO), .ref mf, .int (nI nF), .ref mc, .ref mm, .ref mk, .ref mb, .int lf, .int fl, .ref mu, .int f1, .int f2, .int ck, .ref ml, .ref mg, .ref mx])), (mm, .inl (cI, 3, .inl (fun j => nI (mnB j)))), (mk, .inl (cI, 1200, .inl kp)), (mb, .inl (cB, 3, .inl bdB)), (mu, .inl (cB, 3, .inl tuB))]) (wr := [(ml, .inl (cI, 3, .inl la)), (mg, .inl (cI, 1200, .inl gd)), (mx, .inl (cI, 12, .inl ct)), (mc, .inl (cI, 3, .inl (fun j => nI (cmB j))))]) (va_runV (As := [.int (nI 1), .int b]) (rest := []) ⟨hx, hb, hml, hown, ht⟩ (c_M_comeTurned_1 l D cI cB o mt mo mf mc mm mk mb mu ml mg mx th lim lf fl f1 f2 ck nT nO nF mnB kp bdB tuB (by omega) (Or.inl b_t) b H.size) (ft_cwV 2 ht bw_556 bw_558 bw_29 bw_39 bw_559 (by decide) ⟨Nat.le_of_ble_eq_true rfl, Nat.le_of_ble_eq_true rfl⟩) ⟨ft_blind, va_recv hK hP (ci := 5) (q0 := 4) rfl rfl, (ft_pre hP hD hK hNW [4, 6, 0, 7, 8] [0, 1] rfl rfl (by decide) rfl _)⟩ rfl rfl hl.1 rfl (lv_room (Nat.le_of_ble_eq_true rfl)) d_M_take_77 ⟨Nat.le_of_ble_eq_true rfl, Nat.le_of_ble_eq_true rfl⟩) hP hD hS hA [4, 6, 0, 7, 8] [1, 2, 3, 5] rfl rfl (by decide) (by decide) (fun u_7 H locs hu_7 hP hD hS => ?_)
      obtain ⟨mnG, kpG, bdG, tuG⟩ := u_7
      obtain ⟨e_g, e_b, e_u⟩ : (mnG, kpG) = ctM1 b mnB kp bdB tuB ∧ bdG = itB1 b bdB tuB ∧ tuG = itT 1 219 b tuB := hu_7
      have hP : va_P D vwCl [(ml, .inl (cI, 3, .inl la)), (mg, .inl (cI, 1200, .inl gd)), (mx, .inl (cI, 12, .inl ct)), (mc, .inl (cI, 3, .inl (fun j => nI (cmB j)))), (o, .inr (5, [.int th, .ref mt, .int (nI nT), .int lim, .ref mo, .int (nI nO), .ref mf, .int (nI nF), .ref mc, .ref mm, .ref mk, .ref mb, .int lf, .int fl, .ref mu, .int f1, .int f2, .int ck, .ref ml, .ref mg, .ref mx])), (mm, .inl (cI, 3, .inl (fun j => nI (mnG j)))), (mk, .inl (cI, 1200, .inl kpG)), (mb, .inl (cB, 3, .inl bdG)), (mu, .inl (cB, 3, .inl tuG))] H := hP
      have hD : va_D A [(ml, .inl (cI, 3, .inl la)), (mg, .inl (cI, 1200, .inl gd)), (mx, .inl (cI, 12, .inl ct)), (mc, .inl (cI, 3, .inl (fun j => nI (cmB j)))), (o, .inr (5, [.int th, .ref mt, .int (nI nT), .int lim, .ref mo, .int (nI nO), .ref mf, .int (nI nF), .ref mc, .ref mm, .ref mk, .ref mb, .int lf, .int fl, .ref mu, .int f1, .int f2, .int ck, .ref ml, .ref mg, .ref mx])), (mm, .inl (cI, 3, .inl (fun j => nI (mnG j)))), (mk, .inl (cI, 1200, .inl kpG)), (mb, .inl (cB, 3, .inl bdG)), (mu, .inl (cB, 3, .inl tuG))] := hD
      refine lv_aload_n hx hb d_M_take_80 rfl (lv_at hl 0 rfl) ?_
      refine va_get (D := D) (ci := 5) (v := .ref mc) (C := R_M) (T := F_M) (N := 21) hx hb ht bi_M hown hK hP 4 rfl rfl 8 (by decide) (ht _ bw_415) (fun _ h9 => h9) rfl d_M_take_81 ?_
      refine lv_iload_n hx hb d_M_take_84 rfl (lv_at hl 1 rfl) ?_
      refine lv_dup2_11 hx hb d_M_take_85 rfl rfl ?_
      refine va_iald hx hb hK hP 3 0 rfl rfl (vp_in_nI (by omega) (by omega)) d_M_take_86 ?_
      refine ft_top (y := nI (cmB 1)) (congrArg (fun j => nI (cmB j)) (by decide)) ?_
      refine lv_iconst (v := nI 1) hx hb d_M_take_87 (by decide +kernel) ?_
      refine lv_iadd hx hb d_M_take_88 ?_
      refine ft_top (nI_add (cmB 1) 1) ?_
      refine va_iast hx hb hK hP hD hS 3 0 rfl rfl (vp_in_nI (by omega) (by omega)) d_M_take_89 (fun H locs hP hD hS => ?_)
      rw [show (nI 1).toNatClampNeg = 1 from by decide] at hP hD
      rw [upd_nI] at hP hD
      obtain ⟨cmB_8, ecmB_8⟩ : ∃ g : Nat → Nat, g = va_up cmB 1 (cmB 1 + 1) := ⟨_, rfl⟩
      rw [← ecmB_8] at hP hD
      have hP : va_P D vwCl [(ml, .inl (cI, 3, .inl la)), (mg, .inl (cI, 1200, .inl gd)), (mx, .inl (cI, 12, .inl ct)), (mc, .inl (cI, 3, .inl (fun j => nI (cmB_8 j)))), (o, .inr (5, [.int th, .ref mt, .int (nI nT), .int lim, .ref mo, .int (nI nO), .ref mf, .int (nI nF), .ref mc, .ref mm, .ref mk, .ref mb, .int lf, .int fl, .ref mu, .int f1, .int f2, .int ck, .ref ml, .ref mg, .ref mx])), (mm, .inl (cI, 3, .inl (fun j => nI (mnG j)))), (mk, .inl (cI, 1200, .inl kpG)), (mb, .inl (cB, 3, .inl bdG)), (mu, .inl (cB, 3, .inl tuG))] H := hP
      have hD : va_D A [(ml, .inl (cI, 3, .inl la)), (mg, .inl (cI, 1200, .inl gd)), (mx, .inl (cI, 12, .inl ct)), (mc, .inl (cI, 3, .inl (fun j => nI (cmB_8 j)))), (o, .inr (5, [.int th, .ref mt, .int (nI nT), .int lim, .ref mo, .int (nI nO), .ref mf, .int (nI nF), .ref mc, .ref mm, .ref mk, .ref mb, .int lf, .int fl, .ref mu, .int f1, .int f2, .int ck, .ref ml, .ref mg, .ref mx])), (mm, .inl (cI, 3, .inl (fun j => nI (mnG j)))), (mk, .inl (cI, 1200, .inl kpG)), (mb, .inl (cB, 3, .inl bdG)), (mu, .inl (cB, 3, .inl tuG))] := hD
      refine lv_iconst (v := 0) hx hb d_M_take_90 (by decide +kernel) ?_
      exact ft_reti (cmB_8, mnG, kpG, bdG, tuG, la, gd, ct, lf, fl, f1, f2, ck) hx hb hr hlocks (hP.sub [4, 3, 5, 6, 7, 8, 0, 1, 2] rfl) hK (hD.sub [4, 3, 5, 6, 7, 8, 0, 1, 2] (by decide) rfl) hS (by show _ = takeM1 lim b (cm, mn, kp, bd, tu, la, gd, ct, lf, fl, f1, f2, ck); unfold takeM1; rw [if_neg c22, if_pos (show cm 1 = 0 from c54)]; show _ = (0, stepM1 b (va_up cm 1 0, va_up mn 1 0, kp, upd bd 1 0, upd tu 1 0, la, gd, ct, lf, fl, f1, f2, ck)); rw [← e_cmB, ← e_mnB, ← e_bdB, ← e_tuB]; show _ = (0, va_up cmB 1 (cmB 1 + 1), (ctM1 b mnB kp bdB tuB).1, (ctM1 b mnB kp bdB tuB).2, itB1 b bdB tuB, itT 1 219 b tuB, la, gd, ct, lf, fl, f1, f2, ck); rw [← e_g, ← e_b, ← e_u, ← ecmB_8]) d_M_take_91
  · skip
    refine lv_iload_n hx hb d_M_take_25 rfl (lv_at hl 1 rfl) ?_
    refine lv_if_le (tgt := 42) hx hb d_M_take_26 (by decide) (fun c26 => absurd c26 (by decide)) (fun _ => ?_)
    refine lv_aload_n hx hb d_M_take_29 rfl (lv_at hl 0 rfl) ?_
    refine va_get (D := D) (ci := 5) (v := .ref mc) (C := R_M) (T := F_M) (N := 21) hx hb ht bi_M hown hK hP 0 rfl rfl 8 (by decide) (ht _ bw_415) (fun _ h9 => h9) rfl d_M_take_30 ?_
    refine lv_iload_n hx hb d_M_take_33 rfl (lv_at hl 1 rfl) ?_
    refine va_iald hx hb hK hP 1 0 rfl rfl (vp_in_nI (by omega) (by omega)) d_M_take_34 ?_
    refine ft_top (y := nI (cm 1)) (congrArg (fun j => nI (cm j)) (by decide)) ?_
    refine lv_if_ne (tgt := 42) hx hb d_M_take_35 (by decide) (fun c35 => ?_) (fun c35 => ?_)
    · skip
      have c35 : ¬ cm 1 = 0 := fun h => c35 ((nI_eq (b := 0) (by omega) (by omega)).mpr h)
      refine lv_aload_n hx hb d_M_take_42 rfl (lv_at hl 0 rfl) ?_
      refine lv_iload_n hx hb d_M_take_43 rfl (lv_at hl 1 rfl) ?_
      refine ft_ci (wc := [(o, .inr (5, [.int th, .ref mt, .int (nI nT), .int lim, .ref mo, .int (nI nO), .ref mf, .int (nI nF), .ref mc, .ref mm, .ref mk, .ref mb, .int lf, .int fl, .ref mu, .int f1, .int f2, .int ck, .ref ml, .ref mg, .ref mx])), (mc, .inl (cI, 3, .inl (fun j => nI (cm j)))), (mm, .inl (cI, 3, .inl (fun j => nI (mn j)))), (mk, .inl (cI, 1200, .inl kp)), (mb, .inl (cB, 3, .inl bd)), (mu, .inl (cB, 3, .inl tu)), (ml, .inl (cI, 3, .inl la)), (mg, .inl (cI, 1200, .inl gd)), (mx, .inl (cI, 12, .inl ct))]) (wr := []) (va_runV (As := [.int (nI 1)]) (rest := []) ⟨hx, hb, hml, hown, ht⟩ (c_M_ends_1 l D cI cB o mt mo mf mc mm mk mb mu ml mg mx th lim lf fl f1 f2 ck nT nO nF cm mn kp bd tu la gd ct hC hM hL s.heap.size) (ft_cwV 1 ht bw_536 bw_538 bw_24 bw_39 bw_539 (by decide) ⟨Nat.le_of_ble_eq_true rfl, Nat.le_of_ble_eq_true rfl⟩) ⟨ft_blind, va_recv hK hP (ci := 5) (q0 := 0) rfl rfl, (ft_pre hP hD hK hNW [0, 1, 2, 3, 4, 5, 6, 7, 8] [0, 1] rfl rfl (by decide) rfl _)⟩ rfl rfl hl.1 rfl (lv_room (Nat.le_of_ble_eq_true rfl)) d_M_take_44 ⟨Nat.le_of_ble_eq_true rfl, Nat.le_of_ble_eq_true rfl⟩) hP hD hS hA [0, 1, 2, 3, 4, 5, 6, 7, 8] [] rfl rfl (by decide) (by decide) (fun r_9 u_10 H locs hu_10 hP hD hS => ?_)
      obtain ⟨cmE, mnE, kpE, bdE, tuE, laE, gdE, ctE, lfE, flE, f1E, f2E, ckE⟩ := u_10
      have hP : va_P D vwCl [(o, .inr (5, [.int th, .ref mt, .int (nI nT), .int lim, .ref mo, .int (nI nO), .ref mf, .int (nI nF), .ref mc, .ref mm, .ref mk, .ref mb, .int lfE, .int flE, .ref mu, .int f1E, .int f2E, .int ckE, .ref ml, .ref mg, .ref mx])), (mc, .inl (cI, 3, .inl (fun j => nI (cmE j)))), (mm, .inl (cI, 3, .inl (fun j => nI (mnE j)))), (mk, .inl (cI, 1200, .inl kpE)), (mb, .inl (cB, 3, .inl bdE)), (mu, .inl (cB, 3, .inl tuE)), (ml, .inl (cI, 3, .inl laE)), (mg, .inl (cI, 1200, .inl gdE)), (mx, .inl (cI, 12, .inl ctE))] H := hP
      have hD : va_D A [(o, .inr (5, [.int th, .ref mt, .int (nI nT), .int lim, .ref mo, .int (nI nO), .ref mf, .int (nI nF), .ref mc, .ref mm, .ref mk, .ref mb, .int lfE, .int flE, .ref mu, .int f1E, .int f2E, .int ckE, .ref ml, .ref mg, .ref mx])), (mc, .inl (cI, 3, .inl (fun j => nI (cmE j)))), (mm, .inl (cI, 3, .inl (fun j => nI (mnE j)))), (mk, .inl (cI, 1200, .inl kpE)), (mb, .inl (cB, 3, .inl bdE)), (mu, .inl (cB, 3, .inl tuE)), (ml, .inl (cI, 3, .inl laE)), (mg, .inl (cI, 1200, .inl gdE)), (mx, .inl (cI, 12, .inl ctE))] := hD
      exact ft_reti (cmE, mnE, kpE, bdE, tuE, laE, gdE, ctE, lfE, flE, f1E, f2E, ckE) hx hb hr hlocks hP hK hD hS (by show _ = takeM1 lim b (cm, mn, kp, bd, tu, la, gd, ct, lf, fl, f1, f2, ck); unfold takeM1; rw [if_pos c22, if_neg (show ¬ cm 1 = 0 from c35)]; exact hu_10) d_M_take_47
    · skip
      have c35 : cm 1 = 0 := (nI_eq (b := 0) (by omega) (by omega)).mp c35
      refine lv_iconst (v := 0) hx hb d_M_take_38 (by decide +kernel) ?_
      refine lv_goto (tgt := 47) hx hb d_M_take_39 (by decide) ?_
      exact ft_reti (cm, mn, kp, bd, tu, la, gd, ct, lf, fl, f1, f2, ck) hx hb hr hlocks hP hK hD hS (by show _ = takeM1 lim b (cm, mn, kp, bd, tu, la, gd, ct, lf, fl, f1, f2, ck); unfold takeM1; rw [if_pos c22, if_pos (show cm 1 = 0 from c35)]) d_M_take_47

set_option maxHeartbeats 4000000 in
set_option maxRecDepth 100000 in
theorem c_M_take_2 (l : Launch) (D : va_G) (cI : ClassId) (cB : ClassId) (o mt mo mf mc mm mk mb mu ml mg mx : Nat) (th lim lf fl f1 f2 ck : Int32) (nT nO nF : Nat) (cm mn : Nat → Nat) (kp bd tu la gd ct : Nat → Int32) (hC : cm 2 < 1073741824) (hM : mn 2 < 1073741824) (hB : tu 2 = 0 ∨ tu 2 = 1) (hL : lim ≤ 400) (b : Int32) (sz : Nat) : ft_Mi l y_M_take (.code y_M_take b_M_take 3 (some .int) :: ft_big) ({ frames := 2, cells := 0, slots := 0, locals := 80 }) D [(cI, .int), (cB, .boolean)] sz [.ref o, .int (nI 2), .int b] [(o, .inr (5, [.int th, .ref mt, .int (nI nT), .int lim, .ref mo, .int (nI nO), .ref mf, .int (nI nF), .ref mc, .ref mm, .ref mk, .ref mb, .int lf, .int fl, .ref mu, .int f1, .int f2, .int ck, .ref ml, .ref mg, .ref mx])), (mc, .inl (cI, 3, .inl (fun j => nI (cm j)))), (mm, .inl (cI, 3, .inl (fun j => nI (mn j)))), (mk, .inl (cI, 1200, .inl kp)), (mb, .inl (cB, 3, .inl bd)), (mu, .inl (cB, 3, .inl tu)), (ml, .inl (cI, 3, .inl la)), (mg, .inl (cI, 1200, .inl gd)), (mx, .inl (cI, 12, .inl ct))] (fun (v : Int32) (u : MR) => (v, u) = takeM2 lim b (cm, mn, kp, bd, tu, la, gd, ct, lf, fl, f1, f2, ck)) (fun u : MR => [(o, .inr (5, [.int th, .ref mt, .int (nI nT), .int lim, .ref mo, .int (nI nO), .ref mf, .int (nI nF), .ref mc, .ref mm, .ref mk, .ref mb, .int u.2.2.2.2.2.2.2.2.1, .int u.2.2.2.2.2.2.2.2.2.1, .ref mu, .int u.2.2.2.2.2.2.2.2.2.2.1, .int u.2.2.2.2.2.2.2.2.2.2.2.1, .int u.2.2.2.2.2.2.2.2.2.2.2.2, .ref ml, .ref mg, .ref mx])), (mc, .inl (cI, 3, .inl (fun j => nI (u.1 j)))), (mm, .inl (cI, 3, .inl (fun j => nI (u.2.1 j)))), (mk, .inl (cI, 1200, .inl u.2.2.1)), (mb, .inl (cB, 3, .inl u.2.2.2.1)), (mu, .inl (cB, 3, .inl u.2.2.2.2.1)), (ml, .inl (cI, 3, .inl u.2.2.2.2.2.1)), (mg, .inl (cI, 1200, .inl u.2.2.2.2.2.2.1)), (mx, .inl (cI, 12, .inl u.2.2.2.2.2.2.2.1))]) 0 0 := by
  refine ft_ei (cc := b_M_take) (maxL := 3) (ret := (some .int)) (by decide) rfl (Nat.le_of_ble_eq_true rfl) ?_
  intro p e s m below meth c A ls hx hb hr hml hts hown hlocks hmn hP hK hD hA hS hNW hl
  have ht : ∀ w ∈ ft_big, w.before _ s = true := fun w h => hts w (List.mem_cons_of_mem _ h)
  have hP : va_P D vwCl [(o, .inr (5, [.int th, .ref mt, .int (nI nT), .int lim, .ref mo, .int (nI nO), .ref mf, .int (nI nF), .ref mc, .ref mm, .ref mk, .ref mb, .int lf, .int fl, .ref mu, .int f1, .int f2, .int ck, .ref ml, .ref mg, .ref mx])), (mc, .inl (cI, 3, .inl (fun j => nI (cm j)))), (mm, .inl (cI, 3, .inl (fun j => nI (mn j)))), (mk, .inl (cI, 1200, .inl kp)), (mb, .inl (cB, 3, .inl bd)), (mu, .inl (cB, 3, .inl tu)), (ml, .inl (cI, 3, .inl la)), (mg, .inl (cI, 1200, .inl gd)), (mx, .inl (cI, 12, .inl ct))] s.heap := hP
  have hD : va_D A [(o, .inr (5, [.int th, .ref mt, .int (nI nT), .int lim, .ref mo, .int (nI nO), .ref mf, .int (nI nF), .ref mc, .ref mm, .ref mk, .ref mb, .int lf, .int fl, .ref mu, .int f1, .int f2, .int ck, .ref ml, .ref mg, .ref mx])), (mc, .inl (cI, 3, .inl (fun j => nI (cm j)))), (mm, .inl (cI, 3, .inl (fun j => nI (mn j)))), (mk, .inl (cI, 1200, .inl kp)), (mb, .inl (cB, 3, .inl bd)), (mu, .inl (cB, 3, .inl tu)), (ml, .inl (cI, 3, .inl la)), (mg, .inl (cI, 1200, .inl gd)), (mx, .inl (cI, 12, .inl ct))] := hD
  have hl : lv_has ls 3 [(0, .ref o), (1, .int (nI 2)), (2, .int b)] := hl
  refine lv_iload_n hx hb d_M_take_0 rfl (lv_at hl 2 rfl) ?_
  refine lv_iload_n hx hb d_M_take_1 rfl (lv_at hl 1 rfl) ?_
  refine lv_if_ne (tgt := 9) hx hb d_M_take_2 (by decide) (fun _ => ?_) (fun c2 => absurd c2 (by decide))
  refine lv_iload_n hx hb d_M_take_9 rfl (lv_at hl 1 rfl) ?_
  refine lv_iconst (v := nI 1) hx hb d_M_take_10 (by decide +kernel) ?_
  refine lv_icmp_ne (tgt := 20) hx hb d_M_take_11 (by decide) (fun _ => ?_) (fun c11 => absurd c11 (by decide))
  refine lv_bipush (v := 126) hx hb d_M_take_20 (by decide +kernel) ?_
  refine lv_icmp_ne (tgt := 48) hx hb d_M_take_22 (by decide) (fun c22 => ?_) (fun c22 => ?_)
  · skip
    refine lv_aload_n hx hb d_M_take_48 rfl (lv_at hl 0 rfl) ?_
    refine va_get (D := D) (ci := 5) (v := .ref mc) (C := R_M) (T := F_M) (N := 21) hx hb ht bi_M hown hK hP 0 rfl rfl 8 (by decide) (ht _ bw_415) (fun _ h9 => h9) rfl d_M_take_49 ?_
    refine lv_iload_n hx hb d_M_take_52 rfl (lv_at hl 1 rfl) ?_
    refine va_iald hx hb hK hP 1 0 rfl rfl (vp_in_nI (by omega) (by omega)) d_M_take_53 ?_
    refine ft_top (y := nI (cm 2)) (congrArg (fun j => nI (cm j)) (by decide)) ?_
    refine lv_if_ne (tgt := 62) hx hb d_M_take_54 (by decide) (fun c54 => ?_) (fun c54 => ?_)
    · skip
      have c54 : ¬ cm 2 = 0 := fun h => c54 ((nI_eq (b := 0) (by omega) (by omega)).mpr h)
      refine lv_iload_n hx hb d_M_take_62 rfl (lv_at hl 1 rfl) ?_
      refine lv_if_ne (tgt := 74) hx hb d_M_take_63 (by decide) (fun _ => ?_) (fun c63 => absurd c63 (by decide))
      refine lv_aload_n hx hb d_M_take_74 rfl (lv_at hl 0 rfl) ?_
      refine lv_iload_n hx hb d_M_take_75 rfl (lv_at hl 1 rfl) ?_
      refine lv_iload_n hx hb d_M_take_76 rfl (lv_at hl 2 rfl) ?_
      refine ft_cv (wc := [(o, .inr (5, [.int th, .ref mt, .int (nI nT), .int lim, .ref mo, .int (nI nO), .ref mf, .int (nI nF), .ref mc, .ref mm, .ref mk, .ref mb, .int lf, .int fl, .ref mu, .int f1, .int f2, .int ck, .ref ml, .ref mg, .ref mx])), (mm, .inl (cI, 3, .inl (fun j => nI (mn j)))), (mk, .inl (cI, 1200, .inl kp)), (mb, .inl (cB, 3, .inl bd)), (mu, .inl (cB, 3, .inl tu))]) (wr := [(mc, .inl (cI, 3, .inl (fun j => nI (cm j)))), (ml, .inl (cI, 3, .inl la)), (mg, .inl (cI, 1200, .inl gd)), (mx, .inl (cI, 12, .inl ct))]) (va_runV (As := [.int (nI 2), .int b]) (rest := []) ⟨hx, hb, hml, hown, ht⟩ (c_M_comeTurned_2 l D cI cB o mt mo mf mc mm mk mb mu ml mg mx th lim lf fl f1 f2 ck nT nO nF mn kp bd tu (by omega) hB b s.heap.size) (ft_cwV 2 ht bw_556 bw_558 bw_29 bw_39 bw_559 (by decide) ⟨Nat.le_of_ble_eq_true rfl, Nat.le_of_ble_eq_true rfl⟩) ⟨ft_blind, va_recv hK hP (ci := 5) (q0 := 0) rfl rfl, (ft_pre hP hD hK hNW [0, 2, 3, 4, 5] [0, 1] rfl rfl (by decide) rfl _)⟩ rfl rfl hl.1 rfl (lv_room (Nat.le_of_ble_eq_true rfl)) d_M_take_77 ⟨Nat.le_of_ble_eq_true rfl, Nat.le_of_ble_eq_true rfl⟩) hP hD hS hA [0, 2, 3, 4, 5] [1, 6, 7, 8] rfl rfl (by decide) (by decide) (fun u_2 H locs hu_2 hP hD hS => ?_)
      obtain ⟨mnG, kpG, f1G, f2G, ckG, bdG, tuG⟩ := u_2
      obtain ⟨e_g, e_b, e_u⟩ : (mnG, kpG, f1G, f2G, ckG) = ctM2 b mn kp bd tu f1 f2 ck ∧ bdG = itB2 b bd tu ∧ tuG = itT 2 125 b tu := hu_2
      have hP : va_P D vwCl [(mc, .inl (cI, 3, .inl (fun j => nI (cm j)))), (ml, .inl (cI, 3, .inl la)), (mg, .inl (cI, 1200, .inl gd)), (mx, .inl (cI, 12, .inl ct)), (o, .inr (5, [.int th, .ref mt, .int (nI nT), .int lim, .ref mo, .int (nI nO), .ref mf, .int (nI nF), .ref mc, .ref mm, .ref mk, .ref mb, .int lf, .int fl, .ref mu, .int f1G, .int f2G, .int ckG, .ref ml, .ref mg, .ref mx])), (mm, .inl (cI, 3, .inl (fun j => nI (mnG j)))), (mk, .inl (cI, 1200, .inl kpG)), (mb, .inl (cB, 3, .inl bdG)), (mu, .inl (cB, 3, .inl tuG))] H := hP
      have hD : va_D A [(mc, .inl (cI, 3, .inl (fun j => nI (cm j)))), (ml, .inl (cI, 3, .inl la)), (mg, .inl (cI, 1200, .inl gd)), (mx, .inl (cI, 12, .inl ct)), (o, .inr (5, [.int th, .ref mt, .int (nI nT), .int lim, .ref mo, .int (nI nO), .ref mf, .int (nI nF), .ref mc, .ref mm, .ref mk, .ref mb, .int lf, .int fl, .ref mu, .int f1G, .int f2G, .int ckG, .ref ml, .ref mg, .ref mx])), (mm, .inl (cI, 3, .inl (fun j => nI (mnG j)))), (mk, .inl (cI, 1200, .inl kpG)), (mb, .inl (cB, 3, .inl bdG)), (mu, .inl (cB, 3, .inl tuG))] := hD
      refine lv_aload_n hx hb d_M_take_80 rfl (lv_at hl 0 rfl) ?_
      refine va_get (D := D) (ci := 5) (v := .ref mc) (C := R_M) (T := F_M) (N := 21) hx hb ht bi_M hown hK hP 4 rfl rfl 8 (by decide) (ht _ bw_415) (fun _ h9 => h9) rfl d_M_take_81 ?_
      refine lv_iload_n hx hb d_M_take_84 rfl (lv_at hl 1 rfl) ?_
      refine lv_dup2_11 hx hb d_M_take_85 rfl rfl ?_
      refine va_iald hx hb hK hP 0 0 rfl rfl (vp_in_nI (by omega) (by omega)) d_M_take_86 ?_
      refine ft_top (y := nI (cm 2)) (congrArg (fun j => nI (cm j)) (by decide)) ?_
      refine lv_iconst (v := nI 1) hx hb d_M_take_87 (by decide +kernel) ?_
      refine lv_iadd hx hb d_M_take_88 ?_
      refine ft_top (nI_add (cm 2) 1) ?_
      refine va_iast hx hb hK hP hD hS 0 0 rfl rfl (vp_in_nI (by omega) (by omega)) d_M_take_89 (fun H locs hP hD hS => ?_)
      rw [show (nI 2).toNatClampNeg = 2 from by decide] at hP hD
      rw [upd_nI] at hP hD
      obtain ⟨cm_3, ecm_3⟩ : ∃ g : Nat → Nat, g = va_up cm 2 (cm 2 + 1) := ⟨_, rfl⟩
      rw [← ecm_3] at hP hD
      have hP : va_P D vwCl [(mc, .inl (cI, 3, .inl (fun j => nI (cm_3 j)))), (ml, .inl (cI, 3, .inl la)), (mg, .inl (cI, 1200, .inl gd)), (mx, .inl (cI, 12, .inl ct)), (o, .inr (5, [.int th, .ref mt, .int (nI nT), .int lim, .ref mo, .int (nI nO), .ref mf, .int (nI nF), .ref mc, .ref mm, .ref mk, .ref mb, .int lf, .int fl, .ref mu, .int f1G, .int f2G, .int ckG, .ref ml, .ref mg, .ref mx])), (mm, .inl (cI, 3, .inl (fun j => nI (mnG j)))), (mk, .inl (cI, 1200, .inl kpG)), (mb, .inl (cB, 3, .inl bdG)), (mu, .inl (cB, 3, .inl tuG))] H := hP
      have hD : va_D A [(mc, .inl (cI, 3, .inl (fun j => nI (cm_3 j)))), (ml, .inl (cI, 3, .inl la)), (mg, .inl (cI, 1200, .inl gd)), (mx, .inl (cI, 12, .inl ct)), (o, .inr (5, [.int th, .ref mt, .int (nI nT), .int lim, .ref mo, .int (nI nO), .ref mf, .int (nI nF), .ref mc, .ref mm, .ref mk, .ref mb, .int lf, .int fl, .ref mu, .int f1G, .int f2G, .int ckG, .ref ml, .ref mg, .ref mx])), (mm, .inl (cI, 3, .inl (fun j => nI (mnG j)))), (mk, .inl (cI, 1200, .inl kpG)), (mb, .inl (cB, 3, .inl bdG)), (mu, .inl (cB, 3, .inl tuG))] := hD
      refine lv_iconst (v := 0) hx hb d_M_take_90 (by decide +kernel) ?_
      exact ft_reti (cm_3, mnG, kpG, bdG, tuG, la, gd, ct, lf, fl, f1G, f2G, ckG) hx hb hr hlocks (hP.sub [4, 0, 5, 6, 7, 8, 1, 2, 3] rfl) hK (hD.sub [4, 0, 5, 6, 7, 8, 1, 2, 3] (by decide) rfl) hS (by show _ = takeM2 lim b (cm, mn, kp, bd, tu, la, gd, ct, lf, fl, f1, f2, ck); unfold takeM2; rw [if_neg c22, if_neg (show ¬ cm 2 = 0 from c54)]; show _ = (0, va_up cm 2 (cm 2 + 1), (ctM2 b mn kp bd tu f1 f2 ck).1, (ctM2 b mn kp bd tu f1 f2 ck).2.1, itB2 b bd tu, itT 2 125 b tu, la, gd, ct, lf, fl, (ctM2 b mn kp bd tu f1 f2 ck).2.2.1, (ctM2 b mn kp bd tu f1 f2 ck).2.2.2.1, (ctM2 b mn kp bd tu f1 f2 ck).2.2.2.2); rw [← e_g, ← e_b, ← e_u, ← ecm_3]) d_M_take_91
    · skip
      have c54 : cm 2 = 0 := (nI_eq (b := 0) (by omega) (by omega)).mp c54
      refine lv_aload_n hx hb d_M_take_57 rfl (lv_at hl 0 rfl) ?_
      refine lv_iload_n hx hb d_M_take_58 rfl (lv_at hl 1 rfl) ?_
      refine ft_cv (wc := [(o, .inr (5, [.int th, .ref mt, .int (nI nT), .int lim, .ref mo, .int (nI nO), .ref mf, .int (nI nF), .ref mc, .ref mm, .ref mk, .ref mb, .int lf, .int fl, .ref mu, .int f1, .int f2, .int ck, .ref ml, .ref mg, .ref mx])), (mc, .inl (cI, 3, .inl (fun j => nI (cm j)))), (mm, .inl (cI, 3, .inl (fun j => nI (mn j)))), (mb, .inl (cB, 3, .inl bd)), (mu, .inl (cB, 3, .inl tu))]) (wr := [(mk, .inl (cI, 1200, .inl kp)), (ml, .inl (cI, 3, .inl la)), (mg, .inl (cI, 1200, .inl gd)), (mx, .inl (cI, 12, .inl ct))]) (va_runV (As := [.int (nI 2)]) (rest := []) ⟨hx, hb, hml, hown, ht⟩ (c_M_begin_2 l D cI cB o mt mo mf mc mm mk mb mu ml mg mx th lim lf fl f1 f2 ck nT nO nF cm mn bd tu s.heap.size) (ft_cwV 1 ht bw_544 bw_546 bw_26 bw_39 bw_547 (by decide) ⟨Nat.le_of_ble_eq_true rfl, Nat.le_of_ble_eq_true rfl⟩) ⟨ft_blind, va_recv hK hP (ci := 5) (q0 := 0) rfl rfl, (ft_pre hP hD hK hNW [0, 1, 2, 4, 5] [0, 1] rfl rfl (by decide) rfl _)⟩ rfl rfl hl.1 rfl (lv_room (Nat.le_of_ble_eq_true rfl)) d_M_take_59 ⟨Nat.le_of_ble_eq_true rfl, Nat.le_of_ble_eq_true rfl⟩) hP hD hS hA [0, 1, 2, 4, 5] [3, 6, 7, 8] rfl rfl (by decide) (by decide) (fun u_5 H locs hu_5 hP hD hS => ?_)
      obtain ⟨cmB, mnB, bdB, tuB⟩ := u_5
      obtain ⟨e_cmB, e_mnB, e_bdB, e_tuB⟩ : cmB = va_up cm 2 0 ∧ mnB = va_up mn 2 0 ∧ bdB = upd bd 2 0 ∧ tuB = upd tu 2 0 := by simpa using hu_5
      have b_c : cmB 2 = 0 := by rw [e_cmB]; exact if_pos rfl
      have b_m : mnB 2 = 0 := by rw [e_mnB]; exact if_pos rfl
      have b_t : tuB 2 = 0 := by rw [e_tuB]; exact pk_us
      have hP : va_P D vwCl [(mk, .inl (cI, 1200, .inl kp)), (ml, .inl (cI, 3, .inl la)), (mg, .inl (cI, 1200, .inl gd)), (mx, .inl (cI, 12, .inl ct)), (o, .inr (5, [.int th, .ref mt, .int (nI nT), .int lim, .ref mo, .int (nI nO), .ref mf, .int (nI nF), .ref mc, .ref mm, .ref mk, .ref mb, .int lf, .int fl, .ref mu, .int f1, .int f2, .int 65535, .ref ml, .ref mg, .ref mx])), (mc, .inl (cI, 3, .inl (fun j => nI (cmB j)))), (mm, .inl (cI, 3, .inl (fun j => nI (mnB j)))), (mb, .inl (cB, 3, .inl bdB)), (mu, .inl (cB, 3, .inl tuB))] H := hP
      have hD : va_D A [(mk, .inl (cI, 1200, .inl kp)), (ml, .inl (cI, 3, .inl la)), (mg, .inl (cI, 1200, .inl gd)), (mx, .inl (cI, 12, .inl ct)), (o, .inr (5, [.int th, .ref mt, .int (nI nT), .int lim, .ref mo, .int (nI nO), .ref mf, .int (nI nF), .ref mc, .ref mm, .ref mk, .ref mb, .int lf, .int fl, .ref mu, .int f1, .int f2, .int 65535, .ref ml, .ref mg, .ref mx])), (mc, .inl (cI, 3, .inl (fun j => nI (cmB j)))), (mm, .inl (cI, 3, .inl (fun j => nI (mnB j)))), (mb, .inl (cB, 3, .inl bdB)), (mu, .inl (cB, 3, .inl tuB))] := hD
      refine lv_iload_n hx hb d_M_take_62 rfl (lv_at hl 1 rfl) ?_
      refine lv_if_ne (tgt := 74) hx hb d_M_take_63 (by decide) (fun _ => ?_) (fun c63 => absurd c63 (by decide))
      refine lv_aload_n hx hb d_M_take_74 rfl (lv_at hl 0 rfl) ?_
      refine lv_iload_n hx hb d_M_take_75 rfl (lv_at hl 1 rfl) ?_
      refine lv_iload_n hx hb d_M_take_76 rfl (lv_at hl 2 rfl) ?_
      refine ft_cv (wc := [(o, .inr (5, [.int th, .ref mt, .int (nI nT), .int lim, .ref mo, .int (nI nO), .ref mf, .int (nI nF), .ref mc, .ref mm, .ref mk, .ref mb, .int lf, .int fl, .ref mu, .int f1, .int f2, .int 65535, .ref ml, .ref mg, .ref mx])), (mm, .inl (cI, 3, .inl (fun j => nI (mnB j)))), (mk, .inl (cI, 1200, .inl kp)), (mb, .inl (cB, 3, .inl bdB)), (mu, .inl (cB, 3, .inl tuB))]) (wr := [(ml, .inl (cI, 3, .inl la)), (mg, .inl (cI, 1200, .inl gd)), (mx, .inl (cI, 12, .inl ct)), (mc, .inl (cI, 3, .inl (fun j => nI (cmB j))))]) (va_runV (As := [.int (nI 2), .int b]) (rest := []) ⟨hx, hb, hml, hown, ht⟩ (c_M_comeTurned_2 l D cI cB o mt mo mf mc mm mk mb mu ml mg mx th lim lf fl f1 f2 65535 nT nO nF mnB kp bdB tuB (by omega) (Or.inl b_t) b H.size) (ft_cwV 2 ht bw_556 bw_558 bw_29 bw_39 bw_559 (by decide) ⟨Nat.le_of_ble_eq_true rfl, Nat.le_of_ble_eq_true rfl⟩) ⟨ft_blind, va_recv hK hP (ci := 5) (q0 := 4) rfl rfl, (ft_pre hP hD hK hNW [4, 6, 0, 7, 8] [0, 1] rfl rfl (by decide) rfl _)⟩ rfl rfl hl.1 rfl (lv_room (Nat.le_of_ble_eq_true rfl)) d_M_take_77 ⟨Nat.le_of_ble_eq_true rfl, Nat.le_of_ble_eq_true rfl⟩) hP hD hS hA [4, 6, 0, 7, 8] [1, 2, 3, 5] rfl rfl (by decide) (by decide) (fun u_7 H locs hu_7 hP hD hS => ?_)
      obtain ⟨mnG, kpG, f1G, f2G, ckG, bdG, tuG⟩ := u_7
      obtain ⟨e_g, e_b, e_u⟩ : (mnG, kpG, f1G, f2G, ckG) = ctM2 b mnB kp bdB tuB f1 f2 65535 ∧ bdG = itB2 b bdB tuB ∧ tuG = itT 2 125 b tuB := hu_7
      have hP : va_P D vwCl [(ml, .inl (cI, 3, .inl la)), (mg, .inl (cI, 1200, .inl gd)), (mx, .inl (cI, 12, .inl ct)), (mc, .inl (cI, 3, .inl (fun j => nI (cmB j)))), (o, .inr (5, [.int th, .ref mt, .int (nI nT), .int lim, .ref mo, .int (nI nO), .ref mf, .int (nI nF), .ref mc, .ref mm, .ref mk, .ref mb, .int lf, .int fl, .ref mu, .int f1G, .int f2G, .int ckG, .ref ml, .ref mg, .ref mx])), (mm, .inl (cI, 3, .inl (fun j => nI (mnG j)))), (mk, .inl (cI, 1200, .inl kpG)), (mb, .inl (cB, 3, .inl bdG)), (mu, .inl (cB, 3, .inl tuG))] H := hP
      have hD : va_D A [(ml, .inl (cI, 3, .inl la)), (mg, .inl (cI, 1200, .inl gd)), (mx, .inl (cI, 12, .inl ct)), (mc, .inl (cI, 3, .inl (fun j => nI (cmB j)))), (o, .inr (5, [.int th, .ref mt, .int (nI nT), .int lim, .ref mo, .int (nI nO), .ref mf, .int (nI nF), .ref mc, .ref mm, .ref mk, .ref mb, .int lf, .int fl, .ref mu, .int f1G, .int f2G, .int ckG, .ref ml, .ref mg, .ref mx])), (mm, .inl (cI, 3, .inl (fun j => nI (mnG j)))), (mk, .inl (cI, 1200, .inl kpG)), (mb, .inl (cB, 3, .inl bdG)), (mu, .inl (cB, 3, .inl tuG))] := hD
      refine lv_aload_n hx hb d_M_take_80 rfl (lv_at hl 0 rfl) ?_
      refine va_get (D := D) (ci := 5) (v := .ref mc) (C := R_M) (T := F_M) (N := 21) hx hb ht bi_M hown hK hP 4 rfl rfl 8 (by decide) (ht _ bw_415) (fun _ h9 => h9) rfl d_M_take_81 ?_
      refine lv_iload_n hx hb d_M_take_84 rfl (lv_at hl 1 rfl) ?_
      refine lv_dup2_11 hx hb d_M_take_85 rfl rfl ?_
      refine va_iald hx hb hK hP 3 0 rfl rfl (vp_in_nI (by omega) (by omega)) d_M_take_86 ?_
      refine ft_top (y := nI (cmB 2)) (congrArg (fun j => nI (cmB j)) (by decide)) ?_
      refine lv_iconst (v := nI 1) hx hb d_M_take_87 (by decide +kernel) ?_
      refine lv_iadd hx hb d_M_take_88 ?_
      refine ft_top (nI_add (cmB 2) 1) ?_
      refine va_iast hx hb hK hP hD hS 3 0 rfl rfl (vp_in_nI (by omega) (by omega)) d_M_take_89 (fun H locs hP hD hS => ?_)
      rw [show (nI 2).toNatClampNeg = 2 from by decide] at hP hD
      rw [upd_nI] at hP hD
      obtain ⟨cmB_8, ecmB_8⟩ : ∃ g : Nat → Nat, g = va_up cmB 2 (cmB 2 + 1) := ⟨_, rfl⟩
      rw [← ecmB_8] at hP hD
      have hP : va_P D vwCl [(ml, .inl (cI, 3, .inl la)), (mg, .inl (cI, 1200, .inl gd)), (mx, .inl (cI, 12, .inl ct)), (mc, .inl (cI, 3, .inl (fun j => nI (cmB_8 j)))), (o, .inr (5, [.int th, .ref mt, .int (nI nT), .int lim, .ref mo, .int (nI nO), .ref mf, .int (nI nF), .ref mc, .ref mm, .ref mk, .ref mb, .int lf, .int fl, .ref mu, .int f1G, .int f2G, .int ckG, .ref ml, .ref mg, .ref mx])), (mm, .inl (cI, 3, .inl (fun j => nI (mnG j)))), (mk, .inl (cI, 1200, .inl kpG)), (mb, .inl (cB, 3, .inl bdG)), (mu, .inl (cB, 3, .inl tuG))] H := hP
      have hD : va_D A [(ml, .inl (cI, 3, .inl la)), (mg, .inl (cI, 1200, .inl gd)), (mx, .inl (cI, 12, .inl ct)), (mc, .inl (cI, 3, .inl (fun j => nI (cmB_8 j)))), (o, .inr (5, [.int th, .ref mt, .int (nI nT), .int lim, .ref mo, .int (nI nO), .ref mf, .int (nI nF), .ref mc, .ref mm, .ref mk, .ref mb, .int lf, .int fl, .ref mu, .int f1G, .int f2G, .int ckG, .ref ml, .ref mg, .ref mx])), (mm, .inl (cI, 3, .inl (fun j => nI (mnG j)))), (mk, .inl (cI, 1200, .inl kpG)), (mb, .inl (cB, 3, .inl bdG)), (mu, .inl (cB, 3, .inl tuG))] := hD
      refine lv_iconst (v := 0) hx hb d_M_take_90 (by decide +kernel) ?_
      exact ft_reti (cmB_8, mnG, kpG, bdG, tuG, la, gd, ct, lf, fl, f1G, f2G, ckG) hx hb hr hlocks (hP.sub [4, 3, 5, 6, 7, 8, 0, 1, 2] rfl) hK (hD.sub [4, 3, 5, 6, 7, 8, 0, 1, 2] (by decide) rfl) hS (by show _ = takeM2 lim b (cm, mn, kp, bd, tu, la, gd, ct, lf, fl, f1, f2, ck); unfold takeM2; rw [if_neg c22, if_pos (show cm 2 = 0 from c54)]; show _ = (0, stepM2 b (va_up cm 2 0, va_up mn 2 0, kp, upd bd 2 0, upd tu 2 0, la, gd, ct, lf, fl, f1, f2, 65535)); rw [← e_cmB, ← e_mnB, ← e_bdB, ← e_tuB]; show _ = (0, va_up cmB 2 (cmB 2 + 1), (ctM2 b mnB kp bdB tuB f1 f2 65535).1, (ctM2 b mnB kp bdB tuB f1 f2 65535).2.1, itB2 b bdB tuB, itT 2 125 b tuB, la, gd, ct, lf, fl, (ctM2 b mnB kp bdB tuB f1 f2 65535).2.2.1, (ctM2 b mnB kp bdB tuB f1 f2 65535).2.2.2.1, (ctM2 b mnB kp bdB tuB f1 f2 65535).2.2.2.2); rw [← e_g, ← e_b, ← e_u, ← ecmB_8]) d_M_take_91
  · skip
    refine lv_iload_n hx hb d_M_take_25 rfl (lv_at hl 1 rfl) ?_
    refine lv_if_le (tgt := 42) hx hb d_M_take_26 (by decide) (fun c26 => absurd c26 (by decide)) (fun _ => ?_)
    refine lv_aload_n hx hb d_M_take_29 rfl (lv_at hl 0 rfl) ?_
    refine va_get (D := D) (ci := 5) (v := .ref mc) (C := R_M) (T := F_M) (N := 21) hx hb ht bi_M hown hK hP 0 rfl rfl 8 (by decide) (ht _ bw_415) (fun _ h9 => h9) rfl d_M_take_30 ?_
    refine lv_iload_n hx hb d_M_take_33 rfl (lv_at hl 1 rfl) ?_
    refine va_iald hx hb hK hP 1 0 rfl rfl (vp_in_nI (by omega) (by omega)) d_M_take_34 ?_
    refine ft_top (y := nI (cm 2)) (congrArg (fun j => nI (cm j)) (by decide)) ?_
    refine lv_if_ne (tgt := 42) hx hb d_M_take_35 (by decide) (fun c35 => ?_) (fun c35 => ?_)
    · skip
      have c35 : ¬ cm 2 = 0 := fun h => c35 ((nI_eq (b := 0) (by omega) (by omega)).mpr h)
      refine lv_aload_n hx hb d_M_take_42 rfl (lv_at hl 0 rfl) ?_
      refine lv_iload_n hx hb d_M_take_43 rfl (lv_at hl 1 rfl) ?_
      refine ft_ci (wc := [(o, .inr (5, [.int th, .ref mt, .int (nI nT), .int lim, .ref mo, .int (nI nO), .ref mf, .int (nI nF), .ref mc, .ref mm, .ref mk, .ref mb, .int lf, .int fl, .ref mu, .int f1, .int f2, .int ck, .ref ml, .ref mg, .ref mx])), (mc, .inl (cI, 3, .inl (fun j => nI (cm j)))), (mm, .inl (cI, 3, .inl (fun j => nI (mn j)))), (mk, .inl (cI, 1200, .inl kp)), (mb, .inl (cB, 3, .inl bd)), (mu, .inl (cB, 3, .inl tu)), (ml, .inl (cI, 3, .inl la)), (mg, .inl (cI, 1200, .inl gd)), (mx, .inl (cI, 12, .inl ct))]) (wr := []) (va_runV (As := [.int (nI 2)]) (rest := []) ⟨hx, hb, hml, hown, ht⟩ (c_M_ends_2 l D cI cB o mt mo mf mc mm mk mb mu ml mg mx th lim lf fl f1 f2 ck nT nO nF cm mn kp bd tu la gd ct hC hM hL s.heap.size) (ft_cwV 1 ht bw_536 bw_538 bw_24 bw_39 bw_539 (by decide) ⟨Nat.le_of_ble_eq_true rfl, Nat.le_of_ble_eq_true rfl⟩) ⟨ft_blind, va_recv hK hP (ci := 5) (q0 := 0) rfl rfl, (ft_pre hP hD hK hNW [0, 1, 2, 3, 4, 5, 6, 7, 8] [0, 1] rfl rfl (by decide) rfl _)⟩ rfl rfl hl.1 rfl (lv_room (Nat.le_of_ble_eq_true rfl)) d_M_take_44 ⟨Nat.le_of_ble_eq_true rfl, Nat.le_of_ble_eq_true rfl⟩) hP hD hS hA [0, 1, 2, 3, 4, 5, 6, 7, 8] [] rfl rfl (by decide) (by decide) (fun r_9 u_10 H locs hu_10 hP hD hS => ?_)
      obtain ⟨cmE, mnE, kpE, bdE, tuE, laE, gdE, ctE, lfE, flE, f1E, f2E, ckE⟩ := u_10
      have hP : va_P D vwCl [(o, .inr (5, [.int th, .ref mt, .int (nI nT), .int lim, .ref mo, .int (nI nO), .ref mf, .int (nI nF), .ref mc, .ref mm, .ref mk, .ref mb, .int lfE, .int flE, .ref mu, .int f1E, .int f2E, .int ckE, .ref ml, .ref mg, .ref mx])), (mc, .inl (cI, 3, .inl (fun j => nI (cmE j)))), (mm, .inl (cI, 3, .inl (fun j => nI (mnE j)))), (mk, .inl (cI, 1200, .inl kpE)), (mb, .inl (cB, 3, .inl bdE)), (mu, .inl (cB, 3, .inl tuE)), (ml, .inl (cI, 3, .inl laE)), (mg, .inl (cI, 1200, .inl gdE)), (mx, .inl (cI, 12, .inl ctE))] H := hP
      have hD : va_D A [(o, .inr (5, [.int th, .ref mt, .int (nI nT), .int lim, .ref mo, .int (nI nO), .ref mf, .int (nI nF), .ref mc, .ref mm, .ref mk, .ref mb, .int lfE, .int flE, .ref mu, .int f1E, .int f2E, .int ckE, .ref ml, .ref mg, .ref mx])), (mc, .inl (cI, 3, .inl (fun j => nI (cmE j)))), (mm, .inl (cI, 3, .inl (fun j => nI (mnE j)))), (mk, .inl (cI, 1200, .inl kpE)), (mb, .inl (cB, 3, .inl bdE)), (mu, .inl (cB, 3, .inl tuE)), (ml, .inl (cI, 3, .inl laE)), (mg, .inl (cI, 1200, .inl gdE)), (mx, .inl (cI, 12, .inl ctE))] := hD
      exact ft_reti (cmE, mnE, kpE, bdE, tuE, laE, gdE, ctE, lfE, flE, f1E, f2E, ckE) hx hb hr hlocks hP hK hD hS (by show _ = takeM2 lim b (cm, mn, kp, bd, tu, la, gd, ct, lf, fl, f1, f2, ck); unfold takeM2; rw [if_pos c22, if_neg (show ¬ cm 2 = 0 from c35)]; exact hu_10) d_M_take_47
    · skip
      have c35 : cm 2 = 0 := (nI_eq (b := 0) (by omega) (by omega)).mp c35
      refine lv_iconst (v := 0) hx hb d_M_take_38 (by decide +kernel) ?_
      refine lv_goto (tgt := 47) hx hb d_M_take_39 (by decide) ?_
      exact ft_reti (cm, mn, kp, bd, tu, la, gd, ct, lf, fl, f1, f2, ck) hx hb hr hlocks hP hK hD hS (by show _ = takeM2 lim b (cm, mn, kp, bd, tu, la, gd, ct, lf, fl, f1, f2, ck); unfold takeM2; rw [if_pos c22, if_pos (show cm 2 = 0 from c35)]) d_M_take_47
