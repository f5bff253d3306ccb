set_option maxHeartbeats 4000000 in
set_option maxRecDepth 100000 in
theorem c_M_ends_0 (l : Launch) (D : va_G) (cI : ClassId) (cB : ClassId) (o mt mo mf mc mm mk mb mu ml mg mx : Nat) (th lim lf fl f1 f2 ck : Int32) (nT nO nF : Nat) (cm mn : Nat → Nat) (kp bd tu la gd ct : Nat → Int32) (hC : cm 0 < 1073741824) (hM : mn 0 < 1073741824) (hL : lim ≤ 400) (sz : Nat) : ft_Mi l y_M_ends (.code y_M_ends b_M_ends 5 (some .int) :: ft_big) ({ frames := 1, cells := 0, slots := 0, locals := 40 }) D [(cI, .int), (cB, .boolean)] sz [.ref o, .int (nI 0)] [(o, .inr (5, [.int th, .ref mt, .int (nI nT), .int lim, .ref mo, .int (nI nO), .ref mf, .int (nI nF), .ref mc, .ref mm, .ref mk, .ref mb, .int lf, .int fl, .ref mu, .int f1, .int f2, .int ck, .ref ml, .ref mg, .ref mx])), (mc, .inl (cI, 3, .inl (fun j => nI (cm j)))), (mm, .inl (cI, 3, .inl (fun j => nI (mn j)))), (mk, .inl (cI, 1200, .inl kp)), (mb, .inl (cB, 3, .inl bd)), (mu, .inl (cB, 3, .inl tu)), (ml, .inl (cI, 3, .inl la)), (mg, .inl (cI, 1200, .inl gd)), (mx, .inl (cI, 12, .inl ct))] (fun (v : Int32) (u : MR) => (v, u) = endM0 lim (cm, mn, kp, bd, tu, la, gd, ct, lf, fl, f1, f2, ck)) (fun u : MR => [(o, .inr (5, [.int th, .ref mt, .int (nI nT), .int lim, .ref mo, .int (nI nO), .ref mf, .int (nI nF), .ref mc, .ref mm, .ref mk, .ref mb, .int u.2.2.2.2.2.2.2.2.1, .int u.2.2.2.2.2.2.2.2.2.1, .ref mu, .int u.2.2.2.2.2.2.2.2.2.2.1, .int u.2.2.2.2.2.2.2.2.2.2.2.1, .int u.2.2.2.2.2.2.2.2.2.2.2.2, .ref ml, .ref mg, .ref mx])), (mc, .inl (cI, 3, .inl (fun j => nI (u.1 j)))), (mm, .inl (cI, 3, .inl (fun j => nI (u.2.1 j)))), (mk, .inl (cI, 1200, .inl u.2.2.1)), (mb, .inl (cB, 3, .inl u.2.2.2.1)), (mu, .inl (cB, 3, .inl u.2.2.2.2.1)), (ml, .inl (cI, 3, .inl u.2.2.2.2.2.1)), (mg, .inl (cI, 1200, .inl u.2.2.2.2.2.2.1)), (mx, .inl (cI, 12, .inl u.2.2.2.2.2.2.2.1))]) 0 0 := by
  refine ft_ei (cc := b_M_ends) (maxL := 5) (ret := (some .int)) (by decide) rfl (Nat.le_of_ble_eq_true rfl) ?_
  intro p e s m below meth c A ls hx hb hr hml hts hown hlocks hmn hP hK hD hA hS hNW hl
  have ht : ∀ w ∈ ft_big, w.before _ s = true := fun w h => hts w (List.mem_cons_of_mem _ h)
  have hP : va_P D vwCl [(o, .inr (5, [.int th, .ref mt, .int (nI nT), .int lim, .ref mo, .int (nI nO), .ref mf, .int (nI nF), .ref mc, .ref mm, .ref mk, .ref mb, .int lf, .int fl, .ref mu, .int f1, .int f2, .int ck, .ref ml, .ref mg, .ref mx])), (mc, .inl (cI, 3, .inl (fun j => nI (cm j)))), (mm, .inl (cI, 3, .inl (fun j => nI (mn j)))), (mk, .inl (cI, 1200, .inl kp)), (mb, .inl (cB, 3, .inl bd)), (mu, .inl (cB, 3, .inl tu)), (ml, .inl (cI, 3, .inl la)), (mg, .inl (cI, 1200, .inl gd)), (mx, .inl (cI, 12, .inl ct))] s.heap := hP
  have hD : va_D A [(o, .inr (5, [.int th, .ref mt, .int (nI nT), .int lim, .ref mo, .int (nI nO), .ref mf, .int (nI nF), .ref mc, .ref mm, .ref mk, .ref mb, .int lf, .int fl, .ref mu, .int f1, .int f2, .int ck, .ref ml, .ref mg, .ref mx])), (mc, .inl (cI, 3, .inl (fun j => nI (cm j)))), (mm, .inl (cI, 3, .inl (fun j => nI (mn j)))), (mk, .inl (cI, 1200, .inl kp)), (mb, .inl (cB, 3, .inl bd)), (mu, .inl (cB, 3, .inl tu)), (ml, .inl (cI, 3, .inl la)), (mg, .inl (cI, 1200, .inl gd)), (mx, .inl (cI, 12, .inl ct))] := hD
  have hl : lv_has ls 5 [(0, .ref o), (1, .int (nI 0))] := hl
  refine lv_iload_n hx hb d_M_ends_0 rfl (lv_at hl 1 rfl) ?_
  refine lv_iconst (v := nI 2) hx hb d_M_ends_1 (by decide +kernel) ?_
  refine lv_icmp_ne (tgt := 16) hx hb d_M_ends_2 (by decide) (fun _ => ?_) (fun c2 => absurd c2 (by decide))
  refine lv_aload_n hx hb d_M_ends_16 rfl (lv_at hl 0 rfl) ?_
  refine va_get (D := D) (ci := 5) (v := .ref mm) (C := R_M) (T := F_M) (N := 21) hx hb ht bi_M hown hK hP 0 rfl rfl 9 (by decide) (ht _ bw_416) (fun _ h9 => h9) rfl d_M_ends_17 ?_
  refine lv_iload_n hx hb d_M_ends_20 rfl (lv_at hl 1 rfl) ?_
  refine va_iald hx hb hK hP 2 0 rfl rfl (vp_in_nI (by omega) (by omega)) d_M_ends_21 ?_
  refine ft_top (y := nI (mn 0)) (congrArg (fun j => nI (mn j)) (by decide)) ?_
  refine lv_istore_n (lv' := [(2, .int (nI (mn 0))), (0, .ref o), (1, .int (nI 0))]) hx hb d_M_ends_22 rfl hl (by decide) rfl (fun ls hl => ?_)
  refine lv_aload_n hx hb d_M_ends_23 rfl (lv_at hl 1 rfl) ?_
  refine lv_iload_n hx hb d_M_ends_24 rfl (lv_at hl 2 rfl) ?_
  refine ft_ci (wc := [(o, .inr (5, [.int th, .ref mt, .int (nI nT), .int lim, .ref mo, .int (nI nO), .ref mf, .int (nI nF), .ref mc, .ref mm, .ref mk, .ref mb, .int lf, .int fl, .ref mu, .int f1, .int f2, .int ck, .ref ml, .ref mg, .ref mx])), (mc, .inl (cI, 3, .inl (fun j => nI (cm j)))), (mm, .inl (cI, 3, .inl (fun j => nI (mn j)))), (mb, .inl (cB, 3, .inl bd)), (mu, .inl (cB, 3, .inl tu))]) (wr := [(mk, .inl (cI, 1200, .inl kp)), (ml, .inl (cI, 3, .inl la)), (mg, .inl (cI, 1200, .inl gd)), (mx, .inl (cI, 12, .inl ct))]) (va_runV (As := [.int (nI 0)]) (rest := []) ⟨hx, hb, hml, hown, ht⟩ (c_M_isSo_0 l D cI cB o mt mo mf mc mm mk mb mu ml mg mx th lim lf fl f1 f2 ck nT nO nF cm mn bd tu hC hM s.heap.size) (ft_cwV 1 ht bw_540 bw_542 bw_25 bw_39 bw_543 (by decide) ⟨Nat.le_of_ble_eq_true rfl, Nat.le_of_ble_eq_true rfl⟩) ⟨ft_blind, va_recv hK hP (ci := 5) (q0 := 0) rfl rfl, (ft_pre hP hD hK hNW [0, 1, 2, 4, 5] [0, 1] rfl rfl (by decide) rfl _)⟩ rfl rfl hl.1 rfl (lv_room (Nat.le_of_ble_eq_true rfl)) d_M_ends_25 ⟨Nat.le_of_ble_eq_true rfl, Nat.le_of_ble_eq_true rfl⟩) hP hD hS hA [0, 1, 2, 4, 5] [3, 6, 7, 8] rfl rfl (by decide) (by decide) (fun r_1 u_2 H locs hu_2 hP hD hS => ?_)
  subst hu_2
  have hP : va_P D vwCl [(mk, .inl (cI, 1200, .inl kp)), (ml, .inl (cI, 3, .inl la)), (mg, .inl (cI, 1200, .inl gd)), (mx, .inl (cI, 12, .inl ct)), (o, .inr (5, [.int th, .ref mt, .int (nI nT), .int lim, .ref mo, .int (nI nO), .ref mf, .int (nI nF), .ref mc, .ref mm, .ref mk, .ref mb, .int lf, .int fl, .ref mu, .int f1, .int f2, .int ck, .ref ml, .ref mg, .ref mx])), (mc, .inl (cI, 3, .inl (fun j => nI (cm j)))), (mm, .inl (cI, 3, .inl (fun j => nI (mn j)))), (mb, .inl (cB, 3, .inl bd)), (mu, .inl (cB, 3, .inl tu))] H := hP
  have hD : va_D A [(mk, .inl (cI, 1200, .inl kp)), (ml, .inl (cI, 3, .inl la)), (mg, .inl (cI, 1200, .inl gd)), (mx, .inl (cI, 12, .inl ct)), (o, .inr (5, [.int th, .ref mt, .int (nI nT), .int lim, .ref mo, .int (nI nO), .ref mf, .int (nI nF), .ref mc, .ref mm, .ref mk, .ref mb, .int lf, .int fl, .ref mu, .int f1, .int f2, .int ck, .ref ml, .ref mg, .ref mx])), (mc, .inl (cI, 3, .inl (fun j => nI (cm j)))), (mm, .inl (cI, 3, .inl (fun j => nI (mn j)))), (mb, .inl (cB, 3, .inl bd)), (mu, .inl (cB, 3, .inl tu))] := hD
  refine lv_if_ne (tgt := 35) hx hb d_M_ends_28 (by decide) (fun c28 => ?_) (fun c28 => ?_)
  · skip
    refine lv_iload_n hx hb d_M_ends_35 rfl (lv_at hl 0 rfl) ?_
    refine lv_aload_n hx hb d_M_ends_36 rfl (lv_at hl 1 rfl) ?_
    refine va_get (D := D) (ci := 5) (v := .int lim) (C := R_M) (T := F_M) (N := 21) hx hb ht bi_M hown hK hP 4 rfl rfl 3 (by decide) (ht _ bw_410) (fun _ h9 => h9) rfl d_M_ends_37 ?_
    refine lv_icmp_le (tgt := 47) hx hb d_M_ends_40 (by decide) (fun c40 => ?_) (fun c40 => ?_)
    · skip
      have ev : vrd (so0 cm lf) (nI (mn 0)) lim = 1 := by unfold vrd; rw [if_neg c28, if_pos c40]
      have h400 : mn 0 ≤ 400 := le400 (by omega) c40 hL
      refine lv_iconst (v := nI 1) hx hb d_M_ends_47 (by decide +kernel) ?_
      refine lv_istore_n (lv' := [(3, .int (nI 1)), (2, .int (nI (mn 0))), (0, .ref o), (1, .int (nI 0))]) hx hb d_M_ends_48 rfl hl (by decide) rfl (fun ls hl => ?_)
      refine lv_aload_n hx hb d_M_ends_49 rfl (lv_at hl 2 rfl) ?_
      refine va_get (D := D) (ci := 5) (v := .ref mx) (C := R_M) (T := F_M) (N := 21) hx hb ht bi_M hown hK hP 4 rfl rfl 20 (by decide) (ht _ bw_427) (fun _ h9 => h9) rfl d_M_ends_50 ?_
      refine lv_iconst (v := nI 4) hx hb d_M_ends_53 (by decide +kernel) ?_
      refine lv_iload_n hx hb d_M_ends_54 rfl (lv_at hl 3 rfl) ?_
      refine lv_imul hx hb d_M_ends_55 ?_
      refine ft_top (show nI 4 * nI 0 = nI 0 from by decide) ?_
      refine lv_iload_n hx hb d_M_ends_56 rfl (lv_at hl 0 rfl) ?_
      refine lv_iadd hx hb d_M_ends_57 ?_
      refine ft_top (show nI 0 + nI 1 = nI 1 from by decide) ?_
      refine lv_dup2_11 hx hb d_M_ends_58 rfl rfl ?_
      refine va_iald hx hb hK hP 3 0 rfl rfl (vp_in_nI (by omega) (by omega)) d_M_ends_59 ?_
      refine ft_top (congrArg ct (show (nI 1).toNatClampNeg = 1 from by decide)) ?_
      refine lv_iconst (v := 1) hx hb d_M_ends_60 (by decide +kernel) ?_
      refine lv_iadd hx hb d_M_ends_61 ?_
      refine va_iast hx hb hK hP hD hS 3 0 rfl rfl (vp_in_nI (by omega) (by omega)) d_M_ends_62 (fun H locs hP hD hS => ?_)
      rw [show (nI 1).toNatClampNeg = 1 from by decide] at hP hD
      obtain ⟨ct_3, ect_3⟩ : ∃ g : Nat → Int32, g = upd ct 1 ((ct 1) + 1) := ⟨_, rfl⟩
      rw [← ect_3] at hP hD
      have hP : va_P D vwCl [(mk, .inl (cI, 1200, .inl kp)), (ml, .inl (cI, 3, .inl la)), (mg, .inl (cI, 1200, .inl gd)), (mx, .inl (cI, 12, .inl ct_3)), (o, .inr (5, [.int th, .ref mt, .int (nI nT), .int lim, .ref mo, .int (nI nO), .ref mf, .int (nI nF), .ref mc, .ref mm, .ref mk, .ref mb, .int lf, .int fl, .ref mu, .int f1, .int f2, .int ck, .ref ml, .ref mg, .ref mx])), (mc, .inl (cI, 3, .inl (fun j => nI (cm j)))), (mm, .inl (cI, 3, .inl (fun j => nI (mn j)))), (mb, .inl (cB, 3, .inl bd)), (mu, .inl (cB, 3, .inl tu))] H := hP
      have hD : va_D A [(mk, .inl (cI, 1200, .inl kp)), (ml, .inl (cI, 3, .inl la)), (mg, .inl (cI, 1200, .inl gd)), (mx, .inl (cI, 12, .inl ct_3)), (o, .inr (5, [.int th, .ref mt, .int (nI nT), .int lim, .ref mo, .int (nI nO), .ref mf, .int (nI nF), .ref mc, .ref mm, .ref mk, .ref mb, .int lf, .int fl, .ref mu, .int f1, .int f2, .int ck, .ref ml, .ref mg, .ref mx])), (mc, .inl (cI, 3, .inl (fun j => nI (cm j)))), (mm, .inl (cI, 3, .inl (fun j => nI (mn j)))), (mb, .inl (cB, 3, .inl bd)), (mu, .inl (cB, 3, .inl tu))] := hD
      refine lv_iload_n hx hb d_M_ends_63 rfl (lv_at hl 0 rfl) ?_
      refine lv_iconst (v := nI 1) hx hb d_M_ends_64 (by decide +kernel) ?_
      refine lv_icmp_ne (tgt := 116) hx hb d_M_ends_65 (by decide) (fun c65 => absurd (by decide) c65) (fun _ => ?_)
      refine lv_aload_n hx hb d_M_ends_68 rfl (lv_at hl 2 rfl) ?_
      refine va_get (D := D) (ci := 5) (v := .ref ml) (C := R_M) (T := F_M) (N := 21) hx hb ht bi_M hown hK hP 4 rfl rfl 18 (by decide) (ht _ bw_425) (fun _ h9 => h9) rfl d_M_ends_69 ?_
      refine lv_iload_n hx hb d_M_ends_72 rfl (lv_at hl 3 rfl) ?_
      refine lv_iload_n hx hb d_M_ends_73 rfl (lv_at hl 1 rfl) ?_
      refine va_iast hx hb hK hP hD hS 1 0 rfl rfl (vp_in_nI (by omega) (by omega)) d_M_ends_74 (fun H locs hP hD hS => ?_)
      rw [show (nI 0).toNatClampNeg = 0 from by decide] at hP hD
      obtain ⟨la_4, ela_4⟩ : ∃ g : Nat → Int32, g = upd la 0 (nI (mn 0)) := ⟨_, rfl⟩
      rw [← ela_4] at hP hD
      have hP : va_P D vwCl [(mk, .inl (cI, 1200, .inl kp)), (ml, .inl (cI, 3, .inl la_4)), (mg, .inl (cI, 1200, .inl gd)), (mx, .inl (cI, 12, .inl ct_3)), (o, .inr (5, [.int th, .ref mt, .int (nI nT), .int lim, .ref mo, .int (nI nO), .ref mf, .int (nI nF), .ref mc, .ref mm, .ref mk, .ref mb, .int lf, .int fl, .ref mu, .int f1, .int f2, .int ck, .ref ml, .ref mg, .ref mx])), (mc, .inl (cI, 3, .inl (fun j => nI (cm j)))), (mm, .inl (cI, 3, .inl (fun j => nI (mn j)))), (mb, .inl (cB, 3, .inl bd)), (mu, .inl (cB, 3, .inl tu))] H := hP
      have hD : va_D A [(mk, .inl (cI, 1200, .inl kp)), (ml, .inl (cI, 3, .inl la_4)), (mg, .inl (cI, 1200, .inl gd)), (mx, .inl (cI, 12, .inl ct_3)), (o, .inr (5, [.int th, .ref mt, .int (nI nT), .int lim, .ref mo, .int (nI nO), .ref mf, .int (nI nF), .ref mc, .ref mm, .ref mk, .ref mb, .int lf, .int fl, .ref mu, .int f1, .int f2, .int ck, .ref ml, .ref mg, .ref mx])), (mc, .inl (cI, 3, .inl (fun j => nI (cm j)))), (mm, .inl (cI, 3, .inl (fun j => nI (mn j)))), (mb, .inl (cB, 3, .inl bd)), (mu, .inl (cB, 3, .inl tu))] := hD
      refine lv_iconst (v := nI 0) hx hb d_M_ends_75 (by decide +kernel) ?_
      refine lv_istore (lv' := [(4, .int (nI 0)), (3, .int (nI 1)), (2, .int (nI (mn 0))), (0, .ref o), (1, .int (nI 0))]) hx hb d_M_ends_76 hl (by decide) rfl (fun ls hl => ?_)
      have cp : ∀ (q : Nat) (k : Nat) (gE : Nat → Int32) (H : Heap) (locs : List Loc) (ls : Array Slot), k + q = mn 0 → va_P D vwCl [(mk, .inl (cI, 1200, .inl kp)), (ml, .inl (cI, 3, .inl la_4)), (mg, .inl (cI, 1200, .inl gE)), (mx, .inl (cI, 12, .inl ct_3)), (o, .inr (5, [.int th, .ref mt, .int (nI nT), .int lim, .ref mo, .int (nI nO), .ref mf, .int (nI nF), .ref mc, .ref mm, .ref mk, .ref mb, .int lf, .int fl, .ref mu, .int f1, .int f2, .int ck, .ref ml, .ref mg, .ref mx])), (mc, .inl (cI, 3, .inl (fun j => nI (cm j)))), (mm, .inl (cI, 3, .inl (fun j => nI (mn j)))), (mb, .inl (cB, 3, .inl bd)), (mu, .inl (cB, 3, .inl tu))] H → va_D A [(mk, .inl (cI, 1200, .inl kp)), (ml, .inl (cI, 3, .inl la_4)), (mg, .inl (cI, 1200, .inl gE)), (mx, .inl (cI, 12, .inl ct_3)), (o, .inr (5, [.int th, .ref mt, .int (nI nT), .int lim, .ref mo, .int (nI nO), .ref mf, .int (nI nF), .ref mc, .ref mm, .ref mk, .ref mb, .int lf, .int fl, .ref mu, .int f1, .int f2, .int ck, .ref ml, .ref mg, .ref mx])), (mc, .inl (cI, 3, .inl (fun j => nI (cm j)))), (mm, .inl (cI, 3, .inl (fun j => nI (mn j)))), (mb, .inl (cB, 3, .inl bd)), (mu, .inl (cB, 3, .inl tu))] → va_S A s.heap H locs → lv_has ls 5 [(4, .int (nI k)), (3, .int (nI 1)), (2, .int (nI (mn 0))), (0, .ref o), (1, .int (nI 0))] → gE = cpG gd kp 0 k → W p l e ({ frames := 1, cells := 0, slots := 0, locals := 40 } : Room) s m ([.ref o, .int (nI 0)] : List Value).toArray below meth c H locs 0 0 (MQ below (va_Qi (fun (v : Int32) (u : MR) => (v, u) = endM0 lim (cm, mn, kp, bd, tu, la, gd, ct, lf, fl, f1, f2, ck)) (ft_B D vwCl [(cI, .int), (cB, .boolean)] A (fun u : MR => [(o, .inr (5, [.int th, .ref mt, .int (nI nT), .int lim, .ref mo, .int (nI nO), .ref mf, .int (nI nF), .ref mc, .ref mm, .ref mk, .ref mb, .int u.2.2.2.2.2.2.2.2.1, .int u.2.2.2.2.2.2.2.2.2.1, .ref mu, .int u.2.2.2.2.2.2.2.2.2.2.1, .int u.2.2.2.2.2.2.2.2.2.2.2.1, .int u.2.2.2.2.2.2.2.2.2.2.2.2, .ref ml, .ref mg, .ref mx])), (mc, .inl (cI, 3, .inl (fun j => nI (u.1 j)))), (mm, .inl (cI, 3, .inl (fun j => nI (u.2.1 j)))), (mk, .inl (cI, 1200, .inl u.2.2.1)), (mb, .inl (cB, 3, .inl u.2.2.2.1)), (mu, .inl (cB, 3, .inl u.2.2.2.2.1)), (ml, .inl (cI, 3, .inl u.2.2.2.2.2.1)), (mg, .inl (cI, 1200, .inl u.2.2.2.2.2.2.1)), (mx, .inl (cI, 12, .inl u.2.2.2.2.2.2.2.1))])) A) ([.ref o, .int (nI 0)] : List Value).toArray s 0 0 A) (F0 m 78 ls []) := by
        intro q
        induction q with
        | zero =>
          intro k gE H locs ls hk hP hD hS hl eG
          refine lv_iload hx hb d_M_ends_78 (lv_at hl 0 rfl) ?_
          refine lv_iload_n hx hb d_M_ends_80 rfl (lv_at hl 2 rfl) ?_
          refine lv_icmp_ge (tgt := 116) hx hb d_M_ends_81 (by decide) (fun c81 => ?_) (fun c81 => absurd (nI_le (by omega) (by omega)) c81)
          have c81 : mn 0 ≤ k := (nI_leI (by omega) (by omega)).mp c81
          refine lv_aload_n hx hb d_M_ends_116 rfl (lv_at hl 3 rfl) ?_
          refine lv_iload_n hx hb d_M_ends_117 rfl (lv_at hl 4 rfl) ?_
          refine ft_cv (wc := [(o, .inr (5, [.int th, .ref mt, .int (nI nT), .int lim, .ref mo, .int (nI nO), .ref mf, .int (nI nF), .ref mc, .ref mm, .ref mk, .ref mb, .int lf, .int fl, .ref mu, .int f1, .int f2, .int ck, .ref ml, .ref mg, .ref mx])), (mc, .inl (cI, 3, .inl (fun j => nI (cm j)))), (mm, .inl (cI, 3, .inl (fun j => nI (mn j)))), (mb, .inl (cB, 3, .inl bd)), (mu, .inl (cB, 3, .inl tu))]) (wr := [(mk, .inl (cI, 1200, .inl kp)), (ml, .inl (cI, 3, .inl la_4)), (mg, .inl (cI, 1200, .inl gE)), (mx, .inl (cI, 12, .inl ct_3))]) (va_runV (As := [.int (nI 0)]) (rest := []) ⟨hx, hb, hml, hown, ht⟩ (c_M_begin_0 l D cI cB o mt mo mf mc mm mk mb mu ml mg mx th lim lf fl f1 f2 ck nT nO nF cm mn bd tu H.size) (ft_cwV 1 ht bw_544 bw_546 bw_26 bw_39 bw_547 (by decide) ⟨Nat.le_of_ble_eq_true rfl, Nat.le_of_ble_eq_true rfl⟩) ⟨ft_blind, va_recv hK hP (ci := 5) (q0 := 4) rfl rfl, (ft_pre hP hD hK hNW [4, 5, 6, 7, 8] [0, 1] rfl rfl (by decide) rfl _)⟩ rfl rfl hl.1 rfl (lv_room (Nat.le_of_ble_eq_true rfl)) d_M_ends_118 ⟨Nat.le_of_ble_eq_true rfl, Nat.le_of_ble_eq_true rfl⟩) hP hD hS hA [4, 5, 6, 7, 8] [0, 1, 2, 3] rfl rfl (by decide) (by decide) (fun u_6 H locs hu_6 hP hD hS => ?_)
          obtain ⟨cmB, mnB, bdB, tuB⟩ := u_6
          obtain ⟨e_cmB, e_mnB, e_bdB, e_tuB⟩ : cmB = va_up cm 0 0 ∧ mnB = va_up mn 0 0 ∧ bdB = upd bd 0 0 ∧ tuB = upd tu 0 0 := by simpa using hu_6
          have b_c : cmB 0 = 0 := by rw [e_cmB]; exact if_pos rfl
          have b_m : mnB 0 = 0 := by rw [e_mnB]; exact if_pos rfl
          have b_t : tuB 0 = 0 := by rw [e_tuB]; exact pk_us
          have hP : va_P D vwCl [(mk, .inl (cI, 1200, .inl kp)), (ml, .inl (cI, 3, .inl la_4)), (mg, .inl (cI, 1200, .inl gE)), (mx, .inl (cI, 12, .inl ct_3)), (o, .inr (5, [.int th, .ref mt, .int (nI nT), .int lim, .ref mo, .int (nI nO), .ref mf, .int (nI nF), .ref mc, .ref mm, .ref mk, .ref mb, .int 0, .int 0, .ref mu, .int f1, .int f2, .int ck, .ref ml, .ref mg, .ref mx])), (mc, .inl (cI, 3, .inl (fun j => nI (cmB j)))), (mm, .inl (cI, 3, .inl (fun j => nI (mnB j)))), (mb, .inl (cB, 3, .inl bdB)), (mu, .inl (cB, 3, .inl tuB))] H := hP
          have hD : va_D A [(mk, .inl (cI, 1200, .inl kp)), (ml, .inl (cI, 3, .inl la_4)), (mg, .inl (cI, 1200, .inl gE)), (mx, .inl (cI, 12, .inl ct_3)), (o, .inr (5, [.int th, .ref mt, .int (nI nT), .int lim, .ref mo, .int (nI nO), .ref mf, .int (nI nF), .ref mc, .ref mm, .ref mk, .ref mb, .int 0, .int 0, .ref mu, .int f1, .int f2, .int ck, .ref ml, .ref mg, .ref mx])), (mc, .inl (cI, 3, .inl (fun j => nI (cmB j)))), (mm, .inl (cI, 3, .inl (fun j => nI (mnB j)))), (mb, .inl (cB, 3, .inl bdB)), (mu, .inl (cB, 3, .inl tuB))] := hD
          refine lv_iload_n hx hb d_M_ends_121 rfl (lv_at hl 1 rfl) ?_
          exact ft_reti (cmB, mnB, kp, bdB, tuB, la_4, gE, ct_3, 0, 0, f1, f2, ck) hx hb hr hlocks (hP.sub [4, 5, 6, 0, 7, 8, 1, 2, 3] rfl) hK (hD.sub [4, 5, 6, 0, 7, 8, 1, 2, 3] (by decide) rfl) hS (by show _ = (vrd (so0 cm lf) (nI (mn 0)) lim, begS0 (endA 0 (mn 0) (vrd (so0 cm lf) (nI (mn 0)) lim) (cm, mn, kp, bd, tu, la, gd, ct, lf, fl, f1, f2, ck))); rw [ev, endA_1, e_cmB, e_mnB, e_bdB, e_tuB, ect_3, ela_4, eG, show k = mn 0 from by omega]; rfl) d_M_ends_122
        | succ q ih_cp =>
          intro k gE H locs ls hk hP hD hS hl eG
          refine lv_iload hx hb d_M_ends_78 (lv_at hl 0 rfl) ?_
          refine lv_iload_n hx hb d_M_ends_80 rfl (lv_at hl 2 rfl) ?_
          refine lv_icmp_ge (tgt := 116) hx hb d_M_ends_81 (by decide) (fun c81 => absurd c81 (nI_ge (by omega) (by omega))) (fun c81 => ?_)
          have c81 : ¬ mn 0 ≤ k := fun h => c81 ((nI_leI (by omega) (by omega)).mpr h)
          refine lv_aload_n hx hb d_M_ends_84 rfl (lv_at hl 3 rfl) ?_
          refine va_get (D := D) (ci := 5) (v := .ref mg) (C := R_M) (T := F_M) (N := 21) hx hb ht bi_M hown hK hP 4 rfl rfl 19 (by decide) (ht _ bw_426) (fun _ h9 => h9) rfl d_M_ends_85 ?_
          refine lv_sipush (v := nI 400) hx hb d_M_ends_88 (by decide +kernel) ?_
          refine lv_iload_n hx hb d_M_ends_91 rfl (lv_at hl 4 rfl) ?_
          refine lv_imul hx hb d_M_ends_92 ?_
          refine ft_top (show nI 400 * nI 0 = nI 0 from by decide) ?_
          refine lv_iload hx hb d_M_ends_93 (lv_at hl 0 rfl) ?_
          refine lv_iadd hx hb d_M_ends_95 ?_
          refine ft_top (nI_add 0 k) ?_
          refine lv_aload_n hx hb d_M_ends_96 rfl (lv_at hl 3 rfl) ?_
          refine va_get (D := D) (ci := 5) (v := .ref mk) (C := R_M) (T := F_M) (N := 21) hx hb ht bi_M hown hK hP 4 rfl rfl 10 (by decide) (ht _ bw_417) (fun _ h9 => h9) rfl d_M_ends_97 ?_
          refine lv_sipush (v := nI 400) hx hb d_M_ends_100 (by decide +kernel) ?_
          refine lv_iload_n hx hb d_M_ends_103 rfl (lv_at hl 4 rfl) ?_
          refine lv_imul hx hb d_M_ends_104 ?_
          refine ft_top (show nI 400 * nI 0 = nI 0 from by decide) ?_
          refine lv_iload hx hb d_M_ends_105 (lv_at hl 0 rfl) ?_
          refine lv_iadd hx hb d_M_ends_107 ?_
          refine ft_top (nI_add 0 k) ?_
          refine va_iald hx hb hK hP 0 0 rfl rfl (vp_in_nI (by omega) (by omega)) d_M_ends_108 ?_
          refine ft_top (congrArg kp (nI_clamp (n := 0 + k) (by omega))) ?_
          refine va_iast hx hb hK hP hD hS 2 0 rfl rfl (vp_in_nI (by omega) (by omega)) d_M_ends_109 (fun H locs hP hD hS => ?_)
          rw [nI_clamp (n := 0 + k) (by omega)] at hP hD
          obtain ⟨gE_7, egE_7⟩ : ∃ g : Nat → Int32, g = upd gE (0 + k) (kp (0 + k)) := ⟨_, rfl⟩
          rw [← egE_7] at hP hD
          have hP : va_P D vwCl [(mk, .inl (cI, 1200, .inl kp)), (ml, .inl (cI, 3, .inl la_4)), (mg, .inl (cI, 1200, .inl gE_7)), (mx, .inl (cI, 12, .inl ct_3)), (o, .inr (5, [.int th, .ref mt, .int (nI nT), .int lim, .ref mo, .int (nI nO), .ref mf, .int (nI nF), .ref mc, .ref mm, .ref mk, .ref mb, .int lf, .int fl, .ref mu, .int f1, .int f2, .int ck, .ref ml, .ref mg, .ref mx])), (mc, .inl (cI, 3, .inl (fun j => nI (cm j)))), (mm, .inl (cI, 3, .inl (fun j => nI (mn j)))), (mb, .inl (cB, 3, .inl bd)), (mu, .inl (cB, 3, .inl tu))] H := hP
          have hD : va_D A [(mk, .inl (cI, 1200, .inl kp)), (ml, .inl (cI, 3, .inl la_4)), (mg, .inl (cI, 1200, .inl gE_7)), (mx, .inl (cI, 12, .inl ct_3)), (o, .inr (5, [.int th, .ref mt, .int (nI nT), .int lim, .ref mo, .int (nI nO), .ref mf, .int (nI nF), .ref mc, .ref mm, .ref mk, .ref mb, .int lf, .int fl, .ref mu, .int f1, .int f2, .int ck, .ref ml, .ref mg, .ref mx])), (mc, .inl (cI, 3, .inl (fun j => nI (cm j)))), (mm, .inl (cI, 3, .inl (fun j => nI (mn j)))), (mb, .inl (cB, 3, .inl bd)), (mu, .inl (cB, 3, .inl tu))] := hD
          refine lv_iinc (v := nI (k + 1)) (lv' := [(4, .int (nI (k + 1))), (3, .int (nI 1)), (2, .int (nI (mn 0))), (0, .ref o), (1, .int (nI 0))]) hx hb d_M_ends_110 hl (k := 0) rfl (nI_1 k) (by decide) rfl (fun ls hl => ?_)
          refine lv_goto (tgt := 78) hx hb d_M_ends_113 (by decide) ?_
          exact ih_cp (k + 1) gE_7 H locs ls (by omega) (hP.sub [0, 1, 2, 3, 4, 5, 6, 7, 8] rfl) (hD.sub [0, 1, 2, 3, 4, 5, 6, 7, 8] (by decide) rfl) hS (lv_sub hl [0, 1, 2, 3, 4] rfl) (by rw [egE_7, eG]; exact cpG_s gd kp 0 k)
      exact cp (mn 0) 0 gd H locs ls (by omega) (hP.sub [0, 1, 2, 3, 4, 5, 6, 7, 8] rfl) (hD.sub [0, 1, 2, 3, 4, 5, 6, 7, 8] (by decide) rfl) hS (lv_sub hl [0, 1, 2, 3, 4] rfl) (cpG_0 gd kp 0).symm
    · skip
      have ev : vrd (so0 cm lf) (nI (mn 0)) lim = 3 := by unfold vrd; rw [if_neg c28, if_neg c40]
      refine lv_iconst (v := nI 3) hx hb d_M_ends_43 (by decide +kernel) ?_
      refine lv_goto (tgt := 48) hx hb d_M_ends_44 (by decide) ?_
      refine lv_istore_n (lv' := [(3, .int (nI 3)), (2, .int (nI (mn 0))), (0, .ref o), (1, .int (nI 0))]) hx hb d_M_ends_48 rfl hl (by decide) rfl (fun ls hl => ?_)
      refine lv_aload_n hx hb d_M_ends_49 rfl (lv_at hl 2 rfl) ?_
      refine va_get (D := D) (ci := 5) (v := .ref mx) (C := R_M) (T := F_M) (N := 21) hx hb ht bi_M hown hK hP 4 rfl rfl 20 (by decide) (ht _ bw_427) (fun _ h9 => h9) rfl d_M_ends_50 ?_
      refine lv_iconst (v := nI 4) hx hb d_M_ends_53 (by decide +kernel) ?_
      refine lv_iload_n hx hb d_M_ends_54 rfl (lv_at hl 3 rfl) ?_
      refine lv_imul hx hb d_M_ends_55 ?_
      refine ft_top (show nI 4 * nI 0 = nI 0 from by decide) ?_
      refine lv_iload_n hx hb d_M_ends_56 rfl (lv_at hl 0 rfl) ?_
      refine lv_iadd hx hb d_M_ends_57 ?_
      refine ft_top (show nI 0 + nI 3 = nI 3 from by decide) ?_
      refine lv_dup2_11 hx hb d_M_ends_58 rfl rfl ?_
      refine va_iald hx hb hK hP 3 0 rfl rfl (vp_in_nI (by omega) (by omega)) d_M_ends_59 ?_
      refine ft_top (congrArg ct (show (nI 3).toNatClampNeg = 3 from by decide)) ?_
      refine lv_iconst (v := 1) hx hb d_M_ends_60 (by decide +kernel) ?_
      refine lv_iadd hx hb d_M_ends_61 ?_
      refine va_iast hx hb hK hP hD hS 3 0 rfl rfl (vp_in_nI (by omega) (by omega)) d_M_ends_62 (fun H locs hP hD hS => ?_)
      rw [show (nI 3).toNatClampNeg = 3 from by decide] at hP hD
      obtain ⟨ct_8, ect_8⟩ : ∃ g : Nat → Int32, g = upd ct 3 ((ct 3) + 1) := ⟨_, rfl⟩
      rw [← ect_8] at hP hD
      have hP : va_P D vwCl [(mk, .inl (cI, 1200, .inl kp)), (ml, .inl (cI, 3, .inl la)), (mg, .inl (cI, 1200, .inl gd)), (mx, .inl (cI, 12, .inl ct_8)), (o, .inr (5, [.int th, .ref mt, .int (nI nT), .int lim, .ref mo, .int (nI nO), .ref mf, .int (nI nF), .ref mc, .ref mm, .ref mk, .ref mb, .int lf, .int fl, .ref mu, .int f1, .int f2, .int ck, .ref ml, .ref mg, .ref mx])), (mc, .inl (cI, 3, .inl (fun j => nI (cm j)))), (mm, .inl (cI, 3, .inl (fun j => nI (mn j)))), (mb, .inl (cB, 3, .inl bd)), (mu, .inl (cB, 3, .inl tu))] H := hP
      have hD : va_D A [(mk, .inl (cI, 1200, .inl kp)), (ml, .inl (cI, 3, .inl la)), (mg, .inl (cI, 1200, .inl gd)), (mx, .inl (cI, 12, .inl ct_8)), (o, .inr (5, [.int th, .ref mt, .int (nI nT), .int lim, .ref mo, .int (nI nO), .ref mf, .int (nI nF), .ref mc, .ref mm, .ref mk, .ref mb, .int lf, .int fl, .ref mu, .int f1, .int f2, .int ck, .ref ml, .ref mg, .ref mx])), (mc, .inl (cI, 3, .inl (fun j => nI (cm j)))), (mm, .inl (cI, 3, .inl (fun j => nI (mn j)))), (mb, .inl (cB, 3, .inl bd)), (mu, .inl (cB, 3, .inl tu))] := hD
      refine lv_iload_n hx hb d_M_ends_63 rfl (lv_at hl 0 rfl) ?_
      refine lv_iconst (v := nI 1) hx hb d_M_ends_64 (by decide +kernel) ?_
      refine lv_icmp_ne (tgt := 116) hx hb d_M_ends_65 (by decide) (fun _ => ?_) (fun c65 => absurd c65 (by decide))
      refine lv_aload_n hx hb d_M_ends_116 rfl (lv_at hl 2 rfl) ?_
      refine lv_iload_n hx hb d_M_ends_117 rfl (lv_at hl 3 rfl) ?_
      refine ft_cv (wc := [(o, .inr (5, [.int th, .ref mt, .int (nI nT), .int lim, .ref mo, .int (nI nO), .ref mf, .int (nI nF), .ref mc, .ref mm, .ref mk, .ref mb, .int lf, .int fl, .ref mu, .int f1, .int f2, .int ck, .ref ml, .ref mg, .ref mx])), (mc, .inl (cI, 3, .inl (fun j => nI (cm j)))), (mm, .inl (cI, 3, .inl (fun j => nI (mn j)))), (mb, .inl (cB, 3, .inl bd)), (mu, .inl (cB, 3, .inl tu))]) (wr := [(mk, .inl (cI, 1200, .inl kp)), (ml, .inl (cI, 3, .inl la)), (mg, .inl (cI, 1200, .inl gd)), (mx, .inl (cI, 12, .inl ct_8))]) (va_runV (As := [.int (nI 0)]) (rest := []) ⟨hx, hb, hml, hown, ht⟩ (c_M_begin_0 l D cI cB o mt mo mf mc mm mk mb mu ml mg mx th lim lf fl f1 f2 ck nT nO nF cm mn bd tu H.size) (ft_cwV 1 ht bw_544 bw_546 bw_26 bw_39 bw_547 (by decide) ⟨Nat.le_of_ble_eq_true rfl, Nat.le_of_ble_eq_true rfl⟩) ⟨ft_blind, va_recv hK hP (ci := 5) (q0 := 4) rfl rfl, (ft_pre hP hD hK hNW [4, 5, 6, 7, 8] [0, 1] rfl rfl (by decide) rfl _)⟩ rfl rfl hl.1 rfl (lv_room (Nat.le_of_ble_eq_true rfl)) d_M_ends_118 ⟨Nat.le_of_ble_eq_true rfl, Nat.le_of_ble_eq_true rfl⟩) hP hD hS hA [4, 5, 6, 7, 8] [0, 1, 2, 3] rfl rfl (by decide) (by decide) (fun u_10 H locs hu_10 hP hD hS => ?_)
      obtain ⟨cmB, mnB, bdB, tuB⟩ := u_10
      obtain ⟨e_cmB, e_mnB, e_bdB, e_tuB⟩ : cmB = va_up cm 0 0 ∧ mnB = va_up mn 0 0 ∧ bdB = upd bd 0 0 ∧ tuB = upd tu 0 0 := by simpa using hu_10
      have b_c : cmB 0 = 0 := by rw [e_cmB]; exact if_pos rfl
      have b_m : mnB 0 = 0 := by rw [e_mnB]; exact if_pos rfl
      have b_t : tuB 0 = 0 := by rw [e_tuB]; exact pk_us
      have hP : va_P D vwCl [(mk, .inl (cI, 1200, .inl kp)), (ml, .inl (cI, 3, .inl la)), (mg, .inl (cI, 1200, .inl gd)), (mx, .inl (cI, 12, .inl ct_8)), (o, .inr (5, [.int th, .ref mt, .int (nI nT), .int lim, .ref mo, .int (nI nO), .ref mf, .int (nI nF), .ref mc, .ref mm, .ref mk, .ref mb, .int 0, .int 0, .ref mu, .int f1, .int f2, .int ck, .ref ml, .ref mg, .ref mx])), (mc, .inl (cI, 3, .inl (fun j => nI (cmB j)))), (mm, .inl (cI, 3, .inl (fun j => nI (mnB j)))), (mb, .inl (cB, 3, .inl bdB)), (mu, .inl (cB, 3, .inl tuB))] H := hP
      have hD : va_D A [(mk, .inl (cI, 1200, .inl kp)), (ml, .inl (cI, 3, .inl la)), (mg, .inl (cI, 1200, .inl gd)), (mx, .inl (cI, 12, .inl ct_8)), (o, .inr (5, [.int th, .ref mt, .int (nI nT), .int lim, .ref mo, .int (nI nO), .ref mf, .int (nI nF), .ref mc, .ref mm, .ref mk, .ref mb, .int 0, .int 0, .ref mu, .int f1, .int f2, .int ck, .ref ml, .ref mg, .ref mx])), (mc, .inl (cI, 3, .inl (fun j => nI (cmB j)))), (mm, .inl (cI, 3, .inl (fun j => nI (mnB j)))), (mb, .inl (cB, 3, .inl bdB)), (mu, .inl (cB, 3, .inl tuB))] := hD
      refine lv_iload_n hx hb d_M_ends_121 rfl (lv_at hl 0 rfl) ?_
      exact ft_reti (cmB, mnB, kp, bdB, tuB, la, gd, ct_8, 0, 0, f1, f2, ck) hx hb hr hlocks (hP.sub [4, 5, 6, 0, 7, 8, 1, 2, 3] rfl) hK (hD.sub [4, 5, 6, 0, 7, 8, 1, 2, 3] (by decide) rfl) hS (by show _ = (vrd (so0 cm lf) (nI (mn 0)) lim, begS0 (endA 0 (mn 0) (vrd (so0 cm lf) (nI (mn 0)) lim) (cm, mn, kp, bd, tu, la, gd, ct, lf, fl, f1, f2, ck))); rw [ev, endA_3, e_cmB, e_mnB, e_bdB, e_tuB, ect_8]; rfl) d_M_ends_122
  · skip
    have ev : vrd (so0 cm lf) (nI (mn 0)) lim = 2 := by unfold vrd; rw [if_pos c28]
    refine lv_iconst (v := nI 2) hx hb d_M_ends_31 (by decide +kernel) ?_
    refine lv_goto (tgt := 48) hx hb d_M_ends_32 (by decide) ?_
    refine lv_istore_n (lv' := [(3, .int (nI 2)), (2, .int (nI (mn 0))), (0, .ref o), (1, .int (nI 0))]) hx hb d_M_ends_48 rfl hl (by decide) rfl (fun ls hl => ?_)
    refine lv_aload_n hx hb d_M_ends_49 rfl (lv_at hl 2 rfl) ?_
    refine va_get (D := D) (ci := 5) (v := .ref mx) (C := R_M) (T := F_M) (N := 21) hx hb ht bi_M hown hK hP 4 rfl rfl 20 (by decide) (ht _ bw_427) (fun _ h9 => h9) rfl d_M_ends_50 ?_
    refine lv_iconst (v := nI 4) hx hb d_M_ends_53 (by decide +kernel) ?_
    refine lv_iload_n hx hb d_M_ends_54 rfl (lv_at hl 3 rfl) ?_
    refine lv_imul hx hb d_M_ends_55 ?_
    refine ft_top (show nI 4 * nI 0 = nI 0 from by decide) ?_
    refine lv_iload_n hx hb d_M_ends_56 rfl (lv_at hl 0 rfl) ?_
    refine lv_iadd hx hb d_M_ends_57 ?_
    refine ft_top (show nI 0 + nI 2 = nI 2 from by decide) ?_
    refine lv_dup2_11 hx hb d_M_ends_58 rfl rfl ?_
    refine va_iald hx hb hK hP 3 0 rfl rfl (vp_in_nI (by omega) (by omega)) d_M_ends_59 ?_
    refine ft_top (congrArg ct (show (nI 2).toNatClampNeg = 2 from by decide)) ?_
    refine lv_iconst (v := 1) hx hb d_M_ends_60 (by decide +kernel) ?_
    refine lv_iadd hx hb d_M_ends_61 ?_
    refine va_iast hx hb hK hP hD hS 3 0 rfl rfl (vp_in_nI (by omega) (by omega)) d_M_ends_62 (fun H locs hP hD hS => ?_)
    rw [show (nI 2).toNatClampNeg = 2 from by decide] at hP hD
    obtain ⟨ct_11, ect_11⟩ : ∃ g : Nat → Int32, g = upd ct 2 ((ct 2) + 1) := ⟨_, rfl⟩
    rw [← ect_11] at hP hD
    have hP : va_P D vwCl [(mk, .inl (cI, 1200, .inl kp)), (ml, .inl (cI, 3, .inl la)), (mg, .inl (cI, 1200, .inl gd)), (mx, .inl (cI, 12, .inl ct_11)), (o, .inr (5, [.int th, .ref mt, .int (nI nT), .int lim, .ref mo, .int (nI nO), .ref mf, .int (nI nF), .ref mc, .ref mm, .ref mk, .ref mb, .int lf, .int fl, .ref mu, .int f1, .int f2, .int ck, .ref ml, .ref mg, .ref mx])), (mc, .inl (cI, 3, .inl (fun j => nI (cm j)))), (mm, .inl (cI, 3, .inl (fun j => nI (mn j)))), (mb, .inl (cB, 3, .inl bd)), (mu, .inl (cB, 3, .inl tu))] H := hP
    have hD : va_D A [(mk, .inl (cI, 1200, .inl kp)), (ml, .inl (cI, 3, .inl la)), (mg, .inl (cI, 1200, .inl gd)), (mx, .inl (cI, 12, .inl ct_11)), (o, .inr (5, [.int th, .ref mt, .int (nI nT), .int lim, .ref mo, .int (nI nO), .ref mf, .int (nI nF), .ref mc, .ref mm, .ref mk, .ref mb, .int lf, .int fl, .ref mu, .int f1, .int f2, .int ck, .ref ml, .ref mg, .ref mx])), (mc, .inl (cI, 3, .inl (fun j => nI (cm j)))), (mm, .inl (cI, 3, .inl (fun j => nI (mn j)))), (mb, .inl (cB, 3, .inl bd)), (mu, .inl (cB, 3, .inl tu))] := hD
    refine lv_iload_n hx hb d_M_ends_63 rfl (lv_at hl 0 rfl) ?_
    refine lv_iconst (v := nI 1) hx hb d_M_ends_64 (by decide +kernel) ?_
    refine lv_icmp_ne (tgt := 116) hx hb d_M_ends_65 (by decide) (fun _ => ?_) (fun c65 => absurd c65 (by decide))
    refine lv_aload_n hx hb d_M_ends_116 rfl (lv_at hl 2 rfl) ?_
    refine lv_iload_n hx hb d_M_ends_117 rfl (lv_at hl 3 rfl) ?_
    refine ft_cv (wc := [(o, .inr (5, [.int th, .ref mt, .int (nI nT), .int lim, .ref mo, .int (nI nO), .ref mf, .int (nI nF), .ref mc, .ref mm, .ref mk, .ref mb, .int lf, .int fl, .ref mu, .int f1, .int f2, .int ck, .ref ml, .ref mg, .ref mx])), (mc, .inl (cI, 3, .inl (fun j => nI (cm j)))), (mm, .inl (cI, 3, .inl (fun j => nI (mn j)))), (mb, .inl (cB, 3, .inl bd)), (mu, .inl (cB, 3, .inl tu))]) (wr := [(mk, .inl (cI, 1200, .inl kp)), (ml, .inl (cI, 3, .inl la)), (mg, .inl (cI, 1200, .inl gd)), (mx, .inl (cI, 12, .inl ct_11))]) (va_runV (As := [.int (nI 0)]) (rest := []) ⟨hx, hb, hml, hown, ht⟩ (c_M_begin_0 l D cI cB o mt mo mf mc mm mk mb mu ml mg mx th lim lf fl f1 f2 ck nT nO nF cm mn bd tu H.size) (ft_cwV 1 ht bw_544 bw_546 bw_26 bw_39 bw_547 (by decide) ⟨Nat.le_of_ble_eq_true rfl, Nat.le_of_ble_eq_true rfl⟩) ⟨ft_blind, va_recv hK hP (ci := 5) (q0 := 4) rfl rfl, (ft_pre hP hD hK hNW [4, 5, 6, 7, 8] [0, 1] rfl rfl (by decide) rfl _)⟩ rfl rfl hl.1 rfl (lv_room (Nat.le_of_ble_eq_true rfl)) d_M_ends_118 ⟨Nat.le_of_ble_eq_true rfl, Nat.le_of_ble_eq_true rfl⟩) hP hD hS hA [4, 5, 6, 7, 8] [0, 1, 2, 3] rfl rfl (by decide) (by decide) (fun u_13 H locs hu_13 hP hD hS => ?_)
    obtain ⟨cmB, mnB, bdB, tuB⟩ := u_13
    obtain ⟨e_cmB, e_mnB, e_bdB, e_tuB⟩ : cmB = va_up cm 0 0 ∧ mnB = va_up mn 0 0 ∧ bdB = upd bd 0 0 ∧ tuB = upd tu 0 0 := by simpa using hu_13
    have b_c : cmB 0 = 0 := by rw [e_cmB]; exact if_pos rfl
    have b_m : mnB 0 = 0 := by rw [e_mnB]; exact if_pos rfl
    have b_t : tuB 0 = 0 := by rw [e_tuB]; exact pk_us
    have hP : va_P D vwCl [(mk, .inl (cI, 1200, .inl kp)), (ml, .inl (cI, 3, .inl la)), (mg, .inl (cI, 1200, .inl gd)), (mx, .inl (cI, 12, .inl ct_11)), (o, .inr (5, [.int th, .ref mt, .int (nI nT), .int lim, .ref mo, .int (nI nO), .ref mf, .int (nI nF), .ref mc, .ref mm, .ref mk, .ref mb, .int 0, .int 0, .ref mu, .int f1, .int f2, .int ck, .ref ml, .ref mg, .ref mx])), (mc, .inl (cI, 3, .inl (fun j => nI (cmB j)))), (mm, .inl (cI, 3, .inl (fun j => nI (mnB j)))), (mb, .inl (cB, 3, .inl bdB)), (mu, .inl (cB, 3, .inl tuB))] H := hP
    have hD : va_D A [(mk, .inl (cI, 1200, .inl kp)), (ml, .inl (cI, 3, .inl la)), (mg, .inl (cI, 1200, .inl gd)), (mx, .inl (cI, 12, .inl ct_11)), (o, .inr (5, [.int th, .ref mt, .int (nI nT), .int lim, .ref mo, .int (nI nO), .ref mf, .int (nI nF), .ref mc, .ref mm, .ref mk, .ref mb, .int 0, .int 0, .ref mu, .int f1, .int f2, .int ck, .ref ml, .ref mg, .ref mx])), (mc, .inl (cI, 3, .inl (fun j => nI (cmB j)))), (mm, .inl (cI, 3, .inl (fun j => nI (mnB j)))), (mb, .inl (cB, 3, .inl bdB)), (mu, .inl (cB, 3, .inl tuB))] := hD
    refine lv_iload_n hx hb d_M_ends_121 rfl (lv_at hl 0 rfl) ?_
    exact ft_reti (cmB, mnB, kp, bdB, tuB, la, gd, ct_11, 0, 0, f1, f2, ck) hx hb hr hlocks (hP.sub [4, 5, 6, 0, 7, 8, 1, 2, 3] rfl) hK (hD.sub [4, 5, 6, 0, 7, 8, 1, 2, 3] (by decide) rfl) hS (by show _ = (vrd (so0 cm lf) (nI (mn 0)) lim, begS0 (endA 0 (mn 0) (vrd (so0 cm lf) (nI (mn 0)) lim) (cm, mn, kp, bd, tu, la, gd, ct, lf, fl, f1, f2, ck))); rw [ev, endA_2, e_cmB, e_mnB, e_bdB, e_tuB, ect_11]; rfl) d_M_ends_122

set_option maxHeartbeats 4000000 in
set_option maxRecDepth 100000 in
theorem c_M_ends_1 (l : Launch) (D : va_G) (cI : ClassId) (cB : ClassId) (o mt mo mf mc mm mk mb mu ml mg mx : Nat) (th lim lf fl f1 f2 ck : Int32) (nT nO nF : Nat) (cm mn : Nat → Nat) (kp bd tu la gd ct : Nat → Int32) (hC : cm 1 < 1073741824) (hM : mn 1 < 1073741824) (hL : lim ≤ 400) (sz : Nat) : ft_Mi l y_M_ends (.code y_M_ends b_M_ends 5 (some .int) :: ft_big) ({ frames := 1, cells := 0, slots := 0, locals := 40 }) D [(cI, .int), (cB, .boolean)] sz [.ref o, .int (nI 1)] [(o, .inr (5, [.int th, .ref mt, .int (nI nT), .int lim, .ref mo, .int (nI nO), .ref mf, .int (nI nF), .ref mc, .ref mm, .ref mk, .ref mb, .int lf, .int fl, .ref mu, .int f1, .int f2, .int ck, .ref ml, .ref mg, .ref mx])), (mc, .inl (cI, 3, .inl (fun j => nI (cm j)))), (mm, .inl (cI, 3, .inl (fun j => nI (mn j)))), (mk, .inl (cI, 1200, .inl kp)), (mb, .inl (cB, 3, .inl bd)), (mu, .inl (cB, 3, .inl tu)), (ml, .inl (cI, 3, .inl la)), (mg, .inl (cI, 1200, .inl gd)), (mx, .inl (cI, 12, .inl ct))] (fun (v : Int32) (u : MR) => (v, u) = endM1 lim (cm, mn, kp, bd, tu, la, gd, ct, lf, fl, f1, f2, ck)) (fun u : MR => [(o, .inr (5, [.int th, .ref mt, .int (nI nT), .int lim, .ref mo, .int (nI nO), .ref mf, .int (nI nF), .ref mc, .ref mm, .ref mk, .ref mb, .int u.2.2.2.2.2.2.2.2.1, .int u.2.2.2.2.2.2.2.2.2.1, .ref mu, .int u.2.2.2.2.2.2.2.2.2.2.1, .int u.2.2.2.2.2.2.2.2.2.2.2.1, .int u.2.2.2.2.2.2.2.2.2.2.2.2, .ref ml, .ref mg, .ref mx])), (mc, .inl (cI, 3, .inl (fun j => nI (u.1 j)))), (mm, .inl (cI, 3, .inl (fun j => nI (u.2.1 j)))), (mk, .inl (cI, 1200, .inl u.2.2.1)), (mb, .inl (cB, 3, .inl u.2.2.2.1)), (mu, .inl (cB, 3, .inl u.2.2.2.2.1)), (ml, .inl (cI, 3, .inl u.2.2.2.2.2.1)), (mg, .inl (cI, 1200, .inl u.2.2.2.2.2.2.1)), (mx, .inl (cI, 12, .inl u.2.2.2.2.2.2.2.1))]) 0 0 := by
  refine ft_ei (cc := b_M_ends) (maxL := 5) (ret := (some .int)) (by decide) rfl (Nat.le_of_ble_eq_true rfl) ?_
  intro p e s m below meth c A ls hx hb hr hml hts hown hlocks hmn hP hK hD hA hS hNW hl
  have ht : ∀ w ∈ ft_big, w.before _ s = true := fun w h => hts w (List.mem_cons_of_mem _ h)
  have hP : va_P D vwCl [(o, .inr (5, [.int th, .ref mt, .int (nI nT), .int lim, .ref mo, .int (nI nO), .ref mf, .int (nI nF), .ref mc, .ref mm, .ref mk, .ref mb, .int lf, .int fl, .ref mu, .int f1, .int f2, .int ck, .ref ml, .ref mg, .ref mx])), (mc, .inl (cI, 3, .inl (fun j => nI (cm j)))), (mm, .inl (cI, 3, .inl (fun j => nI (mn j)))), (mk, .inl (cI, 1200, .inl kp)), (mb, .inl (cB, 3, .inl bd)), (mu, .inl (cB, 3, .inl tu)), (ml, .inl (cI, 3, .inl la)), (mg, .inl (cI, 1200, .inl gd)), (mx, .inl (cI, 12, .inl ct))] s.heap := hP
  have hD : va_D A [(o, .inr (5, [.int th, .ref mt, .int (nI nT), .int lim, .ref mo, .int (nI nO), .ref mf, .int (nI nF), .ref mc, .ref mm, .ref mk, .ref mb, .int lf, .int fl, .ref mu, .int f1, .int f2, .int ck, .ref ml, .ref mg, .ref mx])), (mc, .inl (cI, 3, .inl (fun j => nI (cm j)))), (mm, .inl (cI, 3, .inl (fun j => nI (mn j)))), (mk, .inl (cI, 1200, .inl kp)), (mb, .inl (cB, 3, .inl bd)), (mu, .inl (cB, 3, .inl tu)), (ml, .inl (cI, 3, .inl la)), (mg, .inl (cI, 1200, .inl gd)), (mx, .inl (cI, 12, .inl ct))] := hD
  have hl : lv_has ls 5 [(0, .ref o), (1, .int (nI 1))] := hl
  refine lv_iload_n hx hb d_M_ends_0 rfl (lv_at hl 1 rfl) ?_
  refine lv_iconst (v := nI 2) hx hb d_M_ends_1 (by decide +kernel) ?_
  refine lv_icmp_ne (tgt := 16) hx hb d_M_ends_2 (by decide) (fun _ => ?_) (fun c2 => absurd c2 (by decide))
  refine lv_aload_n hx hb d_M_ends_16 rfl (lv_at hl 0 rfl) ?_
  refine va_get (D := D) (ci := 5) (v := .ref mm) (C := R_M) (T := F_M) (N := 21) hx hb ht bi_M hown hK hP 0 rfl rfl 9 (by decide) (ht _ bw_416) (fun _ h9 => h9) rfl d_M_ends_17 ?_
  refine lv_iload_n hx hb d_M_ends_20 rfl (lv_at hl 1 rfl) ?_
  refine va_iald hx hb hK hP 2 0 rfl rfl (vp_in_nI (by omega) (by omega)) d_M_ends_21 ?_
  refine ft_top (y := nI (mn 1)) (congrArg (fun j => nI (mn j)) (by decide)) ?_
  refine lv_istore_n (lv' := [(2, .int (nI (mn 1))), (0, .ref o), (1, .int (nI 1))]) hx hb d_M_ends_22 rfl hl (by decide) rfl (fun ls hl => ?_)
  refine lv_aload_n hx hb d_M_ends_23 rfl (lv_at hl 1 rfl) ?_
  refine lv_iload_n hx hb d_M_ends_24 rfl (lv_at hl 2 rfl) ?_
  refine ft_ci (wc := [(o, .inr (5, [.int th, .ref mt, .int (nI nT), .int lim, .ref mo, .int (nI nO), .ref mf, .int (nI nF), .ref mc, .ref mm, .ref mk, .ref mb, .int lf, .int fl, .ref mu, .int f1, .int f2, .int ck, .ref ml, .ref mg, .ref mx])), (mc, .inl (cI, 3, .inl (fun j => nI (cm j)))), (mm, .inl (cI, 3, .inl (fun j => nI (mn j)))), (mb, .inl (cB, 3, .inl bd)), (mu, .inl (cB, 3, .inl tu))]) (wr := [(mk, .inl (cI, 1200, .inl kp)), (ml, .inl (cI, 3, .inl la)), (mg, .inl (cI, 1200, .inl gd)), (mx, .inl (cI, 12, .inl ct))]) (va_runV (As := [.int (nI 1)]) (rest := []) ⟨hx, hb, hml, hown, ht⟩ (c_M_isSo_1 l D cI cB o mt mo mf mc mm mk mb mu ml mg mx th lim lf fl f1 f2 ck nT nO nF cm mn bd tu hC hM s.heap.size) (ft_cwV 1 ht bw_540 bw_542 bw_25 bw_39 bw_543 (by decide) ⟨Nat.le_of_ble_eq_true rfl, Nat.le_of_ble_eq_true rfl⟩) ⟨ft_blind, va_recv hK hP (ci := 5) (q0 := 0) rfl rfl, (ft_pre hP hD hK hNW [0, 1, 2, 4, 5] [0, 1] rfl rfl (by decide) rfl _)⟩ rfl rfl hl.1 rfl (lv_room (Nat.le_of_ble_eq_true rfl)) d_M_ends_25 ⟨Nat.le_of_ble_eq_true rfl, Nat.le_of_ble_eq_true rfl⟩) hP hD hS hA [0, 1, 2, 4, 5] [3, 6, 7, 8] rfl rfl (by decide) (by decide) (fun r_1 u_2 H locs hu_2 hP hD hS => ?_)
  subst hu_2
  have hP : va_P D vwCl [(mk, .inl (cI, 1200, .inl kp)), (ml, .inl (cI, 3, .inl la)), (mg, .inl (cI, 1200, .inl gd)), (mx, .inl (cI, 12, .inl ct)), (o, .inr (5, [.int th, .ref mt, .int (nI nT), .int lim, .ref mo, .int (nI nO), .ref mf, .int (nI nF), .ref mc, .ref mm, .ref mk, .ref mb, .int lf, .int fl, .ref mu, .int f1, .int f2, .int ck, .ref ml, .ref mg, .ref mx])), (mc, .inl (cI, 3, .inl (fun j => nI (cm j)))), (mm, .inl (cI, 3, .inl (fun j => nI (mn j)))), (mb, .inl (cB, 3, .inl bd)), (mu, .inl (cB, 3, .inl tu))] H := hP
  have hD : va_D A [(mk, .inl (cI, 1200, .inl kp)), (ml, .inl (cI, 3, .inl la)), (mg, .inl (cI, 1200, .inl gd)), (mx, .inl (cI, 12, .inl ct)), (o, .inr (5, [.int th, .ref mt, .int (nI nT), .int lim, .ref mo, .int (nI nO), .ref mf, .int (nI nF), .ref mc, .ref mm, .ref mk, .ref mb, .int lf, .int fl, .ref mu, .int f1, .int f2, .int ck, .ref ml, .ref mg, .ref mx])), (mc, .inl (cI, 3, .inl (fun j => nI (cm j)))), (mm, .inl (cI, 3, .inl (fun j => nI (mn j)))), (mb, .inl (cB, 3, .inl bd)), (mu, .inl (cB, 3, .inl tu))] := hD
  refine lv_if_ne (tgt := 35) hx hb d_M_ends_28 (by decide) (fun c28 => ?_) (fun c28 => ?_)
  · skip
    refine lv_iload_n hx hb d_M_ends_35 rfl (lv_at hl 0 rfl) ?_
    refine lv_aload_n hx hb d_M_ends_36 rfl (lv_at hl 1 rfl) ?_
    refine va_get (D := D) (ci := 5) (v := .int lim) (C := R_M) (T := F_M) (N := 21) hx hb ht bi_M hown hK hP 4 rfl rfl 3 (by decide) (ht _ bw_410) (fun _ h9 => h9) rfl d_M_ends_37 ?_
    refine lv_icmp_le (tgt := 47) hx hb d_M_ends_40 (by decide) (fun c40 => ?_) (fun c40 => ?_)
    · skip
      have ev : vrd (so1 bd tu) (nI (mn 1)) lim = 1 := by unfold vrd; rw [if_neg c28, if_pos c40]
      have h400 : mn 1 ≤ 400 := le400 (by omega) c40 hL
      refine lv_iconst (v := nI 1) hx hb d_M_ends_47 (by decide +kernel) ?_
      refine lv_istore_n (lv' := [(3, .int (nI 1)), (2, .int (nI (mn 1))), (0, .ref o), (1, .int (nI 1))]) hx hb d_M_ends_48 rfl hl (by decide) rfl (fun ls hl => ?_)
      refine lv_aload_n hx hb d_M_ends_49 rfl (lv_at hl 2 rfl) ?_
      refine va_get (D := D) (ci := 5) (v := .ref mx) (C := R_M) (T := F_M) (N := 21) hx hb ht bi_M hown hK hP 4 rfl rfl 20 (by decide) (ht _ bw_427) (fun _ h9 => h9) rfl d_M_ends_50 ?_
      refine lv_iconst (v := nI 4) hx hb d_M_ends_53 (by decide +kernel) ?_
      refine lv_iload_n hx hb d_M_ends_54 rfl (lv_at hl 3 rfl) ?_
      refine lv_imul hx hb d_M_ends_55 ?_
      refine ft_top (show nI 4 * nI 1 = nI 4 from by decide) ?_
      refine lv_iload_n hx hb d_M_ends_56 rfl (lv_at hl 0 rfl) ?_
      refine lv_iadd hx hb d_M_ends_57 ?_
      refine ft_top (show nI 4 + nI 1 = nI 5 from by decide) ?_
      refine lv_dup2_11 hx hb d_M_ends_58 rfl rfl ?_
      refine va_iald hx hb hK hP 3 0 rfl rfl (vp_in_nI (by omega) (by omega)) d_M_ends_59 ?_
      refine ft_top (congrArg ct (show (nI 5).toNatClampNeg = 5 from by decide)) ?_
      refine lv_iconst (v := 1) hx hb d_M_ends_60 (by decide +kernel) ?_
      refine lv_iadd hx hb d_M_ends_61 ?_
      refine va_iast hx hb hK hP hD hS 3 0 rfl rfl (vp_in_nI (by omega) (by omega)) d_M_ends_62 (fun H locs hP hD hS => ?_)
      rw [show (nI 5).toNatClampNeg = 5 from by decide] at hP hD
      obtain ⟨ct_3, ect_3⟩ : ∃ g : Nat → Int32, g = upd ct 5 ((ct 5) + 1) := ⟨_, rfl⟩
      rw [← ect_3] at hP hD
      have hP : va_P D vwCl [(mk, .inl (cI, 1200, .inl kp)), (ml, .inl (cI, 3, .inl la)), (mg, .inl (cI, 1200, .inl gd)), (mx, .inl (cI, 12, .inl ct_3)), (o, .inr (5, [.int th, .ref mt, .int (nI nT), .int lim, .ref mo, .int (nI nO), .ref mf, .int (nI nF), .ref mc, .ref mm, .ref mk, .ref mb, .int lf, .int fl, .ref mu, .int f1, .int f2, .int ck, .ref ml, .ref mg, .ref mx])), (mc, .inl (cI, 3, .inl (fun j => nI (cm j)))), (mm, .inl (cI, 3, .inl (fun j => nI (mn j)))), (mb, .inl (cB, 3, .inl bd)), (mu, .inl (cB, 3, .inl tu))] H := hP
      have hD : va_D A [(mk, .inl (cI, 1200, .inl kp)), (ml, .inl (cI, 3, .inl la)), (mg, .inl (cI, 1200, .inl gd)), (mx, .inl (cI, 12, .inl ct_3)), (o, .inr (5, [.int th, .ref mt, .int (nI nT), .int lim, .ref mo, .int (nI nO), .ref mf, .int (nI nF), .ref mc, .ref mm, .ref mk, .ref mb, .int lf, .int fl, .ref mu, .int f1, .int f2, .int ck, .ref ml, .ref mg, .ref mx])), (mc, .inl (cI, 3, .inl (fun j => nI (cm j)))), (mm, .inl (cI, 3, .inl (fun j => nI (mn j)))), (mb, .inl (cB, 3, .inl bd)), (mu, .inl (cB, 3, .inl tu))] := hD
      refine lv_iload_n hx hb d_M_ends_63 rfl (lv_at hl 0 rfl) ?_
      refine lv_iconst (v := nI 1) hx hb d_M_ends_64 (by decide +kernel) ?_
      refine lv_icmp_ne (tgt := 116) hx hb d_M_ends_65 (by decide) (fun c65 => absurd (by decide) c65) (fun _ => ?_)
      refine lv_aload_n hx hb d_M_ends_68 rfl (lv_at hl 2 rfl) ?_
      refine va_get (D := D) (ci := 5) (v := .ref ml) (C := R_M) (T := F_M) (N := 21) hx hb ht bi_M hown hK hP 4 rfl rfl 18 (by decide) (ht _ bw_425) (fun _ h9 => h9) rfl d_M_ends_69 ?_
      refine lv_iload_n hx hb d_M_ends_72 rfl (lv_at hl 3 rfl) ?_
      refine lv_iload_n hx hb d_M_ends_73 rfl (lv_at hl 1 rfl) ?_
      refine va_iast hx hb hK hP hD hS 1 0 rfl rfl (vp_in_nI (by omega) (by omega)) d_M_ends_74 (fun H locs hP hD hS => ?_)
      rw [show (nI 1).toNatClampNeg = 1 from by decide] at hP hD
      obtain ⟨la_4, ela_4⟩ : ∃ g : Nat → Int32, g = upd la 1 (nI (mn 1)) := ⟨_, rfl⟩
      rw [← ela_4] at hP hD
      have hP : va_P D vwCl [(mk, .inl (cI, 1200, .inl kp)), (ml, .inl (cI, 3, .inl la_4)), (mg, .inl (cI, 1200, .inl gd)), (mx, .inl (cI, 12, .inl ct_3)), (o, .inr (5, [.int th, .ref mt, .int (nI nT), .int lim, .ref mo, .int (nI nO), .ref mf, .int (nI nF), .ref mc, .ref mm, .ref mk, .ref mb, .int lf, .int fl, .ref mu, .int f1, .int f2, .int ck, .ref ml, .ref mg, .ref mx])), (mc, .inl (cI, 3, .inl (fun j => nI (cm j)))), (mm, .inl (cI, 3, .inl (fun j => nI (mn j)))), (mb, .inl (cB, 3, .inl bd)), (mu, .inl (cB, 3, .inl tu))] H := hP
      have hD : va_D A [(mk, .inl (cI, 1200, .inl kp)), (ml, .inl (cI, 3, .inl la_4)), (mg, .inl (cI, 1200, .inl gd)), (mx, .inl (cI, 12, .inl ct_3)), (o, .inr (5, [.int th, .ref mt, .int (nI nT), .int lim, .ref mo, .int (nI nO), .ref mf, .int (nI nF), .ref mc, .ref mm, .ref mk, .ref mb, .int lf, .int fl, .ref mu, .int f1, .int f2, .int ck, .ref ml, .ref mg, .ref mx])), (mc, .inl (cI, 3, .inl (fun j => nI (cm j)))), (mm, .inl (cI, 3, .inl (fun j => nI (mn j)))), (mb, .inl (cB, 3, .inl bd)), (mu, .inl (cB, 3, .inl tu))] := hD
      refine lv_iconst (v := nI 0) hx hb d_M_ends_75 (by decide +kernel) ?_
      refine lv_istore (lv' := [(4, .int (nI 0)), (3, .int (nI 1)), (2, .int (nI (mn 1))), (0, .ref o), (1, .int (nI 1))]) hx hb d_M_ends_76 hl (by decide) rfl (fun ls hl => ?_)
      have cp : ∀ (q : Nat) (k : Nat) (gE : Nat → Int32) (H : Heap) (locs : List Loc) (ls : Array Slot), k + q = mn 1 → va_P D vwCl [(mk, .inl (cI, 1200, .inl kp)), (ml, .inl (cI, 3, .inl la_4)), (mg, .inl (cI, 1200, .inl gE)), (mx, .inl (cI, 12, .inl ct_3)), (o, .inr (5, [.int th, .ref mt, .int (nI nT), .int lim, .ref mo, .int (nI nO), .ref mf, .int (nI nF), .ref mc, .ref mm, .ref mk, .ref mb, .int lf, .int fl, .ref mu, .int f1, .int f2, .int ck, .ref ml, .ref mg, .ref mx])), (mc, .inl (cI, 3, .inl (fun j => nI (cm j)))), (mm, .inl (cI, 3, .inl (fun j => nI (mn j)))), (mb, .inl (cB, 3, .inl bd)), (mu, .inl (cB, 3, .inl tu))] H → va_D A [(mk, .inl (cI, 1200, .inl kp)), (ml, .inl (cI, 3, .inl la_4)), (mg, .inl (cI, 1200, .inl gE)), (mx, .inl (cI, 12, .inl ct_3)), (o, .inr (5, [.int th, .ref mt, .int (nI nT), .int lim, .ref mo, .int (nI nO), .ref mf, .int (nI nF), .ref mc, .ref mm, .ref mk, .ref mb, .int lf, .int fl, .ref mu, .int f1, .int f2, .int ck, .ref ml, .ref mg, .ref mx])), (mc, .inl (cI, 3, .inl (fun j => nI (cm j)))), (mm, .inl (cI, 3, .inl (fun j => nI (mn j)))), (mb, .inl (cB, 3, .inl bd)), (mu, .inl (cB, 3, .inl tu))] → va_S A s.heap H locs → lv_has ls 5 [(4, .int (nI k)), (3, .int (nI 1)), (2, .int (nI (mn 1))), (0, .ref o), (1, .int (nI 1))] → gE = cpG gd kp 400 k → W p l e ({ frames := 1, cells := 0, slots := 0, locals := 40 } : Room) s m ([.ref o, .int (nI 1)] : List Value).toArray below meth c H locs 0 0 (MQ below (va_Qi (fun (v : Int32) (u : MR) => (v, u) = endM1 lim (cm, mn, kp, bd, tu, la, gd, ct, lf, fl, f1, f2, ck)) (ft_B D vwCl [(cI, .int), (cB, .boolean)] A (fun u : MR => [(o, .inr (5, [.int th, .ref mt, .int (nI nT), .int lim, .ref mo, .int (nI nO), .ref mf, .int (nI nF), .ref mc, .ref mm, .ref mk, .ref mb, .int u.2.2.2.2.2.2.2.2.1, .int u.2.2.2.2.2.2.2.2.2.1, .ref mu, .int u.2.2.2.2.2.2.2.2.2.2.1, .int u.2.2.2.2.2.2.2.2.2.2.2.1, .int u.2.2.2.2.2.2.2.2.2.2.2.2, .ref ml, .ref mg, .ref mx])), (mc, .inl (cI, 3, .inl (fun j => nI (u.1 j)))), (mm, .inl (cI, 3, .inl (fun j => nI (u.2.1 j)))), (mk, .inl (cI, 1200, .inl u.2.2.1)), (mb, .inl (cB, 3, .inl u.2.2.2.1)), (mu, .inl (cB, 3, .inl u.2.2.2.2.1)), (ml, .inl (cI, 3, .inl u.2.2.2.2.2.1)), (mg, .inl (cI, 1200, .inl u.2.2.2.2.2.2.1)), (mx, .inl (cI, 12, .inl u.2.2.2.2.2.2.2.1))])) A) ([.ref o, .int (nI 1)] : List Value).toArray s 0 0 A) (F0 m 78 ls []) := by
        intro q
        induction q with
        | zero =>
          intro k gE H locs ls hk hP hD hS hl eG
          refine lv_iload hx hb d_M_ends_78 (lv_at hl 0 rfl) ?_
          refine lv_iload_n hx hb d_M_ends_80 rfl (lv_at hl 2 rfl) ?_
          refine lv_icmp_ge (tgt := 116) hx hb d_M_ends_81 (by decide) (fun c81 => ?_) (fun c81 => absurd (nI_le (by omega) (by omega)) c81)
          have c81 : mn 1 ≤ k := (nI_leI (by omega) (by omega)).mp c81
          refine lv_aload_n hx hb d_M_ends_116 rfl (lv_at hl 3 rfl) ?_
          refine lv_iload_n hx hb d_M_ends_117 rfl (lv_at hl 4 rfl) ?_
          refine ft_cv (wc := [(o, .inr (5, [.int th, .ref mt, .int (nI nT), .int lim, .ref mo, .int (nI nO), .ref mf, .int (nI nF), .ref mc, .ref mm, .ref mk, .ref mb, .int lf, .int fl, .ref mu, .int f1, .int f2, .int ck, .ref ml, .ref mg, .ref mx])), (mc, .inl (cI, 3, .inl (fun j => nI (cm j)))), (mm, .inl (cI, 3, .inl (fun j => nI (mn j)))), (mb, .inl (cB, 3, .inl bd)), (mu, .inl (cB, 3, .inl tu))]) (wr := [(mk, .inl (cI, 1200, .inl kp)), (ml, .inl (cI, 3, .inl la_4)), (mg, .inl (cI, 1200, .inl gE)), (mx, .inl (cI, 12, .inl ct_3))]) (va_runV (As := [.int (nI 1)]) (rest := []) ⟨hx, hb, hml, hown, ht⟩ (c_M_begin_1 l D cI cB o mt mo mf mc mm mk mb mu ml mg mx th lim lf fl f1 f2 ck nT nO nF cm mn bd tu H.size) (ft_cwV 1 ht bw_544 bw_546 bw_26 bw_39 bw_547 (by decide) ⟨Nat.le_of_ble_eq_true rfl, Nat.le_of_ble_eq_true rfl⟩) ⟨ft_blind, va_recv hK hP (ci := 5) (q0 := 4) rfl rfl, (ft_pre hP hD hK hNW [4, 5, 6, 7, 8] [0, 1] rfl rfl (by decide) rfl _)⟩ rfl rfl hl.1 rfl (lv_room (Nat.le_of_ble_eq_true rfl)) d_M_ends_118 ⟨Nat.le_of_ble_eq_true rfl, Nat.le_of_ble_eq_true rfl⟩) hP hD hS hA [4, 5, 6, 7, 8] [0, 1, 2, 3] rfl rfl (by decide) (by decide) (fun u_6 H locs hu_6 hP hD hS => ?_)
          obtain ⟨cmB, mnB, bdB, tuB⟩ := u_6
          obtain ⟨e_cmB, e_mnB, e_bdB, e_tuB⟩ : cmB = va_up cm 1 0 ∧ mnB = va_up mn 1 0 ∧ bdB = upd bd 1 0 ∧ tuB = upd tu 1 0 := by simpa using hu_6
          have b_c : cmB 1 = 0 := by rw [e_cmB]; exact if_pos rfl
          have b_m : mnB 1 = 0 := by rw [e_mnB]; exact if_pos rfl
          have b_t : tuB 1 = 0 := by rw [e_tuB]; exact pk_us
          have hP : va_P D vwCl [(mk, .inl (cI, 1200, .inl kp)), (ml, .inl (cI, 3, .inl la_4)), (mg, .inl (cI, 1200, .inl gE)), (mx, .inl (cI, 12, .inl ct_3)), (o, .inr (5, [.int th, .ref mt, .int (nI nT), .int lim, .ref mo, .int (nI nO), .ref mf, .int (nI nF), .ref mc, .ref mm, .ref mk, .ref mb, .int lf, .int fl, .ref mu, .int f1, .int f2, .int ck, .ref ml, .ref mg, .ref mx])), (mc, .inl (cI, 3, .inl (fun j => nI (cmB j)))), (mm, .inl (cI, 3, .inl (fun j => nI (mnB j)))), (mb, .inl (cB, 3, .inl bdB)), (mu, .inl (cB, 3, .inl tuB))] H := hP
          have hD : va_D A [(mk, .inl (cI, 1200, .inl kp)), (ml, .inl (cI, 3, .inl la_4)), (mg, .inl (cI, 1200, .inl gE)), (mx, .inl (cI, 12, .inl ct_3)), (o, .inr (5, [.int th, .ref mt, .int (nI nT), .int lim, .ref mo, .int (nI nO), .ref mf, .int (nI nF), .ref mc, .ref mm, .ref mk, .ref mb, .int lf, .int fl, .ref mu, .int f1, .int f2, .int ck, .ref ml, .ref mg, .ref mx])), (mc, .inl (cI, 3, .inl (fun j => nI (cmB j)))), (mm, .inl (cI, 3, .inl (fun j => nI (mnB j)))), (mb, .inl (cB, 3, .inl bdB)), (mu, .inl (cB, 3, .inl tuB))] := hD
          refine lv_iload_n hx hb d_M_ends_121 rfl (lv_at hl 1 rfl) ?_
          exact ft_reti (cmB, mnB, kp, bdB, tuB, la_4, gE, ct_3, lf, fl, f1, f2, ck) hx hb hr hlocks (hP.sub [4, 5, 6, 0, 7, 8, 1, 2, 3] rfl) hK (hD.sub [4, 5, 6, 0, 7, 8, 1, 2, 3] (by decide) rfl) hS (by show _ = (vrd (so1 bd tu) (nI (mn 1)) lim, begS1 (endA 1 (mn 1) (vrd (so1 bd tu) (nI (mn 1)) lim) (cm, mn, kp, bd, tu, la, gd, ct, lf, fl, f1, f2, ck))); rw [ev, endA_1, e_cmB, e_mnB, e_bdB, e_tuB, ect_3, ela_4, eG, show k = mn 1 from by omega]; rfl) d_M_ends_122
        | succ q ih_cp =>
          intro k gE H locs ls hk hP hD hS hl eG
          refine lv_iload hx hb d_M_ends_78 (lv_at hl 0 rfl) ?_
          refine lv_iload_n hx hb d_M_ends_80 rfl (lv_at hl 2 rfl) ?_
          refine lv_icmp_ge (tgt := 116) hx hb d_M_ends_81 (by decide) (fun c81 => absurd c81 (nI_ge (by omega) (by omega))) (fun c81 => ?_)
          have c81 : ¬ mn 1 ≤ k := fun h => c81 ((nI_leI (by omega) (by omega)).mpr h)
          refine lv_aload_n hx hb d_M_ends_84 rfl (lv_at hl 3 rfl) ?_
          refine va_get (D := D) (ci := 5) (v := .ref mg) (C := R_M) (T := F_M) (N := 21) hx hb ht bi_M hown hK hP 4 rfl rfl 19 (by decide) (ht _ bw_426) (fun _ h9 => h9) rfl d_M_ends_85 ?_
          refine lv_sipush (v := nI 400) hx hb d_M_ends_88 (by decide +kernel) ?_
          refine lv_iload_n hx hb d_M_ends_91 rfl (lv_at hl 4 rfl) ?_
          refine lv_imul hx hb d_M_ends_92 ?_
          refine ft_top (show nI 400 * nI 1 = nI 400 from by decide) ?_
          refine lv_iload hx hb d_M_ends_93 (lv_at hl 0 rfl) ?_
          refine lv_iadd hx hb d_M_ends_95 ?_
          refine ft_top (nI_add 400 k) ?_
          refine lv_aload_n hx hb d_M_ends_96 rfl (lv_at hl 3 rfl) ?_
          refine va_get (D := D) (ci := 5) (v := .ref mk) (C := R_M) (T := F_M) (N := 21) hx hb ht bi_M hown hK hP 4 rfl rfl 10 (by decide) (ht _ bw_417) (fun _ h9 => h9) rfl d_M_ends_97 ?_
          refine lv_sipush (v := nI 400) hx hb d_M_ends_100 (by decide +kernel) ?_
          refine lv_iload_n hx hb d_M_ends_103 rfl (lv_at hl 4 rfl) ?_
          refine lv_imul hx hb d_M_ends_104 ?_
          refine ft_top (show nI 400 * nI 1 = nI 400 from by decide) ?_
          refine lv_iload hx hb d_M_ends_105 (lv_at hl 0 rfl) ?_
          refine lv_iadd hx hb d_M_ends_107 ?_
          refine ft_top (nI_add 400 k) ?_
          refine va_iald hx hb hK hP 0 0 rfl rfl (vp_in_nI (by omega) (by omega)) d_M_ends_108 ?_
          refine ft_top (congrArg kp (nI_clamp (n := 400 + k) (by omega))) ?_
          refine va_iast hx hb hK hP hD hS 2 0 rfl rfl (vp_in_nI (by omega) (by omega)) d_M_ends_109 (fun H locs hP hD hS => ?_)
          rw [nI_clamp (n := 400 + k) (by omega)] at hP hD
          obtain ⟨gE_7, egE_7⟩ : ∃ g : Nat → Int32, g = upd gE (400 + k) (kp (400 + k)) := ⟨_, rfl⟩
          rw [← egE_7] at hP hD
          have hP : va_P D vwCl [(mk, .inl (cI, 1200, .inl kp)), (ml, .inl (cI, 3, .inl la_4)), (mg, .inl (cI, 1200, .inl gE_7)), (mx, .inl (cI, 12, .inl ct_3)), (o, .inr (5, [.int th, .ref mt, .int (nI nT), .int lim, .ref mo, .int (nI nO), .ref mf, .int (nI nF), .ref mc, .ref mm, .ref mk, .ref mb, .int lf, .int fl, .ref mu, .int f1, .int f2, .int ck, .ref ml, .ref mg, .ref mx])), (mc, .inl (cI, 3, .inl (fun j => nI (cm j)))), (mm, .inl (cI, 3, .inl (fun j => nI (mn j)))), (mb, .inl (cB, 3, .inl bd)), (mu, .inl (cB, 3, .inl tu))] H := hP
          have hD : va_D A [(mk, .inl (cI, 1200, .inl kp)), (ml, .inl (cI, 3, .inl la_4)), (mg, .inl (cI, 1200, .inl gE_7)), (mx, .inl (cI, 12, .inl ct_3)), (o, .inr (5, [.int th, .ref mt, .int (nI nT), .int lim, .ref mo, .int (nI nO), .ref mf, .int (nI nF), .ref mc, .ref mm, .ref mk, .ref mb, .int lf, .int fl, .ref mu, .int f1, .int f2, .int ck, .ref ml, .ref mg, .ref mx])), (mc, .inl (cI, 3, .inl (fun j => nI (cm j)))), (mm, .inl (cI, 3, .inl (fun j => nI (mn j)))), (mb, .inl (cB, 3, .inl bd)), (mu, .inl (cB, 3, .inl tu))] := hD
          refine lv_iinc (v := nI (k + 1)) (lv' := [(4, .int (nI (k + 1))), (3, .int (nI 1)), (2, .int (nI (mn 1))), (0, .ref o), (1, .int (nI 1))]) hx hb d_M_ends_110 hl (k := 0) rfl (nI_1 k) (by decide) rfl (fun ls hl => ?_)
          refine lv_goto (tgt := 78) hx hb d_M_ends_113 (by decide) ?_
          exact ih_cp (k + 1) gE_7 H locs ls (by omega) (hP.sub [0, 1, 2, 3, 4, 5, 6, 7, 8] rfl) (hD.sub [0, 1, 2, 3, 4, 5, 6, 7, 8] (by decide) rfl) hS (lv_sub hl [0, 1, 2, 3, 4] rfl) (by rw [egE_7, eG]; exact cpG_s gd kp 400 k)
      exact cp (mn 1) 0 gd H locs ls (by omega) (hP.sub [0, 1, 2, 3, 4, 5, 6, 7, 8] rfl) (hD.sub [0, 1, 2, 3, 4, 5, 6, 7, 8] (by decide) rfl) hS (lv_sub hl [0, 1, 2, 3, 4] rfl) (cpG_0 gd kp 400).symm
    · skip
      have ev : vrd (so1 bd tu) (nI (mn 1)) lim = 3 := by unfold vrd; rw [if_neg c28, if_neg c40]
      refine lv_iconst (v := nI 3) hx hb d_M_ends_43 (by decide +kernel) ?_
      refine lv_goto (tgt := 48) hx hb d_M_ends_44 (by decide) ?_
      refine lv_istore_n (lv' := [(3, .int (nI 3)), (2, .int (nI (mn 1))), (0, .ref o), (1, .int (nI 1))]) hx hb d_M_ends_48 rfl hl (by decide) rfl (fun ls hl => ?_)
      refine lv_aload_n hx hb d_M_ends_49 rfl (lv_at hl 2 rfl) ?_
      refine va_get (D := D) (ci := 5) (v := .ref mx) (C := R_M) (T := F_M) (N := 21) hx hb ht bi_M hown hK hP 4 rfl rfl 20 (by decide) (ht _ bw_427) (fun _ h9 => h9) rfl d_M_ends_50 ?_
      refine lv_iconst (v := nI 4) hx hb d_M_ends_53 (by decide +kernel) ?_
      refine lv_iload_n hx hb d_M_ends_54 rfl (lv_at hl 3 rfl) ?_
      refine lv_imul hx hb d_M_ends_55 ?_
      refine ft_top (show nI 4 * nI 1 = nI 4 from by decide) ?_
      refine lv_iload_n hx hb d_M_ends_56 rfl (lv_at hl 0 rfl) ?_
      refine lv_iadd hx hb d_M_ends_57 ?_
      refine ft_top (show nI 4 + nI 3 = nI 7 from by decide) ?_
      refine lv_dup2_11 hx hb d_M_ends_58 rfl rfl ?_
      refine va_iald hx hb hK hP 3 0 rfl rfl (vp_in_nI (by omega) (by omega)) d_M_ends_59 ?_
      refine ft_top (congrArg ct (show (nI 7).toNatClampNeg = 7 from by decide)) ?_
      refine lv_iconst (v := 1) hx hb d_M_ends_60 (by decide +kernel) ?_
      refine lv_iadd hx hb d_M_ends_61 ?_
      refine va_iast hx hb hK hP hD hS 3 0 rfl rfl (vp_in_nI (by omega) (by omega)) d_M_ends_62 (fun H locs hP hD hS => ?_)
      rw [show (nI 7).toNatClampNeg = 7 from by decide] at hP hD
      obtain ⟨ct_8, ect_8⟩ : ∃ g : Nat → Int32, g = upd ct 7 ((ct 7) + 1) := ⟨_, rfl⟩
      rw [← ect_8] at hP hD
      have hP : va_P D vwCl [(mk, .inl (cI, 1200, .inl kp)), (ml, .inl (cI, 3, .inl la)), (mg, .inl (cI, 1200, .inl gd)), (mx, .inl (cI, 12, .inl ct_8)), (o, .inr (5, [.int th, .ref mt, .int (nI nT), .int lim, .ref mo, .int (nI nO), .ref mf, .int (nI nF), .ref mc, .ref mm, .ref mk, .ref mb, .int lf, .int fl, .ref mu, .int f1, .int f2, .int ck, .ref ml, .ref mg, .ref mx])), (mc, .inl (cI, 3, .inl (fun j => nI (cm j)))), (mm, .inl (cI, 3, .inl (fun j => nI (mn j)))), (mb, .inl (cB, 3, .inl bd)), (mu, .inl (cB, 3, .inl tu))] H := hP
      have hD : va_D A [(mk, .inl (cI, 1200, .inl kp)), (ml, .inl (cI, 3, .inl la)), (mg, .inl (cI, 1200, .inl gd)), (mx, .inl (cI, 12, .inl ct_8)), (o, .inr (5, [.int th, .ref mt, .int (nI nT), .int lim, .ref mo, .int (nI nO), .ref mf, .int (nI nF), .ref mc, .ref mm, .ref mk, .ref mb, .int lf, .int fl, .ref mu, .int f1, .int f2, .int ck, .ref ml, .ref mg, .ref mx])), (mc, .inl (cI, 3, .inl (fun j => nI (cm j)))), (mm, .inl (cI, 3, .inl (fun j => nI (mn j)))), (mb, .inl (cB, 3, .inl bd)), (mu, .inl (cB, 3, .inl tu))] := hD
      refine lv_iload_n hx hb d_M_ends_63 rfl (lv_at hl 0 rfl) ?_
      refine lv_iconst (v := nI 1) hx hb d_M_ends_64 (by decide +kernel) ?_
      refine lv_icmp_ne (tgt := 116) hx hb d_M_ends_65 (by decide) (fun _ => ?_) (fun c65 => absurd c65 (by decide))
      refine lv_aload_n hx hb d_M_ends_116 rfl (lv_at hl 2 rfl) ?_
      refine lv_iload_n hx hb d_M_ends_117 rfl (lv_at hl 3 rfl) ?_
      refine ft_cv (wc := [(o, .inr (5, [.int th, .ref mt, .int (nI nT), .int lim, .ref mo, .int (nI nO), .ref mf, .int (nI nF), .ref mc, .ref mm, .ref mk, .ref mb, .int lf, .int fl, .ref mu, .int f1, .int f2, .int ck, .ref ml, .ref mg, .ref mx])), (mc, .inl (cI, 3, .inl (fun j => nI (cm j)))), (mm, .inl (cI, 3, .inl (fun j => nI (mn j)))), (mb, .inl (cB, 3, .inl bd)), (mu, .inl (cB, 3, .inl tu))]) (wr := [(mk, .inl (cI, 1200, .inl kp)), (ml, .inl (cI, 3, .inl la)), (mg, .inl (cI, 1200, .inl gd)), (mx, .inl (cI, 12, .inl ct_8))]) (va_runV (As := [.int (nI 1)]) (rest := []) ⟨hx, hb, hml, hown, ht⟩ (c_M_begin_1 l D cI cB o mt mo mf mc mm mk mb mu ml mg mx th lim lf fl f1 f2 ck nT nO nF cm mn bd tu H.size) (ft_cwV 1 ht bw_544 bw_546 bw_26 bw_39 bw_547 (by decide) ⟨Nat.le_of_ble_eq_true rfl, Nat.le_of_ble_eq_true rfl⟩) ⟨ft_blind, va_recv hK hP (ci := 5) (q0 := 4) rfl rfl, (ft_pre hP hD hK hNW [4, 5, 6, 7, 8] [0, 1] rfl rfl (by decide) rfl _)⟩ rfl rfl hl.1 rfl (lv_room (Nat.le_of_ble_eq_true rfl)) d_M_ends_118 ⟨Nat.le_of_ble_eq_true rfl, Nat.le_of_ble_eq_true rfl⟩) hP hD hS hA [4, 5, 6, 7, 8] [0, 1, 2, 3] rfl rfl (by decide) (by decide) (fun u_10 H locs hu_10 hP hD hS => ?_)
      obtain ⟨cmB, mnB, bdB, tuB⟩ := u_10
      obtain ⟨e_cmB, e_mnB, e_bdB, e_tuB⟩ : cmB = va_up cm 1 0 ∧ mnB = va_up mn 1 0 ∧ bdB = upd bd 1 0 ∧ tuB = upd tu 1 0 := by simpa using hu_10
      have b_c : cmB 1 = 0 := by rw [e_cmB]; exact if_pos rfl
      have b_m : mnB 1 = 0 := by rw [e_mnB]; exact if_pos rfl
      have b_t : tuB 1 = 0 := by rw [e_tuB]; exact pk_us
      have hP : va_P D vwCl [(mk, .inl (cI, 1200, .inl kp)), (ml, .inl (cI, 3, .inl la)), (mg, .inl (cI, 1200, .inl gd)), (mx, .inl (cI, 12, .inl ct_8)), (o, .inr (5, [.int th, .ref mt, .int (nI nT), .int lim, .ref mo, .int (nI nO), .ref mf, .int (nI nF), .ref mc, .ref mm, .ref mk, .ref mb, .int lf, .int fl, .ref mu, .int f1, .int f2, .int ck, .ref ml, .ref mg, .ref mx])), (mc, .inl (cI, 3, .inl (fun j => nI (cmB j)))), (mm, .inl (cI, 3, .inl (fun j => nI (mnB j)))), (mb, .inl (cB, 3, .inl bdB)), (mu, .inl (cB, 3, .inl tuB))] H := hP
      have hD : va_D A [(mk, .inl (cI, 1200, .inl kp)), (ml, .inl (cI, 3, .inl la)), (mg, .inl (cI, 1200, .inl gd)), (mx, .inl (cI, 12, .inl ct_8)), (o, .inr (5, [.int th, .ref mt, .int (nI nT), .int lim, .ref mo, .int (nI nO), .ref mf, .int (nI nF), .ref mc, .ref mm, .ref mk, .ref mb, .int lf, .int fl, .ref mu, .int f1, .int f2, .int ck, .ref ml, .ref mg, .ref mx])), (mc, .inl (cI, 3, .inl (fun j => nI (cmB j)))), (mm, .inl (cI, 3, .inl (fun j => nI (mnB j)))), (mb, .inl (cB, 3, .inl bdB)), (mu, .inl (cB, 3, .inl tuB))] := hD
      refine lv_iload_n hx hb d_M_ends_121 rfl (lv_at hl 0 rfl) ?_
      exact ft_reti (cmB, mnB, kp, bdB, tuB, la, gd, ct_8, lf, fl, f1, f2, ck) hx hb hr hlocks (hP.sub [4, 5, 6, 0, 7, 8, 1, 2, 3] rfl) hK (hD.sub [4, 5, 6, 0, 7, 8, 1, 2, 3] (by decide) rfl) hS (by show _ = (vrd (so1 bd tu) (nI (mn 1)) lim, begS1 (endA 1 (mn 1) (vrd (so1 bd tu) (nI (mn 1)) lim) (cm, mn, kp, bd, tu, la, gd, ct, lf, fl, f1, f2, ck))); rw [ev, endA_3, e_cmB, e_mnB, e_bdB, e_tuB, ect_8]; rfl) d_M_ends_122
  · skip
    have ev : vrd (so1 bd tu) (nI (mn 1)) lim = 2 := by unfold vrd; rw [if_pos c28]
    refine lv_iconst (v := nI 2) hx hb d_M_ends_31 (by decide +kernel) ?_
    refine lv_goto (tgt := 48) hx hb d_M_ends_32 (by decide) ?_
    refine lv_istore_n (lv' := [(3, .int (nI 2)), (2, .int (nI (mn 1))), (0, .ref o), (1, .int (nI 1))]) hx hb d_M_ends_48 rfl hl (by decide) rfl (fun ls hl => ?_)
    refine lv_aload_n hx hb d_M_ends_49 rfl (lv_at hl 2 rfl) ?_
    refine va_get (D := D) (ci := 5) (v := .ref mx) (C := R_M) (T := F_M) (N := 21) hx hb ht bi_M hown hK hP 4 rfl rfl 20 (by decide) (ht _ bw_427) (fun _ h9 => h9) rfl d_M_ends_50 ?_
    refine lv_iconst (v := nI 4) hx hb d_M_ends_53 (by decide +kernel) ?_
    refine lv_iload_n hx hb d_M_ends_54 rfl (lv_at hl 3 rfl) ?_
    refine lv_imul hx hb d_M_ends_55 ?_
    refine ft_top (show nI 4 * nI 1 = nI 4 from by decide) ?_
    refine lv_iload_n hx hb d_M_ends_56 rfl (lv_at hl 0 rfl) ?_
    refine lv_iadd hx hb d_M_ends_57 ?_
    refine ft_top (show nI 4 + nI 2 = nI 6 from by decide) ?_
    refine lv_dup2_11 hx hb d_M_ends_58 rfl rfl ?_
    refine va_iald hx hb hK hP 3 0 rfl rfl (vp_in_nI (by omega) (by omega)) d_M_ends_59 ?_
    refine ft_top (congrArg ct (show (nI 6).toNatClampNeg = 6 from by decide)) ?_
    refine lv_iconst (v := 1) hx hb d_M_ends_60 (by decide +kernel) ?_
    refine lv_iadd hx hb d_M_ends_61 ?_
    refine va_iast hx hb hK hP hD hS 3 0 rfl rfl (vp_in_nI (by omega) (by omega)) d_M_ends_62 (fun H locs hP hD hS => ?_)
    rw [show (nI 6).toNatClampNeg = 6 from by decide] at hP hD
    obtain ⟨ct_11, ect_11⟩ : ∃ g : Nat → Int32, g = upd ct 6 ((ct 6) + 1) := ⟨_, rfl⟩
    rw [← ect_11] at hP hD
    have hP : va_P D vwCl [(mk, .inl (cI, 1200, .inl kp)), (ml, .inl (cI, 3, .inl la)), (mg, .inl (cI, 1200, .inl gd)), (mx, .inl (cI, 12, .inl ct_11)), (o, .inr (5, [.int th, .ref mt, .int (nI nT), .int lim, .ref mo, .int (nI nO), .ref mf, .int (nI nF), .ref mc, .ref mm, .ref mk, .ref mb, .int lf, .int fl, .ref mu, .int f1, .int f2, .int ck, .ref ml, .ref mg, .ref mx])), (mc, .inl (cI, 3, .inl (fun j => nI (cm j)))), (mm, .inl (cI, 3, .inl (fun j => nI (mn j)))), (mb, .inl (cB, 3, .inl bd)), (mu, .inl (cB, 3, .inl tu))] H := hP
    have hD : va_D A [(mk, .inl (cI, 1200, .inl kp)), (ml, .inl (cI, 3, .inl la)), (mg, .inl (cI, 1200, .inl gd)), (mx, .inl (cI, 12, .inl ct_11)), (o, .inr (5, [.int th, .ref mt, .int (nI nT), .int lim, .ref mo, .int (nI nO), .ref mf, .int (nI nF), .ref mc, .ref mm, .ref mk, .ref mb, .int lf, .int fl, .ref mu, .int f1, .int f2, .int ck, .ref ml, .ref mg, .ref mx])), (mc, .inl (cI, 3, .inl (fun j => nI (cm j)))), (mm, .inl (cI, 3, .inl (fun j => nI (mn j)))), (mb, .inl (cB, 3, .inl bd)), (mu, .inl (cB, 3, .inl tu))] := hD
    refine lv_iload_n hx hb d_M_ends_63 rfl (lv_at hl 0 rfl) ?_
    refine lv_iconst (v := nI 1) hx hb d_M_ends_64 (by decide +kernel) ?_
    refine lv_icmp_ne (tgt := 116) hx hb d_M_ends_65 (by decide) (fun _ => ?_) (fun c65 => absurd c65 (by decide))
    refine lv_aload_n hx hb d_M_ends_116 rfl (lv_at hl 2 rfl) ?_
    refine lv_iload_n hx hb d_M_ends_117 rfl (lv_at hl 3 rfl) ?_
    refine ft_cv (wc := [(o, .inr (5, [.int th, .ref mt, .int (nI nT), .int lim, .ref mo, .int (nI nO), .ref mf, .int (nI nF), .ref mc, .ref mm, .ref mk, .ref mb, .int lf, .int fl, .ref mu, .int f1, .int f2, .int ck, .ref ml, .ref mg, .ref mx])), (mc, .inl (cI, 3, .inl (fun j => nI (cm j)))), (mm, .inl (cI, 3, .inl (fun j => nI (mn j)))), (mb, .inl (cB, 3, .inl bd)), (mu, .inl (cB, 3, .inl tu))]) (wr := [(mk, .inl (cI, 1200, .inl kp)), (ml, .inl (cI, 3, .inl la)), (mg, .inl (cI, 1200, .inl gd)), (mx, .inl (cI, 12, .inl ct_11))]) (va_runV (As := [.int (nI 1)]) (rest := []) ⟨hx, hb, hml, hown, ht⟩ (c_M_begin_1 l D cI cB o mt mo mf mc mm mk mb mu ml mg mx th lim lf fl f1 f2 ck nT nO nF cm mn bd tu H.size) (ft_cwV 1 ht bw_544 bw_546 bw_26 bw_39 bw_547 (by decide) ⟨Nat.le_of_ble_eq_true rfl, Nat.le_of_ble_eq_true rfl⟩) ⟨ft_blind, va_recv hK hP (ci := 5) (q0 := 4) rfl rfl, (ft_pre hP hD hK hNW [4, 5, 6, 7, 8] [0, 1] rfl rfl (by decide) rfl _)⟩ rfl rfl hl.1 rfl (lv_room (Nat.le_of_ble_eq_true rfl)) d_M_ends_118 ⟨Nat.le_of_ble_eq_true rfl, Nat.le_of_ble_eq_true rfl⟩) hP hD hS hA [4, 5, 6, 7, 8] [0, 1, 2, 3] rfl rfl (by decide) (by decide) (fun u_13 H locs hu_13 hP hD hS => ?_)
    obtain ⟨cmB, mnB, bdB, tuB⟩ := u_13
    obtain ⟨e_cmB, e_mnB, e_bdB, e_tuB⟩ : cmB = va_up cm 1 0 ∧ mnB = va_up mn 1 0 ∧ bdB = upd bd 1 0 ∧ tuB = upd tu 1 0 := by simpa using hu_13
    have b_c : cmB 1 = 0 := by rw [e_cmB]; exact if_pos rfl
    have b_m : mnB 1 = 0 := by rw [e_mnB]; exact if_pos rfl
    have b_t : tuB 1 = 0 := by rw [e_tuB]; exact pk_us
    have hP : va_P D vwCl [(mk, .inl (cI, 1200, .inl kp)), (ml, .inl (cI, 3, .inl la)), (mg, .inl (cI, 1200, .inl gd)), (mx, .inl (cI, 12, .inl ct_11)), (o, .inr (5, [.int th, .ref mt, .int (nI nT), .int lim, .ref mo, .int (nI nO), .ref mf, .int (nI nF), .ref mc, .ref mm, .ref mk, .ref mb, .int lf, .int fl, .ref mu, .int f1, .int f2, .int ck, .ref ml, .ref mg, .ref mx])), (mc, .inl (cI, 3, .inl (fun j => nI (cmB j)))), (mm, .inl (cI, 3, .inl (fun j => nI (mnB j)))), (mb, .inl (cB, 3, .inl bdB)), (mu, .inl (cB, 3, .inl tuB))] H := hP
    have hD : va_D A [(mk, .inl (cI, 1200, .inl kp)), (ml, .inl (cI, 3, .inl la)), (mg, .inl (cI, 1200, .inl gd)), (mx, .inl (cI, 12, .inl ct_11)), (o, .inr (5, [.int th, .ref mt, .int (nI nT), .int lim, .ref mo, .int (nI nO), .ref mf, .int (nI nF), .ref mc, .ref mm, .ref mk, .ref mb, .int lf, .int fl, .ref mu, .int f1, .int f2, .int ck, .ref ml, .ref mg, .ref mx])), (mc, .inl (cI, 3, .inl (fun j => nI (cmB j)))), (mm, .inl (cI, 3, .inl (fun j => nI (mnB j)))), (mb, .inl (cB, 3, .inl bdB)), (mu, .inl (cB, 3, .inl tuB))] := hD
    refine lv_iload_n hx hb d_M_ends_121 rfl (lv_at hl 0 rfl) ?_
    exact ft_reti (cmB, mnB, kp, bdB, tuB, la, gd, ct_11, lf, fl, f1, f2, ck) hx hb hr hlocks (hP.sub [4, 5, 6, 0, 7, 8, 1, 2, 3] rfl) hK (hD.sub [4, 5, 6, 0, 7, 8, 1, 2, 3] (by decide) rfl) hS (by show _ = (vrd (so1 bd tu) (nI (mn 1)) lim, begS1 (endA 1 (mn 1) (vrd (so1 bd tu) (nI (mn 1)) lim) (cm, mn, kp, bd, tu, la, gd, ct, lf, fl, f1, f2, ck))); rw [ev, endA_2, e_cmB, e_mnB, e_bdB, e_tuB, ect_11]; rfl) d_M_ends_122

set_option maxHeartbeats 4000000 in
set_option maxRecDepth 100000 in
theorem c_M_ends_2 (l : Launch) (D : va_G) (cI : ClassId) (cB : ClassId) (o mt mo mf mc mm mk mb mu ml mg mx : Nat) (th lim lf fl f1 f2 ck : Int32) (nT nO nF : Nat) (cm mn : Nat → Nat) (kp bd tu la gd ct : Nat → Int32) (hC : cm 2 < 1073741824) (hM : mn 2 < 1073741824) (hL : lim ≤ 400) (sz : Nat) : ft_Mi l y_M_ends (.code y_M_ends b_M_ends 5 (some .int) :: ft_big) ({ frames := 1, cells := 0, slots := 0, locals := 40 }) D [(cI, .int), (cB, .boolean)] sz [.ref o, .int (nI 2)] [(o, .inr (5, [.int th, .ref mt, .int (nI nT), .int lim, .ref mo, .int (nI nO), .ref mf, .int (nI nF), .ref mc, .ref mm, .ref mk, .ref mb, .int lf, .int fl, .ref mu, .int f1, .int f2, .int ck, .ref ml, .ref mg, .ref mx])), (mc, .inl (cI, 3, .inl (fun j => nI (cm j)))), (mm, .inl (cI, 3, .inl (fun j => nI (mn j)))), (mk, .inl (cI, 1200, .inl kp)), (mb, .inl (cB, 3, .inl bd)), (mu, .inl (cB, 3, .inl tu)), (ml, .inl (cI, 3, .inl la)), (mg, .inl (cI, 1200, .inl gd)), (mx, .inl (cI, 12, .inl ct))] (fun (v : Int32) (u : MR) => (v, u) = endM2 lim (cm, mn, kp, bd, tu, la, gd, ct, lf, fl, f1, f2, ck)) (fun u : MR => [(o, .inr (5, [.int th, .ref mt, .int (nI nT), .int lim, .ref mo, .int (nI nO), .ref mf, .int (nI nF), .ref mc, .ref mm, .ref mk, .ref mb, .int u.2.2.2.2.2.2.2.2.1, .int u.2.2.2.2.2.2.2.2.2.1, .ref mu, .int u.2.2.2.2.2.2.2.2.2.2.1, .int u.2.2.2.2.2.2.2.2.2.2.2.1, .int u.2.2.2.2.2.2.2.2.2.2.2.2, .ref ml, .ref mg, .ref mx])), (mc, .inl (cI, 3, .inl (fun j => nI (u.1 j)))), (mm, .inl (cI, 3, .inl (fun j => nI (u.2.1 j)))), (mk, .inl (cI, 1200, .inl u.2.2.1)), (mb, .inl (cB, 3, .inl u.2.2.2.1)), (mu, .inl (cB, 3, .inl u.2.2.2.2.1)), (ml, .inl (cI, 3, .inl u.2.2.2.2.2.1)), (mg, .inl (cI, 1200, .inl u.2.2.2.2.2.2.1)), (mx, .inl (cI, 12, .inl u.2.2.2.2.2.2.2.1))]) 0 0 := by
  refine ft_ei (cc := b_M_ends) (maxL := 5) (ret := (some .int)) (by decide) rfl (Nat.le_of_ble_eq_true rfl) ?_
  intro p e s m below meth c A ls hx hb hr hml hts hown hlocks hmn hP hK hD hA hS hNW hl
  have ht : ∀ w ∈ ft_big, w.before _ s = true := fun w h => hts w (List.mem_cons_of_mem _ h)
  have hP : va_P D vwCl [(o, .inr (5, [.int th, .ref mt, .int (nI nT), .int lim, .ref mo, .int (nI nO), .ref mf, .int (nI nF), .ref mc, .ref mm, .ref mk, .ref mb, .int lf, .int fl, .ref mu, .int f1, .int f2, .int ck, .ref ml, .ref mg, .ref mx])), (mc, .inl (cI, 3, .inl (fun j => nI (cm j)))), (mm, .inl (cI, 3, .inl (fun j => nI (mn j)))), (mk, .inl (cI, 1200, .inl kp)), (mb, .inl (cB, 3, .inl bd)), (mu, .inl (cB, 3, .inl tu)), (ml, .inl (cI, 3, .inl la)), (mg, .inl (cI, 1200, .inl gd)), (mx, .inl (cI, 12, .inl ct))] s.heap := hP
  have hD : va_D A [(o, .inr (5, [.int th, .ref mt, .int (nI nT), .int lim, .ref mo, .int (nI nO), .ref mf, .int (nI nF), .ref mc, .ref mm, .ref mk, .ref mb, .int lf, .int fl, .ref mu, .int f1, .int f2, .int ck, .ref ml, .ref mg, .ref mx])), (mc, .inl (cI, 3, .inl (fun j => nI (cm j)))), (mm, .inl (cI, 3, .inl (fun j => nI (mn j)))), (mk, .inl (cI, 1200, .inl kp)), (mb, .inl (cB, 3, .inl bd)), (mu, .inl (cB, 3, .inl tu)), (ml, .inl (cI, 3, .inl la)), (mg, .inl (cI, 1200, .inl gd)), (mx, .inl (cI, 12, .inl ct))] := hD
  have hl : lv_has ls 5 [(0, .ref o), (1, .int (nI 2))] := hl
  refine lv_iload_n hx hb d_M_ends_0 rfl (lv_at hl 1 rfl) ?_
  refine lv_iconst (v := nI 2) hx hb d_M_ends_1 (by decide +kernel) ?_
  refine lv_icmp_ne (tgt := 16) hx hb d_M_ends_2 (by decide) (fun c2 => absurd (by decide) c2) (fun _ => ?_)
  refine lv_aload_n hx hb d_M_ends_5 rfl (lv_at hl 0 rfl) ?_
  refine va_get (D := D) (ci := 5) (v := .ref mm) (C := R_M) (T := F_M) (N := 21) hx hb ht bi_M hown hK hP 0 rfl rfl 9 (by decide) (ht _ bw_416) (fun _ h9 => h9) rfl d_M_ends_6 ?_
  refine lv_iconst (v := nI 2) hx hb d_M_ends_9 (by decide +kernel) ?_
  refine va_iald hx hb hK hP 2 0 rfl rfl (vp_in_nI (by omega) (by omega)) d_M_ends_10 ?_
  refine ft_top (y := nI (mn 2)) (congrArg (fun j => nI (mn j)) (by decide)) ?_
  refine lv_iconst (v := 2) hx hb d_M_ends_11 (by decide +kernel) ?_
  refine lv_isub hx hb d_M_ends_12 ?_
  refine lv_goto (tgt := 22) hx hb d_M_ends_13 (by decide) ?_
  refine lv_istore_n (lv' := [(2, .int ((nI (mn 2)) - 2)), (0, .ref o), (1, .int (nI 2))]) hx hb d_M_ends_22 rfl hl (by decide) rfl (fun ls hl => ?_)
  refine lv_aload_n hx hb d_M_ends_23 rfl (lv_at hl 1 rfl) ?_
  refine lv_iload_n hx hb d_M_ends_24 rfl (lv_at hl 2 rfl) ?_
  refine ft_ci (wc := [(o, .inr (5, [.int th, .ref mt, .int (nI nT), .int lim, .ref mo, .int (nI nO), .ref mf, .int (nI nF), .ref mc, .ref mm, .ref mk, .ref mb, .int lf, .int fl, .ref mu, .int f1, .int f2, .int ck, .ref ml, .ref mg, .ref mx])), (mc, .inl (cI, 3, .inl (fun j => nI (cm j)))), (mm, .inl (cI, 3, .inl (fun j => nI (mn j)))), (mb, .inl (cB, 3, .inl bd)), (mu, .inl (cB, 3, .inl tu))]) (wr := [(mk, .inl (cI, 1200, .inl kp)), (ml, .inl (cI, 3, .inl la)), (mg, .inl (cI, 1200, .inl gd)), (mx, .inl (cI, 12, .inl ct))]) (va_runV (As := [.int (nI 2)]) (rest := []) ⟨hx, hb, hml, hown, ht⟩ (c_M_isSo_2 l D cI cB o mt mo mf mc mm mk mb mu ml mg mx th lim lf fl f1 f2 ck nT nO nF cm mn bd tu hC hM s.heap.size) (ft_cwV 1 ht bw_540 bw_542 bw_25 bw_39 bw_543 (by decide) ⟨Nat.le_of_ble_eq_true rfl, Nat.le_of_ble_eq_true rfl⟩) ⟨ft_blind, va_recv hK hP (ci := 5) (q0 := 0) rfl rfl, (ft_pre hP hD hK hNW [0, 1, 2, 4, 5] [0, 1] rfl rfl (by decide) rfl _)⟩ rfl rfl hl.1 rfl (lv_room (Nat.le_of_ble_eq_true rfl)) d_M_ends_25 ⟨Nat.le_of_ble_eq_true rfl, Nat.le_of_ble_eq_true rfl⟩) hP hD hS hA [0, 1, 2, 4, 5] [3, 6, 7, 8] rfl rfl (by decide) (by decide) (fun r_1 u_2 H locs hu_2 hP hD hS => ?_)
  subst hu_2
  have hP : va_P D vwCl [(mk, .inl (cI, 1200, .inl kp)), (ml, .inl (cI, 3, .inl la)), (mg, .inl (cI, 1200, .inl gd)), (mx, .inl (cI, 12, .inl ct)), (o, .inr (5, [.int th, .ref mt, .int (nI nT), .int lim, .ref mo, .int (nI nO), .ref mf, .int (nI nF), .ref mc, .ref mm, .ref mk, .ref mb, .int lf, .int fl, .ref mu, .int f1, .int f2, .int ck, .ref ml, .ref mg, .ref mx])), (mc, .inl (cI, 3, .inl (fun j => nI (cm j)))), (mm, .inl (cI, 3, .inl (fun j => nI (mn j)))), (mb, .inl (cB, 3, .inl bd)), (mu, .inl (cB, 3, .inl tu))] H := hP
  have hD : va_D A [(mk, .inl (cI, 1200, .inl kp)), (ml, .inl (cI, 3, .inl la)), (mg, .inl (cI, 1200, .inl gd)), (mx, .inl (cI, 12, .inl ct)), (o, .inr (5, [.int th, .ref mt, .int (nI nT), .int lim, .ref mo, .int (nI nO), .ref mf, .int (nI nF), .ref mc, .ref mm, .ref mk, .ref mb, .int lf, .int fl, .ref mu, .int f1, .int f2, .int ck, .ref ml, .ref mg, .ref mx])), (mc, .inl (cI, 3, .inl (fun j => nI (cm j)))), (mm, .inl (cI, 3, .inl (fun j => nI (mn j)))), (mb, .inl (cB, 3, .inl bd)), (mu, .inl (cB, 3, .inl tu))] := hD
  refine lv_if_ne (tgt := 35) hx hb d_M_ends_28 (by decide) (fun c28 => ?_) (fun c28 => ?_)
  · skip
    refine lv_iload_n hx hb d_M_ends_35 rfl (lv_at hl 0 rfl) ?_
    refine lv_aload_n hx hb d_M_ends_36 rfl (lv_at hl 1 rfl) ?_
    refine va_get (D := D) (ci := 5) (v := .int lim) (C := R_M) (T := F_M) (N := 21) hx hb ht bi_M hown hK hP 4 rfl rfl 3 (by decide) (ht _ bw_410) (fun _ h9 => h9) rfl d_M_ends_37 ?_
    refine lv_icmp_le (tgt := 47) hx hb d_M_ends_40 (by decide) (fun c40 => ?_) (fun c40 => ?_)
    · skip
      have ev : vrd (so2 mn bd tu f1 f2 ck) (nI (mn 2) - 2) lim = 1 := by unfold vrd; rw [if_neg c28, if_pos c40]
      have h2 : 2 < mn 2 := so2_gt c28
      have e_m2 : nI (mn 2) - 2 = nI (mn 2 - 2) := pk_sub (a := mn 2) (b := 2) (by omega)
      have h400 : mn 2 - 2 ≤ 400 := le400 (by omega) (by rw [← e_m2]; exact c40) hL
      have hl : lv_has ls 5 [(2, .int (nI (mn 2 - 2))), (0, .ref o), (1, .int (nI 2))] := by rw [← e_m2]; exact hl
      refine lv_iconst (v := nI 1) hx hb d_M_ends_47 (by decide +kernel) ?_
      refine lv_istore_n (lv' := [(3, .int (nI 1)), (2, .int (nI (mn 2 - 2))), (0, .ref o), (1, .int (nI 2))]) hx hb d_M_ends_48 rfl hl (by decide) rfl (fun ls hl => ?_)
      refine lv_aload_n hx hb d_M_ends_49 rfl (lv_at hl 2 rfl) ?_
      refine va_get (D := D) (ci := 5) (v := .ref mx) (C := R_M) (T := F_M) (N := 21) hx hb ht bi_M hown hK hP 4 rfl rfl 20 (by decide) (ht _ bw_427) (fun _ h9 => h9) rfl d_M_ends_50 ?_
      refine lv_iconst (v := nI 4) hx hb d_M_ends_53 (by decide +kernel) ?_
      refine lv_iload_n hx hb d_M_ends_54 rfl (lv_at hl 3 rfl) ?_
      refine lv_imul hx hb d_M_ends_55 ?_
      refine ft_top (show nI 4 * nI 2 = nI 8 from by decide) ?_
      refine lv_iload_n hx hb d_M_ends_56 rfl (lv_at hl 0 rfl) ?_
      refine lv_iadd hx hb d_M_ends_57 ?_
      refine ft_top (show nI 8 + nI 1 = nI 9 from by decide) ?_
      refine lv_dup2_11 hx hb d_M_ends_58 rfl rfl ?_
      refine va_iald hx hb hK hP 3 0 rfl rfl (vp_in_nI (by omega) (by omega)) d_M_ends_59 ?_
      refine ft_top (congrArg ct (show (nI 9).toNatClampNeg = 9 from by decide)) ?_
      refine lv_iconst (v := 1) hx hb d_M_ends_60 (by decide +kernel) ?_
      refine lv_iadd hx hb d_M_ends_61 ?_
      refine va_iast hx hb hK hP hD hS 3 0 rfl rfl (vp_in_nI (by omega) (by omega)) d_M_ends_62 (fun H locs hP hD hS => ?_)
      rw [show (nI 9).toNatClampNeg = 9 from by decide] at hP hD
      obtain ⟨ct_3, ect_3⟩ : ∃ g : Nat → Int32, g = upd ct 9 ((ct 9) + 1) := ⟨_, rfl⟩
      rw [← ect_3] at hP hD
      have hP : va_P D vwCl [(mk, .inl (cI, 1200, .inl kp)), (ml, .inl (cI, 3, .inl la)), (mg, .inl (cI, 1200, .inl gd)), (mx, .inl (cI, 12, .inl ct_3)), (o, .inr (5, [.int th, .ref mt, .int (nI nT), .int lim, .ref mo, .int (nI nO), .ref mf, .int (nI nF), .ref mc, .ref mm, .ref mk, .ref mb, .int lf, .int fl, .ref mu, .int f1, .int f2, .int ck, .ref ml, .ref mg, .ref mx])), (mc, .inl (cI, 3, .inl (fun j => nI (cm j)))), (mm, .inl (cI, 3, .inl (fun j => nI (mn j)))), (mb, .inl (cB, 3, .inl bd)), (mu, .inl (cB, 3, .inl tu))] H := hP
      have hD : va_D A [(mk, .inl (cI, 1200, .inl kp)), (ml, .inl (cI, 3, .inl la)), (mg, .inl (cI, 1200, .inl gd)), (mx, .inl (cI, 12, .inl ct_3)), (o, .inr (5, [.int th, .ref mt, .int (nI nT), .int lim, .ref mo, .int (nI nO), .ref mf, .int (nI nF), .ref mc, .ref mm, .ref mk, .ref mb, .int lf, .int fl, .ref mu, .int f1, .int f2, .int ck, .ref ml, .ref mg, .ref mx])), (mc, .inl (cI, 3, .inl (fun j => nI (cm j)))), (mm, .inl (cI, 3, .inl (fun j => nI (mn j)))), (mb, .inl (cB, 3, .inl bd)), (mu, .inl (cB, 3, .inl tu))] := hD
      refine lv_iload_n hx hb d_M_ends_63 rfl (lv_at hl 0 rfl) ?_
      refine lv_iconst (v := nI 1) hx hb d_M_ends_64 (by decide +kernel) ?_
      refine lv_icmp_ne (tgt := 116) hx hb d_M_ends_65 (by decide) (fun c65 => absurd (by decide) c65) (fun _ => ?_)
      refine lv_aload_n hx hb d_M_ends_68 rfl (lv_at hl 2 rfl) ?_
      refine va_get (D := D) (ci := 5) (v := .ref ml) (C := R_M) (T := F_M) (N := 21) hx hb ht bi_M hown hK hP 4 rfl rfl 18 (by decide) (ht _ bw_425) (fun _ h9 => h9) rfl d_M_ends_69 ?_
      refine lv_iload_n hx hb d_M_ends_72 rfl (lv_at hl 3 rfl) ?_
      refine lv_iload_n hx hb d_M_ends_73 rfl (lv_at hl 1 rfl) ?_
      refine va_iast hx hb hK hP hD hS 1 0 rfl rfl (vp_in_nI (by omega) (by omega)) d_M_ends_74 (fun H locs hP hD hS => ?_)
      rw [show (nI 2).toNatClampNeg = 2 from by decide] at hP hD
      obtain ⟨la_4, ela_4⟩ : ∃ g : Nat → Int32, g = upd la 2 (nI (mn 2 - 2)) := ⟨_, rfl⟩
      rw [← ela_4] at hP hD
      have hP : va_P D vwCl [(mk, .inl (cI, 1200, .inl kp)), (ml, .inl (cI, 3, .inl la_4)), (mg, .inl (cI, 1200, .inl gd)), (mx, .inl (cI, 12, .inl ct_3)), (o, .inr (5, [.int th, .ref mt, .int (nI nT), .int lim, .ref mo, .int (nI nO), .ref mf, .int (nI nF), .ref mc, .ref mm, .ref mk, .ref mb, .int lf, .int fl, .ref mu, .int f1, .int f2, .int ck, .ref ml, .ref mg, .ref mx])), (mc, .inl (cI, 3, .inl (fun j => nI (cm j)))), (mm, .inl (cI, 3, .inl (fun j => nI (mn j)))), (mb, .inl (cB, 3, .inl bd)), (mu, .inl (cB, 3, .inl tu))] H := hP
      have hD : va_D A [(mk, .inl (cI, 1200, .inl kp)), (ml, .inl (cI, 3, .inl la_4)), (mg, .inl (cI, 1200, .inl gd)), (mx, .inl (cI, 12, .inl ct_3)), (o, .inr (5, [.int th, .ref mt, .int (nI nT), .int lim, .ref mo, .int (nI nO), .ref mf, .int (nI nF), .ref mc, .ref mm, .ref mk, .ref mb, .int lf, .int fl, .ref mu, .int f1, .int f2, .int ck, .ref ml, .ref mg, .ref mx])), (mc, .inl (cI, 3, .inl (fun j => nI (cm j)))), (mm, .inl (cI, 3, .inl (fun j => nI (mn j)))), (mb, .inl (cB, 3, .inl bd)), (mu, .inl (cB, 3, .inl tu))] := hD
      refine lv_iconst (v := nI 0) hx hb d_M_ends_75 (by decide +kernel) ?_
      refine lv_istore (lv' := [(4, .int (nI 0)), (3, .int (nI 1)), (2, .int (nI (mn 2 - 2))), (0, .ref o), (1, .int (nI 2))]) hx hb d_M_ends_76 hl (by decide) rfl (fun ls hl => ?_)
      have cp : ∀ (q : Nat) (k : Nat) (gE : Nat → Int32) (H : Heap) (locs : List Loc) (ls : Array Slot), k + q = mn 2 - 2 → va_P D vwCl [(mk, .inl (cI, 1200, .inl kp)), (ml, .inl (cI, 3, .inl la_4)), (mg, .inl (cI, 1200, .inl gE)), (mx, .inl (cI, 12, .inl ct_3)), (o, .inr (5, [.int th, .ref mt, .int (nI nT), .int lim, .ref mo, .int (nI nO), .ref mf, .int (nI nF), .ref mc, .ref mm, .ref mk, .ref mb, .int lf, .int fl, .ref mu, .int f1, .int f2, .int ck, .ref ml, .ref mg, .ref mx])), (mc, .inl (cI, 3, .inl (fun j => nI (cm j)))), (mm, .inl (cI, 3, .inl (fun j => nI (mn j)))), (mb, .inl (cB, 3, .inl bd)), (mu, .inl (cB, 3, .inl tu))] H → va_D A [(mk, .inl (cI, 1200, .inl kp)), (ml, .inl (cI, 3, .inl la_4)), (mg, .inl (cI, 1200, .inl gE)), (mx, .inl (cI, 12, .inl ct_3)), (o, .inr (5, [.int th, .ref mt, .int (nI nT), .int lim, .ref mo, .int (nI nO), .ref mf, .int (nI nF), .ref mc, .ref mm, .ref mk, .ref mb, .int lf, .int fl, .ref mu, .int f1, .int f2, .int ck, .ref ml, .ref mg, .ref mx])), (mc, .inl (cI, 3, .inl (fun j => nI (cm j)))), (mm, .inl (cI, 3, .inl (fun j => nI (mn j)))), (mb, .inl (cB, 3, .inl bd)), (mu, .inl (cB, 3, .inl tu))] → va_S A s.heap H locs → lv_has ls 5 [(4, .int (nI k)), (3, .int (nI 1)), (2, .int (nI (mn 2 - 2))), (0, .ref o), (1, .int (nI 2))] → gE = cpG gd kp 800 k → W p l e ({ frames := 1, cells := 0, slots := 0, locals := 40 } : Room) s m ([.ref o, .int (nI 2)] : List Value).toArray below meth c H locs 0 0 (MQ below (va_Qi (fun (v : Int32) (u : MR) => (v, u) = endM2 lim (cm, mn, kp, bd, tu, la, gd, ct, lf, fl, f1, f2, ck)) (ft_B D vwCl [(cI, .int), (cB, .boolean)] A (fun u : MR => [(o, .inr (5, [.int th, .ref mt, .int (nI nT), .int lim, .ref mo, .int (nI nO), .ref mf, .int (nI nF), .ref mc, .ref mm, .ref mk, .ref mb, .int u.2.2.2.2.2.2.2.2.1, .int u.2.2.2.2.2.2.2.2.2.1, .ref mu, .int u.2.2.2.2.2.2.2.2.2.2.1, .int u.2.2.2.2.2.2.2.2.2.2.2.1, .int u.2.2.2.2.2.2.2.2.2.2.2.2, .ref ml, .ref mg, .ref mx])), (mc, .inl (cI, 3, .inl (fun j => nI (u.1 j)))), (mm, .inl (cI, 3, .inl (fun j => nI (u.2.1 j)))), (mk, .inl (cI, 1200, .inl u.2.2.1)), (mb, .inl (cB, 3, .inl u.2.2.2.1)), (mu, .inl (cB, 3, .inl u.2.2.2.2.1)), (ml, .inl (cI, 3, .inl u.2.2.2.2.2.1)), (mg, .inl (cI, 1200, .inl u.2.2.2.2.2.2.1)), (mx, .inl (cI, 12, .inl u.2.2.2.2.2.2.2.1))])) A) ([.ref o, .int (nI 2)] : List Value).toArray s 0 0 A) (F0 m 78 ls []) := by
        intro q
        induction q with
        | zero =>
          intro k gE H locs ls hk hP hD hS hl eG
          refine lv_iload hx hb d_M_ends_78 (lv_at hl 0 rfl) ?_
          refine lv_iload_n hx hb d_M_ends_80 rfl (lv_at hl 2 rfl) ?_
          refine lv_icmp_ge (tgt := 116) hx hb d_M_ends_81 (by decide) (fun c81 => ?_) (fun c81 => absurd (nI_le (by omega) (by omega)) c81)
          have c81 : mn 2 - 2 ≤ k := (nI_leI (by omega) (by omega)).mp c81
          refine lv_aload_n hx hb d_M_ends_116 rfl (lv_at hl 3 rfl) ?_
          refine lv_iload_n hx hb d_M_ends_117 rfl (lv_at hl 4 rfl) ?_
          refine ft_cv (wc := [(o, .inr (5, [.int th, .ref mt, .int (nI nT), .int lim, .ref mo, .int (nI nO), .ref mf, .int (nI nF), .ref mc, .ref mm, .ref mk, .ref mb, .int lf, .int fl, .ref mu, .int f1, .int f2, .int ck, .ref ml, .ref mg, .ref mx])), (mc, .inl (cI, 3, .inl (fun j => nI (cm j)))), (mm, .inl (cI, 3, .inl (fun j => nI (mn j)))), (mb, .inl (cB, 3, .inl bd)), (mu, .inl (cB, 3, .inl tu))]) (wr := [(mk, .inl (cI, 1200, .inl kp)), (ml, .inl (cI, 3, .inl la_4)), (mg, .inl (cI, 1200, .inl gE)), (mx, .inl (cI, 12, .inl ct_3))]) (va_runV (As := [.int (nI 2)]) (rest := []) ⟨hx, hb, hml, hown, ht⟩ (c_M_begin_2 l D cI cB o mt mo mf mc mm mk mb mu ml mg mx th lim lf fl f1 f2 ck nT nO nF cm mn bd tu H.size) (ft_cwV 1 ht bw_544 bw_546 bw_26 bw_39 bw_547 (by decide) ⟨Nat.le_of_ble_eq_true rfl, Nat.le_of_ble_eq_true rfl⟩) ⟨ft_blind, va_recv hK hP (ci := 5) (q0 := 4) rfl rfl, (ft_pre hP hD hK hNW [4, 5, 6, 7, 8] [0, 1] rfl rfl (by decide) rfl _)⟩ rfl rfl hl.1 rfl (lv_room (Nat.le_of_ble_eq_true rfl)) d_M_ends_118 ⟨Nat.le_of_ble_eq_true rfl, Nat.le_of_ble_eq_true rfl⟩) hP hD hS hA [4, 5, 6, 7, 8] [0, 1, 2, 3] rfl rfl (by decide) (by decide) (fun u_6 H locs hu_6 hP hD hS => ?_)
          obtain ⟨cmB, mnB, bdB, tuB⟩ := u_6
          obtain ⟨e_cmB, e_mnB, e_bdB, e_tuB⟩ : cmB = va_up cm 2 0 ∧ mnB = va_up mn 2 0 ∧ bdB = upd bd 2 0 ∧ tuB = upd tu 2 0 := by simpa using hu_6
          have b_c : cmB 2 = 0 := by rw [e_cmB]; exact if_pos rfl
          have b_m : mnB 2 = 0 := by rw [e_mnB]; exact if_pos rfl
          have b_t : tuB 2 = 0 := by rw [e_tuB]; exact pk_us
          have hP : va_P D vwCl [(mk, .inl (cI, 1200, .inl kp)), (ml, .inl (cI, 3, .inl la_4)), (mg, .inl (cI, 1200, .inl gE)), (mx, .inl (cI, 12, .inl ct_3)), (o, .inr (5, [.int th, .ref mt, .int (nI nT), .int lim, .ref mo, .int (nI nO), .ref mf, .int (nI nF), .ref mc, .ref mm, .ref mk, .ref mb, .int lf, .int fl, .ref mu, .int f1, .int f2, .int 65535, .ref ml, .ref mg, .ref mx])), (mc, .inl (cI, 3, .inl (fun j => nI (cmB j)))), (mm, .inl (cI, 3, .inl (fun j => nI (mnB j)))), (mb, .inl (cB, 3, .inl bdB)), (mu, .inl (cB, 3, .inl tuB))] H := hP
          have hD : va_D A [(mk, .inl (cI, 1200, .inl kp)), (ml, .inl (cI, 3, .inl la_4)), (mg, .inl (cI, 1200, .inl gE)), (mx, .inl (cI, 12, .inl ct_3)), (o, .inr (5, [.int th, .ref mt, .int (nI nT), .int lim, .ref mo, .int (nI nO), .ref mf, .int (nI nF), .ref mc, .ref mm, .ref mk, .ref mb, .int lf, .int fl, .ref mu, .int f1, .int f2, .int 65535, .ref ml, .ref mg, .ref mx])), (mc, .inl (cI, 3, .inl (fun j => nI (cmB j)))), (mm, .inl (cI, 3, .inl (fun j => nI (mnB j)))), (mb, .inl (cB, 3, .inl bdB)), (mu, .inl (cB, 3, .inl tuB))] := hD
          refine lv_iload_n hx hb d_M_ends_121 rfl (lv_at hl 1 rfl) ?_
          exact ft_reti (cmB, mnB, kp, bdB, tuB, la_4, gE, ct_3, lf, fl, f1, f2, 65535) hx hb hr hlocks (hP.sub [4, 5, 6, 0, 7, 8, 1, 2, 3] rfl) hK (hD.sub [4, 5, 6, 0, 7, 8, 1, 2, 3] (by decide) rfl) hS (by show _ = (vrd (so2 mn bd tu f1 f2 ck) (nI (mn 2) - 2) lim, begS2 (endA 2 (mn 2 - 2) (vrd (so2 mn bd tu f1 f2 ck) (nI (mn 2) - 2) lim) (cm, mn, kp, bd, tu, la, gd, ct, lf, fl, f1, f2, ck))); rw [ev, endA_1, e_cmB, e_mnB, e_bdB, e_tuB, ect_3, ela_4, eG, show k = (mn 2 - 2) from by omega]; rfl) d_M_ends_122
        | succ q ih_cp =>
          intro k gE H locs ls hk hP hD hS hl eG
          refine lv_iload hx hb d_M_ends_78 (lv_at hl 0 rfl) ?_
          refine lv_iload_n hx hb d_M_ends_80 rfl (lv_at hl 2 rfl) ?_
          refine lv_icmp_ge (tgt := 116) hx hb d_M_ends_81 (by decide) (fun c81 => absurd c81 (nI_ge (by omega) (by omega))) (fun c81 => ?_)
          have c81 : ¬ mn 2 - 2 ≤ k := fun h => c81 ((nI_leI (by omega) (by omega)).mpr h)
          refine lv_aload_n hx hb d_M_ends_84 rfl (lv_at hl 3 rfl) ?_
          refine va_get (D := D) (ci := 5) (v := .ref mg) (C := R_M) (T := F_M) (N := 21) hx hb ht bi_M hown hK hP 4 rfl rfl 19 (by decide) (ht _ bw_426) (fun _ h9 => h9) rfl d_M_ends_85 ?_
          refine lv_sipush (v := nI 400) hx hb d_M_ends_88 (by decide +kernel) ?_
          refine lv_iload_n hx hb d_M_ends_91 rfl (lv_at hl 4 rfl) ?_
          refine lv_imul hx hb d_M_ends_92 ?_
          refine ft_top (show nI 400 * nI 2 = nI 800 from by decide) ?_
          refine lv_iload hx hb d_M_ends_93 (lv_at hl 0 rfl) ?_
          refine lv_iadd hx hb d_M_ends_95 ?_
          refine ft_top (nI_add 800 k) ?_
          refine lv_aload_n hx hb d_M_ends_96 rfl (lv_at hl 3 rfl) ?_
          refine va_get (D := D) (ci := 5) (v := .ref mk) (C := R_M) (T := F_M) (N := 21) hx hb ht bi_M hown hK hP 4 rfl rfl 10 (by decide) (ht _ bw_417) (fun _ h9 => h9) rfl d_M_ends_97 ?_
          refine lv_sipush (v := nI 400) hx hb d_M_ends_100 (by decide +kernel) ?_
          refine lv_iload_n hx hb d_M_ends_103 rfl (lv_at hl 4 rfl) ?_
          refine lv_imul hx hb d_M_ends_104 ?_
          refine ft_top (show nI 400 * nI 2 = nI 800 from by decide) ?_
          refine lv_iload hx hb d_M_ends_105 (lv_at hl 0 rfl) ?_
          refine lv_iadd hx hb d_M_ends_107 ?_
          refine ft_top (nI_add 800 k) ?_
          refine va_iald hx hb hK hP 0 0 rfl rfl (vp_in_nI (by omega) (by omega)) d_M_ends_108 ?_
          refine ft_top (congrArg kp (nI_clamp (n := 800 + k) (by omega))) ?_
          refine va_iast hx hb hK hP hD hS 2 0 rfl rfl (vp_in_nI (by omega) (by omega)) d_M_ends_109 (fun H locs hP hD hS => ?_)
          rw [nI_clamp (n := 800 + k) (by omega)] at hP hD
          obtain ⟨gE_7, egE_7⟩ : ∃ g : Nat → Int32, g = upd gE (800 + k) (kp (800 + k)) := ⟨_, rfl⟩
          rw [← egE_7] at hP hD
          have hP : va_P D vwCl [(mk, .inl (cI, 1200, .inl kp)), (ml, .inl (cI, 3, .inl la_4)), (mg, .inl (cI, 1200, .inl gE_7)), (mx, .inl (cI, 12, .inl ct_3)), (o, .inr (5, [.int th, .ref mt, .int (nI nT), .int lim, .ref mo, .int (nI nO), .ref mf, .int (nI nF), .ref mc, .ref mm, .ref mk, .ref mb, .int lf, .int fl, .ref mu, .int f1, .int f2, .int ck, .ref ml, .ref mg, .ref mx])), (mc, .inl (cI, 3, .inl (fun j => nI (cm j)))), (mm, .inl (cI, 3, .inl (fun j => nI (mn j)))), (mb, .inl (cB, 3, .inl bd)), (mu, .inl (cB, 3, .inl tu))] H := hP
          have hD : va_D A [(mk, .inl (cI, 1200, .inl kp)), (ml, .inl (cI, 3, .inl la_4)), (mg, .inl (cI, 1200, .inl gE_7)), (mx, .inl (cI, 12, .inl ct_3)), (o, .inr (5, [.int th, .ref mt, .int (nI nT), .int lim, .ref mo, .int (nI nO), .ref mf, .int (nI nF), .ref mc, .ref mm, .ref mk, .ref mb, .int lf, .int fl, .ref mu, .int f1, .int f2, .int ck, .ref ml, .ref mg, .ref mx])), (mc, .inl (cI, 3, .inl (fun j => nI (cm j)))), (mm, .inl (cI, 3, .inl (fun j => nI (mn j)))), (mb, .inl (cB, 3, .inl bd)), (mu, .inl (cB, 3, .inl tu))] := hD
          refine lv_iinc (v := nI (k + 1)) (lv' := [(4, .int (nI (k + 1))), (3, .int (nI 1)), (2, .int (nI (mn 2 - 2))), (0, .ref o), (1, .int (nI 2))]) hx hb d_M_ends_110 hl (k := 0) rfl (nI_1 k) (by decide) rfl (fun ls hl => ?_)
          refine lv_goto (tgt := 78) hx hb d_M_ends_113 (by decide) ?_
          exact ih_cp (k + 1) gE_7 H locs ls (by omega) (hP.sub [0, 1, 2, 3, 4, 5, 6, 7, 8] rfl) (hD.sub [0, 1, 2, 3, 4, 5, 6, 7, 8] (by decide) rfl) hS (lv_sub hl [0, 1, 2, 3, 4] rfl) (by rw [egE_7, eG]; exact cpG_s gd kp 800 k)
      exact cp (mn 2 - 2) 0 gd H locs ls (by omega) (hP.sub [0, 1, 2, 3, 4, 5, 6, 7, 8] rfl) (hD.sub [0, 1, 2, 3, 4, 5, 6, 7, 8] (by decide) rfl) hS (lv_sub hl [0, 1, 2, 3, 4] rfl) (cpG_0 gd kp 800).symm
    · skip
      have ev : vrd (so2 mn bd tu f1 f2 ck) (nI (mn 2) - 2) lim = 3 := by unfold vrd; rw [if_neg c28, if_neg c40]
      refine lv_iconst (v := nI 3) hx hb d_M_ends_43 (by decide +kernel) ?_
      refine lv_goto (tgt := 48) hx hb d_M_ends_44 (by decide) ?_
      refine lv_istore_n (lv' := [(3, .int (nI 3)), (2, .int ((nI (mn 2)) - 2)), (0, .ref o), (1, .int (nI 2))]) hx hb d_M_ends_48 rfl hl (by decide) rfl (fun ls hl => ?_)
      refine lv_aload_n hx hb d_M_ends_49 rfl (lv_at hl 2 rfl) ?_
      refine va_get (D := D) (ci := 5) (v := .ref mx) (C := R_M) (T := F_M) (N := 21) hx hb ht bi_M hown hK hP 4 rfl rfl 20 (by decide) (ht _ bw_427) (fun _ h9 => h9) rfl d_M_ends_50 ?_
      refine lv_iconst (v := nI 4) hx hb d_M_ends_53 (by decide +kernel) ?_
      refine lv_iload_n hx hb d_M_ends_54 rfl (lv_at hl 3 rfl) ?_
      refine lv_imul hx hb d_M_ends_55 ?_
      refine ft_top (show nI 4 * nI 2 = nI 8 from by decide) ?_
      refine lv_iload_n hx hb d_M_ends_56 rfl (lv_at hl 0 rfl) ?_
      refine lv_iadd hx hb d_M_ends_57 ?_
      refine ft_top (show nI 8 + nI 3 = nI 11 from by decide) ?_
      refine lv_dup2_11 hx hb d_M_ends_58 rfl rfl ?_
      refine va_iald hx hb hK hP 3 0 rfl rfl (vp_in_nI (by omega) (by omega)) d_M_ends_59 ?_
      refine ft_top (congrArg ct (show (nI 11).toNatClampNeg = 11 from by decide)) ?_
      refine lv_iconst (v := 1) hx hb d_M_ends_60 (by decide +kernel) ?_
      refine lv_iadd hx hb d_M_ends_61 ?_
      refine va_iast hx hb hK hP hD hS 3 0 rfl rfl (vp_in_nI (by omega) (by omega)) d_M_ends_62 (fun H locs hP hD hS => ?_)
      rw [show (nI 11).toNatClampNeg = 11 from by decide] at hP hD
      obtain ⟨ct_8, ect_8⟩ : ∃ g : Nat → Int32, g = upd ct 11 ((ct 11) + 1) := ⟨_, rfl⟩
      rw [← ect_8] at hP hD
      have hP : va_P D vwCl [(mk, .inl (cI, 1200, .inl kp)), (ml, .inl (cI, 3, .inl la)), (mg, .inl (cI, 1200, .inl gd)), (mx, .inl (cI, 12, .inl ct_8)), (o, .inr (5, [.int th, .ref mt, .int (nI nT), .int lim, .ref mo, .int (nI nO), .ref mf, .int (nI nF), .ref mc, .ref mm, .ref mk, .ref mb, .int lf, .int fl, .ref mu, .int f1, .int f2, .int ck, .ref ml, .ref mg, .ref mx])), (mc, .inl (cI, 3, .inl (fun j => nI (cm j)))), (mm, .inl (cI, 3, .inl (fun j => nI (mn j)))), (mb, .inl (cB, 3, .inl bd)), (mu, .inl (cB, 3, .inl tu))] H := hP
      have hD : va_D A [(mk, .inl (cI, 1200, .inl kp)), (ml, .inl (cI, 3, .inl la)), (mg, .inl (cI, 1200, .inl gd)), (mx, .inl (cI, 12, .inl ct_8)), (o, .inr (5, [.int th, .ref mt, .int (nI nT), .int lim, .ref mo, .int (nI nO), .ref mf, .int (nI nF), .ref mc, .ref mm, .ref mk, .ref mb, .int lf, .int fl, .ref mu, .int f1, .int f2, .int ck, .ref ml, .ref mg, .ref mx])), (mc, .inl (cI, 3, .inl (fun j => nI (cm j)))), (mm, .inl (cI, 3, .inl (fun j => nI (mn j)))), (mb, .inl (cB, 3, .inl bd)), (mu, .inl (cB, 3, .inl tu))] := hD
      refine lv_iload_n hx hb d_M_ends_63 rfl (lv_at hl 0 rfl) ?_
      refine lv_iconst (v := nI 1) hx hb d_M_ends_64 (by decide +kernel) ?_
      refine lv_icmp_ne (tgt := 116) hx hb d_M_ends_65 (by decide) (fun _ => ?_) (fun c65 => absurd c65 (by decide))
      refine lv_aload_n hx hb d_M_ends_116 rfl (lv_at hl 2 rfl) ?_
      refine lv_iload_n hx hb d_M_ends_117 rfl (lv_at hl 3 rfl) ?_
      refine ft_cv (wc := [(o, .inr (5, [.int th, .ref mt, .int (nI nT), .int lim, .ref mo, .int (nI nO), .ref mf, .int (nI nF), .ref mc, .ref mm, .ref mk, .ref mb, .int lf, .int fl, .ref mu, .int f1, .int f2, .int ck, .ref ml, .ref mg, .ref mx])), (mc, .inl (cI, 3, .inl (fun j => nI (cm j)))), (mm, .inl (cI, 3, .inl (fun j => nI (mn j)))), (mb, .inl (cB, 3, .inl bd)), (mu, .inl (cB, 3, .inl tu))]) (wr := [(mk, .inl (cI, 1200, .inl kp)), (ml, .inl (cI, 3, .inl la)), (mg, .inl (cI, 1200, .inl gd)), (mx, .inl (cI, 12, .inl ct_8))]) (va_runV (As := [.int (nI 2)]) (rest := []) ⟨hx, hb, hml, hown, ht⟩ (c_M_begin_2 l D cI cB o mt mo mf mc mm mk mb mu ml mg mx th lim lf fl f1 f2 ck nT nO nF cm mn bd tu H.size) (ft_cwV 1 ht bw_544 bw_546 bw_26 bw_39 bw_547 (by decide) ⟨Nat.le_of_ble_eq_true rfl, Nat.le_of_ble_eq_true rfl⟩) ⟨ft_blind, va_recv hK hP (ci := 5) (q0 := 4) rfl rfl, (ft_pre hP hD hK hNW [4, 5, 6, 7, 8] [0, 1] rfl rfl (by decide) rfl _)⟩ rfl rfl hl.1 rfl (lv_room (Nat.le_of_ble_eq_true rfl)) d_M_ends_118 ⟨Nat.le_of_ble_eq_true rfl, Nat.le_of_ble_eq_true rfl⟩) hP hD hS hA [4, 5, 6, 7, 8] [0, 1, 2, 3] rfl rfl (by decide) (by decide) (fun u_10 H locs hu_10 hP hD hS => ?_)
      obtain ⟨cmB, mnB, bdB, tuB⟩ := u_10
      obtain ⟨e_cmB, e_mnB, e_bdB, e_tuB⟩ : cmB = va_up cm 2 0 ∧ mnB = va_up mn 2 0 ∧ bdB = upd bd 2 0 ∧ tuB = upd tu 2 0 := by simpa using hu_10
      have b_c : cmB 2 = 0 := by rw [e_cmB]; exact if_pos rfl
      have b_m : mnB 2 = 0 := by rw [e_mnB]; exact if_pos rfl
      have b_t : tuB 2 = 0 := by rw [e_tuB]; exact pk_us
      have hP : va_P D vwCl [(mk, .inl (cI, 1200, .inl kp)), (ml, .inl (cI, 3, .inl la)), (mg, .inl (cI, 1200, .inl gd)), (mx, .inl (cI, 12, .inl ct_8)), (o, .inr (5, [.int th, .ref mt, .int (nI nT), .int lim, .ref mo, .int (nI nO), .ref mf, .int (nI nF), .ref mc, .ref mm, .ref mk, .ref mb, .int lf, .int fl, .ref mu, .int f1, .int f2, .int 65535, .ref ml, .ref mg, .ref mx])), (mc, .inl (cI, 3, .inl (fun j => nI (cmB j)))), (mm, .inl (cI, 3, .inl (fun j => nI (mnB j)))), (mb, .inl (cB, 3, .inl bdB)), (mu, .inl (cB, 3, .inl tuB))] H := hP
      have hD : va_D A [(mk, .inl (cI, 1200, .inl kp)), (ml, .inl (cI, 3, .inl la)), (mg, .inl (cI, 1200, .inl gd)), (mx, .inl (cI, 12, .inl ct_8)), (o, .inr (5, [.int th, .ref mt, .int (nI nT), .int lim, .ref mo, .int (nI nO), .ref mf, .int (nI nF), .ref mc, .ref mm, .ref mk, .ref mb, .int lf, .int fl, .ref mu, .int f1, .int f2, .int 65535, .ref ml, .ref mg, .ref mx])), (mc, .inl (cI, 3, .inl (fun j => nI (cmB j)))), (mm, .inl (cI, 3, .inl (fun j => nI (mnB j)))), (mb, .inl (cB, 3, .inl bdB)), (mu, .inl (cB, 3, .inl tuB))] := hD
      refine lv_iload_n hx hb d_M_ends_121 rfl (lv_at hl 0 rfl) ?_
      exact ft_reti (cmB, mnB, kp, bdB, tuB, la, gd, ct_8, lf, fl, f1, f2, 65535) hx hb hr hlocks (hP.sub [4, 5, 6, 0, 7, 8, 1, 2, 3] rfl) hK (hD.sub [4, 5, 6, 0, 7, 8, 1, 2, 3] (by decide) rfl) hS (by show _ = (vrd (so2 mn bd tu f1 f2 ck) (nI (mn 2) - 2) lim, begS2 (endA 2 (mn 2 - 2) (vrd (so2 mn bd tu f1 f2 ck) (nI (mn 2) - 2) lim) (cm, mn, kp, bd, tu, la, gd, ct, lf, fl, f1, f2, ck))); rw [ev, endA_3, e_cmB, e_mnB, e_bdB, e_tuB, ect_8]; rfl) d_M_ends_122
  · skip
    have ev : vrd (so2 mn bd tu f1 f2 ck) (nI (mn 2) - 2) lim = 2 := by unfold vrd; rw [if_pos c28]
    refine lv_iconst (v := nI 2) hx hb d_M_ends_31 (by decide +kernel) ?_
    refine lv_goto (tgt := 48) hx hb d_M_ends_32 (by decide) ?_
    refine lv_istore_n (lv' := [(3, .int (nI 2)), (2, .int ((nI (mn 2)) - 2)), (0, .ref o), (1, .int (nI 2))]) hx hb d_M_ends_48 rfl hl (by decide) rfl (fun ls hl => ?_)
    refine lv_aload_n hx hb d_M_ends_49 rfl (lv_at hl 2 rfl) ?_
    refine va_get (D := D) (ci := 5) (v := .ref mx) (C := R_M) (T := F_M) (N := 21) hx hb ht bi_M hown hK hP 4 rfl rfl 20 (by decide) (ht _ bw_427) (fun _ h9 => h9) rfl d_M_ends_50 ?_
    refine lv_iconst (v := nI 4) hx hb d_M_ends_53 (by decide +kernel) ?_
    refine lv_iload_n hx hb d_M_ends_54 rfl (lv_at hl 3 rfl) ?_
    refine lv_imul hx hb d_M_ends_55 ?_
    refine ft_top (show nI 4 * nI 2 = nI 8 from by decide) ?_
    refine lv_iload_n hx hb d_M_ends_56 rfl (lv_at hl 0 rfl) ?_
    refine lv_iadd hx hb d_M_ends_57 ?_
    refine ft_top (show nI 8 + nI 2 = nI 10 from by decide) ?_
    refine lv_dup2_11 hx hb d_M_ends_58 rfl rfl ?_
    refine va_iald hx hb hK hP 3 0 rfl rfl (vp_in_nI (by omega) (by omega)) d_M_ends_59 ?_
    refine ft_top (congrArg ct (show (nI 10).toNatClampNeg = 10 from by decide)) ?_
    refine lv_iconst (v := 1) hx hb d_M_ends_60 (by decide +kernel) ?_
    refine lv_iadd hx hb d_M_ends_61 ?_
    refine va_iast hx hb hK hP hD hS 3 0 rfl rfl (vp_in_nI (by omega) (by omega)) d_M_ends_62 (fun H locs hP hD hS => ?_)
    rw [show (nI 10).toNatClampNeg = 10 from by decide] at hP hD
    obtain ⟨ct_11, ect_11⟩ : ∃ g : Nat → Int32, g = upd ct 10 ((ct 10) + 1) := ⟨_, rfl⟩
    rw [← ect_11] at hP hD
    have hP : va_P D vwCl [(mk, .inl (cI, 1200, .inl kp)), (ml, .inl (cI, 3, .inl la)), (mg, .inl (cI, 1200, .inl gd)), (mx, .inl (cI, 12, .inl ct_11)), (o, .inr (5, [.int th, .ref mt, .int (nI nT), .int lim, .ref mo, .int (nI nO), .ref mf, .int (nI nF), .ref mc, .ref mm, .ref mk, .ref mb, .int lf, .int fl, .ref mu, .int f1, .int f2, .int ck, .ref ml, .ref mg, .ref mx])), (mc, .inl (cI, 3, .inl (fun j => nI (cm j)))), (mm, .inl (cI, 3, .inl (fun j => nI (mn j)))), (mb, .inl (cB, 3, .inl bd)), (mu, .inl (cB, 3, .inl tu))] H := hP
    have hD : va_D A [(mk, .inl (cI, 1200, .inl kp)), (ml, .inl (cI, 3, .inl la)), (mg, .inl (cI, 1200, .inl gd)), (mx, .inl (cI, 12, .inl ct_11)), (o, .inr (5, [.int th, .ref mt, .int (nI nT), .int lim, .ref mo, .int (nI nO), .ref mf, .int (nI nF), .ref mc, .ref mm, .ref mk, .ref mb, .int lf, .int fl, .ref mu, .int f1, .int f2, .int ck, .ref ml, .ref mg, .ref mx])), (mc, .inl (cI, 3, .inl (fun j => nI (cm j)))), (mm, .inl (cI, 3, .inl (fun j => nI (mn j)))), (mb, .inl (cB, 3, .inl bd)), (mu, .inl (cB, 3, .inl tu))] := hD
    refine lv_iload_n hx hb d_M_ends_63 rfl (lv_at hl 0 rfl) ?_
    refine lv_iconst (v := nI 1) hx hb d_M_ends_64 (by decide +kernel) ?_
    refine lv_icmp_ne (tgt := 116) hx hb d_M_ends_65 (by decide) (fun _ => ?_) (fun c65 => absurd c65 (by decide))
    refine lv_aload_n hx hb d_M_ends_116 rfl (lv_at hl 2 rfl) ?_
    refine lv_iload_n hx hb d_M_ends_117 rfl (lv_at hl 3 rfl) ?_
    refine ft_cv (wc := [(o, .inr (5, [.int th, .ref mt, .int (nI nT), .int lim, .ref mo, .int (nI nO), .ref mf, .int (nI nF), .ref mc, .ref mm, .ref mk, .ref mb, .int lf, .int fl, .ref mu, .int f1, .int f2, .int ck, .ref ml, .ref mg, .ref mx])), (mc, .inl (cI, 3, .inl (fun j => nI (cm j)))), (mm, .inl (cI, 3, .inl (fun j => nI (mn j)))), (mb, .inl (cB, 3, .inl bd)), (mu, .inl (cB, 3, .inl tu))]) (wr := [(mk, .inl (cI, 1200, .inl kp)), (ml, .inl (cI, 3, .inl la)), (mg, .inl (cI, 1200, .inl gd)), (mx, .inl (cI, 12, .inl ct_11))]) (va_runV (As := [.int (nI 2)]) (rest := []) ⟨hx, hb, hml, hown, ht⟩ (c_M_begin_2 l D cI cB o mt mo mf mc mm mk mb mu ml mg mx th lim lf fl f1 f2 ck nT nO nF cm mn bd tu H.size) (ft_cwV 1 ht bw_544 bw_546 bw_26 bw_39 bw_547 (by decide) ⟨Nat.le_of_ble_eq_true rfl, Nat.le_of_ble_eq_true rfl⟩) ⟨ft_blind, va_recv hK hP (ci := 5) (q0 := 4) rfl rfl, (ft_pre hP hD hK hNW [4, 5, 6, 7, 8] [0, 1] rfl rfl (by decide) rfl _)⟩ rfl rfl hl.1 rfl (lv_room (Nat.le_of_ble_eq_true rfl)) d_M_ends_118 ⟨Nat.le_of_ble_eq_true rfl, Nat.le_of_ble_eq_true rfl⟩) hP hD hS hA [4, 5, 6, 7, 8] [0, 1, 2, 3] rfl rfl (by decide) (by decide) (fun u_13 H locs hu_13 hP hD hS => ?_)
    obtain ⟨cmB, mnB, bdB, tuB⟩ := u_13
    obtain ⟨e_cmB, e_mnB, e_bdB, e_tuB⟩ : cmB = va_up cm 2 0 ∧ mnB = va_up mn 2 0 ∧ bdB = upd bd 2 0 ∧ tuB = upd tu 2 0 := by simpa using hu_13
    have b_c : cmB 2 = 0 := by rw [e_cmB]; exact if_pos rfl
    have b_m : mnB 2 = 0 := by rw [e_mnB]; exact if_pos rfl
    have b_t : tuB 2 = 0 := by rw [e_tuB]; exact pk_us
    have hP : va_P D vwCl [(mk, .inl (cI, 1200, .inl kp)), (ml, .inl (cI, 3, .inl la)), (mg, .inl (cI, 1200, .inl gd)), (mx, .inl (cI, 12, .inl ct_11)), (o, .inr (5, [.int th, .ref mt, .int (nI nT), .int lim, .ref mo, .int (nI nO), .ref mf, .int (nI nF), .ref mc, .ref mm, .ref mk, .ref mb, .int lf, .int fl, .ref mu, .int f1, .int f2, .int 65535, .ref ml, .ref mg, .ref mx])), (mc, .inl (cI, 3, .inl (fun j => nI (cmB j)))), (mm, .inl (cI, 3, .inl (fun j => nI (mnB j)))), (mb, .inl (cB, 3, .inl bdB)), (mu, .inl (cB, 3, .inl tuB))] H := hP
    have hD : va_D A [(mk, .inl (cI, 1200, .inl kp)), (ml, .inl (cI, 3, .inl la)), (mg, .inl (cI, 1200, .inl gd)), (mx, .inl (cI, 12, .inl ct_11)), (o, .inr (5, [.int th, .ref mt, .int (nI nT), .int lim, .ref mo, .int (nI nO), .ref mf, .int (nI nF), .ref mc, .ref mm, .ref mk, .ref mb, .int lf, .int fl, .ref mu, .int f1, .int f2, .int 65535, .ref ml, .ref mg, .ref mx])), (mc, .inl (cI, 3, .inl (fun j => nI (cmB j)))), (mm, .inl (cI, 3, .inl (fun j => nI (mnB j)))), (mb, .inl (cB, 3, .inl bdB)), (mu, .inl (cB, 3, .inl tuB))] := hD
    refine lv_iload_n hx hb d_M_ends_121 rfl (lv_at hl 0 rfl) ?_
    exact ft_reti (cmB, mnB, kp, bdB, tuB, la, gd, ct_11, lf, fl, f1, f2, 65535) hx hb hr hlocks (hP.sub [4, 5, 6, 0, 7, 8, 1, 2, 3] rfl) hK (hD.sub [4, 5, 6, 0, 7, 8, 1, 2, 3] (by decide) rfl) hS (by show _ = (vrd (so2 mn bd tu f1 f2 ck) (nI (mn 2) - 2) lim, begS2 (endA 2 (mn 2 - 2) (vrd (so2 mn bd tu f1 f2 ck) (nI (mn 2) - 2) lim) (cm, mn, kp, bd, tu, la, gd, ct, lf, fl, f1, f2, ck))); rw [ev, endA_2, e_cmB, e_mnB, e_bdB, e_tuB, ect_11]; rfl) d_M_ends_122
