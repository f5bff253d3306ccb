set_option maxHeartbeats 4000000 in
set_option maxRecDepth 100000 in
theorem c_M_come (l : Launch) (D : va_G) (cI : ClassId) (cB : ClassId) (o mt mo mf mc mm mk mb mu ml mg mx : Nat) (th lim lf fl f1 f2 ck : Int32) (nT nO nF : Nat) (cm mn : Nat → Nat) (kp bd tu la gd ct : Nat → Int32) (hC : ∀ w, w < 3 → cm w < 536870912) (hM : ∀ w, w < 3 → mn w < 536870912) (hB : ∀ w, w < 3 → (tu w = 0 ∨ tu w = 1)) (hL : lim ≤ 400) (way b : Int32) (sz : Nat) : ft_Mi l y_M_come (.code y_M_come b_M_come 3 (some .int) :: ft_big) ({ frames := 3, cells := 0, slots := 0, locals := 110 }) D [(cI, .int), (cB, .boolean)] sz [.ref o, .int way, .int b] [(o, .inr (5, [.int th, .ref mt, .int (nI nT), .int lim, .ref mo, .int (nI nO), .ref mf, .int (nI nF), .ref mc, .ref mm, .ref mk, .ref mb, .int lf, .int fl, .ref mu, .int f1, .int f2, .int ck, .ref ml, .ref mg, .ref mx])), (mc, .inl (cI, 3, .inl (fun j => nI (cm j)))), (mm, .inl (cI, 3, .inl (fun j => nI (mn j)))), (mk, .inl (cI, 1200, .inl kp)), (mb, .inl (cB, 3, .inl bd)), (mu, .inl (cB, 3, .inl tu)), (ml, .inl (cI, 3, .inl la)), (mg, .inl (cI, 1200, .inl gd)), (mx, .inl (cI, 12, .inl ct))] (fun (v : Int32) (u : MR) => (v, u) = comeM lim way b (cm, mn, kp, bd, tu, la, gd, ct, lf, fl, f1, f2, ck)) (fun u : MR => [(o, .inr (5, [.int 0, .ref mt, .int (nI nT), .int lim, .ref mo, .int (nI nO), .ref mf, .int (nI nF), .ref mc, .ref mm, .ref mk, .ref mb, .int u.2.2.2.2.2.2.2.2.1, .int u.2.2.2.2.2.2.2.2.2.1, .ref mu, .int u.2.2.2.2.2.2.2.2.2.2.1, .int u.2.2.2.2.2.2.2.2.2.2.2.1, .int u.2.2.2.2.2.2.2.2.2.2.2.2, .ref ml, .ref mg, .ref mx])), (mc, .inl (cI, 3, .inl (fun j => nI (u.1 j)))), (mm, .inl (cI, 3, .inl (fun j => nI (u.2.1 j)))), (mk, .inl (cI, 1200, .inl u.2.2.1)), (mb, .inl (cB, 3, .inl u.2.2.2.1)), (mu, .inl (cB, 3, .inl u.2.2.2.2.1)), (ml, .inl (cI, 3, .inl u.2.2.2.2.2.1)), (mg, .inl (cI, 1200, .inl u.2.2.2.2.2.2.1)), (mx, .inl (cI, 12, .inl u.2.2.2.2.2.2.2.1))]) 0 0 := by
  refine ft_ei (cc := b_M_come) (maxL := 3) (ret := (some .int)) (by decide) rfl (Nat.le_of_ble_eq_true rfl) ?_
  intro p e s m below meth c A ls hx hb hr hml hts hown hlocks hmn hP hK hD hA hS hNW hl
  have ht : ∀ w ∈ ft_big, w.before _ s = true := fun w h => hts w (List.mem_cons_of_mem _ h)
  have hP : va_P D vwCl [(o, .inr (5, [.int th, .ref mt, .int (nI nT), .int lim, .ref mo, .int (nI nO), .ref mf, .int (nI nF), .ref mc, .ref mm, .ref mk, .ref mb, .int lf, .int fl, .ref mu, .int f1, .int f2, .int ck, .ref ml, .ref mg, .ref mx])), (mc, .inl (cI, 3, .inl (fun j => nI (cm j)))), (mm, .inl (cI, 3, .inl (fun j => nI (mn j)))), (mk, .inl (cI, 1200, .inl kp)), (mb, .inl (cB, 3, .inl bd)), (mu, .inl (cB, 3, .inl tu)), (ml, .inl (cI, 3, .inl la)), (mg, .inl (cI, 1200, .inl gd)), (mx, .inl (cI, 12, .inl ct))] s.heap := hP
  have hD : va_D A [(o, .inr (5, [.int th, .ref mt, .int (nI nT), .int lim, .ref mo, .int (nI nO), .ref mf, .int (nI nF), .ref mc, .ref mm, .ref mk, .ref mb, .int lf, .int fl, .ref mu, .int f1, .int f2, .int ck, .ref ml, .ref mg, .ref mx])), (mc, .inl (cI, 3, .inl (fun j => nI (cm j)))), (mm, .inl (cI, 3, .inl (fun j => nI (mn j)))), (mk, .inl (cI, 1200, .inl kp)), (mb, .inl (cB, 3, .inl bd)), (mu, .inl (cB, 3, .inl tu)), (ml, .inl (cI, 3, .inl la)), (mg, .inl (cI, 1200, .inl gd)), (mx, .inl (cI, 12, .inl ct))] := hD
  have hl : lv_has ls 3 [(0, .ref o), (1, .int way), (2, .int b)] := hl
  refine lv_aload_n hx hb d_M_come_0 rfl (lv_at hl 0 rfl) ?_
  refine lv_iconst (v := 0) hx hb d_M_come_1 (by decide +kernel) ?_
  refine va_put (D := D) (ci := 5) (v := .int 0) (ty := .int) (C := R_M) (T := F_M) (N := 21) hx hb ht bi_M t_M t_M_ok n_M hown hK hP hD hS 0 rfl rfl 0 (by decide) (ht _ bw_407) (fun _ h9 => h9) rfl (by decide +kernel) rfl rfl (Nat.le_of_ble_eq_true rfl) d_M_come_2 (fun H locs hP hD hS => ?_)
  have hP : va_P D vwCl [(o, .inr (5, [.int 0, .ref mt, .int (nI nT), .int lim, .ref mo, .int (nI nO), .ref mf, .int (nI nF), .ref mc, .ref mm, .ref mk, .ref mb, .int lf, .int fl, .ref mu, .int f1, .int f2, .int ck, .ref ml, .ref mg, .ref mx])), (mc, .inl (cI, 3, .inl (fun j => nI (cm j)))), (mm, .inl (cI, 3, .inl (fun j => nI (mn j)))), (mk, .inl (cI, 1200, .inl kp)), (mb, .inl (cB, 3, .inl bd)), (mu, .inl (cB, 3, .inl tu)), (ml, .inl (cI, 3, .inl la)), (mg, .inl (cI, 1200, .inl gd)), (mx, .inl (cI, 12, .inl ct))] H := hP
  have hD : va_D A [(o, .inr (5, [.int 0, .ref mt, .int (nI nT), .int lim, .ref mo, .int (nI nO), .ref mf, .int (nI nF), .ref mc, .ref mm, .ref mk, .ref mb, .int lf, .int fl, .ref mu, .int f1, .int f2, .int ck, .ref ml, .ref mg, .ref mx])), (mc, .inl (cI, 3, .inl (fun j => nI (cm j)))), (mm, .inl (cI, 3, .inl (fun j => nI (mn j)))), (mk, .inl (cI, 1200, .inl kp)), (mb, .inl (cB, 3, .inl bd)), (mu, .inl (cB, 3, .inl tu)), (ml, .inl (cI, 3, .inl la)), (mg, .inl (cI, 1200, .inl gd)), (mx, .inl (cI, 12, .inl ct))] := hD
  refine lv_iload_n hx hb d_M_come_5 rfl (lv_at hl 1 rfl) ?_
  refine ft_ci (wc := []) (wr := [(o, .inr (5, [.int 0, .ref mt, .int (nI nT), .int lim, .ref mo, .int (nI nO), .ref mf, .int (nI nF), .ref mc, .ref mm, .ref mk, .ref mb, .int lf, .int fl, .ref mu, .int f1, .int f2, .int ck, .ref ml, .ref mg, .ref mx])), (mc, .inl (cI, 3, .inl (fun j => nI (cm j)))), (mm, .inl (cI, 3, .inl (fun j => nI (mn j)))), (mk, .inl (cI, 1200, .inl kp)), (mb, .inl (cB, 3, .inl bd)), (mu, .inl (cB, 3, .inl tu)), (ml, .inl (cI, 3, .inl la)), (mg, .inl (cI, 1200, .inl gd)), (mx, .inl (cI, 12, .inl ct))]) (va_runS (As := [.int way]) (rest := []) ⟨hx, hb, hml, hown, ht⟩ (c_M_isWay l D cI cB way H.size) (ft_cwS 1 ht bw_492 bw_493 bw_39 bw_494 (by decide) ⟨Nat.le_of_ble_eq_true rfl, Nat.le_of_ble_eq_true rfl⟩) ⟨ft_blind, (ft_pre hP hD hK hNW [] [0, 1] rfl rfl (by decide) rfl _)⟩ rfl rfl hl.1 rfl (lv_room (Nat.le_of_ble_eq_true rfl)) d_M_come_6 ⟨Nat.le_of_ble_eq_true rfl, Nat.le_of_ble_eq_true rfl⟩) hP hD hS hA [] [0, 1, 2, 3, 4, 5, 6, 7, 8] rfl rfl (by decide) (by decide) (fun r_1 u_2 H locs hu_2 hP hD hS => ?_)
  have hP : va_P D vwCl [(o, .inr (5, [.int 0, .ref mt, .int (nI nT), .int lim, .ref mo, .int (nI nO), .ref mf, .int (nI nF), .ref mc, .ref mm, .ref mk, .ref mb, .int lf, .int fl, .ref mu, .int f1, .int f2, .int ck, .ref ml, .ref mg, .ref mx])), (mc, .inl (cI, 3, .inl (fun j => nI (cm j)))), (mm, .inl (cI, 3, .inl (fun j => nI (mn j)))), (mk, .inl (cI, 1200, .inl kp)), (mb, .inl (cB, 3, .inl bd)), (mu, .inl (cB, 3, .inl tu)), (ml, .inl (cI, 3, .inl la)), (mg, .inl (cI, 1200, .inl gd)), (mx, .inl (cI, 12, .inl ct))] H := hP
  have hD : va_D A [(o, .inr (5, [.int 0, .ref mt, .int (nI nT), .int lim, .ref mo, .int (nI nO), .ref mf, .int (nI nF), .ref mc, .ref mm, .ref mk, .ref mb, .int lf, .int fl, .ref mu, .int f1, .int f2, .int ck, .ref ml, .ref mg, .ref mx])), (mc, .inl (cI, 3, .inl (fun j => nI (cm j)))), (mm, .inl (cI, 3, .inl (fun j => nI (mn j)))), (mk, .inl (cI, 1200, .inl kp)), (mb, .inl (cB, 3, .inl bd)), (mu, .inl (cB, 3, .inl tu)), (ml, .inl (cI, 3, .inl la)), (mg, .inl (cI, 1200, .inl gd)), (mx, .inl (cI, 12, .inl ct))] := hD
  rcases hu_2 with ⟨rfl, rfl | rfl | rfl⟩ | ⟨rfl, n0, n1, n2⟩
  · skip
    have hl : lv_has ls 3 [(0, .ref o), (1, .int (nI 0)), (2, .int b)] := hl
    have hP : va_P D vwCl [(o, .inr (5, [.int 0, .ref mt, .int (nI nT), .int lim, .ref mo, .int (nI nO), .ref mf, .int (nI nF), .ref mc, .ref mm, .ref mk, .ref mb, .int lf, .int fl, .ref mu, .int f1, .int f2, .int ck, .ref ml, .ref mg, .ref mx])), (mc, .inl (cI, 3, .inl (fun j => nI (cm j)))), (mm, .inl (cI, 3, .inl (fun j => nI (mn j)))), (mk, .inl (cI, 1200, .inl kp)), (mb, .inl (cB, 3, .inl bd)), (mu, .inl (cB, 3, .inl tu)), (ml, .inl (cI, 3, .inl la)), (mg, .inl (cI, 1200, .inl gd)), (mx, .inl (cI, 12, .inl ct))] H := hP
    have hD : va_D A [(o, .inr (5, [.int 0, .ref mt, .int (nI nT), .int lim, .ref mo, .int (nI nO), .ref mf, .int (nI nF), .ref mc, .ref mm, .ref mk, .ref mb, .int lf, .int fl, .ref mu, .int f1, .int f2, .int ck, .ref ml, .ref mg, .ref mx])), (mc, .inl (cI, 3, .inl (fun j => nI (cm j)))), (mm, .inl (cI, 3, .inl (fun j => nI (mn j)))), (mk, .inl (cI, 1200, .inl kp)), (mb, .inl (cB, 3, .inl bd)), (mu, .inl (cB, 3, .inl tu)), (ml, .inl (cI, 3, .inl la)), (mg, .inl (cI, 1200, .inl gd)), (mx, .inl (cI, 12, .inl ct))] := hD
    refine lv_if_eq (tgt := 25) hx hb d_M_come_9 (by decide) (fun c9 => absurd c9 (by decide)) (fun _ => ?_)
    refine lv_aload_n hx hb d_M_come_12 rfl (lv_at hl 0 rfl) ?_
    refine lv_iload_n hx hb d_M_come_13 rfl (lv_at hl 1 rfl) ?_
    refine lv_iload_n hx hb d_M_come_14 rfl (lv_at hl 2 rfl) ?_
    refine lv_sipush (v := 255) hx hb d_M_come_15 (by decide +kernel) ?_
    refine lv_iand hx hb d_M_come_18 ?_
    refine ft_ci (wc := [(o, .inr (5, [.int 0, .ref mt, .int (nI nT), .int lim, .ref mo, .int (nI nO), .ref mf, .int (nI nF), .ref mc, .ref mm, .ref mk, .ref mb, .int lf, .int fl, .ref mu, .int f1, .int f2, .int ck, .ref ml, .ref mg, .ref mx])), (mc, .inl (cI, 3, .inl (fun j => nI (cm j)))), (mm, .inl (cI, 3, .inl (fun j => nI (mn j)))), (mk, .inl (cI, 1200, .inl kp)), (mb, .inl (cB, 3, .inl bd)), (mu, .inl (cB, 3, .inl tu)), (ml, .inl (cI, 3, .inl la)), (mg, .inl (cI, 1200, .inl gd)), (mx, .inl (cI, 12, .inl ct))]) (wr := []) (va_runV (As := [.int (nI 0), .int (b &&& 255)]) (rest := []) ⟨hx, hb, hml, hown, ht⟩ (c_M_take_0 l D cI cB o mt mo mf mc mm mk mb mu ml mg mx 0 lim lf fl f1 f2 ck nT nO nF cm mn kp bd tu la gd ct (Nat.lt_trans (hC 0 (by omega)) (by omega)) (Nat.lt_trans (hM 0 (by omega)) (by omega)) (hB 0 (by omega)) hL (b &&& 255) H.size) (ft_cwV 2 ht bw_532 bw_534 bw_23 bw_39 bw_535 (by decide) ⟨Nat.le_of_ble_eq_true rfl, Nat.le_of_ble_eq_true rfl⟩) ⟨ft_blind, va_recv hK hP (ci := 5) (q0 := 0) rfl rfl, (ft_pre hP hD hK hNW [0, 1, 2, 3, 4, 5, 6, 7, 8] [0, 1] rfl rfl (by decide) rfl _)⟩ rfl rfl hl.1 rfl (lv_room (Nat.le_of_ble_eq_true rfl)) d_M_come_19 ⟨Nat.le_of_ble_eq_true rfl, Nat.le_of_ble_eq_true rfl⟩) hP hD hS hA [0, 1, 2, 3, 4, 5, 6, 7, 8] [] rfl rfl (by decide) (by decide) (fun r_3 u_4 H locs hu_4 hP hD hS => ?_)
    obtain ⟨cm1, mn1, kp1, bd1, tu1, la1, gd1, ct1, lf1, fl1, f11, f21, ck1⟩ := u_4
    have e_t : (r_3, cm1, mn1, kp1, bd1, tu1, la1, gd1, ct1, lf1, fl1, f11, f21, ck1) = takeM0 lim (b &&& 255) (cm, mn, kp, bd, tu, la, gd, ct, lf, fl, f1, f2, ck) := hu_4
    have hP : va_P D vwCl [(o, .inr (5, [.int 0, .ref mt, .int (nI nT), .int lim, .ref mo, .int (nI nO), .ref mf, .int (nI nF), .ref mc, .ref mm, .ref mk, .ref mb, .int lf1, .int fl1, .ref mu, .int f11, .int f21, .int ck1, .ref ml, .ref mg, .ref mx])), (mc, .inl (cI, 3, .inl (fun j => nI (cm1 j)))), (mm, .inl (cI, 3, .inl (fun j => nI (mn1 j)))), (mk, .inl (cI, 1200, .inl kp1)), (mb, .inl (cB, 3, .inl bd1)), (mu, .inl (cB, 3, .inl tu1)), (ml, .inl (cI, 3, .inl la1)), (mg, .inl (cI, 1200, .inl gd1)), (mx, .inl (cI, 12, .inl ct1))] H := hP
    have hD : va_D A [(o, .inr (5, [.int 0, .ref mt, .int (nI nT), .int lim, .ref mo, .int (nI nO), .ref mf, .int (nI nF), .ref mc, .ref mm, .ref mk, .ref mb, .int lf1, .int fl1, .ref mu, .int f11, .int f21, .int ck1, .ref ml, .ref mg, .ref mx])), (mc, .inl (cI, 3, .inl (fun j => nI (cm1 j)))), (mm, .inl (cI, 3, .inl (fun j => nI (mn1 j)))), (mk, .inl (cI, 1200, .inl kp1)), (mb, .inl (cB, 3, .inl bd1)), (mu, .inl (cB, 3, .inl tu1)), (ml, .inl (cI, 3, .inl la1)), (mg, .inl (cI, 1200, .inl gd1)), (mx, .inl (cI, 12, .inl ct1))] := hD
    refine lv_goto (tgt := 26) hx hb d_M_come_22 (by decide) ?_
    exact ft_reti (cm1, mn1, kp1, bd1, tu1, la1, gd1, ct1, lf1, fl1, f11, f21, ck1) hx hb hr hlocks hP hK hD hS (by show _ = comeM lim 0 b (cm, mn, kp, bd, tu, la, gd, ct, lf, fl, f1, f2, ck); unfold comeM; rw [if_pos rfl]; exact e_t) d_M_come_26
  · skip
    have hl : lv_has ls 3 [(0, .ref o), (1, .int (nI 1)), (2, .int b)] := hl
    have hP : va_P D vwCl [(o, .inr (5, [.int 0, .ref mt, .int (nI nT), .int lim, .ref mo, .int (nI nO), .ref mf, .int (nI nF), .ref mc, .ref mm, .ref mk, .ref mb, .int lf, .int fl, .ref mu, .int f1, .int f2, .int ck, .ref ml, .ref mg, .ref mx])), (mc, .inl (cI, 3, .inl (fun j => nI (cm j)))), (mm, .inl (cI, 3, .inl (fun j => nI (mn j)))), (mk, .inl (cI, 1200, .inl kp)), (mb, .inl (cB, 3, .inl bd)), (mu, .inl (cB, 3, .inl tu)), (ml, .inl (cI, 3, .inl la)), (mg, .inl (cI, 1200, .inl gd)), (mx, .inl (cI, 12, .inl ct))] H := hP
    have hD : va_D A [(o, .inr (5, [.int 0, .ref mt, .int (nI nT), .int lim, .ref mo, .int (nI nO), .ref mf, .int (nI nF), .ref mc, .ref mm, .ref mk, .ref mb, .int lf, .int fl, .ref mu, .int f1, .int f2, .int ck, .ref ml, .ref mg, .ref mx])), (mc, .inl (cI, 3, .inl (fun j => nI (cm j)))), (mm, .inl (cI, 3, .inl (fun j => nI (mn j)))), (mk, .inl (cI, 1200, .inl kp)), (mb, .inl (cB, 3, .inl bd)), (mu, .inl (cB, 3, .inl tu)), (ml, .inl (cI, 3, .inl la)), (mg, .inl (cI, 1200, .inl gd)), (mx, .inl (cI, 12, .inl ct))] := hD
    refine lv_if_eq (tgt := 25) hx hb d_M_come_9 (by decide) (fun c9 => absurd c9 (by decide)) (fun _ => ?_)
    refine lv_aload_n hx hb d_M_come_12 rfl (lv_at hl 0 rfl) ?_
    refine lv_iload_n hx hb d_M_come_13 rfl (lv_at hl 1 rfl) ?_
    refine lv_iload_n hx hb d_M_come_14 rfl (lv_at hl 2 rfl) ?_
    refine lv_sipush (v := 255) hx hb d_M_come_15 (by decide +kernel) ?_
    refine lv_iand hx hb d_M_come_18 ?_
    refine ft_ci (wc := [(o, .inr (5, [.int 0, .ref mt, .int (nI nT), .int lim, .ref mo, .int (nI nO), .ref mf, .int (nI nF), .ref mc, .ref mm, .ref mk, .ref mb, .int lf, .int fl, .ref mu, .int f1, .int f2, .int ck, .ref ml, .ref mg, .ref mx])), (mc, .inl (cI, 3, .inl (fun j => nI (cm j)))), (mm, .inl (cI, 3, .inl (fun j => nI (mn j)))), (mk, .inl (cI, 1200, .inl kp)), (mb, .inl (cB, 3, .inl bd)), (mu, .inl (cB, 3, .inl tu)), (ml, .inl (cI, 3, .inl la)), (mg, .inl (cI, 1200, .inl gd)), (mx, .inl (cI, 12, .inl ct))]) (wr := []) (va_runV (As := [.int (nI 1), .int (b &&& 255)]) (rest := []) ⟨hx, hb, hml, hown, ht⟩ (c_M_take_1 l D cI cB o mt mo mf mc mm mk mb mu ml mg mx 0 lim lf fl f1 f2 ck nT nO nF cm mn kp bd tu la gd ct (Nat.lt_trans (hC 1 (by omega)) (by omega)) (Nat.lt_trans (hM 1 (by omega)) (by omega)) (hB 1 (by omega)) hL (b &&& 255) H.size) (ft_cwV 2 ht bw_532 bw_534 bw_23 bw_39 bw_535 (by decide) ⟨Nat.le_of_ble_eq_true rfl, Nat.le_of_ble_eq_true rfl⟩) ⟨ft_blind, va_recv hK hP (ci := 5) (q0 := 0) rfl rfl, (ft_pre hP hD hK hNW [0, 1, 2, 3, 4, 5, 6, 7, 8] [0, 1] rfl rfl (by decide) rfl _)⟩ rfl rfl hl.1 rfl (lv_room (Nat.le_of_ble_eq_true rfl)) d_M_come_19 ⟨Nat.le_of_ble_eq_true rfl, Nat.le_of_ble_eq_true rfl⟩) hP hD hS hA [0, 1, 2, 3, 4, 5, 6, 7, 8] [] rfl rfl (by decide) (by decide) (fun r_5 u_6 H locs hu_6 hP hD hS => ?_)
    obtain ⟨cm1, mn1, kp1, bd1, tu1, la1, gd1, ct1, lf1, fl1, f11, f21, ck1⟩ := u_6
    have e_t : (r_5, cm1, mn1, kp1, bd1, tu1, la1, gd1, ct1, lf1, fl1, f11, f21, ck1) = takeM1 lim (b &&& 255) (cm, mn, kp, bd, tu, la, gd, ct, lf, fl, f1, f2, ck) := hu_6
    have hP : va_P D vwCl [(o, .inr (5, [.int 0, .ref mt, .int (nI nT), .int lim, .ref mo, .int (nI nO), .ref mf, .int (nI nF), .ref mc, .ref mm, .ref mk, .ref mb, .int lf1, .int fl1, .ref mu, .int f11, .int f21, .int ck1, .ref ml, .ref mg, .ref mx])), (mc, .inl (cI, 3, .inl (fun j => nI (cm1 j)))), (mm, .inl (cI, 3, .inl (fun j => nI (mn1 j)))), (mk, .inl (cI, 1200, .inl kp1)), (mb, .inl (cB, 3, .inl bd1)), (mu, .inl (cB, 3, .inl tu1)), (ml, .inl (cI, 3, .inl la1)), (mg, .inl (cI, 1200, .inl gd1)), (mx, .inl (cI, 12, .inl ct1))] H := hP
    have hD : va_D A [(o, .inr (5, [.int 0, .ref mt, .int (nI nT), .int lim, .ref mo, .int (nI nO), .ref mf, .int (nI nF), .ref mc, .ref mm, .ref mk, .ref mb, .int lf1, .int fl1, .ref mu, .int f11, .int f21, .int ck1, .ref ml, .ref mg, .ref mx])), (mc, .inl (cI, 3, .inl (fun j => nI (cm1 j)))), (mm, .inl (cI, 3, .inl (fun j => nI (mn1 j)))), (mk, .inl (cI, 1200, .inl kp1)), (mb, .inl (cB, 3, .inl bd1)), (mu, .inl (cB, 3, .inl tu1)), (ml, .inl (cI, 3, .inl la1)), (mg, .inl (cI, 1200, .inl gd1)), (mx, .inl (cI, 12, .inl ct1))] := hD
    refine lv_goto (tgt := 26) hx hb d_M_come_22 (by decide) ?_
    exact ft_reti (cm1, mn1, kp1, bd1, tu1, la1, gd1, ct1, lf1, fl1, f11, f21, ck1) hx hb hr hlocks hP hK hD hS (by show _ = comeM lim 1 b (cm, mn, kp, bd, tu, la, gd, ct, lf, fl, f1, f2, ck); unfold comeM; rw [if_neg (by decide), if_pos rfl]; exact e_t) d_M_come_26
  · skip
    have hl : lv_has ls 3 [(0, .ref o), (1, .int (nI 2)), (2, .int b)] := hl
    have hP : va_P D vwCl [(o, .inr (5, [.int 0, .ref mt, .int (nI nT), .int lim, .ref mo, .int (nI nO), .ref mf, .int (nI nF), .ref mc, .ref mm, .ref mk, .ref mb, .int lf, .int fl, .ref mu, .int f1, .int f2, .int ck, .ref ml, .ref mg, .ref mx])), (mc, .inl (cI, 3, .inl (fun j => nI (cm j)))), (mm, .inl (cI, 3, .inl (fun j => nI (mn j)))), (mk, .inl (cI, 1200, .inl kp)), (mb, .inl (cB, 3, .inl bd)), (mu, .inl (cB, 3, .inl tu)), (ml, .inl (cI, 3, .inl la)), (mg, .inl (cI, 1200, .inl gd)), (mx, .inl (cI, 12, .inl ct))] H := hP
    have hD : va_D A [(o, .inr (5, [.int 0, .ref mt, .int (nI nT), .int lim, .ref mo, .int (nI nO), .ref mf, .int (nI nF), .ref mc, .ref mm, .ref mk, .ref mb, .int lf, .int fl, .ref mu, .int f1, .int f2, .int ck, .ref ml, .ref mg, .ref mx])), (mc, .inl (cI, 3, .inl (fun j => nI (cm j)))), (mm, .inl (cI, 3, .inl (fun j => nI (mn j)))), (mk, .inl (cI, 1200, .inl kp)), (mb, .inl (cB, 3, .inl bd)), (mu, .inl (cB, 3, .inl tu)), (ml, .inl (cI, 3, .inl la)), (mg, .inl (cI, 1200, .inl gd)), (mx, .inl (cI, 12, .inl ct))] := hD
    refine lv_if_eq (tgt := 25) hx hb d_M_come_9 (by decide) (fun c9 => absurd c9 (by decide)) (fun _ => ?_)
    refine lv_aload_n hx hb d_M_come_12 rfl (lv_at hl 0 rfl) ?_
    refine lv_iload_n hx hb d_M_come_13 rfl (lv_at hl 1 rfl) ?_
    refine lv_iload_n hx hb d_M_come_14 rfl (lv_at hl 2 rfl) ?_
    refine lv_sipush (v := 255) hx hb d_M_come_15 (by decide +kernel) ?_
    refine lv_iand hx hb d_M_come_18 ?_
    refine ft_ci (wc := [(o, .inr (5, [.int 0, .ref mt, .int (nI nT), .int lim, .ref mo, .int (nI nO), .ref mf, .int (nI nF), .ref mc, .ref mm, .ref mk, .ref mb, .int lf, .int fl, .ref mu, .int f1, .int f2, .int ck, .ref ml, .ref mg, .ref mx])), (mc, .inl (cI, 3, .inl (fun j => nI (cm j)))), (mm, .inl (cI, 3, .inl (fun j => nI (mn j)))), (mk, .inl (cI, 1200, .inl kp)), (mb, .inl (cB, 3, .inl bd)), (mu, .inl (cB, 3, .inl tu)), (ml, .inl (cI, 3, .inl la)), (mg, .inl (cI, 1200, .inl gd)), (mx, .inl (cI, 12, .inl ct))]) (wr := []) (va_runV (As := [.int (nI 2), .int (b &&& 255)]) (rest := []) ⟨hx, hb, hml, hown, ht⟩ (c_M_take_2 l D cI cB o mt mo mf mc mm mk mb mu ml mg mx 0 lim lf fl f1 f2 ck nT nO nF cm mn kp bd tu la gd ct (Nat.lt_trans (hC 2 (by omega)) (by omega)) (Nat.lt_trans (hM 2 (by omega)) (by omega)) (hB 2 (by omega)) hL (b &&& 255) H.size) (ft_cwV 2 ht bw_532 bw_534 bw_23 bw_39 bw_535 (by decide) ⟨Nat.le_of_ble_eq_true rfl, Nat.le_of_ble_eq_true rfl⟩) ⟨ft_blind, va_recv hK hP (ci := 5) (q0 := 0) rfl rfl, (ft_pre hP hD hK hNW [0, 1, 2, 3, 4, 5, 6, 7, 8] [0, 1] rfl rfl (by decide) rfl _)⟩ rfl rfl hl.1 rfl (lv_room (Nat.le_of_ble_eq_true rfl)) d_M_come_19 ⟨Nat.le_of_ble_eq_true rfl, Nat.le_of_ble_eq_true rfl⟩) hP hD hS hA [0, 1, 2, 3, 4, 5, 6, 7, 8] [] rfl rfl (by decide) (by decide) (fun r_7 u_8 H locs hu_8 hP hD hS => ?_)
    obtain ⟨cm1, mn1, kp1, bd1, tu1, la1, gd1, ct1, lf1, fl1, f11, f21, ck1⟩ := u_8
    have e_t : (r_7, cm1, mn1, kp1, bd1, tu1, la1, gd1, ct1, lf1, fl1, f11, f21, ck1) = takeM2 lim (b &&& 255) (cm, mn, kp, bd, tu, la, gd, ct, lf, fl, f1, f2, ck) := hu_8
    have hP : va_P D vwCl [(o, .inr (5, [.int 0, .ref mt, .int (nI nT), .int lim, .ref mo, .int (nI nO), .ref mf, .int (nI nF), .ref mc, .ref mm, .ref mk, .ref mb, .int lf1, .int fl1, .ref mu, .int f11, .int f21, .int ck1, .ref ml, .ref mg, .ref mx])), (mc, .inl (cI, 3, .inl (fun j => nI (cm1 j)))), (mm, .inl (cI, 3, .inl (fun j => nI (mn1 j)))), (mk, .inl (cI, 1200, .inl kp1)), (mb, .inl (cB, 3, .inl bd1)), (mu, .inl (cB, 3, .inl tu1)), (ml, .inl (cI, 3, .inl la1)), (mg, .inl (cI, 1200, .inl gd1)), (mx, .inl (cI, 12, .inl ct1))] H := hP
    have hD : va_D A [(o, .inr (5, [.int 0, .ref mt, .int (nI nT), .int lim, .ref mo, .int (nI nO), .ref mf, .int (nI nF), .ref mc, .ref mm, .ref mk, .ref mb, .int lf1, .int fl1, .ref mu, .int f11, .int f21, .int ck1, .ref ml, .ref mg, .ref mx])), (mc, .inl (cI, 3, .inl (fun j => nI (cm1 j)))), (mm, .inl (cI, 3, .inl (fun j => nI (mn1 j)))), (mk, .inl (cI, 1200, .inl kp1)), (mb, .inl (cB, 3, .inl bd1)), (mu, .inl (cB, 3, .inl tu1)), (ml, .inl (cI, 3, .inl la1)), (mg, .inl (cI, 1200, .inl gd1)), (mx, .inl (cI, 12, .inl ct1))] := hD
    refine lv_goto (tgt := 26) hx hb d_M_come_22 (by decide) ?_
    exact ft_reti (cm1, mn1, kp1, bd1, tu1, la1, gd1, ct1, lf1, fl1, f11, f21, ck1) hx hb hr hlocks hP hK hD hS (by show _ = comeM lim 2 b (cm, mn, kp, bd, tu, la, gd, ct, lf, fl, f1, f2, ck); unfold comeM; rw [if_neg (by decide), if_neg (by decide), if_pos rfl]; exact e_t) d_M_come_26
  · skip
    refine lv_if_eq (tgt := 25) hx hb d_M_come_9 (by decide) (fun _ => ?_) (fun c9 => absurd (by decide) c9)
    refine lv_iconst (v := (-1)) hx hb d_M_come_25 (by decide +kernel) ?_
    exact ft_reti (cm, mn, kp, bd, tu, la, gd, ct, lf, fl, f1, f2, ck) hx hb hr hlocks hP hK hD hS (by show _ = comeM lim way b (cm, mn, kp, bd, tu, la, gd, ct, lf, fl, f1, f2, ck); unfold comeM; rw [if_neg n0, if_neg n1, if_neg n2]) d_M_come_26

set_option maxHeartbeats 4000000 in
set_option maxRecDepth 100000 in
theorem c_M_all (l : Launch) (D : va_G) (cI : ClassId) (cB : ClassId) (o mt mo mf mc mm mk mb mu ml mg mx : Nat) (th lim lf fl f1 f2 ck : Int32) (nT nO nF : Nat) (cm mn : Nat → Nat) (kp bd tu la gd ct fO : Nat → Int32) (hC : ∀ w, w < 3 → cm w < 536870912) (hM : ∀ w, w < 3 → mn w < 536870912) (hB : ∀ w, w < 3 → (tu w = 0 ∨ tu w = 1)) (hL : lim ≤ 400) (hO : nO ≤ 2000) (way : Int32) (sz : Nat) : ft_Mi l y_M_all (.code y_M_all b_M_all 4 (some .int) :: ft_big) ({ frames := 3, cells := 0, slots := 0, locals := 110 }) D [(cI, .int), (cB, .boolean)] sz [.ref o, .int way] [(o, .inr (5, [.int th, .ref mt, .int (nI nT), .int lim, .ref mo, .int (nI nO), .ref mf, .int (nI nF), .ref mc, .ref mm, .ref mk, .ref mb, .int lf, .int fl, .ref mu, .int f1, .int f2, .int ck, .ref ml, .ref mg, .ref mx])), (mc, .inl (cI, 3, .inl (fun j => nI (cm j)))), (mm, .inl (cI, 3, .inl (fun j => nI (mn j)))), (mk, .inl (cI, 1200, .inl kp)), (mb, .inl (cB, 3, .inl bd)), (mu, .inl (cB, 3, .inl tu)), (ml, .inl (cI, 3, .inl la)), (mg, .inl (cI, 1200, .inl gd)), (mx, .inl (cI, 12, .inl ct)), (mo, .inl (cI, 2000, .inl fO))] (fun (v : Int32) (u : Nat × MR) => (v, u) = drM nO nO fO lim way (cm, mn, kp, bd, tu, la, gd, ct, lf, fl, f1, f2, ck)) (fun u : Nat × MR => [(o, .inr (5, [.int 0, .ref mt, .int (nI nT), .int lim, .ref mo, .int (nI u.1), .ref mf, .int (nI nF), .ref mc, .ref mm, .ref mk, .ref mb, .int u.2.2.2.2.2.2.2.2.2.1, .int u.2.2.2.2.2.2.2.2.2.2.1, .ref mu, .int u.2.2.2.2.2.2.2.2.2.2.2.1, .int u.2.2.2.2.2.2.2.2.2.2.2.2.1, .int u.2.2.2.2.2.2.2.2.2.2.2.2.2, .ref ml, .ref mg, .ref mx])), (mc, .inl (cI, 3, .inl (fun j => nI (u.2.1 j)))), (mm, .inl (cI, 3, .inl (fun j => nI (u.2.2.1 j)))), (mk, .inl (cI, 1200, .inl u.2.2.2.1)), (mb, .inl (cB, 3, .inl u.2.2.2.2.1)), (mu, .inl (cB, 3, .inl u.2.2.2.2.2.1)), (ml, .inl (cI, 3, .inl u.2.2.2.2.2.2.1)), (mg, .inl (cI, 1200, .inl u.2.2.2.2.2.2.2.1)), (mx, .inl (cI, 12, .inl u.2.2.2.2.2.2.2.2.1)), (mo, .inl (cI, 2000, .inl fO))]) 0 0 := by
  refine ft_ei (cc := b_M_all) (maxL := 4) (ret := (some .int)) (by decide) rfl (Nat.le_of_ble_eq_true rfl) ?_
  intro p e s m below meth c A ls hx hb hr hml hts hown hlocks hmn hP hK hD hA hS hNW hl
  have ht : ∀ w ∈ ft_big, w.before _ s = true := fun w h => hts w (List.mem_cons_of_mem _ h)
  have hP : va_P D vwCl [(o, .inr (5, [.int th, .ref mt, .int (nI nT), .int lim, .ref mo, .int (nI nO), .ref mf, .int (nI nF), .ref mc, .ref mm, .ref mk, .ref mb, .int lf, .int fl, .ref mu, .int f1, .int f2, .int ck, .ref ml, .ref mg, .ref mx])), (mc, .inl (cI, 3, .inl (fun j => nI (cm j)))), (mm, .inl (cI, 3, .inl (fun j => nI (mn j)))), (mk, .inl (cI, 1200, .inl kp)), (mb, .inl (cB, 3, .inl bd)), (mu, .inl (cB, 3, .inl tu)), (ml, .inl (cI, 3, .inl la)), (mg, .inl (cI, 1200, .inl gd)), (mx, .inl (cI, 12, .inl ct)), (mo, .inl (cI, 2000, .inl fO))] s.heap := hP
  have hD : va_D A [(o, .inr (5, [.int th, .ref mt, .int (nI nT), .int lim, .ref mo, .int (nI nO), .ref mf, .int (nI nF), .ref mc, .ref mm, .ref mk, .ref mb, .int lf, .int fl, .ref mu, .int f1, .int f2, .int ck, .ref ml, .ref mg, .ref mx])), (mc, .inl (cI, 3, .inl (fun j => nI (cm j)))), (mm, .inl (cI, 3, .inl (fun j => nI (mn j)))), (mk, .inl (cI, 1200, .inl kp)), (mb, .inl (cB, 3, .inl bd)), (mu, .inl (cB, 3, .inl tu)), (ml, .inl (cI, 3, .inl la)), (mg, .inl (cI, 1200, .inl gd)), (mx, .inl (cI, 12, .inl ct)), (mo, .inl (cI, 2000, .inl fO))] := hD
  have hl : lv_has ls 4 [(0, .ref o), (1, .int way)] := hl
  refine lv_aload_n hx hb d_M_all_0 rfl (lv_at hl 0 rfl) ?_
  refine lv_iconst (v := 0) hx hb d_M_all_1 (by decide +kernel) ?_
  refine va_put (D := D) (ci := 5) (v := .int 0) (ty := .int) (C := R_M) (T := F_M) (N := 21) hx hb ht bi_M t_M t_M_ok n_M hown hK hP hD hS 0 rfl rfl 0 (by decide) (ht _ bw_407) (fun _ h9 => h9) rfl (by decide +kernel) rfl rfl (Nat.le_of_ble_eq_true rfl) d_M_all_2 (fun H locs hP hD hS => ?_)
  have hP : va_P D vwCl [(o, .inr (5, [.int 0, .ref mt, .int (nI nT), .int lim, .ref mo, .int (nI nO), .ref mf, .int (nI nF), .ref mc, .ref mm, .ref mk, .ref mb, .int lf, .int fl, .ref mu, .int f1, .int f2, .int ck, .ref ml, .ref mg, .ref mx])), (mc, .inl (cI, 3, .inl (fun j => nI (cm j)))), (mm, .inl (cI, 3, .inl (fun j => nI (mn j)))), (mk, .inl (cI, 1200, .inl kp)), (mb, .inl (cB, 3, .inl bd)), (mu, .inl (cB, 3, .inl tu)), (ml, .inl (cI, 3, .inl la)), (mg, .inl (cI, 1200, .inl gd)), (mx, .inl (cI, 12, .inl ct)), (mo, .inl (cI, 2000, .inl fO))] H := hP
  have hD : va_D A [(o, .inr (5, [.int 0, .ref mt, .int (nI nT), .int lim, .ref mo, .int (nI nO), .ref mf, .int (nI nF), .ref mc, .ref mm, .ref mk, .ref mb, .int lf, .int fl, .ref mu, .int f1, .int f2, .int ck, .ref ml, .ref mg, .ref mx])), (mc, .inl (cI, 3, .inl (fun j => nI (cm j)))), (mm, .inl (cI, 3, .inl (fun j => nI (mn j)))), (mk, .inl (cI, 1200, .inl kp)), (mb, .inl (cB, 3, .inl bd)), (mu, .inl (cB, 3, .inl tu)), (ml, .inl (cI, 3, .inl la)), (mg, .inl (cI, 1200, .inl gd)), (mx, .inl (cI, 12, .inl ct)), (mo, .inl (cI, 2000, .inl fO))] := hD
  refine lv_iload_n hx hb d_M_all_5 rfl (lv_at hl 1 rfl) ?_
  refine ft_ci (wc := []) (wr := [(o, .inr (5, [.int 0, .ref mt, .int (nI nT), .int lim, .ref mo, .int (nI nO), .ref mf, .int (nI nF), .ref mc, .ref mm, .ref mk, .ref mb, .int lf, .int fl, .ref mu, .int f1, .int f2, .int ck, .ref ml, .ref mg, .ref mx])), (mc, .inl (cI, 3, .inl (fun j => nI (cm j)))), (mm, .inl (cI, 3, .inl (fun j => nI (mn j)))), (mk, .inl (cI, 1200, .inl kp)), (mb, .inl (cB, 3, .inl bd)), (mu, .inl (cB, 3, .inl tu)), (ml, .inl (cI, 3, .inl la)), (mg, .inl (cI, 1200, .inl gd)), (mx, .inl (cI, 12, .inl ct)), (mo, .inl (cI, 2000, .inl fO))]) (va_runS (As := [.int way]) (rest := []) ⟨hx, hb, hml, hown, ht⟩ (c_M_isWay l D cI cB way H.size) (ft_cwS 1 ht bw_492 bw_493 bw_39 bw_494 (by decide) ⟨Nat.le_of_ble_eq_true rfl, Nat.le_of_ble_eq_true rfl⟩) ⟨ft_blind, (ft_pre hP hD hK hNW [] [0, 1] rfl rfl (by decide) rfl _)⟩ rfl rfl hl.1 rfl (lv_room (Nat.le_of_ble_eq_true rfl)) d_M_all_6 ⟨Nat.le_of_ble_eq_true rfl, Nat.le_of_ble_eq_true rfl⟩) hP hD hS hA [] [0, 1, 2, 3, 4, 5, 6, 7, 8, 9] rfl rfl (by decide) (by decide) (fun r_1 u_2 H locs hu_2 hP hD hS => ?_)
  have hP : va_P D vwCl [(o, .inr (5, [.int 0, .ref mt, .int (nI nT), .int lim, .ref mo, .int (nI nO), .ref mf, .int (nI nF), .ref mc, .ref mm, .ref mk, .ref mb, .int lf, .int fl, .ref mu, .int f1, .int f2, .int ck, .ref ml, .ref mg, .ref mx])), (mc, .inl (cI, 3, .inl (fun j => nI (cm j)))), (mm, .inl (cI, 3, .inl (fun j => nI (mn j)))), (mk, .inl (cI, 1200, .inl kp)), (mb, .inl (cB, 3, .inl bd)), (mu, .inl (cB, 3, .inl tu)), (ml, .inl (cI, 3, .inl la)), (mg, .inl (cI, 1200, .inl gd)), (mx, .inl (cI, 12, .inl ct)), (mo, .inl (cI, 2000, .inl fO))] H := hP
  have hD : va_D A [(o, .inr (5, [.int 0, .ref mt, .int (nI nT), .int lim, .ref mo, .int (nI nO), .ref mf, .int (nI nF), .ref mc, .ref mm, .ref mk, .ref mb, .int lf, .int fl, .ref mu, .int f1, .int f2, .int ck, .ref ml, .ref mg, .ref mx])), (mc, .inl (cI, 3, .inl (fun j => nI (cm j)))), (mm, .inl (cI, 3, .inl (fun j => nI (mn j)))), (mk, .inl (cI, 1200, .inl kp)), (mb, .inl (cB, 3, .inl bd)), (mu, .inl (cB, 3, .inl tu)), (ml, .inl (cI, 3, .inl la)), (mg, .inl (cI, 1200, .inl gd)), (mx, .inl (cI, 12, .inl ct)), (mo, .inl (cI, 2000, .inl fO))] := hD
  rcases hu_2 with ⟨rfl, rfl | rfl | rfl⟩ | ⟨rfl, n0, n1, n2⟩
  · skip
    have hl : lv_has ls 4 [(0, .ref o), (1, .int (nI 0))] := hl
    have hP : va_P D vwCl [(o, .inr (5, [.int 0, .ref mt, .int (nI nT), .int lim, .ref mo, .int (nI nO), .ref mf, .int (nI nF), .ref mc, .ref mm, .ref mk, .ref mb, .int lf, .int fl, .ref mu, .int f1, .int f2, .int ck, .ref ml, .ref mg, .ref mx])), (mc, .inl (cI, 3, .inl (fun j => nI (cm j)))), (mm, .inl (cI, 3, .inl (fun j => nI (mn j)))), (mk, .inl (cI, 1200, .inl kp)), (mb, .inl (cB, 3, .inl bd)), (mu, .inl (cB, 3, .inl tu)), (ml, .inl (cI, 3, .inl la)), (mg, .inl (cI, 1200, .inl gd)), (mx, .inl (cI, 12, .inl ct)), (mo, .inl (cI, 2000, .inl fO))] H := hP
    have hD : va_D A [(o, .inr (5, [.int 0, .ref mt, .int (nI nT), .int lim, .ref mo, .int (nI nO), .ref mf, .int (nI nF), .ref mc, .ref mm, .ref mk, .ref mb, .int lf, .int fl, .ref mu, .int f1, .int f2, .int ck, .ref ml, .ref mg, .ref mx])), (mc, .inl (cI, 3, .inl (fun j => nI (cm j)))), (mm, .inl (cI, 3, .inl (fun j => nI (mn j)))), (mk, .inl (cI, 1200, .inl kp)), (mb, .inl (cB, 3, .inl bd)), (mu, .inl (cB, 3, .inl tu)), (ml, .inl (cI, 3, .inl la)), (mg, .inl (cI, 1200, .inl gd)), (mx, .inl (cI, 12, .inl ct)), (mo, .inl (cI, 2000, .inl fO))] := hD
    refine lv_if_ne (tgt := 14) hx hb d_M_all_9 (by decide) (fun _ => ?_) (fun c9 => absurd c9 (by decide))
    refine lv_iconst (v := 0) hx hb d_M_all_14 (by decide +kernel) ?_
    refine lv_istore_n (lv' := [(2, .int 0), (0, .ref o), (1, .int (nI 0))]) hx hb d_M_all_15 rfl hl (by decide) rfl (fun ls hl => ?_)
    refine lv_iconst (v := nI 0) hx hb d_M_all_16 (by decide +kernel) ?_
    refine lv_istore_n (lv' := [(3, .int (nI 0)), (2, .int 0), (0, .ref o), (1, .int (nI 0))]) hx hb d_M_all_17 rfl hl (by decide) rfl (fun ls hl => ?_)
    obtain ⟨G0, hG0⟩ : ∃ G0, G0 = drM nO nO fO lim 0 (cm, mn, kp, bd, tu, la, gd, ct, lf, fl, f1, f2, ck) := ⟨_, rfl⟩
    rw [← hG0]
    have lp : ∀ (q : Nat) (k : Nat) (good : Int32) (cm : Nat → Nat) (mn : Nat → Nat) (kp : Nat → Int32) (bd : Nat → Int32) (tu : Nat → Int32) (la : Nat → Int32) (gd : Nat → Int32) (ct : Nat → Int32) (lf : Int32) (fl : Int32) (f1 : Int32) (f2 : Int32) (ck : Int32) (H : Heap) (locs : List Loc) (ls : Array Slot), k + q = nO → BN 0 (536870912 + k) (cm, mn, kp, bd, tu, la, gd, ct, lf, fl, f1, f2, ck) → va_P D vwCl [(o, .inr (5, [.int 0, .ref mt, .int (nI nT), .int lim, .ref mo, .int (nI nO), .ref mf, .int (nI nF), .ref mc, .ref mm, .ref mk, .ref mb, .int lf, .int fl, .ref mu, .int f1, .int f2, .int ck, .ref ml, .ref mg, .ref mx])), (mc, .inl (cI, 3, .inl (fun j => nI (cm j)))), (mm, .inl (cI, 3, .inl (fun j => nI (mn j)))), (mk, .inl (cI, 1200, .inl kp)), (mb, .inl (cB, 3, .inl bd)), (mu, .inl (cB, 3, .inl tu)), (ml, .inl (cI, 3, .inl la)), (mg, .inl (cI, 1200, .inl gd)), (mx, .inl (cI, 12, .inl ct)), (mo, .inl (cI, 2000, .inl fO))] H → va_D A [(o, .inr (5, [.int 0, .ref mt, .int (nI nT), .int lim, .ref mo, .int (nI nO), .ref mf, .int (nI nF), .ref mc, .ref mm, .ref mk, .ref mb, .int lf, .int fl, .ref mu, .int f1, .int f2, .int ck, .ref ml, .ref mg, .ref mx])), (mc, .inl (cI, 3, .inl (fun j => nI (cm j)))), (mm, .inl (cI, 3, .inl (fun j => nI (mn j)))), (mk, .inl (cI, 1200, .inl kp)), (mb, .inl (cB, 3, .inl bd)), (mu, .inl (cB, 3, .inl tu)), (ml, .inl (cI, 3, .inl la)), (mg, .inl (cI, 1200, .inl gd)), (mx, .inl (cI, 12, .inl ct)), (mo, .inl (cI, 2000, .inl fO))] → va_S A s.heap H locs → lv_has ls 4 [(3, .int (nI k)), (2, .int good), (0, .ref o), (1, .int (nI 0))] → ((drn (takeM0 lim) fO q k good (cm, mn, kp, bd, tu, la, gd, ct, lf, fl, f1, f2, ck)).1, 0, (drn (takeM0 lim) fO q k good (cm, mn, kp, bd, tu, la, gd, ct, lf, fl, f1, f2, ck)).2) = G0 → W p l e ({ frames := 3, cells := 0, slots := 0, locals := 110 } : Room) s m ([.ref o, .int 0] : List Value).toArray below meth c H locs 0 0 (MQ below (va_Qi (fun (v : Int32) (u : Nat × MR) => (v, u) = G0) (ft_B D vwCl [(cI, .int), (cB, .boolean)] A (fun u : Nat × MR => [(o, .inr (5, [.int 0, .ref mt, .int (nI nT), .int lim, .ref mo, .int (nI u.1), .ref mf, .int (nI nF), .ref mc, .ref mm, .ref mk, .ref mb, .int u.2.2.2.2.2.2.2.2.2.1, .int u.2.2.2.2.2.2.2.2.2.2.1, .ref mu, .int u.2.2.2.2.2.2.2.2.2.2.2.1, .int u.2.2.2.2.2.2.2.2.2.2.2.2.1, .int u.2.2.2.2.2.2.2.2.2.2.2.2.2, .ref ml, .ref mg, .ref mx])), (mc, .inl (cI, 3, .inl (fun j => nI (u.2.1 j)))), (mm, .inl (cI, 3, .inl (fun j => nI (u.2.2.1 j)))), (mk, .inl (cI, 1200, .inl u.2.2.2.1)), (mb, .inl (cB, 3, .inl u.2.2.2.2.1)), (mu, .inl (cB, 3, .inl u.2.2.2.2.2.1)), (ml, .inl (cI, 3, .inl u.2.2.2.2.2.2.1)), (mg, .inl (cI, 1200, .inl u.2.2.2.2.2.2.2.1)), (mx, .inl (cI, 12, .inl u.2.2.2.2.2.2.2.2.1)), (mo, .inl (cI, 2000, .inl fO))])) A) ([.ref o, .int 0] : List Value).toArray s 0 0 A) (F0 m 18 ls []) := by
      intro q
      induction q with
      | zero =>
        intro k good cm mn kp bd tu la gd ct lf fl f1 f2 ck H locs ls hk hbn hP hD hS hl heq
        refine lv_iload_n hx hb d_M_all_18 rfl (lv_at hl 0 rfl) ?_
        refine lv_aload_n hx hb d_M_all_19 rfl (lv_at hl 2 rfl) ?_
        refine va_get (D := D) (ci := 5) (v := .int (nI nO)) (C := R_M) (T := F_M) (N := 21) hx hb ht bi_M hown hK hP 0 rfl rfl 5 (by decide) (ht _ bw_412) (fun _ h9 => h9) rfl d_M_all_20 ?_
        refine lv_icmp_ge (tgt := 55) hx hb d_M_all_23 (by decide) (fun c23 => ?_) (fun c23 => absurd (nI_le (by omega) (by omega)) c23)
        have c23 : nO ≤ k := (nI_leI (by omega) (by omega)).mp c23
        refine lv_aload_n hx hb d_M_all_55 rfl (lv_at hl 2 rfl) ?_
        refine lv_iconst (v := nI 0) hx hb d_M_all_56 (by decide +kernel) ?_
        refine va_put (D := D) (ci := 5) (v := .int (nI 0)) (ty := .int) (C := R_M) (T := F_M) (N := 21) hx hb ht bi_M t_M t_M_ok n_M hown hK hP hD hS 0 rfl rfl 5 (by decide) (ht _ bw_412) (fun _ h9 => h9) rfl (by decide +kernel) rfl rfl (Nat.le_of_ble_eq_true rfl) d_M_all_57 (fun H locs hP hD hS => ?_)
        have hP : va_P D vwCl [(o, .inr (5, [.int 0, .ref mt, .int (nI nT), .int lim, .ref mo, .int (nI 0), .ref mf, .int (nI nF), .ref mc, .ref mm, .ref mk, .ref mb, .int lf, .int fl, .ref mu, .int f1, .int f2, .int ck, .ref ml, .ref mg, .ref mx])), (mc, .inl (cI, 3, .inl (fun j => nI (cm j)))), (mm, .inl (cI, 3, .inl (fun j => nI (mn j)))), (mk, .inl (cI, 1200, .inl kp)), (mb, .inl (cB, 3, .inl bd)), (mu, .inl (cB, 3, .inl tu)), (ml, .inl (cI, 3, .inl la)), (mg, .inl (cI, 1200, .inl gd)), (mx, .inl (cI, 12, .inl ct)), (mo, .inl (cI, 2000, .inl fO))] H := hP
        have hD : va_D A [(o, .inr (5, [.int 0, .ref mt, .int (nI nT), .int lim, .ref mo, .int (nI 0), .ref mf, .int (nI nF), .ref mc, .ref mm, .ref mk, .ref mb, .int lf, .int fl, .ref mu, .int f1, .int f2, .int ck, .ref ml, .ref mg, .ref mx])), (mc, .inl (cI, 3, .inl (fun j => nI (cm j)))), (mm, .inl (cI, 3, .inl (fun j => nI (mn j)))), (mk, .inl (cI, 1200, .inl kp)), (mb, .inl (cB, 3, .inl bd)), (mu, .inl (cB, 3, .inl tu)), (ml, .inl (cI, 3, .inl la)), (mg, .inl (cI, 1200, .inl gd)), (mx, .inl (cI, 12, .inl ct)), (mo, .inl (cI, 2000, .inl fO))] := hD
        refine lv_iload_n hx hb d_M_all_60 rfl (lv_at hl 1 rfl) ?_
        exact ft_reti (0, (cm, mn, kp, bd, tu, la, gd, ct, lf, fl, f1, f2, ck)) hx hb hr hlocks hP hK hD hS heq d_M_all_61
      | succ q ih_lp =>
        intro k good cm mn kp bd tu la gd ct lf fl f1 f2 ck H locs ls hk hbn hP hD hS hl heq
        refine lv_iload_n hx hb d_M_all_18 rfl (lv_at hl 0 rfl) ?_
        refine lv_aload_n hx hb d_M_all_19 rfl (lv_at hl 2 rfl) ?_
        refine va_get (D := D) (ci := 5) (v := .int (nI nO)) (C := R_M) (T := F_M) (N := 21) hx hb ht bi_M hown hK hP 0 rfl rfl 5 (by decide) (ht _ bw_412) (fun _ h9 => h9) rfl d_M_all_20 ?_
        refine lv_icmp_ge (tgt := 55) hx hb d_M_all_23 (by decide) (fun c23 => absurd c23 (nI_ge (by omega) (by omega))) (fun c23 => ?_)
        have c23 : ¬ nO ≤ k := fun h => c23 ((nI_leI (by omega) (by omega)).mpr h)
        refine lv_iload_n hx hb d_M_all_26 rfl (lv_at hl 1 rfl) ?_
        refine lv_aload_n hx hb d_M_all_27 rfl (lv_at hl 2 rfl) ?_
        refine lv_iload_n hx hb d_M_all_28 rfl (lv_at hl 3 rfl) ?_
        refine lv_aload_n hx hb d_M_all_29 rfl (lv_at hl 2 rfl) ?_
        refine va_get (D := D) (ci := 5) (v := .ref mo) (C := R_M) (T := F_M) (N := 21) hx hb ht bi_M hown hK hP 0 rfl rfl 4 (by decide) (ht _ bw_411) (fun _ h9 => h9) rfl d_M_all_30 ?_
        refine lv_iload_n hx hb d_M_all_33 rfl (lv_at hl 0 rfl) ?_
        refine va_iald hx hb hK hP 9 0 rfl rfl (vp_in_nI (by omega) (by omega)) d_M_all_34 ?_
        refine ft_top (congrArg fO (nI_clamp (n := k) (by omega))) ?_
        refine ft_ci (wc := [(o, .inr (5, [.int 0, .ref mt, .int (nI nT), .int lim, .ref mo, .int (nI nO), .ref mf, .int (nI nF), .ref mc, .ref mm, .ref mk, .ref mb, .int lf, .int fl, .ref mu, .int f1, .int f2, .int ck, .ref ml, .ref mg, .ref mx])), (mc, .inl (cI, 3, .inl (fun j => nI (cm j)))), (mm, .inl (cI, 3, .inl (fun j => nI (mn j)))), (mk, .inl (cI, 1200, .inl kp)), (mb, .inl (cB, 3, .inl bd)), (mu, .inl (cB, 3, .inl tu)), (ml, .inl (cI, 3, .inl la)), (mg, .inl (cI, 1200, .inl gd)), (mx, .inl (cI, 12, .inl ct))]) (wr := [(mo, .inl (cI, 2000, .inl fO))]) (va_runV (As := [.int (nI 0), .int (fO k)]) (rest := [.int good]) ⟨hx, hb, hml, hown, ht⟩ (c_M_take_0 l D cI cB o mt mo mf mc mm mk mb mu ml mg mx 0 lim lf fl f1 f2 ck nT nO nF cm mn kp bd tu la gd ct (Nat.lt_of_le_of_lt hbn.1 (by omega)) (Nat.lt_of_le_of_lt hbn.2.1 (by omega)) hbn.2.2 hL (fO k) H.size) (ft_cwV 2 ht bw_532 bw_534 bw_23 bw_39 bw_535 (by decide) ⟨Nat.le_of_ble_eq_true rfl, Nat.le_of_ble_eq_true rfl⟩) ⟨ft_blind, va_recv hK hP (ci := 5) (q0 := 0) rfl rfl, (ft_pre hP hD hK hNW [0, 1, 2, 3, 4, 5, 6, 7, 8] [0, 1] rfl rfl (by decide) rfl _)⟩ rfl rfl hl.1 rfl (lv_room (Nat.le_of_ble_eq_true rfl)) d_M_all_35 ⟨Nat.le_of_ble_eq_true rfl, Nat.le_of_ble_eq_true rfl⟩) hP hD hS hA [0, 1, 2, 3, 4, 5, 6, 7, 8] [9] rfl rfl (by decide) (by decide) (fun r_3 u_4 H locs hu_4 hP hD hS => ?_)
        obtain ⟨cm1, mn1, kp1, bd1, tu1, la1, gd1, ct1, lf1, fl1, f11, f21, ck1⟩ := u_4
        have e_t : (r_3, cm1, mn1, kp1, bd1, tu1, la1, gd1, ct1, lf1, fl1, f11, f21, ck1) = takeM0 lim (fO k) (cm, mn, kp, bd, tu, la, gd, ct, lf, fl, f1, f2, ck) := hu_4
        have hP : va_P D vwCl [(mo, .inl (cI, 2000, .inl fO)), (o, .inr (5, [.int 0, .ref mt, .int (nI nT), .int lim, .ref mo, .int (nI nO), .ref mf, .int (nI nF), .ref mc, .ref mm, .ref mk, .ref mb, .int lf1, .int fl1, .ref mu, .int f11, .int f21, .int ck1, .ref ml, .ref mg, .ref mx])), (mc, .inl (cI, 3, .inl (fun j => nI (cm1 j)))), (mm, .inl (cI, 3, .inl (fun j => nI (mn1 j)))), (mk, .inl (cI, 1200, .inl kp1)), (mb, .inl (cB, 3, .inl bd1)), (mu, .inl (cB, 3, .inl tu1)), (ml, .inl (cI, 3, .inl la1)), (mg, .inl (cI, 1200, .inl gd1)), (mx, .inl (cI, 12, .inl ct1))] H := hP
        have hD : va_D A [(mo, .inl (cI, 2000, .inl fO)), (o, .inr (5, [.int 0, .ref mt, .int (nI nT), .int lim, .ref mo, .int (nI nO), .ref mf, .int (nI nF), .ref mc, .ref mm, .ref mk, .ref mb, .int lf1, .int fl1, .ref mu, .int f11, .int f21, .int ck1, .ref ml, .ref mg, .ref mx])), (mc, .inl (cI, 3, .inl (fun j => nI (cm1 j)))), (mm, .inl (cI, 3, .inl (fun j => nI (mn1 j)))), (mk, .inl (cI, 1200, .inl kp1)), (mb, .inl (cB, 3, .inl bd1)), (mu, .inl (cB, 3, .inl tu1)), (ml, .inl (cI, 3, .inl la1)), (mg, .inl (cI, 1200, .inl gd1)), (mx, .inl (cI, 12, .inl ct1))] := hD
        refine lv_iconst (v := 1) hx hb d_M_all_38 (by decide +kernel) ?_
        refine lv_icmp_ne (tgt := 46) hx hb d_M_all_39 (by decide) (fun c39 => ?_) (fun c39 => ?_)
        · skip
          refine lv_iconst (v := 0) hx hb d_M_all_46 (by decide +kernel) ?_
          refine lv_iadd hx hb d_M_all_47 ?_
          refine lv_istore_n (lv' := [(2, .int (good + 0)), (3, .int (nI k)), (0, .ref o), (1, .int (nI 0))]) hx hb d_M_all_48 rfl hl (by decide) rfl (fun ls hl => ?_)
          refine lv_iinc (v := nI (k + 1)) (lv' := [(3, .int (nI (k + 1))), (2, .int (good + 0)), (0, .ref o), (1, .int (nI 0))]) hx hb d_M_all_49 hl (k := 1) rfl (nI_1 k) (by decide) rfl (fun ls hl => ?_)
          refine lv_goto (tgt := 18) hx hb d_M_all_52 (by decide) ?_
          exact ih_lp (k + 1) (good + 0) cm1 mn1 kp1 bd1 tu1 la1 gd1 ct1 lf1 fl1 f11 f21 ck1 H locs ls (by omega) (by have q := takeM0_bn (lim := lim) (b := fO k) hbn; rw [← e_t] at q; exact q) (hP.sub [1, 2, 3, 4, 5, 6, 7, 8, 9, 0] rfl) (hD.sub [1, 2, 3, 4, 5, 6, 7, 8, 9, 0] (by decide) rfl) hS (lv_sub hl [0, 1, 2, 3] rfl) (by rw [← heq]; show _ = ((drn (takeM0 lim) fO q (k + 1) (if (takeM0 lim (fO k) (cm, mn, kp, bd, tu, la, gd, ct, lf, fl, f1, f2, ck)).1 = 1 then good + 1 else good) (takeM0 lim (fO k) (cm, mn, kp, bd, tu, la, gd, ct, lf, fl, f1, f2, ck)).2).1, 0, (drn (takeM0 lim) fO q (k + 1) (if (takeM0 lim (fO k) (cm, mn, kp, bd, tu, la, gd, ct, lf, fl, f1, f2, ck)).1 = 1 then good + 1 else good) (takeM0 lim (fO k) (cm, mn, kp, bd, tu, la, gd, ct, lf, fl, f1, f2, ck)).2).2); rw [← e_t]; simp [c39, Int32.add_zero])
        · skip
          refine lv_iconst (v := 1) hx hb d_M_all_42 (by decide +kernel) ?_
          refine lv_goto (tgt := 47) hx hb d_M_all_43 (by decide) ?_
          refine lv_iadd hx hb d_M_all_47 ?_
          refine lv_istore_n (lv' := [(2, .int (good + 1)), (3, .int (nI k)), (0, .ref o), (1, .int (nI 0))]) hx hb d_M_all_48 rfl hl (by decide) rfl (fun ls hl => ?_)
          refine lv_iinc (v := nI (k + 1)) (lv' := [(3, .int (nI (k + 1))), (2, .int (good + 1)), (0, .ref o), (1, .int (nI 0))]) hx hb d_M_all_49 hl (k := 1) rfl (nI_1 k) (by decide) rfl (fun ls hl => ?_)
          refine lv_goto (tgt := 18) hx hb d_M_all_52 (by decide) ?_
          exact ih_lp (k + 1) (good + 1) cm1 mn1 kp1 bd1 tu1 la1 gd1 ct1 lf1 fl1 f11 f21 ck1 H locs ls (by omega) (by have q := takeM0_bn (lim := lim) (b := fO k) hbn; rw [← e_t] at q; exact q) (hP.sub [1, 2, 3, 4, 5, 6, 7, 8, 9, 0] rfl) (hD.sub [1, 2, 3, 4, 5, 6, 7, 8, 9, 0] (by decide) rfl) hS (lv_sub hl [0, 1, 2, 3] rfl) (by rw [← heq]; show _ = ((drn (takeM0 lim) fO q (k + 1) (if (takeM0 lim (fO k) (cm, mn, kp, bd, tu, la, gd, ct, lf, fl, f1, f2, ck)).1 = 1 then good + 1 else good) (takeM0 lim (fO k) (cm, mn, kp, bd, tu, la, gd, ct, lf, fl, f1, f2, ck)).2).1, 0, (drn (takeM0 lim) fO q (k + 1) (if (takeM0 lim (fO k) (cm, mn, kp, bd, tu, la, gd, ct, lf, fl, f1, f2, ck)).1 = 1 then good + 1 else good) (takeM0 lim (fO k) (cm, mn, kp, bd, tu, la, gd, ct, lf, fl, f1, f2, ck)).2).2); rw [← e_t]; simp [c39, Int32.add_zero])
    exact lp nO 0 0 cm mn kp bd tu la gd ct lf fl f1 f2 ck H locs ls (by omega) ⟨Nat.le_of_lt (hC 0 (by omega)), Nat.le_of_lt (hM 0 (by omega)), hB 0 (by omega)⟩ (hP.sub [0, 1, 2, 3, 4, 5, 6, 7, 8, 9] rfl) (hD.sub [0, 1, 2, 3, 4, 5, 6, 7, 8, 9] (by decide) rfl) hS (lv_sub hl [0, 1, 2, 3] rfl) (by rw [hG0]; unfold drM; rw [if_pos rfl])
  · skip
    have hl : lv_has ls 4 [(0, .ref o), (1, .int (nI 1))] := hl
    have hP : va_P D vwCl [(o, .inr (5, [.int 0, .ref mt, .int (nI nT), .int lim, .ref mo, .int (nI nO), .ref mf, .int (nI nF), .ref mc, .ref mm, .ref mk, .ref mb, .int lf, .int fl, .ref mu, .int f1, .int f2, .int ck, .ref ml, .ref mg, .ref mx])), (mc, .inl (cI, 3, .inl (fun j => nI (cm j)))), (mm, .inl (cI, 3, .inl (fun j => nI (mn j)))), (mk, .inl (cI, 1200, .inl kp)), (mb, .inl (cB, 3, .inl bd)), (mu, .inl (cB, 3, .inl tu)), (ml, .inl (cI, 3, .inl la)), (mg, .inl (cI, 1200, .inl gd)), (mx, .inl (cI, 12, .inl ct)), (mo, .inl (cI, 2000, .inl fO))] H := hP
    have hD : va_D A [(o, .inr (5, [.int 0, .ref mt, .int (nI nT), .int lim, .ref mo, .int (nI nO), .ref mf, .int (nI nF), .ref mc, .ref mm, .ref mk, .ref mb, .int lf, .int fl, .ref mu, .int f1, .int f2, .int ck, .ref ml, .ref mg, .ref mx])), (mc, .inl (cI, 3, .inl (fun j => nI (cm j)))), (mm, .inl (cI, 3, .inl (fun j => nI (mn j)))), (mk, .inl (cI, 1200, .inl kp)), (mb, .inl (cB, 3, .inl bd)), (mu, .inl (cB, 3, .inl tu)), (ml, .inl (cI, 3, .inl la)), (mg, .inl (cI, 1200, .inl gd)), (mx, .inl (cI, 12, .inl ct)), (mo, .inl (cI, 2000, .inl fO))] := hD
    refine lv_if_ne (tgt := 14) hx hb d_M_all_9 (by decide) (fun _ => ?_) (fun c9 => absurd c9 (by decide))
    refine lv_iconst (v := 0) hx hb d_M_all_14 (by decide +kernel) ?_
    refine lv_istore_n (lv' := [(2, .int 0), (0, .ref o), (1, .int (nI 1))]) hx hb d_M_all_15 rfl hl (by decide) rfl (fun ls hl => ?_)
    refine lv_iconst (v := nI 0) hx hb d_M_all_16 (by decide +kernel) ?_
    refine lv_istore_n (lv' := [(3, .int (nI 0)), (2, .int 0), (0, .ref o), (1, .int (nI 1))]) hx hb d_M_all_17 rfl hl (by decide) rfl (fun ls hl => ?_)
    obtain ⟨G0, hG0⟩ : ∃ G0, G0 = drM nO nO fO lim 1 (cm, mn, kp, bd, tu, la, gd, ct, lf, fl, f1, f2, ck) := ⟨_, rfl⟩
    rw [← hG0]
    have lp : ∀ (q : Nat) (k : Nat) (good : Int32) (cm : Nat → Nat) (mn : Nat → Nat) (kp : Nat → Int32) (bd : Nat → Int32) (tu : Nat → Int32) (la : Nat → Int32) (gd : Nat → Int32) (ct : Nat → Int32) (lf : Int32) (fl : Int32) (f1 : Int32) (f2 : Int32) (ck : Int32) (H : Heap) (locs : List Loc) (ls : Array Slot), k + q = nO → BN 1 (536870912 + k) (cm, mn, kp, bd, tu, la, gd, ct, lf, fl, f1, f2, ck) → va_P D vwCl [(o, .inr (5, [.int 0, .ref mt, .int (nI nT), .int lim, .ref mo, .int (nI nO), .ref mf, .int (nI nF), .ref mc, .ref mm, .ref mk, .ref mb, .int lf, .int fl, .ref mu, .int f1, .int f2, .int ck, .ref ml, .ref mg, .ref mx])), (mc, .inl (cI, 3, .inl (fun j => nI (cm j)))), (mm, .inl (cI, 3, .inl (fun j => nI (mn j)))), (mk, .inl (cI, 1200, .inl kp)), (mb, .inl (cB, 3, .inl bd)), (mu, .inl (cB, 3, .inl tu)), (ml, .inl (cI, 3, .inl la)), (mg, .inl (cI, 1200, .inl gd)), (mx, .inl (cI, 12, .inl ct)), (mo, .inl (cI, 2000, .inl fO))] H → va_D A [(o, .inr (5, [.int 0, .ref mt, .int (nI nT), .int lim, .ref mo, .int (nI nO), .ref mf, .int (nI nF), .ref mc, .ref mm, .ref mk, .ref mb, .int lf, .int fl, .ref mu, .int f1, .int f2, .int ck, .ref ml, .ref mg, .ref mx])), (mc, .inl (cI, 3, .inl (fun j => nI (cm j)))), (mm, .inl (cI, 3, .inl (fun j => nI (mn j)))), (mk, .inl (cI, 1200, .inl kp)), (mb, .inl (cB, 3, .inl bd)), (mu, .inl (cB, 3, .inl tu)), (ml, .inl (cI, 3, .inl la)), (mg, .inl (cI, 1200, .inl gd)), (mx, .inl (cI, 12, .inl ct)), (mo, .inl (cI, 2000, .inl fO))] → va_S A s.heap H locs → lv_has ls 4 [(3, .int (nI k)), (2, .int good), (0, .ref o), (1, .int (nI 1))] → ((drn (takeM1 lim) fO q k good (cm, mn, kp, bd, tu, la, gd, ct, lf, fl, f1, f2, ck)).1, 0, (drn (takeM1 lim) fO q k good (cm, mn, kp, bd, tu, la, gd, ct, lf, fl, f1, f2, ck)).2) = G0 → W p l e ({ frames := 3, cells := 0, slots := 0, locals := 110 } : Room) s m ([.ref o, .int 1] : List Value).toArray below meth c H locs 0 0 (MQ below (va_Qi (fun (v : Int32) (u : Nat × MR) => (v, u) = G0) (ft_B D vwCl [(cI, .int), (cB, .boolean)] A (fun u : Nat × MR => [(o, .inr (5, [.int 0, .ref mt, .int (nI nT), .int lim, .ref mo, .int (nI u.1), .ref mf, .int (nI nF), .ref mc, .ref mm, .ref mk, .ref mb, .int u.2.2.2.2.2.2.2.2.2.1, .int u.2.2.2.2.2.2.2.2.2.2.1, .ref mu, .int u.2.2.2.2.2.2.2.2.2.2.2.1, .int u.2.2.2.2.2.2.2.2.2.2.2.2.1, .int u.2.2.2.2.2.2.2.2.2.2.2.2.2, .ref ml, .ref mg, .ref mx])), (mc, .inl (cI, 3, .inl (fun j => nI (u.2.1 j)))), (mm, .inl (cI, 3, .inl (fun j => nI (u.2.2.1 j)))), (mk, .inl (cI, 1200, .inl u.2.2.2.1)), (mb, .inl (cB, 3, .inl u.2.2.2.2.1)), (mu, .inl (cB, 3, .inl u.2.2.2.2.2.1)), (ml, .inl (cI, 3, .inl u.2.2.2.2.2.2.1)), (mg, .inl (cI, 1200, .inl u.2.2.2.2.2.2.2.1)), (mx, .inl (cI, 12, .inl u.2.2.2.2.2.2.2.2.1)), (mo, .inl (cI, 2000, .inl fO))])) A) ([.ref o, .int 1] : List Value).toArray s 0 0 A) (F0 m 18 ls []) := by
      intro q
      induction q with
      | zero =>
        intro k good cm mn kp bd tu la gd ct lf fl f1 f2 ck H locs ls hk hbn hP hD hS hl heq
        refine lv_iload_n hx hb d_M_all_18 rfl (lv_at hl 0 rfl) ?_
        refine lv_aload_n hx hb d_M_all_19 rfl (lv_at hl 2 rfl) ?_
        refine va_get (D := D) (ci := 5) (v := .int (nI nO)) (C := R_M) (T := F_M) (N := 21) hx hb ht bi_M hown hK hP 0 rfl rfl 5 (by decide) (ht _ bw_412) (fun _ h9 => h9) rfl d_M_all_20 ?_
        refine lv_icmp_ge (tgt := 55) hx hb d_M_all_23 (by decide) (fun c23 => ?_) (fun c23 => absurd (nI_le (by omega) (by omega)) c23)
        have c23 : nO ≤ k := (nI_leI (by omega) (by omega)).mp c23
        refine lv_aload_n hx hb d_M_all_55 rfl (lv_at hl 2 rfl) ?_
        refine lv_iconst (v := nI 0) hx hb d_M_all_56 (by decide +kernel) ?_
        refine va_put (D := D) (ci := 5) (v := .int (nI 0)) (ty := .int) (C := R_M) (T := F_M) (N := 21) hx hb ht bi_M t_M t_M_ok n_M hown hK hP hD hS 0 rfl rfl 5 (by decide) (ht _ bw_412) (fun _ h9 => h9) rfl (by decide +kernel) rfl rfl (Nat.le_of_ble_eq_true rfl) d_M_all_57 (fun H locs hP hD hS => ?_)
        have hP : va_P D vwCl [(o, .inr (5, [.int 0, .ref mt, .int (nI nT), .int lim, .ref mo, .int (nI 0), .ref mf, .int (nI nF), .ref mc, .ref mm, .ref mk, .ref mb, .int lf, .int fl, .ref mu, .int f1, .int f2, .int ck, .ref ml, .ref mg, .ref mx])), (mc, .inl (cI, 3, .inl (fun j => nI (cm j)))), (mm, .inl (cI, 3, .inl (fun j => nI (mn j)))), (mk, .inl (cI, 1200, .inl kp)), (mb, .inl (cB, 3, .inl bd)), (mu, .inl (cB, 3, .inl tu)), (ml, .inl (cI, 3, .inl la)), (mg, .inl (cI, 1200, .inl gd)), (mx, .inl (cI, 12, .inl ct)), (mo, .inl (cI, 2000, .inl fO))] H := hP
        have hD : va_D A [(o, .inr (5, [.int 0, .ref mt, .int (nI nT), .int lim, .ref mo, .int (nI 0), .ref mf, .int (nI nF), .ref mc, .ref mm, .ref mk, .ref mb, .int lf, .int fl, .ref mu, .int f1, .int f2, .int ck, .ref ml, .ref mg, .ref mx])), (mc, .inl (cI, 3, .inl (fun j => nI (cm j)))), (mm, .inl (cI, 3, .inl (fun j => nI (mn j)))), (mk, .inl (cI, 1200, .inl kp)), (mb, .inl (cB, 3, .inl bd)), (mu, .inl (cB, 3, .inl tu)), (ml, .inl (cI, 3, .inl la)), (mg, .inl (cI, 1200, .inl gd)), (mx, .inl (cI, 12, .inl ct)), (mo, .inl (cI, 2000, .inl fO))] := hD
        refine lv_iload_n hx hb d_M_all_60 rfl (lv_at hl 1 rfl) ?_
        exact ft_reti (0, (cm, mn, kp, bd, tu, la, gd, ct, lf, fl, f1, f2, ck)) hx hb hr hlocks hP hK hD hS heq d_M_all_61
      | succ q ih_lp =>
        intro k good cm mn kp bd tu la gd ct lf fl f1 f2 ck H locs ls hk hbn hP hD hS hl heq
        refine lv_iload_n hx hb d_M_all_18 rfl (lv_at hl 0 rfl) ?_
        refine lv_aload_n hx hb d_M_all_19 rfl (lv_at hl 2 rfl) ?_
        refine va_get (D := D) (ci := 5) (v := .int (nI nO)) (C := R_M) (T := F_M) (N := 21) hx hb ht bi_M hown hK hP 0 rfl rfl 5 (by decide) (ht _ bw_412) (fun _ h9 => h9) rfl d_M_all_20 ?_
        refine lv_icmp_ge (tgt := 55) hx hb d_M_all_23 (by decide) (fun c23 => absurd c23 (nI_ge (by omega) (by omega))) (fun c23 => ?_)
        have c23 : ¬ nO ≤ k := fun h => c23 ((nI_leI (by omega) (by omega)).mpr h)
        refine lv_iload_n hx hb d_M_all_26 rfl (lv_at hl 1 rfl) ?_
        refine lv_aload_n hx hb d_M_all_27 rfl (lv_at hl 2 rfl) ?_
        refine lv_iload_n hx hb d_M_all_28 rfl (lv_at hl 3 rfl) ?_
        refine lv_aload_n hx hb d_M_all_29 rfl (lv_at hl 2 rfl) ?_
        refine va_get (D := D) (ci := 5) (v := .ref mo) (C := R_M) (T := F_M) (N := 21) hx hb ht bi_M hown hK hP 0 rfl rfl 4 (by decide) (ht _ bw_411) (fun _ h9 => h9) rfl d_M_all_30 ?_
        refine lv_iload_n hx hb d_M_all_33 rfl (lv_at hl 0 rfl) ?_
        refine va_iald hx hb hK hP 9 0 rfl rfl (vp_in_nI (by omega) (by omega)) d_M_all_34 ?_
        refine ft_top (congrArg fO (nI_clamp (n := k) (by omega))) ?_
        refine ft_ci (wc := [(o, .inr (5, [.int 0, .ref mt, .int (nI nT), .int lim, .ref mo, .int (nI nO), .ref mf, .int (nI nF), .ref mc, .ref mm, .ref mk, .ref mb, .int lf, .int fl, .ref mu, .int f1, .int f2, .int ck, .ref ml, .ref mg, .ref mx])), (mc, .inl (cI, 3, .inl (fun j => nI (cm j)))), (mm, .inl (cI, 3, .inl (fun j => nI (mn j)))), (mk, .inl (cI, 1200, .inl kp)), (mb, .inl (cB, 3, .inl bd)), (mu, .inl (cB, 3, .inl tu)), (ml, .inl (cI, 3, .inl la)), (mg, .inl (cI, 1200, .inl gd)), (mx, .inl (cI, 12, .inl ct))]) (wr := [(mo, .inl (cI, 2000, .inl fO))]) (va_runV (As := [.int (nI 1), .int (fO k)]) (rest := [.int good]) ⟨hx, hb, hml, hown, ht⟩ (c_M_take_1 l D cI cB o mt mo mf mc mm mk mb mu ml mg mx 0 lim lf fl f1 f2 ck nT nO nF cm mn kp bd tu la gd ct (Nat.lt_of_le_of_lt hbn.1 (by omega)) (Nat.lt_of_le_of_lt hbn.2.1 (by omega)) hbn.2.2 hL (fO k) H.size) (ft_cwV 2 ht bw_532 bw_534 bw_23 bw_39 bw_535 (by decide) ⟨Nat.le_of_ble_eq_true rfl, Nat.le_of_ble_eq_true rfl⟩) ⟨ft_blind, va_recv hK hP (ci := 5) (q0 := 0) rfl rfl, (ft_pre hP hD hK hNW [0, 1, 2, 3, 4, 5, 6, 7, 8] [0, 1] rfl rfl (by decide) rfl _)⟩ rfl rfl hl.1 rfl (lv_room (Nat.le_of_ble_eq_true rfl)) d_M_all_35 ⟨Nat.le_of_ble_eq_true rfl, Nat.le_of_ble_eq_true rfl⟩) hP hD hS hA [0, 1, 2, 3, 4, 5, 6, 7, 8] [9] rfl rfl (by decide) (by decide) (fun r_5 u_6 H locs hu_6 hP hD hS => ?_)
        obtain ⟨cm1, mn1, kp1, bd1, tu1, la1, gd1, ct1, lf1, fl1, f11, f21, ck1⟩ := u_6
        have e_t : (r_5, cm1, mn1, kp1, bd1, tu1, la1, gd1, ct1, lf1, fl1, f11, f21, ck1) = takeM1 lim (fO k) (cm, mn, kp, bd, tu, la, gd, ct, lf, fl, f1, f2, ck) := hu_6
        have hP : va_P D vwCl [(mo, .inl (cI, 2000, .inl fO)), (o, .inr (5, [.int 0, .ref mt, .int (nI nT), .int lim, .ref mo, .int (nI nO), .ref mf, .int (nI nF), .ref mc, .ref mm, .ref mk, .ref mb, .int lf1, .int fl1, .ref mu, .int f11, .int f21, .int ck1, .ref ml, .ref mg, .ref mx])), (mc, .inl (cI, 3, .inl (fun j => nI (cm1 j)))), (mm, .inl (cI, 3, .inl (fun j => nI (mn1 j)))), (mk, .inl (cI, 1200, .inl kp1)), (mb, .inl (cB, 3, .inl bd1)), (mu, .inl (cB, 3, .inl tu1)), (ml, .inl (cI, 3, .inl la1)), (mg, .inl (cI, 1200, .inl gd1)), (mx, .inl (cI, 12, .inl ct1))] H := hP
        have hD : va_D A [(mo, .inl (cI, 2000, .inl fO)), (o, .inr (5, [.int 0, .ref mt, .int (nI nT), .int lim, .ref mo, .int (nI nO), .ref mf, .int (nI nF), .ref mc, .ref mm, .ref mk, .ref mb, .int lf1, .int fl1, .ref mu, .int f11, .int f21, .int ck1, .ref ml, .ref mg, .ref mx])), (mc, .inl (cI, 3, .inl (fun j => nI (cm1 j)))), (mm, .inl (cI, 3, .inl (fun j => nI (mn1 j)))), (mk, .inl (cI, 1200, .inl kp1)), (mb, .inl (cB, 3, .inl bd1)), (mu, .inl (cB, 3, .inl tu1)), (ml, .inl (cI, 3, .inl la1)), (mg, .inl (cI, 1200, .inl gd1)), (mx, .inl (cI, 12, .inl ct1))] := hD
        refine lv_iconst (v := 1) hx hb d_M_all_38 (by decide +kernel) ?_
        refine lv_icmp_ne (tgt := 46) hx hb d_M_all_39 (by decide) (fun c39 => ?_) (fun c39 => ?_)
        · skip
          refine lv_iconst (v := 0) hx hb d_M_all_46 (by decide +kernel) ?_
          refine lv_iadd hx hb d_M_all_47 ?_
          refine lv_istore_n (lv' := [(2, .int (good + 0)), (3, .int (nI k)), (0, .ref o), (1, .int (nI 1))]) hx hb d_M_all_48 rfl hl (by decide) rfl (fun ls hl => ?_)
          refine lv_iinc (v := nI (k + 1)) (lv' := [(3, .int (nI (k + 1))), (2, .int (good + 0)), (0, .ref o), (1, .int (nI 1))]) hx hb d_M_all_49 hl (k := 1) rfl (nI_1 k) (by decide) rfl (fun ls hl => ?_)
          refine lv_goto (tgt := 18) hx hb d_M_all_52 (by decide) ?_
          exact ih_lp (k + 1) (good + 0) cm1 mn1 kp1 bd1 tu1 la1 gd1 ct1 lf1 fl1 f11 f21 ck1 H locs ls (by omega) (by have q := takeM1_bn (lim := lim) (b := fO k) hbn; rw [← e_t] at q; exact q) (hP.sub [1, 2, 3, 4, 5, 6, 7, 8, 9, 0] rfl) (hD.sub [1, 2, 3, 4, 5, 6, 7, 8, 9, 0] (by decide) rfl) hS (lv_sub hl [0, 1, 2, 3] rfl) (by rw [← heq]; show _ = ((drn (takeM1 lim) fO q (k + 1) (if (takeM1 lim (fO k) (cm, mn, kp, bd, tu, la, gd, ct, lf, fl, f1, f2, ck)).1 = 1 then good + 1 else good) (takeM1 lim (fO k) (cm, mn, kp, bd, tu, la, gd, ct, lf, fl, f1, f2, ck)).2).1, 0, (drn (takeM1 lim) fO q (k + 1) (if (takeM1 lim (fO k) (cm, mn, kp, bd, tu, la, gd, ct, lf, fl, f1, f2, ck)).1 = 1 then good + 1 else good) (takeM1 lim (fO k) (cm, mn, kp, bd, tu, la, gd, ct, lf, fl, f1, f2, ck)).2).2); rw [← e_t]; simp [c39, Int32.add_zero])
        · skip
          refine lv_iconst (v := 1) hx hb d_M_all_42 (by decide +kernel) ?_
          refine lv_goto (tgt := 47) hx hb d_M_all_43 (by decide) ?_
          refine lv_iadd hx hb d_M_all_47 ?_
          refine lv_istore_n (lv' := [(2, .int (good + 1)), (3, .int (nI k)), (0, .ref o), (1, .int (nI 1))]) hx hb d_M_all_48 rfl hl (by decide) rfl (fun ls hl => ?_)
          refine lv_iinc (v := nI (k + 1)) (lv' := [(3, .int (nI (k + 1))), (2, .int (good + 1)), (0, .ref o), (1, .int (nI 1))]) hx hb d_M_all_49 hl (k := 1) rfl (nI_1 k) (by decide) rfl (fun ls hl => ?_)
          refine lv_goto (tgt := 18) hx hb d_M_all_52 (by decide) ?_
          exact ih_lp (k + 1) (good + 1) cm1 mn1 kp1 bd1 tu1 la1 gd1 ct1 lf1 fl1 f11 f21 ck1 H locs ls (by omega) (by have q := takeM1_bn (lim := lim) (b := fO k) hbn; rw [← e_t] at q; exact q) (hP.sub [1, 2, 3, 4, 5, 6, 7, 8, 9, 0] rfl) (hD.sub [1, 2, 3, 4, 5, 6, 7, 8, 9, 0] (by decide) rfl) hS (lv_sub hl [0, 1, 2, 3] rfl) (by rw [← heq]; show _ = ((drn (takeM1 lim) fO q (k + 1) (if (takeM1 lim (fO k) (cm, mn, kp, bd, tu, la, gd, ct, lf, fl, f1, f2, ck)).1 = 1 then good + 1 else good) (takeM1 lim (fO k) (cm, mn, kp, bd, tu, la, gd, ct, lf, fl, f1, f2, ck)).2).1, 0, (drn (takeM1 lim) fO q (k + 1) (if (takeM1 lim (fO k) (cm, mn, kp, bd, tu, la, gd, ct, lf, fl, f1, f2, ck)).1 = 1 then good + 1 else good) (takeM1 lim (fO k) (cm, mn, kp, bd, tu, la, gd, ct, lf, fl, f1, f2, ck)).2).2); rw [← e_t]; simp [c39, Int32.add_zero])
    exact lp nO 0 0 cm mn kp bd tu la gd ct lf fl f1 f2 ck H locs ls (by omega) ⟨Nat.le_of_lt (hC 1 (by omega)), Nat.le_of_lt (hM 1 (by omega)), hB 1 (by omega)⟩ (hP.sub [0, 1, 2, 3, 4, 5, 6, 7, 8, 9] rfl) (hD.sub [0, 1, 2, 3, 4, 5, 6, 7, 8, 9] (by decide) rfl) hS (lv_sub hl [0, 1, 2, 3] rfl) (by rw [hG0]; unfold drM; rw [if_neg (by decide), if_pos rfl])
  · skip
    have hl : lv_has ls 4 [(0, .ref o), (1, .int (nI 2))] := hl
    have hP : va_P D vwCl [(o, .inr (5, [.int 0, .ref mt, .int (nI nT), .int lim, .ref mo, .int (nI nO), .ref mf, .int (nI nF), .ref mc, .ref mm, .ref mk, .ref mb, .int lf, .int fl, .ref mu, .int f1, .int f2, .int ck, .ref ml, .ref mg, .ref mx])), (mc, .inl (cI, 3, .inl (fun j => nI (cm j)))), (mm, .inl (cI, 3, .inl (fun j => nI (mn j)))), (mk, .inl (cI, 1200, .inl kp)), (mb, .inl (cB, 3, .inl bd)), (mu, .inl (cB, 3, .inl tu)), (ml, .inl (cI, 3, .inl la)), (mg, .inl (cI, 1200, .inl gd)), (mx, .inl (cI, 12, .inl ct)), (mo, .inl (cI, 2000, .inl fO))] H := hP
    have hD : va_D A [(o, .inr (5, [.int 0, .ref mt, .int (nI nT), .int lim, .ref mo, .int (nI nO), .ref mf, .int (nI nF), .ref mc, .ref mm, .ref mk, .ref mb, .int lf, .int fl, .ref mu, .int f1, .int f2, .int ck, .ref ml, .ref mg, .ref mx])), (mc, .inl (cI, 3, .inl (fun j => nI (cm j)))), (mm, .inl (cI, 3, .inl (fun j => nI (mn j)))), (mk, .inl (cI, 1200, .inl kp)), (mb, .inl (cB, 3, .inl bd)), (mu, .inl (cB, 3, .inl tu)), (ml, .inl (cI, 3, .inl la)), (mg, .inl (cI, 1200, .inl gd)), (mx, .inl (cI, 12, .inl ct)), (mo, .inl (cI, 2000, .inl fO))] := hD
    refine lv_if_ne (tgt := 14) hx hb d_M_all_9 (by decide) (fun _ => ?_) (fun c9 => absurd c9 (by decide))
    refine lv_iconst (v := 0) hx hb d_M_all_14 (by decide +kernel) ?_
    refine lv_istore_n (lv' := [(2, .int 0), (0, .ref o), (1, .int (nI 2))]) hx hb d_M_all_15 rfl hl (by decide) rfl (fun ls hl => ?_)
    refine lv_iconst (v := nI 0) hx hb d_M_all_16 (by decide +kernel) ?_
    refine lv_istore_n (lv' := [(3, .int (nI 0)), (2, .int 0), (0, .ref o), (1, .int (nI 2))]) hx hb d_M_all_17 rfl hl (by decide) rfl (fun ls hl => ?_)
    obtain ⟨G0, hG0⟩ : ∃ G0, G0 = drM nO nO fO lim 2 (cm, mn, kp, bd, tu, la, gd, ct, lf, fl, f1, f2, ck) := ⟨_, rfl⟩
    rw [← hG0]
    have lp : ∀ (q : Nat) (k : Nat) (good : Int32) (cm : Nat → Nat) (mn : Nat → Nat) (kp : Nat → Int32) (bd : Nat → Int32) (tu : Nat → Int32) (la : Nat → Int32) (gd : Nat → Int32) (ct : Nat → Int32) (lf : Int32) (fl : Int32) (f1 : Int32) (f2 : Int32) (ck : Int32) (H : Heap) (locs : List Loc) (ls : Array Slot), k + q = nO → BN 2 (536870912 + k) (cm, mn, kp, bd, tu, la, gd, ct, lf, fl, f1, f2, ck) → va_P D vwCl [(o, .inr (5, [.int 0, .ref mt, .int (nI nT), .int lim, .ref mo, .int (nI nO), .ref mf, .int (nI nF), .ref mc, .ref mm, .ref mk, .ref mb, .int lf, .int fl, .ref mu, .int f1, .int f2, .int ck, .ref ml, .ref mg, .ref mx])), (mc, .inl (cI, 3, .inl (fun j => nI (cm j)))), (mm, .inl (cI, 3, .inl (fun j => nI (mn j)))), (mk, .inl (cI, 1200, .inl kp)), (mb, .inl (cB, 3, .inl bd)), (mu, .inl (cB, 3, .inl tu)), (ml, .inl (cI, 3, .inl la)), (mg, .inl (cI, 1200, .inl gd)), (mx, .inl (cI, 12, .inl ct)), (mo, .inl (cI, 2000, .inl fO))] H → va_D A [(o, .inr (5, [.int 0, .ref mt, .int (nI nT), .int lim, .ref mo, .int (nI nO), .ref mf, .int (nI nF), .ref mc, .ref mm, .ref mk, .ref mb, .int lf, .int fl, .ref mu, .int f1, .int f2, .int ck, .ref ml, .ref mg, .ref mx])), (mc, .inl (cI, 3, .inl (fun j => nI (cm j)))), (mm, .inl (cI, 3, .inl (fun j => nI (mn j)))), (mk, .inl (cI, 1200, .inl kp)), (mb, .inl (cB, 3, .inl bd)), (mu, .inl (cB, 3, .inl tu)), (ml, .inl (cI, 3, .inl la)), (mg, .inl (cI, 1200, .inl gd)), (mx, .inl (cI, 12, .inl ct)), (mo, .inl (cI, 2000, .inl fO))] → va_S A s.heap H locs → lv_has ls 4 [(3, .int (nI k)), (2, .int good), (0, .ref o), (1, .int (nI 2))] → ((drn (takeM2 lim) fO q k good (cm, mn, kp, bd, tu, la, gd, ct, lf, fl, f1, f2, ck)).1, 0, (drn (takeM2 lim) fO q k good (cm, mn, kp, bd, tu, la, gd, ct, lf, fl, f1, f2, ck)).2) = G0 → W p l e ({ frames := 3, cells := 0, slots := 0, locals := 110 } : Room) s m ([.ref o, .int 2] : List Value).toArray below meth c H locs 0 0 (MQ below (va_Qi (fun (v : Int32) (u : Nat × MR) => (v, u) = G0) (ft_B D vwCl [(cI, .int), (cB, .boolean)] A (fun u : Nat × MR => [(o, .inr (5, [.int 0, .ref mt, .int (nI nT), .int lim, .ref mo, .int (nI u.1), .ref mf, .int (nI nF), .ref mc, .ref mm, .ref mk, .ref mb, .int u.2.2.2.2.2.2.2.2.2.1, .int u.2.2.2.2.2.2.2.2.2.2.1, .ref mu, .int u.2.2.2.2.2.2.2.2.2.2.2.1, .int u.2.2.2.2.2.2.2.2.2.2.2.2.1, .int u.2.2.2.2.2.2.2.2.2.2.2.2.2, .ref ml, .ref mg, .ref mx])), (mc, .inl (cI, 3, .inl (fun j => nI (u.2.1 j)))), (mm, .inl (cI, 3, .inl (fun j => nI (u.2.2.1 j)))), (mk, .inl (cI, 1200, .inl u.2.2.2.1)), (mb, .inl (cB, 3, .inl u.2.2.2.2.1)), (mu, .inl (cB, 3, .inl u.2.2.2.2.2.1)), (ml, .inl (cI, 3, .inl u.2.2.2.2.2.2.1)), (mg, .inl (cI, 1200, .inl u.2.2.2.2.2.2.2.1)), (mx, .inl (cI, 12, .inl u.2.2.2.2.2.2.2.2.1)), (mo, .inl (cI, 2000, .inl fO))])) A) ([.ref o, .int 2] : List Value).toArray s 0 0 A) (F0 m 18 ls []) := by
      intro q
      induction q with
      | zero =>
        intro k good cm mn kp bd tu la gd ct lf fl f1 f2 ck H locs ls hk hbn hP hD hS hl heq
        refine lv_iload_n hx hb d_M_all_18 rfl (lv_at hl 0 rfl) ?_
        refine lv_aload_n hx hb d_M_all_19 rfl (lv_at hl 2 rfl) ?_
        refine va_get (D := D) (ci := 5) (v := .int (nI nO)) (C := R_M) (T := F_M) (N := 21) hx hb ht bi_M hown hK hP 0 rfl rfl 5 (by decide) (ht _ bw_412) (fun _ h9 => h9) rfl d_M_all_20 ?_
        refine lv_icmp_ge (tgt := 55) hx hb d_M_all_23 (by decide) (fun c23 => ?_) (fun c23 => absurd (nI_le (by omega) (by omega)) c23)
        have c23 : nO ≤ k := (nI_leI (by omega) (by omega)).mp c23
        refine lv_aload_n hx hb d_M_all_55 rfl (lv_at hl 2 rfl) ?_
        refine lv_iconst (v := nI 0) hx hb d_M_all_56 (by decide +kernel) ?_
        refine va_put (D := D) (ci := 5) (v := .int (nI 0)) (ty := .int) (C := R_M) (T := F_M) (N := 21) hx hb ht bi_M t_M t_M_ok n_M hown hK hP hD hS 0 rfl rfl 5 (by decide) (ht _ bw_412) (fun _ h9 => h9) rfl (by decide +kernel) rfl rfl (Nat.le_of_ble_eq_true rfl) d_M_all_57 (fun H locs hP hD hS => ?_)
        have hP : va_P D vwCl [(o, .inr (5, [.int 0, .ref mt, .int (nI nT), .int lim, .ref mo, .int (nI 0), .ref mf, .int (nI nF), .ref mc, .ref mm, .ref mk, .ref mb, .int lf, .int fl, .ref mu, .int f1, .int f2, .int ck, .ref ml, .ref mg, .ref mx])), (mc, .inl (cI, 3, .inl (fun j => nI (cm j)))), (mm, .inl (cI, 3, .inl (fun j => nI (mn j)))), (mk, .inl (cI, 1200, .inl kp)), (mb, .inl (cB, 3, .inl bd)), (mu, .inl (cB, 3, .inl tu)), (ml, .inl (cI, 3, .inl la)), (mg, .inl (cI, 1200, .inl gd)), (mx, .inl (cI, 12, .inl ct)), (mo, .inl (cI, 2000, .inl fO))] H := hP
        have hD : va_D A [(o, .inr (5, [.int 0, .ref mt, .int (nI nT), .int lim, .ref mo, .int (nI 0), .ref mf, .int (nI nF), .ref mc, .ref mm, .ref mk, .ref mb, .int lf, .int fl, .ref mu, .int f1, .int f2, .int ck, .ref ml, .ref mg, .ref mx])), (mc, .inl (cI, 3, .inl (fun j => nI (cm j)))), (mm, .inl (cI, 3, .inl (fun j => nI (mn j)))), (mk, .inl (cI, 1200, .inl kp)), (mb, .inl (cB, 3, .inl bd)), (mu, .inl (cB, 3, .inl tu)), (ml, .inl (cI, 3, .inl la)), (mg, .inl (cI, 1200, .inl gd)), (mx, .inl (cI, 12, .inl ct)), (mo, .inl (cI, 2000, .inl fO))] := hD
        refine lv_iload_n hx hb d_M_all_60 rfl (lv_at hl 1 rfl) ?_
        exact ft_reti (0, (cm, mn, kp, bd, tu, la, gd, ct, lf, fl, f1, f2, ck)) hx hb hr hlocks hP hK hD hS heq d_M_all_61
      | succ q ih_lp =>
        intro k good cm mn kp bd tu la gd ct lf fl f1 f2 ck H locs ls hk hbn hP hD hS hl heq
        refine lv_iload_n hx hb d_M_all_18 rfl (lv_at hl 0 rfl) ?_
        refine lv_aload_n hx hb d_M_all_19 rfl (lv_at hl 2 rfl) ?_
        refine va_get (D := D) (ci := 5) (v := .int (nI nO)) (C := R_M) (T := F_M) (N := 21) hx hb ht bi_M hown hK hP 0 rfl rfl 5 (by decide) (ht _ bw_412) (fun _ h9 => h9) rfl d_M_all_20 ?_
        refine lv_icmp_ge (tgt := 55) hx hb d_M_all_23 (by decide) (fun c23 => absurd c23 (nI_ge (by omega) (by omega))) (fun c23 => ?_)
        have c23 : ¬ nO ≤ k := fun h => c23 ((nI_leI (by omega) (by omega)).mpr h)
        refine lv_iload_n hx hb d_M_all_26 rfl (lv_at hl 1 rfl) ?_
        refine lv_aload_n hx hb d_M_all_27 rfl (lv_at hl 2 rfl) ?_
        refine lv_iload_n hx hb d_M_all_28 rfl (lv_at hl 3 rfl) ?_
        refine lv_aload_n hx hb d_M_all_29 rfl (lv_at hl 2 rfl) ?_
        refine va_get (D := D) (ci := 5) (v := .ref mo) (C := R_M) (T := F_M) (N := 21) hx hb ht bi_M hown hK hP 0 rfl rfl 4 (by decide) (ht _ bw_411) (fun _ h9 => h9) rfl d_M_all_30 ?_
        refine lv_iload_n hx hb d_M_all_33 rfl (lv_at hl 0 rfl) ?_
        refine va_iald hx hb hK hP 9 0 rfl rfl (vp_in_nI (by omega) (by omega)) d_M_all_34 ?_
        refine ft_top (congrArg fO (nI_clamp (n := k) (by omega))) ?_
        refine ft_ci (wc := [(o, .inr (5, [.int 0, .ref mt, .int (nI nT), .int lim, .ref mo, .int (nI nO), .ref mf, .int (nI nF), .ref mc, .ref mm, .ref mk, .ref mb, .int lf, .int fl, .ref mu, .int f1, .int f2, .int ck, .ref ml, .ref mg, .ref mx])), (mc, .inl (cI, 3, .inl (fun j => nI (cm j)))), (mm, .inl (cI, 3, .inl (fun j => nI (mn j)))), (mk, .inl (cI, 1200, .inl kp)), (mb, .inl (cB, 3, .inl bd)), (mu, .inl (cB, 3, .inl tu)), (ml, .inl (cI, 3, .inl la)), (mg, .inl (cI, 1200, .inl gd)), (mx, .inl (cI, 12, .inl ct))]) (wr := [(mo, .inl (cI, 2000, .inl fO))]) (va_runV (As := [.int (nI 2), .int (fO k)]) (rest := [.int good]) ⟨hx, hb, hml, hown, ht⟩ (c_M_take_2 l D cI cB o mt mo mf mc mm mk mb mu ml mg mx 0 lim lf fl f1 f2 ck nT nO nF cm mn kp bd tu la gd ct (Nat.lt_of_le_of_lt hbn.1 (by omega)) (Nat.lt_of_le_of_lt hbn.2.1 (by omega)) hbn.2.2 hL (fO k) H.size) (ft_cwV 2 ht bw_532 bw_534 bw_23 bw_39 bw_535 (by decide) ⟨Nat.le_of_ble_eq_true rfl, Nat.le_of_ble_eq_true rfl⟩) ⟨ft_blind, va_recv hK hP (ci := 5) (q0 := 0) rfl rfl, (ft_pre hP hD hK hNW [0, 1, 2, 3, 4, 5, 6, 7, 8] [0, 1] rfl rfl (by decide) rfl _)⟩ rfl rfl hl.1 rfl (lv_room (Nat.le_of_ble_eq_true rfl)) d_M_all_35 ⟨Nat.le_of_ble_eq_true rfl, Nat.le_of_ble_eq_true rfl⟩) hP hD hS hA [0, 1, 2, 3, 4, 5, 6, 7, 8] [9] rfl rfl (by decide) (by decide) (fun r_7 u_8 H locs hu_8 hP hD hS => ?_)
        obtain ⟨cm1, mn1, kp1, bd1, tu1, la1, gd1, ct1, lf1, fl1, f11, f21, ck1⟩ := u_8
        have e_t : (r_7, cm1, mn1, kp1, bd1, tu1, la1, gd1, ct1, lf1, fl1, f11, f21, ck1) = takeM2 lim (fO k) (cm, mn, kp, bd, tu, la, gd, ct, lf, fl, f1, f2, ck) := hu_8
        have hP : va_P D vwCl [(mo, .inl (cI, 2000, .inl fO)), (o, .inr (5, [.int 0, .ref mt, .int (nI nT), .int lim, .ref mo, .int (nI nO), .ref mf, .int (nI nF), .ref mc, .ref mm, .ref mk, .ref mb, .int lf1, .int fl1, .ref mu, .int f11, .int f21, .int ck1, .ref ml, .ref mg, .ref mx])), (mc, .inl (cI, 3, .inl (fun j => nI (cm1 j)))), (mm, .inl (cI, 3, .inl (fun j => nI (mn1 j)))), (mk, .inl (cI, 1200, .inl kp1)), (mb, .inl (cB, 3, .inl bd1)), (mu, .inl (cB, 3, .inl tu1)), (ml, .inl (cI, 3, .inl la1)), (mg, .inl (cI, 1200, .inl gd1)), (mx, .inl (cI, 12, .inl ct1))] H := hP
        have hD : va_D A [(mo, .inl (cI, 2000, .inl fO)), (o, .inr (5, [.int 0, .ref mt, .int (nI nT), .int lim, .ref mo, .int (nI nO), .ref mf, .int (nI nF), .ref mc, .ref mm, .ref mk, .ref mb, .int lf1, .int fl1, .ref mu, .int f11, .int f21, .int ck1, .ref ml, .ref mg, .ref mx])), (mc, .inl (cI, 3, .inl (fun j => nI (cm1 j)))), (mm, .inl (cI, 3, .inl (fun j => nI (mn1 j)))), (mk, .inl (cI, 1200, .inl kp1)), (mb, .inl (cB, 3, .inl bd1)), (mu, .inl (cB, 3, .inl tu1)), (ml, .inl (cI, 3, .inl la1)), (mg, .inl (cI, 1200, .inl gd1)), (mx, .inl (cI, 12, .inl ct1))] := hD
        refine lv_iconst (v := 1) hx hb d_M_all_38 (by decide +kernel) ?_
        refine lv_icmp_ne (tgt := 46) hx hb d_M_all_39 (by decide) (fun c39 => ?_) (fun c39 => ?_)
        · skip
          refine lv_iconst (v := 0) hx hb d_M_all_46 (by decide +kernel) ?_
          refine lv_iadd hx hb d_M_all_47 ?_
          refine lv_istore_n (lv' := [(2, .int (good + 0)), (3, .int (nI k)), (0, .ref o), (1, .int (nI 2))]) hx hb d_M_all_48 rfl hl (by decide) rfl (fun ls hl => ?_)
          refine lv_iinc (v := nI (k + 1)) (lv' := [(3, .int (nI (k + 1))), (2, .int (good + 0)), (0, .ref o), (1, .int (nI 2))]) hx hb d_M_all_49 hl (k := 1) rfl (nI_1 k) (by decide) rfl (fun ls hl => ?_)
          refine lv_goto (tgt := 18) hx hb d_M_all_52 (by decide) ?_
          exact ih_lp (k + 1) (good + 0) cm1 mn1 kp1 bd1 tu1 la1 gd1 ct1 lf1 fl1 f11 f21 ck1 H locs ls (by omega) (by have q := takeM2_bn (lim := lim) (b := fO k) hbn; rw [← e_t] at q; exact q) (hP.sub [1, 2, 3, 4, 5, 6, 7, 8, 9, 0] rfl) (hD.sub [1, 2, 3, 4, 5, 6, 7, 8, 9, 0] (by decide) rfl) hS (lv_sub hl [0, 1, 2, 3] rfl) (by rw [← heq]; show _ = ((drn (takeM2 lim) fO q (k + 1) (if (takeM2 lim (fO k) (cm, mn, kp, bd, tu, la, gd, ct, lf, fl, f1, f2, ck)).1 = 1 then good + 1 else good) (takeM2 lim (fO k) (cm, mn, kp, bd, tu, la, gd, ct, lf, fl, f1, f2, ck)).2).1, 0, (drn (takeM2 lim) fO q (k + 1) (if (takeM2 lim (fO k) (cm, mn, kp, bd, tu, la, gd, ct, lf, fl, f1, f2, ck)).1 = 1 then good + 1 else good) (takeM2 lim (fO k) (cm, mn, kp, bd, tu, la, gd, ct, lf, fl, f1, f2, ck)).2).2); rw [← e_t]; simp [c39, Int32.add_zero])
        · skip
          refine lv_iconst (v := 1) hx hb d_M_all_42 (by decide +kernel) ?_
          refine lv_goto (tgt := 47) hx hb d_M_all_43 (by decide) ?_
          refine lv_iadd hx hb d_M_all_47 ?_
          refine lv_istore_n (lv' := [(2, .int (good + 1)), (3, .int (nI k)), (0, .ref o), (1, .int (nI 2))]) hx hb d_M_all_48 rfl hl (by decide) rfl (fun ls hl => ?_)
          refine lv_iinc (v := nI (k + 1)) (lv' := [(3, .int (nI (k + 1))), (2, .int (good + 1)), (0, .ref o), (1, .int (nI 2))]) hx hb d_M_all_49 hl (k := 1) rfl (nI_1 k) (by decide) rfl (fun ls hl => ?_)
          refine lv_goto (tgt := 18) hx hb d_M_all_52 (by decide) ?_
          exact ih_lp (k + 1) (good + 1) cm1 mn1 kp1 bd1 tu1 la1 gd1 ct1 lf1 fl1 f11 f21 ck1 H locs ls (by omega) (by have q := takeM2_bn (lim := lim) (b := fO k) hbn; rw [← e_t] at q; exact q) (hP.sub [1, 2, 3, 4, 5, 6, 7, 8, 9, 0] rfl) (hD.sub [1, 2, 3, 4, 5, 6, 7, 8, 9, 0] (by decide) rfl) hS (lv_sub hl [0, 1, 2, 3] rfl) (by rw [← heq]; show _ = ((drn (takeM2 lim) fO q (k + 1) (if (takeM2 lim (fO k) (cm, mn, kp, bd, tu, la, gd, ct, lf, fl, f1, f2, ck)).1 = 1 then good + 1 else good) (takeM2 lim (fO k) (cm, mn, kp, bd, tu, la, gd, ct, lf, fl, f1, f2, ck)).2).1, 0, (drn (takeM2 lim) fO q (k + 1) (if (takeM2 lim (fO k) (cm, mn, kp, bd, tu, la, gd, ct, lf, fl, f1, f2, ck)).1 = 1 then good + 1 else good) (takeM2 lim (fO k) (cm, mn, kp, bd, tu, la, gd, ct, lf, fl, f1, f2, ck)).2).2); rw [← e_t]; simp [c39, Int32.add_zero])
    exact lp nO 0 0 cm mn kp bd tu la gd ct lf fl f1 f2 ck H locs ls (by omega) ⟨Nat.le_of_lt (hC 2 (by omega)), Nat.le_of_lt (hM 2 (by omega)), hB 2 (by omega)⟩ (hP.sub [0, 1, 2, 3, 4, 5, 6, 7, 8, 9] rfl) (hD.sub [0, 1, 2, 3, 4, 5, 6, 7, 8, 9] (by decide) rfl) hS (lv_sub hl [0, 1, 2, 3] rfl) (by rw [hG0]; unfold drM; rw [if_neg (by decide), if_neg (by decide), if_pos rfl])
  · skip
    refine lv_if_ne (tgt := 14) hx hb d_M_all_9 (by decide) (fun c9 => absurd (by decide) c9) (fun _ => ?_)
    refine lv_iconst (v := (-1)) hx hb d_M_all_12 (by decide +kernel) ?_
    exact ft_reti (nO, (cm, mn, kp, bd, tu, la, gd, ct, lf, fl, f1, f2, ck)) hx hb hr hlocks hP hK hD hS (by show _ = drM nO nO fO lim way (cm, mn, kp, bd, tu, la, gd, ct, lf, fl, f1, f2, ck); unfold drM; rw [if_neg n0, if_neg n1, if_neg n2]) d_M_all_13

set_option maxHeartbeats 4000000 in
set_option maxRecDepth 100000 in
theorem c_M_raw (l : Launch) (D : va_G) (cI : ClassId) (cB : ClassId) (o mt mo mf mc mm mk mb mu ml mg mx : Nat) (th lim lf fl f1 f2 ck : Int32) (nT nO nF : Nat) (cm mn : Nat → Nat) (kp bd tu la gd ct fT : Nat → Int32) (hC : ∀ w, w < 3 → cm w < 536870912) (hM : ∀ w, w < 3 → mn w < 536870912) (hB : ∀ w, w < 3 → (tu w = 0 ∨ tu w = 1)) (hL : lim ≤ 400) (hT : nT ≤ 400) (way : Int32) (sz : Nat) : ft_Mi l y_M_raw (.code y_M_raw b_M_raw 5 (some .int) :: ft_big) ({ frames := 3, cells := 0, slots := 0, locals := 110 }) D [(cI, .int), (cB, .boolean)] sz [.ref o, .int way] [(o, .inr (5, [.int th, .ref mt, .int (nI nT), .int lim, .ref mo, .int (nI nO), .ref mf, .int (nI nF), .ref mc, .ref mm, .ref mk, .ref mb, .int lf, .int fl, .ref mu, .int f1, .int f2, .int ck, .ref ml, .ref mg, .ref mx])), (mc, .inl (cI, 3, .inl (fun j => nI (cm j)))), (mm, .inl (cI, 3, .inl (fun j => nI (mn j)))), (mk, .inl (cI, 1200, .inl kp)), (mb, .inl (cB, 3, .inl bd)), (mu, .inl (cB, 3, .inl tu)), (ml, .inl (cI, 3, .inl la)), (mg, .inl (cI, 1200, .inl gd)), (mx, .inl (cI, 12, .inl ct)), (mt, .inl (cI, 400, .inl fT))] (fun (v : Int32) (u : Nat × MR) => (v, u) = drM 0 nT fT lim way (cm, mn, kp, bd, tu, la, gd, ct, lf, fl, f1, f2, ck)) (fun u : Nat × MR => [(o, .inr (5, [.int 0, .ref mt, .int (nI u.1), .int lim, .ref mo, .int (nI nO), .ref mf, .int (nI nF), .ref mc, .ref mm, .ref mk, .ref mb, .int u.2.2.2.2.2.2.2.2.2.1, .int u.2.2.2.2.2.2.2.2.2.2.1, .ref mu, .int u.2.2.2.2.2.2.2.2.2.2.2.1, .int u.2.2.2.2.2.2.2.2.2.2.2.2.1, .int u.2.2.2.2.2.2.2.2.2.2.2.2.2, .ref ml, .ref mg, .ref mx])), (mc, .inl (cI, 3, .inl (fun j => nI (u.2.1 j)))), (mm, .inl (cI, 3, .inl (fun j => nI (u.2.2.1 j)))), (mk, .inl (cI, 1200, .inl u.2.2.2.1)), (mb, .inl (cB, 3, .inl u.2.2.2.2.1)), (mu, .inl (cB, 3, .inl u.2.2.2.2.2.1)), (ml, .inl (cI, 3, .inl u.2.2.2.2.2.2.1)), (mg, .inl (cI, 1200, .inl u.2.2.2.2.2.2.2.1)), (mx, .inl (cI, 12, .inl u.2.2.2.2.2.2.2.2.1)), (mt, .inl (cI, 400, .inl fT))]) 0 0 := by
  refine ft_ei (cc := b_M_raw) (maxL := 5) (ret := (some .int)) (by decide) rfl (Nat.le_of_ble_eq_true rfl) ?_
  intro p e s m below meth c A ls hx hb hr hml hts hown hlocks hmn hP hK hD hA hS hNW hl
  have ht : ∀ w ∈ ft_big, w.before _ s = true := fun w h => hts w (List.mem_cons_of_mem _ h)
  have hP : va_P D vwCl [(o, .inr (5, [.int th, .ref mt, .int (nI nT), .int lim, .ref mo, .int (nI nO), .ref mf, .int (nI nF), .ref mc, .ref mm, .ref mk, .ref mb, .int lf, .int fl, .ref mu, .int f1, .int f2, .int ck, .ref ml, .ref mg, .ref mx])), (mc, .inl (cI, 3, .inl (fun j => nI (cm j)))), (mm, .inl (cI, 3, .inl (fun j => nI (mn j)))), (mk, .inl (cI, 1200, .inl kp)), (mb, .inl (cB, 3, .inl bd)), (mu, .inl (cB, 3, .inl tu)), (ml, .inl (cI, 3, .inl la)), (mg, .inl (cI, 1200, .inl gd)), (mx, .inl (cI, 12, .inl ct)), (mt, .inl (cI, 400, .inl fT))] s.heap := hP
  have hD : va_D A [(o, .inr (5, [.int th, .ref mt, .int (nI nT), .int lim, .ref mo, .int (nI nO), .ref mf, .int (nI nF), .ref mc, .ref mm, .ref mk, .ref mb, .int lf, .int fl, .ref mu, .int f1, .int f2, .int ck, .ref ml, .ref mg, .ref mx])), (mc, .inl (cI, 3, .inl (fun j => nI (cm j)))), (mm, .inl (cI, 3, .inl (fun j => nI (mn j)))), (mk, .inl (cI, 1200, .inl kp)), (mb, .inl (cB, 3, .inl bd)), (mu, .inl (cB, 3, .inl tu)), (ml, .inl (cI, 3, .inl la)), (mg, .inl (cI, 1200, .inl gd)), (mx, .inl (cI, 12, .inl ct)), (mt, .inl (cI, 400, .inl fT))] := hD
  have hl : lv_has ls 5 [(0, .ref o), (1, .int way)] := hl
  refine lv_aload_n hx hb d_M_raw_0 rfl (lv_at hl 0 rfl) ?_
  refine lv_iconst (v := 0) hx hb d_M_raw_1 (by decide +kernel) ?_
  refine va_put (D := D) (ci := 5) (v := .int 0) (ty := .int) (C := R_M) (T := F_M) (N := 21) hx hb ht bi_M t_M t_M_ok n_M hown hK hP hD hS 0 rfl rfl 0 (by decide) (ht _ bw_407) (fun _ h9 => h9) rfl (by decide +kernel) rfl rfl (Nat.le_of_ble_eq_true rfl) d_M_raw_2 (fun H locs hP hD hS => ?_)
  have hP : va_P D vwCl [(o, .inr (5, [.int 0, .ref mt, .int (nI nT), .int lim, .ref mo, .int (nI nO), .ref mf, .int (nI nF), .ref mc, .ref mm, .ref mk, .ref mb, .int lf, .int fl, .ref mu, .int f1, .int f2, .int ck, .ref ml, .ref mg, .ref mx])), (mc, .inl (cI, 3, .inl (fun j => nI (cm j)))), (mm, .inl (cI, 3, .inl (fun j => nI (mn j)))), (mk, .inl (cI, 1200, .inl kp)), (mb, .inl (cB, 3, .inl bd)), (mu, .inl (cB, 3, .inl tu)), (ml, .inl (cI, 3, .inl la)), (mg, .inl (cI, 1200, .inl gd)), (mx, .inl (cI, 12, .inl ct)), (mt, .inl (cI, 400, .inl fT))] H := hP
  have hD : va_D A [(o, .inr (5, [.int 0, .ref mt, .int (nI nT), .int lim, .ref mo, .int (nI nO), .ref mf, .int (nI nF), .ref mc, .ref mm, .ref mk, .ref mb, .int lf, .int fl, .ref mu, .int f1, .int f2, .int ck, .ref ml, .ref mg, .ref mx])), (mc, .inl (cI, 3, .inl (fun j => nI (cm j)))), (mm, .inl (cI, 3, .inl (fun j => nI (mn j)))), (mk, .inl (cI, 1200, .inl kp)), (mb, .inl (cB, 3, .inl bd)), (mu, .inl (cB, 3, .inl tu)), (ml, .inl (cI, 3, .inl la)), (mg, .inl (cI, 1200, .inl gd)), (mx, .inl (cI, 12, .inl ct)), (mt, .inl (cI, 400, .inl fT))] := hD
  refine lv_aload_n hx hb d_M_raw_5 rfl (lv_at hl 0 rfl) ?_
  refine va_get (D := D) (ci := 5) (v := .int (nI nT)) (C := R_M) (T := F_M) (N := 21) hx hb ht bi_M hown hK hP 0 rfl rfl 2 (by decide) (ht _ bw_409) (fun _ h9 => h9) rfl d_M_raw_6 ?_
  refine lv_istore_n (lv' := [(2, .int (nI nT)), (0, .ref o), (1, .int way)]) hx hb d_M_raw_9 rfl hl (by decide) rfl (fun ls hl => ?_)
  refine lv_aload_n hx hb d_M_raw_10 rfl (lv_at hl 1 rfl) ?_
  refine lv_iconst (v := nI 0) hx hb d_M_raw_11 (by decide +kernel) ?_
  refine va_put (D := D) (ci := 5) (v := .int (nI 0)) (ty := .int) (C := R_M) (T := F_M) (N := 21) hx hb ht bi_M t_M t_M_ok n_M hown hK hP hD hS 0 rfl rfl 2 (by decide) (ht _ bw_409) (fun _ h9 => h9) rfl (by decide +kernel) rfl rfl (Nat.le_of_ble_eq_true rfl) d_M_raw_12 (fun H locs hP hD hS => ?_)
  have hP : va_P D vwCl [(o, .inr (5, [.int 0, .ref mt, .int (nI 0), .int lim, .ref mo, .int (nI nO), .ref mf, .int (nI nF), .ref mc, .ref mm, .ref mk, .ref mb, .int lf, .int fl, .ref mu, .int f1, .int f2, .int ck, .ref ml, .ref mg, .ref mx])), (mc, .inl (cI, 3, .inl (fun j => nI (cm j)))), (mm, .inl (cI, 3, .inl (fun j => nI (mn j)))), (mk, .inl (cI, 1200, .inl kp)), (mb, .inl (cB, 3, .inl bd)), (mu, .inl (cB, 3, .inl tu)), (ml, .inl (cI, 3, .inl la)), (mg, .inl (cI, 1200, .inl gd)), (mx, .inl (cI, 12, .inl ct)), (mt, .inl (cI, 400, .inl fT))] H := hP
  have hD : va_D A [(o, .inr (5, [.int 0, .ref mt, .int (nI 0), .int lim, .ref mo, .int (nI nO), .ref mf, .int (nI nF), .ref mc, .ref mm, .ref mk, .ref mb, .int lf, .int fl, .ref mu, .int f1, .int f2, .int ck, .ref ml, .ref mg, .ref mx])), (mc, .inl (cI, 3, .inl (fun j => nI (cm j)))), (mm, .inl (cI, 3, .inl (fun j => nI (mn j)))), (mk, .inl (cI, 1200, .inl kp)), (mb, .inl (cB, 3, .inl bd)), (mu, .inl (cB, 3, .inl tu)), (ml, .inl (cI, 3, .inl la)), (mg, .inl (cI, 1200, .inl gd)), (mx, .inl (cI, 12, .inl ct)), (mt, .inl (cI, 400, .inl fT))] := hD
  refine lv_iload_n hx hb d_M_raw_15 rfl (lv_at hl 2 rfl) ?_
  refine ft_ci (wc := []) (wr := [(o, .inr (5, [.int 0, .ref mt, .int (nI 0), .int lim, .ref mo, .int (nI nO), .ref mf, .int (nI nF), .ref mc, .ref mm, .ref mk, .ref mb, .int lf, .int fl, .ref mu, .int f1, .int f2, .int ck, .ref ml, .ref mg, .ref mx])), (mc, .inl (cI, 3, .inl (fun j => nI (cm j)))), (mm, .inl (cI, 3, .inl (fun j => nI (mn j)))), (mk, .inl (cI, 1200, .inl kp)), (mb, .inl (cB, 3, .inl bd)), (mu, .inl (cB, 3, .inl tu)), (ml, .inl (cI, 3, .inl la)), (mg, .inl (cI, 1200, .inl gd)), (mx, .inl (cI, 12, .inl ct)), (mt, .inl (cI, 400, .inl fT))]) (va_runS (As := [.int way]) (rest := []) ⟨hx, hb, hml, hown, ht⟩ (c_M_isWay l D cI cB way H.size) (ft_cwS 1 ht bw_492 bw_493 bw_39 bw_494 (by decide) ⟨Nat.le_of_ble_eq_true rfl, Nat.le_of_ble_eq_true rfl⟩) ⟨ft_blind, (ft_pre hP hD hK hNW [] [0, 1] rfl rfl (by decide) rfl _)⟩ rfl rfl hl.1 rfl (lv_room (Nat.le_of_ble_eq_true rfl)) d_M_raw_16 ⟨Nat.le_of_ble_eq_true rfl, Nat.le_of_ble_eq_true rfl⟩) hP hD hS hA [] [0, 1, 2, 3, 4, 5, 6, 7, 8, 9] rfl rfl (by decide) (by decide) (fun r_1 u_2 H locs hu_2 hP hD hS => ?_)
  have hP : va_P D vwCl [(o, .inr (5, [.int 0, .ref mt, .int (nI 0), .int lim, .ref mo, .int (nI nO), .ref mf, .int (nI nF), .ref mc, .ref mm, .ref mk, .ref mb, .int lf, .int fl, .ref mu, .int f1, .int f2, .int ck, .ref ml, .ref mg, .ref mx])), (mc, .inl (cI, 3, .inl (fun j => nI (cm j)))), (mm, .inl (cI, 3, .inl (fun j => nI (mn j)))), (mk, .inl (cI, 1200, .inl kp)), (mb, .inl (cB, 3, .inl bd)), (mu, .inl (cB, 3, .inl tu)), (ml, .inl (cI, 3, .inl la)), (mg, .inl (cI, 1200, .inl gd)), (mx, .inl (cI, 12, .inl ct)), (mt, .inl (cI, 400, .inl fT))] H := hP
  have hD : va_D A [(o, .inr (5, [.int 0, .ref mt, .int (nI 0), .int lim, .ref mo, .int (nI nO), .ref mf, .int (nI nF), .ref mc, .ref mm, .ref mk, .ref mb, .int lf, .int fl, .ref mu, .int f1, .int f2, .int ck, .ref ml, .ref mg, .ref mx])), (mc, .inl (cI, 3, .inl (fun j => nI (cm j)))), (mm, .inl (cI, 3, .inl (fun j => nI (mn j)))), (mk, .inl (cI, 1200, .inl kp)), (mb, .inl (cB, 3, .inl bd)), (mu, .inl (cB, 3, .inl tu)), (ml, .inl (cI, 3, .inl la)), (mg, .inl (cI, 1200, .inl gd)), (mx, .inl (cI, 12, .inl ct)), (mt, .inl (cI, 400, .inl fT))] := hD
  rcases hu_2 with ⟨rfl, rfl | rfl | rfl⟩ | ⟨rfl, n0, n1, n2⟩
  · skip
    have hl : lv_has ls 5 [(2, .int (nI nT)), (0, .ref o), (1, .int (nI 0))] := hl
    have hP : va_P D vwCl [(o, .inr (5, [.int 0, .ref mt, .int (nI 0), .int lim, .ref mo, .int (nI nO), .ref mf, .int (nI nF), .ref mc, .ref mm, .ref mk, .ref mb, .int lf, .int fl, .ref mu, .int f1, .int f2, .int ck, .ref ml, .ref mg, .ref mx])), (mc, .inl (cI, 3, .inl (fun j => nI (cm j)))), (mm, .inl (cI, 3, .inl (fun j => nI (mn j)))), (mk, .inl (cI, 1200, .inl kp)), (mb, .inl (cB, 3, .inl bd)), (mu, .inl (cB, 3, .inl tu)), (ml, .inl (cI, 3, .inl la)), (mg, .inl (cI, 1200, .inl gd)), (mx, .inl (cI, 12, .inl ct)), (mt, .inl (cI, 400, .inl fT))] H := hP
    have hD : va_D A [(o, .inr (5, [.int 0, .ref mt, .int (nI 0), .int lim, .ref mo, .int (nI nO), .ref mf, .int (nI nF), .ref mc, .ref mm, .ref mk, .ref mb, .int lf, .int fl, .ref mu, .int f1, .int f2, .int ck, .ref ml, .ref mg, .ref mx])), (mc, .inl (cI, 3, .inl (fun j => nI (cm j)))), (mm, .inl (cI, 3, .inl (fun j => nI (mn j)))), (mk, .inl (cI, 1200, .inl kp)), (mb, .inl (cB, 3, .inl bd)), (mu, .inl (cB, 3, .inl tu)), (ml, .inl (cI, 3, .inl la)), (mg, .inl (cI, 1200, .inl gd)), (mx, .inl (cI, 12, .inl ct)), (mt, .inl (cI, 400, .inl fT))] := hD
    refine lv_if_ne (tgt := 24) hx hb d_M_raw_19 (by decide) (fun _ => ?_) (fun c19 => absurd c19 (by decide))
    refine lv_iconst (v := 0) hx hb d_M_raw_24 (by decide +kernel) ?_
    refine lv_istore_n (lv' := [(3, .int 0), (2, .int (nI nT)), (0, .ref o), (1, .int (nI 0))]) hx hb d_M_raw_25 rfl hl (by decide) rfl (fun ls hl => ?_)
    refine lv_iconst (v := 0) hx hb d_M_raw_26 (by decide +kernel) ?_
    refine lv_istore (lv' := [(4, .int 0), (3, .int 0), (2, .int (nI nT)), (0, .ref o), (1, .int (nI 0))]) hx hb d_M_raw_27 hl (by decide) rfl (fun ls hl => ?_)
    obtain ⟨G0, hG0⟩ : ∃ G0, G0 = drM 0 nT fT lim 0 (cm, mn, kp, bd, tu, la, gd, ct, lf, fl, f1, f2, ck) := ⟨_, rfl⟩
    rw [← hG0]
    have lp : ∀ (q : Nat) (k : Nat) (good : Int32) (cm : Nat → Nat) (mn : Nat → Nat) (kp : Nat → Int32) (bd : Nat → Int32) (tu : Nat → Int32) (la : Nat → Int32) (gd : Nat → Int32) (ct : Nat → Int32) (lf : Int32) (fl : Int32) (f1 : Int32) (f2 : Int32) (ck : Int32) (H : Heap) (locs : List Loc) (ls : Array Slot), k + q = nT → BN 0 (536870912 + k) (cm, mn, kp, bd, tu, la, gd, ct, lf, fl, f1, f2, ck) → va_P D vwCl [(o, .inr (5, [.int 0, .ref mt, .int (nI 0), .int lim, .ref mo, .int (nI nO), .ref mf, .int (nI nF), .ref mc, .ref mm, .ref mk, .ref mb, .int lf, .int fl, .ref mu, .int f1, .int f2, .int ck, .ref ml, .ref mg, .ref mx])), (mc, .inl (cI, 3, .inl (fun j => nI (cm j)))), (mm, .inl (cI, 3, .inl (fun j => nI (mn j)))), (mk, .inl (cI, 1200, .inl kp)), (mb, .inl (cB, 3, .inl bd)), (mu, .inl (cB, 3, .inl tu)), (ml, .inl (cI, 3, .inl la)), (mg, .inl (cI, 1200, .inl gd)), (mx, .inl (cI, 12, .inl ct)), (mt, .inl (cI, 400, .inl fT))] H → va_D A [(o, .inr (5, [.int 0, .ref mt, .int (nI 0), .int lim, .ref mo, .int (nI nO), .ref mf, .int (nI nF), .ref mc, .ref mm, .ref mk, .ref mb, .int lf, .int fl, .ref mu, .int f1, .int f2, .int ck, .ref ml, .ref mg, .ref mx])), (mc, .inl (cI, 3, .inl (fun j => nI (cm j)))), (mm, .inl (cI, 3, .inl (fun j => nI (mn j)))), (mk, .inl (cI, 1200, .inl kp)), (mb, .inl (cB, 3, .inl bd)), (mu, .inl (cB, 3, .inl tu)), (ml, .inl (cI, 3, .inl la)), (mg, .inl (cI, 1200, .inl gd)), (mx, .inl (cI, 12, .inl ct)), (mt, .inl (cI, 400, .inl fT))] → va_S A s.heap H locs → lv_has ls 5 [(4, .int (nI k)), (3, .int good), (2, .int (nI nT)), (0, .ref o), (1, .int (nI 0))] → ((drn (takeM0 lim) fT q k good (cm, mn, kp, bd, tu, la, gd, ct, lf, fl, f1, f2, ck)).1, 0, (drn (takeM0 lim) fT q k good (cm, mn, kp, bd, tu, la, gd, ct, lf, fl, f1, f2, ck)).2) = G0 → W p l e ({ frames := 3, cells := 0, slots := 0, locals := 110 } : Room) s m ([.ref o, .int 0] : List Value).toArray below meth c H locs 0 0 (MQ below (va_Qi (fun (v : Int32) (u : Nat × MR) => (v, u) = G0) (ft_B D vwCl [(cI, .int), (cB, .boolean)] A (fun u : Nat × MR => [(o, .inr (5, [.int 0, .ref mt, .int (nI u.1), .int lim, .ref mo, .int (nI nO), .ref mf, .int (nI nF), .ref mc, .ref mm, .ref mk, .ref mb, .int u.2.2.2.2.2.2.2.2.2.1, .int u.2.2.2.2.2.2.2.2.2.2.1, .ref mu, .int u.2.2.2.2.2.2.2.2.2.2.2.1, .int u.2.2.2.2.2.2.2.2.2.2.2.2.1, .int u.2.2.2.2.2.2.2.2.2.2.2.2.2, .ref ml, .ref mg, .ref mx])), (mc, .inl (cI, 3, .inl (fun j => nI (u.2.1 j)))), (mm, .inl (cI, 3, .inl (fun j => nI (u.2.2.1 j)))), (mk, .inl (cI, 1200, .inl u.2.2.2.1)), (mb, .inl (cB, 3, .inl u.2.2.2.2.1)), (mu, .inl (cB, 3, .inl u.2.2.2.2.2.1)), (ml, .inl (cI, 3, .inl u.2.2.2.2.2.2.1)), (mg, .inl (cI, 1200, .inl u.2.2.2.2.2.2.2.1)), (mx, .inl (cI, 12, .inl u.2.2.2.2.2.2.2.2.1)), (mt, .inl (cI, 400, .inl fT))])) A) ([.ref o, .int 0] : List Value).toArray s 0 0 A) (F0 m 29 ls []) := by
      intro q
      induction q with
      | zero =>
        intro k good cm mn kp bd tu la gd ct lf fl f1 f2 ck H locs ls hk hbn hP hD hS hl heq
        refine lv_iload hx hb d_M_raw_29 (lv_at hl 0 rfl) ?_
        refine lv_iload_n hx hb d_M_raw_31 rfl (lv_at hl 2 rfl) ?_
        refine lv_icmp_ge (tgt := 65) hx hb d_M_raw_32 (by decide) (fun c32 => ?_) (fun c32 => absurd (nI_le (by omega) (by omega)) c32)
        have c32 : nT ≤ k := (nI_leI (by omega) (by omega)).mp c32
        refine lv_iload_n hx hb d_M_raw_65 rfl (lv_at hl 1 rfl) ?_
        exact ft_reti (0, (cm, mn, kp, bd, tu, la, gd, ct, lf, fl, f1, f2, ck)) hx hb hr hlocks hP hK hD hS heq d_M_raw_66
      | succ q ih_lp =>
        intro k good cm mn kp bd tu la gd ct lf fl f1 f2 ck H locs ls hk hbn hP hD hS hl heq
        refine lv_iload hx hb d_M_raw_29 (lv_at hl 0 rfl) ?_
        refine lv_iload_n hx hb d_M_raw_31 rfl (lv_at hl 2 rfl) ?_
        refine lv_icmp_ge (tgt := 65) hx hb d_M_raw_32 (by decide) (fun c32 => absurd c32 (nI_ge (by omega) (by omega))) (fun c32 => ?_)
        have c32 : ¬ nT ≤ k := fun h => c32 ((nI_leI (by omega) (by omega)).mpr h)
        refine lv_iload_n hx hb d_M_raw_35 rfl (lv_at hl 1 rfl) ?_
        refine lv_aload_n hx hb d_M_raw_36 rfl (lv_at hl 3 rfl) ?_
        refine lv_iload_n hx hb d_M_raw_37 rfl (lv_at hl 4 rfl) ?_
        refine lv_aload_n hx hb d_M_raw_38 rfl (lv_at hl 3 rfl) ?_
        refine va_get (D := D) (ci := 5) (v := .ref mt) (C := R_M) (T := F_M) (N := 21) hx hb ht bi_M hown hK hP 0 rfl rfl 1 (by decide) (ht _ bw_408) (fun _ h9 => h9) rfl d_M_raw_39 ?_
        refine lv_iload hx hb d_M_raw_42 (lv_at hl 0 rfl) ?_
        refine va_iald hx hb hK hP 9 0 rfl rfl (vp_in_nI (by omega) (by omega)) d_M_raw_44 ?_
        refine ft_top (congrArg fT (nI_clamp (n := k) (by omega))) ?_
        refine ft_ci (wc := [(o, .inr (5, [.int 0, .ref mt, .int (nI 0), .int lim, .ref mo, .int (nI nO), .ref mf, .int (nI nF), .ref mc, .ref mm, .ref mk, .ref mb, .int lf, .int fl, .ref mu, .int f1, .int f2, .int ck, .ref ml, .ref mg, .ref mx])), (mc, .inl (cI, 3, .inl (fun j => nI (cm j)))), (mm, .inl (cI, 3, .inl (fun j => nI (mn j)))), (mk, .inl (cI, 1200, .inl kp)), (mb, .inl (cB, 3, .inl bd)), (mu, .inl (cB, 3, .inl tu)), (ml, .inl (cI, 3, .inl la)), (mg, .inl (cI, 1200, .inl gd)), (mx, .inl (cI, 12, .inl ct))]) (wr := [(mt, .inl (cI, 400, .inl fT))]) (va_runV (As := [.int (nI 0), .int (fT k)]) (rest := [.int good]) ⟨hx, hb, hml, hown, ht⟩ (c_M_take_0 l D cI cB o mt mo mf mc mm mk mb mu ml mg mx 0 lim lf fl f1 f2 ck 0 nO nF cm mn kp bd tu la gd ct (Nat.lt_of_le_of_lt hbn.1 (by omega)) (Nat.lt_of_le_of_lt hbn.2.1 (by omega)) hbn.2.2 hL (fT k) H.size) (ft_cwV 2 ht bw_532 bw_534 bw_23 bw_39 bw_535 (by decide) ⟨Nat.le_of_ble_eq_true rfl, Nat.le_of_ble_eq_true rfl⟩) ⟨ft_blind, va_recv hK hP (ci := 5) (q0 := 0) rfl rfl, (ft_pre hP hD hK hNW [0, 1, 2, 3, 4, 5, 6, 7, 8] [0, 1] rfl rfl (by decide) rfl _)⟩ rfl rfl hl.1 rfl (lv_room (Nat.le_of_ble_eq_true rfl)) d_M_raw_45 ⟨Nat.le_of_ble_eq_true rfl, Nat.le_of_ble_eq_true rfl⟩) hP hD hS hA [0, 1, 2, 3, 4, 5, 6, 7, 8] [9] rfl rfl (by decide) (by decide) (fun r_3 u_4 H locs hu_4 hP hD hS => ?_)
        obtain ⟨cm1, mn1, kp1, bd1, tu1, la1, gd1, ct1, lf1, fl1, f11, f21, ck1⟩ := u_4
        have e_t : (r_3, cm1, mn1, kp1, bd1, tu1, la1, gd1, ct1, lf1, fl1, f11, f21, ck1) = takeM0 lim (fT k) (cm, mn, kp, bd, tu, la, gd, ct, lf, fl, f1, f2, ck) := hu_4
        have hP : va_P D vwCl [(mt, .inl (cI, 400, .inl fT)), (o, .inr (5, [.int 0, .ref mt, .int (nI 0), .int lim, .ref mo, .int (nI nO), .ref mf, .int (nI nF), .ref mc, .ref mm, .ref mk, .ref mb, .int lf1, .int fl1, .ref mu, .int f11, .int f21, .int ck1, .ref ml, .ref mg, .ref mx])), (mc, .inl (cI, 3, .inl (fun j => nI (cm1 j)))), (mm, .inl (cI, 3, .inl (fun j => nI (mn1 j)))), (mk, .inl (cI, 1200, .inl kp1)), (mb, .inl (cB, 3, .inl bd1)), (mu, .inl (cB, 3, .inl tu1)), (ml, .inl (cI, 3, .inl la1)), (mg, .inl (cI, 1200, .inl gd1)), (mx, .inl (cI, 12, .inl ct1))] H := hP
        have hD : va_D A [(mt, .inl (cI, 400, .inl fT)), (o, .inr (5, [.int 0, .ref mt, .int (nI 0), .int lim, .ref mo, .int (nI nO), .ref mf, .int (nI nF), .ref mc, .ref mm, .ref mk, .ref mb, .int lf1, .int fl1, .ref mu, .int f11, .int f21, .int ck1, .ref ml, .ref mg, .ref mx])), (mc, .inl (cI, 3, .inl (fun j => nI (cm1 j)))), (mm, .inl (cI, 3, .inl (fun j => nI (mn1 j)))), (mk, .inl (cI, 1200, .inl kp1)), (mb, .inl (cB, 3, .inl bd1)), (mu, .inl (cB, 3, .inl tu1)), (ml, .inl (cI, 3, .inl la1)), (mg, .inl (cI, 1200, .inl gd1)), (mx, .inl (cI, 12, .inl ct1))] := hD
        refine lv_iconst (v := 1) hx hb d_M_raw_48 (by decide +kernel) ?_
        refine lv_icmp_ne (tgt := 56) hx hb d_M_raw_49 (by decide) (fun c49 => ?_) (fun c49 => ?_)
        · skip
          refine lv_iconst (v := 0) hx hb d_M_raw_56 (by decide +kernel) ?_
          refine lv_iadd hx hb d_M_raw_57 ?_
          refine lv_istore_n (lv' := [(3, .int (good + 0)), (4, .int (nI k)), (2, .int (nI nT)), (0, .ref o), (1, .int (nI 0))]) hx hb d_M_raw_58 rfl hl (by decide) rfl (fun ls hl => ?_)
          refine lv_iinc (v := nI (k + 1)) (lv' := [(4, .int (nI (k + 1))), (3, .int (good + 0)), (2, .int (nI nT)), (0, .ref o), (1, .int (nI 0))]) hx hb d_M_raw_59 hl (k := 1) rfl (nI_1 k) (by decide) rfl (fun ls hl => ?_)
          refine lv_goto (tgt := 29) hx hb d_M_raw_62 (by decide) ?_
          exact ih_lp (k + 1) (good + 0) cm1 mn1 kp1 bd1 tu1 la1 gd1 ct1 lf1 fl1 f11 f21 ck1 H locs ls (by omega) (by have q := takeM0_bn (lim := lim) (b := fT k) hbn; rw [← e_t] at q; exact q) (hP.sub [1, 2, 3, 4, 5, 6, 7, 8, 9, 0] rfl) (hD.sub [1, 2, 3, 4, 5, 6, 7, 8, 9, 0] (by decide) rfl) hS (lv_sub hl [0, 1, 2, 3, 4] rfl) (by rw [← heq]; show _ = ((drn (takeM0 lim) fT q (k + 1) (if (takeM0 lim (fT k) (cm, mn, kp, bd, tu, la, gd, ct, lf, fl, f1, f2, ck)).1 = 1 then good + 1 else good) (takeM0 lim (fT k) (cm, mn, kp, bd, tu, la, gd, ct, lf, fl, f1, f2, ck)).2).1, 0, (drn (takeM0 lim) fT q (k + 1) (if (takeM0 lim (fT k) (cm, mn, kp, bd, tu, la, gd, ct, lf, fl, f1, f2, ck)).1 = 1 then good + 1 else good) (takeM0 lim (fT k) (cm, mn, kp, bd, tu, la, gd, ct, lf, fl, f1, f2, ck)).2).2); rw [← e_t]; simp [c49, Int32.add_zero])
        · skip
          refine lv_iconst (v := 1) hx hb d_M_raw_52 (by decide +kernel) ?_
          refine lv_goto (tgt := 57) hx hb d_M_raw_53 (by decide) ?_
          refine lv_iadd hx hb d_M_raw_57 ?_
          refine lv_istore_n (lv' := [(3, .int (good + 1)), (4, .int (nI k)), (2, .int (nI nT)), (0, .ref o), (1, .int (nI 0))]) hx hb d_M_raw_58 rfl hl (by decide) rfl (fun ls hl => ?_)
          refine lv_iinc (v := nI (k + 1)) (lv' := [(4, .int (nI (k + 1))), (3, .int (good + 1)), (2, .int (nI nT)), (0, .ref o), (1, .int (nI 0))]) hx hb d_M_raw_59 hl (k := 1) rfl (nI_1 k) (by decide) rfl (fun ls hl => ?_)
          refine lv_goto (tgt := 29) hx hb d_M_raw_62 (by decide) ?_
          exact ih_lp (k + 1) (good + 1) cm1 mn1 kp1 bd1 tu1 la1 gd1 ct1 lf1 fl1 f11 f21 ck1 H locs ls (by omega) (by have q := takeM0_bn (lim := lim) (b := fT k) hbn; rw [← e_t] at q; exact q) (hP.sub [1, 2, 3, 4, 5, 6, 7, 8, 9, 0] rfl) (hD.sub [1, 2, 3, 4, 5, 6, 7, 8, 9, 0] (by decide) rfl) hS (lv_sub hl [0, 1, 2, 3, 4] rfl) (by rw [← heq]; show _ = ((drn (takeM0 lim) fT q (k + 1) (if (takeM0 lim (fT k) (cm, mn, kp, bd, tu, la, gd, ct, lf, fl, f1, f2, ck)).1 = 1 then good + 1 else good) (takeM0 lim (fT k) (cm, mn, kp, bd, tu, la, gd, ct, lf, fl, f1, f2, ck)).2).1, 0, (drn (takeM0 lim) fT q (k + 1) (if (takeM0 lim (fT k) (cm, mn, kp, bd, tu, la, gd, ct, lf, fl, f1, f2, ck)).1 = 1 then good + 1 else good) (takeM0 lim (fT k) (cm, mn, kp, bd, tu, la, gd, ct, lf, fl, f1, f2, ck)).2).2); rw [← e_t]; simp [c49, Int32.add_zero])
    exact lp nT 0 0 cm mn kp bd tu la gd ct lf fl f1 f2 ck H locs ls (by omega) ⟨Nat.le_of_lt (hC 0 (by omega)), Nat.le_of_lt (hM 0 (by omega)), hB 0 (by omega)⟩ (hP.sub [0, 1, 2, 3, 4, 5, 6, 7, 8, 9] rfl) (hD.sub [0, 1, 2, 3, 4, 5, 6, 7, 8, 9] (by decide) rfl) hS (lv_sub hl [0, 1, 2, 3, 4] rfl) (by rw [hG0]; unfold drM; rw [if_pos rfl])
  · skip
    have hl : lv_has ls 5 [(2, .int (nI nT)), (0, .ref o), (1, .int (nI 1))] := hl
    have hP : va_P D vwCl [(o, .inr (5, [.int 0, .ref mt, .int (nI 0), .int lim, .ref mo, .int (nI nO), .ref mf, .int (nI nF), .ref mc, .ref mm, .ref mk, .ref mb, .int lf, .int fl, .ref mu, .int f1, .int f2, .int ck, .ref ml, .ref mg, .ref mx])), (mc, .inl (cI, 3, .inl (fun j => nI (cm j)))), (mm, .inl (cI, 3, .inl (fun j => nI (mn j)))), (mk, .inl (cI, 1200, .inl kp)), (mb, .inl (cB, 3, .inl bd)), (mu, .inl (cB, 3, .inl tu)), (ml, .inl (cI, 3, .inl la)), (mg, .inl (cI, 1200, .inl gd)), (mx, .inl (cI, 12, .inl ct)), (mt, .inl (cI, 400, .inl fT))] H := hP
    have hD : va_D A [(o, .inr (5, [.int 0, .ref mt, .int (nI 0), .int lim, .ref mo, .int (nI nO), .ref mf, .int (nI nF), .ref mc, .ref mm, .ref mk, .ref mb, .int lf, .int fl, .ref mu, .int f1, .int f2, .int ck, .ref ml, .ref mg, .ref mx])), (mc, .inl (cI, 3, .inl (fun j => nI (cm j)))), (mm, .inl (cI, 3, .inl (fun j => nI (mn j)))), (mk, .inl (cI, 1200, .inl kp)), (mb, .inl (cB, 3, .inl bd)), (mu, .inl (cB, 3, .inl tu)), (ml, .inl (cI, 3, .inl la)), (mg, .inl (cI, 1200, .inl gd)), (mx, .inl (cI, 12, .inl ct)), (mt, .inl (cI, 400, .inl fT))] := hD
    refine lv_if_ne (tgt := 24) hx hb d_M_raw_19 (by decide) (fun _ => ?_) (fun c19 => absurd c19 (by decide))
    refine lv_iconst (v := 0) hx hb d_M_raw_24 (by decide +kernel) ?_
    refine lv_istore_n (lv' := [(3, .int 0), (2, .int (nI nT)), (0, .ref o), (1, .int (nI 1))]) hx hb d_M_raw_25 rfl hl (by decide) rfl (fun ls hl => ?_)
    refine lv_iconst (v := 0) hx hb d_M_raw_26 (by decide +kernel) ?_
    refine lv_istore (lv' := [(4, .int 0), (3, .int 0), (2, .int (nI nT)), (0, .ref o), (1, .int (nI 1))]) hx hb d_M_raw_27 hl (by decide) rfl (fun ls hl => ?_)
    obtain ⟨G0, hG0⟩ : ∃ G0, G0 = drM 0 nT fT lim 1 (cm, mn, kp, bd, tu, la, gd, ct, lf, fl, f1, f2, ck) := ⟨_, rfl⟩
    rw [← hG0]
    have lp : ∀ (q : Nat) (k : Nat) (good : Int32) (cm : Nat → Nat) (mn : Nat → Nat) (kp : Nat → Int32) (bd : Nat → Int32) (tu : Nat → Int32) (la : Nat → Int32) (gd : Nat → Int32) (ct : Nat → Int32) (lf : Int32) (fl : Int32) (f1 : Int32) (f2 : Int32) (ck : Int32) (H : Heap) (locs : List Loc) (ls : Array Slot), k + q = nT → BN 1 (536870912 + k) (cm, mn, kp, bd, tu, la, gd, ct, lf, fl, f1, f2, ck) → va_P D vwCl [(o, .inr (5, [.int 0, .ref mt, .int (nI 0), .int lim, .ref mo, .int (nI nO), .ref mf, .int (nI nF), .ref mc, .ref mm, .ref mk, .ref mb, .int lf, .int fl, .ref mu, .int f1, .int f2, .int ck, .ref ml, .ref mg, .ref mx])), (mc, .inl (cI, 3, .inl (fun j => nI (cm j)))), (mm, .inl (cI, 3, .inl (fun j => nI (mn j)))), (mk, .inl (cI, 1200, .inl kp)), (mb, .inl (cB, 3, .inl bd)), (mu, .inl (cB, 3, .inl tu)), (ml, .inl (cI, 3, .inl la)), (mg, .inl (cI, 1200, .inl gd)), (mx, .inl (cI, 12, .inl ct)), (mt, .inl (cI, 400, .inl fT))] H → va_D A [(o, .inr (5, [.int 0, .ref mt, .int (nI 0), .int lim, .ref mo, .int (nI nO), .ref mf, .int (nI nF), .ref mc, .ref mm, .ref mk, .ref mb, .int lf, .int fl, .ref mu, .int f1, .int f2, .int ck, .ref ml, .ref mg, .ref mx])), (mc, .inl (cI, 3, .inl (fun j => nI (cm j)))), (mm, .inl (cI, 3, .inl (fun j => nI (mn j)))), (mk, .inl (cI, 1200, .inl kp)), (mb, .inl (cB, 3, .inl bd)), (mu, .inl (cB, 3, .inl tu)), (ml, .inl (cI, 3, .inl la)), (mg, .inl (cI, 1200, .inl gd)), (mx, .inl (cI, 12, .inl ct)), (mt, .inl (cI, 400, .inl fT))] → va_S A s.heap H locs → lv_has ls 5 [(4, .int (nI k)), (3, .int good), (2, .int (nI nT)), (0, .ref o), (1, .int (nI 1))] → ((drn (takeM1 lim) fT q k good (cm, mn, kp, bd, tu, la, gd, ct, lf, fl, f1, f2, ck)).1, 0, (drn (takeM1 lim) fT q k good (cm, mn, kp, bd, tu, la, gd, ct, lf, fl, f1, f2, ck)).2) = G0 → W p l e ({ frames := 3, cells := 0, slots := 0, locals := 110 } : Room) s m ([.ref o, .int 1] : List Value).toArray below meth c H locs 0 0 (MQ below (va_Qi (fun (v : Int32) (u : Nat × MR) => (v, u) = G0) (ft_B D vwCl [(cI, .int), (cB, .boolean)] A (fun u : Nat × MR => [(o, .inr (5, [.int 0, .ref mt, .int (nI u.1), .int lim, .ref mo, .int (nI nO), .ref mf, .int (nI nF), .ref mc, .ref mm, .ref mk, .ref mb, .int u.2.2.2.2.2.2.2.2.2.1, .int u.2.2.2.2.2.2.2.2.2.2.1, .ref mu, .int u.2.2.2.2.2.2.2.2.2.2.2.1, .int u.2.2.2.2.2.2.2.2.2.2.2.2.1, .int u.2.2.2.2.2.2.2.2.2.2.2.2.2, .ref ml, .ref mg, .ref mx])), (mc, .inl (cI, 3, .inl (fun j => nI (u.2.1 j)))), (mm, .inl (cI, 3, .inl (fun j => nI (u.2.2.1 j)))), (mk, .inl (cI, 1200, .inl u.2.2.2.1)), (mb, .inl (cB, 3, .inl u.2.2.2.2.1)), (mu, .inl (cB, 3, .inl u.2.2.2.2.2.1)), (ml, .inl (cI, 3, .inl u.2.2.2.2.2.2.1)), (mg, .inl (cI, 1200, .inl u.2.2.2.2.2.2.2.1)), (mx, .inl (cI, 12, .inl u.2.2.2.2.2.2.2.2.1)), (mt, .inl (cI, 400, .inl fT))])) A) ([.ref o, .int 1] : List Value).toArray s 0 0 A) (F0 m 29 ls []) := by
      intro q
      induction q with
      | zero =>
        intro k good cm mn kp bd tu la gd ct lf fl f1 f2 ck H locs ls hk hbn hP hD hS hl heq
        refine lv_iload hx hb d_M_raw_29 (lv_at hl 0 rfl) ?_
        refine lv_iload_n hx hb d_M_raw_31 rfl (lv_at hl 2 rfl) ?_
        refine lv_icmp_ge (tgt := 65) hx hb d_M_raw_32 (by decide) (fun c32 => ?_) (fun c32 => absurd (nI_le (by omega) (by omega)) c32)
        have c32 : nT ≤ k := (nI_leI (by omega) (by omega)).mp c32
        refine lv_iload_n hx hb d_M_raw_65 rfl (lv_at hl 1 rfl) ?_
        exact ft_reti (0, (cm, mn, kp, bd, tu, la, gd, ct, lf, fl, f1, f2, ck)) hx hb hr hlocks hP hK hD hS heq d_M_raw_66
      | succ q ih_lp =>
        intro k good cm mn kp bd tu la gd ct lf fl f1 f2 ck H locs ls hk hbn hP hD hS hl heq
        refine lv_iload hx hb d_M_raw_29 (lv_at hl 0 rfl) ?_
        refine lv_iload_n hx hb d_M_raw_31 rfl (lv_at hl 2 rfl) ?_
        refine lv_icmp_ge (tgt := 65) hx hb d_M_raw_32 (by decide) (fun c32 => absurd c32 (nI_ge (by omega) (by omega))) (fun c32 => ?_)
        have c32 : ¬ nT ≤ k := fun h => c32 ((nI_leI (by omega) (by omega)).mpr h)
        refine lv_iload_n hx hb d_M_raw_35 rfl (lv_at hl 1 rfl) ?_
        refine lv_aload_n hx hb d_M_raw_36 rfl (lv_at hl 3 rfl) ?_
        refine lv_iload_n hx hb d_M_raw_37 rfl (lv_at hl 4 rfl) ?_
        refine lv_aload_n hx hb d_M_raw_38 rfl (lv_at hl 3 rfl) ?_
        refine va_get (D := D) (ci := 5) (v := .ref mt) (C := R_M) (T := F_M) (N := 21) hx hb ht bi_M hown hK hP 0 rfl rfl 1 (by decide) (ht _ bw_408) (fun _ h9 => h9) rfl d_M_raw_39 ?_
        refine lv_iload hx hb d_M_raw_42 (lv_at hl 0 rfl) ?_
        refine va_iald hx hb hK hP 9 0 rfl rfl (vp_in_nI (by omega) (by omega)) d_M_raw_44 ?_
        refine ft_top (congrArg fT (nI_clamp (n := k) (by omega))) ?_
        refine ft_ci (wc := [(o, .inr (5, [.int 0, .ref mt, .int (nI 0), .int lim, .ref mo, .int (nI nO), .ref mf, .int (nI nF), .ref mc, .ref mm, .ref mk, .ref mb, .int lf, .int fl, .ref mu, .int f1, .int f2, .int ck, .ref ml, .ref mg, .ref mx])), (mc, .inl (cI, 3, .inl (fun j => nI (cm j)))), (mm, .inl (cI, 3, .inl (fun j => nI (mn j)))), (mk, .inl (cI, 1200, .inl kp)), (mb, .inl (cB, 3, .inl bd)), (mu, .inl (cB, 3, .inl tu)), (ml, .inl (cI, 3, .inl la)), (mg, .inl (cI, 1200, .inl gd)), (mx, .inl (cI, 12, .inl ct))]) (wr := [(mt, .inl (cI, 400, .inl fT))]) (va_runV (As := [.int (nI 1), .int (fT k)]) (rest := [.int good]) ⟨hx, hb, hml, hown, ht⟩ (c_M_take_1 l D cI cB o mt mo mf mc mm mk mb mu ml mg mx 0 lim lf fl f1 f2 ck 0 nO nF cm mn kp bd tu la gd ct (Nat.lt_of_le_of_lt hbn.1 (by omega)) (Nat.lt_of_le_of_lt hbn.2.1 (by omega)) hbn.2.2 hL (fT k) H.size) (ft_cwV 2 ht bw_532 bw_534 bw_23 bw_39 bw_535 (by decide) ⟨Nat.le_of_ble_eq_true rfl, Nat.le_of_ble_eq_true rfl⟩) ⟨ft_blind, va_recv hK hP (ci := 5) (q0 := 0) rfl rfl, (ft_pre hP hD hK hNW [0, 1, 2, 3, 4, 5, 6, 7, 8] [0, 1] rfl rfl (by decide) rfl _)⟩ rfl rfl hl.1 rfl (lv_room (Nat.le_of_ble_eq_true rfl)) d_M_raw_45 ⟨Nat.le_of_ble_eq_true rfl, Nat.le_of_ble_eq_true rfl⟩) hP hD hS hA [0, 1, 2, 3, 4, 5, 6, 7, 8] [9] rfl rfl (by decide) (by decide) (fun r_5 u_6 H locs hu_6 hP hD hS => ?_)
        obtain ⟨cm1, mn1, kp1, bd1, tu1, la1, gd1, ct1, lf1, fl1, f11, f21, ck1⟩ := u_6
        have e_t : (r_5, cm1, mn1, kp1, bd1, tu1, la1, gd1, ct1, lf1, fl1, f11, f21, ck1) = takeM1 lim (fT k) (cm, mn, kp, bd, tu, la, gd, ct, lf, fl, f1, f2, ck) := hu_6
        have hP : va_P D vwCl [(mt, .inl (cI, 400, .inl fT)), (o, .inr (5, [.int 0, .ref mt, .int (nI 0), .int lim, .ref mo, .int (nI nO), .ref mf, .int (nI nF), .ref mc, .ref mm, .ref mk, .ref mb, .int lf1, .int fl1, .ref mu, .int f11, .int f21, .int ck1, .ref ml, .ref mg, .ref mx])), (mc, .inl (cI, 3, .inl (fun j => nI (cm1 j)))), (mm, .inl (cI, 3, .inl (fun j => nI (mn1 j)))), (mk, .inl (cI, 1200, .inl kp1)), (mb, .inl (cB, 3, .inl bd1)), (mu, .inl (cB, 3, .inl tu1)), (ml, .inl (cI, 3, .inl la1)), (mg, .inl (cI, 1200, .inl gd1)), (mx, .inl (cI, 12, .inl ct1))] H := hP
        have hD : va_D A [(mt, .inl (cI, 400, .inl fT)), (o, .inr (5, [.int 0, .ref mt, .int (nI 0), .int lim, .ref mo, .int (nI nO), .ref mf, .int (nI nF), .ref mc, .ref mm, .ref mk, .ref mb, .int lf1, .int fl1, .ref mu, .int f11, .int f21, .int ck1, .ref ml, .ref mg, .ref mx])), (mc, .inl (cI, 3, .inl (fun j => nI (cm1 j)))), (mm, .inl (cI, 3, .inl (fun j => nI (mn1 j)))), (mk, .inl (cI, 1200, .inl kp1)), (mb, .inl (cB, 3, .inl bd1)), (mu, .inl (cB, 3, .inl tu1)), (ml, .inl (cI, 3, .inl la1)), (mg, .inl (cI, 1200, .inl gd1)), (mx, .inl (cI, 12, .inl ct1))] := hD
        refine lv_iconst (v := 1) hx hb d_M_raw_48 (by decide +kernel) ?_
        refine lv_icmp_ne (tgt := 56) hx hb d_M_raw_49 (by decide) (fun c49 => ?_) (fun c49 => ?_)
        · skip
          refine lv_iconst (v := 0) hx hb d_M_raw_56 (by decide +kernel) ?_
          refine lv_iadd hx hb d_M_raw_57 ?_
          refine lv_istore_n (lv' := [(3, .int (good + 0)), (4, .int (nI k)), (2, .int (nI nT)), (0, .ref o), (1, .int (nI 1))]) hx hb d_M_raw_58 rfl hl (by decide) rfl (fun ls hl => ?_)
          refine lv_iinc (v := nI (k + 1)) (lv' := [(4, .int (nI (k + 1))), (3, .int (good + 0)), (2, .int (nI nT)), (0, .ref o), (1, .int (nI 1))]) hx hb d_M_raw_59 hl (k := 1) rfl (nI_1 k) (by decide) rfl (fun ls hl => ?_)
          refine lv_goto (tgt := 29) hx hb d_M_raw_62 (by decide) ?_
          exact ih_lp (k + 1) (good + 0) cm1 mn1 kp1 bd1 tu1 la1 gd1 ct1 lf1 fl1 f11 f21 ck1 H locs ls (by omega) (by have q := takeM1_bn (lim := lim) (b := fT k) hbn; rw [← e_t] at q; exact q) (hP.sub [1, 2, 3, 4, 5, 6, 7, 8, 9, 0] rfl) (hD.sub [1, 2, 3, 4, 5, 6, 7, 8, 9, 0] (by decide) rfl) hS (lv_sub hl [0, 1, 2, 3, 4] rfl) (by rw [← heq]; show _ = ((drn (takeM1 lim) fT q (k + 1) (if (takeM1 lim (fT k) (cm, mn, kp, bd, tu, la, gd, ct, lf, fl, f1, f2, ck)).1 = 1 then good + 1 else good) (takeM1 lim (fT k) (cm, mn, kp, bd, tu, la, gd, ct, lf, fl, f1, f2, ck)).2).1, 0, (drn (takeM1 lim) fT q (k + 1) (if (takeM1 lim (fT k) (cm, mn, kp, bd, tu, la, gd, ct, lf, fl, f1, f2, ck)).1 = 1 then good + 1 else good) (takeM1 lim (fT k) (cm, mn, kp, bd, tu, la, gd, ct, lf, fl, f1, f2, ck)).2).2); rw [← e_t]; simp [c49, Int32.add_zero])
        · skip
          refine lv_iconst (v := 1) hx hb d_M_raw_52 (by decide +kernel) ?_
          refine lv_goto (tgt := 57) hx hb d_M_raw_53 (by decide) ?_
          refine lv_iadd hx hb d_M_raw_57 ?_
          refine lv_istore_n (lv' := [(3, .int (good + 1)), (4, .int (nI k)), (2, .int (nI nT)), (0, .ref o), (1, .int (nI 1))]) hx hb d_M_raw_58 rfl hl (by decide) rfl (fun ls hl => ?_)
          refine lv_iinc (v := nI (k + 1)) (lv' := [(4, .int (nI (k + 1))), (3, .int (good + 1)), (2, .int (nI nT)), (0, .ref o), (1, .int (nI 1))]) hx hb d_M_raw_59 hl (k := 1) rfl (nI_1 k) (by decide) rfl (fun ls hl => ?_)
          refine lv_goto (tgt := 29) hx hb d_M_raw_62 (by decide) ?_
          exact ih_lp (k + 1) (good + 1) cm1 mn1 kp1 bd1 tu1 la1 gd1 ct1 lf1 fl1 f11 f21 ck1 H locs ls (by omega) (by have q := takeM1_bn (lim := lim) (b := fT k) hbn; rw [← e_t] at q; exact q) (hP.sub [1, 2, 3, 4, 5, 6, 7, 8, 9, 0] rfl) (hD.sub [1, 2, 3, 4, 5, 6, 7, 8, 9, 0] (by decide) rfl) hS (lv_sub hl [0, 1, 2, 3, 4] rfl) (by rw [← heq]; show _ = ((drn (takeM1 lim) fT q (k + 1) (if (takeM1 lim (fT k) (cm, mn, kp, bd, tu, la, gd, ct, lf, fl, f1, f2, ck)).1 = 1 then good + 1 else good) (takeM1 lim (fT k) (cm, mn, kp, bd, tu, la, gd, ct, lf, fl, f1, f2, ck)).2).1, 0, (drn (takeM1 lim) fT q (k + 1) (if (takeM1 lim (fT k) (cm, mn, kp, bd, tu, la, gd, ct, lf, fl, f1, f2, ck)).1 = 1 then good + 1 else good) (takeM1 lim (fT k) (cm, mn, kp, bd, tu, la, gd, ct, lf, fl, f1, f2, ck)).2).2); rw [← e_t]; simp [c49, Int32.add_zero])
    exact lp nT 0 0 cm mn kp bd tu la gd ct lf fl f1 f2 ck H locs ls (by omega) ⟨Nat.le_of_lt (hC 1 (by omega)), Nat.le_of_lt (hM 1 (by omega)), hB 1 (by omega)⟩ (hP.sub [0, 1, 2, 3, 4, 5, 6, 7, 8, 9] rfl) (hD.sub [0, 1, 2, 3, 4, 5, 6, 7, 8, 9] (by decide) rfl) hS (lv_sub hl [0, 1, 2, 3, 4] rfl) (by rw [hG0]; unfold drM; rw [if_neg (by decide), if_pos rfl])
  · skip
    have hl : lv_has ls 5 [(2, .int (nI nT)), (0, .ref o), (1, .int (nI 2))] := hl
    have hP : va_P D vwCl [(o, .inr (5, [.int 0, .ref mt, .int (nI 0), .int lim, .ref mo, .int (nI nO), .ref mf, .int (nI nF), .ref mc, .ref mm, .ref mk, .ref mb, .int lf, .int fl, .ref mu, .int f1, .int f2, .int ck, .ref ml, .ref mg, .ref mx])), (mc, .inl (cI, 3, .inl (fun j => nI (cm j)))), (mm, .inl (cI, 3, .inl (fun j => nI (mn j)))), (mk, .inl (cI, 1200, .inl kp)), (mb, .inl (cB, 3, .inl bd)), (mu, .inl (cB, 3, .inl tu)), (ml, .inl (cI, 3, .inl la)), (mg, .inl (cI, 1200, .inl gd)), (mx, .inl (cI, 12, .inl ct)), (mt, .inl (cI, 400, .inl fT))] H := hP
    have hD : va_D A [(o, .inr (5, [.int 0, .ref mt, .int (nI 0), .int lim, .ref mo, .int (nI nO), .ref mf, .int (nI nF), .ref mc, .ref mm, .ref mk, .ref mb, .int lf, .int fl, .ref mu, .int f1, .int f2, .int ck, .ref ml, .ref mg, .ref mx])), (mc, .inl (cI, 3, .inl (fun j => nI (cm j)))), (mm, .inl (cI, 3, .inl (fun j => nI (mn j)))), (mk, .inl (cI, 1200, .inl kp)), (mb, .inl (cB, 3, .inl bd)), (mu, .inl (cB, 3, .inl tu)), (ml, .inl (cI, 3, .inl la)), (mg, .inl (cI, 1200, .inl gd)), (mx, .inl (cI, 12, .inl ct)), (mt, .inl (cI, 400, .inl fT))] := hD
    refine lv_if_ne (tgt := 24) hx hb d_M_raw_19 (by decide) (fun _ => ?_) (fun c19 => absurd c19 (by decide))
    refine lv_iconst (v := 0) hx hb d_M_raw_24 (by decide +kernel) ?_
    refine lv_istore_n (lv' := [(3, .int 0), (2, .int (nI nT)), (0, .ref o), (1, .int (nI 2))]) hx hb d_M_raw_25 rfl hl (by decide) rfl (fun ls hl => ?_)
    refine lv_iconst (v := 0) hx hb d_M_raw_26 (by decide +kernel) ?_
    refine lv_istore (lv' := [(4, .int 0), (3, .int 0), (2, .int (nI nT)), (0, .ref o), (1, .int (nI 2))]) hx hb d_M_raw_27 hl (by decide) rfl (fun ls hl => ?_)
    obtain ⟨G0, hG0⟩ : ∃ G0, G0 = drM 0 nT fT lim 2 (cm, mn, kp, bd, tu, la, gd, ct, lf, fl, f1, f2, ck) := ⟨_, rfl⟩
    rw [← hG0]
    have lp : ∀ (q : Nat) (k : Nat) (good : Int32) (cm : Nat → Nat) (mn : Nat → Nat) (kp : Nat → Int32) (bd : Nat → Int32) (tu : Nat → Int32) (la : Nat → Int32) (gd : Nat → Int32) (ct : Nat → Int32) (lf : Int32) (fl : Int32) (f1 : Int32) (f2 : Int32) (ck : Int32) (H : Heap) (locs : List Loc) (ls : Array Slot), k + q = nT → BN 2 (536870912 + k) (cm, mn, kp, bd, tu, la, gd, ct, lf, fl, f1, f2, ck) → va_P D vwCl [(o, .inr (5, [.int 0, .ref mt, .int (nI 0), .int lim, .ref mo, .int (nI nO), .ref mf, .int (nI nF), .ref mc, .ref mm, .ref mk, .ref mb, .int lf, .int fl, .ref mu, .int f1, .int f2, .int ck, .ref ml, .ref mg, .ref mx])), (mc, .inl (cI, 3, .inl (fun j => nI (cm j)))), (mm, .inl (cI, 3, .inl (fun j => nI (mn j)))), (mk, .inl (cI, 1200, .inl kp)), (mb, .inl (cB, 3, .inl bd)), (mu, .inl (cB, 3, .inl tu)), (ml, .inl (cI, 3, .inl la)), (mg, .inl (cI, 1200, .inl gd)), (mx, .inl (cI, 12, .inl ct)), (mt, .inl (cI, 400, .inl fT))] H → va_D A [(o, .inr (5, [.int 0, .ref mt, .int (nI 0), .int lim, .ref mo, .int (nI nO), .ref mf, .int (nI nF), .ref mc, .ref mm, .ref mk, .ref mb, .int lf, .int fl, .ref mu, .int f1, .int f2, .int ck, .ref ml, .ref mg, .ref mx])), (mc, .inl (cI, 3, .inl (fun j => nI (cm j)))), (mm, .inl (cI, 3, .inl (fun j => nI (mn j)))), (mk, .inl (cI, 1200, .inl kp)), (mb, .inl (cB, 3, .inl bd)), (mu, .inl (cB, 3, .inl tu)), (ml, .inl (cI, 3, .inl la)), (mg, .inl (cI, 1200, .inl gd)), (mx, .inl (cI, 12, .inl ct)), (mt, .inl (cI, 400, .inl fT))] → va_S A s.heap H locs → lv_has ls 5 [(4, .int (nI k)), (3, .int good), (2, .int (nI nT)), (0, .ref o), (1, .int (nI 2))] → ((drn (takeM2 lim) fT q k good (cm, mn, kp, bd, tu, la, gd, ct, lf, fl, f1, f2, ck)).1, 0, (drn (takeM2 lim) fT q k good (cm, mn, kp, bd, tu, la, gd, ct, lf, fl, f1, f2, ck)).2) = G0 → W p l e ({ frames := 3, cells := 0, slots := 0, locals := 110 } : Room) s m ([.ref o, .int 2] : List Value).toArray below meth c H locs 0 0 (MQ below (va_Qi (fun (v : Int32) (u : Nat × MR) => (v, u) = G0) (ft_B D vwCl [(cI, .int), (cB, .boolean)] A (fun u : Nat × MR => [(o, .inr (5, [.int 0, .ref mt, .int (nI u.1), .int lim, .ref mo, .int (nI nO), .ref mf, .int (nI nF), .ref mc, .ref mm, .ref mk, .ref mb, .int u.2.2.2.2.2.2.2.2.2.1, .int u.2.2.2.2.2.2.2.2.2.2.1, .ref mu, .int u.2.2.2.2.2.2.2.2.2.2.2.1, .int u.2.2.2.2.2.2.2.2.2.2.2.2.1, .int u.2.2.2.2.2.2.2.2.2.2.2.2.2, .ref ml, .ref mg, .ref mx])), (mc, .inl (cI, 3, .inl (fun j => nI (u.2.1 j)))), (mm, .inl (cI, 3, .inl (fun j => nI (u.2.2.1 j)))), (mk, .inl (cI, 1200, .inl u.2.2.2.1)), (mb, .inl (cB, 3, .inl u.2.2.2.2.1)), (mu, .inl (cB, 3, .inl u.2.2.2.2.2.1)), (ml, .inl (cI, 3, .inl u.2.2.2.2.2.2.1)), (mg, .inl (cI, 1200, .inl u.2.2.2.2.2.2.2.1)), (mx, .inl (cI, 12, .inl u.2.2.2.2.2.2.2.2.1)), (mt, .inl (cI, 400, .inl fT))])) A) ([.ref o, .int 2] : List Value).toArray s 0 0 A) (F0 m 29 ls []) := by
      intro q
      induction q with
      | zero =>
        intro k good cm mn kp bd tu la gd ct lf fl f1 f2 ck H locs ls hk hbn hP hD hS hl heq
        refine lv_iload hx hb d_M_raw_29 (lv_at hl 0 rfl) ?_
        refine lv_iload_n hx hb d_M_raw_31 rfl (lv_at hl 2 rfl) ?_
        refine lv_icmp_ge (tgt := 65) hx hb d_M_raw_32 (by decide) (fun c32 => ?_) (fun c32 => absurd (nI_le (by omega) (by omega)) c32)
        have c32 : nT ≤ k := (nI_leI (by omega) (by omega)).mp c32
        refine lv_iload_n hx hb d_M_raw_65 rfl (lv_at hl 1 rfl) ?_
        exact ft_reti (0, (cm, mn, kp, bd, tu, la, gd, ct, lf, fl, f1, f2, ck)) hx hb hr hlocks hP hK hD hS heq d_M_raw_66
      | succ q ih_lp =>
        intro k good cm mn kp bd tu la gd ct lf fl f1 f2 ck H locs ls hk hbn hP hD hS hl heq
        refine lv_iload hx hb d_M_raw_29 (lv_at hl 0 rfl) ?_
        refine lv_iload_n hx hb d_M_raw_31 rfl (lv_at hl 2 rfl) ?_
        refine lv_icmp_ge (tgt := 65) hx hb d_M_raw_32 (by decide) (fun c32 => absurd c32 (nI_ge (by omega) (by omega))) (fun c32 => ?_)
        have c32 : ¬ nT ≤ k := fun h => c32 ((nI_leI (by omega) (by omega)).mpr h)
        refine lv_iload_n hx hb d_M_raw_35 rfl (lv_at hl 1 rfl) ?_
        refine lv_aload_n hx hb d_M_raw_36 rfl (lv_at hl 3 rfl) ?_
        refine lv_iload_n hx hb d_M_raw_37 rfl (lv_at hl 4 rfl) ?_
        refine lv_aload_n hx hb d_M_raw_38 rfl (lv_at hl 3 rfl) ?_
        refine va_get (D := D) (ci := 5) (v := .ref mt) (C := R_M) (T := F_M) (N := 21) hx hb ht bi_M hown hK hP 0 rfl rfl 1 (by decide) (ht _ bw_408) (fun _ h9 => h9) rfl d_M_raw_39 ?_
        refine lv_iload hx hb d_M_raw_42 (lv_at hl 0 rfl) ?_
        refine va_iald hx hb hK hP 9 0 rfl rfl (vp_in_nI (by omega) (by omega)) d_M_raw_44 ?_
        refine ft_top (congrArg fT (nI_clamp (n := k) (by omega))) ?_
        refine ft_ci (wc := [(o, .inr (5, [.int 0, .ref mt, .int (nI 0), .int lim, .ref mo, .int (nI nO), .ref mf, .int (nI nF), .ref mc, .ref mm, .ref mk, .ref mb, .int lf, .int fl, .ref mu, .int f1, .int f2, .int ck, .ref ml, .ref mg, .ref mx])), (mc, .inl (cI, 3, .inl (fun j => nI (cm j)))), (mm, .inl (cI, 3, .inl (fun j => nI (mn j)))), (mk, .inl (cI, 1200, .inl kp)), (mb, .inl (cB, 3, .inl bd)), (mu, .inl (cB, 3, .inl tu)), (ml, .inl (cI, 3, .inl la)), (mg, .inl (cI, 1200, .inl gd)), (mx, .inl (cI, 12, .inl ct))]) (wr := [(mt, .inl (cI, 400, .inl fT))]) (va_runV (As := [.int (nI 2), .int (fT k)]) (rest := [.int good]) ⟨hx, hb, hml, hown, ht⟩ (c_M_take_2 l D cI cB o mt mo mf mc mm mk mb mu ml mg mx 0 lim lf fl f1 f2 ck 0 nO nF cm mn kp bd tu la gd ct (Nat.lt_of_le_of_lt hbn.1 (by omega)) (Nat.lt_of_le_of_lt hbn.2.1 (by omega)) hbn.2.2 hL (fT k) H.size) (ft_cwV 2 ht bw_532 bw_534 bw_23 bw_39 bw_535 (by decide) ⟨Nat.le_of_ble_eq_true rfl, Nat.le_of_ble_eq_true rfl⟩) ⟨ft_blind, va_recv hK hP (ci := 5) (q0 := 0) rfl rfl, (ft_pre hP hD hK hNW [0, 1, 2, 3, 4, 5, 6, 7, 8] [0, 1] rfl rfl (by decide) rfl _)⟩ rfl rfl hl.1 rfl (lv_room (Nat.le_of_ble_eq_true rfl)) d_M_raw_45 ⟨Nat.le_of_ble_eq_true rfl, Nat.le_of_ble_eq_true rfl⟩) hP hD hS hA [0, 1, 2, 3, 4, 5, 6, 7, 8] [9] rfl rfl (by decide) (by decide) (fun r_7 u_8 H locs hu_8 hP hD hS => ?_)
        obtain ⟨cm1, mn1, kp1, bd1, tu1, la1, gd1, ct1, lf1, fl1, f11, f21, ck1⟩ := u_8
        have e_t : (r_7, cm1, mn1, kp1, bd1, tu1, la1, gd1, ct1, lf1, fl1, f11, f21, ck1) = takeM2 lim (fT k) (cm, mn, kp, bd, tu, la, gd, ct, lf, fl, f1, f2, ck) := hu_8
        have hP : va_P D vwCl [(mt, .inl (cI, 400, .inl fT)), (o, .inr (5, [.int 0, .ref mt, .int (nI 0), .int lim, .ref mo, .int (nI nO), .ref mf, .int (nI nF), .ref mc, .ref mm, .ref mk, .ref mb, .int lf1, .int fl1, .ref mu, .int f11, .int f21, .int ck1, .ref ml, .ref mg, .ref mx])), (mc, .inl (cI, 3, .inl (fun j => nI (cm1 j)))), (mm, .inl (cI, 3, .inl (fun j => nI (mn1 j)))), (mk, .inl (cI, 1200, .inl kp1)), (mb, .inl (cB, 3, .inl bd1)), (mu, .inl (cB, 3, .inl tu1)), (ml, .inl (cI, 3, .inl la1)), (mg, .inl (cI, 1200, .inl gd1)), (mx, .inl (cI, 12, .inl ct1))] H := hP
        have hD : va_D A [(mt, .inl (cI, 400, .inl fT)), (o, .inr (5, [.int 0, .ref mt, .int (nI 0), .int lim, .ref mo, .int (nI nO), .ref mf, .int (nI nF), .ref mc, .ref mm, .ref mk, .ref mb, .int lf1, .int fl1, .ref mu, .int f11, .int f21, .int ck1, .ref ml, .ref mg, .ref mx])), (mc, .inl (cI, 3, .inl (fun j => nI (cm1 j)))), (mm, .inl (cI, 3, .inl (fun j => nI (mn1 j)))), (mk, .inl (cI, 1200, .inl kp1)), (mb, .inl (cB, 3, .inl bd1)), (mu, .inl (cB, 3, .inl tu1)), (ml, .inl (cI, 3, .inl la1)), (mg, .inl (cI, 1200, .inl gd1)), (mx, .inl (cI, 12, .inl ct1))] := hD
        refine lv_iconst (v := 1) hx hb d_M_raw_48 (by decide +kernel) ?_
        refine lv_icmp_ne (tgt := 56) hx hb d_M_raw_49 (by decide) (fun c49 => ?_) (fun c49 => ?_)
        · skip
          refine lv_iconst (v := 0) hx hb d_M_raw_56 (by decide +kernel) ?_
          refine lv_iadd hx hb d_M_raw_57 ?_
          refine lv_istore_n (lv' := [(3, .int (good + 0)), (4, .int (nI k)), (2, .int (nI nT)), (0, .ref o), (1, .int (nI 2))]) hx hb d_M_raw_58 rfl hl (by decide) rfl (fun ls hl => ?_)
          refine lv_iinc (v := nI (k + 1)) (lv' := [(4, .int (nI (k + 1))), (3, .int (good + 0)), (2, .int (nI nT)), (0, .ref o), (1, .int (nI 2))]) hx hb d_M_raw_59 hl (k := 1) rfl (nI_1 k) (by decide) rfl (fun ls hl => ?_)
          refine lv_goto (tgt := 29) hx hb d_M_raw_62 (by decide) ?_
          exact ih_lp (k + 1) (good + 0) cm1 mn1 kp1 bd1 tu1 la1 gd1 ct1 lf1 fl1 f11 f21 ck1 H locs ls (by omega) (by have q := takeM2_bn (lim := lim) (b := fT k) hbn; rw [← e_t] at q; exact q) (hP.sub [1, 2, 3, 4, 5, 6, 7, 8, 9, 0] rfl) (hD.sub [1, 2, 3, 4, 5, 6, 7, 8, 9, 0] (by decide) rfl) hS (lv_sub hl [0, 1, 2, 3, 4] rfl) (by rw [← heq]; show _ = ((drn (takeM2 lim) fT q (k + 1) (if (takeM2 lim (fT k) (cm, mn, kp, bd, tu, la, gd, ct, lf, fl, f1, f2, ck)).1 = 1 then good + 1 else good) (takeM2 lim (fT k) (cm, mn, kp, bd, tu, la, gd, ct, lf, fl, f1, f2, ck)).2).1, 0, (drn (takeM2 lim) fT q (k + 1) (if (takeM2 lim (fT k) (cm, mn, kp, bd, tu, la, gd, ct, lf, fl, f1, f2, ck)).1 = 1 then good + 1 else good) (takeM2 lim (fT k) (cm, mn, kp, bd, tu, la, gd, ct, lf, fl, f1, f2, ck)).2).2); rw [← e_t]; simp [c49, Int32.add_zero])
        · skip
          refine lv_iconst (v := 1) hx hb d_M_raw_52 (by decide +kernel) ?_
          refine lv_goto (tgt := 57) hx hb d_M_raw_53 (by decide) ?_
          refine lv_iadd hx hb d_M_raw_57 ?_
          refine lv_istore_n (lv' := [(3, .int (good + 1)), (4, .int (nI k)), (2, .int (nI nT)), (0, .ref o), (1, .int (nI 2))]) hx hb d_M_raw_58 rfl hl (by decide) rfl (fun ls hl => ?_)
          refine lv_iinc (v := nI (k + 1)) (lv' := [(4, .int (nI (k + 1))), (3, .int (good + 1)), (2, .int (nI nT)), (0, .ref o), (1, .int (nI 2))]) hx hb d_M_raw_59 hl (k := 1) rfl (nI_1 k) (by decide) rfl (fun ls hl => ?_)
          refine lv_goto (tgt := 29) hx hb d_M_raw_62 (by decide) ?_
          exact ih_lp (k + 1) (good + 1) cm1 mn1 kp1 bd1 tu1 la1 gd1 ct1 lf1 fl1 f11 f21 ck1 H locs ls (by omega) (by have q := takeM2_bn (lim := lim) (b := fT k) hbn; rw [← e_t] at q; exact q) (hP.sub [1, 2, 3, 4, 5, 6, 7, 8, 9, 0] rfl) (hD.sub [1, 2, 3, 4, 5, 6, 7, 8, 9, 0] (by decide) rfl) hS (lv_sub hl [0, 1, 2, 3, 4] rfl) (by rw [← heq]; show _ = ((drn (takeM2 lim) fT q (k + 1) (if (takeM2 lim (fT k) (cm, mn, kp, bd, tu, la, gd, ct, lf, fl, f1, f2, ck)).1 = 1 then good + 1 else good) (takeM2 lim (fT k) (cm, mn, kp, bd, tu, la, gd, ct, lf, fl, f1, f2, ck)).2).1, 0, (drn (takeM2 lim) fT q (k + 1) (if (takeM2 lim (fT k) (cm, mn, kp, bd, tu, la, gd, ct, lf, fl, f1, f2, ck)).1 = 1 then good + 1 else good) (takeM2 lim (fT k) (cm, mn, kp, bd, tu, la, gd, ct, lf, fl, f1, f2, ck)).2).2); rw [← e_t]; simp [c49, Int32.add_zero])
    exact lp nT 0 0 cm mn kp bd tu la gd ct lf fl f1 f2 ck H locs ls (by omega) ⟨Nat.le_of_lt (hC 2 (by omega)), Nat.le_of_lt (hM 2 (by omega)), hB 2 (by omega)⟩ (hP.sub [0, 1, 2, 3, 4, 5, 6, 7, 8, 9] rfl) (hD.sub [0, 1, 2, 3, 4, 5, 6, 7, 8, 9] (by decide) rfl) hS (lv_sub hl [0, 1, 2, 3, 4] rfl) (by rw [hG0]; unfold drM; rw [if_neg (by decide), if_neg (by decide), if_pos rfl])
  · skip
    refine lv_if_ne (tgt := 24) hx hb d_M_raw_19 (by decide) (fun c19 => absurd (by decide) c19) (fun _ => ?_)
    refine lv_iconst (v := (-1)) hx hb d_M_raw_22 (by decide +kernel) ?_
    exact ft_reti (0, (cm, mn, kp, bd, tu, la, gd, ct, lf, fl, f1, f2, ck)) hx hb hr hlocks hP hK hD hS (by show _ = drM 0 nT fT lim way (cm, mn, kp, bd, tu, la, gd, ct, lf, fl, f1, f2, ck); unfold drM; rw [if_neg n0, if_neg n1, if_neg n2]) d_M_raw_23

set_option maxHeartbeats 4000000 in
set_option maxRecDepth 100000 in
theorem c_M_latest (l : Launch) (D : va_G) (cI : ClassId) (cB : ClassId) (o mt mo mf mc mm mk mb mu ml mg mx : Nat) (th lim lf fl f1 f2 ck : Int32) (nT nO nF : Nat) (la : Nat → Int32) (way : Int32) (sz : Nat) : ft_Mi l y_M_latest (.code y_M_latest b_M_latest 2 (some .int) :: ft_big) ({ frames := 1, cells := 0, slots := 0, locals := 30 }) D [(cI, .int), (cB, .boolean)] sz [.ref o, .int way] [(o, .inr (5, [.int th, .ref mt, .int (nI nT), .int lim, .ref mo, .int (nI nO), .ref mf, .int (nI nF), .ref mc, .ref mm, .ref mk, .ref mb, .int lf, .int fl, .ref mu, .int f1, .int f2, .int ck, .ref ml, .ref mg, .ref mx])), (ml, .inl (cI, 3, .inl la))] (fun (v : Int32) (_ : Unit) => v = pick3 way (la 0) (la 1) (la 2)) (fun _ => [(o, .inr (5, [.int 0, .ref mt, .int (nI nT), .int lim, .ref mo, .int (nI nO), .ref mf, .int (nI nF), .ref mc, .ref mm, .ref mk, .ref mb, .int lf, .int fl, .ref mu, .int f1, .int f2, .int ck, .ref ml, .ref mg, .ref mx])), (ml, .inl (cI, 3, .inl la))]) 0 0 := by
  refine ft_ei (cc := b_M_latest) (maxL := 2) (ret := (some .int)) (by decide) rfl (Nat.le_of_ble_eq_true rfl) ?_
  intro p e s m below meth c A ls hx hb hr hml hts hown hlocks hmn hP hK hD hA hS hNW hl
  have ht : ∀ w ∈ ft_big, w.before _ s = true := fun w h => hts w (List.mem_cons_of_mem _ h)
  have hP : va_P D vwCl [(o, .inr (5, [.int th, .ref mt, .int (nI nT), .int lim, .ref mo, .int (nI nO), .ref mf, .int (nI nF), .ref mc, .ref mm, .ref mk, .ref mb, .int lf, .int fl, .ref mu, .int f1, .int f2, .int ck, .ref ml, .ref mg, .ref mx])), (ml, .inl (cI, 3, .inl la))] s.heap := hP
  have hD : va_D A [(o, .inr (5, [.int th, .ref mt, .int (nI nT), .int lim, .ref mo, .int (nI nO), .ref mf, .int (nI nF), .ref mc, .ref mm, .ref mk, .ref mb, .int lf, .int fl, .ref mu, .int f1, .int f2, .int ck, .ref ml, .ref mg, .ref mx])), (ml, .inl (cI, 3, .inl la))] := hD
  have hl : lv_has ls 2 [(0, .ref o), (1, .int way)] := hl
  refine lv_aload_n hx hb d_M_latest_0 rfl (lv_at hl 0 rfl) ?_
  refine lv_iconst (v := 0) hx hb d_M_latest_1 (by decide +kernel) ?_
  refine va_put (D := D) (ci := 5) (v := .int 0) (ty := .int) (C := R_M) (T := F_M) (N := 21) hx hb ht bi_M t_M t_M_ok n_M hown hK hP hD hS 0 rfl rfl 0 (by decide) (ht _ bw_407) (fun _ h9 => h9) rfl (by decide +kernel) rfl rfl (Nat.le_of_ble_eq_true rfl) d_M_latest_2 (fun H locs hP hD hS => ?_)
  have hP : va_P D vwCl [(o, .inr (5, [.int 0, .ref mt, .int (nI nT), .int lim, .ref mo, .int (nI nO), .ref mf, .int (nI nF), .ref mc, .ref mm, .ref mk, .ref mb, .int lf, .int fl, .ref mu, .int f1, .int f2, .int ck, .ref ml, .ref mg, .ref mx])), (ml, .inl (cI, 3, .inl la))] H := hP
  have hD : va_D A [(o, .inr (5, [.int 0, .ref mt, .int (nI nT), .int lim, .ref mo, .int (nI nO), .ref mf, .int (nI nF), .ref mc, .ref mm, .ref mk, .ref mb, .int lf, .int fl, .ref mu, .int f1, .int f2, .int ck, .ref ml, .ref mg, .ref mx])), (ml, .inl (cI, 3, .inl la))] := hD
  refine lv_iload_n hx hb d_M_latest_5 rfl (lv_at hl 1 rfl) ?_
  refine ft_ci (wc := []) (wr := [(o, .inr (5, [.int 0, .ref mt, .int (nI nT), .int lim, .ref mo, .int (nI nO), .ref mf, .int (nI nF), .ref mc, .ref mm, .ref mk, .ref mb, .int lf, .int fl, .ref mu, .int f1, .int f2, .int ck, .ref ml, .ref mg, .ref mx])), (ml, .inl (cI, 3, .inl la))]) (va_runS (As := [.int way]) (rest := []) ⟨hx, hb, hml, hown, ht⟩ (c_M_isWay l D cI cB way H.size) (ft_cwS 1 ht bw_492 bw_493 bw_39 bw_494 (by decide) ⟨Nat.le_of_ble_eq_true rfl, Nat.le_of_ble_eq_true rfl⟩) ⟨ft_blind, (ft_pre hP hD hK hNW [] [0, 1] rfl rfl (by decide) rfl _)⟩ rfl rfl hl.1 rfl (lv_room (Nat.le_of_ble_eq_true rfl)) d_M_latest_6 ⟨Nat.le_of_ble_eq_true rfl, Nat.le_of_ble_eq_true rfl⟩) hP hD hS hA [] [0, 1] rfl rfl (by decide) (by decide) (fun r_1 u_2 H locs hu_2 hP hD hS => ?_)
  have hP : va_P D vwCl [(o, .inr (5, [.int 0, .ref mt, .int (nI nT), .int lim, .ref mo, .int (nI nO), .ref mf, .int (nI nF), .ref mc, .ref mm, .ref mk, .ref mb, .int lf, .int fl, .ref mu, .int f1, .int f2, .int ck, .ref ml, .ref mg, .ref mx])), (ml, .inl (cI, 3, .inl la))] H := hP
  have hD : va_D A [(o, .inr (5, [.int 0, .ref mt, .int (nI nT), .int lim, .ref mo, .int (nI nO), .ref mf, .int (nI nF), .ref mc, .ref mm, .ref mk, .ref mb, .int lf, .int fl, .ref mu, .int f1, .int f2, .int ck, .ref ml, .ref mg, .ref mx])), (ml, .inl (cI, 3, .inl la))] := hD
  rcases hu_2 with ⟨rfl, rfl | rfl | rfl⟩ | ⟨rfl, n0, n1, n2⟩
  · skip
    have hl : lv_has ls 2 [(0, .ref o), (1, .int (nI 0))] := hl
    have hP : va_P D vwCl [(o, .inr (5, [.int 0, .ref mt, .int (nI nT), .int lim, .ref mo, .int (nI nO), .ref mf, .int (nI nF), .ref mc, .ref mm, .ref mk, .ref mb, .int lf, .int fl, .ref mu, .int f1, .int f2, .int ck, .ref ml, .ref mg, .ref mx])), (ml, .inl (cI, 3, .inl la))] H := hP
    have hD : va_D A [(o, .inr (5, [.int 0, .ref mt, .int (nI nT), .int lim, .ref mo, .int (nI nO), .ref mf, .int (nI nF), .ref mc, .ref mm, .ref mk, .ref mb, .int lf, .int fl, .ref mu, .int f1, .int f2, .int ck, .ref ml, .ref mg, .ref mx])), (ml, .inl (cI, 3, .inl la))] := hD
    refine lv_if_eq (tgt := 21) hx hb d_M_latest_9 (by decide) (fun c9 => absurd c9 (by decide)) (fun _ => ?_)
    refine lv_aload_n hx hb d_M_latest_12 rfl (lv_at hl 0 rfl) ?_
    refine va_get (D := D) (ci := 5) (v := .ref ml) (C := R_M) (T := F_M) (N := 21) hx hb ht bi_M hown hK hP 0 rfl rfl 18 (by decide) (ht _ bw_425) (fun _ h9 => h9) rfl d_M_latest_13 ?_
    refine lv_iload_n hx hb d_M_latest_16 rfl (lv_at hl 1 rfl) ?_
    refine va_iald hx hb hK hP 1 0 rfl rfl (vp_in_nI (by omega) (by omega)) d_M_latest_17 ?_
    refine ft_top (congrArg la (show (nI 0).toNatClampNeg = 0 from by decide)) ?_
    refine lv_goto (tgt := 22) hx hb d_M_latest_18 (by decide) ?_
    exact ft_reti () hx hb hr hlocks hP hK hD hS (by show _ = pick3 0 (la 0) (la 1) (la 2); unfold pick3; rw [if_pos rfl]) d_M_latest_22
  · skip
    have hl : lv_has ls 2 [(0, .ref o), (1, .int (nI 1))] := hl
    have hP : va_P D vwCl [(o, .inr (5, [.int 0, .ref mt, .int (nI nT), .int lim, .ref mo, .int (nI nO), .ref mf, .int (nI nF), .ref mc, .ref mm, .ref mk, .ref mb, .int lf, .int fl, .ref mu, .int f1, .int f2, .int ck, .ref ml, .ref mg, .ref mx])), (ml, .inl (cI, 3, .inl la))] H := hP
    have hD : va_D A [(o, .inr (5, [.int 0, .ref mt, .int (nI nT), .int lim, .ref mo, .int (nI nO), .ref mf, .int (nI nF), .ref mc, .ref mm, .ref mk, .ref mb, .int lf, .int fl, .ref mu, .int f1, .int f2, .int ck, .ref ml, .ref mg, .ref mx])), (ml, .inl (cI, 3, .inl la))] := hD
    refine lv_if_eq (tgt := 21) hx hb d_M_latest_9 (by decide) (fun c9 => absurd c9 (by decide)) (fun _ => ?_)
    refine lv_aload_n hx hb d_M_latest_12 rfl (lv_at hl 0 rfl) ?_
    refine va_get (D := D) (ci := 5) (v := .ref ml) (C := R_M) (T := F_M) (N := 21) hx hb ht bi_M hown hK hP 0 rfl rfl 18 (by decide) (ht _ bw_425) (fun _ h9 => h9) rfl d_M_latest_13 ?_
    refine lv_iload_n hx hb d_M_latest_16 rfl (lv_at hl 1 rfl) ?_
    refine va_iald hx hb hK hP 1 0 rfl rfl (vp_in_nI (by omega) (by omega)) d_M_latest_17 ?_
    refine ft_top (congrArg la (show (nI 1).toNatClampNeg = 1 from by decide)) ?_
    refine lv_goto (tgt := 22) hx hb d_M_latest_18 (by decide) ?_
    exact ft_reti () hx hb hr hlocks hP hK hD hS (by show _ = pick3 1 (la 0) (la 1) (la 2); unfold pick3; rw [if_neg (by decide), if_pos rfl]) d_M_latest_22
  · skip
    have hl : lv_has ls 2 [(0, .ref o), (1, .int (nI 2))] := hl
    have hP : va_P D vwCl [(o, .inr (5, [.int 0, .ref mt, .int (nI nT), .int lim, .ref mo, .int (nI nO), .ref mf, .int (nI nF), .ref mc, .ref mm, .ref mk, .ref mb, .int lf, .int fl, .ref mu, .int f1, .int f2, .int ck, .ref ml, .ref mg, .ref mx])), (ml, .inl (cI, 3, .inl la))] H := hP
    have hD : va_D A [(o, .inr (5, [.int 0, .ref mt, .int (nI nT), .int lim, .ref mo, .int (nI nO), .ref mf, .int (nI nF), .ref mc, .ref mm, .ref mk, .ref mb, .int lf, .int fl, .ref mu, .int f1, .int f2, .int ck, .ref ml, .ref mg, .ref mx])), (ml, .inl (cI, 3, .inl la))] := hD
    refine lv_if_eq (tgt := 21) hx hb d_M_latest_9 (by decide) (fun c9 => absurd c9 (by decide)) (fun _ => ?_)
    refine lv_aload_n hx hb d_M_latest_12 rfl (lv_at hl 0 rfl) ?_
    refine va_get (D := D) (ci := 5) (v := .ref ml) (C := R_M) (T := F_M) (N := 21) hx hb ht bi_M hown hK hP 0 rfl rfl 18 (by decide) (ht _ bw_425) (fun _ h9 => h9) rfl d_M_latest_13 ?_
    refine lv_iload_n hx hb d_M_latest_16 rfl (lv_at hl 1 rfl) ?_
    refine va_iald hx hb hK hP 1 0 rfl rfl (vp_in_nI (by omega) (by omega)) d_M_latest_17 ?_
    refine ft_top (congrArg la (show (nI 2).toNatClampNeg = 2 from by decide)) ?_
    refine lv_goto (tgt := 22) hx hb d_M_latest_18 (by decide) ?_
    exact ft_reti () hx hb hr hlocks hP hK hD hS (by show _ = pick3 2 (la 0) (la 1) (la 2); unfold pick3; rw [if_neg (by decide), if_neg (by decide), if_pos rfl]) d_M_latest_22
  · skip
    refine lv_if_eq (tgt := 21) hx hb d_M_latest_9 (by decide) (fun _ => ?_) (fun c9 => absurd (by decide) c9)
    refine lv_iconst (v := (-1)) hx hb d_M_latest_21 (by decide +kernel) ?_
    exact ft_reti () hx hb hr hlocks hP hK hD hS (by show _ = pick3 way (la 0) (la 1) (la 2); unfold pick3; rw [if_neg n0, if_neg n1, if_neg n2]) d_M_latest_22

set_option maxHeartbeats 4000000 in
set_option maxRecDepth 100000 in
theorem c_M_latestAt (l : Launch) (D : va_G) (cI : ClassId) (cB : ClassId) (o mt mo mf mc mm mk mb mu ml mg mx : Nat) (th lim lf fl f1 f2 ck : Int32) (nT nO nF : Nat) (la gd : Nat → Int32) (hLa : ∀ w, w < 3 → la w ≤ 400) (way i : Int32) (sz : Nat) : ft_Mi l y_M_latestAt (.code y_M_latestAt b_M_latestAt 3 (some .int) :: ft_big) ({ frames := 1, cells := 0, slots := 0, locals := 30 }) D [(cI, .int), (cB, .boolean)] sz [.ref o, .int way, .int i] [(o, .inr (5, [.int th, .ref mt, .int (nI nT), .int lim, .ref mo, .int (nI nO), .ref mf, .int (nI nF), .ref mc, .ref mm, .ref mk, .ref mb, .int lf, .int fl, .ref mu, .int f1, .int f2, .int ck, .ref ml, .ref mg, .ref mx])), (ml, .inl (cI, 3, .inl la)), (mg, .inl (cI, 1200, .inl gd))] (fun (v : Int32) (_ : Unit) => v = pick3 way (latM la gd 0 i) (latM la gd 1 i) (latM la gd 2 i)) (fun _ => [(o, .inr (5, [.int 0, .ref mt, .int (nI nT), .int lim, .ref mo, .int (nI nO), .ref mf, .int (nI nF), .ref mc, .ref mm, .ref mk, .ref mb, .int lf, .int fl, .ref mu, .int f1, .int f2, .int ck, .ref ml, .ref mg, .ref mx])), (ml, .inl (cI, 3, .inl la)), (mg, .inl (cI, 1200, .inl gd))]) 0 0 := by
  refine ft_ei (cc := b_M_latestAt) (maxL := 3) (ret := (some .int)) (by decide) rfl (Nat.le_of_ble_eq_true rfl) ?_
  intro p e s m below meth c A ls hx hb hr hml hts hown hlocks hmn hP hK hD hA hS hNW hl
  have ht : ∀ w ∈ ft_big, w.before _ s = true := fun w h => hts w (List.mem_cons_of_mem _ h)
  have hP : va_P D vwCl [(o, .inr (5, [.int th, .ref mt, .int (nI nT), .int lim, .ref mo, .int (nI nO), .ref mf, .int (nI nF), .ref mc, .ref mm, .ref mk, .ref mb, .int lf, .int fl, .ref mu, .int f1, .int f2, .int ck, .ref ml, .ref mg, .ref mx])), (ml, .inl (cI, 3, .inl la)), (mg, .inl (cI, 1200, .inl gd))] s.heap := hP
  have hD : va_D A [(o, .inr (5, [.int th, .ref mt, .int (nI nT), .int lim, .ref mo, .int (nI nO), .ref mf, .int (nI nF), .ref mc, .ref mm, .ref mk, .ref mb, .int lf, .int fl, .ref mu, .int f1, .int f2, .int ck, .ref ml, .ref mg, .ref mx])), (ml, .inl (cI, 3, .inl la)), (mg, .inl (cI, 1200, .inl gd))] := hD
  have hl : lv_has ls 3 [(0, .ref o), (1, .int way), (2, .int i)] := hl
  refine lv_aload_n hx hb d_M_latestAt_0 rfl (lv_at hl 0 rfl) ?_
  refine lv_iconst (v := 0) hx hb d_M_latestAt_1 (by decide +kernel) ?_
  refine va_put (D := D) (ci := 5) (v := .int 0) (ty := .int) (C := R_M) (T := F_M) (N := 21) hx hb ht bi_M t_M t_M_ok n_M hown hK hP hD hS 0 rfl rfl 0 (by decide) (ht _ bw_407) (fun _ h9 => h9) rfl (by decide +kernel) rfl rfl (Nat.le_of_ble_eq_true rfl) d_M_latestAt_2 (fun H locs hP hD hS => ?_)
  have hP : va_P D vwCl [(o, .inr (5, [.int 0, .ref mt, .int (nI nT), .int lim, .ref mo, .int (nI nO), .ref mf, .int (nI nF), .ref mc, .ref mm, .ref mk, .ref mb, .int lf, .int fl, .ref mu, .int f1, .int f2, .int ck, .ref ml, .ref mg, .ref mx])), (ml, .inl (cI, 3, .inl la)), (mg, .inl (cI, 1200, .inl gd))] H := hP
  have hD : va_D A [(o, .inr (5, [.int 0, .ref mt, .int (nI nT), .int lim, .ref mo, .int (nI nO), .ref mf, .int (nI nF), .ref mc, .ref mm, .ref mk, .ref mb, .int lf, .int fl, .ref mu, .int f1, .int f2, .int ck, .ref ml, .ref mg, .ref mx])), (ml, .inl (cI, 3, .inl la)), (mg, .inl (cI, 1200, .inl gd))] := hD
  refine lv_iload_n hx hb d_M_latestAt_5 rfl (lv_at hl 1 rfl) ?_
  refine ft_ci (wc := []) (wr := [(o, .inr (5, [.int 0, .ref mt, .int (nI nT), .int lim, .ref mo, .int (nI nO), .ref mf, .int (nI nF), .ref mc, .ref mm, .ref mk, .ref mb, .int lf, .int fl, .ref mu, .int f1, .int f2, .int ck, .ref ml, .ref mg, .ref mx])), (ml, .inl (cI, 3, .inl la)), (mg, .inl (cI, 1200, .inl gd))]) (va_runS (As := [.int way]) (rest := []) ⟨hx, hb, hml, hown, ht⟩ (c_M_isWay l D cI cB way H.size) (ft_cwS 1 ht bw_492 bw_493 bw_39 bw_494 (by decide) ⟨Nat.le_of_ble_eq_true rfl, Nat.le_of_ble_eq_true rfl⟩) ⟨ft_blind, (ft_pre hP hD hK hNW [] [0, 1] rfl rfl (by decide) rfl _)⟩ rfl rfl hl.1 rfl (lv_room (Nat.le_of_ble_eq_true rfl)) d_M_latestAt_6 ⟨Nat.le_of_ble_eq_true rfl, Nat.le_of_ble_eq_true rfl⟩) hP hD hS hA [] [0, 1, 2] rfl rfl (by decide) (by decide) (fun r_1 u_2 H locs hu_2 hP hD hS => ?_)
  have hP : va_P D vwCl [(o, .inr (5, [.int 0, .ref mt, .int (nI nT), .int lim, .ref mo, .int (nI nO), .ref mf, .int (nI nF), .ref mc, .ref mm, .ref mk, .ref mb, .int lf, .int fl, .ref mu, .int f1, .int f2, .int ck, .ref ml, .ref mg, .ref mx])), (ml, .inl (cI, 3, .inl la)), (mg, .inl (cI, 1200, .inl gd))] H := hP
  have hD : va_D A [(o, .inr (5, [.int 0, .ref mt, .int (nI nT), .int lim, .ref mo, .int (nI nO), .ref mf, .int (nI nF), .ref mc, .ref mm, .ref mk, .ref mb, .int lf, .int fl, .ref mu, .int f1, .int f2, .int ck, .ref ml, .ref mg, .ref mx])), (ml, .inl (cI, 3, .inl la)), (mg, .inl (cI, 1200, .inl gd))] := hD
  rcases hu_2 with ⟨rfl, rfl | rfl | rfl⟩ | ⟨rfl, n0, n1, n2⟩
  · skip
    have hl : lv_has ls 3 [(0, .ref o), (1, .int (nI 0)), (2, .int i)] := hl
    have hP : va_P D vwCl [(o, .inr (5, [.int 0, .ref mt, .int (nI nT), .int lim, .ref mo, .int (nI nO), .ref mf, .int (nI nF), .ref mc, .ref mm, .ref mk, .ref mb, .int lf, .int fl, .ref mu, .int f1, .int f2, .int ck, .ref ml, .ref mg, .ref mx])), (ml, .inl (cI, 3, .inl la)), (mg, .inl (cI, 1200, .inl gd))] H := hP
    have hD : va_D A [(o, .inr (5, [.int 0, .ref mt, .int (nI nT), .int lim, .ref mo, .int (nI nO), .ref mf, .int (nI nF), .ref mc, .ref mm, .ref mk, .ref mb, .int lf, .int fl, .ref mu, .int f1, .int f2, .int ck, .ref ml, .ref mg, .ref mx])), (ml, .inl (cI, 3, .inl la)), (mg, .inl (cI, 1200, .inl gd))] := hD
    refine lv_if_eq (tgt := 41) hx hb d_M_latestAt_9 (by decide) (fun c9 => absurd c9 (by decide)) (fun _ => ?_)
    refine lv_iload_n hx hb d_M_latestAt_12 rfl (lv_at hl 2 rfl) ?_
    refine lv_if_lt (tgt := 41) hx hb d_M_latestAt_13 (by decide) (fun c13 => ?_) (fun c13 => ?_)
    · skip
      refine lv_iconst (v := (-1)) hx hb d_M_latestAt_41 (by decide +kernel) ?_
      exact ft_reti () hx hb hr hlocks hP hK hD hS (by show _ = pick3 0 (latM la gd 0 i) (latM la gd 1 i) (latM la gd 2 i); unfold pick3; rw [if_pos rfl]; unfold latM; rw [if_pos c13]) d_M_latestAt_42
    · skip
      refine lv_iload_n hx hb d_M_latestAt_16 rfl (lv_at hl 2 rfl) ?_
      refine lv_aload_n hx hb d_M_latestAt_17 rfl (lv_at hl 0 rfl) ?_
      refine va_get (D := D) (ci := 5) (v := .ref ml) (C := R_M) (T := F_M) (N := 21) hx hb ht bi_M hown hK hP 0 rfl rfl 18 (by decide) (ht _ bw_425) (fun _ h9 => h9) rfl d_M_latestAt_18 ?_
      refine lv_iload_n hx hb d_M_latestAt_21 rfl (lv_at hl 1 rfl) ?_
      refine va_iald hx hb hK hP 1 0 rfl rfl (vp_in_nI (by omega) (by omega)) d_M_latestAt_22 ?_
      refine ft_top (congrArg la (show (nI 0).toNatClampNeg = 0 from by decide)) ?_
      refine lv_icmp_ge (tgt := 41) hx hb d_M_latestAt_23 (by decide) (fun c23 => ?_) (fun c23 => ?_)
      · skip
        refine lv_iconst (v := (-1)) hx hb d_M_latestAt_41 (by decide +kernel) ?_
        exact ft_reti () hx hb hr hlocks hP hK hD hS (by show _ = pick3 0 (latM la gd 0 i) (latM la gd 1 i) (latM la gd 2 i); unfold pick3; rw [if_pos rfl]; unfold latM; rw [if_neg c13, if_pos c23]) d_M_latestAt_42
      · skip
        obtain ⟨j, hj, hjn⟩ : ∃ j : Nat, j < 400 ∧ i = nI j := by
          obtain ⟨j, hj, e⟩ := nI_of c13
          refine ⟨j, ?_, e⟩
          rcases Nat.lt_or_ge j 400 with q | q
          · exact q
          · exact absurd (Int32.le_trans (hLa 0 (by omega)) (by rw [e]; exact nI_le q hj)) c23
        have e_j : i.toNatClampNeg = j := by rw [hjn]; exact nI_clamp (by omega)
        have hl : lv_has ls 3 [(0, .ref o), (1, .int (nI 0)), (2, .int (nI j))] := by rw [← hjn]; exact hl
        refine lv_aload_n hx hb d_M_latestAt_26 rfl (lv_at hl 0 rfl) ?_
        refine va_get (D := D) (ci := 5) (v := .ref mg) (C := R_M) (T := F_M) (N := 21) hx hb ht bi_M hown hK hP 0 rfl rfl 19 (by decide) (ht _ bw_426) (fun _ h9 => h9) rfl d_M_latestAt_27 ?_
        refine lv_sipush (v := nI 400) hx hb d_M_latestAt_30 (by decide +kernel) ?_
        refine lv_iload_n hx hb d_M_latestAt_33 rfl (lv_at hl 1 rfl) ?_
        refine lv_imul hx hb d_M_latestAt_34 ?_
        refine ft_top (show nI 400 * nI 0 = nI 0 from by decide) ?_
        refine lv_iload_n hx hb d_M_latestAt_35 rfl (lv_at hl 2 rfl) ?_
        refine lv_iadd hx hb d_M_latestAt_36 ?_
        refine ft_top (nI_add 0 j) ?_
        refine va_iald hx hb hK hP 2 0 rfl rfl (vp_in_nI (by omega) (by omega)) d_M_latestAt_37 ?_
        refine ft_top (congrArg gd (nI_clamp (n := 0 + j) (by omega))) ?_
        refine lv_goto (tgt := 42) hx hb d_M_latestAt_38 (by decide) ?_
        exact ft_reti () hx hb hr hlocks hP hK hD hS (by show _ = pick3 0 (latM la gd 0 i) (latM la gd 1 i) (latM la gd 2 i); unfold pick3; rw [if_pos rfl]; unfold latM; rw [if_neg c13, if_neg c23, e_j]) d_M_latestAt_42
  · skip
    have hl : lv_has ls 3 [(0, .ref o), (1, .int (nI 1)), (2, .int i)] := hl
    have hP : va_P D vwCl [(o, .inr (5, [.int 0, .ref mt, .int (nI nT), .int lim, .ref mo, .int (nI nO), .ref mf, .int (nI nF), .ref mc, .ref mm, .ref mk, .ref mb, .int lf, .int fl, .ref mu, .int f1, .int f2, .int ck, .ref ml, .ref mg, .ref mx])), (ml, .inl (cI, 3, .inl la)), (mg, .inl (cI, 1200, .inl gd))] H := hP
    have hD : va_D A [(o, .inr (5, [.int 0, .ref mt, .int (nI nT), .int lim, .ref mo, .int (nI nO), .ref mf, .int (nI nF), .ref mc, .ref mm, .ref mk, .ref mb, .int lf, .int fl, .ref mu, .int f1, .int f2, .int ck, .ref ml, .ref mg, .ref mx])), (ml, .inl (cI, 3, .inl la)), (mg, .inl (cI, 1200, .inl gd))] := hD
    refine lv_if_eq (tgt := 41) hx hb d_M_latestAt_9 (by decide) (fun c9 => absurd c9 (by decide)) (fun _ => ?_)
    refine lv_iload_n hx hb d_M_latestAt_12 rfl (lv_at hl 2 rfl) ?_
    refine lv_if_lt (tgt := 41) hx hb d_M_latestAt_13 (by decide) (fun c13 => ?_) (fun c13 => ?_)
    · skip
      refine lv_iconst (v := (-1)) hx hb d_M_latestAt_41 (by decide +kernel) ?_
      exact ft_reti () hx hb hr hlocks hP hK hD hS (by show _ = pick3 1 (latM la gd 0 i) (latM la gd 1 i) (latM la gd 2 i); unfold pick3; rw [if_neg (by decide), if_pos rfl]; unfold latM; rw [if_pos c13]) d_M_latestAt_42
    · skip
      refine lv_iload_n hx hb d_M_latestAt_16 rfl (lv_at hl 2 rfl) ?_
      refine lv_aload_n hx hb d_M_latestAt_17 rfl (lv_at hl 0 rfl) ?_
      refine va_get (D := D) (ci := 5) (v := .ref ml) (C := R_M) (T := F_M) (N := 21) hx hb ht bi_M hown hK hP 0 rfl rfl 18 (by decide) (ht _ bw_425) (fun _ h9 => h9) rfl d_M_latestAt_18 ?_
      refine lv_iload_n hx hb d_M_latestAt_21 rfl (lv_at hl 1 rfl) ?_
      refine va_iald hx hb hK hP 1 0 rfl rfl (vp_in_nI (by omega) (by omega)) d_M_latestAt_22 ?_
      refine ft_top (congrArg la (show (nI 1).toNatClampNeg = 1 from by decide)) ?_
      refine lv_icmp_ge (tgt := 41) hx hb d_M_latestAt_23 (by decide) (fun c23 => ?_) (fun c23 => ?_)
      · skip
        refine lv_iconst (v := (-1)) hx hb d_M_latestAt_41 (by decide +kernel) ?_
        exact ft_reti () hx hb hr hlocks hP hK hD hS (by show _ = pick3 1 (latM la gd 0 i) (latM la gd 1 i) (latM la gd 2 i); unfold pick3; rw [if_neg (by decide), if_pos rfl]; unfold latM; rw [if_neg c13, if_pos c23]) d_M_latestAt_42
      · skip
        obtain ⟨j, hj, hjn⟩ : ∃ j : Nat, j < 400 ∧ i = nI j := by
          obtain ⟨j, hj, e⟩ := nI_of c13
          refine ⟨j, ?_, e⟩
          rcases Nat.lt_or_ge j 400 with q | q
          · exact q
          · exact absurd (Int32.le_trans (hLa 1 (by omega)) (by rw [e]; exact nI_le q hj)) c23
        have e_j : i.toNatClampNeg = j := by rw [hjn]; exact nI_clamp (by omega)
        have hl : lv_has ls 3 [(0, .ref o), (1, .int (nI 1)), (2, .int (nI j))] := by rw [← hjn]; exact hl
        refine lv_aload_n hx hb d_M_latestAt_26 rfl (lv_at hl 0 rfl) ?_
        refine va_get (D := D) (ci := 5) (v := .ref mg) (C := R_M) (T := F_M) (N := 21) hx hb ht bi_M hown hK hP 0 rfl rfl 19 (by decide) (ht _ bw_426) (fun _ h9 => h9) rfl d_M_latestAt_27 ?_
        refine lv_sipush (v := nI 400) hx hb d_M_latestAt_30 (by decide +kernel) ?_
        refine lv_iload_n hx hb d_M_latestAt_33 rfl (lv_at hl 1 rfl) ?_
        refine lv_imul hx hb d_M_latestAt_34 ?_
        refine ft_top (show nI 400 * nI 1 = nI 400 from by decide) ?_
        refine lv_iload_n hx hb d_M_latestAt_35 rfl (lv_at hl 2 rfl) ?_
        refine lv_iadd hx hb d_M_latestAt_36 ?_
        refine ft_top (nI_add 400 j) ?_
        refine va_iald hx hb hK hP 2 0 rfl rfl (vp_in_nI (by omega) (by omega)) d_M_latestAt_37 ?_
        refine ft_top (congrArg gd (nI_clamp (n := 400 + j) (by omega))) ?_
        refine lv_goto (tgt := 42) hx hb d_M_latestAt_38 (by decide) ?_
        exact ft_reti () hx hb hr hlocks hP hK hD hS (by show _ = pick3 1 (latM la gd 0 i) (latM la gd 1 i) (latM la gd 2 i); unfold pick3; rw [if_neg (by decide), if_pos rfl]; unfold latM; rw [if_neg c13, if_neg c23, e_j]) d_M_latestAt_42
  · skip
    have hl : lv_has ls 3 [(0, .ref o), (1, .int (nI 2)), (2, .int i)] := hl
    have hP : va_P D vwCl [(o, .inr (5, [.int 0, .ref mt, .int (nI nT), .int lim, .ref mo, .int (nI nO), .ref mf, .int (nI nF), .ref mc, .ref mm, .ref mk, .ref mb, .int lf, .int fl, .ref mu, .int f1, .int f2, .int ck, .ref ml, .ref mg, .ref mx])), (ml, .inl (cI, 3, .inl la)), (mg, .inl (cI, 1200, .inl gd))] H := hP
    have hD : va_D A [(o, .inr (5, [.int 0, .ref mt, .int (nI nT), .int lim, .ref mo, .int (nI nO), .ref mf, .int (nI nF), .ref mc, .ref mm, .ref mk, .ref mb, .int lf, .int fl, .ref mu, .int f1, .int f2, .int ck, .ref ml, .ref mg, .ref mx])), (ml, .inl (cI, 3, .inl la)), (mg, .inl (cI, 1200, .inl gd))] := hD
    refine lv_if_eq (tgt := 41) hx hb d_M_latestAt_9 (by decide) (fun c9 => absurd c9 (by decide)) (fun _ => ?_)
    refine lv_iload_n hx hb d_M_latestAt_12 rfl (lv_at hl 2 rfl) ?_
    refine lv_if_lt (tgt := 41) hx hb d_M_latestAt_13 (by decide) (fun c13 => ?_) (fun c13 => ?_)
    · skip
      refine lv_iconst (v := (-1)) hx hb d_M_latestAt_41 (by decide +kernel) ?_
      exact ft_reti () hx hb hr hlocks hP hK hD hS (by show _ = pick3 2 (latM la gd 0 i) (latM la gd 1 i) (latM la gd 2 i); unfold pick3; rw [if_neg (by decide), if_neg (by decide), if_pos rfl]; unfold latM; rw [if_pos c13]) d_M_latestAt_42
    · skip
      refine lv_iload_n hx hb d_M_latestAt_16 rfl (lv_at hl 2 rfl) ?_
      refine lv_aload_n hx hb d_M_latestAt_17 rfl (lv_at hl 0 rfl) ?_
      refine va_get (D := D) (ci := 5) (v := .ref ml) (C := R_M) (T := F_M) (N := 21) hx hb ht bi_M hown hK hP 0 rfl rfl 18 (by decide) (ht _ bw_425) (fun _ h9 => h9) rfl d_M_latestAt_18 ?_
      refine lv_iload_n hx hb d_M_latestAt_21 rfl (lv_at hl 1 rfl) ?_
      refine va_iald hx hb hK hP 1 0 rfl rfl (vp_in_nI (by omega) (by omega)) d_M_latestAt_22 ?_
      refine ft_top (congrArg la (show (nI 2).toNatClampNeg = 2 from by decide)) ?_
      refine lv_icmp_ge (tgt := 41) hx hb d_M_latestAt_23 (by decide) (fun c23 => ?_) (fun c23 => ?_)
      · skip
        refine lv_iconst (v := (-1)) hx hb d_M_latestAt_41 (by decide +kernel) ?_
        exact ft_reti () hx hb hr hlocks hP hK hD hS (by show _ = pick3 2 (latM la gd 0 i) (latM la gd 1 i) (latM la gd 2 i); unfold pick3; rw [if_neg (by decide), if_neg (by decide), if_pos rfl]; unfold latM; rw [if_neg c13, if_pos c23]) d_M_latestAt_42
      · skip
        obtain ⟨j, hj, hjn⟩ : ∃ j : Nat, j < 400 ∧ i = nI j := by
          obtain ⟨j, hj, e⟩ := nI_of c13
          refine ⟨j, ?_, e⟩
          rcases Nat.lt_or_ge j 400 with q | q
          · exact q
          · exact absurd (Int32.le_trans (hLa 2 (by omega)) (by rw [e]; exact nI_le q hj)) c23
        have e_j : i.toNatClampNeg = j := by rw [hjn]; exact nI_clamp (by omega)
        have hl : lv_has ls 3 [(0, .ref o), (1, .int (nI 2)), (2, .int (nI j))] := by rw [← hjn]; exact hl
        refine lv_aload_n hx hb d_M_latestAt_26 rfl (lv_at hl 0 rfl) ?_
        refine va_get (D := D) (ci := 5) (v := .ref mg) (C := R_M) (T := F_M) (N := 21) hx hb ht bi_M hown hK hP 0 rfl rfl 19 (by decide) (ht _ bw_426) (fun _ h9 => h9) rfl d_M_latestAt_27 ?_
        refine lv_sipush (v := nI 400) hx hb d_M_latestAt_30 (by decide +kernel) ?_
        refine lv_iload_n hx hb d_M_latestAt_33 rfl (lv_at hl 1 rfl) ?_
        refine lv_imul hx hb d_M_latestAt_34 ?_
        refine ft_top (show nI 400 * nI 2 = nI 800 from by decide) ?_
        refine lv_iload_n hx hb d_M_latestAt_35 rfl (lv_at hl 2 rfl) ?_
        refine lv_iadd hx hb d_M_latestAt_36 ?_
        refine ft_top (nI_add 800 j) ?_
        refine va_iald hx hb hK hP 2 0 rfl rfl (vp_in_nI (by omega) (by omega)) d_M_latestAt_37 ?_
        refine ft_top (congrArg gd (nI_clamp (n := 800 + j) (by omega))) ?_
        refine lv_goto (tgt := 42) hx hb d_M_latestAt_38 (by decide) ?_
        exact ft_reti () hx hb hr hlocks hP hK hD hS (by show _ = pick3 2 (latM la gd 0 i) (latM la gd 1 i) (latM la gd 2 i); unfold pick3; rw [if_neg (by decide), if_neg (by decide), if_pos rfl]; unfold latM; rw [if_neg c13, if_neg c23, e_j]) d_M_latestAt_42
  · skip
    refine lv_if_eq (tgt := 41) hx hb d_M_latestAt_9 (by decide) (fun _ => ?_) (fun c9 => absurd (by decide) c9)
    refine lv_iconst (v := (-1)) hx hb d_M_latestAt_41 (by decide +kernel) ?_
    exact ft_reti () hx hb hr hlocks hP hK hD hS (by show _ = pick3 way (latM la gd 0 i) (latM la gd 1 i) (latM la gd 2 i); unfold pick3; rw [if_neg n0, if_neg n1, if_neg n2]) d_M_latestAt_42

set_option maxHeartbeats 4000000 in
set_option maxRecDepth 100000 in
theorem c_M_count (l : Launch) (D : va_G) (cI : ClassId) (cB : ClassId) (o mt mo mf mc mm mk mb mu ml mg mx : Nat) (th lim lf fl f1 f2 ck : Int32) (nT nO nF : Nat) (ct : Nat → Int32) (way k : Int32) (sz : Nat) : ft_Mi l y_M_count (.code y_M_count b_M_count 3 (some .int) :: ft_big) ({ frames := 1, cells := 0, slots := 0, locals := 30 }) D [(cI, .int), (cB, .boolean)] sz [.ref o, .int way, .int k] [(o, .inr (5, [.int th, .ref mt, .int (nI nT), .int lim, .ref mo, .int (nI nO), .ref mf, .int (nI nF), .ref mc, .ref mm, .ref mk, .ref mb, .int lf, .int fl, .ref mu, .int f1, .int f2, .int ck, .ref ml, .ref mg, .ref mx])), (mx, .inl (cI, 12, .inl ct))] (fun (v : Int32) (_ : Unit) => v = pick3 way (cntM ct 0 k) (cntM ct 1 k) (cntM ct 2 k)) (fun _ => [(o, .inr (5, [.int 0, .ref mt, .int (nI nT), .int lim, .ref mo, .int (nI nO), .ref mf, .int (nI nF), .ref mc, .ref mm, .ref mk, .ref mb, .int lf, .int fl, .ref mu, .int f1, .int f2, .int ck, .ref ml, .ref mg, .ref mx])), (mx, .inl (cI, 12, .inl ct))]) 0 0 := by
  refine ft_ei (cc := b_M_count) (maxL := 3) (ret := (some .int)) (by decide) rfl (Nat.le_of_ble_eq_true rfl) ?_
  intro p e s m below meth c A ls hx hb hr hml hts hown hlocks hmn hP hK hD hA hS hNW hl
  have ht : ∀ w ∈ ft_big, w.before _ s = true := fun w h => hts w (List.mem_cons_of_mem _ h)
  have hP : va_P D vwCl [(o, .inr (5, [.int th, .ref mt, .int (nI nT), .int lim, .ref mo, .int (nI nO), .ref mf, .int (nI nF), .ref mc, .ref mm, .ref mk, .ref mb, .int lf, .int fl, .ref mu, .int f1, .int f2, .int ck, .ref ml, .ref mg, .ref mx])), (mx, .inl (cI, 12, .inl ct))] s.heap := hP
  have hD : va_D A [(o, .inr (5, [.int th, .ref mt, .int (nI nT), .int lim, .ref mo, .int (nI nO), .ref mf, .int (nI nF), .ref mc, .ref mm, .ref mk, .ref mb, .int lf, .int fl, .ref mu, .int f1, .int f2, .int ck, .ref ml, .ref mg, .ref mx])), (mx, .inl (cI, 12, .inl ct))] := hD
  have hl : lv_has ls 3 [(0, .ref o), (1, .int way), (2, .int k)] := hl
  refine lv_aload_n hx hb d_M_count_0 rfl (lv_at hl 0 rfl) ?_
  refine lv_iconst (v := 0) hx hb d_M_count_1 (by decide +kernel) ?_
  refine va_put (D := D) (ci := 5) (v := .int 0) (ty := .int) (C := R_M) (T := F_M) (N := 21) hx hb ht bi_M t_M t_M_ok n_M hown hK hP hD hS 0 rfl rfl 0 (by decide) (ht _ bw_407) (fun _ h9 => h9) rfl (by decide +kernel) rfl rfl (Nat.le_of_ble_eq_true rfl) d_M_count_2 (fun H locs hP hD hS => ?_)
  have hP : va_P D vwCl [(o, .inr (5, [.int 0, .ref mt, .int (nI nT), .int lim, .ref mo, .int (nI nO), .ref mf, .int (nI nF), .ref mc, .ref mm, .ref mk, .ref mb, .int lf, .int fl, .ref mu, .int f1, .int f2, .int ck, .ref ml, .ref mg, .ref mx])), (mx, .inl (cI, 12, .inl ct))] H := hP
  have hD : va_D A [(o, .inr (5, [.int 0, .ref mt, .int (nI nT), .int lim, .ref mo, .int (nI nO), .ref mf, .int (nI nF), .ref mc, .ref mm, .ref mk, .ref mb, .int lf, .int fl, .ref mu, .int f1, .int f2, .int ck, .ref ml, .ref mg, .ref mx])), (mx, .inl (cI, 12, .inl ct))] := hD
  refine lv_iload_n hx hb d_M_count_5 rfl (lv_at hl 1 rfl) ?_
  refine ft_ci (wc := []) (wr := [(o, .inr (5, [.int 0, .ref mt, .int (nI nT), .int lim, .ref mo, .int (nI nO), .ref mf, .int (nI nF), .ref mc, .ref mm, .ref mk, .ref mb, .int lf, .int fl, .ref mu, .int f1, .int f2, .int ck, .ref ml, .ref mg, .ref mx])), (mx, .inl (cI, 12, .inl ct))]) (va_runS (As := [.int way]) (rest := []) ⟨hx, hb, hml, hown, ht⟩ (c_M_isWay l D cI cB way H.size) (ft_cwS 1 ht bw_492 bw_493 bw_39 bw_494 (by decide) ⟨Nat.le_of_ble_eq_true rfl, Nat.le_of_ble_eq_true rfl⟩) ⟨ft_blind, (ft_pre hP hD hK hNW [] [0, 1] rfl rfl (by decide) rfl _)⟩ rfl rfl hl.1 rfl (lv_room (Nat.le_of_ble_eq_true rfl)) d_M_count_6 ⟨Nat.le_of_ble_eq_true rfl, Nat.le_of_ble_eq_true rfl⟩) hP hD hS hA [] [0, 1] rfl rfl (by decide) (by decide) (fun r_1 u_2 H locs hu_2 hP hD hS => ?_)
  have hP : va_P D vwCl [(o, .inr (5, [.int 0, .ref mt, .int (nI nT), .int lim, .ref mo, .int (nI nO), .ref mf, .int (nI nF), .ref mc, .ref mm, .ref mk, .ref mb, .int lf, .int fl, .ref mu, .int f1, .int f2, .int ck, .ref ml, .ref mg, .ref mx])), (mx, .inl (cI, 12, .inl ct))] H := hP
  have hD : va_D A [(o, .inr (5, [.int 0, .ref mt, .int (nI nT), .int lim, .ref mo, .int (nI nO), .ref mf, .int (nI nF), .ref mc, .ref mm, .ref mk, .ref mb, .int lf, .int fl, .ref mu, .int f1, .int f2, .int ck, .ref ml, .ref mg, .ref mx])), (mx, .inl (cI, 12, .inl ct))] := hD
  rcases hu_2 with ⟨rfl, rfl | rfl | rfl⟩ | ⟨rfl, n0, n1, n2⟩
  · skip
    have hl : lv_has ls 3 [(0, .ref o), (1, .int (nI 0)), (2, .int k)] := hl
    have hP : va_P D vwCl [(o, .inr (5, [.int 0, .ref mt, .int (nI nT), .int lim, .ref mo, .int (nI nO), .ref mf, .int (nI nF), .ref mc, .ref mm, .ref mk, .ref mb, .int lf, .int fl, .ref mu, .int f1, .int f2, .int ck, .ref ml, .ref mg, .ref mx])), (mx, .inl (cI, 12, .inl ct))] H := hP
    have hD : va_D A [(o, .inr (5, [.int 0, .ref mt, .int (nI nT), .int lim, .ref mo, .int (nI nO), .ref mf, .int (nI nF), .ref mc, .ref mm, .ref mk, .ref mb, .int lf, .int fl, .ref mu, .int f1, .int f2, .int ck, .ref ml, .ref mg, .ref mx])), (mx, .inl (cI, 12, .inl ct))] := hD
    refine lv_if_eq (tgt := 35) hx hb d_M_count_9 (by decide) (fun c9 => absurd c9 (by decide)) (fun _ => ?_)
    refine lv_iload_n hx hb d_M_count_12 rfl (lv_at hl 2 rfl) ?_
    refine lv_iconst (v := 1) hx hb d_M_count_13 (by decide +kernel) ?_
    refine lv_icmp_lt (tgt := 35) hx hb d_M_count_14 (by decide) (fun c14 => ?_) (fun c14 => ?_)
    · skip
      refine lv_iconst (v := (-1)) hx hb d_M_count_35 (by decide +kernel) ?_
      exact ft_reti () hx hb hr hlocks hP hK hD hS (by show _ = pick3 0 (cntM ct 0 k) (cntM ct 1 k) (cntM ct 2 k); unfold pick3; rw [if_pos rfl]; unfold cntM; rw [if_pos c14]) d_M_count_36
    · skip
      refine lv_iload_n hx hb d_M_count_17 rfl (lv_at hl 2 rfl) ?_
      refine lv_iconst (v := 3) hx hb d_M_count_18 (by decide +kernel) ?_
      refine lv_icmp_gt (tgt := 35) hx hb d_M_count_19 (by decide) (fun c19 => ?_) (fun c19 => ?_)
      · skip
        refine lv_iconst (v := (-1)) hx hb d_M_count_35 (by decide +kernel) ?_
        exact ft_reti () hx hb hr hlocks hP hK hD hS (by show _ = pick3 0 (cntM ct 0 k) (cntM ct 1 k) (cntM ct 2 k); unfold pick3; rw [if_pos rfl]; unfold cntM; rw [if_neg c14, if_pos c19]) d_M_count_36
      · skip
        obtain ⟨j, hj, hjn⟩ : ∃ j : Nat, j < 4 ∧ k = nI j := vp_in_of (tal_in c14 c19) (by omega)
        have e_j : k.toNatClampNeg = j := by rw [hjn]; exact nI_clamp (by omega)
        have hl : lv_has ls 3 [(0, .ref o), (1, .int (nI 0)), (2, .int (nI j))] := by rw [← hjn]; exact hl
        refine lv_aload_n hx hb d_M_count_22 rfl (lv_at hl 0 rfl) ?_
        refine va_get (D := D) (ci := 5) (v := .ref mx) (C := R_M) (T := F_M) (N := 21) hx hb ht bi_M hown hK hP 0 rfl rfl 20 (by decide) (ht _ bw_427) (fun _ h9 => h9) rfl d_M_count_23 ?_
        refine lv_iconst (v := nI 4) hx hb d_M_count_26 (by decide +kernel) ?_
        refine lv_iload_n hx hb d_M_count_27 rfl (lv_at hl 1 rfl) ?_
        refine lv_imul hx hb d_M_count_28 ?_
        refine ft_top (show nI 4 * nI 0 = nI 0 from by decide) ?_
        refine lv_iload_n hx hb d_M_count_29 rfl (lv_at hl 2 rfl) ?_
        refine lv_iadd hx hb d_M_count_30 ?_
        refine ft_top (nI_add 0 j) ?_
        refine va_iald hx hb hK hP 1 0 rfl rfl (vp_in_nI (by omega) (by omega)) d_M_count_31 ?_
        refine ft_top (congrArg ct (nI_clamp (n := 0 + j) (by omega))) ?_
        refine lv_goto (tgt := 36) hx hb d_M_count_32 (by decide) ?_
        exact ft_reti () hx hb hr hlocks hP hK hD hS (by show _ = pick3 0 (cntM ct 0 k) (cntM ct 1 k) (cntM ct 2 k); unfold pick3; rw [if_pos rfl]; unfold cntM; rw [if_neg c14, if_neg c19, e_j]) d_M_count_36
  · skip
    have hl : lv_has ls 3 [(0, .ref o), (1, .int (nI 1)), (2, .int k)] := hl
    have hP : va_P D vwCl [(o, .inr (5, [.int 0, .ref mt, .int (nI nT), .int lim, .ref mo, .int (nI nO), .ref mf, .int (nI nF), .ref mc, .ref mm, .ref mk, .ref mb, .int lf, .int fl, .ref mu, .int f1, .int f2, .int ck, .ref ml, .ref mg, .ref mx])), (mx, .inl (cI, 12, .inl ct))] H := hP
    have hD : va_D A [(o, .inr (5, [.int 0, .ref mt, .int (nI nT), .int lim, .ref mo, .int (nI nO), .ref mf, .int (nI nF), .ref mc, .ref mm, .ref mk, .ref mb, .int lf, .int fl, .ref mu, .int f1, .int f2, .int ck, .ref ml, .ref mg, .ref mx])), (mx, .inl (cI, 12, .inl ct))] := hD
    refine lv_if_eq (tgt := 35) hx hb d_M_count_9 (by decide) (fun c9 => absurd c9 (by decide)) (fun _ => ?_)
    refine lv_iload_n hx hb d_M_count_12 rfl (lv_at hl 2 rfl) ?_
    refine lv_iconst (v := 1) hx hb d_M_count_13 (by decide +kernel) ?_
    refine lv_icmp_lt (tgt := 35) hx hb d_M_count_14 (by decide) (fun c14 => ?_) (fun c14 => ?_)
    · skip
      refine lv_iconst (v := (-1)) hx hb d_M_count_35 (by decide +kernel) ?_
      exact ft_reti () hx hb hr hlocks hP hK hD hS (by show _ = pick3 1 (cntM ct 0 k) (cntM ct 1 k) (cntM ct 2 k); unfold pick3; rw [if_neg (by decide), if_pos rfl]; unfold cntM; rw [if_pos c14]) d_M_count_36
    · skip
      refine lv_iload_n hx hb d_M_count_17 rfl (lv_at hl 2 rfl) ?_
      refine lv_iconst (v := 3) hx hb d_M_count_18 (by decide +kernel) ?_
      refine lv_icmp_gt (tgt := 35) hx hb d_M_count_19 (by decide) (fun c19 => ?_) (fun c19 => ?_)
      · skip
        refine lv_iconst (v := (-1)) hx hb d_M_count_35 (by decide +kernel) ?_
        exact ft_reti () hx hb hr hlocks hP hK hD hS (by show _ = pick3 1 (cntM ct 0 k) (cntM ct 1 k) (cntM ct 2 k); unfold pick3; rw [if_neg (by decide), if_pos rfl]; unfold cntM; rw [if_neg c14, if_pos c19]) d_M_count_36
      · skip
        obtain ⟨j, hj, hjn⟩ : ∃ j : Nat, j < 4 ∧ k = nI j := vp_in_of (tal_in c14 c19) (by omega)
        have e_j : k.toNatClampNeg = j := by rw [hjn]; exact nI_clamp (by omega)
        have hl : lv_has ls 3 [(0, .ref o), (1, .int (nI 1)), (2, .int (nI j))] := by rw [← hjn]; exact hl
        refine lv_aload_n hx hb d_M_count_22 rfl (lv_at hl 0 rfl) ?_
        refine va_get (D := D) (ci := 5) (v := .ref mx) (C := R_M) (T := F_M) (N := 21) hx hb ht bi_M hown hK hP 0 rfl rfl 20 (by decide) (ht _ bw_427) (fun _ h9 => h9) rfl d_M_count_23 ?_
        refine lv_iconst (v := nI 4) hx hb d_M_count_26 (by decide +kernel) ?_
        refine lv_iload_n hx hb d_M_count_27 rfl (lv_at hl 1 rfl) ?_
        refine lv_imul hx hb d_M_count_28 ?_
        refine ft_top (show nI 4 * nI 1 = nI 4 from by decide) ?_
        refine lv_iload_n hx hb d_M_count_29 rfl (lv_at hl 2 rfl) ?_
        refine lv_iadd hx hb d_M_count_30 ?_
        refine ft_top (nI_add 4 j) ?_
        refine va_iald hx hb hK hP 1 0 rfl rfl (vp_in_nI (by omega) (by omega)) d_M_count_31 ?_
        refine ft_top (congrArg ct (nI_clamp (n := 4 + j) (by omega))) ?_
        refine lv_goto (tgt := 36) hx hb d_M_count_32 (by decide) ?_
        exact ft_reti () hx hb hr hlocks hP hK hD hS (by show _ = pick3 1 (cntM ct 0 k) (cntM ct 1 k) (cntM ct 2 k); unfold pick3; rw [if_neg (by decide), if_pos rfl]; unfold cntM; rw [if_neg c14, if_neg c19, e_j]) d_M_count_36
  · skip
    have hl : lv_has ls 3 [(0, .ref o), (1, .int (nI 2)), (2, .int k)] := hl
    have hP : va_P D vwCl [(o, .inr (5, [.int 0, .ref mt, .int (nI nT), .int lim, .ref mo, .int (nI nO), .ref mf, .int (nI nF), .ref mc, .ref mm, .ref mk, .ref mb, .int lf, .int fl, .ref mu, .int f1, .int f2, .int ck, .ref ml, .ref mg, .ref mx])), (mx, .inl (cI, 12, .inl ct))] H := hP
    have hD : va_D A [(o, .inr (5, [.int 0, .ref mt, .int (nI nT), .int lim, .ref mo, .int (nI nO), .ref mf, .int (nI nF), .ref mc, .ref mm, .ref mk, .ref mb, .int lf, .int fl, .ref mu, .int f1, .int f2, .int ck, .ref ml, .ref mg, .ref mx])), (mx, .inl (cI, 12, .inl ct))] := hD
    refine lv_if_eq (tgt := 35) hx hb d_M_count_9 (by decide) (fun c9 => absurd c9 (by decide)) (fun _ => ?_)
    refine lv_iload_n hx hb d_M_count_12 rfl (lv_at hl 2 rfl) ?_
    refine lv_iconst (v := 1) hx hb d_M_count_13 (by decide +kernel) ?_
    refine lv_icmp_lt (tgt := 35) hx hb d_M_count_14 (by decide) (fun c14 => ?_) (fun c14 => ?_)
    · skip
      refine lv_iconst (v := (-1)) hx hb d_M_count_35 (by decide +kernel) ?_
      exact ft_reti () hx hb hr hlocks hP hK hD hS (by show _ = pick3 2 (cntM ct 0 k) (cntM ct 1 k) (cntM ct 2 k); unfold pick3; rw [if_neg (by decide), if_neg (by decide), if_pos rfl]; unfold cntM; rw [if_pos c14]) d_M_count_36
    · skip
      refine lv_iload_n hx hb d_M_count_17 rfl (lv_at hl 2 rfl) ?_
      refine lv_iconst (v := 3) hx hb d_M_count_18 (by decide +kernel) ?_
      refine lv_icmp_gt (tgt := 35) hx hb d_M_count_19 (by decide) (fun c19 => ?_) (fun c19 => ?_)
      · skip
        refine lv_iconst (v := (-1)) hx hb d_M_count_35 (by decide +kernel) ?_
        exact ft_reti () hx hb hr hlocks hP hK hD hS (by show _ = pick3 2 (cntM ct 0 k) (cntM ct 1 k) (cntM ct 2 k); unfold pick3; rw [if_neg (by decide), if_neg (by decide), if_pos rfl]; unfold cntM; rw [if_neg c14, if_pos c19]) d_M_count_36
      · skip
        obtain ⟨j, hj, hjn⟩ : ∃ j : Nat, j < 4 ∧ k = nI j := vp_in_of (tal_in c14 c19) (by omega)
        have e_j : k.toNatClampNeg = j := by rw [hjn]; exact nI_clamp (by omega)
        have hl : lv_has ls 3 [(0, .ref o), (1, .int (nI 2)), (2, .int (nI j))] := by rw [← hjn]; exact hl
        refine lv_aload_n hx hb d_M_count_22 rfl (lv_at hl 0 rfl) ?_
        refine va_get (D := D) (ci := 5) (v := .ref mx) (C := R_M) (T := F_M) (N := 21) hx hb ht bi_M hown hK hP 0 rfl rfl 20 (by decide) (ht _ bw_427) (fun _ h9 => h9) rfl d_M_count_23 ?_
        refine lv_iconst (v := nI 4) hx hb d_M_count_26 (by decide +kernel) ?_
        refine lv_iload_n hx hb d_M_count_27 rfl (lv_at hl 1 rfl) ?_
        refine lv_imul hx hb d_M_count_28 ?_
        refine ft_top (show nI 4 * nI 2 = nI 8 from by decide) ?_
        refine lv_iload_n hx hb d_M_count_29 rfl (lv_at hl 2 rfl) ?_
        refine lv_iadd hx hb d_M_count_30 ?_
        refine ft_top (nI_add 8 j) ?_
        refine va_iald hx hb hK hP 1 0 rfl rfl (vp_in_nI (by omega) (by omega)) d_M_count_31 ?_
        refine ft_top (congrArg ct (nI_clamp (n := 8 + j) (by omega))) ?_
        refine lv_goto (tgt := 36) hx hb d_M_count_32 (by decide) ?_
        exact ft_reti () hx hb hr hlocks hP hK hD hS (by show _ = pick3 2 (cntM ct 0 k) (cntM ct 1 k) (cntM ct 2 k); unfold pick3; rw [if_neg (by decide), if_neg (by decide), if_pos rfl]; unfold cntM; rw [if_neg c14, if_neg c19, e_j]) d_M_count_36
  · skip
    refine lv_if_eq (tgt := 35) hx hb d_M_count_9 (by decide) (fun _ => ?_) (fun c9 => absurd (by decide) c9)
    refine lv_iconst (v := (-1)) hx hb d_M_count_35 (by decide +kernel) ?_
    exact ft_reti () hx hb hr hlocks hP hK hD hS (by show _ = pick3 way (cntM ct 0 k) (cntM ct 1 k) (cntM ct 2 k); unfold pick3; rw [if_neg n0, if_neg n1, if_neg n2]) d_M_count_36
