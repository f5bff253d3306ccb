set_option maxHeartbeats 4000000 in
set_option maxRecDepth 100000 in
/-- put -/
theorem c_Row_put (l : Launch) (D : va_G) (cI : ClassId) (h a N : Nat) (hN : N ≤ 2000) (r : RS) (hr0 : r.2.1 ≤ N) (b : Int32) (sz : Nat) : ft_Mv l y_Row_put (.code y_Row_put b_Row_put 2 none :: ft_big) ({ frames := 0, cells := 0, slots := 0, locals := 0 }) D [(cI, .int)] sz [.ref h, .int b] (wRow h a cI N r) (fun u : RS => u = rput N r b) (wRow h a cI N) 0 0 := by
  refine ft_ev (cc := b_Row_put) (maxL := 2) (ret := none) (by decide) rfl (Nat.le_of_ble_eq_true rfl) ?_
  intro p e s m below meth c A ls hx hb hr hml hts hown hlocks hmn hP hK hD hA hS hNW hl
  have ht : ∀ w ∈ ft_big, w.before _ s = true := fun w h => hts w (List.mem_cons_of_mem _ h)
  have hP : va_P D vwCl [(h, .inr (3, [.ref a, .int (nI r.2.1), .int r.2.2])), (a, .inl (cI, N, .inl r.1))] s.heap := hP
  have hD : va_D A [(h, .inr (3, [.ref a, .int (nI r.2.1), .int r.2.2])), (a, .inl (cI, N, .inl r.1))] := hD
  have hl : lv_has ls 2 [(0, .ref h), (1, .int b)] := hl
  refine lv_aload_n hx hb d_Row_put_0 rfl (lv_at hl 0 rfl) ?_
  refine va_get (D := D) (ci := 3) (v := .int (nI r.2.1)) (C := R_Row) (T := F_Row) (N := 3) hx hb ht bi_Row hown hK hP 0 rfl rfl 1 (by decide) (ht _ bw_58) (fun _ h9 => h9) rfl d_Row_put_1 ?_
  refine lv_if_lt (tgt := 42) hx hb d_Row_put_4 (by decide) (fun c4 => absurd c4 (nI_pos (by omega))) (fun c4 => ?_)
  refine lv_aload_n hx hb d_Row_put_7 rfl (lv_at hl 0 rfl) ?_
  refine va_get (D := D) (ci := 3) (v := .int (nI r.2.1)) (C := R_Row) (T := F_Row) (N := 3) hx hb ht bi_Row hown hK hP 0 rfl rfl 1 (by decide) (ht _ bw_58) (fun _ h9 => h9) rfl d_Row_put_8 ?_
  refine lv_aload_n hx hb d_Row_put_11 rfl (lv_at hl 0 rfl) ?_
  refine va_get (D := D) (ci := 3) (v := .ref a) (C := R_Row) (T := F_Row) (N := 3) hx hb ht bi_Row hown hK hP 0 rfl rfl 0 (by decide) (ht _ bw_57) (fun _ h9 => h9) rfl d_Row_put_12 ?_
  refine va_alen (v := nI N) hx hb hK hP 1 0 rfl rfl rfl d_Row_put_15 ?_
  refine lv_icmp_ge (tgt := 42) hx hb d_Row_put_16 (by decide) (fun c16 => ?_) (fun c16 => ?_)
  · skip
    have c16 : N ≤ r.2.1 := (nI_leI (by omega) (by omega)).mp c16
    refine lv_aload_n hx hb d_Row_put_42 rfl (lv_at hl 0 rfl) ?_
    refine lv_iconst (v := 1) hx hb d_Row_put_43 (by decide +kernel) ?_
    refine va_put (D := D) (ci := 3) (v := .int 1) (ty := .boolean) (C := R_Row) (T := F_Row) (N := 3) hx hb ht bi_Row t_Row t_Row_ok n_Row hown hK hP hD hS 0 rfl rfl 2 (by decide) (ht _ bw_64) (fun _ h9 => h9) rfl (by decide +kernel) rfl rfl (Nat.le_of_ble_eq_true rfl) d_Row_put_44 (fun H locs hP hD hS => ?_)
    have hP : va_P D vwCl [(h, .inr (3, [.ref a, .int (nI r.2.1), .int 1])), (a, .inl (cI, N, .inl r.1))] H := hP
    have hD : va_D A [(h, .inr (3, [.ref a, .int (nI r.2.1), .int 1])), (a, .inl (cI, N, .inl r.1))] := hD
    exact ft_retv (r.1, r.2.1, 1) hx hb hr hlocks hP hK hD hS (by show _ = rput N r b; unfold rput; rw [if_neg (by omega)]) d_Row_put_47
  · skip
    have c16 : ¬ N ≤ r.2.1 := fun h => c16 ((nI_leI (by omega) (by omega)).mpr h)
    refine lv_aload_n hx hb d_Row_put_19 rfl (lv_at hl 0 rfl) ?_
    refine va_get (D := D) (ci := 3) (v := .ref a) (C := R_Row) (T := F_Row) (N := 3) hx hb ht bi_Row hown hK hP 0 rfl rfl 0 (by decide) (ht _ bw_57) (fun _ h9 => h9) rfl d_Row_put_20 ?_
    refine lv_aload_n hx hb d_Row_put_23 rfl (lv_at hl 0 rfl) ?_
    refine va_get (D := D) (ci := 3) (v := .int (nI r.2.1)) (C := R_Row) (T := F_Row) (N := 3) hx hb ht bi_Row hown hK hP 0 rfl rfl 1 (by decide) (ht _ bw_58) (fun _ h9 => h9) rfl d_Row_put_24 ?_
    refine lv_iload_n hx hb d_Row_put_27 rfl (lv_at hl 1 rfl) ?_
    refine va_iast hx hb hK hP hD hS 1 0 rfl rfl (vp_in_nI (by omega) (by omega)) d_Row_put_28 (fun H locs hP hD hS => ?_)
    rw [nI_clamp (n := r.2.1) (by omega)] at hP hD
    have hP : va_P D vwCl [(h, .inr (3, [.ref a, .int (nI r.2.1), .int r.2.2])), (a, .inl (cI, N, .inl (upd r.1 r.2.1 b)))] H := hP
    have hD : va_D A [(h, .inr (3, [.ref a, .int (nI r.2.1), .int r.2.2])), (a, .inl (cI, N, .inl (upd r.1 r.2.1 b)))] := hD
    refine lv_aload_n hx hb d_Row_put_29 rfl (lv_at hl 0 rfl) ?_
    refine lv_dup hx hb d_Row_put_30 rfl ?_
    refine va_get (D := D) (ci := 3) (v := .int (nI r.2.1)) (C := R_Row) (T := F_Row) (N := 3) hx hb ht bi_Row hown hK hP 0 rfl rfl 1 (by decide) (ht _ bw_58) (fun _ h9 => h9) rfl d_Row_put_31 ?_
    refine lv_iconst (v := 1) hx hb d_Row_put_34 (by decide +kernel) ?_
    refine lv_iadd hx hb d_Row_put_35 ?_
    refine ft_top (nI_1 r.2.1) ?_
    refine va_put (D := D) (ci := 3) (v := .int (nI (r.2.1 + 1))) (ty := .int) (C := R_Row) (T := F_Row) (N := 3) hx hb ht bi_Row t_Row t_Row_ok n_Row hown hK hP hD hS 0 rfl rfl 1 (by decide) (ht _ bw_58) (fun _ h9 => h9) rfl (by decide +kernel) rfl rfl (Nat.le_of_ble_eq_true rfl) d_Row_put_36 (fun H locs hP hD hS => ?_)
    have hP : va_P D vwCl [(h, .inr (3, [.ref a, .int (nI (r.2.1 + 1)), .int r.2.2])), (a, .inl (cI, N, .inl (upd r.1 r.2.1 b)))] H := hP
    have hD : va_D A [(h, .inr (3, [.ref a, .int (nI (r.2.1 + 1)), .int r.2.2])), (a, .inl (cI, N, .inl (upd r.1 r.2.1 b)))] := hD
    refine lv_goto (tgt := 47) hx hb d_Row_put_39 (by decide) ?_
    exact ft_retv (upd r.1 r.2.1 b, r.2.1 + 1, r.2.2) hx hb hr hlocks hP hK hD hS (by show _ = rput N r b; unfold rput; rw [if_pos (by omega)]) d_Row_put_47

set_option maxHeartbeats 4000000 in
set_option maxRecDepth 100000 in
/-- holds -/
theorem c_Row_holds (l : Launch) (D : va_G) (cI : ClassId) (h a N : Nat) (hN : N ≤ 2000) (r : RS) (hr0 : r.2.1 ≤ N) (i : Int32) (sz : Nat) : ft_Mi l y_Row_holds (.code y_Row_holds b_Row_holds 2 (some .boolean) :: ft_big) ({ frames := 0, cells := 0, slots := 0, locals := 0 }) D [(cI, .int)] sz [.ref h, .int i] (wRow h a cI N r) (fun (v : Int32) (_ : Unit) => v = rhas r.2.1 i) (fun _ => wRow h a cI N r) 0 0 := by
  refine ft_ei (cc := b_Row_holds) (maxL := 2) (ret := (some .boolean)) (by decide) rfl (Nat.le_of_ble_eq_true rfl) ?_
  intro p e s m below meth c A ls hx hb hr hml hts hown hlocks hmn hP hK hD hA hS hNW hl
  have ht : ∀ w ∈ ft_big, w.before _ s = true := fun w h => hts w (List.mem_cons_of_mem _ h)
  have hP : va_P D vwCl [(h, .inr (3, [.ref a, .int (nI r.2.1), .int r.2.2])), (a, .inl (cI, N, .inl r.1))] s.heap := hP
  have hD : va_D A [(h, .inr (3, [.ref a, .int (nI r.2.1), .int r.2.2])), (a, .inl (cI, N, .inl r.1))] := hD
  have hl : lv_has ls 2 [(0, .ref h), (1, .int i)] := hl
  refine lv_iload_n hx hb d_Row_holds_0 rfl (lv_at hl 1 rfl) ?_
  refine lv_if_lt (tgt := 25) hx hb d_Row_holds_1 (by decide) (fun c1 => ?_) (fun c1 => ?_)
  · skip
    refine lv_iconst (v := 0) hx hb d_Row_holds_25 (by decide +kernel) ?_
    exact ft_retz () hx hb hr (by decide) hlocks hP hK hD hS (by show (0 : Int32) = rhas r.2.1 i; unfold rhas; simp [c1]) d_Row_holds_26
  · skip
    refine lv_iload_n hx hb d_Row_holds_4 rfl (lv_at hl 1 rfl) ?_
    refine lv_aload_n hx hb d_Row_holds_5 rfl (lv_at hl 0 rfl) ?_
    refine va_get (D := D) (ci := 3) (v := .int (nI r.2.1)) (C := R_Row) (T := F_Row) (N := 3) hx hb ht bi_Row hown hK hP 0 rfl rfl 1 (by decide) (ht _ bw_58) (fun _ h9 => h9) rfl d_Row_holds_6 ?_
    refine lv_icmp_ge (tgt := 25) hx hb d_Row_holds_9 (by decide) (fun c9 => ?_) (fun c9 => ?_)
    · skip
      refine lv_iconst (v := 0) hx hb d_Row_holds_25 (by decide +kernel) ?_
      exact ft_retz () hx hb hr (by decide) hlocks hP hK hD hS (by show (0 : Int32) = rhas r.2.1 i; unfold rhas; simp [c1, c9]) d_Row_holds_26
    · skip
      refine lv_iload_n hx hb d_Row_holds_12 rfl (lv_at hl 1 rfl) ?_
      refine lv_aload_n hx hb d_Row_holds_13 rfl (lv_at hl 0 rfl) ?_
      refine va_get (D := D) (ci := 3) (v := .ref a) (C := R_Row) (T := F_Row) (N := 3) hx hb ht bi_Row hown hK hP 0 rfl rfl 0 (by decide) (ht _ bw_57) (fun _ h9 => h9) rfl d_Row_holds_14 ?_
      refine va_alen (v := nI N) hx hb hK hP 1 0 rfl rfl rfl d_Row_holds_17 ?_
      refine lv_icmp_ge (tgt := 25) hx hb d_Row_holds_18 (by decide) (fun c18 => absurd c18 (fun h => c9 (Int32.le_trans (nI_le hr0 (by omega)) h))) (fun c18 => ?_)
      refine lv_iconst (v := 1) hx hb d_Row_holds_21 (by decide +kernel) ?_
      refine lv_goto (tgt := 26) hx hb d_Row_holds_22 (by decide) ?_
      exact ft_retz () hx hb hr (by decide) hlocks hP hK hD hS (by show (1 : Int32) = rhas r.2.1 i; unfold rhas; simp [c1, c9, c18]) d_Row_holds_26

set_option maxHeartbeats 4000000 in
set_option maxRecDepth 100000 in
/-- byteAt -/
theorem c_Row_byteAt (l : Launch) (D : va_G) (cI : ClassId) (h a N : Nat) (hN : N ≤ 2000) (r : RS) (hr0 : r.2.1 ≤ N) (i : Int32) (sz : Nat) : ft_Mi l y_Row_byteAt (.code y_Row_byteAt b_Row_byteAt 2 (some .int) :: ft_big) ({ frames := 1, cells := 0, slots := 0, locals := 40 }) D [(cI, .int)] sz [.ref h, .int i] (wRow h a cI N r) (fun (v : Int32) (_ : Unit) => v = rat r i) (fun _ => wRow h a cI N r) 0 0 := by
  refine ft_ei (cc := b_Row_byteAt) (maxL := 2) (ret := (some .int)) (by decide) rfl (Nat.le_of_ble_eq_true rfl) ?_
  intro p e s m below meth c A ls hx hb hr hml hts hown hlocks hmn hP hK hD hA hS hNW hl
  have ht : ∀ w ∈ ft_big, w.before _ s = true := fun w h => hts w (List.mem_cons_of_mem _ h)
  have hP : va_P D vwCl [(h, .inr (3, [.ref a, .int (nI r.2.1), .int r.2.2])), (a, .inl (cI, N, .inl r.1))] s.heap := hP
  have hD : va_D A [(h, .inr (3, [.ref a, .int (nI r.2.1), .int r.2.2])), (a, .inl (cI, N, .inl r.1))] := hD
  have hl : lv_has ls 2 [(0, .ref h), (1, .int i)] := hl
  refine lv_aload_n hx hb d_Row_byteAt_0 rfl (lv_at hl 0 rfl) ?_
  refine lv_iload_n hx hb d_Row_byteAt_1 rfl (lv_at hl 1 rfl) ?_
  refine ft_ci (wc := [(h, .inr (3, [.ref a, .int (nI r.2.1), .int r.2.2])), (a, .inl (cI, N, .inl r.1))]) (wr := []) (va_runV (As := [.int i]) (rest := []) ⟨hx, hb, hml, hown, ht⟩ (c_Row_holds l D cI h a N hN r hr0 i s.heap.size) (ft_cwV 1 ht bw_243 bw_245 bw_13 bw_33 bw_246 (by decide) ⟨Nat.le_of_ble_eq_true rfl, Nat.le_of_ble_eq_true rfl⟩) ⟨ft_blind, va_recv hK hP (ci := 3) (q0 := 0) rfl rfl, (ft_pre hP hD hK hNW [0, 1] [0] rfl rfl (by decide) rfl _)⟩ rfl rfl hl.1 rfl (lv_room (Nat.le_of_ble_eq_true rfl)) d_Row_byteAt_2 ⟨Nat.le_of_ble_eq_true rfl, Nat.le_of_ble_eq_true rfl⟩) hP hD hS hA [0, 1] [] rfl rfl (by decide) (by decide) (fun r_1 u_2 H locs hu_2 hP hD hS => ?_)
  subst hu_2
  have hP : va_P D vwCl [(h, .inr (3, [.ref a, .int (nI r.2.1), .int r.2.2])), (a, .inl (cI, N, .inl r.1))] H := hP
  have hD : va_D A [(h, .inr (3, [.ref a, .int (nI r.2.1), .int r.2.2])), (a, .inl (cI, N, .inl r.1))] := hD
  refine lv_if_eq (tgt := 17) hx hb d_Row_byteAt_5 (by decide) (fun c5 => ?_) (fun c5 => ?_)
  · skip
    refine lv_iconst (v := (-1)) hx hb d_Row_byteAt_17 (by decide +kernel) ?_
    exact ft_reti () hx hb hr hlocks hP hK hD hS (by show _ = rat r i; unfold rat; simp [c5]) d_Row_byteAt_18
  · skip
    refine lv_aload_n hx hb d_Row_byteAt_8 rfl (lv_at hl 0 rfl) ?_
    refine va_get (D := D) (ci := 3) (v := .ref a) (C := R_Row) (T := F_Row) (N := 3) hx hb ht bi_Row hown hK hP 0 rfl rfl 0 (by decide) (ht _ bw_57) (fun _ h9 => h9) rfl d_Row_byteAt_9 ?_
    refine lv_iload_n hx hb d_Row_byteAt_12 rfl (lv_at hl 1 rfl) ?_
    refine va_iald hx hb hK hP 1 0 rfl rfl (rhas_in c5 hr0 (by omega)) d_Row_byteAt_13 ?_
    refine lv_goto (tgt := 18) hx hb d_Row_byteAt_14 (by decide) ?_
    exact ft_reti () hx hb hr hlocks hP hK hD hS (by show _ = rat r i; unfold rat; simp [c5]) d_Row_byteAt_18

set_option maxHeartbeats 4000000 in
set_option maxRecDepth 100000 in
/-- turn -/
theorem c_Row_turn (l : Launch) (D : va_G) (cI : ClassId) (h a N : Nat) (hN : N ≤ 2000) (r : RS) (hr0 : r.2.1 ≤ N) (i k : Int32) (sz : Nat) : ft_Mi l y_Row_turn (.code y_Row_turn b_Row_turn 3 (some .boolean) :: ft_big) ({ frames := 1, cells := 0, slots := 0, locals := 40 }) D [(cI, .int)] sz [.ref h, .int i, .int k] (wRow h a cI N r) (fun (v : Int32) (u : RS) => v = rhas r.2.1 i ∧ u = rturn r i k) (wRow h a cI N) 0 0 := by
  refine ft_ei (cc := b_Row_turn) (maxL := 3) (ret := (some .boolean)) (by decide) rfl (Nat.le_of_ble_eq_true rfl) ?_
  intro p e s m below meth c A ls hx hb hr hml hts hown hlocks hmn hP hK hD hA hS hNW hl
  have ht : ∀ w ∈ ft_big, w.before _ s = true := fun w h => hts w (List.mem_cons_of_mem _ h)
  have hP : va_P D vwCl [(h, .inr (3, [.ref a, .int (nI r.2.1), .int r.2.2])), (a, .inl (cI, N, .inl r.1))] s.heap := hP
  have hD : va_D A [(h, .inr (3, [.ref a, .int (nI r.2.1), .int r.2.2])), (a, .inl (cI, N, .inl r.1))] := hD
  have hl : lv_has ls 3 [(0, .ref h), (1, .int i), (2, .int k)] := hl
  refine lv_aload_n hx hb d_Row_turn_0 rfl (lv_at hl 0 rfl) ?_
  refine lv_iload_n hx hb d_Row_turn_1 rfl (lv_at hl 1 rfl) ?_
  refine ft_ci (wc := [(h, .inr (3, [.ref a, .int (nI r.2.1), .int r.2.2])), (a, .inl (cI, N, .inl r.1))]) (wr := []) (va_runV (As := [.int i]) (rest := []) ⟨hx, hb, hml, hown, ht⟩ (c_Row_holds l D cI h a N hN r hr0 i s.heap.size) (ft_cwV 1 ht bw_243 bw_245 bw_13 bw_33 bw_246 (by decide) ⟨Nat.le_of_ble_eq_true rfl, Nat.le_of_ble_eq_true rfl⟩) ⟨ft_blind, va_recv hK hP (ci := 3) (q0 := 0) rfl rfl, (ft_pre hP hD hK hNW [0, 1] [0] rfl rfl (by decide) rfl _)⟩ rfl rfl hl.1 rfl (lv_room (Nat.le_of_ble_eq_true rfl)) d_Row_turn_2 ⟨Nat.le_of_ble_eq_true rfl, Nat.le_of_ble_eq_true rfl⟩) hP hD hS hA [0, 1] [] rfl rfl (by decide) (by decide) (fun r_1 u_2 H locs hu_2 hP hD hS => ?_)
  subst hu_2
  have hP : va_P D vwCl [(h, .inr (3, [.ref a, .int (nI r.2.1), .int r.2.2])), (a, .inl (cI, N, .inl r.1))] H := hP
  have hD : va_D A [(h, .inr (3, [.ref a, .int (nI r.2.1), .int r.2.2])), (a, .inl (cI, N, .inl r.1))] := hD
  refine lv_if_ne (tgt := 10) hx hb d_Row_turn_5 (by decide) (fun c5 => ?_) (fun c5 => ?_)
  · skip
    refine lv_aload_n hx hb d_Row_turn_10 rfl (lv_at hl 0 rfl) ?_
    refine va_get (D := D) (ci := 3) (v := .ref a) (C := R_Row) (T := F_Row) (N := 3) hx hb ht bi_Row hown hK hP 0 rfl rfl 0 (by decide) (ht _ bw_57) (fun _ h9 => h9) rfl d_Row_turn_11 ?_
    refine lv_iload_n hx hb d_Row_turn_14 rfl (lv_at hl 1 rfl) ?_
    refine lv_dup2_11 hx hb d_Row_turn_15 rfl rfl ?_
    refine va_iald hx hb hK hP 1 0 rfl rfl (rhas_in c5 hr0 (by omega)) d_Row_turn_16 ?_
    refine lv_iload_n hx hb d_Row_turn_17 rfl (lv_at hl 2 rfl) ?_
    refine lv_ixor hx hb d_Row_turn_18 ?_
    refine va_iast hx hb hK hP hD hS 1 0 rfl rfl (rhas_in c5 hr0 (by omega)) d_Row_turn_19 (fun H locs hP hD hS => ?_)
    have hP : va_P D vwCl [(h, .inr (3, [.ref a, .int (nI r.2.1), .int r.2.2])), (a, .inl (cI, N, .inl (upd r.1 i.toNatClampNeg ((r.1 i.toNatClampNeg) ^^^ k))))] H := hP
    have hD : va_D A [(h, .inr (3, [.ref a, .int (nI r.2.1), .int r.2.2])), (a, .inl (cI, N, .inl (upd r.1 i.toNatClampNeg ((r.1 i.toNatClampNeg) ^^^ k))))] := hD
    refine lv_iconst (v := 1) hx hb d_Row_turn_20 (by decide +kernel) ?_
    exact ft_retz (upd r.1 i.toNatClampNeg ((r.1 i.toNatClampNeg) ^^^ k), r.2.1, r.2.2) hx hb hr (by decide) hlocks hP hK hD hS ⟨(rhas_ne c5).symm, (by show _ = rturn r i k; unfold rturn; simp [c5])⟩ d_Row_turn_21
  · skip
    refine lv_iconst (v := 0) hx hb d_Row_turn_8 (by decide +kernel) ?_
    exact ft_retz (r.1, r.2.1, r.2.2) hx hb hr (by decide) hlocks hP hK hD hS ⟨c5.symm, (by show _ = rturn r i k; unfold rturn; simp [c5])⟩ d_Row_turn_9

set_option maxHeartbeats 4000000 in
set_option maxRecDepth 100000 in
/-- cutTo -/
theorem c_Row_cutTo (l : Launch) (D : va_G) (cI : ClassId) (h a N : Nat) (hN : N ≤ 2000) (r : RS) (hr0 : r.2.1 ≤ N) (j : Nat) (hj : j ≤ 2000) (sz : Nat) : ft_Mv l y_Row_cutTo (.code y_Row_cutTo b_Row_cutTo 2 none :: ft_big) ({ frames := 0, cells := 0, slots := 0, locals := 0 }) D [(cI, .int)] sz [.ref h, .int (nI j)] (wRow h a cI N r) (fun u : RS => u = rcut r j) (wRow h a cI N) 0 0 := by
  refine ft_ev (cc := b_Row_cutTo) (maxL := 2) (ret := none) (by decide) rfl (Nat.le_of_ble_eq_true rfl) ?_
  intro p e s m below meth c A ls hx hb hr hml hts hown hlocks hmn hP hK hD hA hS hNW hl
  have ht : ∀ w ∈ ft_big, w.before _ s = true := fun w h => hts w (List.mem_cons_of_mem _ h)
  have hP : va_P D vwCl [(h, .inr (3, [.ref a, .int (nI r.2.1), .int r.2.2])), (a, .inl (cI, N, .inl r.1))] s.heap := hP
  have hD : va_D A [(h, .inr (3, [.ref a, .int (nI r.2.1), .int r.2.2])), (a, .inl (cI, N, .inl r.1))] := hD
  have hl : lv_has ls 2 [(0, .ref h), (1, .int (nI j))] := hl
  refine lv_iload_n hx hb d_Row_cutTo_0 rfl (lv_at hl 1 rfl) ?_
  refine lv_if_lt (tgt := 22) hx hb d_Row_cutTo_1 (by decide) (fun c1 => absurd c1 (nI_pos (by omega))) (fun c1 => ?_)
  refine lv_iload_n hx hb d_Row_cutTo_4 rfl (lv_at hl 1 rfl) ?_
  refine lv_aload_n hx hb d_Row_cutTo_5 rfl (lv_at hl 0 rfl) ?_
  refine va_get (D := D) (ci := 3) (v := .int (nI r.2.1)) (C := R_Row) (T := F_Row) (N := 3) hx hb ht bi_Row hown hK hP 0 rfl rfl 1 (by decide) (ht _ bw_58) (fun _ h9 => h9) rfl d_Row_cutTo_6 ?_
  refine lv_icmp_gt (tgt := 22) hx hb d_Row_cutTo_9 (by decide) (fun c9 => ?_) (fun c9 => ?_)
  · skip
    have c9 : r.2.1 < j := (nI_ltI (by omega) (by omega)).mp c9
    exact ft_retv (r.1, r.2.1, r.2.2) hx hb hr hlocks hP hK hD hS (by show _ = rcut r j; unfold rcut; rw [if_neg (by omega)]) d_Row_cutTo_22
  · skip
    have c9 : ¬ r.2.1 < j := fun h => c9 ((nI_ltI (by omega) (by omega)).mpr h)
    refine lv_aload_n hx hb d_Row_cutTo_12 rfl (lv_at hl 0 rfl) ?_
    refine lv_iload_n hx hb d_Row_cutTo_13 rfl (lv_at hl 1 rfl) ?_
    refine va_put (D := D) (ci := 3) (v := .int (nI j)) (ty := .int) (C := R_Row) (T := F_Row) (N := 3) hx hb ht bi_Row t_Row t_Row_ok n_Row hown hK hP hD hS 0 rfl rfl 1 (by decide) (ht _ bw_58) (fun _ h9 => h9) rfl (by decide +kernel) rfl rfl (Nat.le_of_ble_eq_true rfl) d_Row_cutTo_14 (fun H locs hP hD hS => ?_)
    have hP : va_P D vwCl [(h, .inr (3, [.ref a, .int (nI j), .int r.2.2])), (a, .inl (cI, N, .inl r.1))] H := hP
    have hD : va_D A [(h, .inr (3, [.ref a, .int (nI j), .int r.2.2])), (a, .inl (cI, N, .inl r.1))] := hD
    refine lv_aload_n hx hb d_Row_cutTo_17 rfl (lv_at hl 0 rfl) ?_
    refine lv_iconst (v := 0) hx hb d_Row_cutTo_18 (by decide +kernel) ?_
    refine va_put (D := D) (ci := 3) (v := .int 0) (ty := .boolean) (C := R_Row) (T := F_Row) (N := 3) hx hb ht bi_Row t_Row t_Row_ok n_Row hown hK hP hD hS 0 rfl rfl 2 (by decide) (ht _ bw_64) (fun _ h9 => h9) rfl (by decide +kernel) rfl rfl (Nat.le_of_ble_eq_true rfl) d_Row_cutTo_19 (fun H locs hP hD hS => ?_)
    have hP : va_P D vwCl [(h, .inr (3, [.ref a, .int (nI j), .int 0])), (a, .inl (cI, N, .inl r.1))] H := hP
    have hD : va_D A [(h, .inr (3, [.ref a, .int (nI j), .int 0])), (a, .inl (cI, N, .inl r.1))] := hD
    exact ft_retv (r.1, j, 0) hx hb hr hlocks hP hK hD hS (by show _ = rcut r j; unfold rcut; rw [if_pos (by omega)]) d_Row_cutTo_22
