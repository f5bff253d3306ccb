set_option maxHeartbeats 4000000 in
set_option maxRecDepth 100000 in
theorem c_G_writeGroup (l : Launch) (D : va_G) (cI : ClassId) (h1 a1 h2 a2 : Nat) (r t : RS) (hr0 : r.2.1 ≤ 400) (ht0 : t.2.1 ≤ 2000) (i j : Nat) (hij : i ≤ j) (hj : j ≤ r.2.1) (sz : Nat) : ft_Mv l y_GW_writeGroup (.code y_GW_writeGroup b_GW_writeGroup 5 none :: ft_big) ({ frames := 2, cells := 0, slots := 0, locals := 80 }) D [(cI, .int)] sz [.ref h1, .int (nI i), .int (nI j), .ref h2] (wRow h1 a1 cI 400 r ++ wRow h2 a2 cI 2000 t) (fun u : RS => u = rputs 2000 t (grp r.1 i j)) (fun u => wRow h1 a1 cI 400 r ++ wRow h2 a2 cI 2000 u) 0 0 := by
  refine ft_ev (cc := b_GW_writeGroup) (maxL := 5) (ret := none) (by decide) rfl (Nat.le_of_ble_eq_true rfl) ?_
  intro p e s m below meth c A ls hx hb hr hml hts hown hlocks hmn hP hK hD hA hS hNW hl
  have ht : ∀ w ∈ ft_big, w.before _ s = true := fun w h => hts w (List.mem_cons_of_mem _ h)
  have hP : va_P D vwCl [(h1, .inr (3, [.ref a1, .int (nI r.2.1), .int r.2.2])), (a1, .inl (cI, 400, .inl r.1)), (h2, .inr (3, [.ref a2, .int (nI t.2.1), .int t.2.2])), (a2, .inl (cI, 2000, .inl t.1))] s.heap := hP
  have hD : va_D A [(h1, .inr (3, [.ref a1, .int (nI r.2.1), .int r.2.2])), (a1, .inl (cI, 400, .inl r.1)), (h2, .inr (3, [.ref a2, .int (nI t.2.1), .int t.2.2])), (a2, .inl (cI, 2000, .inl t.1))] := hD
  have hl : lv_has ls 5 [(0, .ref h1), (1, .int (nI i)), (2, .int (nI j)), (3, .ref h2)] := hl
  refine lv_aload_n hx hb d_GW_writeGroup_0 rfl (lv_at hl 3 rfl) ?_
  refine lv_iload_n hx hb d_GW_writeGroup_1 rfl (lv_at hl 2 rfl) ?_
  refine lv_iload_n hx hb d_GW_writeGroup_2 rfl (lv_at hl 1 rfl) ?_
  refine lv_isub hx hb d_GW_writeGroup_3 ?_
  refine ft_top (pk_sub (by omega)) ?_
  refine lv_iconst (v := 1) hx hb d_GW_writeGroup_4 (by decide +kernel) ?_
  refine lv_iadd hx hb d_GW_writeGroup_5 ?_
  refine ft_top (nI_1 (j - i)) ?_
  refine ft_cv (wc := [(h2, .inr (3, [.ref a2, .int (nI t.2.1), .int t.2.2])), (a2, .inl (cI, 2000, .inl t.1))]) (wr := [(h1, .inr (3, [.ref a1, .int (nI r.2.1), .int r.2.2])), (a1, .inl (cI, 400, .inl r.1))]) (va_runV (As := [.int (nI (j - i + 1))]) (rest := []) ⟨hx, hb, hml, hown, ht⟩ (c_Row_put l D cI h2 a2 2000 (by omega) t ht0 (nI (j - i + 1)) s.heap.size) (ft_cwV 1 ht bw_273 bw_202 bw_203 bw_33 bw_204 (by decide) ⟨Nat.le_of_ble_eq_true rfl, Nat.le_of_ble_eq_true rfl⟩) ⟨ft_blind, va_recv hK hP (ci := 3) (q0 := 2) rfl rfl, (ft_pre hP hD hK hNW [2, 3] [0] rfl rfl (by decide) rfl _)⟩ rfl rfl hl.1 rfl (lv_room (Nat.le_of_ble_eq_true rfl)) d_GW_writeGroup_6 ⟨Nat.le_of_ble_eq_true rfl, Nat.le_of_ble_eq_true rfl⟩) hP hD hS hA [2, 3] [0, 1] rfl rfl (by decide) (by decide) (fun u_2 H locs hu_2 hP hD hS => ?_)
  have le_u_2 : u_2.2.1 ≤ 2000 := by rw [hu_2]; exact rput_le ht0
  have hP : va_P D vwCl [(h1, .inr (3, [.ref a1, .int (nI r.2.1), .int r.2.2])), (a1, .inl (cI, 400, .inl r.1)), (h2, .inr (3, [.ref a2, .int (nI u_2.2.1), .int u_2.2.2])), (a2, .inl (cI, 2000, .inl u_2.1))] H := hP
  have hD : va_D A [(h1, .inr (3, [.ref a1, .int (nI r.2.1), .int r.2.2])), (a1, .inl (cI, 400, .inl r.1)), (h2, .inr (3, [.ref a2, .int (nI u_2.2.1), .int u_2.2.2])), (a2, .inl (cI, 2000, .inl u_2.1))] := hD
  refine lv_iload_n hx hb d_GW_writeGroup_9 rfl (lv_at hl 1 rfl) ?_
  refine lv_istore (lv' := [(4, .int (nI i)), (0, .ref h1), (1, .int (nI i)), (2, .int (nI j)), (3, .ref h2)]) hx hb d_GW_writeGroup_10 hl (by decide) rfl (fun ls hl => ?_)
  have loop : ∀ (n : Nat) (k : Nat) (t' : RS) (H : Heap) (locs : List Loc) (ls : Array Slot), k + n = j → t'.2.1 ≤ 2000 → va_P D vwCl [(h1, .inr (3, [.ref a1, .int (nI r.2.1), .int r.2.2])), (a1, .inl (cI, 400, .inl r.1)), (h2, .inr (3, [.ref a2, .int (nI t'.2.1), .int t'.2.2])), (a2, .inl (cI, 2000, .inl t'.1))] H → va_D A [(h1, .inr (3, [.ref a1, .int (nI r.2.1), .int r.2.2])), (a1, .inl (cI, 400, .inl r.1)), (h2, .inr (3, [.ref a2, .int (nI t'.2.1), .int t'.2.2])), (a2, .inl (cI, 2000, .inl t'.1))] → va_S A s.heap H locs → lv_has ls 5 [(4, .int (nI k)), (0, .ref h1), (1, .int (nI i)), (2, .int (nI j)), (3, .ref h2)] → rputs 2000 t' (seg r.1 k n) = rputs 2000 t (grp r.1 i j) → W p l e ({ frames := 2, cells := 0, slots := 0, locals := 80 } : Room) s m ([.ref h1, .int (nI i), .int (nI j), .ref h2] : List Value).toArray below meth c H locs 0 0 (MQ below (va_Qv (fun u : RS => u = rputs 2000 t (grp r.1 i j)) (ft_B D vwCl [(cI, .int)] A (fun u => wRow h1 a1 cI 400 r ++ wRow h2 a2 cI 2000 u)) A) ([.ref h1, .int (nI i), .int (nI j), .ref h2] : List Value).toArray s 0 0 A) (F0 m 12 ls []) := by
    intro n
    induction n with
    | zero =>
      intro k t' H locs ls hk ht' hP hD hS hl heq
      refine lv_iload hx hb d_GW_writeGroup_12 (lv_at hl 0 rfl) ?_
      refine lv_iload_n hx hb d_GW_writeGroup_14 rfl (lv_at hl 3 rfl) ?_
      refine lv_icmp_ge (tgt := 34) hx hb d_GW_writeGroup_15 (by decide) (fun c15 => ?_) (fun c15 => absurd (nI_le (by omega) (by omega)) c15)
      have c15 : j ≤ k := (nI_leI (by omega) (by omega)).mp c15
      exact ft_retv t' hx hb hr hlocks hP hK hD hS heq d_GW_writeGroup_34
    | succ n ih =>
      intro k t' H locs ls hk ht' hP hD hS hl heq
      refine lv_iload hx hb d_GW_writeGroup_12 (lv_at hl 0 rfl) ?_
      refine lv_iload_n hx hb d_GW_writeGroup_14 rfl (lv_at hl 3 rfl) ?_
      refine lv_icmp_ge (tgt := 34) hx hb d_GW_writeGroup_15 (by decide) (fun c15 => absurd c15 (nI_ge (by omega) (by omega))) (fun c15 => ?_)
      have c15 : ¬ j ≤ k := fun h => c15 ((nI_leI (by omega) (by omega)).mpr h)
      refine lv_aload_n hx hb d_GW_writeGroup_18 rfl (lv_at hl 4 rfl) ?_
      refine lv_aload_n hx hb d_GW_writeGroup_19 rfl (lv_at hl 1 rfl) ?_
      refine lv_iload hx hb d_GW_writeGroup_20 (lv_at hl 0 rfl) ?_
      refine ft_ci (wc := [(h1, .inr (3, [.ref a1, .int (nI r.2.1), .int r.2.2])), (a1, .inl (cI, 400, .inl r.1))]) (wr := [(h2, .inr (3, [.ref a2, .int (nI t'.2.1), .int t'.2.2])), (a2, .inl (cI, 2000, .inl t'.1))]) (va_runV (As := [.int (nI k)]) (rest := [.ref h2]) ⟨hx, hb, hml, hown, ht⟩ (c_Row_byteAt l D cI h1 a1 400 (by omega) r hr0 (nI k) H.size) (ft_cwV 1 ht bw_269 bw_240 bw_241 bw_33 bw_242 (by decide) ⟨Nat.le_of_ble_eq_true rfl, Nat.le_of_ble_eq_true rfl⟩) ⟨ft_blind, va_recv hK hP (ci := 3) (q0 := 0) rfl rfl, (ft_pre hP hD hK hNW [0, 1] [0] rfl rfl (by decide) rfl _)⟩ rfl rfl hl.1 rfl (lv_room (Nat.le_of_ble_eq_true rfl)) d_GW_writeGroup_22 ⟨Nat.le_of_ble_eq_true rfl, Nat.le_of_ble_eq_true rfl⟩) hP hD hS hA [0, 1] [2, 3] rfl rfl (by decide) (by decide) (fun r_3 u_4 H locs hu_4 hP hD hS => ?_)
      rw [rat_nI (r := r) (j := k) (by omega) (by omega)] at hu_4
      subst hu_4
      have hP : va_P D vwCl [(h2, .inr (3, [.ref a2, .int (nI t'.2.1), .int t'.2.2])), (a2, .inl (cI, 2000, .inl t'.1)), (h1, .inr (3, [.ref a1, .int (nI r.2.1), .int r.2.2])), (a1, .inl (cI, 400, .inl r.1))] H := hP
      have hD : va_D A [(h2, .inr (3, [.ref a2, .int (nI t'.2.1), .int t'.2.2])), (a2, .inl (cI, 2000, .inl t'.1)), (h1, .inr (3, [.ref a1, .int (nI r.2.1), .int r.2.2])), (a1, .inl (cI, 400, .inl r.1))] := hD
      refine ft_cv (wc := [(h2, .inr (3, [.ref a2, .int (nI t'.2.1), .int t'.2.2])), (a2, .inl (cI, 2000, .inl t'.1))]) (wr := [(h1, .inr (3, [.ref a1, .int (nI r.2.1), .int r.2.2])), (a1, .inl (cI, 400, .inl r.1))]) (va_runV (As := [.int (r.1 k)]) (rest := []) ⟨hx, hb, hml, hown, ht⟩ (c_Row_put l D cI h2 a2 2000 (by omega) t' ht' (r.1 k) H.size) (ft_cwV 1 ht bw_273 bw_202 bw_203 bw_33 bw_204 (by decide) ⟨Nat.le_of_ble_eq_true rfl, Nat.le_of_ble_eq_true rfl⟩) ⟨ft_blind, va_recv hK hP (ci := 3) (q0 := 0) rfl rfl, (ft_pre hP hD hK hNW [0, 1] [0] rfl rfl (by decide) rfl _)⟩ rfl rfl hl.1 rfl (lv_room (Nat.le_of_ble_eq_true rfl)) d_GW_writeGroup_25 ⟨Nat.le_of_ble_eq_true rfl, Nat.le_of_ble_eq_true rfl⟩) hP hD hS hA [0, 1] [2, 3] rfl rfl (by decide) (by decide) (fun u_6 H locs hu_6 hP hD hS => ?_)
      have le_u_6 : u_6.2.1 ≤ 2000 := by rw [hu_6]; exact rput_le ht'
      have hP : va_P D vwCl [(h1, .inr (3, [.ref a1, .int (nI r.2.1), .int r.2.2])), (a1, .inl (cI, 400, .inl r.1)), (h2, .inr (3, [.ref a2, .int (nI u_6.2.1), .int u_6.2.2])), (a2, .inl (cI, 2000, .inl u_6.1))] H := hP
      have hD : va_D A [(h1, .inr (3, [.ref a1, .int (nI r.2.1), .int r.2.2])), (a1, .inl (cI, 400, .inl r.1)), (h2, .inr (3, [.ref a2, .int (nI u_6.2.1), .int u_6.2.2])), (a2, .inl (cI, 2000, .inl u_6.1))] := hD
      refine lv_iinc (v := nI (k + 1)) (lv' := [(4, .int (nI (k + 1))), (0, .ref h1), (1, .int (nI i)), (2, .int (nI j)), (3, .ref h2)]) hx hb d_GW_writeGroup_28 hl (k := 0) rfl (nI_1 k) (by decide) rfl (fun ls hl => ?_)
      refine lv_goto (tgt := 12) hx hb d_GW_writeGroup_31 (by decide) ?_
      exact ih (k + 1) u_6 H locs ls (by omega) le_u_6 (hP.sub [0, 1, 2, 3] rfl) (hD.sub [0, 1, 2, 3] (by decide) rfl) hS (lv_sub hl [0, 1, 2, 3, 4] rfl) (by rw [hu_6]; exact heq)
  exact loop (j - i) i u_2 H locs ls (by omega) le_u_2 (hP.sub [0, 1, 2, 3] rfl) (hD.sub [0, 1, 2, 3] (by decide) rfl) hS (lv_sub hl [0, 1, 2, 3, 4] rfl) (by rw [hu_2]; rfl)

set_option maxHeartbeats 4000000 in
set_option maxRecDepth 100000 in
theorem c_G_frame (l : Launch) (D : va_G) (cI : ClassId) (hw : Nat) (h1 a1 h2 a2 : Nat) (r t : RS) (hr0 : r.2.1 ≤ 400) (ht0 : t.2.1 ≤ 2000) (sz : Nat) : ft_Mv l y_GW_frame (.code y_GW_frame b_GW_frame 7 none :: ft_big) ({ frames := 3, cells := 0, slots := 0, locals := 130 }) D [(cI, .int)] sz [.ref hw, .ref h1, .ref h2] (wRow h1 a1 cI 400 r ++ wRow h2 a2 cI 2000 t) (fun u : RS => u = rputs 2000 t (e0 r.1 r.2.1 r.2.1 0 0 0)) (fun u => wRow h1 a1 cI 400 r ++ wRow h2 a2 cI 2000 u) 0 0 := by
  refine ft_ev (cc := b_GW_frame) (maxL := 7) (ret := none) (by decide) rfl (Nat.le_of_ble_eq_true rfl) ?_
  intro p e s m below meth c A ls hx hb hr hml hts hown hlocks hmn hP hK hD hA hS hNW hl
  have ht : ∀ w ∈ ft_big, w.before _ s = true := fun w h => hts w (List.mem_cons_of_mem _ h)
  have hP : va_P D vwCl [(h1, .inr (3, [.ref a1, .int (nI r.2.1), .int r.2.2])), (a1, .inl (cI, 400, .inl r.1)), (h2, .inr (3, [.ref a2, .int (nI t.2.1), .int t.2.2])), (a2, .inl (cI, 2000, .inl t.1))] s.heap := hP
  have hD : va_D A [(h1, .inr (3, [.ref a1, .int (nI r.2.1), .int r.2.2])), (a1, .inl (cI, 400, .inl r.1)), (h2, .inr (3, [.ref a2, .int (nI t.2.1), .int t.2.2])), (a2, .inl (cI, 2000, .inl t.1))] := hD
  have hl : lv_has ls 7 [(0, .ref hw), (1, .ref h1), (2, .ref h2)] := hl
  refine lv_aload_n hx hb d_GW_frame_0 rfl (lv_at hl 1 rfl) ?_
  refine va_getN (D := D) (ci := 3) (v := .int (nI r.2.1)) (C := R_Row) (T := F_Row) (N := 3) hx hb ht bi_Row hown hK hP 0 rfl rfl 1 (by decide) (va_Nw.use rfl (hNW _ bn_61)) (fun _ h9 => h9) rfl d_GW_frame_1 ?_
  refine lv_istore_n (lv' := [(3, .int (nI r.2.1)), (0, .ref hw), (1, .ref h1), (2, .ref h2)]) hx hb d_GW_frame_4 rfl hl (by decide) rfl (fun ls hl => ?_)
  refine lv_iconst (v := nI 0) hx hb d_GW_frame_5 (by decide +kernel) ?_
  refine lv_istore (lv' := [(4, .int (nI 0)), (3, .int (nI r.2.1)), (0, .ref hw), (1, .ref h1), (2, .ref h2)]) hx hb d_GW_frame_6 hl (by decide) rfl (fun ls hl => ?_)
  refine lv_iconst (v := 0) hx hb d_GW_frame_8 (by decide +kernel) ?_
  refine lv_istore (lv' := [(5, .int 0), (4, .int (nI 0)), (3, .int (nI r.2.1)), (0, .ref hw), (1, .ref h1), (2, .ref h2)]) hx hb d_GW_frame_9 hl (by decide) rfl (fun ls hl => ?_)
  refine lv_iconst (v := nI 0) hx hb d_GW_frame_11 (by decide +kernel) ?_
  refine lv_istore (lv' := [(6, .int (nI 0)), (5, .int 0), (4, .int (nI 0)), (3, .int (nI r.2.1)), (0, .ref hw), (1, .ref h1), (2, .ref h2)]) hx hb d_GW_frame_12 hl (by decide) rfl (fun ls hl => ?_)
  have loop : ∀ (n : Nat) (i : Nat) (st : Nat) (bf : Int32) (t' : RS) (H : Heap) (locs : List Loc) (ls : Array Slot), i + n = r.2.1 → st ≤ i → t'.2.1 ≤ 2000 → va_P D vwCl [(h1, .inr (3, [.ref a1, .int (nI r.2.1), .int r.2.2])), (a1, .inl (cI, 400, .inl r.1)), (h2, .inr (3, [.ref a2, .int (nI t'.2.1), .int t'.2.2])), (a2, .inl (cI, 2000, .inl t'.1))] H → va_D A [(h1, .inr (3, [.ref a1, .int (nI r.2.1), .int r.2.2])), (a1, .inl (cI, 400, .inl r.1)), (h2, .inr (3, [.ref a2, .int (nI t'.2.1), .int t'.2.2])), (a2, .inl (cI, 2000, .inl t'.1))] → va_S A s.heap H locs → lv_has ls 7 [(6, .int (nI i)), (5, .int bf), (4, .int (nI st)), (3, .int (nI r.2.1)), (0, .ref hw), (1, .ref h1), (2, .ref h2)] → rputs 2000 t' (e0 r.1 r.2.1 n i st bf) = rputs 2000 t (e0 r.1 r.2.1 r.2.1 0 0 0) → W p l e ({ frames := 3, cells := 0, slots := 0, locals := 130 } : Room) s m ([.ref hw, .ref h1, .ref h2] : List Value).toArray below meth c H locs 0 0 (MQ below (va_Qv (fun u : RS => u = rputs 2000 t (e0 r.1 r.2.1 r.2.1 0 0 0)) (ft_B D vwCl [(cI, .int)] A (fun u => wRow h1 a1 cI 400 r ++ wRow h2 a2 cI 2000 u)) A) ([.ref hw, .ref h1, .ref h2] : List Value).toArray s 0 0 A) (F0 m 14 ls []) := by
    intro n
    induction n with
    | zero =>
      intro i st bf t' H locs ls hk hst ht' hP hD hS hl heq
      refine lv_iload hx hb d_GW_frame_14 (lv_at hl 0 rfl) ?_
      refine lv_iload_n hx hb d_GW_frame_16 rfl (lv_at hl 3 rfl) ?_
      refine lv_icmp_ge (tgt := 89) hx hb d_GW_frame_17 (by decide) (fun c17 => ?_) (fun c17 => absurd (nI_le (by omega) (by omega)) c17)
      have c17 : r.2.1 ≤ i := (nI_leI (by omega) (by omega)).mp c17
      refine lv_iload hx hb d_GW_frame_89 (lv_at hl 2 rfl) ?_
      refine lv_iload_n hx hb d_GW_frame_91 rfl (lv_at hl 3 rfl) ?_
      refine lv_icmp_lt (tgt := 100) hx hb d_GW_frame_92 (by decide) (fun c92 => ?_) (fun c92 => ?_)
      · skip
        have c92 : st < r.2.1 := (nI_ltI (by omega) (by omega)).mp c92
        refine lv_aload_n hx hb d_GW_frame_100 rfl (lv_at hl 5 rfl) ?_
        refine lv_iload hx hb d_GW_frame_101 (lv_at hl 2 rfl) ?_
        refine lv_iload_n hx hb d_GW_frame_103 rfl (lv_at hl 3 rfl) ?_
        refine lv_aload_n hx hb d_GW_frame_104 rfl (lv_at hl 6 rfl) ?_
        refine ft_cv (wc := [(h1, .inr (3, [.ref a1, .int (nI r.2.1), .int r.2.2])), (a1, .inl (cI, 400, .inl r.1)), (h2, .inr (3, [.ref a2, .int (nI t'.2.1), .int t'.2.2])), (a2, .inl (cI, 2000, .inl t'.1))]) (wr := []) (va_runS (As := [.ref h1, .int (nI st), .int (nI r.2.1), .ref h2]) (rest := []) ⟨hx, hb, hml, hown, ht⟩ (c_G_writeGroup l D cI h1 a1 h2 a2 r t' hr0 ht' st r.2.1 (by omega) (by omega) H.size) (ft_cwS 4 ht bw_270 bw_271 bw_36 bw_272 (by decide) ⟨Nat.le_of_ble_eq_true rfl, Nat.le_of_ble_eq_true rfl⟩) ⟨ft_blind, (ft_pre hP hD hK hNW [0, 1, 2, 3] [0] rfl rfl (by decide) rfl _)⟩ rfl rfl hl.1 rfl (lv_room (Nat.le_of_ble_eq_true rfl)) d_GW_frame_105 ⟨Nat.le_of_ble_eq_true rfl, Nat.le_of_ble_eq_true rfl⟩) hP hD hS hA [0, 1, 2, 3] [] rfl rfl (by decide) (by decide) (fun u_2 H locs hu_2 hP hD hS => ?_)
        have le_u_2 : u_2.2.1 ≤ 2000 := by rw [hu_2]; exact rputs_le _ ht'
        have hP : va_P D vwCl [(h1, .inr (3, [.ref a1, .int (nI r.2.1), .int r.2.2])), (a1, .inl (cI, 400, .inl r.1)), (h2, .inr (3, [.ref a2, .int (nI u_2.2.1), .int u_2.2.2])), (a2, .inl (cI, 2000, .inl u_2.1))] H := hP
        have hD : va_D A [(h1, .inr (3, [.ref a1, .int (nI r.2.1), .int r.2.2])), (a1, .inl (cI, 400, .inl r.1)), (h2, .inr (3, [.ref a2, .int (nI u_2.2.1), .int u_2.2.2])), (a2, .inl (cI, 2000, .inl u_2.1))] := hD
        refine lv_aload_n hx hb d_GW_frame_108 rfl (lv_at hl 6 rfl) ?_
        refine lv_iconst (v := 0) hx hb d_GW_frame_109 (by decide +kernel) ?_
        refine ft_cv (wc := [(h2, .inr (3, [.ref a2, .int (nI u_2.2.1), .int u_2.2.2])), (a2, .inl (cI, 2000, .inl u_2.1))]) (wr := [(h1, .inr (3, [.ref a1, .int (nI r.2.1), .int r.2.2])), (a1, .inl (cI, 400, .inl r.1))]) (va_runV (As := [.int 0]) (rest := []) ⟨hx, hb, hml, hown, ht⟩ (c_Row_put l D cI h2 a2 2000 (by omega) u_2 le_u_2 0 H.size) (ft_cwV 1 ht bw_273 bw_202 bw_203 bw_33 bw_204 (by decide) ⟨Nat.le_of_ble_eq_true rfl, Nat.le_of_ble_eq_true rfl⟩) ⟨ft_blind, va_recv hK hP (ci := 3) (q0 := 2) rfl rfl, (ft_pre hP hD hK hNW [2, 3] [0] rfl rfl (by decide) rfl _)⟩ rfl rfl hl.1 rfl (lv_room (Nat.le_of_ble_eq_true rfl)) d_GW_frame_110 ⟨Nat.le_of_ble_eq_true rfl, Nat.le_of_ble_eq_true rfl⟩) hP hD hS hA [2, 3] [0, 1] rfl rfl (by decide) (by decide) (fun u_4 H locs hu_4 hP hD hS => ?_)
        have le_u_4 : u_4.2.1 ≤ 2000 := by rw [hu_4]; exact rput_le le_u_2
        have hP : va_P D vwCl [(h1, .inr (3, [.ref a1, .int (nI r.2.1), .int r.2.2])), (a1, .inl (cI, 400, .inl r.1)), (h2, .inr (3, [.ref a2, .int (nI u_4.2.1), .int u_4.2.2])), (a2, .inl (cI, 2000, .inl u_4.1))] H := hP
        have hD : va_D A [(h1, .inr (3, [.ref a1, .int (nI r.2.1), .int r.2.2])), (a1, .inl (cI, 400, .inl r.1)), (h2, .inr (3, [.ref a2, .int (nI u_4.2.1), .int u_4.2.2])), (a2, .inl (cI, 2000, .inl u_4.1))] := hD
        exact ft_retv u_4 hx hb hr hlocks hP hK hD hS (by rw [← heq]; show _ = rputs 2000 t' ((if st < r.2.1 ∨ bf = 0 then grp r.1 st r.2.1 else []) ++ [0]); rw [if_pos (Or.inl (by omega)), rputs_app, hu_4, hu_2]; rfl) d_GW_frame_113
      · skip
        have c92 : ¬ st < r.2.1 := fun h => c92 ((nI_ltI (by omega) (by omega)).mpr h)
        refine lv_iload hx hb d_GW_frame_95 (lv_at hl 1 rfl) ?_
        refine lv_if_ne (tgt := 108) hx hb d_GW_frame_97 (by decide) (fun c97 => ?_) (fun c97 => ?_)
        · skip
          refine lv_aload_n hx hb d_GW_frame_108 rfl (lv_at hl 6 rfl) ?_
          refine lv_iconst (v := 0) hx hb d_GW_frame_109 (by decide +kernel) ?_
          refine ft_cv (wc := [(h2, .inr (3, [.ref a2, .int (nI t'.2.1), .int t'.2.2])), (a2, .inl (cI, 2000, .inl t'.1))]) (wr := [(h1, .inr (3, [.ref a1, .int (nI r.2.1), .int r.2.2])), (a1, .inl (cI, 400, .inl r.1))]) (va_runV (As := [.int 0]) (rest := []) ⟨hx, hb, hml, hown, ht⟩ (c_Row_put l D cI h2 a2 2000 (by omega) t' ht' 0 H.size) (ft_cwV 1 ht bw_273 bw_202 bw_203 bw_33 bw_204 (by decide) ⟨Nat.le_of_ble_eq_true rfl, Nat.le_of_ble_eq_true rfl⟩) ⟨ft_blind, va_recv hK hP (ci := 3) (q0 := 2) rfl rfl, (ft_pre hP hD hK hNW [2, 3] [0] rfl rfl (by decide) rfl _)⟩ rfl rfl hl.1 rfl (lv_room (Nat.le_of_ble_eq_true rfl)) d_GW_frame_110 ⟨Nat.le_of_ble_eq_true rfl, Nat.le_of_ble_eq_true rfl⟩) hP hD hS hA [2, 3] [0, 1] rfl rfl (by decide) (by decide) (fun u_6 H locs hu_6 hP hD hS => ?_)
          have le_u_6 : u_6.2.1 ≤ 2000 := by rw [hu_6]; exact rput_le ht'
          have hP : va_P D vwCl [(h1, .inr (3, [.ref a1, .int (nI r.2.1), .int r.2.2])), (a1, .inl (cI, 400, .inl r.1)), (h2, .inr (3, [.ref a2, .int (nI u_6.2.1), .int u_6.2.2])), (a2, .inl (cI, 2000, .inl u_6.1))] H := hP
          have hD : va_D A [(h1, .inr (3, [.ref a1, .int (nI r.2.1), .int r.2.2])), (a1, .inl (cI, 400, .inl r.1)), (h2, .inr (3, [.ref a2, .int (nI u_6.2.1), .int u_6.2.2])), (a2, .inl (cI, 2000, .inl u_6.1))] := hD
          exact ft_retv u_6 hx hb hr hlocks hP hK hD hS (by rw [← heq]; show _ = rputs 2000 t' ((if st < r.2.1 ∨ bf = 0 then grp r.1 st r.2.1 else []) ++ [0]); rw [if_neg (fun q => q.elim (fun q => by omega) c97), hu_6]; rfl) d_GW_frame_113
        · skip
          refine lv_aload_n hx hb d_GW_frame_100 rfl (lv_at hl 5 rfl) ?_
          refine lv_iload hx hb d_GW_frame_101 (lv_at hl 2 rfl) ?_
          refine lv_iload_n hx hb d_GW_frame_103 rfl (lv_at hl 3 rfl) ?_
          refine lv_aload_n hx hb d_GW_frame_104 rfl (lv_at hl 6 rfl) ?_
          refine ft_cv (wc := [(h1, .inr (3, [.ref a1, .int (nI r.2.1), .int r.2.2])), (a1, .inl (cI, 400, .inl r.1)), (h2, .inr (3, [.ref a2, .int (nI t'.2.1), .int t'.2.2])), (a2, .inl (cI, 2000, .inl t'.1))]) (wr := []) (va_runS (As := [.ref h1, .int (nI st), .int (nI r.2.1), .ref h2]) (rest := []) ⟨hx, hb, hml, hown, ht⟩ (c_G_writeGroup l D cI h1 a1 h2 a2 r t' hr0 ht' st r.2.1 (by omega) (by omega) H.size) (ft_cwS 4 ht bw_270 bw_271 bw_36 bw_272 (by decide) ⟨Nat.le_of_ble_eq_true rfl, Nat.le_of_ble_eq_true rfl⟩) ⟨ft_blind, (ft_pre hP hD hK hNW [0, 1, 2, 3] [0] rfl rfl (by decide) rfl _)⟩ rfl rfl hl.1 rfl (lv_room (Nat.le_of_ble_eq_true rfl)) d_GW_frame_105 ⟨Nat.le_of_ble_eq_true rfl, Nat.le_of_ble_eq_true rfl⟩) hP hD hS hA [0, 1, 2, 3] [] rfl rfl (by decide) (by decide) (fun u_8 H locs hu_8 hP hD hS => ?_)
          have le_u_8 : u_8.2.1 ≤ 2000 := by rw [hu_8]; exact rputs_le _ ht'
          have hP : va_P D vwCl [(h1, .inr (3, [.ref a1, .int (nI r.2.1), .int r.2.2])), (a1, .inl (cI, 400, .inl r.1)), (h2, .inr (3, [.ref a2, .int (nI u_8.2.1), .int u_8.2.2])), (a2, .inl (cI, 2000, .inl u_8.1))] H := hP
          have hD : va_D A [(h1, .inr (3, [.ref a1, .int (nI r.2.1), .int r.2.2])), (a1, .inl (cI, 400, .inl r.1)), (h2, .inr (3, [.ref a2, .int (nI u_8.2.1), .int u_8.2.2])), (a2, .inl (cI, 2000, .inl u_8.1))] := hD
          refine lv_aload_n hx hb d_GW_frame_108 rfl (lv_at hl 6 rfl) ?_
          refine lv_iconst (v := 0) hx hb d_GW_frame_109 (by decide +kernel) ?_
          refine ft_cv (wc := [(h2, .inr (3, [.ref a2, .int (nI u_8.2.1), .int u_8.2.2])), (a2, .inl (cI, 2000, .inl u_8.1))]) (wr := [(h1, .inr (3, [.ref a1, .int (nI r.2.1), .int r.2.2])), (a1, .inl (cI, 400, .inl r.1))]) (va_runV (As := [.int 0]) (rest := []) ⟨hx, hb, hml, hown, ht⟩ (c_Row_put l D cI h2 a2 2000 (by omega) u_8 le_u_8 0 H.size) (ft_cwV 1 ht bw_273 bw_202 bw_203 bw_33 bw_204 (by decide) ⟨Nat.le_of_ble_eq_true rfl, Nat.le_of_ble_eq_true rfl⟩) ⟨ft_blind, va_recv hK hP (ci := 3) (q0 := 2) rfl rfl, (ft_pre hP hD hK hNW [2, 3] [0] rfl rfl (by decide) rfl _)⟩ rfl rfl hl.1 rfl (lv_room (Nat.le_of_ble_eq_true rfl)) d_GW_frame_110 ⟨Nat.le_of_ble_eq_true rfl, Nat.le_of_ble_eq_true rfl⟩) hP hD hS hA [2, 3] [0, 1] rfl rfl (by decide) (by decide) (fun u_10 H locs hu_10 hP hD hS => ?_)
          have le_u_10 : u_10.2.1 ≤ 2000 := by rw [hu_10]; exact rput_le le_u_8
          have hP : va_P D vwCl [(h1, .inr (3, [.ref a1, .int (nI r.2.1), .int r.2.2])), (a1, .inl (cI, 400, .inl r.1)), (h2, .inr (3, [.ref a2, .int (nI u_10.2.1), .int u_10.2.2])), (a2, .inl (cI, 2000, .inl u_10.1))] H := hP
          have hD : va_D A [(h1, .inr (3, [.ref a1, .int (nI r.2.1), .int r.2.2])), (a1, .inl (cI, 400, .inl r.1)), (h2, .inr (3, [.ref a2, .int (nI u_10.2.1), .int u_10.2.2])), (a2, .inl (cI, 2000, .inl u_10.1))] := hD
          exact ft_retv u_10 hx hb hr hlocks hP hK hD hS (by rw [← heq]; show _ = rputs 2000 t' ((if st < r.2.1 ∨ bf = 0 then grp r.1 st r.2.1 else []) ++ [0]); rw [if_pos (Or.inr c97), rputs_app, hu_10, hu_8]; rfl) d_GW_frame_113
    | succ n ih =>
      intro i st bf t' H locs ls hk hst ht' hP hD hS hl heq
      refine lv_iload hx hb d_GW_frame_14 (lv_at hl 0 rfl) ?_
      refine lv_iload_n hx hb d_GW_frame_16 rfl (lv_at hl 3 rfl) ?_
      refine lv_icmp_ge (tgt := 89) hx hb d_GW_frame_17 (by decide) (fun c17 => absurd c17 (nI_ge (by omega) (by omega))) (fun c17 => ?_)
      have c17 : ¬ r.2.1 ≤ i := fun h => c17 ((nI_leI (by omega) (by omega)).mpr h)
      refine lv_aload_n hx hb d_GW_frame_20 rfl (lv_at hl 5 rfl) ?_
      refine lv_iload hx hb d_GW_frame_21 (lv_at hl 0 rfl) ?_
      refine ft_ci (wc := [(h1, .inr (3, [.ref a1, .int (nI r.2.1), .int r.2.2])), (a1, .inl (cI, 400, .inl r.1))]) (wr := [(h2, .inr (3, [.ref a2, .int (nI t'.2.1), .int t'.2.2])), (a2, .inl (cI, 2000, .inl t'.1))]) (va_runV (As := [.int (nI i)]) (rest := []) ⟨hx, hb, hml, hown, ht⟩ (c_Row_byteAt l D cI h1 a1 400 (by omega) r hr0 (nI i) H.size) (ft_cwV 1 ht bw_269 bw_240 bw_241 bw_33 bw_242 (by decide) ⟨Nat.le_of_ble_eq_true rfl, Nat.le_of_ble_eq_true rfl⟩) ⟨ft_blind, va_recv hK hP (ci := 3) (q0 := 0) rfl rfl, (ft_pre hP hD hK hNW [0, 1] [0] rfl rfl (by decide) rfl _)⟩ rfl rfl hl.1 rfl (lv_room (Nat.le_of_ble_eq_true rfl)) d_GW_frame_23 ⟨Nat.le_of_ble_eq_true rfl, Nat.le_of_ble_eq_true rfl⟩) hP hD hS hA [0, 1] [2, 3] rfl rfl (by decide) (by decide) (fun r_11 u_12 H locs hu_12 hP hD hS => ?_)
      rw [rat_nI (r := r) (j := i) (by omega) (by omega)] at hu_12
      subst hu_12
      have hP : va_P D vwCl [(h2, .inr (3, [.ref a2, .int (nI t'.2.1), .int t'.2.2])), (a2, .inl (cI, 2000, .inl t'.1)), (h1, .inr (3, [.ref a1, .int (nI r.2.1), .int r.2.2])), (a1, .inl (cI, 400, .inl r.1))] H := hP
      have hD : va_D A [(h2, .inr (3, [.ref a2, .int (nI t'.2.1), .int t'.2.2])), (a2, .inl (cI, 2000, .inl t'.1)), (h1, .inr (3, [.ref a1, .int (nI r.2.1), .int r.2.2])), (a1, .inl (cI, 400, .inl r.1))] := hD
      refine lv_if_ne (tgt := 50) hx hb d_GW_frame_26 (by decide) (fun c26 => ?_) (fun c26 => ?_)
      · skip
        refine lv_iload hx hb d_GW_frame_50 (lv_at hl 0 rfl) ?_
        refine lv_iconst (v := nI 1) hx hb d_GW_frame_52 (by decide +kernel) ?_
        refine lv_iadd hx hb d_GW_frame_53 ?_
        refine ft_top (nI_add i 1) ?_
        refine lv_iload hx hb d_GW_frame_54 (lv_at hl 2 rfl) ?_
        refine lv_isub hx hb d_GW_frame_56 ?_
        refine ft_top (pk_sub (by omega)) ?_
        refine lv_sipush (v := nI 254) hx hb d_GW_frame_57 (by decide +kernel) ?_
        refine lv_icmp_ne (tgt := 83) hx hb d_GW_frame_60 (by decide) (fun c60 => ?_) (fun c60 => ?_)
        · skip
          have c60 : ¬ (i + 1) - st = 254 := fun h => c60 ((nI_eq (by omega) (by omega)).mpr h)
          refine lv_iinc (v := nI (i + 1)) (lv' := [(6, .int (nI (i + 1))), (5, .int bf), (4, .int (nI st)), (3, .int (nI r.2.1)), (0, .ref hw), (1, .ref h1), (2, .ref h2)]) hx hb d_GW_frame_83 hl (k := 0) rfl (nI_1 i) (by decide) rfl (fun ls hl => ?_)
          refine lv_goto (tgt := 14) hx hb d_GW_frame_86 (by decide) ?_
          exact ih (i + 1) st bf t' H locs ls (by omega) (by omega) ht' (hP.sub [2, 3, 0, 1] rfl) (hD.sub [2, 3, 0, 1] (by decide) rfl) hS (lv_sub hl [0, 1, 2, 3, 4, 5, 6] rfl) (by rw [← heq]; simp only [e0, c26, c60, if_true, if_false, ↓reduceIte])
        · skip
          have c60 : (i + 1) - st = 254 := (nI_eq (by omega) (by omega)).mp c60
          refine lv_aload_n hx hb d_GW_frame_63 rfl (lv_at hl 5 rfl) ?_
          refine lv_iload hx hb d_GW_frame_64 (lv_at hl 2 rfl) ?_
          refine lv_iload hx hb d_GW_frame_66 (lv_at hl 0 rfl) ?_
          refine lv_iconst (v := nI 1) hx hb d_GW_frame_68 (by decide +kernel) ?_
          refine lv_iadd hx hb d_GW_frame_69 ?_
          refine ft_top (nI_add i 1) ?_
          refine lv_aload_n hx hb d_GW_frame_70 rfl (lv_at hl 6 rfl) ?_
          refine ft_cv (wc := [(h1, .inr (3, [.ref a1, .int (nI r.2.1), .int r.2.2])), (a1, .inl (cI, 400, .inl r.1)), (h2, .inr (3, [.ref a2, .int (nI t'.2.1), .int t'.2.2])), (a2, .inl (cI, 2000, .inl t'.1))]) (wr := []) (va_runS (As := [.ref h1, .int (nI st), .int (nI (i + 1)), .ref h2]) (rest := []) ⟨hx, hb, hml, hown, ht⟩ (c_G_writeGroup l D cI h1 a1 h2 a2 r t' hr0 ht' st (i + 1) (by omega) (by omega) H.size) (ft_cwS 4 ht bw_270 bw_271 bw_36 bw_272 (by decide) ⟨Nat.le_of_ble_eq_true rfl, Nat.le_of_ble_eq_true rfl⟩) ⟨ft_blind, (ft_pre hP hD hK hNW [2, 3, 0, 1] [0] rfl rfl (by decide) rfl _)⟩ rfl rfl hl.1 rfl (lv_room (Nat.le_of_ble_eq_true rfl)) d_GW_frame_71 ⟨Nat.le_of_ble_eq_true rfl, Nat.le_of_ble_eq_true rfl⟩) hP hD hS hA [2, 3, 0, 1] [] rfl rfl (by decide) (by decide) (fun u_14 H locs hu_14 hP hD hS => ?_)
          have le_u_14 : u_14.2.1 ≤ 2000 := by rw [hu_14]; exact rputs_le _ ht'
          have hP : va_P D vwCl [(h1, .inr (3, [.ref a1, .int (nI r.2.1), .int r.2.2])), (a1, .inl (cI, 400, .inl r.1)), (h2, .inr (3, [.ref a2, .int (nI u_14.2.1), .int u_14.2.2])), (a2, .inl (cI, 2000, .inl u_14.1))] H := hP
          have hD : va_D A [(h1, .inr (3, [.ref a1, .int (nI r.2.1), .int r.2.2])), (a1, .inl (cI, 400, .inl r.1)), (h2, .inr (3, [.ref a2, .int (nI u_14.2.1), .int u_14.2.2])), (a2, .inl (cI, 2000, .inl u_14.1))] := hD
          refine lv_iload hx hb d_GW_frame_74 (lv_at hl 0 rfl) ?_
          refine lv_iconst (v := nI 1) hx hb d_GW_frame_76 (by decide +kernel) ?_
          refine lv_iadd hx hb d_GW_frame_77 ?_
          refine ft_top (nI_add i 1) ?_
          refine lv_istore (lv' := [(4, .int (nI (i + 1))), (6, .int (nI i)), (5, .int bf), (3, .int (nI r.2.1)), (0, .ref hw), (1, .ref h1), (2, .ref h2)]) hx hb d_GW_frame_78 hl (by decide) rfl (fun ls hl => ?_)
          refine lv_iconst (v := 1) hx hb d_GW_frame_80 (by decide +kernel) ?_
          refine lv_istore (lv' := [(5, .int 1), (4, .int (nI (i + 1))), (6, .int (nI i)), (3, .int (nI r.2.1)), (0, .ref hw), (1, .ref h1), (2, .ref h2)]) hx hb d_GW_frame_81 hl (by decide) rfl (fun ls hl => ?_)
          refine lv_iinc (v := nI (i + 1)) (lv' := [(6, .int (nI (i + 1))), (5, .int 1), (4, .int (nI (i + 1))), (3, .int (nI r.2.1)), (0, .ref hw), (1, .ref h1), (2, .ref h2)]) hx hb d_GW_frame_83 hl (k := 2) rfl (nI_1 i) (by decide) rfl (fun ls hl => ?_)
          refine lv_goto (tgt := 14) hx hb d_GW_frame_86 (by decide) ?_
          exact ih (i + 1) (i + 1) 1 u_14 H locs ls (by omega) (by omega) le_u_14 (hP.sub [0, 1, 2, 3] rfl) (hD.sub [0, 1, 2, 3] (by decide) rfl) hS (lv_sub hl [0, 1, 2, 3, 4, 5, 6] rfl) (by rw [hu_14, ← heq, ← rputs_app]; simp only [e0, c26, c60, if_true, if_false, ↓reduceIte])
      · skip
        refine lv_aload_n hx hb d_GW_frame_29 rfl (lv_at hl 5 rfl) ?_
        refine lv_iload hx hb d_GW_frame_30 (lv_at hl 2 rfl) ?_
        refine lv_iload hx hb d_GW_frame_32 (lv_at hl 0 rfl) ?_
        refine lv_aload_n hx hb d_GW_frame_34 rfl (lv_at hl 6 rfl) ?_
        refine ft_cv (wc := [(h1, .inr (3, [.ref a1, .int (nI r.2.1), .int r.2.2])), (a1, .inl (cI, 400, .inl r.1)), (h2, .inr (3, [.ref a2, .int (nI t'.2.1), .int t'.2.2])), (a2, .inl (cI, 2000, .inl t'.1))]) (wr := []) (va_runS (As := [.ref h1, .int (nI st), .int (nI i), .ref h2]) (rest := []) ⟨hx, hb, hml, hown, ht⟩ (c_G_writeGroup l D cI h1 a1 h2 a2 r t' hr0 ht' st i (by omega) (by omega) H.size) (ft_cwS 4 ht bw_270 bw_271 bw_36 bw_272 (by decide) ⟨Nat.le_of_ble_eq_true rfl, Nat.le_of_ble_eq_true rfl⟩) ⟨ft_blind, (ft_pre hP hD hK hNW [2, 3, 0, 1] [0] rfl rfl (by decide) rfl _)⟩ rfl rfl hl.1 rfl (lv_room (Nat.le_of_ble_eq_true rfl)) d_GW_frame_35 ⟨Nat.le_of_ble_eq_true rfl, Nat.le_of_ble_eq_true rfl⟩) hP hD hS hA [2, 3, 0, 1] [] rfl rfl (by decide) (by decide) (fun u_16 H locs hu_16 hP hD hS => ?_)
        have le_u_16 : u_16.2.1 ≤ 2000 := by rw [hu_16]; exact rputs_le _ ht'
        have hP : va_P D vwCl [(h1, .inr (3, [.ref a1, .int (nI r.2.1), .int r.2.2])), (a1, .inl (cI, 400, .inl r.1)), (h2, .inr (3, [.ref a2, .int (nI u_16.2.1), .int u_16.2.2])), (a2, .inl (cI, 2000, .inl u_16.1))] H := hP
        have hD : va_D A [(h1, .inr (3, [.ref a1, .int (nI r.2.1), .int r.2.2])), (a1, .inl (cI, 400, .inl r.1)), (h2, .inr (3, [.ref a2, .int (nI u_16.2.1), .int u_16.2.2])), (a2, .inl (cI, 2000, .inl u_16.1))] := hD
        refine lv_iload hx hb d_GW_frame_38 (lv_at hl 0 rfl) ?_
        refine lv_iconst (v := nI 1) hx hb d_GW_frame_40 (by decide +kernel) ?_
        refine lv_iadd hx hb d_GW_frame_41 ?_
        refine ft_top (nI_add i 1) ?_
        refine lv_istore (lv' := [(4, .int (nI (i + 1))), (6, .int (nI i)), (5, .int bf), (3, .int (nI r.2.1)), (0, .ref hw), (1, .ref h1), (2, .ref h2)]) hx hb d_GW_frame_42 hl (by decide) rfl (fun ls hl => ?_)
        refine lv_iconst (v := 0) hx hb d_GW_frame_44 (by decide +kernel) ?_
        refine lv_istore (lv' := [(5, .int 0), (4, .int (nI (i + 1))), (6, .int (nI i)), (3, .int (nI r.2.1)), (0, .ref hw), (1, .ref h1), (2, .ref h2)]) hx hb d_GW_frame_45 hl (by decide) rfl (fun ls hl => ?_)
        refine lv_goto (tgt := 83) hx hb d_GW_frame_47 (by decide) ?_
        refine lv_iinc (v := nI (i + 1)) (lv' := [(6, .int (nI (i + 1))), (5, .int 0), (4, .int (nI (i + 1))), (3, .int (nI r.2.1)), (0, .ref hw), (1, .ref h1), (2, .ref h2)]) hx hb d_GW_frame_83 hl (k := 2) rfl (nI_1 i) (by decide) rfl (fun ls hl => ?_)
        refine lv_goto (tgt := 14) hx hb d_GW_frame_86 (by decide) ?_
        exact ih (i + 1) (i + 1) 0 u_16 H locs ls (by omega) (by omega) le_u_16 (hP.sub [0, 1, 2, 3] rfl) (hD.sub [0, 1, 2, 3] (by decide) rfl) hS (lv_sub hl [0, 1, 2, 3, 4, 5, 6] rfl) (by rw [hu_16, ← heq, ← rputs_app]; simp only [e0, c26, if_true, if_false, ↓reduceIte])
  exact loop r.2.1 0 0 0 t s.heap [] ls (by omega) (by omega) ht0 (hP.sub [0, 1, 2, 3] rfl) (hD.sub [0, 1, 2, 3] (by decide) rfl) hS (lv_sub hl [0, 1, 2, 3, 4, 5, 6] rfl) rfl

set_option maxHeartbeats 4000000 in
set_option maxRecDepth 100000 in
theorem c_E_writeByte (l : Launch) (D : va_G) (cI : ClassId) (h2 a2 : Nat) (t : RS) (ht0 : t.2.1 ≤ 2000) (b : Int32) (sz : Nat) : ft_Mv l y_EW_writeByte (.code y_EW_writeByte b_EW_writeByte 2 none :: ft_big) ({ frames := 1, cells := 0, slots := 0, locals := 40 }) D [(cI, .int)] sz [.int b, .ref h2] (wRow h2 a2 cI 2000 t) (fun u : RS => u = rputs 2000 t (wb1 b)) (wRow h2 a2 cI 2000) 0 0 := by
  refine ft_ev (cc := b_EW_writeByte) (maxL := 2) (ret := none) (by decide) rfl (Nat.le_of_ble_eq_true rfl) ?_
  intro p e s m below meth c A ls hx hb hr hml hts hown hlocks hmn hP hK hD hA hS hNW hl
  have ht : ∀ w ∈ ft_big, w.before _ s = true := fun w h => hts w (List.mem_cons_of_mem _ h)
  have hP : va_P D vwCl [(h2, .inr (3, [.ref a2, .int (nI t.2.1), .int t.2.2])), (a2, .inl (cI, 2000, .inl t.1))] s.heap := hP
  have hD : va_D A [(h2, .inr (3, [.ref a2, .int (nI t.2.1), .int t.2.2])), (a2, .inl (cI, 2000, .inl t.1))] := hD
  have hl : lv_has ls 2 [(0, .int b), (1, .ref h2)] := hl
  refine lv_iload_n hx hb d_EW_writeByte_0 rfl (lv_at hl 0 rfl) ?_
  refine lv_sipush (v := 192) hx hb d_EW_writeByte_1 (by decide +kernel) ?_
  refine lv_icmp_ne (tgt := 24) hx hb d_EW_writeByte_4 (by decide) (fun c4 => ?_) (fun c4 => ?_)
  · skip
    refine lv_iload_n hx hb d_EW_writeByte_24 rfl (lv_at hl 0 rfl) ?_
    refine lv_sipush (v := 219) hx hb d_EW_writeByte_25 (by decide +kernel) ?_
    refine lv_icmp_ne (tgt := 48) hx hb d_EW_writeByte_28 (by decide) (fun c28 => ?_) (fun c28 => ?_)
    · skip
      refine lv_aload_n hx hb d_EW_writeByte_48 rfl (lv_at hl 1 rfl) ?_
      refine lv_iload_n hx hb d_EW_writeByte_49 rfl (lv_at hl 0 rfl) ?_
      refine ft_cv (wc := [(h2, .inr (3, [.ref a2, .int (nI t.2.1), .int t.2.2])), (a2, .inl (cI, 2000, .inl t.1))]) (wr := []) (va_runV (As := [.int b]) (rest := []) ⟨hx, hb, hml, hown, ht⟩ (c_Row_put l D cI h2 a2 2000 (by omega) t ht0 b s.heap.size) (ft_cwV 1 ht bw_265 bw_202 bw_203 bw_33 bw_204 (by decide) ⟨Nat.le_of_ble_eq_true rfl, Nat.le_of_ble_eq_true rfl⟩) ⟨ft_blind, va_recv hK hP (ci := 3) (q0 := 0) rfl rfl, (ft_pre hP hD hK hNW [0, 1] [0] rfl rfl (by decide) rfl _)⟩ rfl rfl hl.1 rfl (lv_room (Nat.le_of_ble_eq_true rfl)) d_EW_writeByte_50 ⟨Nat.le_of_ble_eq_true rfl, Nat.le_of_ble_eq_true rfl⟩) hP hD hS hA [0, 1] [] rfl rfl (by decide) (by decide) (fun u_2 H locs hu_2 hP hD hS => ?_)
      have le_u_2 : u_2.2.1 ≤ 2000 := by rw [hu_2]; exact rput_le ht0
      have hP : va_P D vwCl [(h2, .inr (3, [.ref a2, .int (nI u_2.2.1), .int u_2.2.2])), (a2, .inl (cI, 2000, .inl u_2.1))] H := hP
      have hD : va_D A [(h2, .inr (3, [.ref a2, .int (nI u_2.2.1), .int u_2.2.2])), (a2, .inl (cI, 2000, .inl u_2.1))] := hD
      exact ft_retv u_2 hx hb hr hlocks hP hK hD hS (by show _ = rputs 2000 t (wb1 b); rw [hu_2]; simp [wb1, c4, c28, rputs]) d_EW_writeByte_53
    · skip
      refine lv_aload_n hx hb d_EW_writeByte_31 rfl (lv_at hl 1 rfl) ?_
      refine lv_sipush (v := 219) hx hb d_EW_writeByte_32 (by decide +kernel) ?_
      refine ft_cv (wc := [(h2, .inr (3, [.ref a2, .int (nI t.2.1), .int t.2.2])), (a2, .inl (cI, 2000, .inl t.1))]) (wr := []) (va_runV (As := [.int 219]) (rest := []) ⟨hx, hb, hml, hown, ht⟩ (c_Row_put l D cI h2 a2 2000 (by omega) t ht0 219 s.heap.size) (ft_cwV 1 ht bw_265 bw_202 bw_203 bw_33 bw_204 (by decide) ⟨Nat.le_of_ble_eq_true rfl, Nat.le_of_ble_eq_true rfl⟩) ⟨ft_blind, va_recv hK hP (ci := 3) (q0 := 0) rfl rfl, (ft_pre hP hD hK hNW [0, 1] [0] rfl rfl (by decide) rfl _)⟩ rfl rfl hl.1 rfl (lv_room (Nat.le_of_ble_eq_true rfl)) d_EW_writeByte_35 ⟨Nat.le_of_ble_eq_true rfl, Nat.le_of_ble_eq_true rfl⟩) hP hD hS hA [0, 1] [] rfl rfl (by decide) (by decide) (fun u_4 H locs hu_4 hP hD hS => ?_)
      have le_u_4 : u_4.2.1 ≤ 2000 := by rw [hu_4]; exact rput_le ht0
      have hP : va_P D vwCl [(h2, .inr (3, [.ref a2, .int (nI u_4.2.1), .int u_4.2.2])), (a2, .inl (cI, 2000, .inl u_4.1))] H := hP
      have hD : va_D A [(h2, .inr (3, [.ref a2, .int (nI u_4.2.1), .int u_4.2.2])), (a2, .inl (cI, 2000, .inl u_4.1))] := hD
      refine lv_aload_n hx hb d_EW_writeByte_38 rfl (lv_at hl 1 rfl) ?_
      refine lv_sipush (v := 221) hx hb d_EW_writeByte_39 (by decide +kernel) ?_
      refine ft_cv (wc := [(h2, .inr (3, [.ref a2, .int (nI u_4.2.1), .int u_4.2.2])), (a2, .inl (cI, 2000, .inl u_4.1))]) (wr := []) (va_runV (As := [.int 221]) (rest := []) ⟨hx, hb, hml, hown, ht⟩ (c_Row_put l D cI h2 a2 2000 (by omega) u_4 le_u_4 221 H.size) (ft_cwV 1 ht bw_265 bw_202 bw_203 bw_33 bw_204 (by decide) ⟨Nat.le_of_ble_eq_true rfl, Nat.le_of_ble_eq_true rfl⟩) ⟨ft_blind, va_recv hK hP (ci := 3) (q0 := 0) rfl rfl, (ft_pre hP hD hK hNW [0, 1] [0] rfl rfl (by decide) rfl _)⟩ rfl rfl hl.1 rfl (lv_room (Nat.le_of_ble_eq_true rfl)) d_EW_writeByte_42 ⟨Nat.le_of_ble_eq_true rfl, Nat.le_of_ble_eq_true rfl⟩) hP hD hS hA [0, 1] [] rfl rfl (by decide) (by decide) (fun u_6 H locs hu_6 hP hD hS => ?_)
      have le_u_6 : u_6.2.1 ≤ 2000 := by rw [hu_6]; exact rput_le le_u_4
      have hP : va_P D vwCl [(h2, .inr (3, [.ref a2, .int (nI u_6.2.1), .int u_6.2.2])), (a2, .inl (cI, 2000, .inl u_6.1))] H := hP
      have hD : va_D A [(h2, .inr (3, [.ref a2, .int (nI u_6.2.1), .int u_6.2.2])), (a2, .inl (cI, 2000, .inl u_6.1))] := hD
      refine lv_goto (tgt := 53) hx hb d_EW_writeByte_45 (by decide) ?_
      exact ft_retv u_6 hx hb hr hlocks hP hK hD hS (by show _ = rputs 2000 t (wb1 b); rw [hu_6, hu_4]; simp [wb1, c4, c28, rputs]) d_EW_writeByte_53
  · skip
    refine lv_aload_n hx hb d_EW_writeByte_7 rfl (lv_at hl 1 rfl) ?_
    refine lv_sipush (v := 219) hx hb d_EW_writeByte_8 (by decide +kernel) ?_
    refine ft_cv (wc := [(h2, .inr (3, [.ref a2, .int (nI t.2.1), .int t.2.2])), (a2, .inl (cI, 2000, .inl t.1))]) (wr := []) (va_runV (As := [.int 219]) (rest := []) ⟨hx, hb, hml, hown, ht⟩ (c_Row_put l D cI h2 a2 2000 (by omega) t ht0 219 s.heap.size) (ft_cwV 1 ht bw_265 bw_202 bw_203 bw_33 bw_204 (by decide) ⟨Nat.le_of_ble_eq_true rfl, Nat.le_of_ble_eq_true rfl⟩) ⟨ft_blind, va_recv hK hP (ci := 3) (q0 := 0) rfl rfl, (ft_pre hP hD hK hNW [0, 1] [0] rfl rfl (by decide) rfl _)⟩ rfl rfl hl.1 rfl (lv_room (Nat.le_of_ble_eq_true rfl)) d_EW_writeByte_11 ⟨Nat.le_of_ble_eq_true rfl, Nat.le_of_ble_eq_true rfl⟩) hP hD hS hA [0, 1] [] rfl rfl (by decide) (by decide) (fun u_8 H locs hu_8 hP hD hS => ?_)
    have le_u_8 : u_8.2.1 ≤ 2000 := by rw [hu_8]; exact rput_le ht0
    have hP : va_P D vwCl [(h2, .inr (3, [.ref a2, .int (nI u_8.2.1), .int u_8.2.2])), (a2, .inl (cI, 2000, .inl u_8.1))] H := hP
    have hD : va_D A [(h2, .inr (3, [.ref a2, .int (nI u_8.2.1), .int u_8.2.2])), (a2, .inl (cI, 2000, .inl u_8.1))] := hD
    refine lv_aload_n hx hb d_EW_writeByte_14 rfl (lv_at hl 1 rfl) ?_
    refine lv_sipush (v := 220) hx hb d_EW_writeByte_15 (by decide +kernel) ?_
    refine ft_cv (wc := [(h2, .inr (3, [.ref a2, .int (nI u_8.2.1), .int u_8.2.2])), (a2, .inl (cI, 2000, .inl u_8.1))]) (wr := []) (va_runV (As := [.int 220]) (rest := []) ⟨hx, hb, hml, hown, ht⟩ (c_Row_put l D cI h2 a2 2000 (by omega) u_8 le_u_8 220 H.size) (ft_cwV 1 ht bw_265 bw_202 bw_203 bw_33 bw_204 (by decide) ⟨Nat.le_of_ble_eq_true rfl, Nat.le_of_ble_eq_true rfl⟩) ⟨ft_blind, va_recv hK hP (ci := 3) (q0 := 0) rfl rfl, (ft_pre hP hD hK hNW [0, 1] [0] rfl rfl (by decide) rfl _)⟩ rfl rfl hl.1 rfl (lv_room (Nat.le_of_ble_eq_true rfl)) d_EW_writeByte_18 ⟨Nat.le_of_ble_eq_true rfl, Nat.le_of_ble_eq_true rfl⟩) hP hD hS hA [0, 1] [] rfl rfl (by decide) (by decide) (fun u_10 H locs hu_10 hP hD hS => ?_)
    have le_u_10 : u_10.2.1 ≤ 2000 := by rw [hu_10]; exact rput_le le_u_8
    have hP : va_P D vwCl [(h2, .inr (3, [.ref a2, .int (nI u_10.2.1), .int u_10.2.2])), (a2, .inl (cI, 2000, .inl u_10.1))] H := hP
    have hD : va_D A [(h2, .inr (3, [.ref a2, .int (nI u_10.2.1), .int u_10.2.2])), (a2, .inl (cI, 2000, .inl u_10.1))] := hD
    refine lv_goto (tgt := 53) hx hb d_EW_writeByte_21 (by decide) ?_
    exact ft_retv u_10 hx hb hr hlocks hP hK hD hS (by show _ = rputs 2000 t (wb1 b); rw [hu_10, hu_8]; simp [wb1, c4, rputs]) d_EW_writeByte_53

set_option maxHeartbeats 4000000 in
set_option maxRecDepth 100000 in
theorem c_C_writeByte (l : Launch) (D : va_G) (cI : ClassId) (h2 a2 : Nat) (t : RS) (ht0 : t.2.1 ≤ 2000) (b : Int32) (sz : Nat) : ft_Mv l y_CW_writeByte (.code y_CW_writeByte b_CW_writeByte 2 none :: ft_big) ({ frames := 1, cells := 0, slots := 0, locals := 40 }) D [(cI, .int)] sz [.int b, .ref h2] (wRow h2 a2 cI 2000 t) (fun u : RS => u = rputs 2000 t (wb2 b)) (wRow h2 a2 cI 2000) 0 0 := by
  refine ft_ev (cc := b_CW_writeByte) (maxL := 2) (ret := none) (by decide) rfl (Nat.le_of_ble_eq_true rfl) ?_
  intro p e s m below meth c A ls hx hb hr hml hts hown hlocks hmn hP hK hD hA hS hNW hl
  have ht : ∀ w ∈ ft_big, w.before _ s = true := fun w h => hts w (List.mem_cons_of_mem _ h)
  have hP : va_P D vwCl [(h2, .inr (3, [.ref a2, .int (nI t.2.1), .int t.2.2])), (a2, .inl (cI, 2000, .inl t.1))] s.heap := hP
  have hD : va_D A [(h2, .inr (3, [.ref a2, .int (nI t.2.1), .int t.2.2])), (a2, .inl (cI, 2000, .inl t.1))] := hD
  have hl : lv_has ls 2 [(0, .int b), (1, .ref h2)] := hl
  refine lv_iload_n hx hb d_CW_writeByte_0 rfl (lv_at hl 0 rfl) ?_
  refine lv_bipush (v := 125) hx hb d_CW_writeByte_1 (by decide +kernel) ?_
  refine lv_icmp_eq (tgt := 12) hx hb d_CW_writeByte_3 (by decide) (fun c3 => ?_) (fun c3 => ?_)
  · skip
    refine lv_aload_n hx hb d_CW_writeByte_12 rfl (lv_at hl 1 rfl) ?_
    refine lv_bipush (v := 125) hx hb d_CW_writeByte_13 (by decide +kernel) ?_
    refine ft_cv (wc := [(h2, .inr (3, [.ref a2, .int (nI t.2.1), .int t.2.2])), (a2, .inl (cI, 2000, .inl t.1))]) (wr := []) (va_runV (As := [.int 125]) (rest := []) ⟨hx, hb, hml, hown, ht⟩ (c_Row_put l D cI h2 a2 2000 (by omega) t ht0 125 s.heap.size) (ft_cwV 1 ht bw_254 bw_202 bw_203 bw_33 bw_204 (by decide) ⟨Nat.le_of_ble_eq_true rfl, Nat.le_of_ble_eq_true rfl⟩) ⟨ft_blind, va_recv hK hP (ci := 3) (q0 := 0) rfl rfl, (ft_pre hP hD hK hNW [0, 1] [0] rfl rfl (by decide) rfl _)⟩ rfl rfl hl.1 rfl (lv_room (Nat.le_of_ble_eq_true rfl)) d_CW_writeByte_15 ⟨Nat.le_of_ble_eq_true rfl, Nat.le_of_ble_eq_true rfl⟩) hP hD hS hA [0, 1] [] rfl rfl (by decide) (by decide) (fun u_2 H locs hu_2 hP hD hS => ?_)
    have le_u_2 : u_2.2.1 ≤ 2000 := by rw [hu_2]; exact rput_le ht0
    have hP : va_P D vwCl [(h2, .inr (3, [.ref a2, .int (nI u_2.2.1), .int u_2.2.2])), (a2, .inl (cI, 2000, .inl u_2.1))] H := hP
    have hD : va_D A [(h2, .inr (3, [.ref a2, .int (nI u_2.2.1), .int u_2.2.2])), (a2, .inl (cI, 2000, .inl u_2.1))] := hD
    refine lv_aload_n hx hb d_CW_writeByte_18 rfl (lv_at hl 1 rfl) ?_
    refine lv_iload_n hx hb d_CW_writeByte_19 rfl (lv_at hl 0 rfl) ?_
    refine lv_bipush (v := 32) hx hb d_CW_writeByte_20 (by decide +kernel) ?_
    refine lv_ixor hx hb d_CW_writeByte_22 ?_
    refine ft_cv (wc := [(h2, .inr (3, [.ref a2, .int (nI u_2.2.1), .int u_2.2.2])), (a2, .inl (cI, 2000, .inl u_2.1))]) (wr := []) (va_runV (As := [.int (b ^^^ 32)]) (rest := []) ⟨hx, hb, hml, hown, ht⟩ (c_Row_put l D cI h2 a2 2000 (by omega) u_2 le_u_2 (b ^^^ 32) H.size) (ft_cwV 1 ht bw_254 bw_202 bw_203 bw_33 bw_204 (by decide) ⟨Nat.le_of_ble_eq_true rfl, Nat.le_of_ble_eq_true rfl⟩) ⟨ft_blind, va_recv hK hP (ci := 3) (q0 := 0) rfl rfl, (ft_pre hP hD hK hNW [0, 1] [0] rfl rfl (by decide) rfl _)⟩ rfl rfl hl.1 rfl (lv_room (Nat.le_of_ble_eq_true rfl)) d_CW_writeByte_23 ⟨Nat.le_of_ble_eq_true rfl, Nat.le_of_ble_eq_true rfl⟩) hP hD hS hA [0, 1] [] rfl rfl (by decide) (by decide) (fun u_4 H locs hu_4 hP hD hS => ?_)
    have le_u_4 : u_4.2.1 ≤ 2000 := by rw [hu_4]; exact rput_le le_u_2
    have hP : va_P D vwCl [(h2, .inr (3, [.ref a2, .int (nI u_4.2.1), .int u_4.2.2])), (a2, .inl (cI, 2000, .inl u_4.1))] H := hP
    have hD : va_D A [(h2, .inr (3, [.ref a2, .int (nI u_4.2.1), .int u_4.2.2])), (a2, .inl (cI, 2000, .inl u_4.1))] := hD
    refine lv_goto (tgt := 34) hx hb d_CW_writeByte_26 (by decide) ?_
    exact ft_retv u_4 hx hb hr hlocks hP hK hD hS (by show _ = rputs 2000 t (wb2 b); rw [hu_4, hu_2]; simp [wb2, c3, rputs]) d_CW_writeByte_34
  · skip
    refine lv_iload_n hx hb d_CW_writeByte_6 rfl (lv_at hl 0 rfl) ?_
    refine lv_bipush (v := 126) hx hb d_CW_writeByte_7 (by decide +kernel) ?_
    refine lv_icmp_ne (tgt := 29) hx hb d_CW_writeByte_9 (by decide) (fun c9 => ?_) (fun c9 => ?_)
    · skip
      refine lv_aload_n hx hb d_CW_writeByte_29 rfl (lv_at hl 1 rfl) ?_
      refine lv_iload_n hx hb d_CW_writeByte_30 rfl (lv_at hl 0 rfl) ?_
      refine ft_cv (wc := [(h2, .inr (3, [.ref a2, .int (nI t.2.1), .int t.2.2])), (a2, .inl (cI, 2000, .inl t.1))]) (wr := []) (va_runV (As := [.int b]) (rest := []) ⟨hx, hb, hml, hown, ht⟩ (c_Row_put l D cI h2 a2 2000 (by omega) t ht0 b s.heap.size) (ft_cwV 1 ht bw_254 bw_202 bw_203 bw_33 bw_204 (by decide) ⟨Nat.le_of_ble_eq_true rfl, Nat.le_of_ble_eq_true rfl⟩) ⟨ft_blind, va_recv hK hP (ci := 3) (q0 := 0) rfl rfl, (ft_pre hP hD hK hNW [0, 1] [0] rfl rfl (by decide) rfl _)⟩ rfl rfl hl.1 rfl (lv_room (Nat.le_of_ble_eq_true rfl)) d_CW_writeByte_31 ⟨Nat.le_of_ble_eq_true rfl, Nat.le_of_ble_eq_true rfl⟩) hP hD hS hA [0, 1] [] rfl rfl (by decide) (by decide) (fun u_6 H locs hu_6 hP hD hS => ?_)
      have le_u_6 : u_6.2.1 ≤ 2000 := by rw [hu_6]; exact rput_le ht0
      have hP : va_P D vwCl [(h2, .inr (3, [.ref a2, .int (nI u_6.2.1), .int u_6.2.2])), (a2, .inl (cI, 2000, .inl u_6.1))] H := hP
      have hD : va_D A [(h2, .inr (3, [.ref a2, .int (nI u_6.2.1), .int u_6.2.2])), (a2, .inl (cI, 2000, .inl u_6.1))] := hD
      exact ft_retv u_6 hx hb hr hlocks hP hK hD hS (by show _ = rputs 2000 t (wb2 b); rw [hu_6]; simp [wb2, c3, c9, rputs]) d_CW_writeByte_34
    · skip
      refine lv_aload_n hx hb d_CW_writeByte_12 rfl (lv_at hl 1 rfl) ?_
      refine lv_bipush (v := 125) hx hb d_CW_writeByte_13 (by decide +kernel) ?_
      refine ft_cv (wc := [(h2, .inr (3, [.ref a2, .int (nI t.2.1), .int t.2.2])), (a2, .inl (cI, 2000, .inl t.1))]) (wr := []) (va_runV (As := [.int 125]) (rest := []) ⟨hx, hb, hml, hown, ht⟩ (c_Row_put l D cI h2 a2 2000 (by omega) t ht0 125 s.heap.size) (ft_cwV 1 ht bw_254 bw_202 bw_203 bw_33 bw_204 (by decide) ⟨Nat.le_of_ble_eq_true rfl, Nat.le_of_ble_eq_true rfl⟩) ⟨ft_blind, va_recv hK hP (ci := 3) (q0 := 0) rfl rfl, (ft_pre hP hD hK hNW [0, 1] [0] rfl rfl (by decide) rfl _)⟩ rfl rfl hl.1 rfl (lv_room (Nat.le_of_ble_eq_true rfl)) d_CW_writeByte_15 ⟨Nat.le_of_ble_eq_true rfl, Nat.le_of_ble_eq_true rfl⟩) hP hD hS hA [0, 1] [] rfl rfl (by decide) (by decide) (fun u_8 H locs hu_8 hP hD hS => ?_)
      have le_u_8 : u_8.2.1 ≤ 2000 := by rw [hu_8]; exact rput_le ht0
      have hP : va_P D vwCl [(h2, .inr (3, [.ref a2, .int (nI u_8.2.1), .int u_8.2.2])), (a2, .inl (cI, 2000, .inl u_8.1))] H := hP
      have hD : va_D A [(h2, .inr (3, [.ref a2, .int (nI u_8.2.1), .int u_8.2.2])), (a2, .inl (cI, 2000, .inl u_8.1))] := hD
      refine lv_aload_n hx hb d_CW_writeByte_18 rfl (lv_at hl 1 rfl) ?_
      refine lv_iload_n hx hb d_CW_writeByte_19 rfl (lv_at hl 0 rfl) ?_
      refine lv_bipush (v := 32) hx hb d_CW_writeByte_20 (by decide +kernel) ?_
      refine lv_ixor hx hb d_CW_writeByte_22 ?_
      refine ft_cv (wc := [(h2, .inr (3, [.ref a2, .int (nI u_8.2.1), .int u_8.2.2])), (a2, .inl (cI, 2000, .inl u_8.1))]) (wr := []) (va_runV (As := [.int (b ^^^ 32)]) (rest := []) ⟨hx, hb, hml, hown, ht⟩ (c_Row_put l D cI h2 a2 2000 (by omega) u_8 le_u_8 (b ^^^ 32) H.size) (ft_cwV 1 ht bw_254 bw_202 bw_203 bw_33 bw_204 (by decide) ⟨Nat.le_of_ble_eq_true rfl, Nat.le_of_ble_eq_true rfl⟩) ⟨ft_blind, va_recv hK hP (ci := 3) (q0 := 0) rfl rfl, (ft_pre hP hD hK hNW [0, 1] [0] rfl rfl (by decide) rfl _)⟩ rfl rfl hl.1 rfl (lv_room (Nat.le_of_ble_eq_true rfl)) d_CW_writeByte_23 ⟨Nat.le_of_ble_eq_true rfl, Nat.le_of_ble_eq_true rfl⟩) hP hD hS hA [0, 1] [] rfl rfl (by decide) (by decide) (fun u_10 H locs hu_10 hP hD hS => ?_)
      have le_u_10 : u_10.2.1 ≤ 2000 := by rw [hu_10]; exact rput_le le_u_8
      have hP : va_P D vwCl [(h2, .inr (3, [.ref a2, .int (nI u_10.2.1), .int u_10.2.2])), (a2, .inl (cI, 2000, .inl u_10.1))] H := hP
      have hD : va_D A [(h2, .inr (3, [.ref a2, .int (nI u_10.2.1), .int u_10.2.2])), (a2, .inl (cI, 2000, .inl u_10.1))] := hD
      refine lv_goto (tgt := 34) hx hb d_CW_writeByte_26 (by decide) ?_
      exact ft_retv u_10 hx hb hr hlocks hP hK hD hS (by show _ = rputs 2000 t (wb2 b); rw [hu_10, hu_8]; simp [wb2, c3, c9, rputs]) d_CW_writeByte_34

set_option maxHeartbeats 4000000 in
set_option maxRecDepth 100000 in
theorem c_E_frame (l : Launch) (D : va_G) (cI : ClassId) (hw : Nat) (h1 a1 h2 a2 : Nat) (r t : RS) (hr0 : r.2.1 ≤ 400) (ht0 : t.2.1 ≤ 2000) (sz : Nat) : ft_Mv l y_EW_frame (.code y_EW_frame b_EW_frame 5 none :: ft_big) ({ frames := 2, cells := 0, slots := 0, locals := 90 }) D [(cI, .int)] sz [.ref hw, .ref h1, .ref h2] (wRow h1 a1 cI 400 r ++ wRow h2 a2 cI 2000 t) (fun u : RS => u = rputs 2000 t (e1 r.1 r.2.1 0)) (fun u => wRow h1 a1 cI 400 r ++ wRow h2 a2 cI 2000 u) 0 0 := by
  refine ft_ev (cc := b_EW_frame) (maxL := 5) (ret := none) (by decide) rfl (Nat.le_of_ble_eq_true rfl) ?_
  intro p e s m below meth c A ls hx hb hr hml hts hown hlocks hmn hP hK hD hA hS hNW hl
  have ht : ∀ w ∈ ft_big, w.before _ s = true := fun w h => hts w (List.mem_cons_of_mem _ h)
  have hP : va_P D vwCl [(h1, .inr (3, [.ref a1, .int (nI r.2.1), .int r.2.2])), (a1, .inl (cI, 400, .inl r.1)), (h2, .inr (3, [.ref a2, .int (nI t.2.1), .int t.2.2])), (a2, .inl (cI, 2000, .inl t.1))] s.heap := hP
  have hD : va_D A [(h1, .inr (3, [.ref a1, .int (nI r.2.1), .int r.2.2])), (a1, .inl (cI, 400, .inl r.1)), (h2, .inr (3, [.ref a2, .int (nI t.2.1), .int t.2.2])), (a2, .inl (cI, 2000, .inl t.1))] := hD
  have hl : lv_has ls 5 [(0, .ref hw), (1, .ref h1), (2, .ref h2)] := hl
  refine lv_aload_n hx hb d_EW_frame_0 rfl (lv_at hl 1 rfl) ?_
  refine va_getN (D := D) (ci := 3) (v := .int (nI r.2.1)) (C := R_Row) (T := F_Row) (N := 3) hx hb ht bi_Row hown hK hP 0 rfl rfl 1 (by decide) (va_Nw.use rfl (hNW _ bn_60)) (fun _ h9 => h9) rfl d_EW_frame_1 ?_
  refine lv_istore_n (lv' := [(3, .int (nI r.2.1)), (0, .ref hw), (1, .ref h1), (2, .ref h2)]) hx hb d_EW_frame_4 rfl hl (by decide) rfl (fun ls hl => ?_)
  refine lv_iconst (v := nI 0) hx hb d_EW_frame_5 (by decide +kernel) ?_
  refine lv_istore (lv' := [(4, .int (nI 0)), (3, .int (nI r.2.1)), (0, .ref hw), (1, .ref h1), (2, .ref h2)]) hx hb d_EW_frame_6 hl (by decide) rfl (fun ls hl => ?_)
  have loop : ∀ (n : Nat) (i : Nat) (t' : RS) (H : Heap) (locs : List Loc) (ls : Array Slot), i + n = r.2.1 → t'.2.1 ≤ 2000 → va_P D vwCl [(h1, .inr (3, [.ref a1, .int (nI r.2.1), .int r.2.2])), (a1, .inl (cI, 400, .inl r.1)), (h2, .inr (3, [.ref a2, .int (nI t'.2.1), .int t'.2.2])), (a2, .inl (cI, 2000, .inl t'.1))] H → va_D A [(h1, .inr (3, [.ref a1, .int (nI r.2.1), .int r.2.2])), (a1, .inl (cI, 400, .inl r.1)), (h2, .inr (3, [.ref a2, .int (nI t'.2.1), .int t'.2.2])), (a2, .inl (cI, 2000, .inl t'.1))] → va_S A s.heap H locs → lv_has ls 5 [(4, .int (nI i)), (3, .int (nI r.2.1)), (0, .ref hw), (1, .ref h1), (2, .ref h2)] → rputs 2000 t' (e1 r.1 n i) = rputs 2000 t (e1 r.1 r.2.1 0) → W p l e ({ frames := 2, cells := 0, slots := 0, locals := 90 } : Room) s m ([.ref hw, .ref h1, .ref h2] : List Value).toArray below meth c H locs 0 0 (MQ below (va_Qv (fun u : RS => u = rputs 2000 t (e1 r.1 r.2.1 0)) (ft_B D vwCl [(cI, .int)] A (fun u => wRow h1 a1 cI 400 r ++ wRow h2 a2 cI 2000 u)) A) ([.ref hw, .ref h1, .ref h2] : List Value).toArray s 0 0 A) (F0 m 8 ls []) := by
    intro n
    induction n with
    | zero =>
      intro i t' H locs ls hk ht' hP hD hS hl heq
      refine lv_iload hx hb d_EW_frame_8 (lv_at hl 0 rfl) ?_
      refine lv_iload_n hx hb d_EW_frame_10 rfl (lv_at hl 1 rfl) ?_
      refine lv_icmp_ge (tgt := 30) hx hb d_EW_frame_11 (by decide) (fun c11 => ?_) (fun c11 => absurd (nI_le (by omega) (by omega)) c11)
      have c11 : r.2.1 ≤ i := (nI_leI (by omega) (by omega)).mp c11
      refine lv_aload_n hx hb d_EW_frame_30 rfl (lv_at hl 4 rfl) ?_
      refine lv_sipush (v := 192) hx hb d_EW_frame_31 (by decide +kernel) ?_
      refine ft_cv (wc := [(h2, .inr (3, [.ref a2, .int (nI t'.2.1), .int t'.2.2])), (a2, .inl (cI, 2000, .inl t'.1))]) (wr := [(h1, .inr (3, [.ref a1, .int (nI r.2.1), .int r.2.2])), (a1, .inl (cI, 400, .inl r.1))]) (va_runV (As := [.int 192]) (rest := []) ⟨hx, hb, hml, hown, ht⟩ (c_Row_put l D cI h2 a2 2000 (by omega) t' ht' 192 H.size) (ft_cwV 1 ht bw_265 bw_202 bw_203 bw_33 bw_204 (by decide) ⟨Nat.le_of_ble_eq_true rfl, Nat.le_of_ble_eq_true rfl⟩) ⟨ft_blind, va_recv hK hP (ci := 3) (q0 := 2) rfl rfl, (ft_pre hP hD hK hNW [2, 3] [0] rfl rfl (by decide) rfl _)⟩ rfl rfl hl.1 rfl (lv_room (Nat.le_of_ble_eq_true rfl)) d_EW_frame_34 ⟨Nat.le_of_ble_eq_true rfl, Nat.le_of_ble_eq_true rfl⟩) hP hD hS hA [2, 3] [0, 1] rfl rfl (by decide) (by decide) (fun u_2 H locs hu_2 hP hD hS => ?_)
      have le_u_2 : u_2.2.1 ≤ 2000 := by rw [hu_2]; exact rput_le ht'
      have hP : va_P D vwCl [(h1, .inr (3, [.ref a1, .int (nI r.2.1), .int r.2.2])), (a1, .inl (cI, 400, .inl r.1)), (h2, .inr (3, [.ref a2, .int (nI u_2.2.1), .int u_2.2.2])), (a2, .inl (cI, 2000, .inl u_2.1))] H := hP
      have hD : va_D A [(h1, .inr (3, [.ref a1, .int (nI r.2.1), .int r.2.2])), (a1, .inl (cI, 400, .inl r.1)), (h2, .inr (3, [.ref a2, .int (nI u_2.2.1), .int u_2.2.2])), (a2, .inl (cI, 2000, .inl u_2.1))] := hD
      exact ft_retv u_2 hx hb hr hlocks hP hK hD hS (by rw [← heq, hu_2]; rfl) d_EW_frame_37
    | succ n ih =>
      intro i t' H locs ls hk ht' hP hD hS hl heq
      refine lv_iload hx hb d_EW_frame_8 (lv_at hl 0 rfl) ?_
      refine lv_iload_n hx hb d_EW_frame_10 rfl (lv_at hl 1 rfl) ?_
      refine lv_icmp_ge (tgt := 30) hx hb d_EW_frame_11 (by decide) (fun c11 => absurd c11 (nI_ge (by omega) (by omega))) (fun c11 => ?_)
      have c11 : ¬ r.2.1 ≤ i := fun h => c11 ((nI_leI (by omega) (by omega)).mpr h)
      refine lv_aload_n hx hb d_EW_frame_14 rfl (lv_at hl 3 rfl) ?_
      refine lv_iload hx hb d_EW_frame_15 (lv_at hl 0 rfl) ?_
      refine ft_ci (wc := [(h1, .inr (3, [.ref a1, .int (nI r.2.1), .int r.2.2])), (a1, .inl (cI, 400, .inl r.1))]) (wr := [(h2, .inr (3, [.ref a2, .int (nI t'.2.1), .int t'.2.2])), (a2, .inl (cI, 2000, .inl t'.1))]) (va_runV (As := [.int (nI i)]) (rest := []) ⟨hx, hb, hml, hown, ht⟩ (c_Row_byteAt l D cI h1 a1 400 (by omega) r hr0 (nI i) H.size) (ft_cwV 1 ht bw_261 bw_240 bw_241 bw_33 bw_242 (by decide) ⟨Nat.le_of_ble_eq_true rfl, Nat.le_of_ble_eq_true rfl⟩) ⟨ft_blind, va_recv hK hP (ci := 3) (q0 := 0) rfl rfl, (ft_pre hP hD hK hNW [0, 1] [0] rfl rfl (by decide) rfl _)⟩ rfl rfl hl.1 rfl (lv_room (Nat.le_of_ble_eq_true rfl)) d_EW_frame_17 ⟨Nat.le_of_ble_eq_true rfl, Nat.le_of_ble_eq_true rfl⟩) hP hD hS hA [0, 1] [2, 3] rfl rfl (by decide) (by decide) (fun r_3 u_4 H locs hu_4 hP hD hS => ?_)
      rw [rat_nI (r := r) (j := i) (by omega) (by omega)] at hu_4
      subst hu_4
      have hP : va_P D vwCl [(h2, .inr (3, [.ref a2, .int (nI t'.2.1), .int t'.2.2])), (a2, .inl (cI, 2000, .inl t'.1)), (h1, .inr (3, [.ref a1, .int (nI r.2.1), .int r.2.2])), (a1, .inl (cI, 400, .inl r.1))] H := hP
      have hD : va_D A [(h2, .inr (3, [.ref a2, .int (nI t'.2.1), .int t'.2.2])), (a2, .inl (cI, 2000, .inl t'.1)), (h1, .inr (3, [.ref a1, .int (nI r.2.1), .int r.2.2])), (a1, .inl (cI, 400, .inl r.1))] := hD
      refine lv_aload_n hx hb d_EW_frame_20 rfl (lv_at hl 4 rfl) ?_
      refine ft_cv (wc := [(h2, .inr (3, [.ref a2, .int (nI t'.2.1), .int t'.2.2])), (a2, .inl (cI, 2000, .inl t'.1))]) (wr := [(h1, .inr (3, [.ref a1, .int (nI r.2.1), .int r.2.2])), (a1, .inl (cI, 400, .inl r.1))]) (va_runS (As := [.int (r.1 i), .ref h2]) (rest := []) ⟨hx, hb, hml, hown, ht⟩ (c_E_writeByte l D cI h2 a2 t' ht' (r.1 i) H.size) (ft_cwS 2 ht bw_262 bw_263 bw_37 bw_264 (by decide) ⟨Nat.le_of_ble_eq_true rfl, Nat.le_of_ble_eq_true rfl⟩) ⟨ft_blind, (ft_pre hP hD hK hNW [0, 1] [0] rfl rfl (by decide) rfl _)⟩ rfl rfl hl.1 rfl (lv_room (Nat.le_of_ble_eq_true rfl)) d_EW_frame_21 ⟨Nat.le_of_ble_eq_true rfl, Nat.le_of_ble_eq_true rfl⟩) hP hD hS hA [0, 1] [2, 3] rfl rfl (by decide) (by decide) (fun u_6 H locs hu_6 hP hD hS => ?_)
      have le_u_6 : u_6.2.1 ≤ 2000 := by rw [hu_6]; exact rputs_le _ ht'
      have hP : va_P D vwCl [(h1, .inr (3, [.ref a1, .int (nI r.2.1), .int r.2.2])), (a1, .inl (cI, 400, .inl r.1)), (h2, .inr (3, [.ref a2, .int (nI u_6.2.1), .int u_6.2.2])), (a2, .inl (cI, 2000, .inl u_6.1))] H := hP
      have hD : va_D A [(h1, .inr (3, [.ref a1, .int (nI r.2.1), .int r.2.2])), (a1, .inl (cI, 400, .inl r.1)), (h2, .inr (3, [.ref a2, .int (nI u_6.2.1), .int u_6.2.2])), (a2, .inl (cI, 2000, .inl u_6.1))] := hD
      refine lv_iinc (v := nI (i + 1)) (lv' := [(4, .int (nI (i + 1))), (3, .int (nI r.2.1)), (0, .ref hw), (1, .ref h1), (2, .ref h2)]) hx hb d_EW_frame_24 hl (k := 0) rfl (nI_1 i) (by decide) rfl (fun ls hl => ?_)
      refine lv_goto (tgt := 8) hx hb d_EW_frame_27 (by decide) ?_
      exact ih (i + 1) u_6 H locs ls (by omega) le_u_6 (hP.sub [0, 1, 2, 3] rfl) (hD.sub [0, 1, 2, 3] (by decide) rfl) hS (lv_sub hl [0, 1, 2, 3, 4] rfl) (by rw [hu_6, ← rputs_app]; exact heq)
  exact loop r.2.1 0 t s.heap [] ls (by omega) ht0 (hP.sub [0, 1, 2, 3] rfl) (hD.sub [0, 1, 2, 3] (by decide) rfl) hS (lv_sub hl [0, 1, 2, 3, 4] rfl) rfl

set_option maxHeartbeats 4000000 in
set_option maxRecDepth 100000 in
theorem c_C_frame (l : Launch) (D : va_G) (cI : ClassId) (hw : Nat) (h1 a1 h2 a2 : Nat) (r t : RS) (hr0 : r.2.1 ≤ 400) (ht0 : t.2.1 ≤ 2000) (sz : Nat) : ft_Mv l y_CW_frame (.code y_CW_frame b_CW_frame 7 none :: ft_big) ({ frames := 2, cells := 0, slots := 0, locals := 90 }) D [(cI, .int)] sz [.ref hw, .ref h1, .ref h2] (wRow h1 a1 cI 400 r ++ wRow h2 a2 cI 2000 t) (fun u : RS => u = rputs 2000 t (e2 r.1 r.2.1 0 65535)) (fun u => wRow h1 a1 cI 400 r ++ wRow h2 a2 cI 2000 u) 0 0 := by
  refine ft_ev (cc := b_CW_frame) (maxL := 7) (ret := none) (by decide) rfl (Nat.le_of_ble_eq_true rfl) ?_
  intro p e s m below meth c A ls hx hb hr hml hts hown hlocks hmn hP hK hD hA hS hNW hl
  have ht : ∀ w ∈ ft_big, w.before _ s = true := fun w h => hts w (List.mem_cons_of_mem _ h)
  have hP : va_P D vwCl [(h1, .inr (3, [.ref a1, .int (nI r.2.1), .int r.2.2])), (a1, .inl (cI, 400, .inl r.1)), (h2, .inr (3, [.ref a2, .int (nI t.2.1), .int t.2.2])), (a2, .inl (cI, 2000, .inl t.1))] s.heap := hP
  have hD : va_D A [(h1, .inr (3, [.ref a1, .int (nI r.2.1), .int r.2.2])), (a1, .inl (cI, 400, .inl r.1)), (h2, .inr (3, [.ref a2, .int (nI t.2.1), .int t.2.2])), (a2, .inl (cI, 2000, .inl t.1))] := hD
  have hl : lv_has ls 7 [(0, .ref hw), (1, .ref h1), (2, .ref h2)] := hl
  refine lv_aload_n hx hb d_CW_frame_0 rfl (lv_at hl 1 rfl) ?_
  refine va_getN (D := D) (ci := 3) (v := .int (nI r.2.1)) (C := R_Row) (T := F_Row) (N := 3) hx hb ht bi_Row hown hK hP 0 rfl rfl 1 (by decide) (va_Nw.use rfl (hNW _ bn_59)) (fun _ h9 => h9) rfl d_CW_frame_1 ?_
  refine lv_istore_n (lv' := [(3, .int (nI r.2.1)), (0, .ref hw), (1, .ref h1), (2, .ref h2)]) hx hb d_CW_frame_4 rfl hl (by decide) rfl (fun ls hl => ?_)
  refine lv_ldc hx hb hown (ht _ bw_155) d_CW_frame_5 ?_
  refine lv_istore (lv' := [(4, .int 65535), (3, .int (nI r.2.1)), (0, .ref hw), (1, .ref h1), (2, .ref h2)]) hx hb d_CW_frame_7 hl (by decide) rfl (fun ls hl => ?_)
  refine lv_iconst (v := nI 0) hx hb d_CW_frame_9 (by decide +kernel) ?_
  refine lv_istore (lv' := [(5, .int (nI 0)), (4, .int 65535), (3, .int (nI r.2.1)), (0, .ref hw), (1, .ref h1), (2, .ref h2)]) hx hb d_CW_frame_10 hl (by decide) rfl (fun ls hl => ?_)
  have loop : ∀ (n : Nat) (i : Nat) (sum : Int32) (t' : RS) (H : Heap) (locs : List Loc) (ls : Array Slot), i + n = r.2.1 → t'.2.1 ≤ 2000 → va_P D vwCl [(h1, .inr (3, [.ref a1, .int (nI r.2.1), .int r.2.2])), (a1, .inl (cI, 400, .inl r.1)), (h2, .inr (3, [.ref a2, .int (nI t'.2.1), .int t'.2.2])), (a2, .inl (cI, 2000, .inl t'.1))] H → va_D A [(h1, .inr (3, [.ref a1, .int (nI r.2.1), .int r.2.2])), (a1, .inl (cI, 400, .inl r.1)), (h2, .inr (3, [.ref a2, .int (nI t'.2.1), .int t'.2.2])), (a2, .inl (cI, 2000, .inl t'.1))] → va_S A s.heap H locs → lv_has ls 7 [(5, .int (nI i)), (4, .int sum), (3, .int (nI r.2.1)), (0, .ref hw), (1, .ref h1), (2, .ref h2)] → rputs 2000 t' (e2 r.1 n i sum) = rputs 2000 t (e2 r.1 r.2.1 0 65535) → W p l e ({ frames := 2, cells := 0, slots := 0, locals := 90 } : Room) s m ([.ref hw, .ref h1, .ref h2] : List Value).toArray below meth c H locs 0 0 (MQ below (va_Qv (fun u : RS => u = rputs 2000 t (e2 r.1 r.2.1 0 65535)) (ft_B D vwCl [(cI, .int)] A (fun u => wRow h1 a1 cI 400 r ++ wRow h2 a2 cI 2000 u)) A) ([.ref hw, .ref h1, .ref h2] : List Value).toArray s 0 0 A) (F0 m 12 ls []) := by
    intro n
    induction n with
    | zero =>
      intro i sum t' H locs ls hk ht' hP hD hS hl heq
      refine lv_iload hx hb d_CW_frame_12 (lv_at hl 0 rfl) ?_
      refine lv_iload_n hx hb d_CW_frame_14 rfl (lv_at hl 2 rfl) ?_
      refine lv_icmp_ge (tgt := 47) hx hb d_CW_frame_15 (by decide) (fun c15 => ?_) (fun c15 => absurd (nI_le (by omega) (by omega)) c15)
      have c15 : r.2.1 ≤ i := (nI_leI (by omega) (by omega)).mp c15
      refine lv_iload hx hb d_CW_frame_47 (lv_at hl 1 rfl) ?_
      refine ft_ci (wc := []) (wr := [(h1, .inr (3, [.ref a1, .int (nI r.2.1), .int r.2.2])), (a1, .inl (cI, 400, .inl r.1)), (h2, .inr (3, [.ref a2, .int (nI t'.2.1), .int t'.2.2])), (a2, .inl (cI, 2000, .inl t'.1))]) (va_runS (As := [.int sum]) (rest := []) ⟨hx, hb, hml, hown, ht⟩ (c_C_finishedCheck l D cI sum H.size) (ft_cwS 1 ht bw_255 bw_256 bw_38 bw_257 (by decide) ⟨Nat.le_of_ble_eq_true rfl, Nat.le_of_ble_eq_true rfl⟩) ⟨ft_blind, (ft_pre hP hD hK hNW [] [0] rfl rfl (by decide) rfl _)⟩ rfl rfl hl.1 rfl (lv_room (Nat.le_of_ble_eq_true rfl)) d_CW_frame_49 ⟨Nat.le_of_ble_eq_true rfl, Nat.le_of_ble_eq_true rfl⟩) hP hD hS hA [] [0, 1, 2, 3] rfl rfl (by decide) (by decide) (fun r_1 u_2 H locs hu_2 hP hD hS => ?_)
      subst hu_2
      have hP : va_P D vwCl [(h1, .inr (3, [.ref a1, .int (nI r.2.1), .int r.2.2])), (a1, .inl (cI, 400, .inl r.1)), (h2, .inr (3, [.ref a2, .int (nI t'.2.1), .int t'.2.2])), (a2, .inl (cI, 2000, .inl t'.1))] H := hP
      have hD : va_D A [(h1, .inr (3, [.ref a1, .int (nI r.2.1), .int r.2.2])), (a1, .inl (cI, 400, .inl r.1)), (h2, .inr (3, [.ref a2, .int (nI t'.2.1), .int t'.2.2])), (a2, .inl (cI, 2000, .inl t'.1))] := hD
      refine lv_istore (lv' := [(5, .int (sum ^^^ 65535)), (4, .int sum), (3, .int (nI r.2.1)), (0, .ref hw), (1, .ref h1), (2, .ref h2)]) hx hb d_CW_frame_52 hl (by decide) rfl (fun ls hl => ?_)
      refine lv_iload hx hb d_CW_frame_54 (lv_at hl 0 rfl) ?_
      refine lv_sipush (v := 255) hx hb d_CW_frame_56 (by decide +kernel) ?_
      refine lv_iand hx hb d_CW_frame_59 ?_
      refine lv_aload_n hx hb d_CW_frame_60 rfl (lv_at hl 5 rfl) ?_
      refine ft_cv (wc := [(h2, .inr (3, [.ref a2, .int (nI t'.2.1), .int t'.2.2])), (a2, .inl (cI, 2000, .inl t'.1))]) (wr := [(h1, .inr (3, [.ref a1, .int (nI r.2.1), .int r.2.2])), (a1, .inl (cI, 400, .inl r.1))]) (va_runS (As := [.int ((sum ^^^ 65535) &&& 255), .ref h2]) (rest := []) ⟨hx, hb, hml, hown, ht⟩ (c_C_writeByte l D cI h2 a2 t' ht' ((sum ^^^ 65535) &&& 255) H.size) (ft_cwS 2 ht bw_251 bw_252 bw_38 bw_253 (by decide) ⟨Nat.le_of_ble_eq_true rfl, Nat.le_of_ble_eq_true rfl⟩) ⟨ft_blind, (ft_pre hP hD hK hNW [2, 3] [0] rfl rfl (by decide) rfl _)⟩ rfl rfl hl.1 rfl (lv_room (Nat.le_of_ble_eq_true rfl)) d_CW_frame_61 ⟨Nat.le_of_ble_eq_true rfl, Nat.le_of_ble_eq_true rfl⟩) hP hD hS hA [2, 3] [0, 1] rfl rfl (by decide) (by decide) (fun u_4 H locs hu_4 hP hD hS => ?_)
      have le_u_4 : u_4.2.1 ≤ 2000 := by rw [hu_4]; exact rputs_le _ ht'
      have hP : va_P D vwCl [(h1, .inr (3, [.ref a1, .int (nI r.2.1), .int r.2.2])), (a1, .inl (cI, 400, .inl r.1)), (h2, .inr (3, [.ref a2, .int (nI u_4.2.1), .int u_4.2.2])), (a2, .inl (cI, 2000, .inl u_4.1))] H := hP
      have hD : va_D A [(h1, .inr (3, [.ref a1, .int (nI r.2.1), .int r.2.2])), (a1, .inl (cI, 400, .inl r.1)), (h2, .inr (3, [.ref a2, .int (nI u_4.2.1), .int u_4.2.2])), (a2, .inl (cI, 2000, .inl u_4.1))] := hD
      refine lv_iload hx hb d_CW_frame_64 (lv_at hl 0 rfl) ?_
      refine lv_bipush (v := 8) hx hb d_CW_frame_66 (by decide +kernel) ?_
      refine lv_iushr (v := ft_ushr (sum ^^^ 65535) (8 : Int32)) hx hb d_CW_frame_68 rfl ?_
      refine lv_aload_n hx hb d_CW_frame_69 rfl (lv_at hl 5 rfl) ?_
      refine ft_cv (wc := [(h2, .inr (3, [.ref a2, .int (nI u_4.2.1), .int u_4.2.2])), (a2, .inl (cI, 2000, .inl u_4.1))]) (wr := [(h1, .inr (3, [.ref a1, .int (nI r.2.1), .int r.2.2])), (a1, .inl (cI, 400, .inl r.1))]) (va_runS (As := [.int (ft_ushr (sum ^^^ 65535) (8 : Int32)), .ref h2]) (rest := []) ⟨hx, hb, hml, hown, ht⟩ (c_C_writeByte l D cI h2 a2 u_4 le_u_4 (ft_ushr (sum ^^^ 65535) (8 : Int32)) H.size) (ft_cwS 2 ht bw_251 bw_252 bw_38 bw_253 (by decide) ⟨Nat.le_of_ble_eq_true rfl, Nat.le_of_ble_eq_true rfl⟩) ⟨ft_blind, (ft_pre hP hD hK hNW [2, 3] [0] rfl rfl (by decide) rfl _)⟩ rfl rfl hl.1 rfl (lv_room (Nat.le_of_ble_eq_true rfl)) d_CW_frame_70 ⟨Nat.le_of_ble_eq_true rfl, Nat.le_of_ble_eq_true rfl⟩) hP hD hS hA [2, 3] [0, 1] rfl rfl (by decide) (by decide) (fun u_6 H locs hu_6 hP hD hS => ?_)
      have le_u_6 : u_6.2.1 ≤ 2000 := by rw [hu_6]; exact rputs_le _ le_u_4
      have hP : va_P D vwCl [(h1, .inr (3, [.ref a1, .int (nI r.2.1), .int r.2.2])), (a1, .inl (cI, 400, .inl r.1)), (h2, .inr (3, [.ref a2, .int (nI u_6.2.1), .int u_6.2.2])), (a2, .inl (cI, 2000, .inl u_6.1))] H := hP
      have hD : va_D A [(h1, .inr (3, [.ref a1, .int (nI r.2.1), .int r.2.2])), (a1, .inl (cI, 400, .inl r.1)), (h2, .inr (3, [.ref a2, .int (nI u_6.2.1), .int u_6.2.2])), (a2, .inl (cI, 2000, .inl u_6.1))] := hD
      refine lv_aload_n hx hb d_CW_frame_73 rfl (lv_at hl 5 rfl) ?_
      refine lv_bipush (v := 126) hx hb d_CW_frame_74 (by decide +kernel) ?_
      refine ft_cv (wc := [(h2, .inr (3, [.ref a2, .int (nI u_6.2.1), .int u_6.2.2])), (a2, .inl (cI, 2000, .inl u_6.1))]) (wr := [(h1, .inr (3, [.ref a1, .int (nI r.2.1), .int r.2.2])), (a1, .inl (cI, 400, .inl r.1))]) (va_runV (As := [.int 126]) (rest := []) ⟨hx, hb, hml, hown, ht⟩ (c_Row_put l D cI h2 a2 2000 (by omega) u_6 le_u_6 126 H.size) (ft_cwV 1 ht bw_254 bw_202 bw_203 bw_33 bw_204 (by decide) ⟨Nat.le_of_ble_eq_true rfl, Nat.le_of_ble_eq_true rfl⟩) ⟨ft_blind, va_recv hK hP (ci := 3) (q0 := 2) rfl rfl, (ft_pre hP hD hK hNW [2, 3] [0] rfl rfl (by decide) rfl _)⟩ rfl rfl hl.1 rfl (lv_room (Nat.le_of_ble_eq_true rfl)) d_CW_frame_76 ⟨Nat.le_of_ble_eq_true rfl, Nat.le_of_ble_eq_true rfl⟩) hP hD hS hA [2, 3] [0, 1] rfl rfl (by decide) (by decide) (fun u_8 H locs hu_8 hP hD hS => ?_)
      have le_u_8 : u_8.2.1 ≤ 2000 := by rw [hu_8]; exact rput_le le_u_6
      have hP : va_P D vwCl [(h1, .inr (3, [.ref a1, .int (nI r.2.1), .int r.2.2])), (a1, .inl (cI, 400, .inl r.1)), (h2, .inr (3, [.ref a2, .int (nI u_8.2.1), .int u_8.2.2])), (a2, .inl (cI, 2000, .inl u_8.1))] H := hP
      have hD : va_D A [(h1, .inr (3, [.ref a1, .int (nI r.2.1), .int r.2.2])), (a1, .inl (cI, 400, .inl r.1)), (h2, .inr (3, [.ref a2, .int (nI u_8.2.1), .int u_8.2.2])), (a2, .inl (cI, 2000, .inl u_8.1))] := hD
      exact ft_retv u_8 hx hb hr hlocks hP hK hD hS (by rw [← heq]; show _ = rputs 2000 t' (wb2 ((sum ^^^ 65535) &&& 255) ++ (wb2 (ft_ushr (sum ^^^ 65535) 8) ++ [126])); rw [rputs_app, rputs_app, hu_8, hu_6, hu_4]; rfl) d_CW_frame_79
    | succ n ih =>
      intro i sum t' H locs ls hk ht' hP hD hS hl heq
      refine lv_iload hx hb d_CW_frame_12 (lv_at hl 0 rfl) ?_
      refine lv_iload_n hx hb d_CW_frame_14 rfl (lv_at hl 2 rfl) ?_
      refine lv_icmp_ge (tgt := 47) hx hb d_CW_frame_15 (by decide) (fun c15 => absurd c15 (nI_ge (by omega) (by omega))) (fun c15 => ?_)
      have c15 : ¬ r.2.1 ≤ i := fun h => c15 ((nI_leI (by omega) (by omega)).mpr h)
      refine lv_aload_n hx hb d_CW_frame_18 rfl (lv_at hl 4 rfl) ?_
      refine lv_iload hx hb d_CW_frame_19 (lv_at hl 0 rfl) ?_
      refine ft_ci (wc := [(h1, .inr (3, [.ref a1, .int (nI r.2.1), .int r.2.2])), (a1, .inl (cI, 400, .inl r.1))]) (wr := [(h2, .inr (3, [.ref a2, .int (nI t'.2.1), .int t'.2.2])), (a2, .inl (cI, 2000, .inl t'.1))]) (va_runV (As := [.int (nI i)]) (rest := []) ⟨hx, hb, hml, hown, ht⟩ (c_Row_byteAt l D cI h1 a1 400 (by omega) r hr0 (nI i) H.size) (ft_cwV 1 ht bw_239 bw_240 bw_241 bw_33 bw_242 (by decide) ⟨Nat.le_of_ble_eq_true rfl, Nat.le_of_ble_eq_true rfl⟩) ⟨ft_blind, va_recv hK hP (ci := 3) (q0 := 0) rfl rfl, (ft_pre hP hD hK hNW [0, 1] [0] rfl rfl (by decide) rfl _)⟩ rfl rfl hl.1 rfl (lv_room (Nat.le_of_ble_eq_true rfl)) d_CW_frame_21 ⟨Nat.le_of_ble_eq_true rfl, Nat.le_of_ble_eq_true rfl⟩) hP hD hS hA [0, 1] [2, 3] rfl rfl (by decide) (by decide) (fun r_9 u_10 H locs hu_10 hP hD hS => ?_)
      rw [rat_nI (r := r) (j := i) (by omega) (by omega)] at hu_10
      subst hu_10
      have hP : va_P D vwCl [(h2, .inr (3, [.ref a2, .int (nI t'.2.1), .int t'.2.2])), (a2, .inl (cI, 2000, .inl t'.1)), (h1, .inr (3, [.ref a1, .int (nI r.2.1), .int r.2.2])), (a1, .inl (cI, 400, .inl r.1))] H := hP
      have hD : va_D A [(h2, .inr (3, [.ref a2, .int (nI t'.2.1), .int t'.2.2])), (a2, .inl (cI, 2000, .inl t'.1)), (h1, .inr (3, [.ref a1, .int (nI r.2.1), .int r.2.2])), (a1, .inl (cI, 400, .inl r.1))] := hD
      refine lv_istore (lv' := [(6, .int (r.1 i)), (5, .int (nI i)), (4, .int sum), (3, .int (nI r.2.1)), (0, .ref hw), (1, .ref h1), (2, .ref h2)]) hx hb d_CW_frame_24 hl (by decide) rfl (fun ls hl => ?_)
      refine lv_iload hx hb d_CW_frame_26 (lv_at hl 2 rfl) ?_
      refine lv_iload hx hb d_CW_frame_28 (lv_at hl 0 rfl) ?_
      refine ft_ci (wc := []) (wr := [(h2, .inr (3, [.ref a2, .int (nI t'.2.1), .int t'.2.2])), (a2, .inl (cI, 2000, .inl t'.1)), (h1, .inr (3, [.ref a1, .int (nI r.2.1), .int r.2.2])), (a1, .inl (cI, 400, .inl r.1))]) (va_runS (As := [.int sum, .int (r.1 i)]) (rest := []) ⟨hx, hb, hml, hown, ht⟩ (c_C_addToCheck l D cI sum (r.1 i) H.size) (ft_cwS 2 ht bw_247 bw_248 bw_38 bw_249 (by decide) ⟨Nat.le_of_ble_eq_true rfl, Nat.le_of_ble_eq_true rfl⟩) ⟨ft_blind, (ft_pre hP hD hK hNW [] [0] rfl rfl (by decide) rfl _)⟩ rfl rfl hl.1 rfl (lv_room (Nat.le_of_ble_eq_true rfl)) d_CW_frame_30 ⟨Nat.le_of_ble_eq_true rfl, Nat.le_of_ble_eq_true rfl⟩) hP hD hS hA [] [0, 1, 2, 3] rfl rfl (by decide) (by decide) (fun r_11 u_12 H locs hu_12 hP hD hS => ?_)
      subst hu_12
      have hP : va_P D vwCl [(h2, .inr (3, [.ref a2, .int (nI t'.2.1), .int t'.2.2])), (a2, .inl (cI, 2000, .inl t'.1)), (h1, .inr (3, [.ref a1, .int (nI r.2.1), .int r.2.2])), (a1, .inl (cI, 400, .inl r.1))] H := hP
      have hD : va_D A [(h2, .inr (3, [.ref a2, .int (nI t'.2.1), .int t'.2.2])), (a2, .inl (cI, 2000, .inl t'.1)), (h1, .inr (3, [.ref a1, .int (nI r.2.1), .int r.2.2])), (a1, .inl (cI, 400, .inl r.1))] := hD
      refine lv_istore (lv' := [(4, .int (crcB sum (r.1 i))), (6, .int (r.1 i)), (5, .int (nI i)), (3, .int (nI r.2.1)), (0, .ref hw), (1, .ref h1), (2, .ref h2)]) hx hb d_CW_frame_33 hl (by decide) rfl (fun ls hl => ?_)
      refine lv_iload hx hb d_CW_frame_35 (lv_at hl 1 rfl) ?_
      refine lv_aload_n hx hb d_CW_frame_37 rfl (lv_at hl 6 rfl) ?_
      refine ft_cv (wc := [(h2, .inr (3, [.ref a2, .int (nI t'.2.1), .int t'.2.2])), (a2, .inl (cI, 2000, .inl t'.1))]) (wr := [(h1, .inr (3, [.ref a1, .int (nI r.2.1), .int r.2.2])), (a1, .inl (cI, 400, .inl r.1))]) (va_runS (As := [.int (r.1 i), .ref h2]) (rest := []) ⟨hx, hb, hml, hown, ht⟩ (c_C_writeByte l D cI h2 a2 t' ht' (r.1 i) H.size) (ft_cwS 2 ht bw_251 bw_252 bw_38 bw_253 (by decide) ⟨Nat.le_of_ble_eq_true rfl, Nat.le_of_ble_eq_true rfl⟩) ⟨ft_blind, (ft_pre hP hD hK hNW [0, 1] [0] rfl rfl (by decide) rfl _)⟩ rfl rfl hl.1 rfl (lv_room (Nat.le_of_ble_eq_true rfl)) d_CW_frame_38 ⟨Nat.le_of_ble_eq_true rfl, Nat.le_of_ble_eq_true rfl⟩) hP hD hS hA [0, 1] [2, 3] rfl rfl (by decide) (by decide) (fun u_14 H locs hu_14 hP hD hS => ?_)
      have le_u_14 : u_14.2.1 ≤ 2000 := by rw [hu_14]; exact rputs_le _ ht'
      have hP : va_P D vwCl [(h1, .inr (3, [.ref a1, .int (nI r.2.1), .int r.2.2])), (a1, .inl (cI, 400, .inl r.1)), (h2, .inr (3, [.ref a2, .int (nI u_14.2.1), .int u_14.2.2])), (a2, .inl (cI, 2000, .inl u_14.1))] H := hP
      have hD : va_D A [(h1, .inr (3, [.ref a1, .int (nI r.2.1), .int r.2.2])), (a1, .inl (cI, 400, .inl r.1)), (h2, .inr (3, [.ref a2, .int (nI u_14.2.1), .int u_14.2.2])), (a2, .inl (cI, 2000, .inl u_14.1))] := hD
      refine lv_iinc (v := nI (i + 1)) (lv' := [(5, .int (nI (i + 1))), (4, .int (crcB sum (r.1 i))), (6, .int (r.1 i)), (3, .int (nI r.2.1)), (0, .ref hw), (1, .ref h1), (2, .ref h2)]) hx hb d_CW_frame_41 hl (k := 2) rfl (nI_1 i) (by decide) rfl (fun ls hl => ?_)
      refine lv_goto (tgt := 12) hx hb d_CW_frame_44 (by decide) ?_
      exact ih (i + 1) (crcB sum (r.1 i)) u_14 H locs ls (by omega) le_u_14 (hP.sub [0, 1, 2, 3] rfl) (hD.sub [0, 1, 2, 3] (by decide) rfl) hS (lv_sub hl [0, 1, 3, 4, 5, 6] rfl) (by rw [hu_14, ← rputs_app]; exact heq)
  exact loop r.2.1 0 65535 t s.heap [] ls (by omega) ht0 (hP.sub [0, 1, 2, 3] rfl) (hD.sub [0, 1, 2, 3] (by decide) rfl) hS (lv_sub hl [0, 1, 2, 3, 4, 5] rfl) rfl
