set_option maxHeartbeats 4000000 in
set_option maxRecDepth 100000 in
theorem c_FT_appendToTape (l : Launch) (D : va_G) (cI : ClassId) (x xt xs xw : Nat) (most : Int32) (xta : Nat) (tape : RS) (hT : tape.2.1 ≤ 400) (n : Int32) (sz : Nat) : ft_Mv l y_FT_appendToTape (.code y_FT_appendToTape b_FT_appendToTape 3 none :: ft_big) ({ frames := 1, cells := 0, slots := 0, locals := 40 }) D [(cI, .int)] sz [.ref x, .int n] [(x, .inr (4, [.ref xt, .ref xs, .ref xw, .int most])), (xt, .inr (3, [.ref xta, .int (nI tape.2.1), .int tape.2.2])), (xta, .inl (cI, 400, .inl tape.1))] (fun u : RS => u = rputs 400 tape (by4 n)) (fun u => (x, .inr (4, [.ref xt, .ref xs, .ref xw, .int most])) :: wRow xt xta cI 400 u) 0 0 := by
  refine ft_ev (cc := b_FT_appendToTape) (maxL := 3) (ret := none) (by decide) rfl (Nat.le_of_ble_eq_true rfl) ?_
  intro p e s m below meth c A ls hx hb hr hml hts hown hlocks hmn hP hK hD hA hS hNW hl
  have ht : ∀ w ∈ ft_big, w.before _ s = true := fun w h => hts w (List.mem_cons_of_mem _ h)
  have hP : va_P D vwCl [(x, .inr (4, [.ref xt, .ref xs, .ref xw, .int most])), (xt, .inr (3, [.ref xta, .int (nI tape.2.1), .int tape.2.2])), (xta, .inl (cI, 400, .inl tape.1))] s.heap := hP
  have hD : va_D A [(x, .inr (4, [.ref xt, .ref xs, .ref xw, .int most])), (xt, .inr (3, [.ref xta, .int (nI tape.2.1), .int tape.2.2])), (xta, .inl (cI, 400, .inl tape.1))] := hD
  have hl : lv_has ls 3 [(0, .ref x), (1, .int n)] := hl
  refine lv_bipush (v := 24) hx hb d_FT_appendToTape_0 (by decide +kernel) ?_
  refine lv_istore_n (lv' := [(2, .int 24), (0, .ref x), (1, .int n)]) hx hb d_FT_appendToTape_2 rfl hl (by decide) rfl (fun ls hl => ?_)
  refine lv_iload_n hx hb d_FT_appendToTape_3 rfl (lv_at hl 0 rfl) ?_
  refine lv_if_lt (tgt := 27) hx hb d_FT_appendToTape_4 (by decide) (fun c4 => absurd c4 (by decide)) (fun _ => ?_)
  refine lv_aload_n hx hb d_FT_appendToTape_7 rfl (lv_at hl 1 rfl) ?_
  refine va_get (D := D) (ci := 4) (v := .ref xt) (C := R_FT) (T := F_FT) (N := 4) hx hb ht bi_FT hown hK hP 0 rfl rfl 0 (by decide) (ht _ bw_180) (fun _ h9 => h9) rfl d_FT_appendToTape_8 ?_
  refine lv_iload_n hx hb d_FT_appendToTape_11 rfl (lv_at hl 2 rfl) ?_
  refine lv_iload_n hx hb d_FT_appendToTape_12 rfl (lv_at hl 0 rfl) ?_
  refine lv_iushr (v := ft_ushr n (24 : Int32)) hx hb d_FT_appendToTape_13 rfl ?_
  refine lv_sipush (v := 255) hx hb d_FT_appendToTape_14 (by decide +kernel) ?_
  refine lv_iand hx hb d_FT_appendToTape_17 ?_
  refine ft_cv (wc := [(xt, .inr (3, [.ref xta, .int (nI tape.2.1), .int tape.2.2])), (xta, .inl (cI, 400, .inl tape.1))]) (wr := [(x, .inr (4, [.ref xt, .ref xs, .ref xw, .int most]))]) (va_runV (As := [.int ((ft_ushr n (24 : Int32)) &&& 255)]) (rest := []) ⟨hx, hb, hml, hown, ht⟩ (c_Row_put l D cI xt xta 400 (by omega) tape hT ((ft_ushr n (24 : Int32)) &&& 255) s.heap.size) (ft_cwV 1 ht bw_201 bw_202 bw_203 bw_33 bw_204 (by decide) ⟨Nat.le_of_ble_eq_true rfl, Nat.le_of_ble_eq_true rfl⟩) ⟨ft_blind, va_recv hK hP (ci := 3) (q0 := 1) rfl rfl, (ft_pre hP hD hK hNW [1, 2] [0] rfl rfl (by decide) rfl _)⟩ rfl rfl hl.1 rfl (lv_room (Nat.le_of_ble_eq_true rfl)) d_FT_appendToTape_18 ⟨Nat.le_of_ble_eq_true rfl, Nat.le_of_ble_eq_true rfl⟩) hP hD hS hA [1, 2] [0] rfl rfl (by decide) (by decide) (fun u_2 H locs hu_2 hP hD hS => ?_)
  have le_u_2 : u_2.2.1 ≤ 400 := by rw [hu_2]; exact rput_le hT
  have hP : va_P D vwCl [(x, .inr (4, [.ref xt, .ref xs, .ref xw, .int most])), (xt, .inr (3, [.ref xta, .int (nI u_2.2.1), .int u_2.2.2])), (xta, .inl (cI, 400, .inl u_2.1))] H := hP
  have hD : va_D A [(x, .inr (4, [.ref xt, .ref xs, .ref xw, .int most])), (xt, .inr (3, [.ref xta, .int (nI u_2.2.1), .int u_2.2.2])), (xta, .inl (cI, 400, .inl u_2.1))] := hD
  refine lv_iinc (v := 16) (lv' := [(2, .int 16), (0, .ref x), (1, .int n)]) hx hb d_FT_appendToTape_21 hl (k := 0) rfl (by decide +kernel) (by decide) rfl (fun ls hl => ?_)
  refine lv_goto (tgt := 3) hx hb d_FT_appendToTape_24 (by decide) ?_
  refine lv_iload_n hx hb d_FT_appendToTape_3 rfl (lv_at hl 0 rfl) ?_
  refine lv_if_lt (tgt := 27) hx hb d_FT_appendToTape_4 (by decide) (fun c4 => absurd c4 (by decide)) (fun _ => ?_)
  refine lv_aload_n hx hb d_FT_appendToTape_7 rfl (lv_at hl 1 rfl) ?_
  refine va_get (D := D) (ci := 4) (v := .ref xt) (C := R_FT) (T := F_FT) (N := 4) hx hb ht bi_FT hown hK hP 0 rfl rfl 0 (by decide) (ht _ bw_180) (fun _ h9 => h9) rfl d_FT_appendToTape_8 ?_
  refine lv_iload_n hx hb d_FT_appendToTape_11 rfl (lv_at hl 2 rfl) ?_
  refine lv_iload_n hx hb d_FT_appendToTape_12 rfl (lv_at hl 0 rfl) ?_
  refine lv_iushr (v := ft_ushr n (16 : Int32)) hx hb d_FT_appendToTape_13 rfl ?_
  refine lv_sipush (v := 255) hx hb d_FT_appendToTape_14 (by decide +kernel) ?_
  refine lv_iand hx hb d_FT_appendToTape_17 ?_
  refine ft_cv (wc := [(xt, .inr (3, [.ref xta, .int (nI u_2.2.1), .int u_2.2.2])), (xta, .inl (cI, 400, .inl u_2.1))]) (wr := [(x, .inr (4, [.ref xt, .ref xs, .ref xw, .int most]))]) (va_runV (As := [.int ((ft_ushr n (16 : Int32)) &&& 255)]) (rest := []) ⟨hx, hb, hml, hown, ht⟩ (c_Row_put l D cI xt xta 400 (by omega) u_2 le_u_2 ((ft_ushr n (16 : Int32)) &&& 255) H.size) (ft_cwV 1 ht bw_201 bw_202 bw_203 bw_33 bw_204 (by decide) ⟨Nat.le_of_ble_eq_true rfl, Nat.le_of_ble_eq_true rfl⟩) ⟨ft_blind, va_recv hK hP (ci := 3) (q0 := 1) rfl rfl, (ft_pre hP hD hK hNW [1, 2] [0] rfl rfl (by decide) rfl _)⟩ rfl rfl hl.1 rfl (lv_room (Nat.le_of_ble_eq_true rfl)) d_FT_appendToTape_18 ⟨Nat.le_of_ble_eq_true rfl, Nat.le_of_ble_eq_true rfl⟩) hP hD hS hA [1, 2] [0] rfl rfl (by decide) (by decide) (fun u_4 H locs hu_4 hP hD hS => ?_)
  have le_u_4 : u_4.2.1 ≤ 400 := by rw [hu_4]; exact rput_le le_u_2
  have hP : va_P D vwCl [(x, .inr (4, [.ref xt, .ref xs, .ref xw, .int most])), (xt, .inr (3, [.ref xta, .int (nI u_4.2.1), .int u_4.2.2])), (xta, .inl (cI, 400, .inl u_4.1))] H := hP
  have hD : va_D A [(x, .inr (4, [.ref xt, .ref xs, .ref xw, .int most])), (xt, .inr (3, [.ref xta, .int (nI u_4.2.1), .int u_4.2.2])), (xta, .inl (cI, 400, .inl u_4.1))] := hD
  refine lv_iinc (v := 8) (lv' := [(2, .int 8), (0, .ref x), (1, .int n)]) hx hb d_FT_appendToTape_21 hl (k := 0) rfl (by decide +kernel) (by decide) rfl (fun ls hl => ?_)
  refine lv_goto (tgt := 3) hx hb d_FT_appendToTape_24 (by decide) ?_
  refine lv_iload_n hx hb d_FT_appendToTape_3 rfl (lv_at hl 0 rfl) ?_
  refine lv_if_lt (tgt := 27) hx hb d_FT_appendToTape_4 (by decide) (fun c4 => absurd c4 (by decide)) (fun _ => ?_)
  refine lv_aload_n hx hb d_FT_appendToTape_7 rfl (lv_at hl 1 rfl) ?_
  refine va_get (D := D) (ci := 4) (v := .ref xt) (C := R_FT) (T := F_FT) (N := 4) hx hb ht bi_FT hown hK hP 0 rfl rfl 0 (by decide) (ht _ bw_180) (fun _ h9 => h9) rfl d_FT_appendToTape_8 ?_
  refine lv_iload_n hx hb d_FT_appendToTape_11 rfl (lv_at hl 2 rfl) ?_
  refine lv_iload_n hx hb d_FT_appendToTape_12 rfl (lv_at hl 0 rfl) ?_
  refine lv_iushr (v := ft_ushr n (8 : Int32)) hx hb d_FT_appendToTape_13 rfl ?_
  refine lv_sipush (v := 255) hx hb d_FT_appendToTape_14 (by decide +kernel) ?_
  refine lv_iand hx hb d_FT_appendToTape_17 ?_
  refine ft_cv (wc := [(xt, .inr (3, [.ref xta, .int (nI u_4.2.1), .int u_4.2.2])), (xta, .inl (cI, 400, .inl u_4.1))]) (wr := [(x, .inr (4, [.ref xt, .ref xs, .ref xw, .int most]))]) (va_runV (As := [.int ((ft_ushr n (8 : Int32)) &&& 255)]) (rest := []) ⟨hx, hb, hml, hown, ht⟩ (c_Row_put l D cI xt xta 400 (by omega) u_4 le_u_4 ((ft_ushr n (8 : Int32)) &&& 255) H.size) (ft_cwV 1 ht bw_201 bw_202 bw_203 bw_33 bw_204 (by decide) ⟨Nat.le_of_ble_eq_true rfl, Nat.le_of_ble_eq_true rfl⟩) ⟨ft_blind, va_recv hK hP (ci := 3) (q0 := 1) rfl rfl, (ft_pre hP hD hK hNW [1, 2] [0] rfl rfl (by decide) rfl _)⟩ rfl rfl hl.1 rfl (lv_room (Nat.le_of_ble_eq_true rfl)) d_FT_appendToTape_18 ⟨Nat.le_of_ble_eq_true rfl, Nat.le_of_ble_eq_true rfl⟩) hP hD hS hA [1, 2] [0] rfl rfl (by decide) (by decide) (fun u_6 H locs hu_6 hP hD hS => ?_)
  have le_u_6 : u_6.2.1 ≤ 400 := by rw [hu_6]; exact rput_le le_u_4
  have hP : va_P D vwCl [(x, .inr (4, [.ref xt, .ref xs, .ref xw, .int most])), (xt, .inr (3, [.ref xta, .int (nI u_6.2.1), .int u_6.2.2])), (xta, .inl (cI, 400, .inl u_6.1))] H := hP
  have hD : va_D A [(x, .inr (4, [.ref xt, .ref xs, .ref xw, .int most])), (xt, .inr (3, [.ref xta, .int (nI u_6.2.1), .int u_6.2.2])), (xta, .inl (cI, 400, .inl u_6.1))] := hD
  refine lv_iinc (v := 0) (lv' := [(2, .int 0), (0, .ref x), (1, .int n)]) hx hb d_FT_appendToTape_21 hl (k := 0) rfl (by decide +kernel) (by decide) rfl (fun ls hl => ?_)
  refine lv_goto (tgt := 3) hx hb d_FT_appendToTape_24 (by decide) ?_
  refine lv_iload_n hx hb d_FT_appendToTape_3 rfl (lv_at hl 0 rfl) ?_
  refine lv_if_lt (tgt := 27) hx hb d_FT_appendToTape_4 (by decide) (fun c4 => absurd c4 (by decide)) (fun _ => ?_)
  refine lv_aload_n hx hb d_FT_appendToTape_7 rfl (lv_at hl 1 rfl) ?_
  refine va_get (D := D) (ci := 4) (v := .ref xt) (C := R_FT) (T := F_FT) (N := 4) hx hb ht bi_FT hown hK hP 0 rfl rfl 0 (by decide) (ht _ bw_180) (fun _ h9 => h9) rfl d_FT_appendToTape_8 ?_
  refine lv_iload_n hx hb d_FT_appendToTape_11 rfl (lv_at hl 2 rfl) ?_
  refine lv_iload_n hx hb d_FT_appendToTape_12 rfl (lv_at hl 0 rfl) ?_
  refine lv_iushr (v := ft_ushr n (0 : Int32)) hx hb d_FT_appendToTape_13 rfl ?_
  refine lv_sipush (v := 255) hx hb d_FT_appendToTape_14 (by decide +kernel) ?_
  refine lv_iand hx hb d_FT_appendToTape_17 ?_
  refine ft_cv (wc := [(xt, .inr (3, [.ref xta, .int (nI u_6.2.1), .int u_6.2.2])), (xta, .inl (cI, 400, .inl u_6.1))]) (wr := [(x, .inr (4, [.ref xt, .ref xs, .ref xw, .int most]))]) (va_runV (As := [.int ((ft_ushr n (0 : Int32)) &&& 255)]) (rest := []) ⟨hx, hb, hml, hown, ht⟩ (c_Row_put l D cI xt xta 400 (by omega) u_6 le_u_6 ((ft_ushr n (0 : Int32)) &&& 255) H.size) (ft_cwV 1 ht bw_201 bw_202 bw_203 bw_33 bw_204 (by decide) ⟨Nat.le_of_ble_eq_true rfl, Nat.le_of_ble_eq_true rfl⟩) ⟨ft_blind, va_recv hK hP (ci := 3) (q0 := 1) rfl rfl, (ft_pre hP hD hK hNW [1, 2] [0] rfl rfl (by decide) rfl _)⟩ rfl rfl hl.1 rfl (lv_room (Nat.le_of_ble_eq_true rfl)) d_FT_appendToTape_18 ⟨Nat.le_of_ble_eq_true rfl, Nat.le_of_ble_eq_true rfl⟩) hP hD hS hA [1, 2] [0] rfl rfl (by decide) (by decide) (fun u_8 H locs hu_8 hP hD hS => ?_)
  have le_u_8 : u_8.2.1 ≤ 400 := by rw [hu_8]; exact rput_le le_u_6
  have hP : va_P D vwCl [(x, .inr (4, [.ref xt, .ref xs, .ref xw, .int most])), (xt, .inr (3, [.ref xta, .int (nI u_8.2.1), .int u_8.2.2])), (xta, .inl (cI, 400, .inl u_8.1))] H := hP
  have hD : va_D A [(x, .inr (4, [.ref xt, .ref xs, .ref xw, .int most])), (xt, .inr (3, [.ref xta, .int (nI u_8.2.1), .int u_8.2.2])), (xta, .inl (cI, 400, .inl u_8.1))] := hD
  refine lv_iinc (v := (-8)) (lv' := [(2, .int (-8)), (0, .ref x), (1, .int n)]) hx hb d_FT_appendToTape_21 hl (k := 0) rfl (by decide +kernel) (by decide) rfl (fun ls hl => ?_)
  refine lv_goto (tgt := 3) hx hb d_FT_appendToTape_24 (by decide) ?_
  refine lv_iload_n hx hb d_FT_appendToTape_3 rfl (lv_at hl 0 rfl) ?_
  refine lv_if_lt (tgt := 27) hx hb d_FT_appendToTape_4 (by decide) (fun _ => ?_) (fun c4 => absurd (by decide) c4)
  exact ft_retv u_8 hx hb hr hlocks hP hK hD hS (by show _ = rputs 400 tape (by4 n); rw [hu_8, hu_6, hu_4, hu_2]; rfl) d_FT_appendToTape_27

set_option maxHeartbeats 4000000 in
set_option maxRecDepth 100000 in
theorem c_FT_feed (l : Launch) (D : va_G) (cI : ClassId) (x xt xs xw : Nat) (most : Int32) (xta : Nat) (tape : RS) (hT : tape.2.1 ≤ 400) (a b c' d e' : Int32) (sz : Nat) : ft_Mi l y_FT_feed (.code y_FT_feed b_FT_feed 6 (some .boolean) :: ft_big) ({ frames := 2, cells := 0, slots := 0, locals := 80 }) D [(cI, .int)] sz [.ref x, .int a, .int b, .int c', .int d, .int e'] [(x, .inr (4, [.ref xt, .ref xs, .ref xw, .int most])), (xt, .inr (3, [.ref xta, .int (nI tape.2.1), .int tape.2.2])), (xta, .inl (cI, 400, .inl tape.1))] (fun (v : Int32) (u : RS) => (v, u) = feedX tape a b c' d e') (fun u => (x, .inr (4, [.ref xt, .ref xs, .ref xw, .int most])) :: wRow xt xta cI 400 u) 0 0 := by
  refine ft_ei (cc := b_FT_feed) (maxL := 6) (ret := (some .boolean)) (by decide) rfl (Nat.le_of_ble_eq_true rfl) ?_
  intro p e s m below meth c A ls hx hb hr hml hts hown hlocks hmn hP hK hD hA hS hNW hl
  have ht : ∀ w ∈ ft_big, w.before _ s = true := fun w h => hts w (List.mem_cons_of_mem _ h)
  have hP : va_P D vwCl [(x, .inr (4, [.ref xt, .ref xs, .ref xw, .int most])), (xt, .inr (3, [.ref xta, .int (nI tape.2.1), .int tape.2.2])), (xta, .inl (cI, 400, .inl tape.1))] s.heap := hP
  have hD : va_D A [(x, .inr (4, [.ref xt, .ref xs, .ref xw, .int most])), (xt, .inr (3, [.ref xta, .int (nI tape.2.1), .int tape.2.2])), (xta, .inl (cI, 400, .inl tape.1))] := hD
  have hl : lv_has ls 6 [(0, .ref x), (1, .int a), (2, .int b), (3, .int c'), (4, .int d), (5, .int e')] := hl
  refine lv_aload_n hx hb d_FT_feed_0 rfl (lv_at hl 0 rfl) ?_
  refine va_get (D := D) (ci := 4) (v := .ref xt) (C := R_FT) (T := F_FT) (N := 4) hx hb ht bi_FT hown hK hP 0 rfl rfl 0 (by decide) (ht _ bw_180) (fun _ h9 => h9) rfl d_FT_feed_1 ?_
  refine va_getN (D := D) (ci := 3) (v := .int (nI tape.2.1)) (C := R_Row) (T := F_Row) (N := 3) hx hb ht bi_Row hown hK hP 1 rfl rfl 1 (by decide) (va_Nw.use rfl (hNW _ bn_62)) (fun _ h9 => h9) rfl d_FT_feed_4 ?_
  refine lv_sipush (v := nI 380) hx hb d_FT_feed_7 (by decide +kernel) ?_
  refine lv_icmp_le (tgt := 15) hx hb d_FT_feed_10 (by decide) (fun c10 => ?_) (fun c10 => ?_)
  · skip
    have c10 : tape.2.1 ≤ 380 := (nI_leI (by omega) (by omega)).mp c10
    refine lv_aload_n hx hb d_FT_feed_15 rfl (lv_at hl 0 rfl) ?_
    refine lv_iload_n hx hb d_FT_feed_16 rfl (lv_at hl 1 rfl) ?_
    refine ft_cv (wc := [(x, .inr (4, [.ref xt, .ref xs, .ref xw, .int most])), (xt, .inr (3, [.ref xta, .int (nI tape.2.1), .int tape.2.2])), (xta, .inl (cI, 400, .inl tape.1))]) (wr := []) (va_runV (As := [.int a]) (rest := []) ⟨hx, hb, hml, hown, ht⟩ (c_FT_appendToTape l D cI x xt xs xw most xta tape hT a s.heap.size) (ft_cwV 1 ht bw_197 bw_199 bw_9 bw_32 bw_200 (by decide) ⟨Nat.le_of_ble_eq_true rfl, Nat.le_of_ble_eq_true rfl⟩) ⟨ft_blind, va_recv hK hP (ci := 4) (q0 := 0) rfl rfl, (ft_pre hP hD hK hNW [0, 1, 2] [0] rfl rfl (by decide) rfl _)⟩ rfl rfl hl.1 rfl (lv_room (Nat.le_of_ble_eq_true rfl)) d_FT_feed_17 ⟨Nat.le_of_ble_eq_true rfl, Nat.le_of_ble_eq_true rfl⟩) hP hD hS hA [0, 1, 2] [] rfl rfl (by decide) (by decide) (fun u_2 H locs hu_2 hP hD hS => ?_)
    have le_u_2 : u_2.2.1 ≤ 400 := by rw [hu_2]; exact rputs_le _ hT
    have hP : va_P D vwCl [(x, .inr (4, [.ref xt, .ref xs, .ref xw, .int most])), (xt, .inr (3, [.ref xta, .int (nI u_2.2.1), .int u_2.2.2])), (xta, .inl (cI, 400, .inl u_2.1))] H := hP
    have hD : va_D A [(x, .inr (4, [.ref xt, .ref xs, .ref xw, .int most])), (xt, .inr (3, [.ref xta, .int (nI u_2.2.1), .int u_2.2.2])), (xta, .inl (cI, 400, .inl u_2.1))] := hD
    refine lv_aload_n hx hb d_FT_feed_20 rfl (lv_at hl 0 rfl) ?_
    refine lv_iload_n hx hb d_FT_feed_21 rfl (lv_at hl 2 rfl) ?_
    refine ft_cv (wc := [(x, .inr (4, [.ref xt, .ref xs, .ref xw, .int most])), (xt, .inr (3, [.ref xta, .int (nI u_2.2.1), .int u_2.2.2])), (xta, .inl (cI, 400, .inl u_2.1))]) (wr := []) (va_runV (As := [.int b]) (rest := []) ⟨hx, hb, hml, hown, ht⟩ (c_FT_appendToTape l D cI x xt xs xw most xta u_2 le_u_2 b H.size) (ft_cwV 1 ht bw_197 bw_199 bw_9 bw_32 bw_200 (by decide) ⟨Nat.le_of_ble_eq_true rfl, Nat.le_of_ble_eq_true rfl⟩) ⟨ft_blind, va_recv hK hP (ci := 4) (q0 := 0) rfl rfl, (ft_pre hP hD hK hNW [0, 1, 2] [0] rfl rfl (by decide) rfl _)⟩ rfl rfl hl.1 rfl (lv_room (Nat.le_of_ble_eq_true rfl)) d_FT_feed_22 ⟨Nat.le_of_ble_eq_true rfl, Nat.le_of_ble_eq_true rfl⟩) hP hD hS hA [0, 1, 2] [] rfl rfl (by decide) (by decide) (fun u_4 H locs hu_4 hP hD hS => ?_)
    have le_u_4 : u_4.2.1 ≤ 400 := by rw [hu_4]; exact rputs_le _ le_u_2
    have hP : va_P D vwCl [(x, .inr (4, [.ref xt, .ref xs, .ref xw, .int most])), (xt, .inr (3, [.ref xta, .int (nI u_4.2.1), .int u_4.2.2])), (xta, .inl (cI, 400, .inl u_4.1))] H := hP
    have hD : va_D A [(x, .inr (4, [.ref xt, .ref xs, .ref xw, .int most])), (xt, .inr (3, [.ref xta, .int (nI u_4.2.1), .int u_4.2.2])), (xta, .inl (cI, 400, .inl u_4.1))] := hD
    refine lv_aload_n hx hb d_FT_feed_25 rfl (lv_at hl 0 rfl) ?_
    refine lv_iload_n hx hb d_FT_feed_26 rfl (lv_at hl 3 rfl) ?_
    refine ft_cv (wc := [(x, .inr (4, [.ref xt, .ref xs, .ref xw, .int most])), (xt, .inr (3, [.ref xta, .int (nI u_4.2.1), .int u_4.2.2])), (xta, .inl (cI, 400, .inl u_4.1))]) (wr := []) (va_runV (As := [.int c']) (rest := []) ⟨hx, hb, hml, hown, ht⟩ (c_FT_appendToTape l D cI x xt xs xw most xta u_4 le_u_4 c' H.size) (ft_cwV 1 ht bw_197 bw_199 bw_9 bw_32 bw_200 (by decide) ⟨Nat.le_of_ble_eq_true rfl, Nat.le_of_ble_eq_true rfl⟩) ⟨ft_blind, va_recv hK hP (ci := 4) (q0 := 0) rfl rfl, (ft_pre hP hD hK hNW [0, 1, 2] [0] rfl rfl (by decide) rfl _)⟩ rfl rfl hl.1 rfl (lv_room (Nat.le_of_ble_eq_true rfl)) d_FT_feed_27 ⟨Nat.le_of_ble_eq_true rfl, Nat.le_of_ble_eq_true rfl⟩) hP hD hS hA [0, 1, 2] [] rfl rfl (by decide) (by decide) (fun u_6 H locs hu_6 hP hD hS => ?_)
    have le_u_6 : u_6.2.1 ≤ 400 := by rw [hu_6]; exact rputs_le _ le_u_4
    have hP : va_P D vwCl [(x, .inr (4, [.ref xt, .ref xs, .ref xw, .int most])), (xt, .inr (3, [.ref xta, .int (nI u_6.2.1), .int u_6.2.2])), (xta, .inl (cI, 400, .inl u_6.1))] H := hP
    have hD : va_D A [(x, .inr (4, [.ref xt, .ref xs, .ref xw, .int most])), (xt, .inr (3, [.ref xta, .int (nI u_6.2.1), .int u_6.2.2])), (xta, .inl (cI, 400, .inl u_6.1))] := hD
    refine lv_aload_n hx hb d_FT_feed_30 rfl (lv_at hl 0 rfl) ?_
    refine lv_iload hx hb d_FT_feed_31 (lv_at hl 4 rfl) ?_
    refine ft_cv (wc := [(x, .inr (4, [.ref xt, .ref xs, .ref xw, .int most])), (xt, .inr (3, [.ref xta, .int (nI u_6.2.1), .int u_6.2.2])), (xta, .inl (cI, 400, .inl u_6.1))]) (wr := []) (va_runV (As := [.int d]) (rest := []) ⟨hx, hb, hml, hown, ht⟩ (c_FT_appendToTape l D cI x xt xs xw most xta u_6 le_u_6 d H.size) (ft_cwV 1 ht bw_197 bw_199 bw_9 bw_32 bw_200 (by decide) ⟨Nat.le_of_ble_eq_true rfl, Nat.le_of_ble_eq_true rfl⟩) ⟨ft_blind, va_recv hK hP (ci := 4) (q0 := 0) rfl rfl, (ft_pre hP hD hK hNW [0, 1, 2] [0] rfl rfl (by decide) rfl _)⟩ rfl rfl hl.1 rfl (lv_room (Nat.le_of_ble_eq_true rfl)) d_FT_feed_33 ⟨Nat.le_of_ble_eq_true rfl, Nat.le_of_ble_eq_true rfl⟩) hP hD hS hA [0, 1, 2] [] rfl rfl (by decide) (by decide) (fun u_8 H locs hu_8 hP hD hS => ?_)
    have le_u_8 : u_8.2.1 ≤ 400 := by rw [hu_8]; exact rputs_le _ le_u_6
    have hP : va_P D vwCl [(x, .inr (4, [.ref xt, .ref xs, .ref xw, .int most])), (xt, .inr (3, [.ref xta, .int (nI u_8.2.1), .int u_8.2.2])), (xta, .inl (cI, 400, .inl u_8.1))] H := hP
    have hD : va_D A [(x, .inr (4, [.ref xt, .ref xs, .ref xw, .int most])), (xt, .inr (3, [.ref xta, .int (nI u_8.2.1), .int u_8.2.2])), (xta, .inl (cI, 400, .inl u_8.1))] := hD
    refine lv_aload_n hx hb d_FT_feed_36 rfl (lv_at hl 0 rfl) ?_
    refine lv_iload hx hb d_FT_feed_37 (lv_at hl 5 rfl) ?_
    refine ft_cv (wc := [(x, .inr (4, [.ref xt, .ref xs, .ref xw, .int most])), (xt, .inr (3, [.ref xta, .int (nI u_8.2.1), .int u_8.2.2])), (xta, .inl (cI, 400, .inl u_8.1))]) (wr := []) (va_runV (As := [.int e']) (rest := []) ⟨hx, hb, hml, hown, ht⟩ (c_FT_appendToTape l D cI x xt xs xw most xta u_8 le_u_8 e' H.size) (ft_cwV 1 ht bw_197 bw_199 bw_9 bw_32 bw_200 (by decide) ⟨Nat.le_of_ble_eq_true rfl, Nat.le_of_ble_eq_true rfl⟩) ⟨ft_blind, va_recv hK hP (ci := 4) (q0 := 0) rfl rfl, (ft_pre hP hD hK hNW [0, 1, 2] [0] rfl rfl (by decide) rfl _)⟩ rfl rfl hl.1 rfl (lv_room (Nat.le_of_ble_eq_true rfl)) d_FT_feed_39 ⟨Nat.le_of_ble_eq_true rfl, Nat.le_of_ble_eq_true rfl⟩) hP hD hS hA [0, 1, 2] [] rfl rfl (by decide) (by decide) (fun u_10 H locs hu_10 hP hD hS => ?_)
    have le_u_10 : u_10.2.1 ≤ 400 := by rw [hu_10]; exact rputs_le _ le_u_8
    have hP : va_P D vwCl [(x, .inr (4, [.ref xt, .ref xs, .ref xw, .int most])), (xt, .inr (3, [.ref xta, .int (nI u_10.2.1), .int u_10.2.2])), (xta, .inl (cI, 400, .inl u_10.1))] H := hP
    have hD : va_D A [(x, .inr (4, [.ref xt, .ref xs, .ref xw, .int most])), (xt, .inr (3, [.ref xta, .int (nI u_10.2.1), .int u_10.2.2])), (xta, .inl (cI, 400, .inl u_10.1))] := hD
    refine lv_iconst (v := 1) hx hb d_FT_feed_42 (by decide +kernel) ?_
    exact ft_retz u_10 hx hb hr (by decide) hlocks hP hK hD hS (by show _ = feedX tape a b c' d e'; unfold feedX; rw [if_neg (by omega), hu_10, hu_8, hu_6, hu_4, hu_2]) d_FT_feed_43
  · skip
    have c10 : ¬ tape.2.1 ≤ 380 := fun h => c10 ((nI_leI (by omega) (by omega)).mpr h)
    refine lv_iconst (v := 0) hx hb d_FT_feed_13 (by decide +kernel) ?_
    exact ft_retz tape hx hb hr (by decide) hlocks hP hK hD hS (by show _ = feedX tape a b c' d e'; unfold feedX; rw [if_pos (by omega)]) d_FT_feed_14

set_option maxHeartbeats 4000000 in
set_option maxRecDepth 100000 in
theorem c_FT_end (l : Launch) (D : va_G) (cI : ClassId) (x xt xs xw : Nat) (most : Int32) (xta : Nat) (tape : RS) (hT : tape.2.1 ≤ 400) (n : Int32) (sz : Nat) : ft_Mi l y_FT_end (.code y_FT_end b_FT_end 2 (some .boolean) :: ft_big) ({ frames := 1, cells := 0, slots := 0, locals := 40 }) D [(cI, .int)] sz [.ref x, .int n] [(x, .inr (4, [.ref xt, .ref xs, .ref xw, .int most])), (xt, .inr (3, [.ref xta, .int (nI tape.2.1), .int tape.2.2])), (xta, .inl (cI, 400, .inl tape.1))] (fun (v : Int32) (u : RS) => (v, u) = endX tape n) (fun u => (x, .inr (4, [.ref xt, .ref xs, .ref xw, .int most])) :: wRow xt xta cI 400 u) 0 0 := by
  refine ft_ei (cc := b_FT_end) (maxL := 2) (ret := (some .boolean)) (by decide) rfl (Nat.le_of_ble_eq_true rfl) ?_
  intro p e s m below meth c A ls hx hb hr hml hts hown hlocks hmn hP hK hD hA hS hNW hl
  have ht : ∀ w ∈ ft_big, w.before _ s = true := fun w h => hts w (List.mem_cons_of_mem _ h)
  have hP : va_P D vwCl [(x, .inr (4, [.ref xt, .ref xs, .ref xw, .int most])), (xt, .inr (3, [.ref xta, .int (nI tape.2.1), .int tape.2.2])), (xta, .inl (cI, 400, .inl tape.1))] s.heap := hP
  have hD : va_D A [(x, .inr (4, [.ref xt, .ref xs, .ref xw, .int most])), (xt, .inr (3, [.ref xta, .int (nI tape.2.1), .int tape.2.2])), (xta, .inl (cI, 400, .inl tape.1))] := hD
  have hl : lv_has ls 2 [(0, .ref x), (1, .int n)] := hl
  refine lv_iload_n hx hb d_FT_end_0 rfl (lv_at hl 1 rfl) ?_
  refine lv_if_lt (tgt := 15) hx hb d_FT_end_1 (by decide) (fun c1 => ?_) (fun c1 => ?_)
  · skip
    refine lv_iconst (v := 0) hx hb d_FT_end_15 (by decide +kernel) ?_
    exact ft_retz tape hx hb hr (by decide) hlocks hP hK hD hS (by show _ = endX tape n; simp [endX, c1]) d_FT_end_16
  · skip
    refine lv_iload_n hx hb d_FT_end_4 rfl (lv_at hl 1 rfl) ?_
    refine lv_aload_n hx hb d_FT_end_5 rfl (lv_at hl 0 rfl) ?_
    refine va_get (D := D) (ci := 4) (v := .ref xt) (C := R_FT) (T := F_FT) (N := 4) hx hb ht bi_FT hown hK hP 0 rfl rfl 0 (by decide) (ht _ bw_180) (fun _ h9 => h9) rfl d_FT_end_6 ?_
    refine va_getN (D := D) (ci := 3) (v := .int (nI tape.2.1)) (C := R_Row) (T := F_Row) (N := 3) hx hb ht bi_Row hown hK hP 1 rfl rfl 1 (by decide) (va_Nw.use rfl (hNW _ bn_62)) (fun _ h9 => h9) rfl d_FT_end_9 ?_
    refine lv_icmp_le (tgt := 17) hx hb d_FT_end_12 (by decide) (fun c12 => ?_) (fun c12 => ?_)
    · skip
      obtain ⟨j, hj, hjn⟩ : ∃ j : Nat, j ≤ tape.2.1 ∧ n = nI j := by
        obtain ⟨j, hj, e⟩ := nI_of c1
        rw [e] at c12
        exact ⟨j, (nI_leI hj (by omega)).mp c12, e⟩
      have e_j : n.toNatClampNeg = j := by rw [hjn]; exact nI_clamp (by omega)
      have hl : lv_has ls 2 [(0, .ref x), (1, .int (nI j))] := by rw [← hjn]; exact hl
      refine lv_aload_n hx hb d_FT_end_17 rfl (lv_at hl 0 rfl) ?_
      refine va_get (D := D) (ci := 4) (v := .ref xt) (C := R_FT) (T := F_FT) (N := 4) hx hb ht bi_FT hown hK hP 0 rfl rfl 0 (by decide) (ht _ bw_180) (fun _ h9 => h9) rfl d_FT_end_18 ?_
      refine lv_iload_n hx hb d_FT_end_21 rfl (lv_at hl 1 rfl) ?_
      refine ft_cv (wc := [(xt, .inr (3, [.ref xta, .int (nI tape.2.1), .int tape.2.2])), (xta, .inl (cI, 400, .inl tape.1))]) (wr := [(x, .inr (4, [.ref xt, .ref xs, .ref xw, .int most]))]) (va_runV (As := [.int (nI j)]) (rest := []) ⟨hx, hb, hml, hown, ht⟩ (c_Row_cutTo l D cI xt xta 400 (by omega) tape hT j (by omega) s.heap.size) (ft_cwV 1 ht bw_209 bw_210 bw_211 bw_33 bw_212 (by decide) ⟨Nat.le_of_ble_eq_true rfl, Nat.le_of_ble_eq_true rfl⟩) ⟨ft_blind, va_recv hK hP (ci := 3) (q0 := 1) rfl rfl, (ft_pre hP hD hK hNW [1, 2] [0] rfl rfl (by decide) rfl _)⟩ rfl rfl hl.1 rfl (lv_room (Nat.le_of_ble_eq_true rfl)) d_FT_end_22 ⟨Nat.le_of_ble_eq_true rfl, Nat.le_of_ble_eq_true rfl⟩) hP hD hS hA [1, 2] [0] rfl rfl (by decide) (by decide) (fun u_2 H locs hu_2 hP hD hS => ?_)
      have le_u_2 : u_2.2.1 ≤ 400 := by rw [hu_2]; exact rcut_le hT
      have hP : va_P D vwCl [(x, .inr (4, [.ref xt, .ref xs, .ref xw, .int most])), (xt, .inr (3, [.ref xta, .int (nI u_2.2.1), .int u_2.2.2])), (xta, .inl (cI, 400, .inl u_2.1))] H := hP
      have hD : va_D A [(x, .inr (4, [.ref xt, .ref xs, .ref xw, .int most])), (xt, .inr (3, [.ref xta, .int (nI u_2.2.1), .int u_2.2.2])), (xta, .inl (cI, 400, .inl u_2.1))] := hD
      refine lv_iconst (v := 1) hx hb d_FT_end_25 (by decide +kernel) ?_
      exact ft_retz u_2 hx hb hr (by decide) hlocks hP hK hD hS (by show _ = endX tape n; unfold endX; rw [if_neg c1, if_pos c12, hu_2, e_j]) d_FT_end_26
    · skip
      refine lv_iconst (v := 0) hx hb d_FT_end_15 (by decide +kernel) ?_
      exact ft_retz tape hx hb hr (by decide) hlocks hP hK hD hS (by show _ = endX tape n; simp [endX, c1, c12]) d_FT_end_16

set_option maxHeartbeats 4000000 in
set_option maxRecDepth 100000 in
theorem c_FT_limit (l : Launch) (D : va_G) (cI : ClassId) (x xt xs xw : Nat) (most : Int32) (n : Int32) (sz : Nat) : ft_Mi l y_FT_limit (.code y_FT_limit b_FT_limit 2 (some .boolean) :: ft_big) ({ frames := 0, cells := 0, slots := 0, locals := 0 }) D [(cI, .int)] sz [.ref x, .int n] [(x, .inr (4, [.ref xt, .ref xs, .ref xw, .int most]))] (fun (v : Int32) (u : Int32) => (v, u) = limX most n) (fun u : Int32 => [(x, .inr (4, [.ref xt, .ref xs, .ref xw, .int u]))]) 0 0 := by
  refine ft_ei (cc := b_FT_limit) (maxL := 2) (ret := (some .boolean)) (by decide) rfl (Nat.le_of_ble_eq_true rfl) ?_
  intro p e s m below meth c A ls hx hb hr hml hts hown hlocks hmn hP hK hD hA hS hNW hl
  have ht : ∀ w ∈ ft_big, w.before _ s = true := fun w h => hts w (List.mem_cons_of_mem _ h)
  have hP : va_P D vwCl [(x, .inr (4, [.ref xt, .ref xs, .ref xw, .int most]))] s.heap := hP
  have hD : va_D A [(x, .inr (4, [.ref xt, .ref xs, .ref xw, .int most]))] := hD
  have hl : lv_has ls 2 [(0, .ref x), (1, .int n)] := hl
  refine lv_iload_n hx hb d_FT_limit_0 rfl (lv_at hl 1 rfl) ?_
  refine lv_iconst (v := 1) hx hb d_FT_limit_1 (by decide +kernel) ?_
  refine lv_icmp_lt (tgt := 12) hx hb d_FT_limit_2 (by decide) (fun c2 => ?_) (fun c2 => ?_)
  · skip
    refine lv_iconst (v := 0) hx hb d_FT_limit_12 (by decide +kernel) ?_
    exact ft_retz most hx hb hr (by decide) hlocks hP hK hD hS (by show _ = limX most n; simp [limX, c2]) d_FT_limit_13
  · skip
    refine lv_iload_n hx hb d_FT_limit_5 rfl (lv_at hl 1 rfl) ?_
    refine lv_sipush (v := 400) hx hb d_FT_limit_6 (by decide +kernel) ?_
    refine lv_icmp_le (tgt := 14) hx hb d_FT_limit_9 (by decide) (fun c9 => ?_) (fun c9 => ?_)
    · skip
      refine lv_aload_n hx hb d_FT_limit_14 rfl (lv_at hl 0 rfl) ?_
      refine lv_iload_n hx hb d_FT_limit_15 rfl (lv_at hl 1 rfl) ?_
      refine va_put (D := D) (ci := 4) (v := .int n) (ty := .int) (C := R_FT) (T := F_FT) (N := 4) hx hb ht bi_FT t_FT t_FT_ok n_FT hown hK hP hD hS 0 rfl rfl 3 (by decide) (ht _ bw_183) (fun _ h9 => h9) rfl (by decide +kernel) rfl rfl (Nat.le_of_ble_eq_true rfl) d_FT_limit_16 (fun H locs hP hD hS => ?_)
      have hP : va_P D vwCl [(x, .inr (4, [.ref xt, .ref xs, .ref xw, .int n]))] H := hP
      have hD : va_D A [(x, .inr (4, [.ref xt, .ref xs, .ref xw, .int n]))] := hD
      refine lv_iconst (v := 1) hx hb d_FT_limit_19 (by decide +kernel) ?_
      exact ft_retz n hx hb hr (by decide) hlocks hP hK hD hS (by show _ = limX most n; simp [limX, c2, c9]) d_FT_limit_20
    · skip
      refine lv_iconst (v := 0) hx hb d_FT_limit_12 (by decide +kernel) ?_
      exact ft_retz most hx hb hr (by decide) hlocks hP hK hD hS (by show _ = limX most n; simp [limX, c2, c9]) d_FT_limit_13

set_option maxHeartbeats 4000000 in
set_option maxRecDepth 100000 in
theorem c_FT_written (l : Launch) (D : va_G) (cI : ClassId) (x xt xs xw : Nat) (most : Int32) (xsa : Nat) (stream : RS) (hSt : stream.2.1 ≤ 2000) (sz : Nat) : ft_Mi l y_FT_written (.code y_FT_written b_FT_written 1 (some .int) :: ft_big) ({ frames := 0, cells := 0, slots := 0, locals := 0 }) D [(cI, .int)] sz [.ref x] [(x, .inr (4, [.ref xt, .ref xs, .ref xw, .int most])), (xs, .inr (3, [.ref xsa, .int (nI stream.2.1), .int stream.2.2])), (xsa, .inl (cI, 2000, .inl stream.1))] (fun (v : Int32) (_ : Unit) => v = nI stream.2.1) (fun _ => [(x, .inr (4, [.ref xt, .ref xs, .ref xw, .int most])), (xs, .inr (3, [.ref xsa, .int (nI stream.2.1), .int stream.2.2])), (xsa, .inl (cI, 2000, .inl stream.1))]) 0 0 := by
  refine ft_ei (cc := b_FT_written) (maxL := 1) (ret := (some .int)) (by decide) rfl (Nat.le_of_ble_eq_true rfl) ?_
  intro p e s m below meth c A ls hx hb hr hml hts hown hlocks hmn hP hK hD hA hS hNW hl
  have ht : ∀ w ∈ ft_big, w.before _ s = true := fun w h => hts w (List.mem_cons_of_mem _ h)
  have hP : va_P D vwCl [(x, .inr (4, [.ref xt, .ref xs, .ref xw, .int most])), (xs, .inr (3, [.ref xsa, .int (nI stream.2.1), .int stream.2.2])), (xsa, .inl (cI, 2000, .inl stream.1))] s.heap := hP
  have hD : va_D A [(x, .inr (4, [.ref xt, .ref xs, .ref xw, .int most])), (xs, .inr (3, [.ref xsa, .int (nI stream.2.1), .int stream.2.2])), (xsa, .inl (cI, 2000, .inl stream.1))] := hD
  have hl : lv_has ls 1 [(0, .ref x)] := hl
  refine lv_aload_n hx hb d_FT_written_0 rfl (lv_at hl 0 rfl) ?_
  refine va_get (D := D) (ci := 4) (v := .ref xs) (C := R_FT) (T := F_FT) (N := 4) hx hb ht bi_FT hown hK hP 0 rfl rfl 1 (by decide) (ht _ bw_181) (fun _ h9 => h9) rfl d_FT_written_1 ?_
  refine va_getN (D := D) (ci := 3) (v := .int (nI stream.2.1)) (C := R_Row) (T := F_Row) (N := 3) hx hb ht bi_Row hown hK hP 1 rfl rfl 1 (by decide) (va_Nw.use rfl (hNW _ bn_62)) (fun _ h9 => h9) rfl d_FT_written_4 ?_
  exact ft_reti () hx hb hr hlocks hP hK hD hS rfl d_FT_written_7

set_option maxHeartbeats 4000000 in
set_option maxRecDepth 100000 in
theorem c_FT_writtenAt (l : Launch) (D : va_G) (cI : ClassId) (x xt xs xw : Nat) (most : Int32) (xsa : Nat) (stream : RS) (hSt : stream.2.1 ≤ 2000) (i : Int32) (sz : Nat) : ft_Mi l y_FT_writtenAt (.code y_FT_writtenAt b_FT_writtenAt 2 (some .int) :: ft_big) ({ frames := 2, cells := 0, slots := 0, locals := 80 }) D [(cI, .int)] sz [.ref x, .int i] [(x, .inr (4, [.ref xt, .ref xs, .ref xw, .int most])), (xs, .inr (3, [.ref xsa, .int (nI stream.2.1), .int stream.2.2])), (xsa, .inl (cI, 2000, .inl stream.1))] (fun (v : Int32) (_ : Unit) => v = rat stream i) (fun _ => [(x, .inr (4, [.ref xt, .ref xs, .ref xw, .int most])), (xs, .inr (3, [.ref xsa, .int (nI stream.2.1), .int stream.2.2])), (xsa, .inl (cI, 2000, .inl stream.1))]) 0 0 := by
  refine ft_ei (cc := b_FT_writtenAt) (maxL := 2) (ret := (some .int)) (by decide) rfl (Nat.le_of_ble_eq_true rfl) ?_
  intro p e s m below meth c A ls hx hb hr hml hts hown hlocks hmn hP hK hD hA hS hNW hl
  have ht : ∀ w ∈ ft_big, w.before _ s = true := fun w h => hts w (List.mem_cons_of_mem _ h)
  have hP : va_P D vwCl [(x, .inr (4, [.ref xt, .ref xs, .ref xw, .int most])), (xs, .inr (3, [.ref xsa, .int (nI stream.2.1), .int stream.2.2])), (xsa, .inl (cI, 2000, .inl stream.1))] s.heap := hP
  have hD : va_D A [(x, .inr (4, [.ref xt, .ref xs, .ref xw, .int most])), (xs, .inr (3, [.ref xsa, .int (nI stream.2.1), .int stream.2.2])), (xsa, .inl (cI, 2000, .inl stream.1))] := hD
  have hl : lv_has ls 2 [(0, .ref x), (1, .int i)] := hl
  refine lv_aload_n hx hb d_FT_writtenAt_0 rfl (lv_at hl 0 rfl) ?_
  refine va_get (D := D) (ci := 4) (v := .ref xs) (C := R_FT) (T := F_FT) (N := 4) hx hb ht bi_FT hown hK hP 0 rfl rfl 1 (by decide) (ht _ bw_181) (fun _ h9 => h9) rfl d_FT_writtenAt_1 ?_
  refine lv_iload_n hx hb d_FT_writtenAt_4 rfl (lv_at hl 1 rfl) ?_
  refine ft_ci (wc := [(xs, .inr (3, [.ref xsa, .int (nI stream.2.1), .int stream.2.2])), (xsa, .inl (cI, 2000, .inl stream.1))]) (wr := [(x, .inr (4, [.ref xt, .ref xs, .ref xw, .int most]))]) (va_runV (As := [.int i]) (rest := []) ⟨hx, hb, hml, hown, ht⟩ (c_Row_byteAt l D cI xs xsa 2000 (by omega) stream hSt i s.heap.size) (ft_cwV 1 ht bw_282 bw_240 bw_241 bw_33 bw_242 (by decide) ⟨Nat.le_of_ble_eq_true rfl, Nat.le_of_ble_eq_true rfl⟩) ⟨ft_blind, va_recv hK hP (ci := 3) (q0 := 1) rfl rfl, (ft_pre hP hD hK hNW [1, 2] [0] rfl rfl (by decide) rfl _)⟩ rfl rfl hl.1 rfl (lv_room (Nat.le_of_ble_eq_true rfl)) d_FT_writtenAt_5 ⟨Nat.le_of_ble_eq_true rfl, Nat.le_of_ble_eq_true rfl⟩) hP hD hS hA [1, 2] [0] rfl rfl (by decide) (by decide) (fun r_1 u_2 H locs hu_2 hP hD hS => ?_)
  subst hu_2
  have hP : va_P D vwCl [(x, .inr (4, [.ref xt, .ref xs, .ref xw, .int most])), (xs, .inr (3, [.ref xsa, .int (nI stream.2.1), .int stream.2.2])), (xsa, .inl (cI, 2000, .inl stream.1))] H := hP
  have hD : va_D A [(x, .inr (4, [.ref xt, .ref xs, .ref xw, .int most])), (xs, .inr (3, [.ref xsa, .int (nI stream.2.1), .int stream.2.2])), (xsa, .inl (cI, 2000, .inl stream.1))] := hD
  exact ft_reti () hx hb hr hlocks hP hK hD hS rfl d_FT_writtenAt_8

set_option maxHeartbeats 4000000 in
set_option maxRecDepth 100000 in
theorem c_FT_spoil (l : Launch) (D : va_G) (cI : ClassId) (x xt xs xw : Nat) (most : Int32) (xsa : Nat) (stream : RS) (hSt : stream.2.1 ≤ 2000) (i k : Int32) (sz : Nat) : ft_Mi l y_FT_spoil (.code y_FT_spoil b_FT_spoil 3 (some .boolean) :: ft_big) ({ frames := 2, cells := 0, slots := 0, locals := 80 }) D [(cI, .int)] sz [.ref x, .int i, .int k] [(x, .inr (4, [.ref xt, .ref xs, .ref xw, .int most])), (xs, .inr (3, [.ref xsa, .int (nI stream.2.1), .int stream.2.2])), (xsa, .inl (cI, 2000, .inl stream.1))] (fun (v : Int32) (u : RS) => v = rhas stream.2.1 i ∧ u = rturn stream i (k &&& 255)) (fun u => (x, .inr (4, [.ref xt, .ref xs, .ref xw, .int most])) :: wRow xs xsa cI 2000 u) 0 0 := by
  refine ft_ei (cc := b_FT_spoil) (maxL := 3) (ret := (some .boolean)) (by decide) rfl (Nat.le_of_ble_eq_true rfl) ?_
  intro p e s m below meth c A ls hx hb hr hml hts hown hlocks hmn hP hK hD hA hS hNW hl
  have ht : ∀ w ∈ ft_big, w.before _ s = true := fun w h => hts w (List.mem_cons_of_mem _ h)
  have hP : va_P D vwCl [(x, .inr (4, [.ref xt, .ref xs, .ref xw, .int most])), (xs, .inr (3, [.ref xsa, .int (nI stream.2.1), .int stream.2.2])), (xsa, .inl (cI, 2000, .inl stream.1))] s.heap := hP
  have hD : va_D A [(x, .inr (4, [.ref xt, .ref xs, .ref xw, .int most])), (xs, .inr (3, [.ref xsa, .int (nI stream.2.1), .int stream.2.2])), (xsa, .inl (cI, 2000, .inl stream.1))] := hD
  have hl : lv_has ls 3 [(0, .ref x), (1, .int i), (2, .int k)] := hl
  refine lv_aload_n hx hb d_FT_spoil_0 rfl (lv_at hl 0 rfl) ?_
  refine va_get (D := D) (ci := 4) (v := .ref xs) (C := R_FT) (T := F_FT) (N := 4) hx hb ht bi_FT hown hK hP 0 rfl rfl 1 (by decide) (ht _ bw_181) (fun _ h9 => h9) rfl d_FT_spoil_1 ?_
  refine lv_iload_n hx hb d_FT_spoil_4 rfl (lv_at hl 1 rfl) ?_
  refine lv_iload_n hx hb d_FT_spoil_5 rfl (lv_at hl 2 rfl) ?_
  refine lv_sipush (v := 255) hx hb d_FT_spoil_6 (by decide +kernel) ?_
  refine lv_iand hx hb d_FT_spoil_9 ?_
  refine ft_ci (wc := [(xs, .inr (3, [.ref xsa, .int (nI stream.2.1), .int stream.2.2])), (xsa, .inl (cI, 2000, .inl stream.1))]) (wr := [(x, .inr (4, [.ref xt, .ref xs, .ref xw, .int most]))]) (va_runV (As := [.int i, .int (k &&& 255)]) (rest := []) ⟨hx, hb, hml, hown, ht⟩ (c_Row_turn l D cI xs xsa 2000 (by omega) stream hSt i (k &&& 255) s.heap.size) (ft_cwV 2 ht bw_287 bw_288 bw_289 bw_33 bw_290 (by decide) ⟨Nat.le_of_ble_eq_true rfl, Nat.le_of_ble_eq_true rfl⟩) ⟨ft_blind, va_recv hK hP (ci := 3) (q0 := 1) rfl rfl, (ft_pre hP hD hK hNW [1, 2] [0] rfl rfl (by decide) rfl _)⟩ rfl rfl hl.1 rfl (lv_room (Nat.le_of_ble_eq_true rfl)) d_FT_spoil_10 ⟨Nat.le_of_ble_eq_true rfl, Nat.le_of_ble_eq_true rfl⟩) hP hD hS hA [1, 2] [0] rfl rfl (by decide) (by decide) (fun r_1 u_2 H locs hu_2 hP hD hS => ?_)
  have hP : va_P D vwCl [(x, .inr (4, [.ref xt, .ref xs, .ref xw, .int most])), (xs, .inr (3, [.ref xsa, .int (nI u_2.2.1), .int u_2.2.2])), (xsa, .inl (cI, 2000, .inl u_2.1))] H := hP
  have hD : va_D A [(x, .inr (4, [.ref xt, .ref xs, .ref xw, .int most])), (xs, .inr (3, [.ref xsa, .int (nI u_2.2.1), .int u_2.2.2])), (xsa, .inl (cI, 2000, .inl u_2.1))] := hD
  have e_v := hu_2.1
  exact ft_retz u_2 hx hb hr (by rw [e_v]; exact rhas_nar _ _) hlocks (hP.sub [0, 1, 2] rfl) hK (hD.sub [0, 1, 2] (by decide) rfl) hS hu_2 d_FT_spoil_13

set_option maxHeartbeats 4000000 in
set_option maxRecDepth 100000 in
theorem c_FT_wayOf (l : Launch) (D : va_G) (cI : ClassId) (x xt xs xw : Nat) (most : Int32) (cW : ClassId) (hg hv hc : Nat) (i : Int32) (sz : Nat) : ft_Mq l y_FT_wayOf (.code y_FT_wayOf b_FT_wayOf 2 (some (.object "FramingTrio$Way")) :: ft_big) ({ frames := 0, cells := 0, slots := 0, locals := 0 }) D [(cI, .int), (cW, .object "FramingTrio$Way")] sz [.ref x, .int i] [(x, .inr (4, [.ref xt, .ref xs, .ref xw, .int most])), (xw, .inl (cW, 3, .inr (.inr (.inr (.inr (ft_wv hg hv hc))))))] (fun (r : Option Nat) (_ : Unit) => wayR hg hv hc i r) (fun _ => [(x, .inr (4, [.ref xt, .ref xs, .ref xw, .int most])), (xw, .inl (cW, 3, .inr (.inr (.inr (.inr (ft_wv hg hv hc))))))]) 0 0 := by
  refine ft_eq (cc := b_FT_wayOf) (maxL := 2) (ret := (some (.object "FramingTrio$Way"))) (by decide) rfl (Nat.le_of_ble_eq_true rfl) ?_
  intro p e s m below meth c A ls hx hb hr hml hts hown hlocks hmn hP hK hD hA hS hNW hl
  have ht : ∀ w ∈ ft_big, w.before _ s = true := fun w h => hts w (List.mem_cons_of_mem _ h)
  have hP : va_P D vwCl [(x, .inr (4, [.ref xt, .ref xs, .ref xw, .int most])), (xw, .inl (cW, 3, .inr (.inr (.inr (.inr (ft_wv hg hv hc))))))] s.heap := hP
  have hD : va_D A [(x, .inr (4, [.ref xt, .ref xs, .ref xw, .int most])), (xw, .inl (cW, 3, .inr (.inr (.inr (.inr (ft_wv hg hv hc))))))] := hD
  have hl : lv_has ls 2 [(0, .ref x), (1, .int i)] := hl
  refine lv_iload_n hx hb d_FT_wayOf_0 rfl (lv_at hl 1 rfl) ?_
  refine lv_if_lt (tgt := 22) hx hb d_FT_wayOf_1 (by decide) (fun c1 => ?_) (fun c1 => ?_)
  · skip
    refine lv_null hx hb d_FT_wayOf_22 ?_
    exact ft_retq () none rfl hx hb hr hlocks hP hK hD hS (Or.inr (Or.inr (Or.inr (way_out1 c1)))) d_FT_wayOf_23
  · skip
    refine lv_iload_n hx hb d_FT_wayOf_4 rfl (lv_at hl 1 rfl) ?_
    refine lv_aload_n hx hb d_FT_wayOf_5 rfl (lv_at hl 0 rfl) ?_
    refine va_get (D := D) (ci := 4) (v := .ref xw) (C := R_FT) (T := F_FT) (N := 4) hx hb ht bi_FT hown hK hP 0 rfl rfl 2 (by decide) (ht _ bw_182) (fun _ h9 => h9) rfl d_FT_wayOf_6 ?_
    refine va_alen (v := nI 3) hx hb hK hP 1 1 rfl rfl rfl d_FT_wayOf_9 ?_
    refine lv_icmp_ge (tgt := 22) hx hb d_FT_wayOf_10 (by decide) (fun c10 => ?_) (fun c10 => ?_)
    · skip
      refine lv_null hx hb d_FT_wayOf_22 ?_
      exact ft_retq () none rfl hx hb hr hlocks hP hK hD hS (Or.inr (Or.inr (Or.inr (way_out2 c1 c10)))) d_FT_wayOf_23
    · skip
      refine lv_aload_n hx hb d_FT_wayOf_13 rfl (lv_at hl 0 rfl) ?_
      refine va_get (D := D) (ci := 4) (v := .ref xw) (C := R_FT) (T := F_FT) (N := 4) hx hb ht bi_FT hown hK hP 0 rfl rfl 2 (by decide) (ht _ bw_182) (fun _ h9 => h9) rfl d_FT_wayOf_14 ?_
      refine lv_iload_n hx hb d_FT_wayOf_17 rfl (lv_at hl 1 rfl) ?_
      refine va_aldq hx hb hK hP 1 1 rfl rfl (way_inb c1 c10) d_FT_wayOf_18 ?_
      refine lv_goto (tgt := 23) hx hb d_FT_wayOf_19 (by decide) ?_
      exact ft_retq () ((ft_wv hg hv hc) i.toNatClampNeg) rfl hx hb hr hlocks hP hK hD hS (way_in c1 c10) d_FT_wayOf_23
