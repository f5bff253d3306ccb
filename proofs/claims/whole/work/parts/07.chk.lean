set_option maxHeartbeats 4000000 in
set_option maxRecDepth 100000 in
theorem c_C_addToCheck (l : Launch) (D : va_G) (cI : ClassId) (sum b : Int32) (sz : Nat) : ft_Mi l y_CW_addToCheck (.code y_CW_addToCheck b_CW_addToCheck 4 (some .int) :: ft_big) ({ frames := 0, cells := 0, slots := 0, locals := 0 }) D [(cI, .int)] sz [.int sum, .int b] [] (fun (v : Int32) (_ : Unit) => v = crcB sum b) (fun _ => []) 0 0 := by
  refine ft_ei (cc := b_CW_addToCheck) (maxL := 4) (ret := (some .int)) (by decide) rfl (Nat.le_of_ble_eq_true rfl) ?_
  intro p e s m below meth c A ls hx hb hr hml hts hown hlocks hmn hP hK hD hA hS hNW hl
  have ht : ∀ w ∈ ft_big, w.before _ s = true := fun w h => hts w (List.mem_cons_of_mem _ h)
  have hP : va_P D vwCl [] s.heap := hP
  have hD : va_D A [] := hD
  have hl : lv_has ls 4 [(0, .int sum), (1, .int b)] := hl
  refine lv_iload_n hx hb d_CW_addToCheck_0 rfl (lv_at hl 0 rfl) ?_
  refine lv_iload_n hx hb d_CW_addToCheck_1 rfl (lv_at hl 1 rfl) ?_
  refine lv_ixor hx hb d_CW_addToCheck_2 ?_
  refine lv_istore_n (lv' := [(2, .int (sum ^^^ b)), (0, .int sum), (1, .int b)]) hx hb d_CW_addToCheck_3 rfl hl (by decide) rfl (fun ls hl => ?_)
  refine lv_iconst (v := nI 0) hx hb d_CW_addToCheck_4 (by decide +kernel) ?_
  refine lv_istore_n (lv' := [(3, .int (nI 0)), (2, .int (sum ^^^ b)), (0, .int sum), (1, .int b)]) hx hb d_CW_addToCheck_5 rfl hl (by decide) rfl (fun ls hl => ?_)
  have loop : ∀ (n k : Nat) (x : Int32) (ls : Array Slot), k + n = 8 → x = crcN k (sum ^^^ b) → lv_has ls 4 [(3, .int (nI k)), (2, .int x), (0, .int sum), (1, .int b)] → W p l e ({ frames := 0, cells := 0, slots := 0, locals := 0 } : Room) s m ([.int sum, .int b] : List Value).toArray below meth c s.heap [] 0 0 (MQ below (va_Qi (fun (v : Int32) (_ : Unit) => v = crcB sum b) (ft_B D vwCl [(cI, .int)] A (fun _ => [])) A) ([.int sum, .int b] : List Value).toArray s 0 0 A) (F0 m 6 ls []) := by
    intro n
    induction n with
    | zero =>
      intro k x ls hk ex hl
      refine lv_iload_n hx hb d_CW_addToCheck_6 rfl (lv_at hl 0 rfl) ?_
      refine lv_bipush (v := nI 8) hx hb d_CW_addToCheck_7 (by decide +kernel) ?_
      refine lv_icmp_ge (tgt := 37) hx hb d_CW_addToCheck_9 (by decide) (fun c9 => ?_) (fun c9 => absurd (nI_le (by omega) (by omega)) c9)
      have c9 : 8 ≤ k := (nI_leI (by omega) (by omega)).mp c9
      refine lv_iload_n hx hb d_CW_addToCheck_37 rfl (lv_at hl 1 rfl) ?_
      exact ft_reti () hx hb hr hlocks hP hK hD hS (by show _ = crcB sum b; rw [ex, show k = 8 from by omega]; rfl) d_CW_addToCheck_38
    | succ n ih =>
      intro k x ls hk ex hl
      refine lv_iload_n hx hb d_CW_addToCheck_6 rfl (lv_at hl 0 rfl) ?_
      refine lv_bipush (v := nI 8) hx hb d_CW_addToCheck_7 (by decide +kernel) ?_
      refine lv_icmp_ge (tgt := 37) hx hb d_CW_addToCheck_9 (by decide) (fun c9 => absurd c9 (nI_ge (by omega) (by omega))) (fun c9 => ?_)
      have c9 : ¬ 8 ≤ k := fun h => c9 ((nI_leI (by omega) (by omega)).mpr h)
      refine lv_iload_n hx hb d_CW_addToCheck_12 rfl (lv_at hl 1 rfl) ?_
      refine lv_iconst (v := 1) hx hb d_CW_addToCheck_13 (by decide +kernel) ?_
      refine lv_iand hx hb d_CW_addToCheck_14 ?_
      refine lv_if_eq (tgt := 27) hx hb d_CW_addToCheck_15 (by decide) (fun c15 => ?_) (fun c15 => ?_)
      · skip
        refine lv_iload_n hx hb d_CW_addToCheck_27 rfl (lv_at hl 1 rfl) ?_
        refine lv_iconst (v := 1) hx hb d_CW_addToCheck_28 (by decide +kernel) ?_
        refine lv_iushr (v := ft_ushr x (1 : Int32)) hx hb d_CW_addToCheck_29 rfl ?_
        refine lv_istore_n (lv' := [(2, .int (ft_ushr x (1 : Int32))), (3, .int (nI k)), (0, .int sum), (1, .int b)]) hx hb d_CW_addToCheck_30 rfl hl (by decide) rfl (fun ls hl => ?_)
        refine lv_iinc (v := nI (k + 1)) (lv' := [(3, .int (nI (k + 1))), (2, .int (ft_ushr x (1 : Int32))), (0, .int sum), (1, .int b)]) hx hb d_CW_addToCheck_31 hl (k := 1) rfl (nI_1 k) (by decide) rfl (fun ls hl => ?_)
        refine lv_goto (tgt := 6) hx hb d_CW_addToCheck_34 (by decide) ?_
        exact ih (k + 1) (ft_ushr x (1 : Int32)) ls (by omega) (by show _ = crc1 (crcN k (sum ^^^ b)); rw [← ex]; simp [crc1, c15]) (lv_sub hl [0, 1, 2, 3] rfl)
      · skip
        refine lv_iload_n hx hb d_CW_addToCheck_18 rfl (lv_at hl 1 rfl) ?_
        refine lv_iconst (v := 1) hx hb d_CW_addToCheck_19 (by decide +kernel) ?_
        refine lv_iushr (v := ft_ushr x (1 : Int32)) hx hb d_CW_addToCheck_20 rfl ?_
        refine lv_ldc hx hb hown (ht _ bw_250) d_CW_addToCheck_21 ?_
        refine lv_ixor hx hb d_CW_addToCheck_23 ?_
        refine lv_goto (tgt := 30) hx hb d_CW_addToCheck_24 (by decide) ?_
        refine lv_istore_n (lv' := [(2, .int ((ft_ushr x (1 : Int32)) ^^^ 33800)), (3, .int (nI k)), (0, .int sum), (1, .int b)]) hx hb d_CW_addToCheck_30 rfl hl (by decide) rfl (fun ls hl => ?_)
        refine lv_iinc (v := nI (k + 1)) (lv' := [(3, .int (nI (k + 1))), (2, .int ((ft_ushr x (1 : Int32)) ^^^ 33800)), (0, .int sum), (1, .int b)]) hx hb d_CW_addToCheck_31 hl (k := 1) rfl (nI_1 k) (by decide) rfl (fun ls hl => ?_)
        refine lv_goto (tgt := 6) hx hb d_CW_addToCheck_34 (by decide) ?_
        exact ih (k + 1) ((ft_ushr x (1 : Int32)) ^^^ 33800) ls (by omega) (by show _ = crc1 (crcN k (sum ^^^ b)); rw [← ex]; simp [crc1, c15]) (lv_sub hl [0, 1, 2, 3] rfl)
  exact loop 8 0 _ ls rfl rfl (lv_sub hl [0, 1, 2, 3] rfl)

set_option maxHeartbeats 4000000 in
set_option maxRecDepth 100000 in
theorem c_C_finishedCheck (l : Launch) (D : va_G) (cI : ClassId) (sum : Int32) (sz : Nat) : ft_Mi l y_CW_finishedCheck (.code y_CW_finishedCheck b_CW_finishedCheck 1 (some .int) :: ft_big) ({ frames := 0, cells := 0, slots := 0, locals := 0 }) D [(cI, .int)] sz [.int sum] [] (fun (v : Int32) (_ : Unit) => v = sum ^^^ 65535) (fun _ => []) 0 0 := by
  refine ft_ei (cc := b_CW_finishedCheck) (maxL := 1) (ret := (some .int)) (by decide) rfl (Nat.le_of_ble_eq_true rfl) ?_
  intro p e s m below meth c A ls hx hb hr hml hts hown hlocks hmn hP hK hD hA hS hNW hl
  have ht : ∀ w ∈ ft_big, w.before _ s = true := fun w h => hts w (List.mem_cons_of_mem _ h)
  have hP : va_P D vwCl [] s.heap := hP
  have hD : va_D A [] := hD
  have hl : lv_has ls 1 [(0, .int sum)] := hl
  refine lv_iload_n hx hb d_CW_finishedCheck_0 rfl (lv_at hl 0 rfl) ?_
  refine lv_ldc hx hb hown (ht _ bw_155) d_CW_finishedCheck_1 ?_
  refine lv_ixor hx hb d_CW_finishedCheck_3 ?_
  exact ft_reti () hx hb hr hlocks hP hK hD hS rfl d_CW_finishedCheck_4

set_option maxHeartbeats 4000000 in
set_option maxRecDepth 100000 in
theorem c_C_hold (l : Launch) (D : va_G) (cI : ClassId) (h q1 q2 q3 qt : Nat) (br bg hk es ck he ol ne : Int32) (pay : RS) (hp : pay.2.1 ≤ 400) (b : Int32) (sz : Nat) : ft_Mv l y_CW_hold (.code y_CW_hold b_CW_hold 2 none :: ft_big) ({ frames := 1, cells := 0, slots := 0, locals := 40 }) D [(cI, .int)] sz [.ref h, .int b] [(h, .inr (0, [.int 126, .int 0, .ref q1, .ref q3, .int br, .int bg, .int hk, .ref qt, .int es, .int ck, .int he, .int ol, .int ne])), (q1, .inr (3, [.ref q2, .int (nI pay.2.1), .int pay.2.2])), (q2, .inl (cI, 400, .inl pay.1))] (fun u : RS × Int32 × Int32 × Int32 × Int32 => u = hold2 pay ck he ol ne b) (fun u : RS × Int32 × Int32 × Int32 × Int32 => [(h, .inr (0, [.int 126, .int 0, .ref q1, .ref q3, .int br, .int bg, .int hk, .ref qt, .int es, .int u.2.1, .int u.2.2.1, .int u.2.2.2.1, .int u.2.2.2.2])), (q1, .inr (3, [.ref q2, .int (nI u.1.2.1), .int u.1.2.2])), (q2, .inl (cI, 400, .inl u.1.1))]) 0 0 := by
  refine ft_ev (cc := b_CW_hold) (maxL := 2) (ret := none) (by decide) rfl (Nat.le_of_ble_eq_true rfl) ?_
  intro p e s m below meth c A ls hx hb hr hml hts hown hlocks hmn hP hK hD hA hS hNW hl
  have ht : ∀ w ∈ ft_big, w.before _ s = true := fun w h => hts w (List.mem_cons_of_mem _ h)
  have hP : va_P D vwCl [(h, .inr (0, [.int 126, .int 0, .ref q1, .ref q3, .int br, .int bg, .int hk, .ref qt, .int es, .int ck, .int he, .int ol, .int ne])), (q1, .inr (3, [.ref q2, .int (nI pay.2.1), .int pay.2.2])), (q2, .inl (cI, 400, .inl pay.1))] s.heap := hP
  have hD : va_D A [(h, .inr (0, [.int 126, .int 0, .ref q1, .ref q3, .int br, .int bg, .int hk, .ref qt, .int es, .int ck, .int he, .int ol, .int ne])), (q1, .inr (3, [.ref q2, .int (nI pay.2.1), .int pay.2.2])), (q2, .inl (cI, 400, .inl pay.1))] := hD
  have hl : lv_has ls 2 [(0, .ref h), (1, .int b)] := hl
  refine lv_aload_n hx hb d_CW_hold_0 rfl (lv_at hl 0 rfl) ?_
  refine va_get (D := D) (ci := 0) (v := .int he) (C := R_CW) (T := F_CW) (N := 13) hx hb ht bi_CW hown hK hP 0 rfl rfl 10 (by decide) (ht _ bw_158) (fun _ h9 => h9) rfl d_CW_hold_1 ?_
  refine lv_iconst (v := 2) hx hb d_CW_hold_4 (by decide +kernel) ?_
  refine lv_icmp_ne (tgt := 37) hx hb d_CW_hold_5 (by decide) (fun c5 => ?_) (fun c5 => ?_)
  · skip
    refine lv_aload_n hx hb d_CW_hold_37 rfl (lv_at hl 0 rfl) ?_
    refine lv_dup hx hb d_CW_hold_38 rfl ?_
    refine va_get (D := D) (ci := 0) (v := .int he) (C := R_CW) (T := F_CW) (N := 13) hx hb ht bi_CW hown hK hP 0 rfl rfl 10 (by decide) (ht _ bw_158) (fun _ h9 => h9) rfl d_CW_hold_39 ?_
    refine lv_iconst (v := 1) hx hb d_CW_hold_42 (by decide +kernel) ?_
    refine lv_iadd hx hb d_CW_hold_43 ?_
    refine va_put (D := D) (ci := 0) (v := .int (he + 1)) (ty := .int) (C := R_CW) (T := F_CW) (N := 13) hx hb ht bi_CW t_CW t_CW_ok n_CW hown hK hP hD hS 0 rfl rfl 10 (by decide) (ht _ bw_158) (fun _ h9 => h9) rfl (by decide +kernel) rfl rfl (Nat.le_of_ble_eq_true rfl) d_CW_hold_44 (fun H locs hP hD hS => ?_)
    have hP : va_P D vwCl [(h, .inr (0, [.int 126, .int 0, .ref q1, .ref q3, .int br, .int bg, .int hk, .ref qt, .int es, .int ck, .int (he + 1), .int ol, .int ne])), (q1, .inr (3, [.ref q2, .int (nI pay.2.1), .int pay.2.2])), (q2, .inl (cI, 400, .inl pay.1))] H := hP
    have hD : va_D A [(h, .inr (0, [.int 126, .int 0, .ref q1, .ref q3, .int br, .int bg, .int hk, .ref qt, .int es, .int ck, .int (he + 1), .int ol, .int ne])), (q1, .inr (3, [.ref q2, .int (nI pay.2.1), .int pay.2.2])), (q2, .inl (cI, 400, .inl pay.1))] := hD
    refine lv_aload_n hx hb d_CW_hold_47 rfl (lv_at hl 0 rfl) ?_
    refine lv_aload_n hx hb d_CW_hold_48 rfl (lv_at hl 0 rfl) ?_
    refine va_get (D := D) (ci := 0) (v := .int ne) (C := R_CW) (T := F_CW) (N := 13) hx hb ht bi_CW hown hK hP 0 rfl rfl 12 (by decide) (ht _ bw_160) (fun _ h9 => h9) rfl d_CW_hold_49 ?_
    refine va_put (D := D) (ci := 0) (v := .int ne) (ty := .int) (C := R_CW) (T := F_CW) (N := 13) hx hb ht bi_CW t_CW t_CW_ok n_CW hown hK hP hD hS 0 rfl rfl 11 (by decide) (ht _ bw_159) (fun _ h9 => h9) rfl (by decide +kernel) rfl rfl (Nat.le_of_ble_eq_true rfl) d_CW_hold_52 (fun H locs hP hD hS => ?_)
    have hP : va_P D vwCl [(h, .inr (0, [.int 126, .int 0, .ref q1, .ref q3, .int br, .int bg, .int hk, .ref qt, .int es, .int ck, .int (he + 1), .int ne, .int ne])), (q1, .inr (3, [.ref q2, .int (nI pay.2.1), .int pay.2.2])), (q2, .inl (cI, 400, .inl pay.1))] H := hP
    have hD : va_D A [(h, .inr (0, [.int 126, .int 0, .ref q1, .ref q3, .int br, .int bg, .int hk, .ref qt, .int es, .int ck, .int (he + 1), .int ne, .int ne])), (q1, .inr (3, [.ref q2, .int (nI pay.2.1), .int pay.2.2])), (q2, .inl (cI, 400, .inl pay.1))] := hD
    refine lv_aload_n hx hb d_CW_hold_55 rfl (lv_at hl 0 rfl) ?_
    refine lv_iload_n hx hb d_CW_hold_56 rfl (lv_at hl 1 rfl) ?_
    refine va_put (D := D) (ci := 0) (v := .int b) (ty := .int) (C := R_CW) (T := F_CW) (N := 13) hx hb ht bi_CW t_CW t_CW_ok n_CW hown hK hP hD hS 0 rfl rfl 12 (by decide) (ht _ bw_160) (fun _ h9 => h9) rfl (by decide +kernel) rfl rfl (Nat.le_of_ble_eq_true rfl) d_CW_hold_57 (fun H locs hP hD hS => ?_)
    have hP : va_P D vwCl [(h, .inr (0, [.int 126, .int 0, .ref q1, .ref q3, .int br, .int bg, .int hk, .ref qt, .int es, .int ck, .int (he + 1), .int ne, .int b])), (q1, .inr (3, [.ref q2, .int (nI pay.2.1), .int pay.2.2])), (q2, .inl (cI, 400, .inl pay.1))] H := hP
    have hD : va_D A [(h, .inr (0, [.int 126, .int 0, .ref q1, .ref q3, .int br, .int bg, .int hk, .ref qt, .int es, .int ck, .int (he + 1), .int ne, .int b])), (q1, .inr (3, [.ref q2, .int (nI pay.2.1), .int pay.2.2])), (q2, .inl (cI, 400, .inl pay.1))] := hD
    exact ft_retv (pay, ck, he + 1, ne, b) hx hb hr hlocks hP hK hD hS (by simp [hold2, c5]) d_CW_hold_60
  · skip
    refine lv_aload_n hx hb d_CW_hold_8 rfl (lv_at hl 0 rfl) ?_
    refine va_get (D := D) (ci := 0) (v := .ref q1) (C := R_CW) (T := F_CW) (N := 13) hx hb ht bi_CW hown hK hP 0 rfl rfl 2 (by decide) (ht _ bw_98) (fun x9 h9 => u_same (ht _ bw_99) x9 h9) rfl d_CW_hold_9 ?_
    refine lv_aload_n hx hb d_CW_hold_12 rfl (lv_at hl 0 rfl) ?_
    refine va_get (D := D) (ci := 0) (v := .int ol) (C := R_CW) (T := F_CW) (N := 13) hx hb ht bi_CW hown hK hP 0 rfl rfl 11 (by decide) (ht _ bw_159) (fun _ h9 => h9) rfl d_CW_hold_13 ?_
    refine ft_cv (wc := [(q1, .inr (3, [.ref q2, .int (nI pay.2.1), .int pay.2.2])), (q2, .inl (cI, 400, .inl pay.1))]) (wr := [(h, .inr (0, [.int 126, .int 0, .ref q1, .ref q3, .int br, .int bg, .int hk, .ref qt, .int es, .int ck, .int he, .int ol, .int ne]))]) (va_runV (As := [.int ol]) (rest := []) ⟨hx, hb, hml, hown, ht⟩ (c_Row_put l D cI q1 q2 400 (by omega) pay hp ol s.heap.size) (ft_cwV 1 ht bw_254 bw_202 bw_203 bw_33 bw_204 (by decide) ⟨Nat.le_of_ble_eq_true rfl, Nat.le_of_ble_eq_true rfl⟩) ⟨ft_blind, va_recv hK hP (ci := 3) (q0 := 1) rfl rfl, (ft_pre hP hD hK hNW [1, 2] [0] rfl rfl (by decide) rfl _)⟩ rfl rfl hl.1 rfl (lv_room (Nat.le_of_ble_eq_true rfl)) d_CW_hold_16 ⟨Nat.le_of_ble_eq_true rfl, Nat.le_of_ble_eq_true rfl⟩) hP hD hS hA [1, 2] [0] rfl rfl (by decide) (by decide) (fun u_2 H locs hu_2 hP hD hS => ?_)
    have le_u_2 : u_2.2.1 ≤ 400 := by rw [hu_2]; exact rput_le hp
    have hP : va_P D vwCl [(h, .inr (0, [.int 126, .int 0, .ref q1, .ref q3, .int br, .int bg, .int hk, .ref qt, .int es, .int ck, .int he, .int ol, .int ne])), (q1, .inr (3, [.ref q2, .int (nI u_2.2.1), .int u_2.2.2])), (q2, .inl (cI, 400, .inl u_2.1))] H := hP
    have hD : va_D A [(h, .inr (0, [.int 126, .int 0, .ref q1, .ref q3, .int br, .int bg, .int hk, .ref qt, .int es, .int ck, .int he, .int ol, .int ne])), (q1, .inr (3, [.ref q2, .int (nI u_2.2.1), .int u_2.2.2])), (q2, .inl (cI, 400, .inl u_2.1))] := hD
    refine lv_aload_n hx hb d_CW_hold_19 rfl (lv_at hl 0 rfl) ?_
    refine lv_aload_n hx hb d_CW_hold_20 rfl (lv_at hl 0 rfl) ?_
    refine va_get (D := D) (ci := 0) (v := .int ck) (C := R_CW) (T := F_CW) (N := 13) hx hb ht bi_CW hown hK hP 0 rfl rfl 9 (by decide) (ht _ bw_157) (fun _ h9 => h9) rfl d_CW_hold_21 ?_
    refine lv_aload_n hx hb d_CW_hold_24 rfl (lv_at hl 0 rfl) ?_
    refine va_get (D := D) (ci := 0) (v := .int ol) (C := R_CW) (T := F_CW) (N := 13) hx hb ht bi_CW hown hK hP 0 rfl rfl 11 (by decide) (ht _ bw_159) (fun _ h9 => h9) rfl d_CW_hold_25 ?_
    refine ft_ci (wc := []) (wr := [(h, .inr (0, [.int 126, .int 0, .ref q1, .ref q3, .int br, .int bg, .int hk, .ref qt, .int es, .int ck, .int he, .int ol, .int ne])), (q1, .inr (3, [.ref q2, .int (nI u_2.2.1), .int u_2.2.2])), (q2, .inl (cI, 400, .inl u_2.1))]) (va_runS (As := [.int ck, .int ol]) (rest := [.ref h]) ⟨hx, hb, hml, hown, ht⟩ (c_C_addToCheck l D cI ck ol H.size) (ft_cwS 2 ht bw_247 bw_248 bw_38 bw_249 (by decide) ⟨Nat.le_of_ble_eq_true rfl, Nat.le_of_ble_eq_true rfl⟩) ⟨ft_blind, (ft_pre hP hD hK hNW [] [0] rfl rfl (by decide) rfl _)⟩ rfl rfl hl.1 rfl (lv_room (Nat.le_of_ble_eq_true rfl)) d_CW_hold_28 ⟨Nat.le_of_ble_eq_true rfl, Nat.le_of_ble_eq_true rfl⟩) hP hD hS hA [] [0, 1, 2] rfl rfl (by decide) (by decide) (fun r_3 u_4 H locs hu_4 hP hD hS => ?_)
    subst hu_4
    have hP : va_P D vwCl [(h, .inr (0, [.int 126, .int 0, .ref q1, .ref q3, .int br, .int bg, .int hk, .ref qt, .int es, .int ck, .int he, .int ol, .int ne])), (q1, .inr (3, [.ref q2, .int (nI u_2.2.1), .int u_2.2.2])), (q2, .inl (cI, 400, .inl u_2.1))] H := hP
    have hD : va_D A [(h, .inr (0, [.int 126, .int 0, .ref q1, .ref q3, .int br, .int bg, .int hk, .ref qt, .int es, .int ck, .int he, .int ol, .int ne])), (q1, .inr (3, [.ref q2, .int (nI u_2.2.1), .int u_2.2.2])), (q2, .inl (cI, 400, .inl u_2.1))] := hD
    refine va_put (D := D) (ci := 0) (v := .int (crcB ck ol)) (ty := .int) (C := R_CW) (T := F_CW) (N := 13) hx hb ht bi_CW t_CW t_CW_ok n_CW hown hK hP hD hS 0 rfl rfl 9 (by decide) (ht _ bw_157) (fun _ h9 => h9) rfl (by decide +kernel) rfl rfl (Nat.le_of_ble_eq_true rfl) d_CW_hold_31 (fun H locs hP hD hS => ?_)
    have hP : va_P D vwCl [(h, .inr (0, [.int 126, .int 0, .ref q1, .ref q3, .int br, .int bg, .int hk, .ref qt, .int es, .int (crcB ck ol), .int he, .int ol, .int ne])), (q1, .inr (3, [.ref q2, .int (nI u_2.2.1), .int u_2.2.2])), (q2, .inl (cI, 400, .inl u_2.1))] H := hP
    have hD : va_D A [(h, .inr (0, [.int 126, .int 0, .ref q1, .ref q3, .int br, .int bg, .int hk, .ref qt, .int es, .int (crcB ck ol), .int he, .int ol, .int ne])), (q1, .inr (3, [.ref q2, .int (nI u_2.2.1), .int u_2.2.2])), (q2, .inl (cI, 400, .inl u_2.1))] := hD
    refine lv_goto (tgt := 47) hx hb d_CW_hold_34 (by decide) ?_
    refine lv_aload_n hx hb d_CW_hold_47 rfl (lv_at hl 0 rfl) ?_
    refine lv_aload_n hx hb d_CW_hold_48 rfl (lv_at hl 0 rfl) ?_
    refine va_get (D := D) (ci := 0) (v := .int ne) (C := R_CW) (T := F_CW) (N := 13) hx hb ht bi_CW hown hK hP 0 rfl rfl 12 (by decide) (ht _ bw_160) (fun _ h9 => h9) rfl d_CW_hold_49 ?_
    refine va_put (D := D) (ci := 0) (v := .int ne) (ty := .int) (C := R_CW) (T := F_CW) (N := 13) hx hb ht bi_CW t_CW t_CW_ok n_CW hown hK hP hD hS 0 rfl rfl 11 (by decide) (ht _ bw_159) (fun _ h9 => h9) rfl (by decide +kernel) rfl rfl (Nat.le_of_ble_eq_true rfl) d_CW_hold_52 (fun H locs hP hD hS => ?_)
    have hP : va_P D vwCl [(h, .inr (0, [.int 126, .int 0, .ref q1, .ref q3, .int br, .int bg, .int hk, .ref qt, .int es, .int (crcB ck ol), .int he, .int ne, .int ne])), (q1, .inr (3, [.ref q2, .int (nI u_2.2.1), .int u_2.2.2])), (q2, .inl (cI, 400, .inl u_2.1))] H := hP
    have hD : va_D A [(h, .inr (0, [.int 126, .int 0, .ref q1, .ref q3, .int br, .int bg, .int hk, .ref qt, .int es, .int (crcB ck ol), .int he, .int ne, .int ne])), (q1, .inr (3, [.ref q2, .int (nI u_2.2.1), .int u_2.2.2])), (q2, .inl (cI, 400, .inl u_2.1))] := hD
    refine lv_aload_n hx hb d_CW_hold_55 rfl (lv_at hl 0 rfl) ?_
    refine lv_iload_n hx hb d_CW_hold_56 rfl (lv_at hl 1 rfl) ?_
    refine va_put (D := D) (ci := 0) (v := .int b) (ty := .int) (C := R_CW) (T := F_CW) (N := 13) hx hb ht bi_CW t_CW t_CW_ok n_CW hown hK hP hD hS 0 rfl rfl 12 (by decide) (ht _ bw_160) (fun _ h9 => h9) rfl (by decide +kernel) rfl rfl (Nat.le_of_ble_eq_true rfl) d_CW_hold_57 (fun H locs hP hD hS => ?_)
    have hP : va_P D vwCl [(h, .inr (0, [.int 126, .int 0, .ref q1, .ref q3, .int br, .int bg, .int hk, .ref qt, .int es, .int (crcB ck ol), .int he, .int ne, .int b])), (q1, .inr (3, [.ref q2, .int (nI u_2.2.1), .int u_2.2.2])), (q2, .inl (cI, 400, .inl u_2.1))] H := hP
    have hD : va_D A [(h, .inr (0, [.int 126, .int 0, .ref q1, .ref q3, .int br, .int bg, .int hk, .ref qt, .int es, .int (crcB ck ol), .int he, .int ne, .int b])), (q1, .inr (3, [.ref q2, .int (nI u_2.2.1), .int u_2.2.2])), (q2, .inl (cI, 400, .inl u_2.1))] := hD
    exact ft_retv (u_2, crcB ck ol, he, ne, b) hx hb hr hlocks hP hK hD hS (by simp [hold2, c5, hu_2]) d_CW_hold_60

set_option maxHeartbeats 4000000 in
set_option maxRecDepth 100000 in
theorem c_C_decode (l : Launch) (D : va_G) (cI : ClassId) (h q1 q2 q3 qt : Nat) (br bg hk es ck he ol ne : Int32) (pay : RS) (hp : pay.2.1 ≤ 400) (b : Int32) (sz : Nat) : ft_Mv l y_CW_decode (.code y_CW_decode b_CW_decode 2 none :: ft_big) ({ frames := 2, cells := 0, slots := 0, locals := 80 }) D [(cI, .int)] sz [.ref h, .int b] [(h, .inr (0, [.int 126, .int 0, .ref q1, .ref q3, .int br, .int bg, .int hk, .ref qt, .int es, .int ck, .int he, .int ol, .int ne])), (q1, .inr (3, [.ref q2, .int (nI pay.2.1), .int pay.2.2])), (q2, .inl (cI, 400, .inl pay.1))] (fun u : RS × Int32 × Int32 × Int32 × Int32 × Int32 × Int32 => u = dec2 pay br es ck he ol ne b) (fun u : RS × Int32 × Int32 × Int32 × Int32 × Int32 × Int32 => [(h, .inr (0, [.int 126, .int 0, .ref q1, .ref q3, .int u.2.1, .int bg, .int hk, .ref qt, .int u.2.2.1, .int u.2.2.2.1, .int u.2.2.2.2.1, .int u.2.2.2.2.2.1, .int u.2.2.2.2.2.2])), (q1, .inr (3, [.ref q2, .int (nI u.1.2.1), .int u.1.2.2])), (q2, .inl (cI, 400, .inl u.1.1))]) 0 0 := by
  refine ft_ev (cc := b_CW_decode) (maxL := 2) (ret := none) (by decide) rfl (Nat.le_of_ble_eq_true rfl) ?_
  intro p e s m below meth c A ls hx hb hr hml hts hown hlocks hmn hP hK hD hA hS hNW hl
  have ht : ∀ w ∈ ft_big, w.before _ s = true := fun w h => hts w (List.mem_cons_of_mem _ h)
  have hP : va_P D vwCl [(h, .inr (0, [.int 126, .int 0, .ref q1, .ref q3, .int br, .int bg, .int hk, .ref qt, .int es, .int ck, .int he, .int ol, .int ne])), (q1, .inr (3, [.ref q2, .int (nI pay.2.1), .int pay.2.2])), (q2, .inl (cI, 400, .inl pay.1))] s.heap := hP
  have hD : va_D A [(h, .inr (0, [.int 126, .int 0, .ref q1, .ref q3, .int br, .int bg, .int hk, .ref qt, .int es, .int ck, .int he, .int ol, .int ne])), (q1, .inr (3, [.ref q2, .int (nI pay.2.1), .int pay.2.2])), (q2, .inl (cI, 400, .inl pay.1))] := hD
  have hl : lv_has ls 2 [(0, .ref h), (1, .int b)] := hl
  refine lv_aload_n hx hb d_CW_decode_0 rfl (lv_at hl 0 rfl) ?_
  refine va_get (D := D) (ci := 0) (v := .int es) (C := R_CW) (T := F_CW) (N := 13) hx hb ht bi_CW hown hK hP 0 rfl rfl 8 (by decide) (ht _ bw_156) (fun _ h9 => h9) rfl d_CW_decode_1 ?_
  refine lv_if_eq (tgt := 37) hx hb d_CW_decode_4 (by decide) (fun c4 => ?_) (fun c4 => ?_)
  · skip
    refine lv_iload_n hx hb d_CW_decode_37 rfl (lv_at hl 1 rfl) ?_
    refine lv_bipush (v := 125) hx hb d_CW_decode_38 (by decide +kernel) ?_
    refine lv_icmp_ne (tgt := 51) hx hb d_CW_decode_40 (by decide) (fun c40 => ?_) (fun c40 => ?_)
    · skip
      refine lv_aload_n hx hb d_CW_decode_51 rfl (lv_at hl 0 rfl) ?_
      refine lv_iload_n hx hb d_CW_decode_52 rfl (lv_at hl 1 rfl) ?_
      refine ft_cv (wc := [(h, .inr (0, [.int 126, .int 0, .ref q1, .ref q3, .int br, .int bg, .int hk, .ref qt, .int es, .int ck, .int he, .int ol, .int ne])), (q1, .inr (3, [.ref q2, .int (nI pay.2.1), .int pay.2.2])), (q2, .inl (cI, 400, .inl pay.1))]) (wr := []) (va_runV (As := [.int b]) (rest := []) ⟨hx, hb, hml, hown, ht⟩ (c_C_hold l D cI h q1 q2 q3 qt br bg hk es ck he ol ne pay hp b s.heap.size) (ft_cwV 1 ht bw_345 bw_347 bw_14 bw_38 bw_348 (by decide) ⟨Nat.le_of_ble_eq_true rfl, Nat.le_of_ble_eq_true rfl⟩) ⟨ft_blind, va_recv hK hP (ci := 0) (q0 := 0) rfl rfl, (ft_pre hP hD hK hNW [0, 1, 2] [0] rfl rfl (by decide) rfl _)⟩ rfl rfl hl.1 rfl (lv_room (Nat.le_of_ble_eq_true rfl)) d_CW_decode_53 ⟨Nat.le_of_ble_eq_true rfl, Nat.le_of_ble_eq_true rfl⟩) hP hD hS hA [0, 1, 2] [] rfl rfl (by decide) (by decide) (fun u_2 H locs hu_2 hP hD hS => ?_)
      obtain ⟨pay1, ck1, he1, ol1, ne1⟩ := u_2
      have hP : va_P D vwCl [(h, .inr (0, [.int 126, .int 0, .ref q1, .ref q3, .int br, .int bg, .int hk, .ref qt, .int es, .int ck1, .int he1, .int ol1, .int ne1])), (q1, .inr (3, [.ref q2, .int (nI pay1.2.1), .int pay1.2.2])), (q2, .inl (cI, 400, .inl pay1.1))] H := hP
      have hD : va_D A [(h, .inr (0, [.int 126, .int 0, .ref q1, .ref q3, .int br, .int bg, .int hk, .ref qt, .int es, .int ck1, .int he1, .int ol1, .int ne1])), (q1, .inr (3, [.ref q2, .int (nI pay1.2.1), .int pay1.2.2])), (q2, .inl (cI, 400, .inl pay1.1))] := hD
      exact ft_retv (pay1, br, es, ck1, he1, ol1, ne1) hx hb hr hlocks hP hK hD hS (by simp only [dec2, c4, c40, if_true, if_false, ↓reduceIte, ← hu_2]) d_CW_decode_56
    · skip
      refine lv_aload_n hx hb d_CW_decode_43 rfl (lv_at hl 0 rfl) ?_
      refine lv_iconst (v := 1) hx hb d_CW_decode_44 (by decide +kernel) ?_
      refine va_put (D := D) (ci := 0) (v := .int 1) (ty := .boolean) (C := R_CW) (T := F_CW) (N := 13) hx hb ht bi_CW t_CW t_CW_ok n_CW hown hK hP hD hS 0 rfl rfl 8 (by decide) (ht _ bw_156) (fun _ h9 => h9) rfl (by decide +kernel) rfl rfl (Nat.le_of_ble_eq_true rfl) d_CW_decode_45 (fun H locs hP hD hS => ?_)
      have hP : va_P D vwCl [(h, .inr (0, [.int 126, .int 0, .ref q1, .ref q3, .int br, .int bg, .int hk, .ref qt, .int 1, .int ck, .int he, .int ol, .int ne])), (q1, .inr (3, [.ref q2, .int (nI pay.2.1), .int pay.2.2])), (q2, .inl (cI, 400, .inl pay.1))] H := hP
      have hD : va_D A [(h, .inr (0, [.int 126, .int 0, .ref q1, .ref q3, .int br, .int bg, .int hk, .ref qt, .int 1, .int ck, .int he, .int ol, .int ne])), (q1, .inr (3, [.ref q2, .int (nI pay.2.1), .int pay.2.2])), (q2, .inl (cI, 400, .inl pay.1))] := hD
      refine lv_goto (tgt := 56) hx hb d_CW_decode_48 (by decide) ?_
      exact ft_retv (pay, br, 1, ck, he, ol, ne) hx hb hr hlocks hP hK hD hS (by simp [dec2, c4, c40]) d_CW_decode_56
  · skip
    refine lv_aload_n hx hb d_CW_decode_7 rfl (lv_at hl 0 rfl) ?_
    refine lv_iconst (v := 0) hx hb d_CW_decode_8 (by decide +kernel) ?_
    refine va_put (D := D) (ci := 0) (v := .int 0) (ty := .boolean) (C := R_CW) (T := F_CW) (N := 13) hx hb ht bi_CW t_CW t_CW_ok n_CW hown hK hP hD hS 0 rfl rfl 8 (by decide) (ht _ bw_156) (fun _ h9 => h9) rfl (by decide +kernel) rfl rfl (Nat.le_of_ble_eq_true rfl) d_CW_decode_9 (fun H locs hP hD hS => ?_)
    have hP : va_P D vwCl [(h, .inr (0, [.int 126, .int 0, .ref q1, .ref q3, .int br, .int bg, .int hk, .ref qt, .int 0, .int ck, .int he, .int ol, .int ne])), (q1, .inr (3, [.ref q2, .int (nI pay.2.1), .int pay.2.2])), (q2, .inl (cI, 400, .inl pay.1))] H := hP
    have hD : va_D A [(h, .inr (0, [.int 126, .int 0, .ref q1, .ref q3, .int br, .int bg, .int hk, .ref qt, .int 0, .int ck, .int he, .int ol, .int ne])), (q1, .inr (3, [.ref q2, .int (nI pay.2.1), .int pay.2.2])), (q2, .inl (cI, 400, .inl pay.1))] := hD
    refine lv_iload_n hx hb d_CW_decode_12 rfl (lv_at hl 1 rfl) ?_
    refine lv_bipush (v := 125) hx hb d_CW_decode_13 (by decide +kernel) ?_
    refine lv_icmp_ne (tgt := 26) hx hb d_CW_decode_15 (by decide) (fun c15 => ?_) (fun c15 => ?_)
    · skip
      refine lv_aload_n hx hb d_CW_decode_26 rfl (lv_at hl 0 rfl) ?_
      refine lv_iload_n hx hb d_CW_decode_27 rfl (lv_at hl 1 rfl) ?_
      refine lv_bipush (v := 32) hx hb d_CW_decode_28 (by decide +kernel) ?_
      refine lv_ixor hx hb d_CW_decode_30 ?_
      refine ft_cv (wc := [(h, .inr (0, [.int 126, .int 0, .ref q1, .ref q3, .int br, .int bg, .int hk, .ref qt, .int 0, .int ck, .int he, .int ol, .int ne])), (q1, .inr (3, [.ref q2, .int (nI pay.2.1), .int pay.2.2])), (q2, .inl (cI, 400, .inl pay.1))]) (wr := []) (va_runV (As := [.int (b ^^^ 32)]) (rest := []) ⟨hx, hb, hml, hown, ht⟩ (c_C_hold l D cI h q1 q2 q3 qt br bg hk 0 ck he ol ne pay hp (b ^^^ 32) H.size) (ft_cwV 1 ht bw_345 bw_347 bw_14 bw_38 bw_348 (by decide) ⟨Nat.le_of_ble_eq_true rfl, Nat.le_of_ble_eq_true rfl⟩) ⟨ft_blind, va_recv hK hP (ci := 0) (q0 := 0) rfl rfl, (ft_pre hP hD hK hNW [0, 1, 2] [0] rfl rfl (by decide) rfl _)⟩ rfl rfl hl.1 rfl (lv_room (Nat.le_of_ble_eq_true rfl)) d_CW_decode_31 ⟨Nat.le_of_ble_eq_true rfl, Nat.le_of_ble_eq_true rfl⟩) hP hD hS hA [0, 1, 2] [] rfl rfl (by decide) (by decide) (fun u_4 H locs hu_4 hP hD hS => ?_)
      obtain ⟨pay1, ck1, he1, ol1, ne1⟩ := u_4
      have hP : va_P D vwCl [(h, .inr (0, [.int 126, .int 0, .ref q1, .ref q3, .int br, .int bg, .int hk, .ref qt, .int 0, .int ck1, .int he1, .int ol1, .int ne1])), (q1, .inr (3, [.ref q2, .int (nI pay1.2.1), .int pay1.2.2])), (q2, .inl (cI, 400, .inl pay1.1))] H := hP
      have hD : va_D A [(h, .inr (0, [.int 126, .int 0, .ref q1, .ref q3, .int br, .int bg, .int hk, .ref qt, .int 0, .int ck1, .int he1, .int ol1, .int ne1])), (q1, .inr (3, [.ref q2, .int (nI pay1.2.1), .int pay1.2.2])), (q2, .inl (cI, 400, .inl pay1.1))] := hD
      refine lv_goto (tgt := 56) hx hb d_CW_decode_34 (by decide) ?_
      exact ft_retv (pay1, br, 0, ck1, he1, ol1, ne1) hx hb hr hlocks hP hK hD hS (by simp only [dec2, c4, c15, if_true, if_false, ↓reduceIte, ← hu_4]) d_CW_decode_56
    · skip
      refine lv_aload_n hx hb d_CW_decode_18 rfl (lv_at hl 0 rfl) ?_
      refine lv_iconst (v := 1) hx hb d_CW_decode_19 (by decide +kernel) ?_
      refine va_put (D := D) (ci := 0) (v := .int 1) (ty := .boolean) (C := R_CW) (T := F_CW) (N := 13) hx hb ht bi_CW t_CW t_CW_ok n_CW hown hK hP hD hS 0 rfl rfl 4 (by decide) (ht _ bw_105) (fun x9 h9 => u_same (ht _ bw_106) x9 h9) rfl (by decide +kernel) rfl rfl (Nat.le_of_ble_eq_true rfl) d_CW_decode_20 (fun H locs hP hD hS => ?_)
      have hP : va_P D vwCl [(h, .inr (0, [.int 126, .int 0, .ref q1, .ref q3, .int 1, .int bg, .int hk, .ref qt, .int 0, .int ck, .int he, .int ol, .int ne])), (q1, .inr (3, [.ref q2, .int (nI pay.2.1), .int pay.2.2])), (q2, .inl (cI, 400, .inl pay.1))] H := hP
      have hD : va_D A [(h, .inr (0, [.int 126, .int 0, .ref q1, .ref q3, .int 1, .int bg, .int hk, .ref qt, .int 0, .int ck, .int he, .int ol, .int ne])), (q1, .inr (3, [.ref q2, .int (nI pay.2.1), .int pay.2.2])), (q2, .inl (cI, 400, .inl pay.1))] := hD
      refine lv_goto (tgt := 56) hx hb d_CW_decode_23 (by decide) ?_
      exact ft_retv (pay, 1, 0, ck, he, ol, ne) hx hb hr hlocks hP hK hD hS (by simp [dec2, c4, c15]) d_CW_decode_56

set_option maxHeartbeats 4000000 in
set_option maxRecDepth 100000 in
theorem c_C_isWhole (l : Launch) (D : va_G) (cI : ClassId) (h q1 q2 q3 qt : Nat) (br bg hk es ck he ol ne : Int32) (pay : RS) (hp : pay.2.1 ≤ 400) (sz : Nat) : ft_Mi l y_CW_isWhole (.code y_CW_isWhole b_CW_isWhole 1 (some .boolean) :: ft_big) ({ frames := 1, cells := 0, slots := 0, locals := 40 }) D [(cI, .int)] sz [.ref h] [(h, .inr (0, [.int 126, .int 0, .ref q1, .ref q3, .int br, .int bg, .int hk, .ref qt, .int es, .int ck, .int he, .int ol, .int ne])), (q1, .inr (3, [.ref q2, .int (nI pay.2.1), .int pay.2.2])), (q2, .inl (cI, 400, .inl pay.1))] (fun (v : Int32) (_ : Unit) => v = whole2 pay es ck ol ne) (fun _ => [(h, .inr (0, [.int 126, .int 0, .ref q1, .ref q3, .int br, .int bg, .int hk, .ref qt, .int es, .int ck, .int he, .int ol, .int ne])), (q1, .inr (3, [.ref q2, .int (nI pay.2.1), .int pay.2.2])), (q2, .inl (cI, 400, .inl pay.1))]) 0 0 := by
  refine ft_ei (cc := b_CW_isWhole) (maxL := 1) (ret := (some .boolean)) (by decide) rfl (Nat.le_of_ble_eq_true rfl) ?_
  intro p e s m below meth c A ls hx hb hr hml hts hown hlocks hmn hP hK hD hA hS hNW hl
  have ht : ∀ w ∈ ft_big, w.before _ s = true := fun w h => hts w (List.mem_cons_of_mem _ h)
  have hP : va_P D vwCl [(h, .inr (0, [.int 126, .int 0, .ref q1, .ref q3, .int br, .int bg, .int hk, .ref qt, .int es, .int ck, .int he, .int ol, .int ne])), (q1, .inr (3, [.ref q2, .int (nI pay.2.1), .int pay.2.2])), (q2, .inl (cI, 400, .inl pay.1))] s.heap := hP
  have hD : va_D A [(h, .inr (0, [.int 126, .int 0, .ref q1, .ref q3, .int br, .int bg, .int hk, .ref qt, .int es, .int ck, .int he, .int ol, .int ne])), (q1, .inr (3, [.ref q2, .int (nI pay.2.1), .int pay.2.2])), (q2, .inl (cI, 400, .inl pay.1))] := hD
  have hl : lv_has ls 1 [(0, .ref h)] := hl
  refine lv_aload_n hx hb d_CW_isWhole_0 rfl (lv_at hl 0 rfl) ?_
  refine va_get (D := D) (ci := 0) (v := .int es) (C := R_CW) (T := F_CW) (N := 13) hx hb ht bi_CW hown hK hP 0 rfl rfl 8 (by decide) (ht _ bw_156) (fun _ h9 => h9) rfl d_CW_isWhole_1 ?_
  refine lv_if_ne (tgt := 43) hx hb d_CW_isWhole_4 (by decide) (fun c4 => ?_) (fun c4 => ?_)
  · skip
    refine lv_iconst (v := 0) hx hb d_CW_isWhole_43 (by decide +kernel) ?_
    exact ft_retz () hx hb hr (by decide) hlocks hP hK hD hS (by show (0 : Int32) = whole2 pay es ck ol ne; simp [whole2, c4]) d_CW_isWhole_44
  · skip
    refine lv_aload_n hx hb d_CW_isWhole_7 rfl (lv_at hl 0 rfl) ?_
    refine va_get (D := D) (ci := 0) (v := .ref q1) (C := R_CW) (T := F_CW) (N := 13) hx hb ht bi_CW hown hK hP 0 rfl rfl 2 (by decide) (ht _ bw_98) (fun x9 h9 => u_same (ht _ bw_99) x9 h9) rfl d_CW_isWhole_8 ?_
    refine va_getN (D := D) (ci := 3) (v := .int (nI pay.2.1)) (C := R_Row) (T := F_Row) (N := 3) hx hb ht bi_Row hown hK hP 1 rfl rfl 1 (by decide) (va_Nw.use rfl (hNW _ bn_59)) (fun _ h9 => h9) rfl d_CW_isWhole_11 ?_
    refine lv_if_le (tgt := 43) hx hb d_CW_isWhole_14 (by decide) (fun c14 => ?_) (fun c14 => ?_)
    · skip
      have c14 : pay.2.1 ≤ 0 := (nI_leI (b := 0) (by omega) (by omega)).mp c14
      have z14 : pay.2.1 = 0 := by omega
      refine lv_iconst (v := 0) hx hb d_CW_isWhole_43 (by decide +kernel) ?_
      exact ft_retz () hx hb hr (by decide) hlocks hP hK hD hS (by show (0 : Int32) = whole2 pay es ck ol ne; simp [whole2, c4, c14, z14]) d_CW_isWhole_44
    · skip
      have c14 : ¬ pay.2.1 ≤ 0 := fun h => c14 ((nI_leI (b := 0) (by omega) (by omega)).mpr h)
      have z14 : ¬ pay.2.1 = 0 := by omega
      refine lv_aload_n hx hb d_CW_isWhole_17 rfl (lv_at hl 0 rfl) ?_
      refine va_get (D := D) (ci := 0) (v := .int ck) (C := R_CW) (T := F_CW) (N := 13) hx hb ht bi_CW hown hK hP 0 rfl rfl 9 (by decide) (ht _ bw_157) (fun _ h9 => h9) rfl d_CW_isWhole_18 ?_
      refine ft_ci (wc := []) (wr := [(h, .inr (0, [.int 126, .int 0, .ref q1, .ref q3, .int br, .int bg, .int hk, .ref qt, .int es, .int ck, .int he, .int ol, .int ne])), (q1, .inr (3, [.ref q2, .int (nI pay.2.1), .int pay.2.2])), (q2, .inl (cI, 400, .inl pay.1))]) (va_runS (As := [.int ck]) (rest := []) ⟨hx, hb, hml, hown, ht⟩ (c_C_finishedCheck l D cI ck s.heap.size) (ft_cwS 1 ht bw_255 bw_256 bw_38 bw_257 (by decide) ⟨Nat.le_of_ble_eq_true rfl, Nat.le_of_ble_eq_true rfl⟩) ⟨ft_blind, (ft_pre hP hD hK hNW [] [0] rfl rfl (by decide) rfl _)⟩ rfl rfl hl.1 rfl (lv_room (Nat.le_of_ble_eq_true rfl)) d_CW_isWhole_21 ⟨Nat.le_of_ble_eq_true rfl, Nat.le_of_ble_eq_true rfl⟩) hP hD hS hA [] [0, 1, 2] rfl rfl (by decide) (by decide) (fun r_1 u_2 H locs hu_2 hP hD hS => ?_)
      subst hu_2
      have hP : va_P D vwCl [(h, .inr (0, [.int 126, .int 0, .ref q1, .ref q3, .int br, .int bg, .int hk, .ref qt, .int es, .int ck, .int he, .int ol, .int ne])), (q1, .inr (3, [.ref q2, .int (nI pay.2.1), .int pay.2.2])), (q2, .inl (cI, 400, .inl pay.1))] H := hP
      have hD : va_D A [(h, .inr (0, [.int 126, .int 0, .ref q1, .ref q3, .int br, .int bg, .int hk, .ref qt, .int es, .int ck, .int he, .int ol, .int ne])), (q1, .inr (3, [.ref q2, .int (nI pay.2.1), .int pay.2.2])), (q2, .inl (cI, 400, .inl pay.1))] := hD
      refine lv_aload_n hx hb d_CW_isWhole_24 rfl (lv_at hl 0 rfl) ?_
      refine va_get (D := D) (ci := 0) (v := .int ol) (C := R_CW) (T := F_CW) (N := 13) hx hb ht bi_CW hown hK hP 0 rfl rfl 11 (by decide) (ht _ bw_159) (fun _ h9 => h9) rfl d_CW_isWhole_25 ?_
      refine lv_aload_n hx hb d_CW_isWhole_28 rfl (lv_at hl 0 rfl) ?_
      refine va_get (D := D) (ci := 0) (v := .int ne) (C := R_CW) (T := F_CW) (N := 13) hx hb ht bi_CW hown hK hP 0 rfl rfl 12 (by decide) (ht _ bw_160) (fun _ h9 => h9) rfl d_CW_isWhole_29 ?_
      refine lv_bipush (v := 8) hx hb d_CW_isWhole_32 (by decide +kernel) ?_
      refine lv_ishl hx hb d_CW_isWhole_34 ?_
      refine lv_ior hx hb d_CW_isWhole_35 ?_
      refine lv_icmp_ne (tgt := 43) hx hb d_CW_isWhole_36 (by decide) (fun c36 => ?_) (fun c36 => ?_)
      · skip
        refine lv_iconst (v := 0) hx hb d_CW_isWhole_43 (by decide +kernel) ?_
        exact ft_retz () hx hb hr (by decide) hlocks hP hK hD hS (by show (0 : Int32) = whole2 pay es ck ol ne; simp [whole2, c4, c14, z14, c36]) d_CW_isWhole_44
      · skip
        refine lv_iconst (v := 1) hx hb d_CW_isWhole_39 (by decide +kernel) ?_
        refine lv_goto (tgt := 44) hx hb d_CW_isWhole_40 (by decide) ?_
        exact ft_retz () hx hb hr (by decide) hlocks hP hK hD hS (by show (1 : Int32) = whole2 pay es ck ol ne; simp [whole2, c4, c14, z14, c36]) d_CW_isWhole_44
