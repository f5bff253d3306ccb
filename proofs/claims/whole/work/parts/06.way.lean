set_option maxHeartbeats 4000000 in
set_option maxRecDepth 100000 in
theorem c_G_beginGroup (l : Launch) (D : va_G) (cI : ClassId) (h q1 q2 q3 qt : Nat) (br bg hk hd mi : Int32) (pay : RS) (hp : pay.2.1 ≤ 400) (b : Int32) (sz : Nat) : ft_Mv l y_GW_beginGroup (.code y_GW_beginGroup b_GW_beginGroup 2 none :: ft_big) ({ frames := 1, cells := 0, slots := 0, locals := 40 }) D [(cI, .int)] sz [.ref h, .int b] [(h, .inr (2, [.int 0, .int 1, .ref q1, .ref q3, .int br, .int bg, .int hk, .ref qt, .int hd, .int mi])), (q1, .inr (3, [.ref q2, .int (nI pay.2.1), .int pay.2.2])), (q2, .inl (cI, 400, .inl pay.1))] (fun u : RS × Int32 × Int32 => u = (beg0 pay hd b, b, b - 1)) (fun u : RS × Int32 × Int32 => [(h, .inr (2, [.int 0, .int 1, .ref q1, .ref q3, .int br, .int bg, .int hk, .ref qt, .int u.2.1, .int u.2.2])), (q1, .inr (3, [.ref q2, .int (nI u.1.2.1), .int u.1.2.2])), (q2, .inl (cI, 400, .inl u.1.1))]) 0 0 := by
  refine ft_ev (cc := b_GW_beginGroup) (maxL := 2) (ret := none) (by decide) rfl (Nat.le_of_ble_eq_true rfl) ?_
  intro p e s m below meth c A ls hx hb hr hml hts hown hlocks hmn hP hK hD hA hS hNW hl
  have ht : ∀ w ∈ ft_big, w.before _ s = true := fun w h => hts w (List.mem_cons_of_mem _ h)
  have hP : va_P D vwCl [(h, .inr (2, [.int 0, .int 1, .ref q1, .ref q3, .int br, .int bg, .int hk, .ref qt, .int hd, .int mi])), (q1, .inr (3, [.ref q2, .int (nI pay.2.1), .int pay.2.2])), (q2, .inl (cI, 400, .inl pay.1))] s.heap := hP
  have hD : va_D A [(h, .inr (2, [.int 0, .int 1, .ref q1, .ref q3, .int br, .int bg, .int hk, .ref qt, .int hd, .int mi])), (q1, .inr (3, [.ref q2, .int (nI pay.2.1), .int pay.2.2])), (q2, .inl (cI, 400, .inl pay.1))] := hD
  have hl : lv_has ls 2 [(0, .ref h), (1, .int b)] := hl
  refine lv_aload_n hx hb d_GW_beginGroup_0 rfl (lv_at hl 0 rfl) ?_
  refine va_get (D := D) (ci := 2) (v := .int hd) (C := R_GW) (T := F_GW) (N := 10) hx hb ht bi_GW hown hK hP 0 rfl rfl 8 (by decide) (ht _ bw_88) (fun _ h9 => h9) rfl d_GW_beginGroup_1 ?_
  refine lv_if_eq (tgt := 25) hx hb d_GW_beginGroup_4 (by decide) (fun c4 => ?_) (fun c4 => ?_)
  · skip
    refine lv_aload_n hx hb d_GW_beginGroup_25 rfl (lv_at hl 0 rfl) ?_
    refine lv_iload_n hx hb d_GW_beginGroup_26 rfl (lv_at hl 1 rfl) ?_
    refine va_put (D := D) (ci := 2) (v := .int b) (ty := .int) (C := R_GW) (T := F_GW) (N := 10) hx hb ht bi_GW t_GW t_GW_ok n_GW hown hK hP hD hS 0 rfl rfl 8 (by decide) (ht _ bw_88) (fun _ h9 => h9) rfl (by decide +kernel) rfl rfl (Nat.le_of_ble_eq_true rfl) d_GW_beginGroup_27 (fun H locs hP hD hS => ?_)
    have hP : va_P D vwCl [(h, .inr (2, [.int 0, .int 1, .ref q1, .ref q3, .int br, .int bg, .int hk, .ref qt, .int b, .int mi])), (q1, .inr (3, [.ref q2, .int (nI pay.2.1), .int pay.2.2])), (q2, .inl (cI, 400, .inl pay.1))] H := hP
    have hD : va_D A [(h, .inr (2, [.int 0, .int 1, .ref q1, .ref q3, .int br, .int bg, .int hk, .ref qt, .int b, .int mi])), (q1, .inr (3, [.ref q2, .int (nI pay.2.1), .int pay.2.2])), (q2, .inl (cI, 400, .inl pay.1))] := hD
    refine lv_aload_n hx hb d_GW_beginGroup_30 rfl (lv_at hl 0 rfl) ?_
    refine lv_iload_n hx hb d_GW_beginGroup_31 rfl (lv_at hl 1 rfl) ?_
    refine lv_iconst (v := 1) hx hb d_GW_beginGroup_32 (by decide +kernel) ?_
    refine lv_isub hx hb d_GW_beginGroup_33 ?_
    refine va_put (D := D) (ci := 2) (v := .int (b - 1)) (ty := .int) (C := R_GW) (T := F_GW) (N := 10) hx hb ht bi_GW t_GW t_GW_ok n_GW hown hK hP hD hS 0 rfl rfl 9 (by decide) (ht _ bw_89) (fun _ h9 => h9) rfl (by decide +kernel) rfl rfl (Nat.le_of_ble_eq_true rfl) d_GW_beginGroup_34 (fun H locs hP hD hS => ?_)
    have hP : va_P D vwCl [(h, .inr (2, [.int 0, .int 1, .ref q1, .ref q3, .int br, .int bg, .int hk, .ref qt, .int b, .int (b - 1)])), (q1, .inr (3, [.ref q2, .int (nI pay.2.1), .int pay.2.2])), (q2, .inl (cI, 400, .inl pay.1))] H := hP
    have hD : va_D A [(h, .inr (2, [.int 0, .int 1, .ref q1, .ref q3, .int br, .int bg, .int hk, .ref qt, .int b, .int (b - 1)])), (q1, .inr (3, [.ref q2, .int (nI pay.2.1), .int pay.2.2])), (q2, .inl (cI, 400, .inl pay.1))] := hD
    exact ft_retv (pay, b, b - 1) hx hb hr hlocks hP hK hD hS (by simp [beg0, c4]) d_GW_beginGroup_37
  · skip
    refine lv_aload_n hx hb d_GW_beginGroup_7 rfl (lv_at hl 0 rfl) ?_
    refine va_get (D := D) (ci := 2) (v := .int hd) (C := R_GW) (T := F_GW) (N := 10) hx hb ht bi_GW hown hK hP 0 rfl rfl 8 (by decide) (ht _ bw_88) (fun _ h9 => h9) rfl d_GW_beginGroup_8 ?_
    refine lv_sipush (v := 255) hx hb d_GW_beginGroup_11 (by decide +kernel) ?_
    refine lv_icmp_eq (tgt := 25) hx hb d_GW_beginGroup_14 (by decide) (fun c14 => ?_) (fun c14 => ?_)
    · skip
      refine lv_aload_n hx hb d_GW_beginGroup_25 rfl (lv_at hl 0 rfl) ?_
      refine lv_iload_n hx hb d_GW_beginGroup_26 rfl (lv_at hl 1 rfl) ?_
      refine va_put (D := D) (ci := 2) (v := .int b) (ty := .int) (C := R_GW) (T := F_GW) (N := 10) hx hb ht bi_GW t_GW t_GW_ok n_GW hown hK hP hD hS 0 rfl rfl 8 (by decide) (ht _ bw_88) (fun _ h9 => h9) rfl (by decide +kernel) rfl rfl (Nat.le_of_ble_eq_true rfl) d_GW_beginGroup_27 (fun H locs hP hD hS => ?_)
      have hP : va_P D vwCl [(h, .inr (2, [.int 0, .int 1, .ref q1, .ref q3, .int br, .int bg, .int hk, .ref qt, .int b, .int mi])), (q1, .inr (3, [.ref q2, .int (nI pay.2.1), .int pay.2.2])), (q2, .inl (cI, 400, .inl pay.1))] H := hP
      have hD : va_D A [(h, .inr (2, [.int 0, .int 1, .ref q1, .ref q3, .int br, .int bg, .int hk, .ref qt, .int b, .int mi])), (q1, .inr (3, [.ref q2, .int (nI pay.2.1), .int pay.2.2])), (q2, .inl (cI, 400, .inl pay.1))] := hD
      refine lv_aload_n hx hb d_GW_beginGroup_30 rfl (lv_at hl 0 rfl) ?_
      refine lv_iload_n hx hb d_GW_beginGroup_31 rfl (lv_at hl 1 rfl) ?_
      refine lv_iconst (v := 1) hx hb d_GW_beginGroup_32 (by decide +kernel) ?_
      refine lv_isub hx hb d_GW_beginGroup_33 ?_
      refine va_put (D := D) (ci := 2) (v := .int (b - 1)) (ty := .int) (C := R_GW) (T := F_GW) (N := 10) hx hb ht bi_GW t_GW t_GW_ok n_GW hown hK hP hD hS 0 rfl rfl 9 (by decide) (ht _ bw_89) (fun _ h9 => h9) rfl (by decide +kernel) rfl rfl (Nat.le_of_ble_eq_true rfl) d_GW_beginGroup_34 (fun H locs hP hD hS => ?_)
      have hP : va_P D vwCl [(h, .inr (2, [.int 0, .int 1, .ref q1, .ref q3, .int br, .int bg, .int hk, .ref qt, .int b, .int (b - 1)])), (q1, .inr (3, [.ref q2, .int (nI pay.2.1), .int pay.2.2])), (q2, .inl (cI, 400, .inl pay.1))] H := hP
      have hD : va_D A [(h, .inr (2, [.int 0, .int 1, .ref q1, .ref q3, .int br, .int bg, .int hk, .ref qt, .int b, .int (b - 1)])), (q1, .inr (3, [.ref q2, .int (nI pay.2.1), .int pay.2.2])), (q2, .inl (cI, 400, .inl pay.1))] := hD
      exact ft_retv (pay, b, b - 1) hx hb hr hlocks hP hK hD hS (by simp [beg0, c4, c14]) d_GW_beginGroup_37
    · skip
      refine lv_aload_n hx hb d_GW_beginGroup_17 rfl (lv_at hl 0 rfl) ?_
      refine va_get (D := D) (ci := 2) (v := .ref q1) (C := R_GW) (T := F_GW) (N := 10) hx hb ht bi_GW hown hK hP 0 rfl rfl 2 (by decide) (ht _ bw_94) (fun x9 h9 => u_same (ht _ bw_95) x9 h9) rfl d_GW_beginGroup_18 ?_
      refine lv_iconst (v := 0) hx hb d_GW_beginGroup_21 (by decide +kernel) ?_
      refine ft_cv (wc := [(q1, .inr (3, [.ref q2, .int (nI pay.2.1), .int pay.2.2])), (q2, .inl (cI, 400, .inl pay.1))]) (wr := [(h, .inr (2, [.int 0, .int 1, .ref q1, .ref q3, .int br, .int bg, .int hk, .ref qt, .int hd, .int mi]))]) (va_runV (As := [.int 0]) (rest := []) ⟨hx, hb, hml, hown, ht⟩ (c_Row_put l D cI q1 q2 400 (by omega) pay hp 0 s.heap.size) (ft_cwV 1 ht bw_273 bw_202 bw_203 bw_33 bw_204 (by decide) ⟨Nat.le_of_ble_eq_true rfl, Nat.le_of_ble_eq_true rfl⟩) ⟨ft_blind, va_recv hK hP (ci := 3) (q0 := 1) rfl rfl, (ft_pre hP hD hK hNW [1, 2] [0] rfl rfl (by decide) rfl _)⟩ rfl rfl hl.1 rfl (lv_room (Nat.le_of_ble_eq_true rfl)) d_GW_beginGroup_22 ⟨Nat.le_of_ble_eq_true rfl, Nat.le_of_ble_eq_true rfl⟩) hP hD hS hA [1, 2] [0] rfl rfl (by decide) (by decide) (fun u_2 H locs hu_2 hP hD hS => ?_)
      have le_u_2 : u_2.2.1 ≤ 400 := by rw [hu_2]; exact rput_le hp
      have hP : va_P D vwCl [(h, .inr (2, [.int 0, .int 1, .ref q1, .ref q3, .int br, .int bg, .int hk, .ref qt, .int hd, .int mi])), (q1, .inr (3, [.ref q2, .int (nI u_2.2.1), .int u_2.2.2])), (q2, .inl (cI, 400, .inl u_2.1))] H := hP
      have hD : va_D A [(h, .inr (2, [.int 0, .int 1, .ref q1, .ref q3, .int br, .int bg, .int hk, .ref qt, .int hd, .int mi])), (q1, .inr (3, [.ref q2, .int (nI u_2.2.1), .int u_2.2.2])), (q2, .inl (cI, 400, .inl u_2.1))] := hD
      refine lv_aload_n hx hb d_GW_beginGroup_25 rfl (lv_at hl 0 rfl) ?_
      refine lv_iload_n hx hb d_GW_beginGroup_26 rfl (lv_at hl 1 rfl) ?_
      refine va_put (D := D) (ci := 2) (v := .int b) (ty := .int) (C := R_GW) (T := F_GW) (N := 10) hx hb ht bi_GW t_GW t_GW_ok n_GW hown hK hP hD hS 0 rfl rfl 8 (by decide) (ht _ bw_88) (fun _ h9 => h9) rfl (by decide +kernel) rfl rfl (Nat.le_of_ble_eq_true rfl) d_GW_beginGroup_27 (fun H locs hP hD hS => ?_)
      have hP : va_P D vwCl [(h, .inr (2, [.int 0, .int 1, .ref q1, .ref q3, .int br, .int bg, .int hk, .ref qt, .int b, .int mi])), (q1, .inr (3, [.ref q2, .int (nI u_2.2.1), .int u_2.2.2])), (q2, .inl (cI, 400, .inl u_2.1))] H := hP
      have hD : va_D A [(h, .inr (2, [.int 0, .int 1, .ref q1, .ref q3, .int br, .int bg, .int hk, .ref qt, .int b, .int mi])), (q1, .inr (3, [.ref q2, .int (nI u_2.2.1), .int u_2.2.2])), (q2, .inl (cI, 400, .inl u_2.1))] := hD
      refine lv_aload_n hx hb d_GW_beginGroup_30 rfl (lv_at hl 0 rfl) ?_
      refine lv_iload_n hx hb d_GW_beginGroup_31 rfl (lv_at hl 1 rfl) ?_
      refine lv_iconst (v := 1) hx hb d_GW_beginGroup_32 (by decide +kernel) ?_
      refine lv_isub hx hb d_GW_beginGroup_33 ?_
      refine va_put (D := D) (ci := 2) (v := .int (b - 1)) (ty := .int) (C := R_GW) (T := F_GW) (N := 10) hx hb ht bi_GW t_GW t_GW_ok n_GW hown hK hP hD hS 0 rfl rfl 9 (by decide) (ht _ bw_89) (fun _ h9 => h9) rfl (by decide +kernel) rfl rfl (Nat.le_of_ble_eq_true rfl) d_GW_beginGroup_34 (fun H locs hP hD hS => ?_)
      have hP : va_P D vwCl [(h, .inr (2, [.int 0, .int 1, .ref q1, .ref q3, .int br, .int bg, .int hk, .ref qt, .int b, .int (b - 1)])), (q1, .inr (3, [.ref q2, .int (nI u_2.2.1), .int u_2.2.2])), (q2, .inl (cI, 400, .inl u_2.1))] H := hP
      have hD : va_D A [(h, .inr (2, [.int 0, .int 1, .ref q1, .ref q3, .int br, .int bg, .int hk, .ref qt, .int b, .int (b - 1)])), (q1, .inr (3, [.ref q2, .int (nI u_2.2.1), .int u_2.2.2])), (q2, .inl (cI, 400, .inl u_2.1))] := hD
      exact ft_retv (u_2, b, b - 1) hx hb hr hlocks hP hK hD hS (by simp [beg0, c4, c14, hu_2]) d_GW_beginGroup_37

set_option maxHeartbeats 4000000 in
set_option maxRecDepth 100000 in
theorem c_G_decode (l : Launch) (D : va_G) (cI : ClassId) (h q1 q2 q3 qt : Nat) (br bg hk hd mi : Int32) (pay : RS) (hp : pay.2.1 ≤ 400) (b : Int32) (sz : Nat) : ft_Mv l y_GW_decode (.code y_GW_decode b_GW_decode 2 none :: ft_big) ({ frames := 2, cells := 0, slots := 0, locals := 80 }) D [(cI, .int)] sz [.ref h, .int b] [(h, .inr (2, [.int 0, .int 1, .ref q1, .ref q3, .int br, .int bg, .int hk, .ref qt, .int hd, .int mi])), (q1, .inr (3, [.ref q2, .int (nI pay.2.1), .int pay.2.2])), (q2, .inl (cI, 400, .inl pay.1))] (fun u : RS × Int32 × Int32 => u = dec0 pay hd mi b) (fun u : RS × Int32 × Int32 => [(h, .inr (2, [.int 0, .int 1, .ref q1, .ref q3, .int br, .int bg, .int hk, .ref qt, .int u.2.1, .int u.2.2])), (q1, .inr (3, [.ref q2, .int (nI u.1.2.1), .int u.1.2.2])), (q2, .inl (cI, 400, .inl u.1.1))]) 0 0 := by
  refine ft_ev (cc := b_GW_decode) (maxL := 2) (ret := none) (by decide) rfl (Nat.le_of_ble_eq_true rfl) ?_
  intro p e s m below meth c A ls hx hb hr hml hts hown hlocks hmn hP hK hD hA hS hNW hl
  have ht : ∀ w ∈ ft_big, w.before _ s = true := fun w h => hts w (List.mem_cons_of_mem _ h)
  have hP : va_P D vwCl [(h, .inr (2, [.int 0, .int 1, .ref q1, .ref q3, .int br, .int bg, .int hk, .ref qt, .int hd, .int mi])), (q1, .inr (3, [.ref q2, .int (nI pay.2.1), .int pay.2.2])), (q2, .inl (cI, 400, .inl pay.1))] s.heap := hP
  have hD : va_D A [(h, .inr (2, [.int 0, .int 1, .ref q1, .ref q3, .int br, .int bg, .int hk, .ref qt, .int hd, .int mi])), (q1, .inr (3, [.ref q2, .int (nI pay.2.1), .int pay.2.2])), (q2, .inl (cI, 400, .inl pay.1))] := hD
  have hl : lv_has ls 2 [(0, .ref h), (1, .int b)] := hl
  refine lv_aload_n hx hb d_GW_decode_0 rfl (lv_at hl 0 rfl) ?_
  refine va_get (D := D) (ci := 2) (v := .int mi) (C := R_GW) (T := F_GW) (N := 10) hx hb ht bi_GW hown hK hP 0 rfl rfl 9 (by decide) (ht _ bw_89) (fun _ h9 => h9) rfl d_GW_decode_1 ?_
  refine lv_if_le (tgt := 28) hx hb d_GW_decode_4 (by decide) (fun c4 => ?_) (fun c4 => ?_)
  · skip
    refine lv_aload_n hx hb d_GW_decode_28 rfl (lv_at hl 0 rfl) ?_
    refine lv_iload_n hx hb d_GW_decode_29 rfl (lv_at hl 1 rfl) ?_
    refine ft_cv (wc := [(h, .inr (2, [.int 0, .int 1, .ref q1, .ref q3, .int br, .int bg, .int hk, .ref qt, .int hd, .int mi])), (q1, .inr (3, [.ref q2, .int (nI pay.2.1), .int pay.2.2])), (q2, .inl (cI, 400, .inl pay.1))]) (wr := []) (va_runV (As := [.int b]) (rest := []) ⟨hx, hb, hml, hown, ht⟩ (c_G_beginGroup l D cI h q1 q2 q3 qt br bg hk hd mi pay hp b s.heap.size) (ft_cwV 1 ht bw_359 bw_361 bw_16 bw_36 bw_362 (by decide) ⟨Nat.le_of_ble_eq_true rfl, Nat.le_of_ble_eq_true rfl⟩) ⟨ft_blind, va_recv hK hP (ci := 2) (q0 := 0) rfl rfl, (ft_pre hP hD hK hNW [0, 1, 2] [0] rfl rfl (by decide) rfl _)⟩ rfl rfl hl.1 rfl (lv_room (Nat.le_of_ble_eq_true rfl)) d_GW_decode_30 ⟨Nat.le_of_ble_eq_true rfl, Nat.le_of_ble_eq_true rfl⟩) hP hD hS hA [0, 1, 2] [] rfl rfl (by decide) (by decide) (fun u_2 H locs hu_2 hP hD hS => ?_)
    obtain ⟨pay1, hd1, mi1⟩ := u_2
    obtain ⟨e_pay1, e_hd1, e_mi1⟩ : pay1 = beg0 pay hd b ∧ hd1 = b ∧ mi1 = b - 1 := by simpa using hu_2
    have hP : va_P D vwCl [(h, .inr (2, [.int 0, .int 1, .ref q1, .ref q3, .int br, .int bg, .int hk, .ref qt, .int hd1, .int mi1])), (q1, .inr (3, [.ref q2, .int (nI pay1.2.1), .int pay1.2.2])), (q2, .inl (cI, 400, .inl pay1.1))] H := hP
    have hD : va_D A [(h, .inr (2, [.int 0, .int 1, .ref q1, .ref q3, .int br, .int bg, .int hk, .ref qt, .int hd1, .int mi1])), (q1, .inr (3, [.ref q2, .int (nI pay1.2.1), .int pay1.2.2])), (q2, .inl (cI, 400, .inl pay1.1))] := hD
    exact ft_retv (pay1, hd1, mi1) hx hb hr hlocks hP hK hD hS (by simp [dec0, c4, e_pay1, e_hd1, e_mi1]) d_GW_decode_33
  · skip
    refine lv_aload_n hx hb d_GW_decode_7 rfl (lv_at hl 0 rfl) ?_
    refine va_get (D := D) (ci := 2) (v := .ref q1) (C := R_GW) (T := F_GW) (N := 10) hx hb ht bi_GW hown hK hP 0 rfl rfl 2 (by decide) (ht _ bw_94) (fun x9 h9 => u_same (ht _ bw_95) x9 h9) rfl d_GW_decode_8 ?_
    refine lv_iload_n hx hb d_GW_decode_11 rfl (lv_at hl 1 rfl) ?_
    refine ft_cv (wc := [(q1, .inr (3, [.ref q2, .int (nI pay.2.1), .int pay.2.2])), (q2, .inl (cI, 400, .inl pay.1))]) (wr := [(h, .inr (2, [.int 0, .int 1, .ref q1, .ref q3, .int br, .int bg, .int hk, .ref qt, .int hd, .int mi]))]) (va_runV (As := [.int b]) (rest := []) ⟨hx, hb, hml, hown, ht⟩ (c_Row_put l D cI q1 q2 400 (by omega) pay hp b s.heap.size) (ft_cwV 1 ht bw_273 bw_202 bw_203 bw_33 bw_204 (by decide) ⟨Nat.le_of_ble_eq_true rfl, Nat.le_of_ble_eq_true rfl⟩) ⟨ft_blind, va_recv hK hP (ci := 3) (q0 := 1) rfl rfl, (ft_pre hP hD hK hNW [1, 2] [0] rfl rfl (by decide) rfl _)⟩ rfl rfl hl.1 rfl (lv_room (Nat.le_of_ble_eq_true rfl)) d_GW_decode_12 ⟨Nat.le_of_ble_eq_true rfl, Nat.le_of_ble_eq_true rfl⟩) hP hD hS hA [1, 2] [0] rfl rfl (by decide) (by decide) (fun u_4 H locs hu_4 hP hD hS => ?_)
    have le_u_4 : u_4.2.1 ≤ 400 := by rw [hu_4]; exact rput_le hp
    have hP : va_P D vwCl [(h, .inr (2, [.int 0, .int 1, .ref q1, .ref q3, .int br, .int bg, .int hk, .ref qt, .int hd, .int mi])), (q1, .inr (3, [.ref q2, .int (nI u_4.2.1), .int u_4.2.2])), (q2, .inl (cI, 400, .inl u_4.1))] H := hP
    have hD : va_D A [(h, .inr (2, [.int 0, .int 1, .ref q1, .ref q3, .int br, .int bg, .int hk, .ref qt, .int hd, .int mi])), (q1, .inr (3, [.ref q2, .int (nI u_4.2.1), .int u_4.2.2])), (q2, .inl (cI, 400, .inl u_4.1))] := hD
    refine lv_aload_n hx hb d_GW_decode_15 rfl (lv_at hl 0 rfl) ?_
    refine lv_dup hx hb d_GW_decode_16 rfl ?_
    refine va_get (D := D) (ci := 2) (v := .int mi) (C := R_GW) (T := F_GW) (N := 10) hx hb ht bi_GW hown hK hP 0 rfl rfl 9 (by decide) (ht _ bw_89) (fun _ h9 => h9) rfl d_GW_decode_17 ?_
    refine lv_iconst (v := 1) hx hb d_GW_decode_20 (by decide +kernel) ?_
    refine lv_isub hx hb d_GW_decode_21 ?_
    refine va_put (D := D) (ci := 2) (v := .int (mi - 1)) (ty := .int) (C := R_GW) (T := F_GW) (N := 10) hx hb ht bi_GW t_GW t_GW_ok n_GW hown hK hP hD hS 0 rfl rfl 9 (by decide) (ht _ bw_89) (fun _ h9 => h9) rfl (by decide +kernel) rfl rfl (Nat.le_of_ble_eq_true rfl) d_GW_decode_22 (fun H locs hP hD hS => ?_)
    have hP : va_P D vwCl [(h, .inr (2, [.int 0, .int 1, .ref q1, .ref q3, .int br, .int bg, .int hk, .ref qt, .int hd, .int (mi - 1)])), (q1, .inr (3, [.ref q2, .int (nI u_4.2.1), .int u_4.2.2])), (q2, .inl (cI, 400, .inl u_4.1))] H := hP
    have hD : va_D A [(h, .inr (2, [.int 0, .int 1, .ref q1, .ref q3, .int br, .int bg, .int hk, .ref qt, .int hd, .int (mi - 1)])), (q1, .inr (3, [.ref q2, .int (nI u_4.2.1), .int u_4.2.2])), (q2, .inl (cI, 400, .inl u_4.1))] := hD
    refine lv_goto (tgt := 33) hx hb d_GW_decode_25 (by decide) ?_
    exact ft_retv (u_4, hd, mi - 1) hx hb hr hlocks hP hK hD hS (by simp [dec0, c4, hu_4]) d_GW_decode_33

set_option maxHeartbeats 4000000 in
set_option maxRecDepth 100000 in
theorem c_E_decodeEscaped (l : Launch) (D : va_G) (cI : ClassId) (h q1 q2 q3 qt : Nat) (br bg hk es : Int32) (pay : RS) (hp : pay.2.1 ≤ 400) (b : Int32) (sz : Nat) : ft_Mv l y_EW_decodeEscaped (.code y_EW_decodeEscaped b_EW_decodeEscaped 2 none :: ft_big) ({ frames := 1, cells := 0, slots := 0, locals := 40 }) D [(cI, .int)] sz [.ref h, .int b] [(h, .inr (1, [.int 192, .int 0, .ref q1, .ref q3, .int br, .int bg, .int hk, .ref qt, .int es])), (q1, .inr (3, [.ref q2, .int (nI pay.2.1), .int pay.2.2])), (q2, .inl (cI, 400, .inl pay.1))] (fun u : RS × Int32 => u = esc1 pay br b) (fun u : RS × Int32 => [(h, .inr (1, [.int 192, .int 0, .ref q1, .ref q3, .int u.2, .int bg, .int hk, .ref qt, .int es])), (q1, .inr (3, [.ref q2, .int (nI u.1.2.1), .int u.1.2.2])), (q2, .inl (cI, 400, .inl u.1.1))]) 0 0 := by
  refine ft_ev (cc := b_EW_decodeEscaped) (maxL := 2) (ret := none) (by decide) rfl (Nat.le_of_ble_eq_true rfl) ?_
  intro p e s m below meth c A ls hx hb hr hml hts hown hlocks hmn hP hK hD hA hS hNW hl
  have ht : ∀ w ∈ ft_big, w.before _ s = true := fun w h => hts w (List.mem_cons_of_mem _ h)
  have hP : va_P D vwCl [(h, .inr (1, [.int 192, .int 0, .ref q1, .ref q3, .int br, .int bg, .int hk, .ref qt, .int es])), (q1, .inr (3, [.ref q2, .int (nI pay.2.1), .int pay.2.2])), (q2, .inl (cI, 400, .inl pay.1))] s.heap := hP
  have hD : va_D A [(h, .inr (1, [.int 192, .int 0, .ref q1, .ref q3, .int br, .int bg, .int hk, .ref qt, .int es])), (q1, .inr (3, [.ref q2, .int (nI pay.2.1), .int pay.2.2])), (q2, .inl (cI, 400, .inl pay.1))] := hD
  have hl : lv_has ls 2 [(0, .ref h), (1, .int b)] := hl
  refine lv_iload_n hx hb d_EW_decodeEscaped_0 rfl (lv_at hl 1 rfl) ?_
  refine lv_sipush (v := 220) hx hb d_EW_decodeEscaped_1 (by decide +kernel) ?_
  refine lv_icmp_ne (tgt := 20) hx hb d_EW_decodeEscaped_4 (by decide) (fun c4 => ?_) (fun c4 => ?_)
  · skip
    refine lv_iload_n hx hb d_EW_decodeEscaped_20 rfl (lv_at hl 1 rfl) ?_
    refine lv_sipush (v := 221) hx hb d_EW_decodeEscaped_21 (by decide +kernel) ?_
    refine lv_icmp_ne (tgt := 40) hx hb d_EW_decodeEscaped_24 (by decide) (fun c24 => ?_) (fun c24 => ?_)
    · skip
      refine lv_aload_n hx hb d_EW_decodeEscaped_40 rfl (lv_at hl 0 rfl) ?_
      refine lv_iconst (v := 1) hx hb d_EW_decodeEscaped_41 (by decide +kernel) ?_
      refine va_put (D := D) (ci := 1) (v := .int 1) (ty := .boolean) (C := R_EW) (T := F_EW) (N := 9) hx hb ht bi_EW t_EW t_EW_ok n_EW hown hK hP hD hS 0 rfl rfl 4 (by decide) (ht _ bw_103) (fun x9 h9 => u_same (ht _ bw_104) x9 h9) rfl (by decide +kernel) rfl rfl (Nat.le_of_ble_eq_true rfl) d_EW_decodeEscaped_42 (fun H locs hP hD hS => ?_)
      have hP : va_P D vwCl [(h, .inr (1, [.int 192, .int 0, .ref q1, .ref q3, .int 1, .int bg, .int hk, .ref qt, .int es])), (q1, .inr (3, [.ref q2, .int (nI pay.2.1), .int pay.2.2])), (q2, .inl (cI, 400, .inl pay.1))] H := hP
      have hD : va_D A [(h, .inr (1, [.int 192, .int 0, .ref q1, .ref q3, .int 1, .int bg, .int hk, .ref qt, .int es])), (q1, .inr (3, [.ref q2, .int (nI pay.2.1), .int pay.2.2])), (q2, .inl (cI, 400, .inl pay.1))] := hD
      exact ft_retv (pay, 1) hx hb hr hlocks hP hK hD hS (by simp [esc1, c4, c24]) d_EW_decodeEscaped_45
    · skip
      refine lv_aload_n hx hb d_EW_decodeEscaped_27 rfl (lv_at hl 0 rfl) ?_
      refine va_get (D := D) (ci := 1) (v := .ref q1) (C := R_EW) (T := F_EW) (N := 9) hx hb ht bi_EW hown hK hP 0 rfl rfl 2 (by decide) (ht _ bw_96) (fun x9 h9 => u_same (ht _ bw_97) x9 h9) rfl d_EW_decodeEscaped_28 ?_
      refine lv_sipush (v := 219) hx hb d_EW_decodeEscaped_31 (by decide +kernel) ?_
      refine ft_cv (wc := [(q1, .inr (3, [.ref q2, .int (nI pay.2.1), .int pay.2.2])), (q2, .inl (cI, 400, .inl pay.1))]) (wr := [(h, .inr (1, [.int 192, .int 0, .ref q1, .ref q3, .int br, .int bg, .int hk, .ref qt, .int es]))]) (va_runV (As := [.int 219]) (rest := []) ⟨hx, hb, hml, hown, ht⟩ (c_Row_put l D cI q1 q2 400 (by omega) pay hp 219 s.heap.size) (ft_cwV 1 ht bw_265 bw_202 bw_203 bw_33 bw_204 (by decide) ⟨Nat.le_of_ble_eq_true rfl, Nat.le_of_ble_eq_true rfl⟩) ⟨ft_blind, va_recv hK hP (ci := 3) (q0 := 1) rfl rfl, (ft_pre hP hD hK hNW [1, 2] [0] rfl rfl (by decide) rfl _)⟩ rfl rfl hl.1 rfl (lv_room (Nat.le_of_ble_eq_true rfl)) d_EW_decodeEscaped_34 ⟨Nat.le_of_ble_eq_true rfl, Nat.le_of_ble_eq_true rfl⟩) hP hD hS hA [1, 2] [0] rfl rfl (by decide) (by decide) (fun u_2 H locs hu_2 hP hD hS => ?_)
      have le_u_2 : u_2.2.1 ≤ 400 := by rw [hu_2]; exact rput_le hp
      have hP : va_P D vwCl [(h, .inr (1, [.int 192, .int 0, .ref q1, .ref q3, .int br, .int bg, .int hk, .ref qt, .int es])), (q1, .inr (3, [.ref q2, .int (nI u_2.2.1), .int u_2.2.2])), (q2, .inl (cI, 400, .inl u_2.1))] H := hP
      have hD : va_D A [(h, .inr (1, [.int 192, .int 0, .ref q1, .ref q3, .int br, .int bg, .int hk, .ref qt, .int es])), (q1, .inr (3, [.ref q2, .int (nI u_2.2.1), .int u_2.2.2])), (q2, .inl (cI, 400, .inl u_2.1))] := hD
      refine lv_goto (tgt := 45) hx hb d_EW_decodeEscaped_37 (by decide) ?_
      exact ft_retv (u_2, br) hx hb hr hlocks hP hK hD hS (by simp [esc1, c4, c24, hu_2]) d_EW_decodeEscaped_45
  · skip
    refine lv_aload_n hx hb d_EW_decodeEscaped_7 rfl (lv_at hl 0 rfl) ?_
    refine va_get (D := D) (ci := 1) (v := .ref q1) (C := R_EW) (T := F_EW) (N := 9) hx hb ht bi_EW hown hK hP 0 rfl rfl 2 (by decide) (ht _ bw_96) (fun x9 h9 => u_same (ht _ bw_97) x9 h9) rfl d_EW_decodeEscaped_8 ?_
    refine lv_sipush (v := 192) hx hb d_EW_decodeEscaped_11 (by decide +kernel) ?_
    refine ft_cv (wc := [(q1, .inr (3, [.ref q2, .int (nI pay.2.1), .int pay.2.2])), (q2, .inl (cI, 400, .inl pay.1))]) (wr := [(h, .inr (1, [.int 192, .int 0, .ref q1, .ref q3, .int br, .int bg, .int hk, .ref qt, .int es]))]) (va_runV (As := [.int 192]) (rest := []) ⟨hx, hb, hml, hown, ht⟩ (c_Row_put l D cI q1 q2 400 (by omega) pay hp 192 s.heap.size) (ft_cwV 1 ht bw_265 bw_202 bw_203 bw_33 bw_204 (by decide) ⟨Nat.le_of_ble_eq_true rfl, Nat.le_of_ble_eq_true rfl⟩) ⟨ft_blind, va_recv hK hP (ci := 3) (q0 := 1) rfl rfl, (ft_pre hP hD hK hNW [1, 2] [0] rfl rfl (by decide) rfl _)⟩ rfl rfl hl.1 rfl (lv_room (Nat.le_of_ble_eq_true rfl)) d_EW_decodeEscaped_14 ⟨Nat.le_of_ble_eq_true rfl, Nat.le_of_ble_eq_true rfl⟩) hP hD hS hA [1, 2] [0] rfl rfl (by decide) (by decide) (fun u_4 H locs hu_4 hP hD hS => ?_)
    have le_u_4 : u_4.2.1 ≤ 400 := by rw [hu_4]; exact rput_le hp
    have hP : va_P D vwCl [(h, .inr (1, [.int 192, .int 0, .ref q1, .ref q3, .int br, .int bg, .int hk, .ref qt, .int es])), (q1, .inr (3, [.ref q2, .int (nI u_4.2.1), .int u_4.2.2])), (q2, .inl (cI, 400, .inl u_4.1))] H := hP
    have hD : va_D A [(h, .inr (1, [.int 192, .int 0, .ref q1, .ref q3, .int br, .int bg, .int hk, .ref qt, .int es])), (q1, .inr (3, [.ref q2, .int (nI u_4.2.1), .int u_4.2.2])), (q2, .inl (cI, 400, .inl u_4.1))] := hD
    refine lv_goto (tgt := 45) hx hb d_EW_decodeEscaped_17 (by decide) ?_
    exact ft_retv (u_4, br) hx hb hr hlocks hP hK hD hS (by simp [esc1, c4, hu_4]) d_EW_decodeEscaped_45

set_option maxHeartbeats 4000000 in
set_option maxRecDepth 100000 in
theorem c_E_decode (l : Launch) (D : va_G) (cI : ClassId) (h q1 q2 q3 qt : Nat) (br bg hk es : Int32) (pay : RS) (hp : pay.2.1 ≤ 400) (b : Int32) (sz : Nat) : ft_Mv l y_EW_decode (.code y_EW_decode b_EW_decode 2 none :: ft_big) ({ frames := 2, cells := 0, slots := 0, locals := 80 }) D [(cI, .int)] sz [.ref h, .int b] [(h, .inr (1, [.int 192, .int 0, .ref q1, .ref q3, .int br, .int bg, .int hk, .ref qt, .int es])), (q1, .inr (3, [.ref q2, .int (nI pay.2.1), .int pay.2.2])), (q2, .inl (cI, 400, .inl pay.1))] (fun u : RS × Int32 × Int32 => u = dec1 pay br es b) (fun u : RS × Int32 × Int32 => [(h, .inr (1, [.int 192, .int 0, .ref q1, .ref q3, .int u.2.1, .int bg, .int hk, .ref qt, .int u.2.2])), (q1, .inr (3, [.ref q2, .int (nI u.1.2.1), .int u.1.2.2])), (q2, .inl (cI, 400, .inl u.1.1))]) 0 0 := by
  refine ft_ev (cc := b_EW_decode) (maxL := 2) (ret := none) (by decide) rfl (Nat.le_of_ble_eq_true rfl) ?_
  intro p e s m below meth c A ls hx hb hr hml hts hown hlocks hmn hP hK hD hA hS hNW hl
  have ht : ∀ w ∈ ft_big, w.before _ s = true := fun w h => hts w (List.mem_cons_of_mem _ h)
  have hP : va_P D vwCl [(h, .inr (1, [.int 192, .int 0, .ref q1, .ref q3, .int br, .int bg, .int hk, .ref qt, .int es])), (q1, .inr (3, [.ref q2, .int (nI pay.2.1), .int pay.2.2])), (q2, .inl (cI, 400, .inl pay.1))] s.heap := hP
  have hD : va_D A [(h, .inr (1, [.int 192, .int 0, .ref q1, .ref q3, .int br, .int bg, .int hk, .ref qt, .int es])), (q1, .inr (3, [.ref q2, .int (nI pay.2.1), .int pay.2.2])), (q2, .inl (cI, 400, .inl pay.1))] := hD
  have hl : lv_has ls 2 [(0, .ref h), (1, .int b)] := hl
  refine lv_aload_n hx hb d_EW_decode_0 rfl (lv_at hl 0 rfl) ?_
  refine va_get (D := D) (ci := 1) (v := .int es) (C := R_EW) (T := F_EW) (N := 9) hx hb ht bi_EW hown hK hP 0 rfl rfl 8 (by decide) (ht _ bw_137) (fun _ h9 => h9) rfl d_EW_decode_1 ?_
  refine lv_if_eq (tgt := 20) hx hb d_EW_decode_4 (by decide) (fun c4 => ?_) (fun c4 => ?_)
  · skip
    refine lv_iload_n hx hb d_EW_decode_20 rfl (lv_at hl 1 rfl) ?_
    refine lv_sipush (v := 219) hx hb d_EW_decode_21 (by decide +kernel) ?_
    refine lv_icmp_ne (tgt := 35) hx hb d_EW_decode_24 (by decide) (fun c24 => ?_) (fun c24 => ?_)
    · skip
      refine lv_aload_n hx hb d_EW_decode_35 rfl (lv_at hl 0 rfl) ?_
      refine va_get (D := D) (ci := 1) (v := .ref q1) (C := R_EW) (T := F_EW) (N := 9) hx hb ht bi_EW hown hK hP 0 rfl rfl 2 (by decide) (ht _ bw_96) (fun x9 h9 => u_same (ht _ bw_97) x9 h9) rfl d_EW_decode_36 ?_
      refine lv_iload_n hx hb d_EW_decode_39 rfl (lv_at hl 1 rfl) ?_
      refine ft_cv (wc := [(q1, .inr (3, [.ref q2, .int (nI pay.2.1), .int pay.2.2])), (q2, .inl (cI, 400, .inl pay.1))]) (wr := [(h, .inr (1, [.int 192, .int 0, .ref q1, .ref q3, .int br, .int bg, .int hk, .ref qt, .int es]))]) (va_runV (As := [.int b]) (rest := []) ⟨hx, hb, hml, hown, ht⟩ (c_Row_put l D cI q1 q2 400 (by omega) pay hp b s.heap.size) (ft_cwV 1 ht bw_265 bw_202 bw_203 bw_33 bw_204 (by decide) ⟨Nat.le_of_ble_eq_true rfl, Nat.le_of_ble_eq_true rfl⟩) ⟨ft_blind, va_recv hK hP (ci := 3) (q0 := 1) rfl rfl, (ft_pre hP hD hK hNW [1, 2] [0] rfl rfl (by decide) rfl _)⟩ rfl rfl hl.1 rfl (lv_room (Nat.le_of_ble_eq_true rfl)) d_EW_decode_40 ⟨Nat.le_of_ble_eq_true rfl, Nat.le_of_ble_eq_true rfl⟩) hP hD hS hA [1, 2] [0] rfl rfl (by decide) (by decide) (fun u_2 H locs hu_2 hP hD hS => ?_)
      have le_u_2 : u_2.2.1 ≤ 400 := by rw [hu_2]; exact rput_le hp
      have hP : va_P D vwCl [(h, .inr (1, [.int 192, .int 0, .ref q1, .ref q3, .int br, .int bg, .int hk, .ref qt, .int es])), (q1, .inr (3, [.ref q2, .int (nI u_2.2.1), .int u_2.2.2])), (q2, .inl (cI, 400, .inl u_2.1))] H := hP
      have hD : va_D A [(h, .inr (1, [.int 192, .int 0, .ref q1, .ref q3, .int br, .int bg, .int hk, .ref qt, .int es])), (q1, .inr (3, [.ref q2, .int (nI u_2.2.1), .int u_2.2.2])), (q2, .inl (cI, 400, .inl u_2.1))] := hD
      exact ft_retv (u_2, br, es) hx hb hr hlocks hP hK hD hS (by simp [dec1, c4, c24, hu_2]) d_EW_decode_43
    · skip
      refine lv_aload_n hx hb d_EW_decode_27 rfl (lv_at hl 0 rfl) ?_
      refine lv_iconst (v := 1) hx hb d_EW_decode_28 (by decide +kernel) ?_
      refine va_put (D := D) (ci := 1) (v := .int 1) (ty := .boolean) (C := R_EW) (T := F_EW) (N := 9) hx hb ht bi_EW t_EW t_EW_ok n_EW hown hK hP hD hS 0 rfl rfl 8 (by decide) (ht _ bw_137) (fun _ h9 => h9) rfl (by decide +kernel) rfl rfl (Nat.le_of_ble_eq_true rfl) d_EW_decode_29 (fun H locs hP hD hS => ?_)
      have hP : va_P D vwCl [(h, .inr (1, [.int 192, .int 0, .ref q1, .ref q3, .int br, .int bg, .int hk, .ref qt, .int 1])), (q1, .inr (3, [.ref q2, .int (nI pay.2.1), .int pay.2.2])), (q2, .inl (cI, 400, .inl pay.1))] H := hP
      have hD : va_D A [(h, .inr (1, [.int 192, .int 0, .ref q1, .ref q3, .int br, .int bg, .int hk, .ref qt, .int 1])), (q1, .inr (3, [.ref q2, .int (nI pay.2.1), .int pay.2.2])), (q2, .inl (cI, 400, .inl pay.1))] := hD
      refine lv_goto (tgt := 43) hx hb d_EW_decode_32 (by decide) ?_
      exact ft_retv (pay, br, 1) hx hb hr hlocks hP hK hD hS (by simp [dec1, c4, c24]) d_EW_decode_43
  · skip
    refine lv_aload_n hx hb d_EW_decode_7 rfl (lv_at hl 0 rfl) ?_
    refine lv_iconst (v := 0) hx hb d_EW_decode_8 (by decide +kernel) ?_
    refine va_put (D := D) (ci := 1) (v := .int 0) (ty := .boolean) (C := R_EW) (T := F_EW) (N := 9) hx hb ht bi_EW t_EW t_EW_ok n_EW hown hK hP hD hS 0 rfl rfl 8 (by decide) (ht _ bw_137) (fun _ h9 => h9) rfl (by decide +kernel) rfl rfl (Nat.le_of_ble_eq_true rfl) d_EW_decode_9 (fun H locs hP hD hS => ?_)
    have hP : va_P D vwCl [(h, .inr (1, [.int 192, .int 0, .ref q1, .ref q3, .int br, .int bg, .int hk, .ref qt, .int 0])), (q1, .inr (3, [.ref q2, .int (nI pay.2.1), .int pay.2.2])), (q2, .inl (cI, 400, .inl pay.1))] H := hP
    have hD : va_D A [(h, .inr (1, [.int 192, .int 0, .ref q1, .ref q3, .int br, .int bg, .int hk, .ref qt, .int 0])), (q1, .inr (3, [.ref q2, .int (nI pay.2.1), .int pay.2.2])), (q2, .inl (cI, 400, .inl pay.1))] := hD
    refine lv_aload_n hx hb d_EW_decode_12 rfl (lv_at hl 0 rfl) ?_
    refine lv_iload_n hx hb d_EW_decode_13 rfl (lv_at hl 1 rfl) ?_
    refine ft_cv (wc := [(h, .inr (1, [.int 192, .int 0, .ref q1, .ref q3, .int br, .int bg, .int hk, .ref qt, .int 0])), (q1, .inr (3, [.ref q2, .int (nI pay.2.1), .int pay.2.2])), (q2, .inl (cI, 400, .inl pay.1))]) (wr := []) (va_runV (As := [.int b]) (rest := []) ⟨hx, hb, hml, hown, ht⟩ (c_E_decodeEscaped l D cI h q1 q2 q3 qt br bg hk 0 pay hp b H.size) (ft_cwV 1 ht bw_352 bw_354 bw_15 bw_37 bw_355 (by decide) ⟨Nat.le_of_ble_eq_true rfl, Nat.le_of_ble_eq_true rfl⟩) ⟨ft_blind, va_recv hK hP (ci := 1) (q0 := 0) rfl rfl, (ft_pre hP hD hK hNW [0, 1, 2] [0] rfl rfl (by decide) rfl _)⟩ rfl rfl hl.1 rfl (lv_room (Nat.le_of_ble_eq_true rfl)) d_EW_decode_14 ⟨Nat.le_of_ble_eq_true rfl, Nat.le_of_ble_eq_true rfl⟩) hP hD hS hA [0, 1, 2] [] rfl rfl (by decide) (by decide) (fun u_4 H locs hu_4 hP hD hS => ?_)
    obtain ⟨pay1, br1⟩ := u_4
    have hP : va_P D vwCl [(h, .inr (1, [.int 192, .int 0, .ref q1, .ref q3, .int br1, .int bg, .int hk, .ref qt, .int 0])), (q1, .inr (3, [.ref q2, .int (nI pay1.2.1), .int pay1.2.2])), (q2, .inl (cI, 400, .inl pay1.1))] H := hP
    have hD : va_D A [(h, .inr (1, [.int 192, .int 0, .ref q1, .ref q3, .int br1, .int bg, .int hk, .ref qt, .int 0])), (q1, .inr (3, [.ref q2, .int (nI pay1.2.1), .int pay1.2.2])), (q2, .inl (cI, 400, .inl pay1.1))] := hD
    refine lv_goto (tgt := 43) hx hb d_EW_decode_17 (by decide) ?_
    exact ft_retv (pay1, br1, 0) hx hb hr hlocks hP hK hD hS (by simp only [dec1, if_neg c4]; rw [← hu_4]) d_EW_decode_43

set_option maxHeartbeats 4000000 in
set_option maxRecDepth 100000 in
theorem c_G_isWhole (l : Launch) (D : va_G) (cI : ClassId) (h q1 q2 q3 qt : Nat) (br bg hk hd mi : Int32) (pay : RS) (hp : pay.2.1 ≤ 400) (sz : Nat) : ft_Mi l y_GW_isWhole (.code y_GW_isWhole b_GW_isWhole 1 (some .boolean) :: ft_big) ({ frames := 0, cells := 0, slots := 0, locals := 0 }) D [(cI, .int)] sz [.ref h] [(h, .inr (2, [.int 0, .int 1, .ref q1, .ref q3, .int br, .int bg, .int hk, .ref qt, .int hd, .int mi])), (q1, .inr (3, [.ref q2, .int (nI pay.2.1), .int pay.2.2])), (q2, .inl (cI, 400, .inl pay.1))] (fun (v : Int32) (_ : Unit) => v = whole0 hd mi) (fun _ => [(h, .inr (2, [.int 0, .int 1, .ref q1, .ref q3, .int br, .int bg, .int hk, .ref qt, .int hd, .int mi])), (q1, .inr (3, [.ref q2, .int (nI pay.2.1), .int pay.2.2])), (q2, .inl (cI, 400, .inl pay.1))]) 0 0 := by
  refine ft_ei (cc := b_GW_isWhole) (maxL := 1) (ret := (some .boolean)) (by decide) rfl (Nat.le_of_ble_eq_true rfl) ?_
  intro p e s m below meth c A ls hx hb hr hml hts hown hlocks hmn hP hK hD hA hS hNW hl
  have ht : ∀ w ∈ ft_big, w.before _ s = true := fun w h => hts w (List.mem_cons_of_mem _ h)
  have hP : va_P D vwCl [(h, .inr (2, [.int 0, .int 1, .ref q1, .ref q3, .int br, .int bg, .int hk, .ref qt, .int hd, .int mi])), (q1, .inr (3, [.ref q2, .int (nI pay.2.1), .int pay.2.2])), (q2, .inl (cI, 400, .inl pay.1))] s.heap := hP
  have hD : va_D A [(h, .inr (2, [.int 0, .int 1, .ref q1, .ref q3, .int br, .int bg, .int hk, .ref qt, .int hd, .int mi])), (q1, .inr (3, [.ref q2, .int (nI pay.2.1), .int pay.2.2])), (q2, .inl (cI, 400, .inl pay.1))] := hD
  have hl : lv_has ls 1 [(0, .ref h)] := hl
  refine lv_aload_n hx hb d_GW_isWhole_0 rfl (lv_at hl 0 rfl) ?_
  refine va_get (D := D) (ci := 2) (v := .int hd) (C := R_GW) (T := F_GW) (N := 10) hx hb ht bi_GW hown hK hP 0 rfl rfl 8 (by decide) (ht _ bw_88) (fun _ h9 => h9) rfl d_GW_isWhole_1 ?_
  refine lv_if_eq (tgt := 18) hx hb d_GW_isWhole_4 (by decide) (fun c4 => ?_) (fun c4 => ?_)
  · skip
    refine lv_iconst (v := 0) hx hb d_GW_isWhole_18 (by decide +kernel) ?_
    exact ft_retz () hx hb hr (by decide) hlocks hP hK hD hS (by show (0 : Int32) = whole0 hd mi; simp [whole0, whole1, c4]) d_GW_isWhole_19
  · skip
    refine lv_aload_n hx hb d_GW_isWhole_7 rfl (lv_at hl 0 rfl) ?_
    refine va_get (D := D) (ci := 2) (v := .int mi) (C := R_GW) (T := F_GW) (N := 10) hx hb ht bi_GW hown hK hP 0 rfl rfl 9 (by decide) (ht _ bw_89) (fun _ h9 => h9) rfl d_GW_isWhole_8 ?_
    refine lv_if_ne (tgt := 18) hx hb d_GW_isWhole_11 (by decide) (fun c11 => ?_) (fun c11 => ?_)
    · skip
      refine lv_iconst (v := 0) hx hb d_GW_isWhole_18 (by decide +kernel) ?_
      exact ft_retz () hx hb hr (by decide) hlocks hP hK hD hS (by show (0 : Int32) = whole0 hd mi; simp [whole0, whole1, c4, c11]) d_GW_isWhole_19
    · skip
      refine lv_iconst (v := 1) hx hb d_GW_isWhole_14 (by decide +kernel) ?_
      refine lv_goto (tgt := 19) hx hb d_GW_isWhole_15 (by decide) ?_
      exact ft_retz () hx hb hr (by decide) hlocks hP hK hD hS (by show (1 : Int32) = whole0 hd mi; simp [whole0, whole1, c4, c11]) d_GW_isWhole_19

set_option maxHeartbeats 4000000 in
set_option maxRecDepth 100000 in
theorem c_E_isWhole (l : Launch) (D : va_G) (cI : ClassId) (h q1 q2 q3 qt : Nat) (br bg hk es : Int32) (pay : RS) (hp : pay.2.1 ≤ 400) (sz : Nat) : ft_Mi l y_EW_isWhole (.code y_EW_isWhole b_EW_isWhole 1 (some .boolean) :: ft_big) ({ frames := 0, cells := 0, slots := 0, locals := 0 }) D [(cI, .int)] sz [.ref h] [(h, .inr (1, [.int 192, .int 0, .ref q1, .ref q3, .int br, .int bg, .int hk, .ref qt, .int es])), (q1, .inr (3, [.ref q2, .int (nI pay.2.1), .int pay.2.2])), (q2, .inl (cI, 400, .inl pay.1))] (fun (v : Int32) (_ : Unit) => v = whole1 es) (fun _ => [(h, .inr (1, [.int 192, .int 0, .ref q1, .ref q3, .int br, .int bg, .int hk, .ref qt, .int es])), (q1, .inr (3, [.ref q2, .int (nI pay.2.1), .int pay.2.2])), (q2, .inl (cI, 400, .inl pay.1))]) 0 0 := by
  refine ft_ei (cc := b_EW_isWhole) (maxL := 1) (ret := (some .boolean)) (by decide) rfl (Nat.le_of_ble_eq_true rfl) ?_
  intro p e s m below meth c A ls hx hb hr hml hts hown hlocks hmn hP hK hD hA hS hNW hl
  have ht : ∀ w ∈ ft_big, w.before _ s = true := fun w h => hts w (List.mem_cons_of_mem _ h)
  have hP : va_P D vwCl [(h, .inr (1, [.int 192, .int 0, .ref q1, .ref q3, .int br, .int bg, .int hk, .ref qt, .int es])), (q1, .inr (3, [.ref q2, .int (nI pay.2.1), .int pay.2.2])), (q2, .inl (cI, 400, .inl pay.1))] s.heap := hP
  have hD : va_D A [(h, .inr (1, [.int 192, .int 0, .ref q1, .ref q3, .int br, .int bg, .int hk, .ref qt, .int es])), (q1, .inr (3, [.ref q2, .int (nI pay.2.1), .int pay.2.2])), (q2, .inl (cI, 400, .inl pay.1))] := hD
  have hl : lv_has ls 1 [(0, .ref h)] := hl
  refine lv_aload_n hx hb d_EW_isWhole_0 rfl (lv_at hl 0 rfl) ?_
  refine va_get (D := D) (ci := 1) (v := .int es) (C := R_EW) (T := F_EW) (N := 9) hx hb ht bi_EW hown hK hP 0 rfl rfl 8 (by decide) (ht _ bw_137) (fun _ h9 => h9) rfl d_EW_isWhole_1 ?_
  refine lv_if_ne (tgt := 11) hx hb d_EW_isWhole_4 (by decide) (fun c4 => ?_) (fun c4 => ?_)
  · skip
    refine lv_iconst (v := 0) hx hb d_EW_isWhole_11 (by decide +kernel) ?_
    exact ft_retz () hx hb hr (by decide) hlocks hP hK hD hS (by show (0 : Int32) = whole1 es; simp [whole0, whole1, c4]) d_EW_isWhole_12
  · skip
    refine lv_iconst (v := 1) hx hb d_EW_isWhole_7 (by decide +kernel) ?_
    refine lv_goto (tgt := 12) hx hb d_EW_isWhole_8 (by decide) ?_
    exact ft_retz () hx hb hr (by decide) hlocks hP hK hD hS (by show (1 : Int32) = whole1 es; simp [whole0, whole1, c4]) d_EW_isWhole_12

set_option maxHeartbeats 4000000 in
set_option maxRecDepth 100000 in
theorem c_G_forgetChunk (l : Launch) (D : va_G) (cI : ClassId) (h q1 q3 qt : Nat) (br bg hk hd mi : Int32) (sz : Nat) : ft_Mv l y_GW_forgetChunk (.code y_GW_forgetChunk b_GW_forgetChunk 1 none :: ft_big) ({ frames := 0, cells := 0, slots := 0, locals := 0 }) D [(cI, .int)] sz [.ref h] [(h, .inr (2, [.int 0, .int 1, .ref q1, .ref q3, .int br, .int bg, .int hk, .ref qt, .int hd, .int mi]))] (fun _ : Unit => True) (fun _ : Unit => [(h, .inr (2, [.int 0, .int 1, .ref q1, .ref q3, .int br, .int bg, .int hk, .ref qt, .int 0, .int 0]))]) 0 0 := by
  refine ft_ev (cc := b_GW_forgetChunk) (maxL := 1) (ret := none) (by decide) rfl (Nat.le_of_ble_eq_true rfl) ?_
  intro p e s m below meth c A ls hx hb hr hml hts hown hlocks hmn hP hK hD hA hS hNW hl
  have ht : ∀ w ∈ ft_big, w.before _ s = true := fun w h => hts w (List.mem_cons_of_mem _ h)
  have hP : va_P D vwCl [(h, .inr (2, [.int 0, .int 1, .ref q1, .ref q3, .int br, .int bg, .int hk, .ref qt, .int hd, .int mi]))] s.heap := hP
  have hD : va_D A [(h, .inr (2, [.int 0, .int 1, .ref q1, .ref q3, .int br, .int bg, .int hk, .ref qt, .int hd, .int mi]))] := hD
  have hl : lv_has ls 1 [(0, .ref h)] := hl
  refine lv_aload_n hx hb d_GW_forgetChunk_0 rfl (lv_at hl 0 rfl) ?_
  refine lv_iconst (v := 0) hx hb d_GW_forgetChunk_1 (by decide +kernel) ?_
  refine va_put (D := D) (ci := 2) (v := .int 0) (ty := .int) (C := R_GW) (T := F_GW) (N := 10) hx hb ht bi_GW t_GW t_GW_ok n_GW hown hK hP hD hS 0 rfl rfl 8 (by decide) (ht _ bw_88) (fun _ h9 => h9) rfl (by decide +kernel) rfl rfl (Nat.le_of_ble_eq_true rfl) d_GW_forgetChunk_2 (fun H locs hP hD hS => ?_)
  have hP : va_P D vwCl [(h, .inr (2, [.int 0, .int 1, .ref q1, .ref q3, .int br, .int bg, .int hk, .ref qt, .int 0, .int mi]))] H := hP
  have hD : va_D A [(h, .inr (2, [.int 0, .int 1, .ref q1, .ref q3, .int br, .int bg, .int hk, .ref qt, .int 0, .int mi]))] := hD
  refine lv_aload_n hx hb d_GW_forgetChunk_5 rfl (lv_at hl 0 rfl) ?_
  refine lv_iconst (v := 0) hx hb d_GW_forgetChunk_6 (by decide +kernel) ?_
  refine va_put (D := D) (ci := 2) (v := .int 0) (ty := .int) (C := R_GW) (T := F_GW) (N := 10) hx hb ht bi_GW t_GW t_GW_ok n_GW hown hK hP hD hS 0 rfl rfl 9 (by decide) (ht _ bw_89) (fun _ h9 => h9) rfl (by decide +kernel) rfl rfl (Nat.le_of_ble_eq_true rfl) d_GW_forgetChunk_7 (fun H locs hP hD hS => ?_)
  have hP : va_P D vwCl [(h, .inr (2, [.int 0, .int 1, .ref q1, .ref q3, .int br, .int bg, .int hk, .ref qt, .int 0, .int 0]))] H := hP
  have hD : va_D A [(h, .inr (2, [.int 0, .int 1, .ref q1, .ref q3, .int br, .int bg, .int hk, .ref qt, .int 0, .int 0]))] := hD
  exact ft_retv () hx hb hr hlocks hP hK hD hS trivial d_GW_forgetChunk_10

set_option maxHeartbeats 4000000 in
set_option maxRecDepth 100000 in
theorem c_E_forgetChunk (l : Launch) (D : va_G) (cI : ClassId) (h q1 q3 qt : Nat) (br bg hk es : Int32) (sz : Nat) : ft_Mv l y_EW_forgetChunk (.code y_EW_forgetChunk b_EW_forgetChunk 1 none :: ft_big) ({ frames := 0, cells := 0, slots := 0, locals := 0 }) D [(cI, .int)] sz [.ref h] [(h, .inr (1, [.int 192, .int 0, .ref q1, .ref q3, .int br, .int bg, .int hk, .ref qt, .int es]))] (fun _ : Unit => True) (fun _ : Unit => [(h, .inr (1, [.int 192, .int 0, .ref q1, .ref q3, .int br, .int bg, .int hk, .ref qt, .int 0]))]) 0 0 := by
  refine ft_ev (cc := b_EW_forgetChunk) (maxL := 1) (ret := none) (by decide) rfl (Nat.le_of_ble_eq_true rfl) ?_
  intro p e s m below meth c A ls hx hb hr hml hts hown hlocks hmn hP hK hD hA hS hNW hl
  have ht : ∀ w ∈ ft_big, w.before _ s = true := fun w h => hts w (List.mem_cons_of_mem _ h)
  have hP : va_P D vwCl [(h, .inr (1, [.int 192, .int 0, .ref q1, .ref q3, .int br, .int bg, .int hk, .ref qt, .int es]))] s.heap := hP
  have hD : va_D A [(h, .inr (1, [.int 192, .int 0, .ref q1, .ref q3, .int br, .int bg, .int hk, .ref qt, .int es]))] := hD
  have hl : lv_has ls 1 [(0, .ref h)] := hl
  refine lv_aload_n hx hb d_EW_forgetChunk_0 rfl (lv_at hl 0 rfl) ?_
  refine lv_iconst (v := 0) hx hb d_EW_forgetChunk_1 (by decide +kernel) ?_
  refine va_put (D := D) (ci := 1) (v := .int 0) (ty := .boolean) (C := R_EW) (T := F_EW) (N := 9) hx hb ht bi_EW t_EW t_EW_ok n_EW hown hK hP hD hS 0 rfl rfl 8 (by decide) (ht _ bw_137) (fun _ h9 => h9) rfl (by decide +kernel) rfl rfl (Nat.le_of_ble_eq_true rfl) d_EW_forgetChunk_2 (fun H locs hP hD hS => ?_)
  have hP : va_P D vwCl [(h, .inr (1, [.int 192, .int 0, .ref q1, .ref q3, .int br, .int bg, .int hk, .ref qt, .int 0]))] H := hP
  have hD : va_D A [(h, .inr (1, [.int 192, .int 0, .ref q1, .ref q3, .int br, .int bg, .int hk, .ref qt, .int 0]))] := hD
  exact ft_retv () hx hb hr hlocks hP hK hD hS trivial d_EW_forgetChunk_5

set_option maxHeartbeats 4000000 in
set_option maxRecDepth 100000 in
theorem c_C_forgetChunk (l : Launch) (D : va_G) (cI : ClassId) (h q1 q3 qt : Nat) (br bg hk es ck he ol ne : Int32) (sz : Nat) : ft_Mv l y_CW_forgetChunk (.code y_CW_forgetChunk b_CW_forgetChunk 1 none :: ft_big) ({ frames := 0, cells := 0, slots := 0, locals := 0 }) D [(cI, .int)] sz [.ref h] [(h, .inr (0, [.int 126, .int 0, .ref q1, .ref q3, .int br, .int bg, .int hk, .ref qt, .int es, .int ck, .int he, .int ol, .int ne]))] (fun _ : Unit => True) (fun _ : Unit => [(h, .inr (0, [.int 126, .int 0, .ref q1, .ref q3, .int br, .int bg, .int hk, .ref qt, .int 0, .int 65535, .int 0, .int 0, .int 0]))]) 0 0 := by
  refine ft_ev (cc := b_CW_forgetChunk) (maxL := 1) (ret := none) (by decide) rfl (Nat.le_of_ble_eq_true rfl) ?_
  intro p e s m below meth c A ls hx hb hr hml hts hown hlocks hmn hP hK hD hA hS hNW hl
  have ht : ∀ w ∈ ft_big, w.before _ s = true := fun w h => hts w (List.mem_cons_of_mem _ h)
  have hP : va_P D vwCl [(h, .inr (0, [.int 126, .int 0, .ref q1, .ref q3, .int br, .int bg, .int hk, .ref qt, .int es, .int ck, .int he, .int ol, .int ne]))] s.heap := hP
  have hD : va_D A [(h, .inr (0, [.int 126, .int 0, .ref q1, .ref q3, .int br, .int bg, .int hk, .ref qt, .int es, .int ck, .int he, .int ol, .int ne]))] := hD
  have hl : lv_has ls 1 [(0, .ref h)] := hl
  refine lv_aload_n hx hb d_CW_forgetChunk_0 rfl (lv_at hl 0 rfl) ?_
  refine lv_iconst (v := 0) hx hb d_CW_forgetChunk_1 (by decide +kernel) ?_
  refine va_put (D := D) (ci := 0) (v := .int 0) (ty := .boolean) (C := R_CW) (T := F_CW) (N := 13) hx hb ht bi_CW t_CW t_CW_ok n_CW hown hK hP hD hS 0 rfl rfl 8 (by decide) (ht _ bw_156) (fun _ h9 => h9) rfl (by decide +kernel) rfl rfl (Nat.le_of_ble_eq_true rfl) d_CW_forgetChunk_2 (fun H locs hP hD hS => ?_)
  have hP : va_P D vwCl [(h, .inr (0, [.int 126, .int 0, .ref q1, .ref q3, .int br, .int bg, .int hk, .ref qt, .int 0, .int ck, .int he, .int ol, .int ne]))] H := hP
  have hD : va_D A [(h, .inr (0, [.int 126, .int 0, .ref q1, .ref q3, .int br, .int bg, .int hk, .ref qt, .int 0, .int ck, .int he, .int ol, .int ne]))] := hD
  refine lv_aload_n hx hb d_CW_forgetChunk_5 rfl (lv_at hl 0 rfl) ?_
  refine lv_ldc hx hb hown (ht _ bw_155) d_CW_forgetChunk_6 ?_
  refine va_put (D := D) (ci := 0) (v := .int 65535) (ty := .int) (C := R_CW) (T := F_CW) (N := 13) hx hb ht bi_CW t_CW t_CW_ok n_CW hown hK hP hD hS 0 rfl rfl 9 (by decide) (ht _ bw_157) (fun _ h9 => h9) rfl (by decide +kernel) rfl rfl (Nat.le_of_ble_eq_true rfl) d_CW_forgetChunk_8 (fun H locs hP hD hS => ?_)
  have hP : va_P D vwCl [(h, .inr (0, [.int 126, .int 0, .ref q1, .ref q3, .int br, .int bg, .int hk, .ref qt, .int 0, .int 65535, .int he, .int ol, .int ne]))] H := hP
  have hD : va_D A [(h, .inr (0, [.int 126, .int 0, .ref q1, .ref q3, .int br, .int bg, .int hk, .ref qt, .int 0, .int 65535, .int he, .int ol, .int ne]))] := hD
  refine lv_aload_n hx hb d_CW_forgetChunk_11 rfl (lv_at hl 0 rfl) ?_
  refine lv_iconst (v := 0) hx hb d_CW_forgetChunk_12 (by decide +kernel) ?_
  refine va_put (D := D) (ci := 0) (v := .int 0) (ty := .int) (C := R_CW) (T := F_CW) (N := 13) hx hb ht bi_CW t_CW t_CW_ok n_CW hown hK hP hD hS 0 rfl rfl 10 (by decide) (ht _ bw_158) (fun _ h9 => h9) rfl (by decide +kernel) rfl rfl (Nat.le_of_ble_eq_true rfl) d_CW_forgetChunk_13 (fun H locs hP hD hS => ?_)
  have hP : va_P D vwCl [(h, .inr (0, [.int 126, .int 0, .ref q1, .ref q3, .int br, .int bg, .int hk, .ref qt, .int 0, .int 65535, .int 0, .int ol, .int ne]))] H := hP
  have hD : va_D A [(h, .inr (0, [.int 126, .int 0, .ref q1, .ref q3, .int br, .int bg, .int hk, .ref qt, .int 0, .int 65535, .int 0, .int ol, .int ne]))] := hD
  refine lv_aload_n hx hb d_CW_forgetChunk_16 rfl (lv_at hl 0 rfl) ?_
  refine lv_iconst (v := 0) hx hb d_CW_forgetChunk_17 (by decide +kernel) ?_
  refine va_put (D := D) (ci := 0) (v := .int 0) (ty := .int) (C := R_CW) (T := F_CW) (N := 13) hx hb ht bi_CW t_CW t_CW_ok n_CW hown hK hP hD hS 0 rfl rfl 11 (by decide) (ht _ bw_159) (fun _ h9 => h9) rfl (by decide +kernel) rfl rfl (Nat.le_of_ble_eq_true rfl) d_CW_forgetChunk_18 (fun H locs hP hD hS => ?_)
  have hP : va_P D vwCl [(h, .inr (0, [.int 126, .int 0, .ref q1, .ref q3, .int br, .int bg, .int hk, .ref qt, .int 0, .int 65535, .int 0, .int 0, .int ne]))] H := hP
  have hD : va_D A [(h, .inr (0, [.int 126, .int 0, .ref q1, .ref q3, .int br, .int bg, .int hk, .ref qt, .int 0, .int 65535, .int 0, .int 0, .int ne]))] := hD
  refine lv_aload_n hx hb d_CW_forgetChunk_21 rfl (lv_at hl 0 rfl) ?_
  refine lv_iconst (v := 0) hx hb d_CW_forgetChunk_22 (by decide +kernel) ?_
  refine va_put (D := D) (ci := 0) (v := .int 0) (ty := .int) (C := R_CW) (T := F_CW) (N := 13) hx hb ht bi_CW t_CW t_CW_ok n_CW hown hK hP hD hS 0 rfl rfl 12 (by decide) (ht _ bw_160) (fun _ h9 => h9) rfl (by decide +kernel) rfl rfl (Nat.le_of_ble_eq_true rfl) d_CW_forgetChunk_23 (fun H locs hP hD hS => ?_)
  have hP : va_P D vwCl [(h, .inr (0, [.int 126, .int 0, .ref q1, .ref q3, .int br, .int bg, .int hk, .ref qt, .int 0, .int 65535, .int 0, .int 0, .int 0]))] H := hP
  have hD : va_D A [(h, .inr (0, [.int 126, .int 0, .ref q1, .ref q3, .int br, .int bg, .int hk, .ref qt, .int 0, .int 65535, .int 0, .int 0, .int 0]))] := hD
  exact ft_retv () hx hb hr hlocks hP hK hD hS trivial d_CW_forgetChunk_26
