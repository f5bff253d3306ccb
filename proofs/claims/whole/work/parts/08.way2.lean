set_option maxHeartbeats 4000000 in
set_option maxRecDepth 100000 in
theorem c_G_judge (l : Launch) (D : va_G) (cI : ClassId) (h q1 q2 q3 qt : Nat) (br bg hk hd mi : Int32) (pay : RS) (hp : pay.2.1 ≤ 400) (most : Int32) (sz : Nat) : ft_Mi l y_Way_judge (.code y_Way_judge b_Way_judge 2 (some .int) :: ft_big) ({ frames := 2, cells := 0, slots := 0, locals := 80 }) D [(cI, .int)] sz [.ref h, .int most] [(h, .inr (2, [.int 0, .int 1, .ref q1, .ref q3, .int br, .int bg, .int hk, .ref qt, .int hd, .int mi])), (q1, .inr (3, [.ref q2, .int (nI pay.2.1), .int pay.2.2])), (q2, .inl (cI, 400, .inl pay.1))] (fun (v : Int32) (_ : Unit) => v = judge 1 br bg pay (whole0 hd mi) most) (fun _ => [(h, .inr (2, [.int 0, .int 1, .ref q1, .ref q3, .int br, .int bg, .int hk, .ref qt, .int hd, .int mi])), (q1, .inr (3, [.ref q2, .int (nI pay.2.1), .int pay.2.2])), (q2, .inl (cI, 400, .inl pay.1))]) 0 0 := by
  refine ft_ei (cc := b_Way_judge) (maxL := 2) (ret := (some .int)) (by decide) rfl (Nat.le_of_ble_eq_true rfl) ?_
  intro p e s m below meth c A ls hx hb hr hml hts hown hlocks hmn hP hK hD hA hS hNW hl
  have ht : ∀ w ∈ ft_big, w.before _ s = true := fun w h => hts w (List.mem_cons_of_mem _ h)
  have hP : va_P D vwCl [(h, .inr (2, [.int 0, .int 1, .ref q1, .ref q3, .int br, .int bg, .int hk, .ref qt, .int hd, .int mi])), (q1, .inr (3, [.ref q2, .int (nI pay.2.1), .int pay.2.2])), (q2, .inl (cI, 400, .inl pay.1))] s.heap := hP
  have hD : va_D A [(h, .inr (2, [.int 0, .int 1, .ref q1, .ref q3, .int br, .int bg, .int hk, .ref qt, .int hd, .int mi])), (q1, .inr (3, [.ref q2, .int (nI pay.2.1), .int pay.2.2])), (q2, .inl (cI, 400, .inl pay.1))] := hD
  have hl : lv_has ls 2 [(0, .ref h), (1, .int most)] := hl
  refine lv_aload_n hx hb d_Way_judge_0 rfl (lv_at hl 0 rfl) ?_
  refine va_get (D := D) (ci := 2) (v := .int bg) (C := R_GW) (T := F_GW) (N := 10) hx hb ht bi_GW hown hK hP 0 rfl rfl 5 (by decide) (ht _ bw_107) (fun _ h9 => h9) rfl d_Way_judge_1 ?_
  refine lv_if_ne (tgt := 16) hx hb d_Way_judge_4 (by decide) (fun c4 => ?_) (fun c4 => ?_)
  · skip
    refine lv_aload_n hx hb d_Way_judge_16 rfl (lv_at hl 0 rfl) ?_
    refine va_get (D := D) (ci := 2) (v := .int br) (C := R_GW) (T := F_GW) (N := 10) hx hb ht bi_GW hown hK hP 0 rfl rfl 4 (by decide) (ht _ bw_102) (fun _ h9 => h9) rfl d_Way_judge_17 ?_
    refine lv_if_ne (tgt := 30) hx hb d_Way_judge_20 (by decide) (fun c20 => ?_) (fun c20 => ?_)
    · skip
      refine lv_iconst (v := 2) hx hb d_Way_judge_30 (by decide +kernel) ?_
      exact ft_reti () hx hb hr hlocks hP hK hD hS (by show (2 : Int32) = judge 1 br bg pay (whole0 hd mi) most; simp [judge, c4, c20]) d_Way_judge_31
    · skip
      refine lv_aload_n hx hb d_Way_judge_23 rfl (lv_at hl 0 rfl) ?_
      refine ft_ci (wc := [(h, .inr (2, [.int 0, .int 1, .ref q1, .ref q3, .int br, .int bg, .int hk, .ref qt, .int hd, .int mi])), (q1, .inr (3, [.ref q2, .int (nI pay.2.1), .int pay.2.2])), (q2, .inl (cI, 400, .inl pay.1))]) (wr := []) (va_runU (As := []) (rest := []) ⟨hx, hb, hml, hown, ht⟩ (c_G_isWhole l D cI h q1 q2 q3 qt br bg hk hd mi pay hp s.heap.size) (ft_cwA (owner := R_Way) 0 ht bw_310 bw_312 bw_319 bw_320 bw_36 bw_321 (hNW _ bn_311) (by decide) ⟨Nat.le_of_ble_eq_true rfl, Nat.le_of_ble_eq_true rfl⟩) ⟨ft_blind, va_recv hK hP (ci := 2) (q0 := 0) rfl rfl, (ft_pre hP hD hK hNW [0, 1, 2] [0] rfl rfl (by decide) rfl _)⟩ rfl rfl hl.1 rfl (lv_room (Nat.le_of_ble_eq_true rfl)) d_Way_judge_24 ⟨Nat.le_of_ble_eq_true rfl, Nat.le_of_ble_eq_true rfl⟩) hP hD hS hA [0, 1, 2] [] rfl rfl (by decide) (by decide) (fun r_1 u_2 H locs hu_2 hP hD hS => ?_)
      subst hu_2
      have hP : va_P D vwCl [(h, .inr (2, [.int 0, .int 1, .ref q1, .ref q3, .int br, .int bg, .int hk, .ref qt, .int hd, .int mi])), (q1, .inr (3, [.ref q2, .int (nI pay.2.1), .int pay.2.2])), (q2, .inl (cI, 400, .inl pay.1))] H := hP
      have hD : va_D A [(h, .inr (2, [.int 0, .int 1, .ref q1, .ref q3, .int br, .int bg, .int hk, .ref qt, .int hd, .int mi])), (q1, .inr (3, [.ref q2, .int (nI pay.2.1), .int pay.2.2])), (q2, .inl (cI, 400, .inl pay.1))] := hD
      refine lv_if_ne (tgt := 32) hx hb d_Way_judge_27 (by decide) (fun c27 => ?_) (fun c27 => ?_)
      · skip
        refine lv_aload_n hx hb d_Way_judge_32 rfl (lv_at hl 0 rfl) ?_
        refine va_get (D := D) (ci := 2) (v := .ref q1) (C := R_GW) (T := F_GW) (N := 10) hx hb ht bi_GW hown hK hP 0 rfl rfl 2 (by decide) (ht _ bw_93) (fun _ h9 => h9) rfl d_Way_judge_33 ?_
        refine va_getN (D := D) (ci := 3) (v := .int pay.2.2) (C := R_Row) (T := F_Row) (N := 3) hx hb ht bi_Row hown hK hP 1 rfl rfl 2 (by decide) (va_Nw.use rfl (hNW _ bn_65)) (fun _ h9 => h9) rfl d_Way_judge_36 ?_
        refine lv_if_ne (tgt := 53) hx hb d_Way_judge_39 (by decide) (fun c39 => ?_) (fun c39 => ?_)
        · skip
          refine lv_iconst (v := 3) hx hb d_Way_judge_53 (by decide +kernel) ?_
          refine lv_goto (tgt := 58) hx hb d_Way_judge_54 (by decide) ?_
          exact ft_reti () hx hb hr hlocks hP hK hD hS (by show (3 : Int32) = judge 1 br bg pay (whole0 hd mi) most; simp [judge, c4, c20, c27, c39]) d_Way_judge_58
        · skip
          refine lv_aload_n hx hb d_Way_judge_42 rfl (lv_at hl 0 rfl) ?_
          refine va_get (D := D) (ci := 2) (v := .ref q1) (C := R_GW) (T := F_GW) (N := 10) hx hb ht bi_GW hown hK hP 0 rfl rfl 2 (by decide) (ht _ bw_93) (fun _ h9 => h9) rfl d_Way_judge_43 ?_
          refine va_getN (D := D) (ci := 3) (v := .int (nI pay.2.1)) (C := R_Row) (T := F_Row) (N := 3) hx hb ht bi_Row hown hK hP 1 rfl rfl 1 (by decide) (va_Nw.use rfl (hNW _ bn_63)) (fun _ h9 => h9) rfl d_Way_judge_46 ?_
          refine lv_iload_n hx hb d_Way_judge_49 rfl (lv_at hl 1 rfl) ?_
          refine lv_icmp_le (tgt := 57) hx hb d_Way_judge_50 (by decide) (fun c50 => ?_) (fun c50 => ?_)
          · skip
            refine lv_iconst (v := 1) hx hb d_Way_judge_57 (by decide +kernel) ?_
            exact ft_reti () hx hb hr hlocks hP hK hD hS (by show (1 : Int32) = judge 1 br bg pay (whole0 hd mi) most; simp [judge, c4, c20, c27, c39, c50]) d_Way_judge_58
          · skip
            refine lv_iconst (v := 3) hx hb d_Way_judge_53 (by decide +kernel) ?_
            refine lv_goto (tgt := 58) hx hb d_Way_judge_54 (by decide) ?_
            exact ft_reti () hx hb hr hlocks hP hK hD hS (by show (3 : Int32) = judge 1 br bg pay (whole0 hd mi) most; simp [judge, c4, c20, c27, c39, c50]) d_Way_judge_58
      · skip
        refine lv_iconst (v := 2) hx hb d_Way_judge_30 (by decide +kernel) ?_
        exact ft_reti () hx hb hr hlocks hP hK hD hS (by show (2 : Int32) = judge 1 br bg pay (whole0 hd mi) most; simp [judge, c4, c20, c27]) d_Way_judge_31
  · skip
    refine lv_aload_n hx hb d_Way_judge_7 rfl (lv_at hl 0 rfl) ?_
    refine va_get (D := D) (ci := 2) (v := .int 1) (C := R_GW) (T := F_GW) (N := 10) hx hb ht bi_GW hown hK hP 0 rfl rfl 1 (by decide) (ht _ bw_91) (fun _ h9 => h9) rfl d_Way_judge_8 ?_
    refine lv_if_ne (tgt := 16) hx hb d_Way_judge_11 (by decide) (fun _ => ?_) (fun c11 => absurd c11 (by decide))
    refine lv_aload_n hx hb d_Way_judge_16 rfl (lv_at hl 0 rfl) ?_
    refine va_get (D := D) (ci := 2) (v := .int br) (C := R_GW) (T := F_GW) (N := 10) hx hb ht bi_GW hown hK hP 0 rfl rfl 4 (by decide) (ht _ bw_102) (fun _ h9 => h9) rfl d_Way_judge_17 ?_
    refine lv_if_ne (tgt := 30) hx hb d_Way_judge_20 (by decide) (fun c20 => ?_) (fun c20 => ?_)
    · skip
      refine lv_iconst (v := 2) hx hb d_Way_judge_30 (by decide +kernel) ?_
      exact ft_reti () hx hb hr hlocks hP hK hD hS (by show (2 : Int32) = judge 1 br bg pay (whole0 hd mi) most; simp [judge, c4, c20]) d_Way_judge_31
    · skip
      refine lv_aload_n hx hb d_Way_judge_23 rfl (lv_at hl 0 rfl) ?_
      refine ft_ci (wc := [(h, .inr (2, [.int 0, .int 1, .ref q1, .ref q3, .int br, .int bg, .int hk, .ref qt, .int hd, .int mi])), (q1, .inr (3, [.ref q2, .int (nI pay.2.1), .int pay.2.2])), (q2, .inl (cI, 400, .inl pay.1))]) (wr := []) (va_runU (As := []) (rest := []) ⟨hx, hb, hml, hown, ht⟩ (c_G_isWhole l D cI h q1 q2 q3 qt br bg hk hd mi pay hp s.heap.size) (ft_cwA (owner := R_Way) 0 ht bw_310 bw_312 bw_319 bw_320 bw_36 bw_321 (hNW _ bn_311) (by decide) ⟨Nat.le_of_ble_eq_true rfl, Nat.le_of_ble_eq_true rfl⟩) ⟨ft_blind, va_recv hK hP (ci := 2) (q0 := 0) rfl rfl, (ft_pre hP hD hK hNW [0, 1, 2] [0] rfl rfl (by decide) rfl _)⟩ rfl rfl hl.1 rfl (lv_room (Nat.le_of_ble_eq_true rfl)) d_Way_judge_24 ⟨Nat.le_of_ble_eq_true rfl, Nat.le_of_ble_eq_true rfl⟩) hP hD hS hA [0, 1, 2] [] rfl rfl (by decide) (by decide) (fun r_3 u_4 H locs hu_4 hP hD hS => ?_)
      subst hu_4
      have hP : va_P D vwCl [(h, .inr (2, [.int 0, .int 1, .ref q1, .ref q3, .int br, .int bg, .int hk, .ref qt, .int hd, .int mi])), (q1, .inr (3, [.ref q2, .int (nI pay.2.1), .int pay.2.2])), (q2, .inl (cI, 400, .inl pay.1))] H := hP
      have hD : va_D A [(h, .inr (2, [.int 0, .int 1, .ref q1, .ref q3, .int br, .int bg, .int hk, .ref qt, .int hd, .int mi])), (q1, .inr (3, [.ref q2, .int (nI pay.2.1), .int pay.2.2])), (q2, .inl (cI, 400, .inl pay.1))] := hD
      refine lv_if_ne (tgt := 32) hx hb d_Way_judge_27 (by decide) (fun c27 => ?_) (fun c27 => ?_)
      · skip
        refine lv_aload_n hx hb d_Way_judge_32 rfl (lv_at hl 0 rfl) ?_
        refine va_get (D := D) (ci := 2) (v := .ref q1) (C := R_GW) (T := F_GW) (N := 10) hx hb ht bi_GW hown hK hP 0 rfl rfl 2 (by decide) (ht _ bw_93) (fun _ h9 => h9) rfl d_Way_judge_33 ?_
        refine va_getN (D := D) (ci := 3) (v := .int pay.2.2) (C := R_Row) (T := F_Row) (N := 3) hx hb ht bi_Row hown hK hP 1 rfl rfl 2 (by decide) (va_Nw.use rfl (hNW _ bn_65)) (fun _ h9 => h9) rfl d_Way_judge_36 ?_
        refine lv_if_ne (tgt := 53) hx hb d_Way_judge_39 (by decide) (fun c39 => ?_) (fun c39 => ?_)
        · skip
          refine lv_iconst (v := 3) hx hb d_Way_judge_53 (by decide +kernel) ?_
          refine lv_goto (tgt := 58) hx hb d_Way_judge_54 (by decide) ?_
          exact ft_reti () hx hb hr hlocks hP hK hD hS (by show (3 : Int32) = judge 1 br bg pay (whole0 hd mi) most; simp [judge, c4, c20, c27, c39]) d_Way_judge_58
        · skip
          refine lv_aload_n hx hb d_Way_judge_42 rfl (lv_at hl 0 rfl) ?_
          refine va_get (D := D) (ci := 2) (v := .ref q1) (C := R_GW) (T := F_GW) (N := 10) hx hb ht bi_GW hown hK hP 0 rfl rfl 2 (by decide) (ht _ bw_93) (fun _ h9 => h9) rfl d_Way_judge_43 ?_
          refine va_getN (D := D) (ci := 3) (v := .int (nI pay.2.1)) (C := R_Row) (T := F_Row) (N := 3) hx hb ht bi_Row hown hK hP 1 rfl rfl 1 (by decide) (va_Nw.use rfl (hNW _ bn_63)) (fun _ h9 => h9) rfl d_Way_judge_46 ?_
          refine lv_iload_n hx hb d_Way_judge_49 rfl (lv_at hl 1 rfl) ?_
          refine lv_icmp_le (tgt := 57) hx hb d_Way_judge_50 (by decide) (fun c50 => ?_) (fun c50 => ?_)
          · skip
            refine lv_iconst (v := 1) hx hb d_Way_judge_57 (by decide +kernel) ?_
            exact ft_reti () hx hb hr hlocks hP hK hD hS (by show (1 : Int32) = judge 1 br bg pay (whole0 hd mi) most; simp [judge, c4, c20, c27, c39, c50]) d_Way_judge_58
          · skip
            refine lv_iconst (v := 3) hx hb d_Way_judge_53 (by decide +kernel) ?_
            refine lv_goto (tgt := 58) hx hb d_Way_judge_54 (by decide) ?_
            exact ft_reti () hx hb hr hlocks hP hK hD hS (by show (3 : Int32) = judge 1 br bg pay (whole0 hd mi) most; simp [judge, c4, c20, c27, c39, c50]) d_Way_judge_58
      · skip
        refine lv_iconst (v := 2) hx hb d_Way_judge_30 (by decide +kernel) ?_
        exact ft_reti () hx hb hr hlocks hP hK hD hS (by show (2 : Int32) = judge 1 br bg pay (whole0 hd mi) most; simp [judge, c4, c20, c27]) d_Way_judge_31

set_option maxHeartbeats 4000000 in
set_option maxRecDepth 100000 in
theorem c_G_keepPayload (l : Launch) (D : va_G) (cI : ClassId) (h q1 q3 qt : Nat) (br bg hk hd mi : Int32) (sz : Nat) : ft_Mv l y_Way_keepPayload (.code y_Way_keepPayload b_Way_keepPayload 2 none :: ft_big) ({ frames := 0, cells := 0, slots := 0, locals := 0 }) D [(cI, .int)] sz [.ref h] [(h, .inr (2, [.int 0, .int 1, .ref q1, .ref q3, .int br, .int bg, .int hk, .ref qt, .int hd, .int mi]))] (fun _ : Unit => True) (fun _ => [(h, .inr (2, [.int 0, .int 1, .ref q3, .ref q1, .int br, .int bg, .int 1, .ref qt, .int hd, .int mi]))]) 0 0 := by
  refine ft_ev (cc := b_Way_keepPayload) (maxL := 2) (ret := none) (by decide) rfl (Nat.le_of_ble_eq_true rfl) ?_
  intro p e s m below meth c A ls hx hb hr hml hts hown hlocks hmn hP hK hD hA hS hNW hl
  have ht : ∀ w ∈ ft_big, w.before _ s = true := fun w h => hts w (List.mem_cons_of_mem _ h)
  have hP : va_P D vwCl [(h, .inr (2, [.int 0, .int 1, .ref q1, .ref q3, .int br, .int bg, .int hk, .ref qt, .int hd, .int mi]))] s.heap := hP
  have hD : va_D A [(h, .inr (2, [.int 0, .int 1, .ref q1, .ref q3, .int br, .int bg, .int hk, .ref qt, .int hd, .int mi]))] := hD
  have hl : lv_has ls 2 [(0, .ref h)] := hl
  refine lv_aload_n hx hb d_Way_keepPayload_0 rfl (lv_at hl 0 rfl) ?_
  refine va_get (D := D) (ci := 2) (v := .ref q3) (C := R_GW) (T := F_GW) (N := 10) hx hb ht bi_GW hown hK hP 0 rfl rfl 3 (by decide) (ht _ bw_100) (fun _ h9 => h9) rfl d_Way_keepPayload_1 ?_
  refine lv_astore_n (lv' := [(1, .ref q3), (0, .ref h)]) hx hb d_Way_keepPayload_4 rfl hl (by decide) rfl (fun ls hl => ?_)
  refine lv_aload_n hx hb d_Way_keepPayload_5 rfl (lv_at hl 1 rfl) ?_
  refine lv_aload_n hx hb d_Way_keepPayload_6 rfl (lv_at hl 1 rfl) ?_
  refine va_get (D := D) (ci := 2) (v := .ref q1) (C := R_GW) (T := F_GW) (N := 10) hx hb ht bi_GW hown hK hP 0 rfl rfl 2 (by decide) (ht _ bw_93) (fun _ h9 => h9) rfl d_Way_keepPayload_7 ?_
  refine va_put (D := D) (ci := 2) (v := .ref q1) (ty := (.object "FramingTrio$Row")) (C := R_GW) (T := F_GW) (N := 10) hx hb ht bi_GW t_GW t_GW_ok n_GW hown hK hP hD hS 0 rfl rfl 3 (by decide) (ht _ bw_100) (fun _ h9 => h9) rfl (by decide +kernel) rfl rfl (Nat.le_of_ble_eq_true rfl) d_Way_keepPayload_10 (fun H locs hP hD hS => ?_)
  have hP : va_P D vwCl [(h, .inr (2, [.int 0, .int 1, .ref q1, .ref q1, .int br, .int bg, .int hk, .ref qt, .int hd, .int mi]))] H := hP
  have hD : va_D A [(h, .inr (2, [.int 0, .int 1, .ref q1, .ref q1, .int br, .int bg, .int hk, .ref qt, .int hd, .int mi]))] := hD
  refine lv_aload_n hx hb d_Way_keepPayload_13 rfl (lv_at hl 1 rfl) ?_
  refine lv_aload_n hx hb d_Way_keepPayload_14 rfl (lv_at hl 0 rfl) ?_
  refine va_put (D := D) (ci := 2) (v := .ref q3) (ty := (.object "FramingTrio$Row")) (C := R_GW) (T := F_GW) (N := 10) hx hb ht bi_GW t_GW t_GW_ok n_GW hown hK hP hD hS 0 rfl rfl 2 (by decide) (ht _ bw_93) (fun _ h9 => h9) rfl (by decide +kernel) rfl rfl (Nat.le_of_ble_eq_true rfl) d_Way_keepPayload_15 (fun H locs hP hD hS => ?_)
  have hP : va_P D vwCl [(h, .inr (2, [.int 0, .int 1, .ref q3, .ref q1, .int br, .int bg, .int hk, .ref qt, .int hd, .int mi]))] H := hP
  have hD : va_D A [(h, .inr (2, [.int 0, .int 1, .ref q3, .ref q1, .int br, .int bg, .int hk, .ref qt, .int hd, .int mi]))] := hD
  refine lv_aload_n hx hb d_Way_keepPayload_18 rfl (lv_at hl 1 rfl) ?_
  refine lv_iconst (v := 1) hx hb d_Way_keepPayload_19 (by decide +kernel) ?_
  refine va_put (D := D) (ci := 2) (v := .int 1) (ty := .boolean) (C := R_GW) (T := F_GW) (N := 10) hx hb ht bi_GW t_GW t_GW_ok n_GW hown hK hP hD hS 0 rfl rfl 6 (by decide) (ht _ bw_108) (fun _ h9 => h9) rfl (by decide +kernel) rfl rfl (Nat.le_of_ble_eq_true rfl) d_Way_keepPayload_20 (fun H locs hP hD hS => ?_)
  have hP : va_P D vwCl [(h, .inr (2, [.int 0, .int 1, .ref q3, .ref q1, .int br, .int bg, .int 1, .ref qt, .int hd, .int mi]))] H := hP
  have hD : va_D A [(h, .inr (2, [.int 0, .int 1, .ref q3, .ref q1, .int br, .int bg, .int 1, .ref qt, .int hd, .int mi]))] := hD
  exact ft_retv () hx hb hr hlocks hP hK hD hS trivial d_Way_keepPayload_23

set_option maxHeartbeats 4000000 in
set_option maxRecDepth 100000 in
theorem c_G_finishChunk (l : Launch) (D : va_G) (cI : ClassId) (h q1 q2 q3 q4 qt : Nat) (br bg hk hd mi : Int32) (ta : Nat → Int32) (pay kept : RS) (hp : pay.2.1 ≤ 400) (hp2 : kept.2.1 ≤ 400) (most : Int32) (sz : Nat) : ft_Mi l y_Way_finishChunk (.code y_Way_finishChunk b_Way_finishChunk 3 (some .int) :: ft_big) ({ frames := 3, cells := 0, slots := 0, locals := 120 }) D [(cI, .int)] sz [.ref h, .int most] [(h, .inr (2, [.int 0, .int 1, .ref q1, .ref q3, .int br, .int bg, .int hk, .ref qt, .int hd, .int mi])), (q1, .inr (3, [.ref q2, .int (nI pay.2.1), .int pay.2.2])), (q2, .inl (cI, 400, .inl pay.1)), (q3, .inr (3, [.ref q4, .int (nI kept.2.1), .int kept.2.2])), (q4, .inl (cI, 400, .inl kept.1)), (qt, .inl (cI, 4, .inl ta))] (fun (v : Int32) (u : Nat × Nat × Nat × Nat × CS × Int32 × Int32) => v = (judge 1 br bg pay (whole0 hd mi) most) ∧ u.2.2.2.2 = (finC v (pay, kept, br, bg, hk, ta), 0, 0)) (wG h qt cI) 0 0 := by
  refine ft_ei (cc := b_Way_finishChunk) (maxL := 3) (ret := (some .int)) (by decide) rfl (Nat.le_of_ble_eq_true rfl) ?_
  intro p e s m below meth c A ls hx hb hr hml hts hown hlocks hmn hP hK hD hA hS hNW hl
  have ht : ∀ w ∈ ft_big, w.before _ s = true := fun w h => hts w (List.mem_cons_of_mem _ h)
  have hP : va_P D vwCl [(h, .inr (2, [.int 0, .int 1, .ref q1, .ref q3, .int br, .int bg, .int hk, .ref qt, .int hd, .int mi])), (q1, .inr (3, [.ref q2, .int (nI pay.2.1), .int pay.2.2])), (q2, .inl (cI, 400, .inl pay.1)), (q3, .inr (3, [.ref q4, .int (nI kept.2.1), .int kept.2.2])), (q4, .inl (cI, 400, .inl kept.1)), (qt, .inl (cI, 4, .inl ta))] s.heap := hP
  have hD : va_D A [(h, .inr (2, [.int 0, .int 1, .ref q1, .ref q3, .int br, .int bg, .int hk, .ref qt, .int hd, .int mi])), (q1, .inr (3, [.ref q2, .int (nI pay.2.1), .int pay.2.2])), (q2, .inl (cI, 400, .inl pay.1)), (q3, .inr (3, [.ref q4, .int (nI kept.2.1), .int kept.2.2])), (q4, .inl (cI, 400, .inl kept.1)), (qt, .inl (cI, 4, .inl ta))] := hD
  have hl : lv_has ls 3 [(0, .ref h), (1, .int most)] := hl
  refine lv_aload_n hx hb d_Way_finishChunk_0 rfl (lv_at hl 0 rfl) ?_
  refine lv_iload_n hx hb d_Way_finishChunk_1 rfl (lv_at hl 1 rfl) ?_
  refine ft_ci (wc := [(h, .inr (2, [.int 0, .int 1, .ref q1, .ref q3, .int br, .int bg, .int hk, .ref qt, .int hd, .int mi])), (q1, .inr (3, [.ref q2, .int (nI pay.2.1), .int pay.2.2])), (q2, .inl (cI, 400, .inl pay.1))]) (wr := [(q3, .inr (3, [.ref q4, .int (nI kept.2.1), .int kept.2.2])), (q4, .inl (cI, 400, .inl kept.1)), (qt, .inl (cI, 4, .inl ta))]) (va_runU (As := [.int most]) (rest := []) ⟨hx, hb, hml, hown, ht⟩ (c_G_judge l D cI h q1 q2 q3 qt br bg hk hd mi pay hp most s.heap.size) (ft_cwU (owner := R_Way) 1 ht bw_306 bw_585 bw_5 bw_308 bw_35 bw_309 (by decide) ⟨Nat.le_of_ble_eq_true rfl, Nat.le_of_ble_eq_true rfl⟩) ⟨ft_blind, va_recv hK hP (ci := 2) (q0 := 0) rfl rfl, (ft_pre hP hD hK hNW [0, 1, 2] [0] rfl rfl (by decide) rfl _)⟩ rfl rfl hl.1 rfl (lv_room (Nat.le_of_ble_eq_true rfl)) d_Way_finishChunk_2 ⟨Nat.le_of_ble_eq_true rfl, Nat.le_of_ble_eq_true rfl⟩) hP hD hS hA [0, 1, 2] [3, 4, 5] rfl rfl (by decide) (by decide) (fun r_1 u_2 H locs hu_2 hP hD hS => ?_)
  have hP : va_P D vwCl [(q3, .inr (3, [.ref q4, .int (nI kept.2.1), .int kept.2.2])), (q4, .inl (cI, 400, .inl kept.1)), (qt, .inl (cI, 4, .inl ta)), (h, .inr (2, [.int 0, .int 1, .ref q1, .ref q3, .int br, .int bg, .int hk, .ref qt, .int hd, .int mi])), (q1, .inr (3, [.ref q2, .int (nI pay.2.1), .int pay.2.2])), (q2, .inl (cI, 400, .inl pay.1))] H := hP
  have hD : va_D A [(q3, .inr (3, [.ref q4, .int (nI kept.2.1), .int kept.2.2])), (q4, .inl (cI, 400, .inl kept.1)), (qt, .inl (cI, 4, .inl ta)), (h, .inr (2, [.int 0, .int 1, .ref q1, .ref q3, .int br, .int bg, .int hk, .ref qt, .int hd, .int mi])), (q1, .inr (3, [.ref q2, .int (nI pay.2.1), .int pay.2.2])), (q2, .inl (cI, 400, .inl pay.1))] := hD
  have e_v := hu_2
  rcases judge_4 1 br bg pay (whole0 hd mi) most with hv | hv | hv | hv
  · rw [hv] at hu_2
    subst hu_2
    refine lv_istore_n (lv' := [(2, .int 0), (0, .ref h), (1, .int most)]) hx hb d_Way_finishChunk_5 rfl hl (by decide) rfl (fun ls hl => ?_)
    refine lv_iload_n hx hb d_Way_finishChunk_6 rfl (lv_at hl 0 rfl) ?_
    refine lv_iconst (v := 1) hx hb d_Way_finishChunk_7 (by decide +kernel) ?_
    refine lv_icmp_lt (tgt := 26) hx hb d_Way_finishChunk_8 (by decide) (fun _ => ?_) (fun c8 => absurd (by decide) c8)
    refine lv_iload_n hx hb d_Way_finishChunk_26 rfl (lv_at hl 0 rfl) ?_
    refine lv_iconst (v := 1) hx hb d_Way_finishChunk_27 (by decide +kernel) ?_
    refine lv_icmp_ne (tgt := 35) hx hb d_Way_finishChunk_28 (by decide) (fun _ => ?_) (fun c28 => absurd c28 (by decide))
    refine lv_aload_n hx hb d_Way_finishChunk_35 rfl (lv_at hl 1 rfl) ?_
    refine va_get (D := D) (ci := 2) (v := .ref q1) (C := R_GW) (T := F_GW) (N := 10) hx hb ht bi_GW hown hK hP 3 rfl rfl 2 (by decide) (ht _ bw_93) (fun _ h9 => h9) rfl d_Way_finishChunk_36 ?_
    refine lv_iconst (v := nI 0) hx hb d_Way_finishChunk_39 (by decide +kernel) ?_
    refine ft_cv (wc := [(q1, .inr (3, [.ref q2, .int (nI pay.2.1), .int pay.2.2])), (q2, .inl (cI, 400, .inl pay.1))]) (wr := [(q3, .inr (3, [.ref q4, .int (nI kept.2.1), .int kept.2.2])), (q4, .inl (cI, 400, .inl kept.1)), (qt, .inl (cI, 4, .inl ta)), (h, .inr (2, [.int 0, .int 1, .ref q1, .ref q3, .int br, .int bg, .int hk, .ref qt, .int hd, .int mi]))]) (va_runV (As := [.int (nI 0)]) (rest := []) ⟨hx, hb, hml, hown, ht⟩ (c_Row_cutTo l D cI q1 q2 400 (by omega) pay hp 0 (by omega) H.size) (ft_cwV 1 ht bw_326 bw_210 bw_211 bw_33 bw_212 (by decide) ⟨Nat.le_of_ble_eq_true rfl, Nat.le_of_ble_eq_true rfl⟩) ⟨ft_blind, va_recv hK hP (ci := 3) (q0 := 4) rfl rfl, (ft_pre hP hD hK hNW [4, 5] [0] rfl rfl (by decide) rfl _)⟩ rfl rfl hl.1 rfl (lv_room (Nat.le_of_ble_eq_true rfl)) d_Way_finishChunk_40 ⟨Nat.le_of_ble_eq_true rfl, Nat.le_of_ble_eq_true rfl⟩) hP hD hS hA [4, 5] [0, 1, 2, 3] rfl rfl (by decide) (by decide) (fun u_4 H locs hu_4 hP hD hS => ?_)
    have le_u_4 : u_4.2.1 ≤ 400 := by rw [hu_4]; exact rcut_le hp
    have hP : va_P D vwCl [(q3, .inr (3, [.ref q4, .int (nI kept.2.1), .int kept.2.2])), (q4, .inl (cI, 400, .inl kept.1)), (qt, .inl (cI, 4, .inl ta)), (h, .inr (2, [.int 0, .int 1, .ref q1, .ref q3, .int br, .int bg, .int hk, .ref qt, .int hd, .int mi])), (q1, .inr (3, [.ref q2, .int (nI u_4.2.1), .int u_4.2.2])), (q2, .inl (cI, 400, .inl u_4.1))] H := hP
    have hD : va_D A [(q3, .inr (3, [.ref q4, .int (nI kept.2.1), .int kept.2.2])), (q4, .inl (cI, 400, .inl kept.1)), (qt, .inl (cI, 4, .inl ta)), (h, .inr (2, [.int 0, .int 1, .ref q1, .ref q3, .int br, .int bg, .int hk, .ref qt, .int hd, .int mi])), (q1, .inr (3, [.ref q2, .int (nI u_4.2.1), .int u_4.2.2])), (q2, .inl (cI, 400, .inl u_4.1))] := hD
    rw [rcut_0] at hu_4
    refine lv_aload_n hx hb d_Way_finishChunk_43 rfl (lv_at hl 1 rfl) ?_
    refine lv_iconst (v := 0) hx hb d_Way_finishChunk_44 (by decide +kernel) ?_
    refine va_put (D := D) (ci := 2) (v := .int 0) (ty := .boolean) (C := R_GW) (T := F_GW) (N := 10) hx hb ht bi_GW t_GW t_GW_ok n_GW hown hK hP hD hS 3 rfl rfl 4 (by decide) (ht _ bw_102) (fun _ h9 => h9) rfl (by decide +kernel) rfl rfl (Nat.le_of_ble_eq_true rfl) d_Way_finishChunk_45 (fun H locs hP hD hS => ?_)
    have hP : va_P D vwCl [(q3, .inr (3, [.ref q4, .int (nI kept.2.1), .int kept.2.2])), (q4, .inl (cI, 400, .inl kept.1)), (qt, .inl (cI, 4, .inl ta)), (h, .inr (2, [.int 0, .int 1, .ref q1, .ref q3, .int 0, .int bg, .int hk, .ref qt, .int hd, .int mi])), (q1, .inr (3, [.ref q2, .int (nI u_4.2.1), .int u_4.2.2])), (q2, .inl (cI, 400, .inl u_4.1))] H := hP
    have hD : va_D A [(q3, .inr (3, [.ref q4, .int (nI kept.2.1), .int kept.2.2])), (q4, .inl (cI, 400, .inl kept.1)), (qt, .inl (cI, 4, .inl ta)), (h, .inr (2, [.int 0, .int 1, .ref q1, .ref q3, .int 0, .int bg, .int hk, .ref qt, .int hd, .int mi])), (q1, .inr (3, [.ref q2, .int (nI u_4.2.1), .int u_4.2.2])), (q2, .inl (cI, 400, .inl u_4.1))] := hD
    refine lv_aload_n hx hb d_Way_finishChunk_48 rfl (lv_at hl 1 rfl) ?_
    refine lv_iconst (v := 0) hx hb d_Way_finishChunk_49 (by decide +kernel) ?_
    refine va_put (D := D) (ci := 2) (v := .int 0) (ty := .boolean) (C := R_GW) (T := F_GW) (N := 10) hx hb ht bi_GW t_GW t_GW_ok n_GW hown hK hP hD hS 3 rfl rfl 5 (by decide) (ht _ bw_107) (fun _ h9 => h9) rfl (by decide +kernel) rfl rfl (Nat.le_of_ble_eq_true rfl) d_Way_finishChunk_50 (fun H locs hP hD hS => ?_)
    have hP : va_P D vwCl [(q3, .inr (3, [.ref q4, .int (nI kept.2.1), .int kept.2.2])), (q4, .inl (cI, 400, .inl kept.1)), (qt, .inl (cI, 4, .inl ta)), (h, .inr (2, [.int 0, .int 1, .ref q1, .ref q3, .int 0, .int 0, .int hk, .ref qt, .int hd, .int mi])), (q1, .inr (3, [.ref q2, .int (nI u_4.2.1), .int u_4.2.2])), (q2, .inl (cI, 400, .inl u_4.1))] H := hP
    have hD : va_D A [(q3, .inr (3, [.ref q4, .int (nI kept.2.1), .int kept.2.2])), (q4, .inl (cI, 400, .inl kept.1)), (qt, .inl (cI, 4, .inl ta)), (h, .inr (2, [.int 0, .int 1, .ref q1, .ref q3, .int 0, .int 0, .int hk, .ref qt, .int hd, .int mi])), (q1, .inr (3, [.ref q2, .int (nI u_4.2.1), .int u_4.2.2])), (q2, .inl (cI, 400, .inl u_4.1))] := hD
    refine lv_aload_n hx hb d_Way_finishChunk_53 rfl (lv_at hl 1 rfl) ?_
    refine ft_cv (wc := [(h, .inr (2, [.int 0, .int 1, .ref q1, .ref q3, .int 0, .int 0, .int hk, .ref qt, .int hd, .int mi]))]) (wr := [(q3, .inr (3, [.ref q4, .int (nI kept.2.1), .int kept.2.2])), (q4, .inl (cI, 400, .inl kept.1)), (qt, .inl (cI, 4, .inl ta)), (q1, .inr (3, [.ref q2, .int (nI u_4.2.1), .int u_4.2.2])), (q2, .inl (cI, 400, .inl u_4.1))]) (va_runU (As := []) (rest := []) ⟨hx, hb, hml, hown, ht⟩ (c_G_forgetChunk l D cI h q1 q3 qt 0 0 hk hd mi H.size) (ft_cwA (owner := R_Way) 0 ht bw_327 bw_329 bw_336 bw_337 bw_36 bw_338 (hNW _ bn_328) (by decide) ⟨Nat.le_of_ble_eq_true rfl, Nat.le_of_ble_eq_true rfl⟩) ⟨ft_blind, va_recv hK hP (ci := 2) (q0 := 3) rfl rfl, (ft_pre hP hD hK hNW [3] [0] rfl rfl (by decide) rfl _)⟩ rfl rfl hl.1 rfl (lv_room (Nat.le_of_ble_eq_true rfl)) d_Way_finishChunk_54 ⟨Nat.le_of_ble_eq_true rfl, Nat.le_of_ble_eq_true rfl⟩) hP hD hS hA [3] [0, 1, 2, 4, 5] rfl rfl (by decide) (by decide) (fun u_6 H locs hu_6 hP hD hS => ?_)
    have hP : va_P D vwCl [(q3, .inr (3, [.ref q4, .int (nI kept.2.1), .int kept.2.2])), (q4, .inl (cI, 400, .inl kept.1)), (qt, .inl (cI, 4, .inl ta)), (q1, .inr (3, [.ref q2, .int (nI u_4.2.1), .int u_4.2.2])), (q2, .inl (cI, 400, .inl u_4.1)), (h, .inr (2, [.int 0, .int 1, .ref q1, .ref q3, .int 0, .int 0, .int hk, .ref qt, .int 0, .int 0]))] H := hP
    have hD : va_D A [(q3, .inr (3, [.ref q4, .int (nI kept.2.1), .int kept.2.2])), (q4, .inl (cI, 400, .inl kept.1)), (qt, .inl (cI, 4, .inl ta)), (q1, .inr (3, [.ref q2, .int (nI u_4.2.1), .int u_4.2.2])), (q2, .inl (cI, 400, .inl u_4.1)), (h, .inr (2, [.int 0, .int 1, .ref q1, .ref q3, .int 0, .int 0, .int hk, .ref qt, .int 0, .int 0]))] := hD
    refine lv_iload_n hx hb d_Way_finishChunk_57 rfl (lv_at hl 0 rfl) ?_
    exact ft_reti (q1, q2, q3, q4, (u_4, kept, 0, 0, hk, ta), 0, 0) hx hb hr hlocks (hP.sub [5, 3, 4, 0, 1, 2] rfl) hK (hD.sub [5, 3, 4, 0, 1, 2] (by decide) rfl) hS ⟨hv.symm, by simp [finC, hu_4, hu_6]⟩ d_Way_finishChunk_58
  · rw [hv] at hu_2
    subst hu_2
    refine lv_istore_n (lv' := [(2, .int 1), (0, .ref h), (1, .int most)]) hx hb d_Way_finishChunk_5 rfl hl (by decide) rfl (fun ls hl => ?_)
    refine lv_iload_n hx hb d_Way_finishChunk_6 rfl (lv_at hl 0 rfl) ?_
    refine lv_iconst (v := 1) hx hb d_Way_finishChunk_7 (by decide +kernel) ?_
    refine lv_icmp_lt (tgt := 26) hx hb d_Way_finishChunk_8 (by decide) (fun c8 => absurd c8 (by decide)) (fun _ => ?_)
    refine lv_iload_n hx hb d_Way_finishChunk_11 rfl (lv_at hl 0 rfl) ?_
    refine lv_iconst (v := 3) hx hb d_Way_finishChunk_12 (by decide +kernel) ?_
    refine lv_icmp_gt (tgt := 26) hx hb d_Way_finishChunk_13 (by decide) (fun c13 => absurd c13 (by decide)) (fun _ => ?_)
    refine lv_aload_n hx hb d_Way_finishChunk_16 rfl (lv_at hl 1 rfl) ?_
    refine va_get (D := D) (ci := 2) (v := .ref qt) (C := R_GW) (T := F_GW) (N := 10) hx hb ht bi_GW hown hK hP 3 rfl rfl 7 (by decide) (ht _ bw_109) (fun _ h9 => h9) rfl d_Way_finishChunk_17 ?_
    refine lv_iload_n hx hb d_Way_finishChunk_20 rfl (lv_at hl 0 rfl) ?_
    refine lv_dup2_11 hx hb d_Way_finishChunk_21 rfl rfl ?_
    refine va_iald hx hb hK hP 2 0 rfl rfl (vp_in_iff.mpr (by decide)) d_Way_finishChunk_22 ?_
    refine ft_top (congrArg ta (show (1 : Int32).toNatClampNeg = 1 from by decide)) ?_
    refine lv_iconst (v := 1) hx hb d_Way_finishChunk_23 (by decide +kernel) ?_
    refine lv_iadd hx hb d_Way_finishChunk_24 ?_
    refine va_iast hx hb hK hP hD hS 2 0 rfl rfl (vp_in_iff.mpr (by decide)) d_Way_finishChunk_25 (fun H locs hP hD hS => ?_)
    rw [show (1 : Int32).toNatClampNeg = 1 from by decide] at hP hD
    have hP : va_P D vwCl [(q3, .inr (3, [.ref q4, .int (nI kept.2.1), .int kept.2.2])), (q4, .inl (cI, 400, .inl kept.1)), (qt, .inl (cI, 4, .inl (upd ta 1 ((ta 1) + 1)))), (h, .inr (2, [.int 0, .int 1, .ref q1, .ref q3, .int br, .int bg, .int hk, .ref qt, .int hd, .int mi])), (q1, .inr (3, [.ref q2, .int (nI pay.2.1), .int pay.2.2])), (q2, .inl (cI, 400, .inl pay.1))] H := hP
    have hD : va_D A [(q3, .inr (3, [.ref q4, .int (nI kept.2.1), .int kept.2.2])), (q4, .inl (cI, 400, .inl kept.1)), (qt, .inl (cI, 4, .inl (upd ta 1 ((ta 1) + 1)))), (h, .inr (2, [.int 0, .int 1, .ref q1, .ref q3, .int br, .int bg, .int hk, .ref qt, .int hd, .int mi])), (q1, .inr (3, [.ref q2, .int (nI pay.2.1), .int pay.2.2])), (q2, .inl (cI, 400, .inl pay.1))] := hD
    refine lv_iload_n hx hb d_Way_finishChunk_26 rfl (lv_at hl 0 rfl) ?_
    refine lv_iconst (v := 1) hx hb d_Way_finishChunk_27 (by decide +kernel) ?_
    refine lv_icmp_ne (tgt := 35) hx hb d_Way_finishChunk_28 (by decide) (fun c28 => absurd (by decide) c28) (fun _ => ?_)
    refine lv_aload_n hx hb d_Way_finishChunk_31 rfl (lv_at hl 1 rfl) ?_
    refine ft_cv (wc := [(h, .inr (2, [.int 0, .int 1, .ref q1, .ref q3, .int br, .int bg, .int hk, .ref qt, .int hd, .int mi]))]) (wr := [(q3, .inr (3, [.ref q4, .int (nI kept.2.1), .int kept.2.2])), (q4, .inl (cI, 400, .inl kept.1)), (qt, .inl (cI, 4, .inl (upd ta 1 ((ta 1) + 1)))), (q1, .inr (3, [.ref q2, .int (nI pay.2.1), .int pay.2.2])), (q2, .inl (cI, 400, .inl pay.1))]) (va_runU (As := []) (rest := []) ⟨hx, hb, hml, hown, ht⟩ (c_G_keepPayload l D cI h q1 q3 qt br bg hk hd mi H.size) (ft_cwU (owner := R_Way) 0 ht bw_322 bw_586 bw_8 bw_324 bw_35 bw_325 (by decide) ⟨Nat.le_of_ble_eq_true rfl, Nat.le_of_ble_eq_true rfl⟩) ⟨ft_blind, va_recv hK hP (ci := 2) (q0 := 3) rfl rfl, (ft_pre hP hD hK hNW [3] [0] rfl rfl (by decide) rfl _)⟩ rfl rfl hl.1 rfl (lv_room (Nat.le_of_ble_eq_true rfl)) d_Way_finishChunk_32 ⟨Nat.le_of_ble_eq_true rfl, Nat.le_of_ble_eq_true rfl⟩) hP hD hS hA [3] [0, 1, 2, 4, 5] rfl rfl (by decide) (by decide) (fun u_8 H locs hu_8 hP hD hS => ?_)
    have hP : va_P D vwCl [(q3, .inr (3, [.ref q4, .int (nI kept.2.1), .int kept.2.2])), (q4, .inl (cI, 400, .inl kept.1)), (qt, .inl (cI, 4, .inl (upd ta 1 ((ta 1) + 1)))), (q1, .inr (3, [.ref q2, .int (nI pay.2.1), .int pay.2.2])), (q2, .inl (cI, 400, .inl pay.1)), (h, .inr (2, [.int 0, .int 1, .ref q3, .ref q1, .int br, .int bg, .int 1, .ref qt, .int hd, .int mi]))] H := hP
    have hD : va_D A [(q3, .inr (3, [.ref q4, .int (nI kept.2.1), .int kept.2.2])), (q4, .inl (cI, 400, .inl kept.1)), (qt, .inl (cI, 4, .inl (upd ta 1 ((ta 1) + 1)))), (q1, .inr (3, [.ref q2, .int (nI pay.2.1), .int pay.2.2])), (q2, .inl (cI, 400, .inl pay.1)), (h, .inr (2, [.int 0, .int 1, .ref q3, .ref q1, .int br, .int bg, .int 1, .ref qt, .int hd, .int mi]))] := hD
    refine lv_aload_n hx hb d_Way_finishChunk_35 rfl (lv_at hl 1 rfl) ?_
    refine va_get (D := D) (ci := 2) (v := .ref q3) (C := R_GW) (T := F_GW) (N := 10) hx hb ht bi_GW hown hK hP 5 rfl rfl 2 (by decide) (ht _ bw_93) (fun _ h9 => h9) rfl d_Way_finishChunk_36 ?_
    refine lv_iconst (v := nI 0) hx hb d_Way_finishChunk_39 (by decide +kernel) ?_
    refine ft_cv (wc := [(q3, .inr (3, [.ref q4, .int (nI kept.2.1), .int kept.2.2])), (q4, .inl (cI, 400, .inl kept.1))]) (wr := [(qt, .inl (cI, 4, .inl (upd ta 1 ((ta 1) + 1)))), (q1, .inr (3, [.ref q2, .int (nI pay.2.1), .int pay.2.2])), (q2, .inl (cI, 400, .inl pay.1)), (h, .inr (2, [.int 0, .int 1, .ref q3, .ref q1, .int br, .int bg, .int 1, .ref qt, .int hd, .int mi]))]) (va_runV (As := [.int (nI 0)]) (rest := []) ⟨hx, hb, hml, hown, ht⟩ (c_Row_cutTo l D cI q3 q4 400 (by omega) kept hp2 0 (by omega) H.size) (ft_cwV 1 ht bw_326 bw_210 bw_211 bw_33 bw_212 (by decide) ⟨Nat.le_of_ble_eq_true rfl, Nat.le_of_ble_eq_true rfl⟩) ⟨ft_blind, va_recv hK hP (ci := 3) (q0 := 0) rfl rfl, (ft_pre hP hD hK hNW [0, 1] [0] rfl rfl (by decide) rfl _)⟩ rfl rfl hl.1 rfl (lv_room (Nat.le_of_ble_eq_true rfl)) d_Way_finishChunk_40 ⟨Nat.le_of_ble_eq_true rfl, Nat.le_of_ble_eq_true rfl⟩) hP hD hS hA [0, 1] [2, 3, 4, 5] rfl rfl (by decide) (by decide) (fun u_10 H locs hu_10 hP hD hS => ?_)
    have le_u_10 : u_10.2.1 ≤ 400 := by rw [hu_10]; exact rcut_le hp2
    have hP : va_P D vwCl [(qt, .inl (cI, 4, .inl (upd ta 1 ((ta 1) + 1)))), (q1, .inr (3, [.ref q2, .int (nI pay.2.1), .int pay.2.2])), (q2, .inl (cI, 400, .inl pay.1)), (h, .inr (2, [.int 0, .int 1, .ref q3, .ref q1, .int br, .int bg, .int 1, .ref qt, .int hd, .int mi])), (q3, .inr (3, [.ref q4, .int (nI u_10.2.1), .int u_10.2.2])), (q4, .inl (cI, 400, .inl u_10.1))] H := hP
    have hD : va_D A [(qt, .inl (cI, 4, .inl (upd ta 1 ((ta 1) + 1)))), (q1, .inr (3, [.ref q2, .int (nI pay.2.1), .int pay.2.2])), (q2, .inl (cI, 400, .inl pay.1)), (h, .inr (2, [.int 0, .int 1, .ref q3, .ref q1, .int br, .int bg, .int 1, .ref qt, .int hd, .int mi])), (q3, .inr (3, [.ref q4, .int (nI u_10.2.1), .int u_10.2.2])), (q4, .inl (cI, 400, .inl u_10.1))] := hD
    rw [rcut_0] at hu_10
    refine lv_aload_n hx hb d_Way_finishChunk_43 rfl (lv_at hl 1 rfl) ?_
    refine lv_iconst (v := 0) hx hb d_Way_finishChunk_44 (by decide +kernel) ?_
    refine va_put (D := D) (ci := 2) (v := .int 0) (ty := .boolean) (C := R_GW) (T := F_GW) (N := 10) hx hb ht bi_GW t_GW t_GW_ok n_GW hown hK hP hD hS 3 rfl rfl 4 (by decide) (ht _ bw_102) (fun _ h9 => h9) rfl (by decide +kernel) rfl rfl (Nat.le_of_ble_eq_true rfl) d_Way_finishChunk_45 (fun H locs hP hD hS => ?_)
    have hP : va_P D vwCl [(qt, .inl (cI, 4, .inl (upd ta 1 ((ta 1) + 1)))), (q1, .inr (3, [.ref q2, .int (nI pay.2.1), .int pay.2.2])), (q2, .inl (cI, 400, .inl pay.1)), (h, .inr (2, [.int 0, .int 1, .ref q3, .ref q1, .int 0, .int bg, .int 1, .ref qt, .int hd, .int mi])), (q3, .inr (3, [.ref q4, .int (nI u_10.2.1), .int u_10.2.2])), (q4, .inl (cI, 400, .inl u_10.1))] H := hP
    have hD : va_D A [(qt, .inl (cI, 4, .inl (upd ta 1 ((ta 1) + 1)))), (q1, .inr (3, [.ref q2, .int (nI pay.2.1), .int pay.2.2])), (q2, .inl (cI, 400, .inl pay.1)), (h, .inr (2, [.int 0, .int 1, .ref q3, .ref q1, .int 0, .int bg, .int 1, .ref qt, .int hd, .int mi])), (q3, .inr (3, [.ref q4, .int (nI u_10.2.1), .int u_10.2.2])), (q4, .inl (cI, 400, .inl u_10.1))] := hD
    refine lv_aload_n hx hb d_Way_finishChunk_48 rfl (lv_at hl 1 rfl) ?_
    refine lv_iconst (v := 0) hx hb d_Way_finishChunk_49 (by decide +kernel) ?_
    refine va_put (D := D) (ci := 2) (v := .int 0) (ty := .boolean) (C := R_GW) (T := F_GW) (N := 10) hx hb ht bi_GW t_GW t_GW_ok n_GW hown hK hP hD hS 3 rfl rfl 5 (by decide) (ht _ bw_107) (fun _ h9 => h9) rfl (by decide +kernel) rfl rfl (Nat.le_of_ble_eq_true rfl) d_Way_finishChunk_50 (fun H locs hP hD hS => ?_)
    have hP : va_P D vwCl [(qt, .inl (cI, 4, .inl (upd ta 1 ((ta 1) + 1)))), (q1, .inr (3, [.ref q2, .int (nI pay.2.1), .int pay.2.2])), (q2, .inl (cI, 400, .inl pay.1)), (h, .inr (2, [.int 0, .int 1, .ref q3, .ref q1, .int 0, .int 0, .int 1, .ref qt, .int hd, .int mi])), (q3, .inr (3, [.ref q4, .int (nI u_10.2.1), .int u_10.2.2])), (q4, .inl (cI, 400, .inl u_10.1))] H := hP
    have hD : va_D A [(qt, .inl (cI, 4, .inl (upd ta 1 ((ta 1) + 1)))), (q1, .inr (3, [.ref q2, .int (nI pay.2.1), .int pay.2.2])), (q2, .inl (cI, 400, .inl pay.1)), (h, .inr (2, [.int 0, .int 1, .ref q3, .ref q1, .int 0, .int 0, .int 1, .ref qt, .int hd, .int mi])), (q3, .inr (3, [.ref q4, .int (nI u_10.2.1), .int u_10.2.2])), (q4, .inl (cI, 400, .inl u_10.1))] := hD
    refine lv_aload_n hx hb d_Way_finishChunk_53 rfl (lv_at hl 1 rfl) ?_
    refine ft_cv (wc := [(h, .inr (2, [.int 0, .int 1, .ref q3, .ref q1, .int 0, .int 0, .int 1, .ref qt, .int hd, .int mi]))]) (wr := [(qt, .inl (cI, 4, .inl (upd ta 1 ((ta 1) + 1)))), (q1, .inr (3, [.ref q2, .int (nI pay.2.1), .int pay.2.2])), (q2, .inl (cI, 400, .inl pay.1)), (q3, .inr (3, [.ref q4, .int (nI u_10.2.1), .int u_10.2.2])), (q4, .inl (cI, 400, .inl u_10.1))]) (va_runU (As := []) (rest := []) ⟨hx, hb, hml, hown, ht⟩ (c_G_forgetChunk l D cI h q3 q1 qt 0 0 1 hd mi H.size) (ft_cwA (owner := R_Way) 0 ht bw_327 bw_329 bw_336 bw_337 bw_36 bw_338 (hNW _ bn_328) (by decide) ⟨Nat.le_of_ble_eq_true rfl, Nat.le_of_ble_eq_true rfl⟩) ⟨ft_blind, va_recv hK hP (ci := 2) (q0 := 3) rfl rfl, (ft_pre hP hD hK hNW [3] [0] rfl rfl (by decide) rfl _)⟩ rfl rfl hl.1 rfl (lv_room (Nat.le_of_ble_eq_true rfl)) d_Way_finishChunk_54 ⟨Nat.le_of_ble_eq_true rfl, Nat.le_of_ble_eq_true rfl⟩) hP hD hS hA [3] [0, 1, 2, 4, 5] rfl rfl (by decide) (by decide) (fun u_12 H locs hu_12 hP hD hS => ?_)
    have hP : va_P D vwCl [(qt, .inl (cI, 4, .inl (upd ta 1 ((ta 1) + 1)))), (q1, .inr (3, [.ref q2, .int (nI pay.2.1), .int pay.2.2])), (q2, .inl (cI, 400, .inl pay.1)), (q3, .inr (3, [.ref q4, .int (nI u_10.2.1), .int u_10.2.2])), (q4, .inl (cI, 400, .inl u_10.1)), (h, .inr (2, [.int 0, .int 1, .ref q3, .ref q1, .int 0, .int 0, .int 1, .ref qt, .int 0, .int 0]))] H := hP
    have hD : va_D A [(qt, .inl (cI, 4, .inl (upd ta 1 ((ta 1) + 1)))), (q1, .inr (3, [.ref q2, .int (nI pay.2.1), .int pay.2.2])), (q2, .inl (cI, 400, .inl pay.1)), (q3, .inr (3, [.ref q4, .int (nI u_10.2.1), .int u_10.2.2])), (q4, .inl (cI, 400, .inl u_10.1)), (h, .inr (2, [.int 0, .int 1, .ref q3, .ref q1, .int 0, .int 0, .int 1, .ref qt, .int 0, .int 0]))] := hD
    refine lv_iload_n hx hb d_Way_finishChunk_57 rfl (lv_at hl 0 rfl) ?_
    exact ft_reti (q3, q4, q1, q2, (u_10, pay, 0, 0, 1, upd ta 1 ((ta 1) + 1)), 0, 0) hx hb hr hlocks (hP.sub [5, 3, 4, 1, 2, 0] rfl) hK (hD.sub [5, 3, 4, 1, 2, 0] (by decide) rfl) hS ⟨hv.symm, by simp [finC, hu_8, hu_10, hu_12]⟩ d_Way_finishChunk_58
  · rw [hv] at hu_2
    subst hu_2
    refine lv_istore_n (lv' := [(2, .int 2), (0, .ref h), (1, .int most)]) hx hb d_Way_finishChunk_5 rfl hl (by decide) rfl (fun ls hl => ?_)
    refine lv_iload_n hx hb d_Way_finishChunk_6 rfl (lv_at hl 0 rfl) ?_
    refine lv_iconst (v := 1) hx hb d_Way_finishChunk_7 (by decide +kernel) ?_
    refine lv_icmp_lt (tgt := 26) hx hb d_Way_finishChunk_8 (by decide) (fun c8 => absurd c8 (by decide)) (fun _ => ?_)
    refine lv_iload_n hx hb d_Way_finishChunk_11 rfl (lv_at hl 0 rfl) ?_
    refine lv_iconst (v := 3) hx hb d_Way_finishChunk_12 (by decide +kernel) ?_
    refine lv_icmp_gt (tgt := 26) hx hb d_Way_finishChunk_13 (by decide) (fun c13 => absurd c13 (by decide)) (fun _ => ?_)
    refine lv_aload_n hx hb d_Way_finishChunk_16 rfl (lv_at hl 1 rfl) ?_
    refine va_get (D := D) (ci := 2) (v := .ref qt) (C := R_GW) (T := F_GW) (N := 10) hx hb ht bi_GW hown hK hP 3 rfl rfl 7 (by decide) (ht _ bw_109) (fun _ h9 => h9) rfl d_Way_finishChunk_17 ?_
    refine lv_iload_n hx hb d_Way_finishChunk_20 rfl (lv_at hl 0 rfl) ?_
    refine lv_dup2_11 hx hb d_Way_finishChunk_21 rfl rfl ?_
    refine va_iald hx hb hK hP 2 0 rfl rfl (vp_in_iff.mpr (by decide)) d_Way_finishChunk_22 ?_
    refine ft_top (congrArg ta (show (2 : Int32).toNatClampNeg = 2 from by decide)) ?_
    refine lv_iconst (v := 1) hx hb d_Way_finishChunk_23 (by decide +kernel) ?_
    refine lv_iadd hx hb d_Way_finishChunk_24 ?_
    refine va_iast hx hb hK hP hD hS 2 0 rfl rfl (vp_in_iff.mpr (by decide)) d_Way_finishChunk_25 (fun H locs hP hD hS => ?_)
    rw [show (2 : Int32).toNatClampNeg = 2 from by decide] at hP hD
    have hP : va_P D vwCl [(q3, .inr (3, [.ref q4, .int (nI kept.2.1), .int kept.2.2])), (q4, .inl (cI, 400, .inl kept.1)), (qt, .inl (cI, 4, .inl (upd ta 2 ((ta 2) + 1)))), (h, .inr (2, [.int 0, .int 1, .ref q1, .ref q3, .int br, .int bg, .int hk, .ref qt, .int hd, .int mi])), (q1, .inr (3, [.ref q2, .int (nI pay.2.1), .int pay.2.2])), (q2, .inl (cI, 400, .inl pay.1))] H := hP
    have hD : va_D A [(q3, .inr (3, [.ref q4, .int (nI kept.2.1), .int kept.2.2])), (q4, .inl (cI, 400, .inl kept.1)), (qt, .inl (cI, 4, .inl (upd ta 2 ((ta 2) + 1)))), (h, .inr (2, [.int 0, .int 1, .ref q1, .ref q3, .int br, .int bg, .int hk, .ref qt, .int hd, .int mi])), (q1, .inr (3, [.ref q2, .int (nI pay.2.1), .int pay.2.2])), (q2, .inl (cI, 400, .inl pay.1))] := hD
    refine lv_iload_n hx hb d_Way_finishChunk_26 rfl (lv_at hl 0 rfl) ?_
    refine lv_iconst (v := 1) hx hb d_Way_finishChunk_27 (by decide +kernel) ?_
    refine lv_icmp_ne (tgt := 35) hx hb d_Way_finishChunk_28 (by decide) (fun _ => ?_) (fun c28 => absurd c28 (by decide))
    refine lv_aload_n hx hb d_Way_finishChunk_35 rfl (lv_at hl 1 rfl) ?_
    refine va_get (D := D) (ci := 2) (v := .ref q1) (C := R_GW) (T := F_GW) (N := 10) hx hb ht bi_GW hown hK hP 3 rfl rfl 2 (by decide) (ht _ bw_93) (fun _ h9 => h9) rfl d_Way_finishChunk_36 ?_
    refine lv_iconst (v := nI 0) hx hb d_Way_finishChunk_39 (by decide +kernel) ?_
    refine ft_cv (wc := [(q1, .inr (3, [.ref q2, .int (nI pay.2.1), .int pay.2.2])), (q2, .inl (cI, 400, .inl pay.1))]) (wr := [(q3, .inr (3, [.ref q4, .int (nI kept.2.1), .int kept.2.2])), (q4, .inl (cI, 400, .inl kept.1)), (qt, .inl (cI, 4, .inl (upd ta 2 ((ta 2) + 1)))), (h, .inr (2, [.int 0, .int 1, .ref q1, .ref q3, .int br, .int bg, .int hk, .ref qt, .int hd, .int mi]))]) (va_runV (As := [.int (nI 0)]) (rest := []) ⟨hx, hb, hml, hown, ht⟩ (c_Row_cutTo l D cI q1 q2 400 (by omega) pay hp 0 (by omega) H.size) (ft_cwV 1 ht bw_326 bw_210 bw_211 bw_33 bw_212 (by decide) ⟨Nat.le_of_ble_eq_true rfl, Nat.le_of_ble_eq_true rfl⟩) ⟨ft_blind, va_recv hK hP (ci := 3) (q0 := 4) rfl rfl, (ft_pre hP hD hK hNW [4, 5] [0] rfl rfl (by decide) rfl _)⟩ rfl rfl hl.1 rfl (lv_room (Nat.le_of_ble_eq_true rfl)) d_Way_finishChunk_40 ⟨Nat.le_of_ble_eq_true rfl, Nat.le_of_ble_eq_true rfl⟩) hP hD hS hA [4, 5] [0, 1, 2, 3] rfl rfl (by decide) (by decide) (fun u_14 H locs hu_14 hP hD hS => ?_)
    have le_u_14 : u_14.2.1 ≤ 400 := by rw [hu_14]; exact rcut_le hp
    have hP : va_P D vwCl [(q3, .inr (3, [.ref q4, .int (nI kept.2.1), .int kept.2.2])), (q4, .inl (cI, 400, .inl kept.1)), (qt, .inl (cI, 4, .inl (upd ta 2 ((ta 2) + 1)))), (h, .inr (2, [.int 0, .int 1, .ref q1, .ref q3, .int br, .int bg, .int hk, .ref qt, .int hd, .int mi])), (q1, .inr (3, [.ref q2, .int (nI u_14.2.1), .int u_14.2.2])), (q2, .inl (cI, 400, .inl u_14.1))] H := hP
    have hD : va_D A [(q3, .inr (3, [.ref q4, .int (nI kept.2.1), .int kept.2.2])), (q4, .inl (cI, 400, .inl kept.1)), (qt, .inl (cI, 4, .inl (upd ta 2 ((ta 2) + 1)))), (h, .inr (2, [.int 0, .int 1, .ref q1, .ref q3, .int br, .int bg, .int hk, .ref qt, .int hd, .int mi])), (q1, .inr (3, [.ref q2, .int (nI u_14.2.1), .int u_14.2.2])), (q2, .inl (cI, 400, .inl u_14.1))] := hD
    rw [rcut_0] at hu_14
    refine lv_aload_n hx hb d_Way_finishChunk_43 rfl (lv_at hl 1 rfl) ?_
    refine lv_iconst (v := 0) hx hb d_Way_finishChunk_44 (by decide +kernel) ?_
    refine va_put (D := D) (ci := 2) (v := .int 0) (ty := .boolean) (C := R_GW) (T := F_GW) (N := 10) hx hb ht bi_GW t_GW t_GW_ok n_GW hown hK hP hD hS 3 rfl rfl 4 (by decide) (ht _ bw_102) (fun _ h9 => h9) rfl (by decide +kernel) rfl rfl (Nat.le_of_ble_eq_true rfl) d_Way_finishChunk_45 (fun H locs hP hD hS => ?_)
    have hP : va_P D vwCl [(q3, .inr (3, [.ref q4, .int (nI kept.2.1), .int kept.2.2])), (q4, .inl (cI, 400, .inl kept.1)), (qt, .inl (cI, 4, .inl (upd ta 2 ((ta 2) + 1)))), (h, .inr (2, [.int 0, .int 1, .ref q1, .ref q3, .int 0, .int bg, .int hk, .ref qt, .int hd, .int mi])), (q1, .inr (3, [.ref q2, .int (nI u_14.2.1), .int u_14.2.2])), (q2, .inl (cI, 400, .inl u_14.1))] H := hP
    have hD : va_D A [(q3, .inr (3, [.ref q4, .int (nI kept.2.1), .int kept.2.2])), (q4, .inl (cI, 400, .inl kept.1)), (qt, .inl (cI, 4, .inl (upd ta 2 ((ta 2) + 1)))), (h, .inr (2, [.int 0, .int 1, .ref q1, .ref q3, .int 0, .int bg, .int hk, .ref qt, .int hd, .int mi])), (q1, .inr (3, [.ref q2, .int (nI u_14.2.1), .int u_14.2.2])), (q2, .inl (cI, 400, .inl u_14.1))] := hD
    refine lv_aload_n hx hb d_Way_finishChunk_48 rfl (lv_at hl 1 rfl) ?_
    refine lv_iconst (v := 0) hx hb d_Way_finishChunk_49 (by decide +kernel) ?_
    refine va_put (D := D) (ci := 2) (v := .int 0) (ty := .boolean) (C := R_GW) (T := F_GW) (N := 10) hx hb ht bi_GW t_GW t_GW_ok n_GW hown hK hP hD hS 3 rfl rfl 5 (by decide) (ht _ bw_107) (fun _ h9 => h9) rfl (by decide +kernel) rfl rfl (Nat.le_of_ble_eq_true rfl) d_Way_finishChunk_50 (fun H locs hP hD hS => ?_)
    have hP : va_P D vwCl [(q3, .inr (3, [.ref q4, .int (nI kept.2.1), .int kept.2.2])), (q4, .inl (cI, 400, .inl kept.1)), (qt, .inl (cI, 4, .inl (upd ta 2 ((ta 2) + 1)))), (h, .inr (2, [.int 0, .int 1, .ref q1, .ref q3, .int 0, .int 0, .int hk, .ref qt, .int hd, .int mi])), (q1, .inr (3, [.ref q2, .int (nI u_14.2.1), .int u_14.2.2])), (q2, .inl (cI, 400, .inl u_14.1))] H := hP
    have hD : va_D A [(q3, .inr (3, [.ref q4, .int (nI kept.2.1), .int kept.2.2])), (q4, .inl (cI, 400, .inl kept.1)), (qt, .inl (cI, 4, .inl (upd ta 2 ((ta 2) + 1)))), (h, .inr (2, [.int 0, .int 1, .ref q1, .ref q3, .int 0, .int 0, .int hk, .ref qt, .int hd, .int mi])), (q1, .inr (3, [.ref q2, .int (nI u_14.2.1), .int u_14.2.2])), (q2, .inl (cI, 400, .inl u_14.1))] := hD
    refine lv_aload_n hx hb d_Way_finishChunk_53 rfl (lv_at hl 1 rfl) ?_
    refine ft_cv (wc := [(h, .inr (2, [.int 0, .int 1, .ref q1, .ref q3, .int 0, .int 0, .int hk, .ref qt, .int hd, .int mi]))]) (wr := [(q3, .inr (3, [.ref q4, .int (nI kept.2.1), .int kept.2.2])), (q4, .inl (cI, 400, .inl kept.1)), (qt, .inl (cI, 4, .inl (upd ta 2 ((ta 2) + 1)))), (q1, .inr (3, [.ref q2, .int (nI u_14.2.1), .int u_14.2.2])), (q2, .inl (cI, 400, .inl u_14.1))]) (va_runU (As := []) (rest := []) ⟨hx, hb, hml, hown, ht⟩ (c_G_forgetChunk l D cI h q1 q3 qt 0 0 hk hd mi H.size) (ft_cwA (owner := R_Way) 0 ht bw_327 bw_329 bw_336 bw_337 bw_36 bw_338 (hNW _ bn_328) (by decide) ⟨Nat.le_of_ble_eq_true rfl, Nat.le_of_ble_eq_true rfl⟩) ⟨ft_blind, va_recv hK hP (ci := 2) (q0 := 3) rfl rfl, (ft_pre hP hD hK hNW [3] [0] rfl rfl (by decide) rfl _)⟩ rfl rfl hl.1 rfl (lv_room (Nat.le_of_ble_eq_true rfl)) d_Way_finishChunk_54 ⟨Nat.le_of_ble_eq_true rfl, Nat.le_of_ble_eq_true rfl⟩) hP hD hS hA [3] [0, 1, 2, 4, 5] rfl rfl (by decide) (by decide) (fun u_16 H locs hu_16 hP hD hS => ?_)
    have hP : va_P D vwCl [(q3, .inr (3, [.ref q4, .int (nI kept.2.1), .int kept.2.2])), (q4, .inl (cI, 400, .inl kept.1)), (qt, .inl (cI, 4, .inl (upd ta 2 ((ta 2) + 1)))), (q1, .inr (3, [.ref q2, .int (nI u_14.2.1), .int u_14.2.2])), (q2, .inl (cI, 400, .inl u_14.1)), (h, .inr (2, [.int 0, .int 1, .ref q1, .ref q3, .int 0, .int 0, .int hk, .ref qt, .int 0, .int 0]))] H := hP
    have hD : va_D A [(q3, .inr (3, [.ref q4, .int (nI kept.2.1), .int kept.2.2])), (q4, .inl (cI, 400, .inl kept.1)), (qt, .inl (cI, 4, .inl (upd ta 2 ((ta 2) + 1)))), (q1, .inr (3, [.ref q2, .int (nI u_14.2.1), .int u_14.2.2])), (q2, .inl (cI, 400, .inl u_14.1)), (h, .inr (2, [.int 0, .int 1, .ref q1, .ref q3, .int 0, .int 0, .int hk, .ref qt, .int 0, .int 0]))] := hD
    refine lv_iload_n hx hb d_Way_finishChunk_57 rfl (lv_at hl 0 rfl) ?_
    exact ft_reti (q1, q2, q3, q4, (u_14, kept, 0, 0, hk, upd ta 2 ((ta 2) + 1)), 0, 0) hx hb hr hlocks (hP.sub [5, 3, 4, 0, 1, 2] rfl) hK (hD.sub [5, 3, 4, 0, 1, 2] (by decide) rfl) hS ⟨hv.symm, by simp [finC, hu_14, hu_16]⟩ d_Way_finishChunk_58
  · rw [hv] at hu_2
    subst hu_2
    refine lv_istore_n (lv' := [(2, .int 3), (0, .ref h), (1, .int most)]) hx hb d_Way_finishChunk_5 rfl hl (by decide) rfl (fun ls hl => ?_)
    refine lv_iload_n hx hb d_Way_finishChunk_6 rfl (lv_at hl 0 rfl) ?_
    refine lv_iconst (v := 1) hx hb d_Way_finishChunk_7 (by decide +kernel) ?_
    refine lv_icmp_lt (tgt := 26) hx hb d_Way_finishChunk_8 (by decide) (fun c8 => absurd c8 (by decide)) (fun _ => ?_)
    refine lv_iload_n hx hb d_Way_finishChunk_11 rfl (lv_at hl 0 rfl) ?_
    refine lv_iconst (v := 3) hx hb d_Way_finishChunk_12 (by decide +kernel) ?_
    refine lv_icmp_gt (tgt := 26) hx hb d_Way_finishChunk_13 (by decide) (fun c13 => absurd c13 (by decide)) (fun _ => ?_)
    refine lv_aload_n hx hb d_Way_finishChunk_16 rfl (lv_at hl 1 rfl) ?_
    refine va_get (D := D) (ci := 2) (v := .ref qt) (C := R_GW) (T := F_GW) (N := 10) hx hb ht bi_GW hown hK hP 3 rfl rfl 7 (by decide) (ht _ bw_109) (fun _ h9 => h9) rfl d_Way_finishChunk_17 ?_
    refine lv_iload_n hx hb d_Way_finishChunk_20 rfl (lv_at hl 0 rfl) ?_
    refine lv_dup2_11 hx hb d_Way_finishChunk_21 rfl rfl ?_
    refine va_iald hx hb hK hP 2 0 rfl rfl (vp_in_iff.mpr (by decide)) d_Way_finishChunk_22 ?_
    refine ft_top (congrArg ta (show (3 : Int32).toNatClampNeg = 3 from by decide)) ?_
    refine lv_iconst (v := 1) hx hb d_Way_finishChunk_23 (by decide +kernel) ?_
    refine lv_iadd hx hb d_Way_finishChunk_24 ?_
    refine va_iast hx hb hK hP hD hS 2 0 rfl rfl (vp_in_iff.mpr (by decide)) d_Way_finishChunk_25 (fun H locs hP hD hS => ?_)
    rw [show (3 : Int32).toNatClampNeg = 3 from by decide] at hP hD
    have hP : va_P D vwCl [(q3, .inr (3, [.ref q4, .int (nI kept.2.1), .int kept.2.2])), (q4, .inl (cI, 400, .inl kept.1)), (qt, .inl (cI, 4, .inl (upd ta 3 ((ta 3) + 1)))), (h, .inr (2, [.int 0, .int 1, .ref q1, .ref q3, .int br, .int bg, .int hk, .ref qt, .int hd, .int mi])), (q1, .inr (3, [.ref q2, .int (nI pay.2.1), .int pay.2.2])), (q2, .inl (cI, 400, .inl pay.1))] H := hP
    have hD : va_D A [(q3, .inr (3, [.ref q4, .int (nI kept.2.1), .int kept.2.2])), (q4, .inl (cI, 400, .inl kept.1)), (qt, .inl (cI, 4, .inl (upd ta 3 ((ta 3) + 1)))), (h, .inr (2, [.int 0, .int 1, .ref q1, .ref q3, .int br, .int bg, .int hk, .ref qt, .int hd, .int mi])), (q1, .inr (3, [.ref q2, .int (nI pay.2.1), .int pay.2.2])), (q2, .inl (cI, 400, .inl pay.1))] := hD
    refine lv_iload_n hx hb d_Way_finishChunk_26 rfl (lv_at hl 0 rfl) ?_
    refine lv_iconst (v := 1) hx hb d_Way_finishChunk_27 (by decide +kernel) ?_
    refine lv_icmp_ne (tgt := 35) hx hb d_Way_finishChunk_28 (by decide) (fun _ => ?_) (fun c28 => absurd c28 (by decide))
    refine lv_aload_n hx hb d_Way_finishChunk_35 rfl (lv_at hl 1 rfl) ?_
    refine va_get (D := D) (ci := 2) (v := .ref q1) (C := R_GW) (T := F_GW) (N := 10) hx hb ht bi_GW hown hK hP 3 rfl rfl 2 (by decide) (ht _ bw_93) (fun _ h9 => h9) rfl d_Way_finishChunk_36 ?_
    refine lv_iconst (v := nI 0) hx hb d_Way_finishChunk_39 (by decide +kernel) ?_
    refine ft_cv (wc := [(q1, .inr (3, [.ref q2, .int (nI pay.2.1), .int pay.2.2])), (q2, .inl (cI, 400, .inl pay.1))]) (wr := [(q3, .inr (3, [.ref q4, .int (nI kept.2.1), .int kept.2.2])), (q4, .inl (cI, 400, .inl kept.1)), (qt, .inl (cI, 4, .inl (upd ta 3 ((ta 3) + 1)))), (h, .inr (2, [.int 0, .int 1, .ref q1, .ref q3, .int br, .int bg, .int hk, .ref qt, .int hd, .int mi]))]) (va_runV (As := [.int (nI 0)]) (rest := []) ⟨hx, hb, hml, hown, ht⟩ (c_Row_cutTo l D cI q1 q2 400 (by omega) pay hp 0 (by omega) H.size) (ft_cwV 1 ht bw_326 bw_210 bw_211 bw_33 bw_212 (by decide) ⟨Nat.le_of_ble_eq_true rfl, Nat.le_of_ble_eq_true rfl⟩) ⟨ft_blind, va_recv hK hP (ci := 3) (q0 := 4) rfl rfl, (ft_pre hP hD hK hNW [4, 5] [0] rfl rfl (by decide) rfl _)⟩ rfl rfl hl.1 rfl (lv_room (Nat.le_of_ble_eq_true rfl)) d_Way_finishChunk_40 ⟨Nat.le_of_ble_eq_true rfl, Nat.le_of_ble_eq_true rfl⟩) hP hD hS hA [4, 5] [0, 1, 2, 3] rfl rfl (by decide) (by decide) (fun u_18 H locs hu_18 hP hD hS => ?_)
    have le_u_18 : u_18.2.1 ≤ 400 := by rw [hu_18]; exact rcut_le hp
    have hP : va_P D vwCl [(q3, .inr (3, [.ref q4, .int (nI kept.2.1), .int kept.2.2])), (q4, .inl (cI, 400, .inl kept.1)), (qt, .inl (cI, 4, .inl (upd ta 3 ((ta 3) + 1)))), (h, .inr (2, [.int 0, .int 1, .ref q1, .ref q3, .int br, .int bg, .int hk, .ref qt, .int hd, .int mi])), (q1, .inr (3, [.ref q2, .int (nI u_18.2.1), .int u_18.2.2])), (q2, .inl (cI, 400, .inl u_18.1))] H := hP
    have hD : va_D A [(q3, .inr (3, [.ref q4, .int (nI kept.2.1), .int kept.2.2])), (q4, .inl (cI, 400, .inl kept.1)), (qt, .inl (cI, 4, .inl (upd ta 3 ((ta 3) + 1)))), (h, .inr (2, [.int 0, .int 1, .ref q1, .ref q3, .int br, .int bg, .int hk, .ref qt, .int hd, .int mi])), (q1, .inr (3, [.ref q2, .int (nI u_18.2.1), .int u_18.2.2])), (q2, .inl (cI, 400, .inl u_18.1))] := hD
    rw [rcut_0] at hu_18
    refine lv_aload_n hx hb d_Way_finishChunk_43 rfl (lv_at hl 1 rfl) ?_
    refine lv_iconst (v := 0) hx hb d_Way_finishChunk_44 (by decide +kernel) ?_
    refine va_put (D := D) (ci := 2) (v := .int 0) (ty := .boolean) (C := R_GW) (T := F_GW) (N := 10) hx hb ht bi_GW t_GW t_GW_ok n_GW hown hK hP hD hS 3 rfl rfl 4 (by decide) (ht _ bw_102) (fun _ h9 => h9) rfl (by decide +kernel) rfl rfl (Nat.le_of_ble_eq_true rfl) d_Way_finishChunk_45 (fun H locs hP hD hS => ?_)
    have hP : va_P D vwCl [(q3, .inr (3, [.ref q4, .int (nI kept.2.1), .int kept.2.2])), (q4, .inl (cI, 400, .inl kept.1)), (qt, .inl (cI, 4, .inl (upd ta 3 ((ta 3) + 1)))), (h, .inr (2, [.int 0, .int 1, .ref q1, .ref q3, .int 0, .int bg, .int hk, .ref qt, .int hd, .int mi])), (q1, .inr (3, [.ref q2, .int (nI u_18.2.1), .int u_18.2.2])), (q2, .inl (cI, 400, .inl u_18.1))] H := hP
    have hD : va_D A [(q3, .inr (3, [.ref q4, .int (nI kept.2.1), .int kept.2.2])), (q4, .inl (cI, 400, .inl kept.1)), (qt, .inl (cI, 4, .inl (upd ta 3 ((ta 3) + 1)))), (h, .inr (2, [.int 0, .int 1, .ref q1, .ref q3, .int 0, .int bg, .int hk, .ref qt, .int hd, .int mi])), (q1, .inr (3, [.ref q2, .int (nI u_18.2.1), .int u_18.2.2])), (q2, .inl (cI, 400, .inl u_18.1))] := hD
    refine lv_aload_n hx hb d_Way_finishChunk_48 rfl (lv_at hl 1 rfl) ?_
    refine lv_iconst (v := 0) hx hb d_Way_finishChunk_49 (by decide +kernel) ?_
    refine va_put (D := D) (ci := 2) (v := .int 0) (ty := .boolean) (C := R_GW) (T := F_GW) (N := 10) hx hb ht bi_GW t_GW t_GW_ok n_GW hown hK hP hD hS 3 rfl rfl 5 (by decide) (ht _ bw_107) (fun _ h9 => h9) rfl (by decide +kernel) rfl rfl (Nat.le_of_ble_eq_true rfl) d_Way_finishChunk_50 (fun H locs hP hD hS => ?_)
    have hP : va_P D vwCl [(q3, .inr (3, [.ref q4, .int (nI kept.2.1), .int kept.2.2])), (q4, .inl (cI, 400, .inl kept.1)), (qt, .inl (cI, 4, .inl (upd ta 3 ((ta 3) + 1)))), (h, .inr (2, [.int 0, .int 1, .ref q1, .ref q3, .int 0, .int 0, .int hk, .ref qt, .int hd, .int mi])), (q1, .inr (3, [.ref q2, .int (nI u_18.2.1), .int u_18.2.2])), (q2, .inl (cI, 400, .inl u_18.1))] H := hP
    have hD : va_D A [(q3, .inr (3, [.ref q4, .int (nI kept.2.1), .int kept.2.2])), (q4, .inl (cI, 400, .inl kept.1)), (qt, .inl (cI, 4, .inl (upd ta 3 ((ta 3) + 1)))), (h, .inr (2, [.int 0, .int 1, .ref q1, .ref q3, .int 0, .int 0, .int hk, .ref qt, .int hd, .int mi])), (q1, .inr (3, [.ref q2, .int (nI u_18.2.1), .int u_18.2.2])), (q2, .inl (cI, 400, .inl u_18.1))] := hD
    refine lv_aload_n hx hb d_Way_finishChunk_53 rfl (lv_at hl 1 rfl) ?_
    refine ft_cv (wc := [(h, .inr (2, [.int 0, .int 1, .ref q1, .ref q3, .int 0, .int 0, .int hk, .ref qt, .int hd, .int mi]))]) (wr := [(q3, .inr (3, [.ref q4, .int (nI kept.2.1), .int kept.2.2])), (q4, .inl (cI, 400, .inl kept.1)), (qt, .inl (cI, 4, .inl (upd ta 3 ((ta 3) + 1)))), (q1, .inr (3, [.ref q2, .int (nI u_18.2.1), .int u_18.2.2])), (q2, .inl (cI, 400, .inl u_18.1))]) (va_runU (As := []) (rest := []) ⟨hx, hb, hml, hown, ht⟩ (c_G_forgetChunk l D cI h q1 q3 qt 0 0 hk hd mi H.size) (ft_cwA (owner := R_Way) 0 ht bw_327 bw_329 bw_336 bw_337 bw_36 bw_338 (hNW _ bn_328) (by decide) ⟨Nat.le_of_ble_eq_true rfl, Nat.le_of_ble_eq_true rfl⟩) ⟨ft_blind, va_recv hK hP (ci := 2) (q0 := 3) rfl rfl, (ft_pre hP hD hK hNW [3] [0] rfl rfl (by decide) rfl _)⟩ rfl rfl hl.1 rfl (lv_room (Nat.le_of_ble_eq_true rfl)) d_Way_finishChunk_54 ⟨Nat.le_of_ble_eq_true rfl, Nat.le_of_ble_eq_true rfl⟩) hP hD hS hA [3] [0, 1, 2, 4, 5] rfl rfl (by decide) (by decide) (fun u_20 H locs hu_20 hP hD hS => ?_)
    have hP : va_P D vwCl [(q3, .inr (3, [.ref q4, .int (nI kept.2.1), .int kept.2.2])), (q4, .inl (cI, 400, .inl kept.1)), (qt, .inl (cI, 4, .inl (upd ta 3 ((ta 3) + 1)))), (q1, .inr (3, [.ref q2, .int (nI u_18.2.1), .int u_18.2.2])), (q2, .inl (cI, 400, .inl u_18.1)), (h, .inr (2, [.int 0, .int 1, .ref q1, .ref q3, .int 0, .int 0, .int hk, .ref qt, .int 0, .int 0]))] H := hP
    have hD : va_D A [(q3, .inr (3, [.ref q4, .int (nI kept.2.1), .int kept.2.2])), (q4, .inl (cI, 400, .inl kept.1)), (qt, .inl (cI, 4, .inl (upd ta 3 ((ta 3) + 1)))), (q1, .inr (3, [.ref q2, .int (nI u_18.2.1), .int u_18.2.2])), (q2, .inl (cI, 400, .inl u_18.1)), (h, .inr (2, [.int 0, .int 1, .ref q1, .ref q3, .int 0, .int 0, .int hk, .ref qt, .int 0, .int 0]))] := hD
    refine lv_iload_n hx hb d_Way_finishChunk_57 rfl (lv_at hl 0 rfl) ?_
    exact ft_reti (q1, q2, q3, q4, (u_18, kept, 0, 0, hk, upd ta 3 ((ta 3) + 1)), 0, 0) hx hb hr hlocks (hP.sub [5, 3, 4, 0, 1, 2] rfl) hK (hD.sub [5, 3, 4, 0, 1, 2] (by decide) rfl) hS ⟨hv.symm, by simp [finC, hu_18, hu_20]⟩ d_Way_finishChunk_58

set_option maxHeartbeats 4000000 in
set_option maxRecDepth 100000 in
theorem c_G_take (l : Launch) (D : va_G) (cI : ClassId) (h q1 q2 q3 q4 qt : Nat) (br bg hk hd mi : Int32) (ta : Nat → Int32) (pay kept : RS) (hp : pay.2.1 ≤ 400) (hp2 : kept.2.1 ≤ 400) (b most : Int32) (sz : Nat) : ft_Mi l y_Way_take (.code y_Way_take b_Way_take 3 (some .int) :: ft_big) ({ frames := 4, cells := 0, slots := 0, locals := 160 }) D [(cI, .int)] sz [.ref h, .int b, .int most] [(h, .inr (2, [.int 0, .int 1, .ref q1, .ref q3, .int br, .int bg, .int hk, .ref qt, .int hd, .int mi])), (q1, .inr (3, [.ref q2, .int (nI pay.2.1), .int pay.2.2])), (q2, .inl (cI, 400, .inl pay.1)), (q3, .inr (3, [.ref q4, .int (nI kept.2.1), .int kept.2.2])), (q4, .inl (cI, 400, .inl kept.1)), (qt, .inl (cI, 4, .inl ta))] (fun (v : Int32) (u : Nat × Nat × Nat × Nat × CS × Int32 × Int32) => (v, u.2.2.2.2) = takeG most b ((pay, kept, br, bg, hk, ta), hd, mi)) (wG h qt cI) 0 0 := by
  refine ft_ei (cc := b_Way_take) (maxL := 3) (ret := (some .int)) (by decide) rfl (Nat.le_of_ble_eq_true rfl) ?_
  intro p e s m below meth c A ls hx hb hr hml hts hown hlocks hmn hP hK hD hA hS hNW hl
  have ht : ∀ w ∈ ft_big, w.before _ s = true := fun w h => hts w (List.mem_cons_of_mem _ h)
  have hP : va_P D vwCl [(h, .inr (2, [.int 0, .int 1, .ref q1, .ref q3, .int br, .int bg, .int hk, .ref qt, .int hd, .int mi])), (q1, .inr (3, [.ref q2, .int (nI pay.2.1), .int pay.2.2])), (q2, .inl (cI, 400, .inl pay.1)), (q3, .inr (3, [.ref q4, .int (nI kept.2.1), .int kept.2.2])), (q4, .inl (cI, 400, .inl kept.1)), (qt, .inl (cI, 4, .inl ta))] s.heap := hP
  have hD : va_D A [(h, .inr (2, [.int 0, .int 1, .ref q1, .ref q3, .int br, .int bg, .int hk, .ref qt, .int hd, .int mi])), (q1, .inr (3, [.ref q2, .int (nI pay.2.1), .int pay.2.2])), (q2, .inl (cI, 400, .inl pay.1)), (q3, .inr (3, [.ref q4, .int (nI kept.2.1), .int kept.2.2])), (q4, .inl (cI, 400, .inl kept.1)), (qt, .inl (cI, 4, .inl ta))] := hD
  have hl : lv_has ls 3 [(0, .ref h), (1, .int b), (2, .int most)] := hl
  refine lv_iload_n hx hb d_Way_take_0 rfl (lv_at hl 1 rfl) ?_
  refine lv_aload_n hx hb d_Way_take_1 rfl (lv_at hl 0 rfl) ?_
  refine va_get (D := D) (ci := 2) (v := .int 0) (C := R_GW) (T := F_GW) (N := 10) hx hb ht bi_GW hown hK hP 0 rfl rfl 0 (by decide) (ht _ bw_90) (fun _ h9 => h9) rfl d_Way_take_2 ?_
  refine lv_icmp_ne (tgt := 14) hx hb d_Way_take_5 (by decide) (fun c5 => ?_) (fun c5 => ?_)
  · skip
    refine lv_aload_n hx hb d_Way_take_14 rfl (lv_at hl 0 rfl) ?_
    refine lv_iconst (v := 1) hx hb d_Way_take_15 (by decide +kernel) ?_
    refine va_put (D := D) (ci := 2) (v := .int 1) (ty := .boolean) (C := R_GW) (T := F_GW) (N := 10) hx hb ht bi_GW t_GW t_GW_ok n_GW hown hK hP hD hS 0 rfl rfl 5 (by decide) (ht _ bw_107) (fun _ h9 => h9) rfl (by decide +kernel) rfl rfl (Nat.le_of_ble_eq_true rfl) d_Way_take_16 (fun H locs hP hD hS => ?_)
    have hP : va_P D vwCl [(h, .inr (2, [.int 0, .int 1, .ref q1, .ref q3, .int br, .int 1, .int hk, .ref qt, .int hd, .int mi])), (q1, .inr (3, [.ref q2, .int (nI pay.2.1), .int pay.2.2])), (q2, .inl (cI, 400, .inl pay.1)), (q3, .inr (3, [.ref q4, .int (nI kept.2.1), .int kept.2.2])), (q4, .inl (cI, 400, .inl kept.1)), (qt, .inl (cI, 4, .inl ta))] H := hP
    have hD : va_D A [(h, .inr (2, [.int 0, .int 1, .ref q1, .ref q3, .int br, .int 1, .int hk, .ref qt, .int hd, .int mi])), (q1, .inr (3, [.ref q2, .int (nI pay.2.1), .int pay.2.2])), (q2, .inl (cI, 400, .inl pay.1)), (q3, .inr (3, [.ref q4, .int (nI kept.2.1), .int kept.2.2])), (q4, .inl (cI, 400, .inl kept.1)), (qt, .inl (cI, 4, .inl ta))] := hD
    refine lv_aload_n hx hb d_Way_take_19 rfl (lv_at hl 0 rfl) ?_
    refine va_get (D := D) (ci := 2) (v := .int br) (C := R_GW) (T := F_GW) (N := 10) hx hb ht bi_GW hown hK hP 0 rfl rfl 4 (by decide) (ht _ bw_102) (fun _ h9 => h9) rfl d_Way_take_20 ?_
    refine lv_if_ne (tgt := 31) hx hb d_Way_take_23 (by decide) (fun c23 => ?_) (fun c23 => ?_)
    · skip
      refine lv_iconst (v := 0) hx hb d_Way_take_31 (by decide +kernel) ?_
      exact ft_reti (q1, q2, q3, q4, (pay, kept, br, 1, hk, ta), hd, mi) hx hb hr hlocks hP hK hD hS (by show (_, _) = takeG most b _; simp only [takeG, if_neg c5, if_neg c23]) d_Way_take_32
    · skip
      refine lv_aload_n hx hb d_Way_take_26 rfl (lv_at hl 0 rfl) ?_
      refine lv_iload_n hx hb d_Way_take_27 rfl (lv_at hl 1 rfl) ?_
      refine ft_cv (wc := [(h, .inr (2, [.int 0, .int 1, .ref q1, .ref q3, .int br, .int 1, .int hk, .ref qt, .int hd, .int mi])), (q1, .inr (3, [.ref q2, .int (nI pay.2.1), .int pay.2.2])), (q2, .inl (cI, 400, .inl pay.1))]) (wr := [(q3, .inr (3, [.ref q4, .int (nI kept.2.1), .int kept.2.2])), (q4, .inl (cI, 400, .inl kept.1)), (qt, .inl (cI, 4, .inl ta))]) (va_runU (As := [.int b]) (rest := []) ⟨hx, hb, hml, hown, ht⟩ (c_G_decode l D cI h q1 q2 q3 qt br 1 hk hd mi pay hp b H.size) (ft_cwA (owner := R_Way) 1 ht bw_339 bw_341 bw_356 bw_357 bw_36 bw_358 (hNW _ bn_340) (by decide) ⟨Nat.le_of_ble_eq_true rfl, Nat.le_of_ble_eq_true rfl⟩) ⟨ft_blind, va_recv hK hP (ci := 2) (q0 := 0) rfl rfl, (ft_pre hP hD hK hNW [0, 1, 2] [0] rfl rfl (by decide) rfl _)⟩ rfl rfl hl.1 rfl (lv_room (Nat.le_of_ble_eq_true rfl)) d_Way_take_28 ⟨Nat.le_of_ble_eq_true rfl, Nat.le_of_ble_eq_true rfl⟩) hP hD hS hA [0, 1, 2] [3, 4, 5] rfl rfl (by decide) (by decide) (fun u_2 H locs hu_2 hP hD hS => ?_)
      obtain ⟨pay1, hd1, mi1⟩ := u_2
      have hP : va_P D vwCl [(q3, .inr (3, [.ref q4, .int (nI kept.2.1), .int kept.2.2])), (q4, .inl (cI, 400, .inl kept.1)), (qt, .inl (cI, 4, .inl ta)), (h, .inr (2, [.int 0, .int 1, .ref q1, .ref q3, .int br, .int 1, .int hk, .ref qt, .int hd1, .int mi1])), (q1, .inr (3, [.ref q2, .int (nI pay1.2.1), .int pay1.2.2])), (q2, .inl (cI, 400, .inl pay1.1))] H := hP
      have hD : va_D A [(q3, .inr (3, [.ref q4, .int (nI kept.2.1), .int kept.2.2])), (q4, .inl (cI, 400, .inl kept.1)), (qt, .inl (cI, 4, .inl ta)), (h, .inr (2, [.int 0, .int 1, .ref q1, .ref q3, .int br, .int 1, .int hk, .ref qt, .int hd1, .int mi1])), (q1, .inr (3, [.ref q2, .int (nI pay1.2.1), .int pay1.2.2])), (q2, .inl (cI, 400, .inl pay1.1))] := hD
      refine lv_iconst (v := 0) hx hb d_Way_take_31 (by decide +kernel) ?_
      exact ft_reti (q1, q2, q3, q4, (pay1, kept, br, 1, hk, ta), hd1, mi1) hx hb hr hlocks (hP.sub [3, 4, 5, 0, 1, 2] rfl) hK (hD.sub [3, 4, 5, 0, 1, 2] (by decide) rfl) hS (by show (_, _) = takeG most b _; simp only [takeG, if_neg c5, if_pos c23, ← hu_2]) d_Way_take_32
  · skip
    refine lv_aload_n hx hb d_Way_take_8 rfl (lv_at hl 0 rfl) ?_
    refine lv_iload_n hx hb d_Way_take_9 rfl (lv_at hl 2 rfl) ?_
    refine ft_ci (wc := [(h, .inr (2, [.int 0, .int 1, .ref q1, .ref q3, .int br, .int bg, .int hk, .ref qt, .int hd, .int mi])), (q1, .inr (3, [.ref q2, .int (nI pay.2.1), .int pay.2.2])), (q2, .inl (cI, 400, .inl pay.1)), (q3, .inr (3, [.ref q4, .int (nI kept.2.1), .int kept.2.2])), (q4, .inl (cI, 400, .inl kept.1)), (qt, .inl (cI, 4, .inl ta))]) (wr := []) (va_runU (As := [.int most]) (rest := []) ⟨hx, hb, hml, hown, ht⟩ (c_G_finishChunk l D cI h q1 q2 q3 q4 qt br bg hk hd mi ta pay kept hp hp2 most s.heap.size) (ft_cwU (owner := R_Way) 1 ht bw_302 bw_584 bw_2 bw_304 bw_35 bw_305 (by decide) ⟨Nat.le_of_ble_eq_true rfl, Nat.le_of_ble_eq_true rfl⟩) ⟨ft_blind, va_recv hK hP (ci := 2) (q0 := 0) rfl rfl, (ft_pre hP hD hK hNW [0, 1, 2, 3, 4, 5] [0] rfl rfl (by decide) rfl _)⟩ rfl rfl hl.1 rfl (lv_room (Nat.le_of_ble_eq_true rfl)) d_Way_take_10 ⟨Nat.le_of_ble_eq_true rfl, Nat.le_of_ble_eq_true rfl⟩) hP hD hS hA [0, 1, 2, 3, 4, 5] [] rfl rfl (by decide) (by decide) (fun r_3 u_4 H locs hu_4 hP hD hS => ?_)
    obtain ⟨p1, p2, p3, p4, ⟨pay1, kept1, br1, bg1, hk1, ta1⟩, hd1, mi1⟩ := u_4
    have hP : va_P D vwCl [(h, .inr (2, [.int 0, .int 1, .ref p1, .ref p3, .int br1, .int bg1, .int hk1, .ref qt, .int hd1, .int mi1])), (p1, .inr (3, [.ref p2, .int (nI pay1.2.1), .int pay1.2.2])), (p2, .inl (cI, 400, .inl pay1.1)), (p3, .inr (3, [.ref p4, .int (nI kept1.2.1), .int kept1.2.2])), (p4, .inl (cI, 400, .inl kept1.1)), (qt, .inl (cI, 4, .inl ta1))] H := hP
    have hD : va_D A [(h, .inr (2, [.int 0, .int 1, .ref p1, .ref p3, .int br1, .int bg1, .int hk1, .ref qt, .int hd1, .int mi1])), (p1, .inr (3, [.ref p2, .int (nI pay1.2.1), .int pay1.2.2])), (p2, .inl (cI, 400, .inl pay1.1)), (p3, .inr (3, [.ref p4, .int (nI kept1.2.1), .int kept1.2.2])), (p4, .inl (cI, 400, .inl kept1.1)), (qt, .inl (cI, 4, .inl ta1))] := hD
    exact ft_reti (p1, p2, p3, p4, (pay1, kept1, br1, bg1, hk1, ta1), hd1, mi1) hx hb hr hlocks hP hK hD hS (by obtain ⟨a1, a2⟩ := hu_4; show (_, _) = takeG most b _; simp only [takeG, c5, if_true, ↓reduceIte]; rw [← a1]; exact congrArg (Prod.mk _) a2) d_Way_take_13

set_option maxHeartbeats 4000000 in
set_option maxRecDepth 100000 in
theorem c_G_keptSize (l : Launch) (D : va_G) (cI : ClassId) (h q1 q3 q4 qt : Nat) (br bg hk hd mi : Int32) (kept : RS) (hp2 : kept.2.1 ≤ 400) (sz : Nat) : ft_Mi l y_Way_keptSize (.code y_Way_keptSize b_Way_keptSize 1 (some .int) :: ft_big) ({ frames := 0, cells := 0, slots := 0, locals := 0 }) D [(cI, .int)] sz [.ref h] [(h, .inr (2, [.int 0, .int 1, .ref q1, .ref q3, .int br, .int bg, .int hk, .ref qt, .int hd, .int mi])), (q3, .inr (3, [.ref q4, .int (nI kept.2.1), .int kept.2.2])), (q4, .inl (cI, 400, .inl kept.1))] (fun (v : Int32) (_ : Unit) => v = latV hk kept) (fun _ => [(h, .inr (2, [.int 0, .int 1, .ref q1, .ref q3, .int br, .int bg, .int hk, .ref qt, .int hd, .int mi])), (q3, .inr (3, [.ref q4, .int (nI kept.2.1), .int kept.2.2])), (q4, .inl (cI, 400, .inl kept.1))]) 0 0 := by
  refine ft_ei (cc := b_Way_keptSize) (maxL := 1) (ret := (some .int)) (by decide) rfl (Nat.le_of_ble_eq_true rfl) ?_
  intro p e s m below meth c A ls hx hb hr hml hts hown hlocks hmn hP hK hD hA hS hNW hl
  have ht : ∀ w ∈ ft_big, w.before _ s = true := fun w h => hts w (List.mem_cons_of_mem _ h)
  have hP : va_P D vwCl [(h, .inr (2, [.int 0, .int 1, .ref q1, .ref q3, .int br, .int bg, .int hk, .ref qt, .int hd, .int mi])), (q3, .inr (3, [.ref q4, .int (nI kept.2.1), .int kept.2.2])), (q4, .inl (cI, 400, .inl kept.1))] s.heap := hP
  have hD : va_D A [(h, .inr (2, [.int 0, .int 1, .ref q1, .ref q3, .int br, .int bg, .int hk, .ref qt, .int hd, .int mi])), (q3, .inr (3, [.ref q4, .int (nI kept.2.1), .int kept.2.2])), (q4, .inl (cI, 400, .inl kept.1))] := hD
  have hl : lv_has ls 1 [(0, .ref h)] := hl
  refine lv_aload_n hx hb d_Way_keptSize_0 rfl (lv_at hl 0 rfl) ?_
  refine va_get (D := D) (ci := 2) (v := .int hk) (C := R_GW) (T := F_GW) (N := 10) hx hb ht bi_GW hown hK hP 0 rfl rfl 6 (by decide) (ht _ bw_108) (fun _ h9 => h9) rfl d_Way_keptSize_1 ?_
  refine lv_if_eq (tgt := 17) hx hb d_Way_keptSize_4 (by decide) (fun c4 => ?_) (fun c4 => ?_)
  · skip
    refine lv_iconst (v := (-1)) hx hb d_Way_keptSize_17 (by decide +kernel) ?_
    exact ft_reti () hx hb hr hlocks hP hK hD hS (by show _ = latV hk kept; simp [latV, c4]) d_Way_keptSize_18
  · skip
    refine lv_aload_n hx hb d_Way_keptSize_7 rfl (lv_at hl 0 rfl) ?_
    refine va_get (D := D) (ci := 2) (v := .ref q3) (C := R_GW) (T := F_GW) (N := 10) hx hb ht bi_GW hown hK hP 0 rfl rfl 3 (by decide) (ht _ bw_100) (fun _ h9 => h9) rfl d_Way_keptSize_8 ?_
    refine va_getN (D := D) (ci := 3) (v := .int (nI kept.2.1)) (C := R_Row) (T := F_Row) (N := 3) hx hb ht bi_Row hown hK hP 1 rfl rfl 1 (by decide) (va_Nw.use rfl (hNW _ bn_63)) (fun _ h9 => h9) rfl d_Way_keptSize_11 ?_
    refine lv_goto (tgt := 18) hx hb d_Way_keptSize_14 (by decide) ?_
    exact ft_reti () hx hb hr hlocks hP hK hD hS (by show _ = latV hk kept; simp [latV, c4]) d_Way_keptSize_18

set_option maxHeartbeats 4000000 in
set_option maxRecDepth 100000 in
theorem c_G_tally (l : Launch) (D : va_G) (cI : ClassId) (h q1 q3 qt : Nat) (br bg hk hd mi : Int32) (ta : Nat → Int32) (k : Int32) (sz : Nat) : ft_Mi l y_Way_tally (.code y_Way_tally b_Way_tally 2 (some .int) :: ft_big) ({ frames := 0, cells := 0, slots := 0, locals := 0 }) D [(cI, .int)] sz [.ref h, .int k] [(h, .inr (2, [.int 0, .int 1, .ref q1, .ref q3, .int br, .int bg, .int hk, .ref qt, .int hd, .int mi])), (qt, .inl (cI, 4, .inl ta))] (fun (v : Int32) (_ : Unit) => v = tal ta k) (fun _ => [(h, .inr (2, [.int 0, .int 1, .ref q1, .ref q3, .int br, .int bg, .int hk, .ref qt, .int hd, .int mi])), (qt, .inl (cI, 4, .inl ta))]) 0 0 := by
  refine ft_ei (cc := b_Way_tally) (maxL := 2) (ret := (some .int)) (by decide) rfl (Nat.le_of_ble_eq_true rfl) ?_
  intro p e s m below meth c A ls hx hb hr hml hts hown hlocks hmn hP hK hD hA hS hNW hl
  have ht : ∀ w ∈ ft_big, w.before _ s = true := fun w h => hts w (List.mem_cons_of_mem _ h)
  have hP : va_P D vwCl [(h, .inr (2, [.int 0, .int 1, .ref q1, .ref q3, .int br, .int bg, .int hk, .ref qt, .int hd, .int mi])), (qt, .inl (cI, 4, .inl ta))] s.heap := hP
  have hD : va_D A [(h, .inr (2, [.int 0, .int 1, .ref q1, .ref q3, .int br, .int bg, .int hk, .ref qt, .int hd, .int mi])), (qt, .inl (cI, 4, .inl ta))] := hD
  have hl : lv_has ls 2 [(0, .ref h), (1, .int k)] := hl
  refine lv_iload_n hx hb d_Way_tally_0 rfl (lv_at hl 1 rfl) ?_
  refine lv_iconst (v := 1) hx hb d_Way_tally_1 (by decide +kernel) ?_
  refine lv_icmp_lt (tgt := 19) hx hb d_Way_tally_2 (by decide) (fun c2 => ?_) (fun c2 => ?_)
  · skip
    refine lv_iconst (v := (-1)) hx hb d_Way_tally_19 (by decide +kernel) ?_
    exact ft_reti () hx hb hr hlocks hP hK hD hS (by show _ = tal ta k; simp [tal, c2]) d_Way_tally_20
  · skip
    refine lv_iload_n hx hb d_Way_tally_5 rfl (lv_at hl 1 rfl) ?_
    refine lv_iconst (v := 3) hx hb d_Way_tally_6 (by decide +kernel) ?_
    refine lv_icmp_gt (tgt := 19) hx hb d_Way_tally_7 (by decide) (fun c7 => ?_) (fun c7 => ?_)
    · skip
      refine lv_iconst (v := (-1)) hx hb d_Way_tally_19 (by decide +kernel) ?_
      exact ft_reti () hx hb hr hlocks hP hK hD hS (by show _ = tal ta k; simp [tal, c2, c7]) d_Way_tally_20
    · skip
      refine lv_aload_n hx hb d_Way_tally_10 rfl (lv_at hl 0 rfl) ?_
      refine va_get (D := D) (ci := 2) (v := .ref qt) (C := R_GW) (T := F_GW) (N := 10) hx hb ht bi_GW hown hK hP 0 rfl rfl 7 (by decide) (ht _ bw_109) (fun _ h9 => h9) rfl d_Way_tally_11 ?_
      refine lv_iload_n hx hb d_Way_tally_14 rfl (lv_at hl 1 rfl) ?_
      refine va_iald hx hb hK hP 1 0 rfl rfl (tal_in c2 c7) d_Way_tally_15 ?_
      refine lv_goto (tgt := 20) hx hb d_Way_tally_16 (by decide) ?_
      exact ft_reti () hx hb hr hlocks hP hK hD hS (by show _ = tal ta k; simp [tal, c2, c7]) d_Way_tally_20

set_option maxHeartbeats 4000000 in
set_option maxRecDepth 100000 in
theorem c_E_judge (l : Launch) (D : va_G) (cI : ClassId) (h q1 q2 q3 qt : Nat) (br bg hk es : Int32) (pay : RS) (hp : pay.2.1 ≤ 400) (most : Int32) (sz : Nat) : ft_Mi l y_Way_judge (.code y_Way_judge b_Way_judge 2 (some .int) :: ft_big) ({ frames := 2, cells := 0, slots := 0, locals := 80 }) D [(cI, .int)] sz [.ref h, .int most] [(h, .inr (1, [.int 192, .int 0, .ref q1, .ref q3, .int br, .int bg, .int hk, .ref qt, .int es])), (q1, .inr (3, [.ref q2, .int (nI pay.2.1), .int pay.2.2])), (q2, .inl (cI, 400, .inl pay.1))] (fun (v : Int32) (_ : Unit) => v = judge 0 br bg pay (whole1 es) most) (fun _ => [(h, .inr (1, [.int 192, .int 0, .ref q1, .ref q3, .int br, .int bg, .int hk, .ref qt, .int es])), (q1, .inr (3, [.ref q2, .int (nI pay.2.1), .int pay.2.2])), (q2, .inl (cI, 400, .inl pay.1))]) 0 0 := by
  refine ft_ei (cc := b_Way_judge) (maxL := 2) (ret := (some .int)) (by decide) rfl (Nat.le_of_ble_eq_true rfl) ?_
  intro p e s m below meth c A ls hx hb hr hml hts hown hlocks hmn hP hK hD hA hS hNW hl
  have ht : ∀ w ∈ ft_big, w.before _ s = true := fun w h => hts w (List.mem_cons_of_mem _ h)
  have hP : va_P D vwCl [(h, .inr (1, [.int 192, .int 0, .ref q1, .ref q3, .int br, .int bg, .int hk, .ref qt, .int es])), (q1, .inr (3, [.ref q2, .int (nI pay.2.1), .int pay.2.2])), (q2, .inl (cI, 400, .inl pay.1))] s.heap := hP
  have hD : va_D A [(h, .inr (1, [.int 192, .int 0, .ref q1, .ref q3, .int br, .int bg, .int hk, .ref qt, .int es])), (q1, .inr (3, [.ref q2, .int (nI pay.2.1), .int pay.2.2])), (q2, .inl (cI, 400, .inl pay.1))] := hD
  have hl : lv_has ls 2 [(0, .ref h), (1, .int most)] := hl
  refine lv_aload_n hx hb d_Way_judge_0 rfl (lv_at hl 0 rfl) ?_
  refine va_get (D := D) (ci := 1) (v := .int bg) (C := R_EW) (T := F_EW) (N := 9) hx hb ht bi_EW hown hK hP 0 rfl rfl 5 (by decide) (ht _ bw_107) (fun _ h9 => h9) rfl d_Way_judge_1 ?_
  refine lv_if_ne (tgt := 16) hx hb d_Way_judge_4 (by decide) (fun c4 => ?_) (fun c4 => ?_)
  · skip
    refine lv_aload_n hx hb d_Way_judge_16 rfl (lv_at hl 0 rfl) ?_
    refine va_get (D := D) (ci := 1) (v := .int br) (C := R_EW) (T := F_EW) (N := 9) hx hb ht bi_EW hown hK hP 0 rfl rfl 4 (by decide) (ht _ bw_102) (fun _ h9 => h9) rfl d_Way_judge_17 ?_
    refine lv_if_ne (tgt := 30) hx hb d_Way_judge_20 (by decide) (fun c20 => ?_) (fun c20 => ?_)
    · skip
      refine lv_iconst (v := 2) hx hb d_Way_judge_30 (by decide +kernel) ?_
      exact ft_reti () hx hb hr hlocks hP hK hD hS (by show (2 : Int32) = judge 0 br bg pay (whole1 es) most; simp [judge, c4, c20]) d_Way_judge_31
    · skip
      refine lv_aload_n hx hb d_Way_judge_23 rfl (lv_at hl 0 rfl) ?_
      refine ft_ci (wc := [(h, .inr (1, [.int 192, .int 0, .ref q1, .ref q3, .int br, .int bg, .int hk, .ref qt, .int es])), (q1, .inr (3, [.ref q2, .int (nI pay.2.1), .int pay.2.2])), (q2, .inl (cI, 400, .inl pay.1))]) (wr := []) (va_runU (As := []) (rest := []) ⟨hx, hb, hml, hown, ht⟩ (c_E_isWhole l D cI h q1 q2 q3 qt br bg hk es pay hp s.heap.size) (ft_cwA (owner := R_Way) 0 ht bw_310 bw_312 bw_316 bw_317 bw_37 bw_318 (hNW _ bn_311) (by decide) ⟨Nat.le_of_ble_eq_true rfl, Nat.le_of_ble_eq_true rfl⟩) ⟨ft_blind, va_recv hK hP (ci := 1) (q0 := 0) rfl rfl, (ft_pre hP hD hK hNW [0, 1, 2] [0] rfl rfl (by decide) rfl _)⟩ rfl rfl hl.1 rfl (lv_room (Nat.le_of_ble_eq_true rfl)) d_Way_judge_24 ⟨Nat.le_of_ble_eq_true rfl, Nat.le_of_ble_eq_true rfl⟩) hP hD hS hA [0, 1, 2] [] rfl rfl (by decide) (by decide) (fun r_1 u_2 H locs hu_2 hP hD hS => ?_)
      subst hu_2
      have hP : va_P D vwCl [(h, .inr (1, [.int 192, .int 0, .ref q1, .ref q3, .int br, .int bg, .int hk, .ref qt, .int es])), (q1, .inr (3, [.ref q2, .int (nI pay.2.1), .int pay.2.2])), (q2, .inl (cI, 400, .inl pay.1))] H := hP
      have hD : va_D A [(h, .inr (1, [.int 192, .int 0, .ref q1, .ref q3, .int br, .int bg, .int hk, .ref qt, .int es])), (q1, .inr (3, [.ref q2, .int (nI pay.2.1), .int pay.2.2])), (q2, .inl (cI, 400, .inl pay.1))] := hD
      refine lv_if_ne (tgt := 32) hx hb d_Way_judge_27 (by decide) (fun c27 => ?_) (fun c27 => ?_)
      · skip
        refine lv_aload_n hx hb d_Way_judge_32 rfl (lv_at hl 0 rfl) ?_
        refine va_get (D := D) (ci := 1) (v := .ref q1) (C := R_EW) (T := F_EW) (N := 9) hx hb ht bi_EW hown hK hP 0 rfl rfl 2 (by decide) (ht _ bw_93) (fun _ h9 => h9) rfl d_Way_judge_33 ?_
        refine va_getN (D := D) (ci := 3) (v := .int pay.2.2) (C := R_Row) (T := F_Row) (N := 3) hx hb ht bi_Row hown hK hP 1 rfl rfl 2 (by decide) (va_Nw.use rfl (hNW _ bn_65)) (fun _ h9 => h9) rfl d_Way_judge_36 ?_
        refine lv_if_ne (tgt := 53) hx hb d_Way_judge_39 (by decide) (fun c39 => ?_) (fun c39 => ?_)
        · skip
          refine lv_iconst (v := 3) hx hb d_Way_judge_53 (by decide +kernel) ?_
          refine lv_goto (tgt := 58) hx hb d_Way_judge_54 (by decide) ?_
          exact ft_reti () hx hb hr hlocks hP hK hD hS (by show (3 : Int32) = judge 0 br bg pay (whole1 es) most; simp [judge, c4, c20, c27, c39]) d_Way_judge_58
        · skip
          refine lv_aload_n hx hb d_Way_judge_42 rfl (lv_at hl 0 rfl) ?_
          refine va_get (D := D) (ci := 1) (v := .ref q1) (C := R_EW) (T := F_EW) (N := 9) hx hb ht bi_EW hown hK hP 0 rfl rfl 2 (by decide) (ht _ bw_93) (fun _ h9 => h9) rfl d_Way_judge_43 ?_
          refine va_getN (D := D) (ci := 3) (v := .int (nI pay.2.1)) (C := R_Row) (T := F_Row) (N := 3) hx hb ht bi_Row hown hK hP 1 rfl rfl 1 (by decide) (va_Nw.use rfl (hNW _ bn_63)) (fun _ h9 => h9) rfl d_Way_judge_46 ?_
          refine lv_iload_n hx hb d_Way_judge_49 rfl (lv_at hl 1 rfl) ?_
          refine lv_icmp_le (tgt := 57) hx hb d_Way_judge_50 (by decide) (fun c50 => ?_) (fun c50 => ?_)
          · skip
            refine lv_iconst (v := 1) hx hb d_Way_judge_57 (by decide +kernel) ?_
            exact ft_reti () hx hb hr hlocks hP hK hD hS (by show (1 : Int32) = judge 0 br bg pay (whole1 es) most; simp [judge, c4, c20, c27, c39, c50]) d_Way_judge_58
          · skip
            refine lv_iconst (v := 3) hx hb d_Way_judge_53 (by decide +kernel) ?_
            refine lv_goto (tgt := 58) hx hb d_Way_judge_54 (by decide) ?_
            exact ft_reti () hx hb hr hlocks hP hK hD hS (by show (3 : Int32) = judge 0 br bg pay (whole1 es) most; simp [judge, c4, c20, c27, c39, c50]) d_Way_judge_58
      · skip
        refine lv_iconst (v := 2) hx hb d_Way_judge_30 (by decide +kernel) ?_
        exact ft_reti () hx hb hr hlocks hP hK hD hS (by show (2 : Int32) = judge 0 br bg pay (whole1 es) most; simp [judge, c4, c20, c27]) d_Way_judge_31
  · skip
    refine lv_aload_n hx hb d_Way_judge_7 rfl (lv_at hl 0 rfl) ?_
    refine va_get (D := D) (ci := 1) (v := .int 0) (C := R_EW) (T := F_EW) (N := 9) hx hb ht bi_EW hown hK hP 0 rfl rfl 1 (by decide) (ht _ bw_91) (fun _ h9 => h9) rfl d_Way_judge_8 ?_
    refine lv_if_ne (tgt := 16) hx hb d_Way_judge_11 (by decide) (fun c11 => absurd (by decide) c11) (fun _ => ?_)
    refine lv_iconst (v := 0) hx hb d_Way_judge_14 (by decide +kernel) ?_
    exact ft_reti () hx hb hr hlocks hP hK hD hS (by show (0 : Int32) = judge 0 br bg pay (whole1 es) most; simp [judge, c4]) d_Way_judge_15

set_option maxHeartbeats 4000000 in
set_option maxRecDepth 100000 in
theorem c_E_keepPayload (l : Launch) (D : va_G) (cI : ClassId) (h q1 q3 qt : Nat) (br bg hk es : Int32) (sz : Nat) : ft_Mv l y_Way_keepPayload (.code y_Way_keepPayload b_Way_keepPayload 2 none :: ft_big) ({ frames := 0, cells := 0, slots := 0, locals := 0 }) D [(cI, .int)] sz [.ref h] [(h, .inr (1, [.int 192, .int 0, .ref q1, .ref q3, .int br, .int bg, .int hk, .ref qt, .int es]))] (fun _ : Unit => True) (fun _ => [(h, .inr (1, [.int 192, .int 0, .ref q3, .ref q1, .int br, .int bg, .int 1, .ref qt, .int es]))]) 0 0 := by
  refine ft_ev (cc := b_Way_keepPayload) (maxL := 2) (ret := none) (by decide) rfl (Nat.le_of_ble_eq_true rfl) ?_
  intro p e s m below meth c A ls hx hb hr hml hts hown hlocks hmn hP hK hD hA hS hNW hl
  have ht : ∀ w ∈ ft_big, w.before _ s = true := fun w h => hts w (List.mem_cons_of_mem _ h)
  have hP : va_P D vwCl [(h, .inr (1, [.int 192, .int 0, .ref q1, .ref q3, .int br, .int bg, .int hk, .ref qt, .int es]))] s.heap := hP
  have hD : va_D A [(h, .inr (1, [.int 192, .int 0, .ref q1, .ref q3, .int br, .int bg, .int hk, .ref qt, .int es]))] := hD
  have hl : lv_has ls 2 [(0, .ref h)] := hl
  refine lv_aload_n hx hb d_Way_keepPayload_0 rfl (lv_at hl 0 rfl) ?_
  refine va_get (D := D) (ci := 1) (v := .ref q3) (C := R_EW) (T := F_EW) (N := 9) hx hb ht bi_EW hown hK hP 0 rfl rfl 3 (by decide) (ht _ bw_100) (fun _ h9 => h9) rfl d_Way_keepPayload_1 ?_
  refine lv_astore_n (lv' := [(1, .ref q3), (0, .ref h)]) hx hb d_Way_keepPayload_4 rfl hl (by decide) rfl (fun ls hl => ?_)
  refine lv_aload_n hx hb d_Way_keepPayload_5 rfl (lv_at hl 1 rfl) ?_
  refine lv_aload_n hx hb d_Way_keepPayload_6 rfl (lv_at hl 1 rfl) ?_
  refine va_get (D := D) (ci := 1) (v := .ref q1) (C := R_EW) (T := F_EW) (N := 9) hx hb ht bi_EW hown hK hP 0 rfl rfl 2 (by decide) (ht _ bw_93) (fun _ h9 => h9) rfl d_Way_keepPayload_7 ?_
  refine va_put (D := D) (ci := 1) (v := .ref q1) (ty := (.object "FramingTrio$Row")) (C := R_EW) (T := F_EW) (N := 9) hx hb ht bi_EW t_EW t_EW_ok n_EW hown hK hP hD hS 0 rfl rfl 3 (by decide) (ht _ bw_100) (fun _ h9 => h9) rfl (by decide +kernel) rfl rfl (Nat.le_of_ble_eq_true rfl) d_Way_keepPayload_10 (fun H locs hP hD hS => ?_)
  have hP : va_P D vwCl [(h, .inr (1, [.int 192, .int 0, .ref q1, .ref q1, .int br, .int bg, .int hk, .ref qt, .int es]))] H := hP
  have hD : va_D A [(h, .inr (1, [.int 192, .int 0, .ref q1, .ref q1, .int br, .int bg, .int hk, .ref qt, .int es]))] := hD
  refine lv_aload_n hx hb d_Way_keepPayload_13 rfl (lv_at hl 1 rfl) ?_
  refine lv_aload_n hx hb d_Way_keepPayload_14 rfl (lv_at hl 0 rfl) ?_
  refine va_put (D := D) (ci := 1) (v := .ref q3) (ty := (.object "FramingTrio$Row")) (C := R_EW) (T := F_EW) (N := 9) hx hb ht bi_EW t_EW t_EW_ok n_EW hown hK hP hD hS 0 rfl rfl 2 (by decide) (ht _ bw_93) (fun _ h9 => h9) rfl (by decide +kernel) rfl rfl (Nat.le_of_ble_eq_true rfl) d_Way_keepPayload_15 (fun H locs hP hD hS => ?_)
  have hP : va_P D vwCl [(h, .inr (1, [.int 192, .int 0, .ref q3, .ref q1, .int br, .int bg, .int hk, .ref qt, .int es]))] H := hP
  have hD : va_D A [(h, .inr (1, [.int 192, .int 0, .ref q3, .ref q1, .int br, .int bg, .int hk, .ref qt, .int es]))] := hD
  refine lv_aload_n hx hb d_Way_keepPayload_18 rfl (lv_at hl 1 rfl) ?_
  refine lv_iconst (v := 1) hx hb d_Way_keepPayload_19 (by decide +kernel) ?_
  refine va_put (D := D) (ci := 1) (v := .int 1) (ty := .boolean) (C := R_EW) (T := F_EW) (N := 9) hx hb ht bi_EW t_EW t_EW_ok n_EW hown hK hP hD hS 0 rfl rfl 6 (by decide) (ht _ bw_108) (fun _ h9 => h9) rfl (by decide +kernel) rfl rfl (Nat.le_of_ble_eq_true rfl) d_Way_keepPayload_20 (fun H locs hP hD hS => ?_)
  have hP : va_P D vwCl [(h, .inr (1, [.int 192, .int 0, .ref q3, .ref q1, .int br, .int bg, .int 1, .ref qt, .int es]))] H := hP
  have hD : va_D A [(h, .inr (1, [.int 192, .int 0, .ref q3, .ref q1, .int br, .int bg, .int 1, .ref qt, .int es]))] := hD
  exact ft_retv () hx hb hr hlocks hP hK hD hS trivial d_Way_keepPayload_23

set_option maxHeartbeats 4000000 in
set_option maxRecDepth 100000 in
theorem c_E_finishChunk (l : Launch) (D : va_G) (cI : ClassId) (h q1 q2 q3 q4 qt : Nat) (br bg hk es : Int32) (ta : Nat → Int32) (pay kept : RS) (hp : pay.2.1 ≤ 400) (hp2 : kept.2.1 ≤ 400) (most : Int32) (sz : Nat) : ft_Mi l y_Way_finishChunk (.code y_Way_finishChunk b_Way_finishChunk 3 (some .int) :: ft_big) ({ frames := 3, cells := 0, slots := 0, locals := 120 }) D [(cI, .int)] sz [.ref h, .int most] [(h, .inr (1, [.int 192, .int 0, .ref q1, .ref q3, .int br, .int bg, .int hk, .ref qt, .int es])), (q1, .inr (3, [.ref q2, .int (nI pay.2.1), .int pay.2.2])), (q2, .inl (cI, 400, .inl pay.1)), (q3, .inr (3, [.ref q4, .int (nI kept.2.1), .int kept.2.2])), (q4, .inl (cI, 400, .inl kept.1)), (qt, .inl (cI, 4, .inl ta))] (fun (v : Int32) (u : Nat × Nat × Nat × Nat × CS × Int32) => v = (judge 0 br bg pay (whole1 es) most) ∧ u.2.2.2.2 = (finC v (pay, kept, br, bg, hk, ta), 0)) (wE h qt cI) 0 0 := by
  refine ft_ei (cc := b_Way_finishChunk) (maxL := 3) (ret := (some .int)) (by decide) rfl (Nat.le_of_ble_eq_true rfl) ?_
  intro p e s m below meth c A ls hx hb hr hml hts hown hlocks hmn hP hK hD hA hS hNW hl
  have ht : ∀ w ∈ ft_big, w.before _ s = true := fun w h => hts w (List.mem_cons_of_mem _ h)
  have hP : va_P D vwCl [(h, .inr (1, [.int 192, .int 0, .ref q1, .ref q3, .int br, .int bg, .int hk, .ref qt, .int es])), (q1, .inr (3, [.ref q2, .int (nI pay.2.1), .int pay.2.2])), (q2, .inl (cI, 400, .inl pay.1)), (q3, .inr (3, [.ref q4, .int (nI kept.2.1), .int kept.2.2])), (q4, .inl (cI, 400, .inl kept.1)), (qt, .inl (cI, 4, .inl ta))] s.heap := hP
  have hD : va_D A [(h, .inr (1, [.int 192, .int 0, .ref q1, .ref q3, .int br, .int bg, .int hk, .ref qt, .int es])), (q1, .inr (3, [.ref q2, .int (nI pay.2.1), .int pay.2.2])), (q2, .inl (cI, 400, .inl pay.1)), (q3, .inr (3, [.ref q4, .int (nI kept.2.1), .int kept.2.2])), (q4, .inl (cI, 400, .inl kept.1)), (qt, .inl (cI, 4, .inl ta))] := hD
  have hl : lv_has ls 3 [(0, .ref h), (1, .int most)] := hl
  refine lv_aload_n hx hb d_Way_finishChunk_0 rfl (lv_at hl 0 rfl) ?_
  refine lv_iload_n hx hb d_Way_finishChunk_1 rfl (lv_at hl 1 rfl) ?_
  refine ft_ci (wc := [(h, .inr (1, [.int 192, .int 0, .ref q1, .ref q3, .int br, .int bg, .int hk, .ref qt, .int es])), (q1, .inr (3, [.ref q2, .int (nI pay.2.1), .int pay.2.2])), (q2, .inl (cI, 400, .inl pay.1))]) (wr := [(q3, .inr (3, [.ref q4, .int (nI kept.2.1), .int kept.2.2])), (q4, .inl (cI, 400, .inl kept.1)), (qt, .inl (cI, 4, .inl ta))]) (va_runU (As := [.int most]) (rest := []) ⟨hx, hb, hml, hown, ht⟩ (c_E_judge l D cI h q1 q2 q3 qt br bg hk es pay hp most s.heap.size) (ft_cwU (owner := R_Way) 1 ht bw_306 bw_585 bw_4 bw_308 bw_35 bw_309 (by decide) ⟨Nat.le_of_ble_eq_true rfl, Nat.le_of_ble_eq_true rfl⟩) ⟨ft_blind, va_recv hK hP (ci := 1) (q0 := 0) rfl rfl, (ft_pre hP hD hK hNW [0, 1, 2] [0] rfl rfl (by decide) rfl _)⟩ rfl rfl hl.1 rfl (lv_room (Nat.le_of_ble_eq_true rfl)) d_Way_finishChunk_2 ⟨Nat.le_of_ble_eq_true rfl, Nat.le_of_ble_eq_true rfl⟩) hP hD hS hA [0, 1, 2] [3, 4, 5] rfl rfl (by decide) (by decide) (fun r_1 u_2 H locs hu_2 hP hD hS => ?_)
  have hP : va_P D vwCl [(q3, .inr (3, [.ref q4, .int (nI kept.2.1), .int kept.2.2])), (q4, .inl (cI, 400, .inl kept.1)), (qt, .inl (cI, 4, .inl ta)), (h, .inr (1, [.int 192, .int 0, .ref q1, .ref q3, .int br, .int bg, .int hk, .ref qt, .int es])), (q1, .inr (3, [.ref q2, .int (nI pay.2.1), .int pay.2.2])), (q2, .inl (cI, 400, .inl pay.1))] H := hP
  have hD : va_D A [(q3, .inr (3, [.ref q4, .int (nI kept.2.1), .int kept.2.2])), (q4, .inl (cI, 400, .inl kept.1)), (qt, .inl (cI, 4, .inl ta)), (h, .inr (1, [.int 192, .int 0, .ref q1, .ref q3, .int br, .int bg, .int hk, .ref qt, .int es])), (q1, .inr (3, [.ref q2, .int (nI pay.2.1), .int pay.2.2])), (q2, .inl (cI, 400, .inl pay.1))] := hD
  have e_v := hu_2
  rcases judge_4 0 br bg pay (whole1 es) most with hv | hv | hv | hv
  · rw [hv] at hu_2
    subst hu_2
    refine lv_istore_n (lv' := [(2, .int 0), (0, .ref h), (1, .int most)]) hx hb d_Way_finishChunk_5 rfl hl (by decide) rfl (fun ls hl => ?_)
    refine lv_iload_n hx hb d_Way_finishChunk_6 rfl (lv_at hl 0 rfl) ?_
    refine lv_iconst (v := 1) hx hb d_Way_finishChunk_7 (by decide +kernel) ?_
    refine lv_icmp_lt (tgt := 26) hx hb d_Way_finishChunk_8 (by decide) (fun _ => ?_) (fun c8 => absurd (by decide) c8)
    refine lv_iload_n hx hb d_Way_finishChunk_26 rfl (lv_at hl 0 rfl) ?_
    refine lv_iconst (v := 1) hx hb d_Way_finishChunk_27 (by decide +kernel) ?_
    refine lv_icmp_ne (tgt := 35) hx hb d_Way_finishChunk_28 (by decide) (fun _ => ?_) (fun c28 => absurd c28 (by decide))
    refine lv_aload_n hx hb d_Way_finishChunk_35 rfl (lv_at hl 1 rfl) ?_
    refine va_get (D := D) (ci := 1) (v := .ref q1) (C := R_EW) (T := F_EW) (N := 9) hx hb ht bi_EW hown hK hP 3 rfl rfl 2 (by decide) (ht _ bw_93) (fun _ h9 => h9) rfl d_Way_finishChunk_36 ?_
    refine lv_iconst (v := nI 0) hx hb d_Way_finishChunk_39 (by decide +kernel) ?_
    refine ft_cv (wc := [(q1, .inr (3, [.ref q2, .int (nI pay.2.1), .int pay.2.2])), (q2, .inl (cI, 400, .inl pay.1))]) (wr := [(q3, .inr (3, [.ref q4, .int (nI kept.2.1), .int kept.2.2])), (q4, .inl (cI, 400, .inl kept.1)), (qt, .inl (cI, 4, .inl ta)), (h, .inr (1, [.int 192, .int 0, .ref q1, .ref q3, .int br, .int bg, .int hk, .ref qt, .int es]))]) (va_runV (As := [.int (nI 0)]) (rest := []) ⟨hx, hb, hml, hown, ht⟩ (c_Row_cutTo l D cI q1 q2 400 (by omega) pay hp 0 (by omega) H.size) (ft_cwV 1 ht bw_326 bw_210 bw_211 bw_33 bw_212 (by decide) ⟨Nat.le_of_ble_eq_true rfl, Nat.le_of_ble_eq_true rfl⟩) ⟨ft_blind, va_recv hK hP (ci := 3) (q0 := 4) rfl rfl, (ft_pre hP hD hK hNW [4, 5] [0] rfl rfl (by decide) rfl _)⟩ rfl rfl hl.1 rfl (lv_room (Nat.le_of_ble_eq_true rfl)) d_Way_finishChunk_40 ⟨Nat.le_of_ble_eq_true rfl, Nat.le_of_ble_eq_true rfl⟩) hP hD hS hA [4, 5] [0, 1, 2, 3] rfl rfl (by decide) (by decide) (fun u_4 H locs hu_4 hP hD hS => ?_)
    have le_u_4 : u_4.2.1 ≤ 400 := by rw [hu_4]; exact rcut_le hp
    have hP : va_P D vwCl [(q3, .inr (3, [.ref q4, .int (nI kept.2.1), .int kept.2.2])), (q4, .inl (cI, 400, .inl kept.1)), (qt, .inl (cI, 4, .inl ta)), (h, .inr (1, [.int 192, .int 0, .ref q1, .ref q3, .int br, .int bg, .int hk, .ref qt, .int es])), (q1, .inr (3, [.ref q2, .int (nI u_4.2.1), .int u_4.2.2])), (q2, .inl (cI, 400, .inl u_4.1))] H := hP
    have hD : va_D A [(q3, .inr (3, [.ref q4, .int (nI kept.2.1), .int kept.2.2])), (q4, .inl (cI, 400, .inl kept.1)), (qt, .inl (cI, 4, .inl ta)), (h, .inr (1, [.int 192, .int 0, .ref q1, .ref q3, .int br, .int bg, .int hk, .ref qt, .int es])), (q1, .inr (3, [.ref q2, .int (nI u_4.2.1), .int u_4.2.2])), (q2, .inl (cI, 400, .inl u_4.1))] := hD
    rw [rcut_0] at hu_4
    refine lv_aload_n hx hb d_Way_finishChunk_43 rfl (lv_at hl 1 rfl) ?_
    refine lv_iconst (v := 0) hx hb d_Way_finishChunk_44 (by decide +kernel) ?_
    refine va_put (D := D) (ci := 1) (v := .int 0) (ty := .boolean) (C := R_EW) (T := F_EW) (N := 9) hx hb ht bi_EW t_EW t_EW_ok n_EW hown hK hP hD hS 3 rfl rfl 4 (by decide) (ht _ bw_102) (fun _ h9 => h9) rfl (by decide +kernel) rfl rfl (Nat.le_of_ble_eq_true rfl) d_Way_finishChunk_45 (fun H locs hP hD hS => ?_)
    have hP : va_P D vwCl [(q3, .inr (3, [.ref q4, .int (nI kept.2.1), .int kept.2.2])), (q4, .inl (cI, 400, .inl kept.1)), (qt, .inl (cI, 4, .inl ta)), (h, .inr (1, [.int 192, .int 0, .ref q1, .ref q3, .int 0, .int bg, .int hk, .ref qt, .int es])), (q1, .inr (3, [.ref q2, .int (nI u_4.2.1), .int u_4.2.2])), (q2, .inl (cI, 400, .inl u_4.1))] H := hP
    have hD : va_D A [(q3, .inr (3, [.ref q4, .int (nI kept.2.1), .int kept.2.2])), (q4, .inl (cI, 400, .inl kept.1)), (qt, .inl (cI, 4, .inl ta)), (h, .inr (1, [.int 192, .int 0, .ref q1, .ref q3, .int 0, .int bg, .int hk, .ref qt, .int es])), (q1, .inr (3, [.ref q2, .int (nI u_4.2.1), .int u_4.2.2])), (q2, .inl (cI, 400, .inl u_4.1))] := hD
    refine lv_aload_n hx hb d_Way_finishChunk_48 rfl (lv_at hl 1 rfl) ?_
    refine lv_iconst (v := 0) hx hb d_Way_finishChunk_49 (by decide +kernel) ?_
    refine va_put (D := D) (ci := 1) (v := .int 0) (ty := .boolean) (C := R_EW) (T := F_EW) (N := 9) hx hb ht bi_EW t_EW t_EW_ok n_EW hown hK hP hD hS 3 rfl rfl 5 (by decide) (ht _ bw_107) (fun _ h9 => h9) rfl (by decide +kernel) rfl rfl (Nat.le_of_ble_eq_true rfl) d_Way_finishChunk_50 (fun H locs hP hD hS => ?_)
    have hP : va_P D vwCl [(q3, .inr (3, [.ref q4, .int (nI kept.2.1), .int kept.2.2])), (q4, .inl (cI, 400, .inl kept.1)), (qt, .inl (cI, 4, .inl ta)), (h, .inr (1, [.int 192, .int 0, .ref q1, .ref q3, .int 0, .int 0, .int hk, .ref qt, .int es])), (q1, .inr (3, [.ref q2, .int (nI u_4.2.1), .int u_4.2.2])), (q2, .inl (cI, 400, .inl u_4.1))] H := hP
    have hD : va_D A [(q3, .inr (3, [.ref q4, .int (nI kept.2.1), .int kept.2.2])), (q4, .inl (cI, 400, .inl kept.1)), (qt, .inl (cI, 4, .inl ta)), (h, .inr (1, [.int 192, .int 0, .ref q1, .ref q3, .int 0, .int 0, .int hk, .ref qt, .int es])), (q1, .inr (3, [.ref q2, .int (nI u_4.2.1), .int u_4.2.2])), (q2, .inl (cI, 400, .inl u_4.1))] := hD
    refine lv_aload_n hx hb d_Way_finishChunk_53 rfl (lv_at hl 1 rfl) ?_
    refine ft_cv (wc := [(h, .inr (1, [.int 192, .int 0, .ref q1, .ref q3, .int 0, .int 0, .int hk, .ref qt, .int es]))]) (wr := [(q3, .inr (3, [.ref q4, .int (nI kept.2.1), .int kept.2.2])), (q4, .inl (cI, 400, .inl kept.1)), (qt, .inl (cI, 4, .inl ta)), (q1, .inr (3, [.ref q2, .int (nI u_4.2.1), .int u_4.2.2])), (q2, .inl (cI, 400, .inl u_4.1))]) (va_runU (As := []) (rest := []) ⟨hx, hb, hml, hown, ht⟩ (c_E_forgetChunk l D cI h q1 q3 qt 0 0 hk es H.size) (ft_cwA (owner := R_Way) 0 ht bw_327 bw_329 bw_333 bw_334 bw_37 bw_335 (hNW _ bn_328) (by decide) ⟨Nat.le_of_ble_eq_true rfl, Nat.le_of_ble_eq_true rfl⟩) ⟨ft_blind, va_recv hK hP (ci := 1) (q0 := 3) rfl rfl, (ft_pre hP hD hK hNW [3] [0] rfl rfl (by decide) rfl _)⟩ rfl rfl hl.1 rfl (lv_room (Nat.le_of_ble_eq_true rfl)) d_Way_finishChunk_54 ⟨Nat.le_of_ble_eq_true rfl, Nat.le_of_ble_eq_true rfl⟩) hP hD hS hA [3] [0, 1, 2, 4, 5] rfl rfl (by decide) (by decide) (fun u_6 H locs hu_6 hP hD hS => ?_)
    have hP : va_P D vwCl [(q3, .inr (3, [.ref q4, .int (nI kept.2.1), .int kept.2.2])), (q4, .inl (cI, 400, .inl kept.1)), (qt, .inl (cI, 4, .inl ta)), (q1, .inr (3, [.ref q2, .int (nI u_4.2.1), .int u_4.2.2])), (q2, .inl (cI, 400, .inl u_4.1)), (h, .inr (1, [.int 192, .int 0, .ref q1, .ref q3, .int 0, .int 0, .int hk, .ref qt, .int 0]))] H := hP
    have hD : va_D A [(q3, .inr (3, [.ref q4, .int (nI kept.2.1), .int kept.2.2])), (q4, .inl (cI, 400, .inl kept.1)), (qt, .inl (cI, 4, .inl ta)), (q1, .inr (3, [.ref q2, .int (nI u_4.2.1), .int u_4.2.2])), (q2, .inl (cI, 400, .inl u_4.1)), (h, .inr (1, [.int 192, .int 0, .ref q1, .ref q3, .int 0, .int 0, .int hk, .ref qt, .int 0]))] := hD
    refine lv_iload_n hx hb d_Way_finishChunk_57 rfl (lv_at hl 0 rfl) ?_
    exact ft_reti (q1, q2, q3, q4, (u_4, kept, 0, 0, hk, ta), 0) hx hb hr hlocks (hP.sub [5, 3, 4, 0, 1, 2] rfl) hK (hD.sub [5, 3, 4, 0, 1, 2] (by decide) rfl) hS ⟨hv.symm, by simp [finC, hu_4, hu_6]⟩ d_Way_finishChunk_58
  · rw [hv] at hu_2
    subst hu_2
    refine lv_istore_n (lv' := [(2, .int 1), (0, .ref h), (1, .int most)]) hx hb d_Way_finishChunk_5 rfl hl (by decide) rfl (fun ls hl => ?_)
    refine lv_iload_n hx hb d_Way_finishChunk_6 rfl (lv_at hl 0 rfl) ?_
    refine lv_iconst (v := 1) hx hb d_Way_finishChunk_7 (by decide +kernel) ?_
    refine lv_icmp_lt (tgt := 26) hx hb d_Way_finishChunk_8 (by decide) (fun c8 => absurd c8 (by decide)) (fun _ => ?_)
    refine lv_iload_n hx hb d_Way_finishChunk_11 rfl (lv_at hl 0 rfl) ?_
    refine lv_iconst (v := 3) hx hb d_Way_finishChunk_12 (by decide +kernel) ?_
    refine lv_icmp_gt (tgt := 26) hx hb d_Way_finishChunk_13 (by decide) (fun c13 => absurd c13 (by decide)) (fun _ => ?_)
    refine lv_aload_n hx hb d_Way_finishChunk_16 rfl (lv_at hl 1 rfl) ?_
    refine va_get (D := D) (ci := 1) (v := .ref qt) (C := R_EW) (T := F_EW) (N := 9) hx hb ht bi_EW hown hK hP 3 rfl rfl 7 (by decide) (ht _ bw_109) (fun _ h9 => h9) rfl d_Way_finishChunk_17 ?_
    refine lv_iload_n hx hb d_Way_finishChunk_20 rfl (lv_at hl 0 rfl) ?_
    refine lv_dup2_11 hx hb d_Way_finishChunk_21 rfl rfl ?_
    refine va_iald hx hb hK hP 2 0 rfl rfl (vp_in_iff.mpr (by decide)) d_Way_finishChunk_22 ?_
    refine ft_top (congrArg ta (show (1 : Int32).toNatClampNeg = 1 from by decide)) ?_
    refine lv_iconst (v := 1) hx hb d_Way_finishChunk_23 (by decide +kernel) ?_
    refine lv_iadd hx hb d_Way_finishChunk_24 ?_
    refine va_iast hx hb hK hP hD hS 2 0 rfl rfl (vp_in_iff.mpr (by decide)) d_Way_finishChunk_25 (fun H locs hP hD hS => ?_)
    rw [show (1 : Int32).toNatClampNeg = 1 from by decide] at hP hD
    have hP : va_P D vwCl [(q3, .inr (3, [.ref q4, .int (nI kept.2.1), .int kept.2.2])), (q4, .inl (cI, 400, .inl kept.1)), (qt, .inl (cI, 4, .inl (upd ta 1 ((ta 1) + 1)))), (h, .inr (1, [.int 192, .int 0, .ref q1, .ref q3, .int br, .int bg, .int hk, .ref qt, .int es])), (q1, .inr (3, [.ref q2, .int (nI pay.2.1), .int pay.2.2])), (q2, .inl (cI, 400, .inl pay.1))] H := hP
    have hD : va_D A [(q3, .inr (3, [.ref q4, .int (nI kept.2.1), .int kept.2.2])), (q4, .inl (cI, 400, .inl kept.1)), (qt, .inl (cI, 4, .inl (upd ta 1 ((ta 1) + 1)))), (h, .inr (1, [.int 192, .int 0, .ref q1, .ref q3, .int br, .int bg, .int hk, .ref qt, .int es])), (q1, .inr (3, [.ref q2, .int (nI pay.2.1), .int pay.2.2])), (q2, .inl (cI, 400, .inl pay.1))] := hD
    refine lv_iload_n hx hb d_Way_finishChunk_26 rfl (lv_at hl 0 rfl) ?_
    refine lv_iconst (v := 1) hx hb d_Way_finishChunk_27 (by decide +kernel) ?_
    refine lv_icmp_ne (tgt := 35) hx hb d_Way_finishChunk_28 (by decide) (fun c28 => absurd (by decide) c28) (fun _ => ?_)
    refine lv_aload_n hx hb d_Way_finishChunk_31 rfl (lv_at hl 1 rfl) ?_
    refine ft_cv (wc := [(h, .inr (1, [.int 192, .int 0, .ref q1, .ref q3, .int br, .int bg, .int hk, .ref qt, .int es]))]) (wr := [(q3, .inr (3, [.ref q4, .int (nI kept.2.1), .int kept.2.2])), (q4, .inl (cI, 400, .inl kept.1)), (qt, .inl (cI, 4, .inl (upd ta 1 ((ta 1) + 1)))), (q1, .inr (3, [.ref q2, .int (nI pay.2.1), .int pay.2.2])), (q2, .inl (cI, 400, .inl pay.1))]) (va_runU (As := []) (rest := []) ⟨hx, hb, hml, hown, ht⟩ (c_E_keepPayload l D cI h q1 q3 qt br bg hk es H.size) (ft_cwU (owner := R_Way) 0 ht bw_322 bw_586 bw_7 bw_324 bw_35 bw_325 (by decide) ⟨Nat.le_of_ble_eq_true rfl, Nat.le_of_ble_eq_true rfl⟩) ⟨ft_blind, va_recv hK hP (ci := 1) (q0 := 3) rfl rfl, (ft_pre hP hD hK hNW [3] [0] rfl rfl (by decide) rfl _)⟩ rfl rfl hl.1 rfl (lv_room (Nat.le_of_ble_eq_true rfl)) d_Way_finishChunk_32 ⟨Nat.le_of_ble_eq_true rfl, Nat.le_of_ble_eq_true rfl⟩) hP hD hS hA [3] [0, 1, 2, 4, 5] rfl rfl (by decide) (by decide) (fun u_8 H locs hu_8 hP hD hS => ?_)
    have hP : va_P D vwCl [(q3, .inr (3, [.ref q4, .int (nI kept.2.1), .int kept.2.2])), (q4, .inl (cI, 400, .inl kept.1)), (qt, .inl (cI, 4, .inl (upd ta 1 ((ta 1) + 1)))), (q1, .inr (3, [.ref q2, .int (nI pay.2.1), .int pay.2.2])), (q2, .inl (cI, 400, .inl pay.1)), (h, .inr (1, [.int 192, .int 0, .ref q3, .ref q1, .int br, .int bg, .int 1, .ref qt, .int es]))] H := hP
    have hD : va_D A [(q3, .inr (3, [.ref q4, .int (nI kept.2.1), .int kept.2.2])), (q4, .inl (cI, 400, .inl kept.1)), (qt, .inl (cI, 4, .inl (upd ta 1 ((ta 1) + 1)))), (q1, .inr (3, [.ref q2, .int (nI pay.2.1), .int pay.2.2])), (q2, .inl (cI, 400, .inl pay.1)), (h, .inr (1, [.int 192, .int 0, .ref q3, .ref q1, .int br, .int bg, .int 1, .ref qt, .int es]))] := hD
    refine lv_aload_n hx hb d_Way_finishChunk_35 rfl (lv_at hl 1 rfl) ?_
    refine va_get (D := D) (ci := 1) (v := .ref q3) (C := R_EW) (T := F_EW) (N := 9) hx hb ht bi_EW hown hK hP 5 rfl rfl 2 (by decide) (ht _ bw_93) (fun _ h9 => h9) rfl d_Way_finishChunk_36 ?_
    refine lv_iconst (v := nI 0) hx hb d_Way_finishChunk_39 (by decide +kernel) ?_
    refine ft_cv (wc := [(q3, .inr (3, [.ref q4, .int (nI kept.2.1), .int kept.2.2])), (q4, .inl (cI, 400, .inl kept.1))]) (wr := [(qt, .inl (cI, 4, .inl (upd ta 1 ((ta 1) + 1)))), (q1, .inr (3, [.ref q2, .int (nI pay.2.1), .int pay.2.2])), (q2, .inl (cI, 400, .inl pay.1)), (h, .inr (1, [.int 192, .int 0, .ref q3, .ref q1, .int br, .int bg, .int 1, .ref qt, .int es]))]) (va_runV (As := [.int (nI 0)]) (rest := []) ⟨hx, hb, hml, hown, ht⟩ (c_Row_cutTo l D cI q3 q4 400 (by omega) kept hp2 0 (by omega) H.size) (ft_cwV 1 ht bw_326 bw_210 bw_211 bw_33 bw_212 (by decide) ⟨Nat.le_of_ble_eq_true rfl, Nat.le_of_ble_eq_true rfl⟩) ⟨ft_blind, va_recv hK hP (ci := 3) (q0 := 0) rfl rfl, (ft_pre hP hD hK hNW [0, 1] [0] rfl rfl (by decide) rfl _)⟩ rfl rfl hl.1 rfl (lv_room (Nat.le_of_ble_eq_true rfl)) d_Way_finishChunk_40 ⟨Nat.le_of_ble_eq_true rfl, Nat.le_of_ble_eq_true rfl⟩) hP hD hS hA [0, 1] [2, 3, 4, 5] rfl rfl (by decide) (by decide) (fun u_10 H locs hu_10 hP hD hS => ?_)
    have le_u_10 : u_10.2.1 ≤ 400 := by rw [hu_10]; exact rcut_le hp2
    have hP : va_P D vwCl [(qt, .inl (cI, 4, .inl (upd ta 1 ((ta 1) + 1)))), (q1, .inr (3, [.ref q2, .int (nI pay.2.1), .int pay.2.2])), (q2, .inl (cI, 400, .inl pay.1)), (h, .inr (1, [.int 192, .int 0, .ref q3, .ref q1, .int br, .int bg, .int 1, .ref qt, .int es])), (q3, .inr (3, [.ref q4, .int (nI u_10.2.1), .int u_10.2.2])), (q4, .inl (cI, 400, .inl u_10.1))] H := hP
    have hD : va_D A [(qt, .inl (cI, 4, .inl (upd ta 1 ((ta 1) + 1)))), (q1, .inr (3, [.ref q2, .int (nI pay.2.1), .int pay.2.2])), (q2, .inl (cI, 400, .inl pay.1)), (h, .inr (1, [.int 192, .int 0, .ref q3, .ref q1, .int br, .int bg, .int 1, .ref qt, .int es])), (q3, .inr (3, [.ref q4, .int (nI u_10.2.1), .int u_10.2.2])), (q4, .inl (cI, 400, .inl u_10.1))] := hD
    rw [rcut_0] at hu_10
    refine lv_aload_n hx hb d_Way_finishChunk_43 rfl (lv_at hl 1 rfl) ?_
    refine lv_iconst (v := 0) hx hb d_Way_finishChunk_44 (by decide +kernel) ?_
    refine va_put (D := D) (ci := 1) (v := .int 0) (ty := .boolean) (C := R_EW) (T := F_EW) (N := 9) hx hb ht bi_EW t_EW t_EW_ok n_EW hown hK hP hD hS 3 rfl rfl 4 (by decide) (ht _ bw_102) (fun _ h9 => h9) rfl (by decide +kernel) rfl rfl (Nat.le_of_ble_eq_true rfl) d_Way_finishChunk_45 (fun H locs hP hD hS => ?_)
    have hP : va_P D vwCl [(qt, .inl (cI, 4, .inl (upd ta 1 ((ta 1) + 1)))), (q1, .inr (3, [.ref q2, .int (nI pay.2.1), .int pay.2.2])), (q2, .inl (cI, 400, .inl pay.1)), (h, .inr (1, [.int 192, .int 0, .ref q3, .ref q1, .int 0, .int bg, .int 1, .ref qt, .int es])), (q3, .inr (3, [.ref q4, .int (nI u_10.2.1), .int u_10.2.2])), (q4, .inl (cI, 400, .inl u_10.1))] H := hP
    have hD : va_D A [(qt, .inl (cI, 4, .inl (upd ta 1 ((ta 1) + 1)))), (q1, .inr (3, [.ref q2, .int (nI pay.2.1), .int pay.2.2])), (q2, .inl (cI, 400, .inl pay.1)), (h, .inr (1, [.int 192, .int 0, .ref q3, .ref q1, .int 0, .int bg, .int 1, .ref qt, .int es])), (q3, .inr (3, [.ref q4, .int (nI u_10.2.1), .int u_10.2.2])), (q4, .inl (cI, 400, .inl u_10.1))] := hD
    refine lv_aload_n hx hb d_Way_finishChunk_48 rfl (lv_at hl 1 rfl) ?_
    refine lv_iconst (v := 0) hx hb d_Way_finishChunk_49 (by decide +kernel) ?_
    refine va_put (D := D) (ci := 1) (v := .int 0) (ty := .boolean) (C := R_EW) (T := F_EW) (N := 9) hx hb ht bi_EW t_EW t_EW_ok n_EW hown hK hP hD hS 3 rfl rfl 5 (by decide) (ht _ bw_107) (fun _ h9 => h9) rfl (by decide +kernel) rfl rfl (Nat.le_of_ble_eq_true rfl) d_Way_finishChunk_50 (fun H locs hP hD hS => ?_)
    have hP : va_P D vwCl [(qt, .inl (cI, 4, .inl (upd ta 1 ((ta 1) + 1)))), (q1, .inr (3, [.ref q2, .int (nI pay.2.1), .int pay.2.2])), (q2, .inl (cI, 400, .inl pay.1)), (h, .inr (1, [.int 192, .int 0, .ref q3, .ref q1, .int 0, .int 0, .int 1, .ref qt, .int es])), (q3, .inr (3, [.ref q4, .int (nI u_10.2.1), .int u_10.2.2])), (q4, .inl (cI, 400, .inl u_10.1))] H := hP
    have hD : va_D A [(qt, .inl (cI, 4, .inl (upd ta 1 ((ta 1) + 1)))), (q1, .inr (3, [.ref q2, .int (nI pay.2.1), .int pay.2.2])), (q2, .inl (cI, 400, .inl pay.1)), (h, .inr (1, [.int 192, .int 0, .ref q3, .ref q1, .int 0, .int 0, .int 1, .ref qt, .int es])), (q3, .inr (3, [.ref q4, .int (nI u_10.2.1), .int u_10.2.2])), (q4, .inl (cI, 400, .inl u_10.1))] := hD
    refine lv_aload_n hx hb d_Way_finishChunk_53 rfl (lv_at hl 1 rfl) ?_
    refine ft_cv (wc := [(h, .inr (1, [.int 192, .int 0, .ref q3, .ref q1, .int 0, .int 0, .int 1, .ref qt, .int es]))]) (wr := [(qt, .inl (cI, 4, .inl (upd ta 1 ((ta 1) + 1)))), (q1, .inr (3, [.ref q2, .int (nI pay.2.1), .int pay.2.2])), (q2, .inl (cI, 400, .inl pay.1)), (q3, .inr (3, [.ref q4, .int (nI u_10.2.1), .int u_10.2.2])), (q4, .inl (cI, 400, .inl u_10.1))]) (va_runU (As := []) (rest := []) ⟨hx, hb, hml, hown, ht⟩ (c_E_forgetChunk l D cI h q3 q1 qt 0 0 1 es H.size) (ft_cwA (owner := R_Way) 0 ht bw_327 bw_329 bw_333 bw_334 bw_37 bw_335 (hNW _ bn_328) (by decide) ⟨Nat.le_of_ble_eq_true rfl, Nat.le_of_ble_eq_true rfl⟩) ⟨ft_blind, va_recv hK hP (ci := 1) (q0 := 3) rfl rfl, (ft_pre hP hD hK hNW [3] [0] rfl rfl (by decide) rfl _)⟩ rfl rfl hl.1 rfl (lv_room (Nat.le_of_ble_eq_true rfl)) d_Way_finishChunk_54 ⟨Nat.le_of_ble_eq_true rfl, Nat.le_of_ble_eq_true rfl⟩) hP hD hS hA [3] [0, 1, 2, 4, 5] rfl rfl (by decide) (by decide) (fun u_12 H locs hu_12 hP hD hS => ?_)
    have hP : va_P D vwCl [(qt, .inl (cI, 4, .inl (upd ta 1 ((ta 1) + 1)))), (q1, .inr (3, [.ref q2, .int (nI pay.2.1), .int pay.2.2])), (q2, .inl (cI, 400, .inl pay.1)), (q3, .inr (3, [.ref q4, .int (nI u_10.2.1), .int u_10.2.2])), (q4, .inl (cI, 400, .inl u_10.1)), (h, .inr (1, [.int 192, .int 0, .ref q3, .ref q1, .int 0, .int 0, .int 1, .ref qt, .int 0]))] H := hP
    have hD : va_D A [(qt, .inl (cI, 4, .inl (upd ta 1 ((ta 1) + 1)))), (q1, .inr (3, [.ref q2, .int (nI pay.2.1), .int pay.2.2])), (q2, .inl (cI, 400, .inl pay.1)), (q3, .inr (3, [.ref q4, .int (nI u_10.2.1), .int u_10.2.2])), (q4, .inl (cI, 400, .inl u_10.1)), (h, .inr (1, [.int 192, .int 0, .ref q3, .ref q1, .int 0, .int 0, .int 1, .ref qt, .int 0]))] := hD
    refine lv_iload_n hx hb d_Way_finishChunk_57 rfl (lv_at hl 0 rfl) ?_
    exact ft_reti (q3, q4, q1, q2, (u_10, pay, 0, 0, 1, upd ta 1 ((ta 1) + 1)), 0) hx hb hr hlocks (hP.sub [5, 3, 4, 1, 2, 0] rfl) hK (hD.sub [5, 3, 4, 1, 2, 0] (by decide) rfl) hS ⟨hv.symm, by simp [finC, hu_8, hu_10, hu_12]⟩ d_Way_finishChunk_58
  · rw [hv] at hu_2
    subst hu_2
    refine lv_istore_n (lv' := [(2, .int 2), (0, .ref h), (1, .int most)]) hx hb d_Way_finishChunk_5 rfl hl (by decide) rfl (fun ls hl => ?_)
    refine lv_iload_n hx hb d_Way_finishChunk_6 rfl (lv_at hl 0 rfl) ?_
    refine lv_iconst (v := 1) hx hb d_Way_finishChunk_7 (by decide +kernel) ?_
    refine lv_icmp_lt (tgt := 26) hx hb d_Way_finishChunk_8 (by decide) (fun c8 => absurd c8 (by decide)) (fun _ => ?_)
    refine lv_iload_n hx hb d_Way_finishChunk_11 rfl (lv_at hl 0 rfl) ?_
    refine lv_iconst (v := 3) hx hb d_Way_finishChunk_12 (by decide +kernel) ?_
    refine lv_icmp_gt (tgt := 26) hx hb d_Way_finishChunk_13 (by decide) (fun c13 => absurd c13 (by decide)) (fun _ => ?_)
    refine lv_aload_n hx hb d_Way_finishChunk_16 rfl (lv_at hl 1 rfl) ?_
    refine va_get (D := D) (ci := 1) (v := .ref qt) (C := R_EW) (T := F_EW) (N := 9) hx hb ht bi_EW hown hK hP 3 rfl rfl 7 (by decide) (ht _ bw_109) (fun _ h9 => h9) rfl d_Way_finishChunk_17 ?_
    refine lv_iload_n hx hb d_Way_finishChunk_20 rfl (lv_at hl 0 rfl) ?_
    refine lv_dup2_11 hx hb d_Way_finishChunk_21 rfl rfl ?_
    refine va_iald hx hb hK hP 2 0 rfl rfl (vp_in_iff.mpr (by decide)) d_Way_finishChunk_22 ?_
    refine ft_top (congrArg ta (show (2 : Int32).toNatClampNeg = 2 from by decide)) ?_
    refine lv_iconst (v := 1) hx hb d_Way_finishChunk_23 (by decide +kernel) ?_
    refine lv_iadd hx hb d_Way_finishChunk_24 ?_
    refine va_iast hx hb hK hP hD hS 2 0 rfl rfl (vp_in_iff.mpr (by decide)) d_Way_finishChunk_25 (fun H locs hP hD hS => ?_)
    rw [show (2 : Int32).toNatClampNeg = 2 from by decide] at hP hD
    have hP : va_P D vwCl [(q3, .inr (3, [.ref q4, .int (nI kept.2.1), .int kept.2.2])), (q4, .inl (cI, 400, .inl kept.1)), (qt, .inl (cI, 4, .inl (upd ta 2 ((ta 2) + 1)))), (h, .inr (1, [.int 192, .int 0, .ref q1, .ref q3, .int br, .int bg, .int hk, .ref qt, .int es])), (q1, .inr (3, [.ref q2, .int (nI pay.2.1), .int pay.2.2])), (q2, .inl (cI, 400, .inl pay.1))] H := hP
    have hD : va_D A [(q3, .inr (3, [.ref q4, .int (nI kept.2.1), .int kept.2.2])), (q4, .inl (cI, 400, .inl kept.1)), (qt, .inl (cI, 4, .inl (upd ta 2 ((ta 2) + 1)))), (h, .inr (1, [.int 192, .int 0, .ref q1, .ref q3, .int br, .int bg, .int hk, .ref qt, .int es])), (q1, .inr (3, [.ref q2, .int (nI pay.2.1), .int pay.2.2])), (q2, .inl (cI, 400, .inl pay.1))] := hD
    refine lv_iload_n hx hb d_Way_finishChunk_26 rfl (lv_at hl 0 rfl) ?_
    refine lv_iconst (v := 1) hx hb d_Way_finishChunk_27 (by decide +kernel) ?_
    refine lv_icmp_ne (tgt := 35) hx hb d_Way_finishChunk_28 (by decide) (fun _ => ?_) (fun c28 => absurd c28 (by decide))
    refine lv_aload_n hx hb d_Way_finishChunk_35 rfl (lv_at hl 1 rfl) ?_
    refine va_get (D := D) (ci := 1) (v := .ref q1) (C := R_EW) (T := F_EW) (N := 9) hx hb ht bi_EW hown hK hP 3 rfl rfl 2 (by decide) (ht _ bw_93) (fun _ h9 => h9) rfl d_Way_finishChunk_36 ?_
    refine lv_iconst (v := nI 0) hx hb d_Way_finishChunk_39 (by decide +kernel) ?_
    refine ft_cv (wc := [(q1, .inr (3, [.ref q2, .int (nI pay.2.1), .int pay.2.2])), (q2, .inl (cI, 400, .inl pay.1))]) (wr := [(q3, .inr (3, [.ref q4, .int (nI kept.2.1), .int kept.2.2])), (q4, .inl (cI, 400, .inl kept.1)), (qt, .inl (cI, 4, .inl (upd ta 2 ((ta 2) + 1)))), (h, .inr (1, [.int 192, .int 0, .ref q1, .ref q3, .int br, .int bg, .int hk, .ref qt, .int es]))]) (va_runV (As := [.int (nI 0)]) (rest := []) ⟨hx, hb, hml, hown, ht⟩ (c_Row_cutTo l D cI q1 q2 400 (by omega) pay hp 0 (by omega) H.size) (ft_cwV 1 ht bw_326 bw_210 bw_211 bw_33 bw_212 (by decide) ⟨Nat.le_of_ble_eq_true rfl, Nat.le_of_ble_eq_true rfl⟩) ⟨ft_blind, va_recv hK hP (ci := 3) (q0 := 4) rfl rfl, (ft_pre hP hD hK hNW [4, 5] [0] rfl rfl (by decide) rfl _)⟩ rfl rfl hl.1 rfl (lv_room (Nat.le_of_ble_eq_true rfl)) d_Way_finishChunk_40 ⟨Nat.le_of_ble_eq_true rfl, Nat.le_of_ble_eq_true rfl⟩) hP hD hS hA [4, 5] [0, 1, 2, 3] rfl rfl (by decide) (by decide) (fun u_14 H locs hu_14 hP hD hS => ?_)
    have le_u_14 : u_14.2.1 ≤ 400 := by rw [hu_14]; exact rcut_le hp
    have hP : va_P D vwCl [(q3, .inr (3, [.ref q4, .int (nI kept.2.1), .int kept.2.2])), (q4, .inl (cI, 400, .inl kept.1)), (qt, .inl (cI, 4, .inl (upd ta 2 ((ta 2) + 1)))), (h, .inr (1, [.int 192, .int 0, .ref q1, .ref q3, .int br, .int bg, .int hk, .ref qt, .int es])), (q1, .inr (3, [.ref q2, .int (nI u_14.2.1), .int u_14.2.2])), (q2, .inl (cI, 400, .inl u_14.1))] H := hP
    have hD : va_D A [(q3, .inr (3, [.ref q4, .int (nI kept.2.1), .int kept.2.2])), (q4, .inl (cI, 400, .inl kept.1)), (qt, .inl (cI, 4, .inl (upd ta 2 ((ta 2) + 1)))), (h, .inr (1, [.int 192, .int 0, .ref q1, .ref q3, .int br, .int bg, .int hk, .ref qt, .int es])), (q1, .inr (3, [.ref q2, .int (nI u_14.2.1), .int u_14.2.2])), (q2, .inl (cI, 400, .inl u_14.1))] := hD
    rw [rcut_0] at hu_14
    refine lv_aload_n hx hb d_Way_finishChunk_43 rfl (lv_at hl 1 rfl) ?_
    refine lv_iconst (v := 0) hx hb d_Way_finishChunk_44 (by decide +kernel) ?_
    refine va_put (D := D) (ci := 1) (v := .int 0) (ty := .boolean) (C := R_EW) (T := F_EW) (N := 9) hx hb ht bi_EW t_EW t_EW_ok n_EW hown hK hP hD hS 3 rfl rfl 4 (by decide) (ht _ bw_102) (fun _ h9 => h9) rfl (by decide +kernel) rfl rfl (Nat.le_of_ble_eq_true rfl) d_Way_finishChunk_45 (fun H locs hP hD hS => ?_)
    have hP : va_P D vwCl [(q3, .inr (3, [.ref q4, .int (nI kept.2.1), .int kept.2.2])), (q4, .inl (cI, 400, .inl kept.1)), (qt, .inl (cI, 4, .inl (upd ta 2 ((ta 2) + 1)))), (h, .inr (1, [.int 192, .int 0, .ref q1, .ref q3, .int 0, .int bg, .int hk, .ref qt, .int es])), (q1, .inr (3, [.ref q2, .int (nI u_14.2.1), .int u_14.2.2])), (q2, .inl (cI, 400, .inl u_14.1))] H := hP
    have hD : va_D A [(q3, .inr (3, [.ref q4, .int (nI kept.2.1), .int kept.2.2])), (q4, .inl (cI, 400, .inl kept.1)), (qt, .inl (cI, 4, .inl (upd ta 2 ((ta 2) + 1)))), (h, .inr (1, [.int 192, .int 0, .ref q1, .ref q3, .int 0, .int bg, .int hk, .ref qt, .int es])), (q1, .inr (3, [.ref q2, .int (nI u_14.2.1), .int u_14.2.2])), (q2, .inl (cI, 400, .inl u_14.1))] := hD
    refine lv_aload_n hx hb d_Way_finishChunk_48 rfl (lv_at hl 1 rfl) ?_
    refine lv_iconst (v := 0) hx hb d_Way_finishChunk_49 (by decide +kernel) ?_
    refine va_put (D := D) (ci := 1) (v := .int 0) (ty := .boolean) (C := R_EW) (T := F_EW) (N := 9) hx hb ht bi_EW t_EW t_EW_ok n_EW hown hK hP hD hS 3 rfl rfl 5 (by decide) (ht _ bw_107) (fun _ h9 => h9) rfl (by decide +kernel) rfl rfl (Nat.le_of_ble_eq_true rfl) d_Way_finishChunk_50 (fun H locs hP hD hS => ?_)
    have hP : va_P D vwCl [(q3, .inr (3, [.ref q4, .int (nI kept.2.1), .int kept.2.2])), (q4, .inl (cI, 400, .inl kept.1)), (qt, .inl (cI, 4, .inl (upd ta 2 ((ta 2) + 1)))), (h, .inr (1, [.int 192, .int 0, .ref q1, .ref q3, .int 0, .int 0, .int hk, .ref qt, .int es])), (q1, .inr (3, [.ref q2, .int (nI u_14.2.1), .int u_14.2.2])), (q2, .inl (cI, 400, .inl u_14.1))] H := hP
    have hD : va_D A [(q3, .inr (3, [.ref q4, .int (nI kept.2.1), .int kept.2.2])), (q4, .inl (cI, 400, .inl kept.1)), (qt, .inl (cI, 4, .inl (upd ta 2 ((ta 2) + 1)))), (h, .inr (1, [.int 192, .int 0, .ref q1, .ref q3, .int 0, .int 0, .int hk, .ref qt, .int es])), (q1, .inr (3, [.ref q2, .int (nI u_14.2.1), .int u_14.2.2])), (q2, .inl (cI, 400, .inl u_14.1))] := hD
    refine lv_aload_n hx hb d_Way_finishChunk_53 rfl (lv_at hl 1 rfl) ?_
    refine ft_cv (wc := [(h, .inr (1, [.int 192, .int 0, .ref q1, .ref q3, .int 0, .int 0, .int hk, .ref qt, .int es]))]) (wr := [(q3, .inr (3, [.ref q4, .int (nI kept.2.1), .int kept.2.2])), (q4, .inl (cI, 400, .inl kept.1)), (qt, .inl (cI, 4, .inl (upd ta 2 ((ta 2) + 1)))), (q1, .inr (3, [.ref q2, .int (nI u_14.2.1), .int u_14.2.2])), (q2, .inl (cI, 400, .inl u_14.1))]) (va_runU (As := []) (rest := []) ⟨hx, hb, hml, hown, ht⟩ (c_E_forgetChunk l D cI h q1 q3 qt 0 0 hk es H.size) (ft_cwA (owner := R_Way) 0 ht bw_327 bw_329 bw_333 bw_334 bw_37 bw_335 (hNW _ bn_328) (by decide) ⟨Nat.le_of_ble_eq_true rfl, Nat.le_of_ble_eq_true rfl⟩) ⟨ft_blind, va_recv hK hP (ci := 1) (q0 := 3) rfl rfl, (ft_pre hP hD hK hNW [3] [0] rfl rfl (by decide) rfl _)⟩ rfl rfl hl.1 rfl (lv_room (Nat.le_of_ble_eq_true rfl)) d_Way_finishChunk_54 ⟨Nat.le_of_ble_eq_true rfl, Nat.le_of_ble_eq_true rfl⟩) hP hD hS hA [3] [0, 1, 2, 4, 5] rfl rfl (by decide) (by decide) (fun u_16 H locs hu_16 hP hD hS => ?_)
    have hP : va_P D vwCl [(q3, .inr (3, [.ref q4, .int (nI kept.2.1), .int kept.2.2])), (q4, .inl (cI, 400, .inl kept.1)), (qt, .inl (cI, 4, .inl (upd ta 2 ((ta 2) + 1)))), (q1, .inr (3, [.ref q2, .int (nI u_14.2.1), .int u_14.2.2])), (q2, .inl (cI, 400, .inl u_14.1)), (h, .inr (1, [.int 192, .int 0, .ref q1, .ref q3, .int 0, .int 0, .int hk, .ref qt, .int 0]))] H := hP
    have hD : va_D A [(q3, .inr (3, [.ref q4, .int (nI kept.2.1), .int kept.2.2])), (q4, .inl (cI, 400, .inl kept.1)), (qt, .inl (cI, 4, .inl (upd ta 2 ((ta 2) + 1)))), (q1, .inr (3, [.ref q2, .int (nI u_14.2.1), .int u_14.2.2])), (q2, .inl (cI, 400, .inl u_14.1)), (h, .inr (1, [.int 192, .int 0, .ref q1, .ref q3, .int 0, .int 0, .int hk, .ref qt, .int 0]))] := hD
    refine lv_iload_n hx hb d_Way_finishChunk_57 rfl (lv_at hl 0 rfl) ?_
    exact ft_reti (q1, q2, q3, q4, (u_14, kept, 0, 0, hk, upd ta 2 ((ta 2) + 1)), 0) hx hb hr hlocks (hP.sub [5, 3, 4, 0, 1, 2] rfl) hK (hD.sub [5, 3, 4, 0, 1, 2] (by decide) rfl) hS ⟨hv.symm, by simp [finC, hu_14, hu_16]⟩ d_Way_finishChunk_58
  · rw [hv] at hu_2
    subst hu_2
    refine lv_istore_n (lv' := [(2, .int 3), (0, .ref h), (1, .int most)]) hx hb d_Way_finishChunk_5 rfl hl (by decide) rfl (fun ls hl => ?_)
    refine lv_iload_n hx hb d_Way_finishChunk_6 rfl (lv_at hl 0 rfl) ?_
    refine lv_iconst (v := 1) hx hb d_Way_finishChunk_7 (by decide +kernel) ?_
    refine lv_icmp_lt (tgt := 26) hx hb d_Way_finishChunk_8 (by decide) (fun c8 => absurd c8 (by decide)) (fun _ => ?_)
    refine lv_iload_n hx hb d_Way_finishChunk_11 rfl (lv_at hl 0 rfl) ?_
    refine lv_iconst (v := 3) hx hb d_Way_finishChunk_12 (by decide +kernel) ?_
    refine lv_icmp_gt (tgt := 26) hx hb d_Way_finishChunk_13 (by decide) (fun c13 => absurd c13 (by decide)) (fun _ => ?_)
    refine lv_aload_n hx hb d_Way_finishChunk_16 rfl (lv_at hl 1 rfl) ?_
    refine va_get (D := D) (ci := 1) (v := .ref qt) (C := R_EW) (T := F_EW) (N := 9) hx hb ht bi_EW hown hK hP 3 rfl rfl 7 (by decide) (ht _ bw_109) (fun _ h9 => h9) rfl d_Way_finishChunk_17 ?_
    refine lv_iload_n hx hb d_Way_finishChunk_20 rfl (lv_at hl 0 rfl) ?_
    refine lv_dup2_11 hx hb d_Way_finishChunk_21 rfl rfl ?_
    refine va_iald hx hb hK hP 2 0 rfl rfl (vp_in_iff.mpr (by decide)) d_Way_finishChunk_22 ?_
    refine ft_top (congrArg ta (show (3 : Int32).toNatClampNeg = 3 from by decide)) ?_
    refine lv_iconst (v := 1) hx hb d_Way_finishChunk_23 (by decide +kernel) ?_
    refine lv_iadd hx hb d_Way_finishChunk_24 ?_
    refine va_iast hx hb hK hP hD hS 2 0 rfl rfl (vp_in_iff.mpr (by decide)) d_Way_finishChunk_25 (fun H locs hP hD hS => ?_)
    rw [show (3 : Int32).toNatClampNeg = 3 from by decide] at hP hD
    have hP : va_P D vwCl [(q3, .inr (3, [.ref q4, .int (nI kept.2.1), .int kept.2.2])), (q4, .inl (cI, 400, .inl kept.1)), (qt, .inl (cI, 4, .inl (upd ta 3 ((ta 3) + 1)))), (h, .inr (1, [.int 192, .int 0, .ref q1, .ref q3, .int br, .int bg, .int hk, .ref qt, .int es])), (q1, .inr (3, [.ref q2, .int (nI pay.2.1), .int pay.2.2])), (q2, .inl (cI, 400, .inl pay.1))] H := hP
    have hD : va_D A [(q3, .inr (3, [.ref q4, .int (nI kept.2.1), .int kept.2.2])), (q4, .inl (cI, 400, .inl kept.1)), (qt, .inl (cI, 4, .inl (upd ta 3 ((ta 3) + 1)))), (h, .inr (1, [.int 192, .int 0, .ref q1, .ref q3, .int br, .int bg, .int hk, .ref qt, .int es])), (q1, .inr (3, [.ref q2, .int (nI pay.2.1), .int pay.2.2])), (q2, .inl (cI, 400, .inl pay.1))] := hD
    refine lv_iload_n hx hb d_Way_finishChunk_26 rfl (lv_at hl 0 rfl) ?_
    refine lv_iconst (v := 1) hx hb d_Way_finishChunk_27 (by decide +kernel) ?_
    refine lv_icmp_ne (tgt := 35) hx hb d_Way_finishChunk_28 (by decide) (fun _ => ?_) (fun c28 => absurd c28 (by decide))
    refine lv_aload_n hx hb d_Way_finishChunk_35 rfl (lv_at hl 1 rfl) ?_
    refine va_get (D := D) (ci := 1) (v := .ref q1) (C := R_EW) (T := F_EW) (N := 9) hx hb ht bi_EW hown hK hP 3 rfl rfl 2 (by decide) (ht _ bw_93) (fun _ h9 => h9) rfl d_Way_finishChunk_36 ?_
    refine lv_iconst (v := nI 0) hx hb d_Way_finishChunk_39 (by decide +kernel) ?_
    refine ft_cv (wc := [(q1, .inr (3, [.ref q2, .int (nI pay.2.1), .int pay.2.2])), (q2, .inl (cI, 400, .inl pay.1))]) (wr := [(q3, .inr (3, [.ref q4, .int (nI kept.2.1), .int kept.2.2])), (q4, .inl (cI, 400, .inl kept.1)), (qt, .inl (cI, 4, .inl (upd ta 3 ((ta 3) + 1)))), (h, .inr (1, [.int 192, .int 0, .ref q1, .ref q3, .int br, .int bg, .int hk, .ref qt, .int es]))]) (va_runV (As := [.int (nI 0)]) (rest := []) ⟨hx, hb, hml, hown, ht⟩ (c_Row_cutTo l D cI q1 q2 400 (by omega) pay hp 0 (by omega) H.size) (ft_cwV 1 ht bw_326 bw_210 bw_211 bw_33 bw_212 (by decide) ⟨Nat.le_of_ble_eq_true rfl, Nat.le_of_ble_eq_true rfl⟩) ⟨ft_blind, va_recv hK hP (ci := 3) (q0 := 4) rfl rfl, (ft_pre hP hD hK hNW [4, 5] [0] rfl rfl (by decide) rfl _)⟩ rfl rfl hl.1 rfl (lv_room (Nat.le_of_ble_eq_true rfl)) d_Way_finishChunk_40 ⟨Nat.le_of_ble_eq_true rfl, Nat.le_of_ble_eq_true rfl⟩) hP hD hS hA [4, 5] [0, 1, 2, 3] rfl rfl (by decide) (by decide) (fun u_18 H locs hu_18 hP hD hS => ?_)
    have le_u_18 : u_18.2.1 ≤ 400 := by rw [hu_18]; exact rcut_le hp
    have hP : va_P D vwCl [(q3, .inr (3, [.ref q4, .int (nI kept.2.1), .int kept.2.2])), (q4, .inl (cI, 400, .inl kept.1)), (qt, .inl (cI, 4, .inl (upd ta 3 ((ta 3) + 1)))), (h, .inr (1, [.int 192, .int 0, .ref q1, .ref q3, .int br, .int bg, .int hk, .ref qt, .int es])), (q1, .inr (3, [.ref q2, .int (nI u_18.2.1), .int u_18.2.2])), (q2, .inl (cI, 400, .inl u_18.1))] H := hP
    have hD : va_D A [(q3, .inr (3, [.ref q4, .int (nI kept.2.1), .int kept.2.2])), (q4, .inl (cI, 400, .inl kept.1)), (qt, .inl (cI, 4, .inl (upd ta 3 ((ta 3) + 1)))), (h, .inr (1, [.int 192, .int 0, .ref q1, .ref q3, .int br, .int bg, .int hk, .ref qt, .int es])), (q1, .inr (3, [.ref q2, .int (nI u_18.2.1), .int u_18.2.2])), (q2, .inl (cI, 400, .inl u_18.1))] := hD
    rw [rcut_0] at hu_18
    refine lv_aload_n hx hb d_Way_finishChunk_43 rfl (lv_at hl 1 rfl) ?_
    refine lv_iconst (v := 0) hx hb d_Way_finishChunk_44 (by decide +kernel) ?_
    refine va_put (D := D) (ci := 1) (v := .int 0) (ty := .boolean) (C := R_EW) (T := F_EW) (N := 9) hx hb ht bi_EW t_EW t_EW_ok n_EW hown hK hP hD hS 3 rfl rfl 4 (by decide) (ht _ bw_102) (fun _ h9 => h9) rfl (by decide +kernel) rfl rfl (Nat.le_of_ble_eq_true rfl) d_Way_finishChunk_45 (fun H locs hP hD hS => ?_)
    have hP : va_P D vwCl [(q3, .inr (3, [.ref q4, .int (nI kept.2.1), .int kept.2.2])), (q4, .inl (cI, 400, .inl kept.1)), (qt, .inl (cI, 4, .inl (upd ta 3 ((ta 3) + 1)))), (h, .inr (1, [.int 192, .int 0, .ref q1, .ref q3, .int 0, .int bg, .int hk, .ref qt, .int es])), (q1, .inr (3, [.ref q2, .int (nI u_18.2.1), .int u_18.2.2])), (q2, .inl (cI, 400, .inl u_18.1))] H := hP
    have hD : va_D A [(q3, .inr (3, [.ref q4, .int (nI kept.2.1), .int kept.2.2])), (q4, .inl (cI, 400, .inl kept.1)), (qt, .inl (cI, 4, .inl (upd ta 3 ((ta 3) + 1)))), (h, .inr (1, [.int 192, .int 0, .ref q1, .ref q3, .int 0, .int bg, .int hk, .ref qt, .int es])), (q1, .inr (3, [.ref q2, .int (nI u_18.2.1), .int u_18.2.2])), (q2, .inl (cI, 400, .inl u_18.1))] := hD
    refine lv_aload_n hx hb d_Way_finishChunk_48 rfl (lv_at hl 1 rfl) ?_
    refine lv_iconst (v := 0) hx hb d_Way_finishChunk_49 (by decide +kernel) ?_
    refine va_put (D := D) (ci := 1) (v := .int 0) (ty := .boolean) (C := R_EW) (T := F_EW) (N := 9) hx hb ht bi_EW t_EW t_EW_ok n_EW hown hK hP hD hS 3 rfl rfl 5 (by decide) (ht _ bw_107) (fun _ h9 => h9) rfl (by decide +kernel) rfl rfl (Nat.le_of_ble_eq_true rfl) d_Way_finishChunk_50 (fun H locs hP hD hS => ?_)
    have hP : va_P D vwCl [(q3, .inr (3, [.ref q4, .int (nI kept.2.1), .int kept.2.2])), (q4, .inl (cI, 400, .inl kept.1)), (qt, .inl (cI, 4, .inl (upd ta 3 ((ta 3) + 1)))), (h, .inr (1, [.int 192, .int 0, .ref q1, .ref q3, .int 0, .int 0, .int hk, .ref qt, .int es])), (q1, .inr (3, [.ref q2, .int (nI u_18.2.1), .int u_18.2.2])), (q2, .inl (cI, 400, .inl u_18.1))] H := hP
    have hD : va_D A [(q3, .inr (3, [.ref q4, .int (nI kept.2.1), .int kept.2.2])), (q4, .inl (cI, 400, .inl kept.1)), (qt, .inl (cI, 4, .inl (upd ta 3 ((ta 3) + 1)))), (h, .inr (1, [.int 192, .int 0, .ref q1, .ref q3, .int 0, .int 0, .int hk, .ref qt, .int es])), (q1, .inr (3, [.ref q2, .int (nI u_18.2.1), .int u_18.2.2])), (q2, .inl (cI, 400, .inl u_18.1))] := hD
    refine lv_aload_n hx hb d_Way_finishChunk_53 rfl (lv_at hl 1 rfl) ?_
    refine ft_cv (wc := [(h, .inr (1, [.int 192, .int 0, .ref q1, .ref q3, .int 0, .int 0, .int hk, .ref qt, .int es]))]) (wr := [(q3, .inr (3, [.ref q4, .int (nI kept.2.1), .int kept.2.2])), (q4, .inl (cI, 400, .inl kept.1)), (qt, .inl (cI, 4, .inl (upd ta 3 ((ta 3) + 1)))), (q1, .inr (3, [.ref q2, .int (nI u_18.2.1), .int u_18.2.2])), (q2, .inl (cI, 400, .inl u_18.1))]) (va_runU (As := []) (rest := []) ⟨hx, hb, hml, hown, ht⟩ (c_E_forgetChunk l D cI h q1 q3 qt 0 0 hk es H.size) (ft_cwA (owner := R_Way) 0 ht bw_327 bw_329 bw_333 bw_334 bw_37 bw_335 (hNW _ bn_328) (by decide) ⟨Nat.le_of_ble_eq_true rfl, Nat.le_of_ble_eq_true rfl⟩) ⟨ft_blind, va_recv hK hP (ci := 1) (q0 := 3) rfl rfl, (ft_pre hP hD hK hNW [3] [0] rfl rfl (by decide) rfl _)⟩ rfl rfl hl.1 rfl (lv_room (Nat.le_of_ble_eq_true rfl)) d_Way_finishChunk_54 ⟨Nat.le_of_ble_eq_true rfl, Nat.le_of_ble_eq_true rfl⟩) hP hD hS hA [3] [0, 1, 2, 4, 5] rfl rfl (by decide) (by decide) (fun u_20 H locs hu_20 hP hD hS => ?_)
    have hP : va_P D vwCl [(q3, .inr (3, [.ref q4, .int (nI kept.2.1), .int kept.2.2])), (q4, .inl (cI, 400, .inl kept.1)), (qt, .inl (cI, 4, .inl (upd ta 3 ((ta 3) + 1)))), (q1, .inr (3, [.ref q2, .int (nI u_18.2.1), .int u_18.2.2])), (q2, .inl (cI, 400, .inl u_18.1)), (h, .inr (1, [.int 192, .int 0, .ref q1, .ref q3, .int 0, .int 0, .int hk, .ref qt, .int 0]))] H := hP
    have hD : va_D A [(q3, .inr (3, [.ref q4, .int (nI kept.2.1), .int kept.2.2])), (q4, .inl (cI, 400, .inl kept.1)), (qt, .inl (cI, 4, .inl (upd ta 3 ((ta 3) + 1)))), (q1, .inr (3, [.ref q2, .int (nI u_18.2.1), .int u_18.2.2])), (q2, .inl (cI, 400, .inl u_18.1)), (h, .inr (1, [.int 192, .int 0, .ref q1, .ref q3, .int 0, .int 0, .int hk, .ref qt, .int 0]))] := hD
    refine lv_iload_n hx hb d_Way_finishChunk_57 rfl (lv_at hl 0 rfl) ?_
    exact ft_reti (q1, q2, q3, q4, (u_18, kept, 0, 0, hk, upd ta 3 ((ta 3) + 1)), 0) hx hb hr hlocks (hP.sub [5, 3, 4, 0, 1, 2] rfl) hK (hD.sub [5, 3, 4, 0, 1, 2] (by decide) rfl) hS ⟨hv.symm, by simp [finC, hu_18, hu_20]⟩ d_Way_finishChunk_58

set_option maxHeartbeats 4000000 in
set_option maxRecDepth 100000 in
theorem c_E_take (l : Launch) (D : va_G) (cI : ClassId) (h q1 q2 q3 q4 qt : Nat) (br bg hk es : Int32) (ta : Nat → Int32) (pay kept : RS) (hp : pay.2.1 ≤ 400) (hp2 : kept.2.1 ≤ 400) (b most : Int32) (sz : Nat) : ft_Mi l y_Way_take (.code y_Way_take b_Way_take 3 (some .int) :: ft_big) ({ frames := 4, cells := 0, slots := 0, locals := 160 }) D [(cI, .int)] sz [.ref h, .int b, .int most] [(h, .inr (1, [.int 192, .int 0, .ref q1, .ref q3, .int br, .int bg, .int hk, .ref qt, .int es])), (q1, .inr (3, [.ref q2, .int (nI pay.2.1), .int pay.2.2])), (q2, .inl (cI, 400, .inl pay.1)), (q3, .inr (3, [.ref q4, .int (nI kept.2.1), .int kept.2.2])), (q4, .inl (cI, 400, .inl kept.1)), (qt, .inl (cI, 4, .inl ta))] (fun (v : Int32) (u : Nat × Nat × Nat × Nat × CS × Int32) => (v, u.2.2.2.2) = takeE most b ((pay, kept, br, bg, hk, ta), es)) (wE h qt cI) 0 0 := by
  refine ft_ei (cc := b_Way_take) (maxL := 3) (ret := (some .int)) (by decide) rfl (Nat.le_of_ble_eq_true rfl) ?_
  intro p e s m below meth c A ls hx hb hr hml hts hown hlocks hmn hP hK hD hA hS hNW hl
  have ht : ∀ w ∈ ft_big, w.before _ s = true := fun w h => hts w (List.mem_cons_of_mem _ h)
  have hP : va_P D vwCl [(h, .inr (1, [.int 192, .int 0, .ref q1, .ref q3, .int br, .int bg, .int hk, .ref qt, .int es])), (q1, .inr (3, [.ref q2, .int (nI pay.2.1), .int pay.2.2])), (q2, .inl (cI, 400, .inl pay.1)), (q3, .inr (3, [.ref q4, .int (nI kept.2.1), .int kept.2.2])), (q4, .inl (cI, 400, .inl kept.1)), (qt, .inl (cI, 4, .inl ta))] s.heap := hP
  have hD : va_D A [(h, .inr (1, [.int 192, .int 0, .ref q1, .ref q3, .int br, .int bg, .int hk, .ref qt, .int es])), (q1, .inr (3, [.ref q2, .int (nI pay.2.1), .int pay.2.2])), (q2, .inl (cI, 400, .inl pay.1)), (q3, .inr (3, [.ref q4, .int (nI kept.2.1), .int kept.2.2])), (q4, .inl (cI, 400, .inl kept.1)), (qt, .inl (cI, 4, .inl ta))] := hD
  have hl : lv_has ls 3 [(0, .ref h), (1, .int b), (2, .int most)] := hl
  refine lv_iload_n hx hb d_Way_take_0 rfl (lv_at hl 1 rfl) ?_
  refine lv_aload_n hx hb d_Way_take_1 rfl (lv_at hl 0 rfl) ?_
  refine va_get (D := D) (ci := 1) (v := .int 192) (C := R_EW) (T := F_EW) (N := 9) hx hb ht bi_EW hown hK hP 0 rfl rfl 0 (by decide) (ht _ bw_90) (fun _ h9 => h9) rfl d_Way_take_2 ?_
  refine lv_icmp_ne (tgt := 14) hx hb d_Way_take_5 (by decide) (fun c5 => ?_) (fun c5 => ?_)
  · skip
    refine lv_aload_n hx hb d_Way_take_14 rfl (lv_at hl 0 rfl) ?_
    refine lv_iconst (v := 1) hx hb d_Way_take_15 (by decide +kernel) ?_
    refine va_put (D := D) (ci := 1) (v := .int 1) (ty := .boolean) (C := R_EW) (T := F_EW) (N := 9) hx hb ht bi_EW t_EW t_EW_ok n_EW hown hK hP hD hS 0 rfl rfl 5 (by decide) (ht _ bw_107) (fun _ h9 => h9) rfl (by decide +kernel) rfl rfl (Nat.le_of_ble_eq_true rfl) d_Way_take_16 (fun H locs hP hD hS => ?_)
    have hP : va_P D vwCl [(h, .inr (1, [.int 192, .int 0, .ref q1, .ref q3, .int br, .int 1, .int hk, .ref qt, .int es])), (q1, .inr (3, [.ref q2, .int (nI pay.2.1), .int pay.2.2])), (q2, .inl (cI, 400, .inl pay.1)), (q3, .inr (3, [.ref q4, .int (nI kept.2.1), .int kept.2.2])), (q4, .inl (cI, 400, .inl kept.1)), (qt, .inl (cI, 4, .inl ta))] H := hP
    have hD : va_D A [(h, .inr (1, [.int 192, .int 0, .ref q1, .ref q3, .int br, .int 1, .int hk, .ref qt, .int es])), (q1, .inr (3, [.ref q2, .int (nI pay.2.1), .int pay.2.2])), (q2, .inl (cI, 400, .inl pay.1)), (q3, .inr (3, [.ref q4, .int (nI kept.2.1), .int kept.2.2])), (q4, .inl (cI, 400, .inl kept.1)), (qt, .inl (cI, 4, .inl ta))] := hD
    refine lv_aload_n hx hb d_Way_take_19 rfl (lv_at hl 0 rfl) ?_
    refine va_get (D := D) (ci := 1) (v := .int br) (C := R_EW) (T := F_EW) (N := 9) hx hb ht bi_EW hown hK hP 0 rfl rfl 4 (by decide) (ht _ bw_102) (fun _ h9 => h9) rfl d_Way_take_20 ?_
    refine lv_if_ne (tgt := 31) hx hb d_Way_take_23 (by decide) (fun c23 => ?_) (fun c23 => ?_)
    · skip
      refine lv_iconst (v := 0) hx hb d_Way_take_31 (by decide +kernel) ?_
      exact ft_reti (q1, q2, q3, q4, (pay, kept, br, 1, hk, ta), es) hx hb hr hlocks hP hK hD hS (by show (_, _) = takeE most b _; simp only [takeE, if_neg c5, if_neg c23]) d_Way_take_32
    · skip
      refine lv_aload_n hx hb d_Way_take_26 rfl (lv_at hl 0 rfl) ?_
      refine lv_iload_n hx hb d_Way_take_27 rfl (lv_at hl 1 rfl) ?_
      refine ft_cv (wc := [(h, .inr (1, [.int 192, .int 0, .ref q1, .ref q3, .int br, .int 1, .int hk, .ref qt, .int es])), (q1, .inr (3, [.ref q2, .int (nI pay.2.1), .int pay.2.2])), (q2, .inl (cI, 400, .inl pay.1))]) (wr := [(q3, .inr (3, [.ref q4, .int (nI kept.2.1), .int kept.2.2])), (q4, .inl (cI, 400, .inl kept.1)), (qt, .inl (cI, 4, .inl ta))]) (va_runU (As := [.int b]) (rest := []) ⟨hx, hb, hml, hown, ht⟩ (c_E_decode l D cI h q1 q2 q3 qt br 1 hk es pay hp b H.size) (ft_cwA (owner := R_Way) 1 ht bw_339 bw_341 bw_349 bw_350 bw_37 bw_351 (hNW _ bn_340) (by decide) ⟨Nat.le_of_ble_eq_true rfl, Nat.le_of_ble_eq_true rfl⟩) ⟨ft_blind, va_recv hK hP (ci := 1) (q0 := 0) rfl rfl, (ft_pre hP hD hK hNW [0, 1, 2] [0] rfl rfl (by decide) rfl _)⟩ rfl rfl hl.1 rfl (lv_room (Nat.le_of_ble_eq_true rfl)) d_Way_take_28 ⟨Nat.le_of_ble_eq_true rfl, Nat.le_of_ble_eq_true rfl⟩) hP hD hS hA [0, 1, 2] [3, 4, 5] rfl rfl (by decide) (by decide) (fun u_2 H locs hu_2 hP hD hS => ?_)
      obtain ⟨pay1, br1, es1⟩ := u_2
      have hP : va_P D vwCl [(q3, .inr (3, [.ref q4, .int (nI kept.2.1), .int kept.2.2])), (q4, .inl (cI, 400, .inl kept.1)), (qt, .inl (cI, 4, .inl ta)), (h, .inr (1, [.int 192, .int 0, .ref q1, .ref q3, .int br1, .int 1, .int hk, .ref qt, .int es1])), (q1, .inr (3, [.ref q2, .int (nI pay1.2.1), .int pay1.2.2])), (q2, .inl (cI, 400, .inl pay1.1))] H := hP
      have hD : va_D A [(q3, .inr (3, [.ref q4, .int (nI kept.2.1), .int kept.2.2])), (q4, .inl (cI, 400, .inl kept.1)), (qt, .inl (cI, 4, .inl ta)), (h, .inr (1, [.int 192, .int 0, .ref q1, .ref q3, .int br1, .int 1, .int hk, .ref qt, .int es1])), (q1, .inr (3, [.ref q2, .int (nI pay1.2.1), .int pay1.2.2])), (q2, .inl (cI, 400, .inl pay1.1))] := hD
      refine lv_iconst (v := 0) hx hb d_Way_take_31 (by decide +kernel) ?_
      exact ft_reti (q1, q2, q3, q4, (pay1, kept, br1, 1, hk, ta), es1) hx hb hr hlocks (hP.sub [3, 4, 5, 0, 1, 2] rfl) hK (hD.sub [3, 4, 5, 0, 1, 2] (by decide) rfl) hS (by show (_, _) = takeE most b _; simp only [takeE, if_neg c5, if_pos c23, ← hu_2]) d_Way_take_32
  · skip
    refine lv_aload_n hx hb d_Way_take_8 rfl (lv_at hl 0 rfl) ?_
    refine lv_iload_n hx hb d_Way_take_9 rfl (lv_at hl 2 rfl) ?_
    refine ft_ci (wc := [(h, .inr (1, [.int 192, .int 0, .ref q1, .ref q3, .int br, .int bg, .int hk, .ref qt, .int es])), (q1, .inr (3, [.ref q2, .int (nI pay.2.1), .int pay.2.2])), (q2, .inl (cI, 400, .inl pay.1)), (q3, .inr (3, [.ref q4, .int (nI kept.2.1), .int kept.2.2])), (q4, .inl (cI, 400, .inl kept.1)), (qt, .inl (cI, 4, .inl ta))]) (wr := []) (va_runU (As := [.int most]) (rest := []) ⟨hx, hb, hml, hown, ht⟩ (c_E_finishChunk l D cI h q1 q2 q3 q4 qt br bg hk es ta pay kept hp hp2 most s.heap.size) (ft_cwU (owner := R_Way) 1 ht bw_302 bw_584 bw_1 bw_304 bw_35 bw_305 (by decide) ⟨Nat.le_of_ble_eq_true rfl, Nat.le_of_ble_eq_true rfl⟩) ⟨ft_blind, va_recv hK hP (ci := 1) (q0 := 0) rfl rfl, (ft_pre hP hD hK hNW [0, 1, 2, 3, 4, 5] [0] rfl rfl (by decide) rfl _)⟩ rfl rfl hl.1 rfl (lv_room (Nat.le_of_ble_eq_true rfl)) d_Way_take_10 ⟨Nat.le_of_ble_eq_true rfl, Nat.le_of_ble_eq_true rfl⟩) hP hD hS hA [0, 1, 2, 3, 4, 5] [] rfl rfl (by decide) (by decide) (fun r_3 u_4 H locs hu_4 hP hD hS => ?_)
    obtain ⟨p1, p2, p3, p4, ⟨pay1, kept1, br1, bg1, hk1, ta1⟩, es1⟩ := u_4
    have hP : va_P D vwCl [(h, .inr (1, [.int 192, .int 0, .ref p1, .ref p3, .int br1, .int bg1, .int hk1, .ref qt, .int es1])), (p1, .inr (3, [.ref p2, .int (nI pay1.2.1), .int pay1.2.2])), (p2, .inl (cI, 400, .inl pay1.1)), (p3, .inr (3, [.ref p4, .int (nI kept1.2.1), .int kept1.2.2])), (p4, .inl (cI, 400, .inl kept1.1)), (qt, .inl (cI, 4, .inl ta1))] H := hP
    have hD : va_D A [(h, .inr (1, [.int 192, .int 0, .ref p1, .ref p3, .int br1, .int bg1, .int hk1, .ref qt, .int es1])), (p1, .inr (3, [.ref p2, .int (nI pay1.2.1), .int pay1.2.2])), (p2, .inl (cI, 400, .inl pay1.1)), (p3, .inr (3, [.ref p4, .int (nI kept1.2.1), .int kept1.2.2])), (p4, .inl (cI, 400, .inl kept1.1)), (qt, .inl (cI, 4, .inl ta1))] := hD
    exact ft_reti (p1, p2, p3, p4, (pay1, kept1, br1, bg1, hk1, ta1), es1) hx hb hr hlocks hP hK hD hS (by obtain ⟨a1, a2⟩ := hu_4; show (_, _) = takeE most b _; simp only [takeE, c5, if_true, ↓reduceIte]; rw [← a1]; exact congrArg (Prod.mk _) a2) d_Way_take_13

set_option maxHeartbeats 4000000 in
set_option maxRecDepth 100000 in
theorem c_E_keptSize (l : Launch) (D : va_G) (cI : ClassId) (h q1 q3 q4 qt : Nat) (br bg hk es : Int32) (kept : RS) (hp2 : kept.2.1 ≤ 400) (sz : Nat) : ft_Mi l y_Way_keptSize (.code y_Way_keptSize b_Way_keptSize 1 (some .int) :: ft_big) ({ frames := 0, cells := 0, slots := 0, locals := 0 }) D [(cI, .int)] sz [.ref h] [(h, .inr (1, [.int 192, .int 0, .ref q1, .ref q3, .int br, .int bg, .int hk, .ref qt, .int es])), (q3, .inr (3, [.ref q4, .int (nI kept.2.1), .int kept.2.2])), (q4, .inl (cI, 400, .inl kept.1))] (fun (v : Int32) (_ : Unit) => v = latV hk kept) (fun _ => [(h, .inr (1, [.int 192, .int 0, .ref q1, .ref q3, .int br, .int bg, .int hk, .ref qt, .int es])), (q3, .inr (3, [.ref q4, .int (nI kept.2.1), .int kept.2.2])), (q4, .inl (cI, 400, .inl kept.1))]) 0 0 := by
  refine ft_ei (cc := b_Way_keptSize) (maxL := 1) (ret := (some .int)) (by decide) rfl (Nat.le_of_ble_eq_true rfl) ?_
  intro p e s m below meth c A ls hx hb hr hml hts hown hlocks hmn hP hK hD hA hS hNW hl
  have ht : ∀ w ∈ ft_big, w.before _ s = true := fun w h => hts w (List.mem_cons_of_mem _ h)
  have hP : va_P D vwCl [(h, .inr (1, [.int 192, .int 0, .ref q1, .ref q3, .int br, .int bg, .int hk, .ref qt, .int es])), (q3, .inr (3, [.ref q4, .int (nI kept.2.1), .int kept.2.2])), (q4, .inl (cI, 400, .inl kept.1))] s.heap := hP
  have hD : va_D A [(h, .inr (1, [.int 192, .int 0, .ref q1, .ref q3, .int br, .int bg, .int hk, .ref qt, .int es])), (q3, .inr (3, [.ref q4, .int (nI kept.2.1), .int kept.2.2])), (q4, .inl (cI, 400, .inl kept.1))] := hD
  have hl : lv_has ls 1 [(0, .ref h)] := hl
  refine lv_aload_n hx hb d_Way_keptSize_0 rfl (lv_at hl 0 rfl) ?_
  refine va_get (D := D) (ci := 1) (v := .int hk) (C := R_EW) (T := F_EW) (N := 9) hx hb ht bi_EW hown hK hP 0 rfl rfl 6 (by decide) (ht _ bw_108) (fun _ h9 => h9) rfl d_Way_keptSize_1 ?_
  refine lv_if_eq (tgt := 17) hx hb d_Way_keptSize_4 (by decide) (fun c4 => ?_) (fun c4 => ?_)
  · skip
    refine lv_iconst (v := (-1)) hx hb d_Way_keptSize_17 (by decide +kernel) ?_
    exact ft_reti () hx hb hr hlocks hP hK hD hS (by show _ = latV hk kept; simp [latV, c4]) d_Way_keptSize_18
  · skip
    refine lv_aload_n hx hb d_Way_keptSize_7 rfl (lv_at hl 0 rfl) ?_
    refine va_get (D := D) (ci := 1) (v := .ref q3) (C := R_EW) (T := F_EW) (N := 9) hx hb ht bi_EW hown hK hP 0 rfl rfl 3 (by decide) (ht _ bw_100) (fun _ h9 => h9) rfl d_Way_keptSize_8 ?_
    refine va_getN (D := D) (ci := 3) (v := .int (nI kept.2.1)) (C := R_Row) (T := F_Row) (N := 3) hx hb ht bi_Row hown hK hP 1 rfl rfl 1 (by decide) (va_Nw.use rfl (hNW _ bn_63)) (fun _ h9 => h9) rfl d_Way_keptSize_11 ?_
    refine lv_goto (tgt := 18) hx hb d_Way_keptSize_14 (by decide) ?_
    exact ft_reti () hx hb hr hlocks hP hK hD hS (by show _ = latV hk kept; simp [latV, c4]) d_Way_keptSize_18

set_option maxHeartbeats 4000000 in
set_option maxRecDepth 100000 in
theorem c_E_tally (l : Launch) (D : va_G) (cI : ClassId) (h q1 q3 qt : Nat) (br bg hk es : Int32) (ta : Nat → Int32) (k : Int32) (sz : Nat) : ft_Mi l y_Way_tally (.code y_Way_tally b_Way_tally 2 (some .int) :: ft_big) ({ frames := 0, cells := 0, slots := 0, locals := 0 }) D [(cI, .int)] sz [.ref h, .int k] [(h, .inr (1, [.int 192, .int 0, .ref q1, .ref q3, .int br, .int bg, .int hk, .ref qt, .int es])), (qt, .inl (cI, 4, .inl ta))] (fun (v : Int32) (_ : Unit) => v = tal ta k) (fun _ => [(h, .inr (1, [.int 192, .int 0, .ref q1, .ref q3, .int br, .int bg, .int hk, .ref qt, .int es])), (qt, .inl (cI, 4, .inl ta))]) 0 0 := by
  refine ft_ei (cc := b_Way_tally) (maxL := 2) (ret := (some .int)) (by decide) rfl (Nat.le_of_ble_eq_true rfl) ?_
  intro p e s m below meth c A ls hx hb hr hml hts hown hlocks hmn hP hK hD hA hS hNW hl
  have ht : ∀ w ∈ ft_big, w.before _ s = true := fun w h => hts w (List.mem_cons_of_mem _ h)
  have hP : va_P D vwCl [(h, .inr (1, [.int 192, .int 0, .ref q1, .ref q3, .int br, .int bg, .int hk, .ref qt, .int es])), (qt, .inl (cI, 4, .inl ta))] s.heap := hP
  have hD : va_D A [(h, .inr (1, [.int 192, .int 0, .ref q1, .ref q3, .int br, .int bg, .int hk, .ref qt, .int es])), (qt, .inl (cI, 4, .inl ta))] := hD
  have hl : lv_has ls 2 [(0, .ref h), (1, .int k)] := hl
  refine lv_iload_n hx hb d_Way_tally_0 rfl (lv_at hl 1 rfl) ?_
  refine lv_iconst (v := 1) hx hb d_Way_tally_1 (by decide +kernel) ?_
  refine lv_icmp_lt (tgt := 19) hx hb d_Way_tally_2 (by decide) (fun c2 => ?_) (fun c2 => ?_)
  · skip
    refine lv_iconst (v := (-1)) hx hb d_Way_tally_19 (by decide +kernel) ?_
    exact ft_reti () hx hb hr hlocks hP hK hD hS (by show _ = tal ta k; simp [tal, c2]) d_Way_tally_20
  · skip
    refine lv_iload_n hx hb d_Way_tally_5 rfl (lv_at hl 1 rfl) ?_
    refine lv_iconst (v := 3) hx hb d_Way_tally_6 (by decide +kernel) ?_
    refine lv_icmp_gt (tgt := 19) hx hb d_Way_tally_7 (by decide) (fun c7 => ?_) (fun c7 => ?_)
    · skip
      refine lv_iconst (v := (-1)) hx hb d_Way_tally_19 (by decide +kernel) ?_
      exact ft_reti () hx hb hr hlocks hP hK hD hS (by show _ = tal ta k; simp [tal, c2, c7]) d_Way_tally_20
    · skip
      refine lv_aload_n hx hb d_Way_tally_10 rfl (lv_at hl 0 rfl) ?_
      refine va_get (D := D) (ci := 1) (v := .ref qt) (C := R_EW) (T := F_EW) (N := 9) hx hb ht bi_EW hown hK hP 0 rfl rfl 7 (by decide) (ht _ bw_109) (fun _ h9 => h9) rfl d_Way_tally_11 ?_
      refine lv_iload_n hx hb d_Way_tally_14 rfl (lv_at hl 1 rfl) ?_
      refine va_iald hx hb hK hP 1 0 rfl rfl (tal_in c2 c7) d_Way_tally_15 ?_
      refine lv_goto (tgt := 20) hx hb d_Way_tally_16 (by decide) ?_
      exact ft_reti () hx hb hr hlocks hP hK hD hS (by show _ = tal ta k; simp [tal, c2, c7]) d_Way_tally_20

set_option maxHeartbeats 4000000 in
set_option maxRecDepth 100000 in
theorem c_C_judge (l : Launch) (D : va_G) (cI : ClassId) (h q1 q2 q3 qt : Nat) (br bg hk es ck he ol ne : Int32) (pay : RS) (hp : pay.2.1 ≤ 400) (most : Int32) (sz : Nat) : ft_Mi l y_Way_judge (.code y_Way_judge b_Way_judge 2 (some .int) :: ft_big) ({ frames := 2, cells := 0, slots := 0, locals := 80 }) D [(cI, .int)] sz [.ref h, .int most] [(h, .inr (0, [.int 126, .int 0, .ref q1, .ref q3, .int br, .int bg, .int hk, .ref qt, .int es, .int ck, .int he, .int ol, .int ne])), (q1, .inr (3, [.ref q2, .int (nI pay.2.1), .int pay.2.2])), (q2, .inl (cI, 400, .inl pay.1))] (fun (v : Int32) (_ : Unit) => v = judge 0 br bg pay (whole2 pay es ck ol ne) most) (fun _ => [(h, .inr (0, [.int 126, .int 0, .ref q1, .ref q3, .int br, .int bg, .int hk, .ref qt, .int es, .int ck, .int he, .int ol, .int ne])), (q1, .inr (3, [.ref q2, .int (nI pay.2.1), .int pay.2.2])), (q2, .inl (cI, 400, .inl pay.1))]) 0 0 := by
  refine ft_ei (cc := b_Way_judge) (maxL := 2) (ret := (some .int)) (by decide) rfl (Nat.le_of_ble_eq_true rfl) ?_
  intro p e s m below meth c A ls hx hb hr hml hts hown hlocks hmn hP hK hD hA hS hNW hl
  have ht : ∀ w ∈ ft_big, w.before _ s = true := fun w h => hts w (List.mem_cons_of_mem _ h)
  have hP : va_P D vwCl [(h, .inr (0, [.int 126, .int 0, .ref q1, .ref q3, .int br, .int bg, .int hk, .ref qt, .int es, .int ck, .int he, .int ol, .int ne])), (q1, .inr (3, [.ref q2, .int (nI pay.2.1), .int pay.2.2])), (q2, .inl (cI, 400, .inl pay.1))] s.heap := hP
  have hD : va_D A [(h, .inr (0, [.int 126, .int 0, .ref q1, .ref q3, .int br, .int bg, .int hk, .ref qt, .int es, .int ck, .int he, .int ol, .int ne])), (q1, .inr (3, [.ref q2, .int (nI pay.2.1), .int pay.2.2])), (q2, .inl (cI, 400, .inl pay.1))] := hD
  have hl : lv_has ls 2 [(0, .ref h), (1, .int most)] := hl
  refine lv_aload_n hx hb d_Way_judge_0 rfl (lv_at hl 0 rfl) ?_
  refine va_get (D := D) (ci := 0) (v := .int bg) (C := R_CW) (T := F_CW) (N := 13) hx hb ht bi_CW hown hK hP 0 rfl rfl 5 (by decide) (ht _ bw_107) (fun _ h9 => h9) rfl d_Way_judge_1 ?_
  refine lv_if_ne (tgt := 16) hx hb d_Way_judge_4 (by decide) (fun c4 => ?_) (fun c4 => ?_)
  · skip
    refine lv_aload_n hx hb d_Way_judge_16 rfl (lv_at hl 0 rfl) ?_
    refine va_get (D := D) (ci := 0) (v := .int br) (C := R_CW) (T := F_CW) (N := 13) hx hb ht bi_CW hown hK hP 0 rfl rfl 4 (by decide) (ht _ bw_102) (fun _ h9 => h9) rfl d_Way_judge_17 ?_
    refine lv_if_ne (tgt := 30) hx hb d_Way_judge_20 (by decide) (fun c20 => ?_) (fun c20 => ?_)
    · skip
      refine lv_iconst (v := 2) hx hb d_Way_judge_30 (by decide +kernel) ?_
      exact ft_reti () hx hb hr hlocks hP hK hD hS (by show (2 : Int32) = judge 0 br bg pay (whole2 pay es ck ol ne) most; simp [judge, c4, c20]) d_Way_judge_31
    · skip
      refine lv_aload_n hx hb d_Way_judge_23 rfl (lv_at hl 0 rfl) ?_
      refine ft_ci (wc := [(h, .inr (0, [.int 126, .int 0, .ref q1, .ref q3, .int br, .int bg, .int hk, .ref qt, .int es, .int ck, .int he, .int ol, .int ne])), (q1, .inr (3, [.ref q2, .int (nI pay.2.1), .int pay.2.2])), (q2, .inl (cI, 400, .inl pay.1))]) (wr := []) (va_runU (As := []) (rest := []) ⟨hx, hb, hml, hown, ht⟩ (c_C_isWhole l D cI h q1 q2 q3 qt br bg hk es ck he ol ne pay hp s.heap.size) (ft_cwA (owner := R_Way) 0 ht bw_310 bw_312 bw_313 bw_314 bw_38 bw_315 (hNW _ bn_311) (by decide) ⟨Nat.le_of_ble_eq_true rfl, Nat.le_of_ble_eq_true rfl⟩) ⟨ft_blind, va_recv hK hP (ci := 0) (q0 := 0) rfl rfl, (ft_pre hP hD hK hNW [0, 1, 2] [0] rfl rfl (by decide) rfl _)⟩ rfl rfl hl.1 rfl (lv_room (Nat.le_of_ble_eq_true rfl)) d_Way_judge_24 ⟨Nat.le_of_ble_eq_true rfl, Nat.le_of_ble_eq_true rfl⟩) hP hD hS hA [0, 1, 2] [] rfl rfl (by decide) (by decide) (fun r_1 u_2 H locs hu_2 hP hD hS => ?_)
      subst hu_2
      have hP : va_P D vwCl [(h, .inr (0, [.int 126, .int 0, .ref q1, .ref q3, .int br, .int bg, .int hk, .ref qt, .int es, .int ck, .int he, .int ol, .int ne])), (q1, .inr (3, [.ref q2, .int (nI pay.2.1), .int pay.2.2])), (q2, .inl (cI, 400, .inl pay.1))] H := hP
      have hD : va_D A [(h, .inr (0, [.int 126, .int 0, .ref q1, .ref q3, .int br, .int bg, .int hk, .ref qt, .int es, .int ck, .int he, .int ol, .int ne])), (q1, .inr (3, [.ref q2, .int (nI pay.2.1), .int pay.2.2])), (q2, .inl (cI, 400, .inl pay.1))] := hD
      refine lv_if_ne (tgt := 32) hx hb d_Way_judge_27 (by decide) (fun c27 => ?_) (fun c27 => ?_)
      · skip
        refine lv_aload_n hx hb d_Way_judge_32 rfl (lv_at hl 0 rfl) ?_
        refine va_get (D := D) (ci := 0) (v := .ref q1) (C := R_CW) (T := F_CW) (N := 13) hx hb ht bi_CW hown hK hP 0 rfl rfl 2 (by decide) (ht _ bw_93) (fun _ h9 => h9) rfl d_Way_judge_33 ?_
        refine va_getN (D := D) (ci := 3) (v := .int pay.2.2) (C := R_Row) (T := F_Row) (N := 3) hx hb ht bi_Row hown hK hP 1 rfl rfl 2 (by decide) (va_Nw.use rfl (hNW _ bn_65)) (fun _ h9 => h9) rfl d_Way_judge_36 ?_
        refine lv_if_ne (tgt := 53) hx hb d_Way_judge_39 (by decide) (fun c39 => ?_) (fun c39 => ?_)
        · skip
          refine lv_iconst (v := 3) hx hb d_Way_judge_53 (by decide +kernel) ?_
          refine lv_goto (tgt := 58) hx hb d_Way_judge_54 (by decide) ?_
          exact ft_reti () hx hb hr hlocks hP hK hD hS (by show (3 : Int32) = judge 0 br bg pay (whole2 pay es ck ol ne) most; simp [judge, c4, c20, c27, c39]) d_Way_judge_58
        · skip
          refine lv_aload_n hx hb d_Way_judge_42 rfl (lv_at hl 0 rfl) ?_
          refine va_get (D := D) (ci := 0) (v := .ref q1) (C := R_CW) (T := F_CW) (N := 13) hx hb ht bi_CW hown hK hP 0 rfl rfl 2 (by decide) (ht _ bw_93) (fun _ h9 => h9) rfl d_Way_judge_43 ?_
          refine va_getN (D := D) (ci := 3) (v := .int (nI pay.2.1)) (C := R_Row) (T := F_Row) (N := 3) hx hb ht bi_Row hown hK hP 1 rfl rfl 1 (by decide) (va_Nw.use rfl (hNW _ bn_63)) (fun _ h9 => h9) rfl d_Way_judge_46 ?_
          refine lv_iload_n hx hb d_Way_judge_49 rfl (lv_at hl 1 rfl) ?_
          refine lv_icmp_le (tgt := 57) hx hb d_Way_judge_50 (by decide) (fun c50 => ?_) (fun c50 => ?_)
          · skip
            refine lv_iconst (v := 1) hx hb d_Way_judge_57 (by decide +kernel) ?_
            exact ft_reti () hx hb hr hlocks hP hK hD hS (by show (1 : Int32) = judge 0 br bg pay (whole2 pay es ck ol ne) most; simp [judge, c4, c20, c27, c39, c50]) d_Way_judge_58
          · skip
            refine lv_iconst (v := 3) hx hb d_Way_judge_53 (by decide +kernel) ?_
            refine lv_goto (tgt := 58) hx hb d_Way_judge_54 (by decide) ?_
            exact ft_reti () hx hb hr hlocks hP hK hD hS (by show (3 : Int32) = judge 0 br bg pay (whole2 pay es ck ol ne) most; simp [judge, c4, c20, c27, c39, c50]) d_Way_judge_58
      · skip
        refine lv_iconst (v := 2) hx hb d_Way_judge_30 (by decide +kernel) ?_
        exact ft_reti () hx hb hr hlocks hP hK hD hS (by show (2 : Int32) = judge 0 br bg pay (whole2 pay es ck ol ne) most; simp [judge, c4, c20, c27]) d_Way_judge_31
  · skip
    refine lv_aload_n hx hb d_Way_judge_7 rfl (lv_at hl 0 rfl) ?_
    refine va_get (D := D) (ci := 0) (v := .int 0) (C := R_CW) (T := F_CW) (N := 13) hx hb ht bi_CW hown hK hP 0 rfl rfl 1 (by decide) (ht _ bw_91) (fun _ h9 => h9) rfl d_Way_judge_8 ?_
    refine lv_if_ne (tgt := 16) hx hb d_Way_judge_11 (by decide) (fun c11 => absurd (by decide) c11) (fun _ => ?_)
    refine lv_iconst (v := 0) hx hb d_Way_judge_14 (by decide +kernel) ?_
    exact ft_reti () hx hb hr hlocks hP hK hD hS (by show (0 : Int32) = judge 0 br bg pay (whole2 pay es ck ol ne) most; simp [judge, c4]) d_Way_judge_15

set_option maxHeartbeats 4000000 in
set_option maxRecDepth 100000 in
theorem c_C_keepPayload (l : Launch) (D : va_G) (cI : ClassId) (h q1 q3 qt : Nat) (br bg hk es ck he ol ne : Int32) (sz : Nat) : ft_Mv l y_Way_keepPayload (.code y_Way_keepPayload b_Way_keepPayload 2 none :: ft_big) ({ frames := 0, cells := 0, slots := 0, locals := 0 }) D [(cI, .int)] sz [.ref h] [(h, .inr (0, [.int 126, .int 0, .ref q1, .ref q3, .int br, .int bg, .int hk, .ref qt, .int es, .int ck, .int he, .int ol, .int ne]))] (fun _ : Unit => True) (fun _ => [(h, .inr (0, [.int 126, .int 0, .ref q3, .ref q1, .int br, .int bg, .int 1, .ref qt, .int es, .int ck, .int he, .int ol, .int ne]))]) 0 0 := by
  refine ft_ev (cc := b_Way_keepPayload) (maxL := 2) (ret := none) (by decide) rfl (Nat.le_of_ble_eq_true rfl) ?_
  intro p e s m below meth c A ls hx hb hr hml hts hown hlocks hmn hP hK hD hA hS hNW hl
  have ht : ∀ w ∈ ft_big, w.before _ s = true := fun w h => hts w (List.mem_cons_of_mem _ h)
  have hP : va_P D vwCl [(h, .inr (0, [.int 126, .int 0, .ref q1, .ref q3, .int br, .int bg, .int hk, .ref qt, .int es, .int ck, .int he, .int ol, .int ne]))] s.heap := hP
  have hD : va_D A [(h, .inr (0, [.int 126, .int 0, .ref q1, .ref q3, .int br, .int bg, .int hk, .ref qt, .int es, .int ck, .int he, .int ol, .int ne]))] := hD
  have hl : lv_has ls 2 [(0, .ref h)] := hl
  refine lv_aload_n hx hb d_Way_keepPayload_0 rfl (lv_at hl 0 rfl) ?_
  refine va_get (D := D) (ci := 0) (v := .ref q3) (C := R_CW) (T := F_CW) (N := 13) hx hb ht bi_CW hown hK hP 0 rfl rfl 3 (by decide) (ht _ bw_100) (fun _ h9 => h9) rfl d_Way_keepPayload_1 ?_
  refine lv_astore_n (lv' := [(1, .ref q3), (0, .ref h)]) hx hb d_Way_keepPayload_4 rfl hl (by decide) rfl (fun ls hl => ?_)
  refine lv_aload_n hx hb d_Way_keepPayload_5 rfl (lv_at hl 1 rfl) ?_
  refine lv_aload_n hx hb d_Way_keepPayload_6 rfl (lv_at hl 1 rfl) ?_
  refine va_get (D := D) (ci := 0) (v := .ref q1) (C := R_CW) (T := F_CW) (N := 13) hx hb ht bi_CW hown hK hP 0 rfl rfl 2 (by decide) (ht _ bw_93) (fun _ h9 => h9) rfl d_Way_keepPayload_7 ?_
  refine va_put (D := D) (ci := 0) (v := .ref q1) (ty := (.object "FramingTrio$Row")) (C := R_CW) (T := F_CW) (N := 13) hx hb ht bi_CW t_CW t_CW_ok n_CW hown hK hP hD hS 0 rfl rfl 3 (by decide) (ht _ bw_100) (fun _ h9 => h9) rfl (by decide +kernel) rfl rfl (Nat.le_of_ble_eq_true rfl) d_Way_keepPayload_10 (fun H locs hP hD hS => ?_)
  have hP : va_P D vwCl [(h, .inr (0, [.int 126, .int 0, .ref q1, .ref q1, .int br, .int bg, .int hk, .ref qt, .int es, .int ck, .int he, .int ol, .int ne]))] H := hP
  have hD : va_D A [(h, .inr (0, [.int 126, .int 0, .ref q1, .ref q1, .int br, .int bg, .int hk, .ref qt, .int es, .int ck, .int he, .int ol, .int ne]))] := hD
  refine lv_aload_n hx hb d_Way_keepPayload_13 rfl (lv_at hl 1 rfl) ?_
  refine lv_aload_n hx hb d_Way_keepPayload_14 rfl (lv_at hl 0 rfl) ?_
  refine va_put (D := D) (ci := 0) (v := .ref q3) (ty := (.object "FramingTrio$Row")) (C := R_CW) (T := F_CW) (N := 13) hx hb ht bi_CW t_CW t_CW_ok n_CW hown hK hP hD hS 0 rfl rfl 2 (by decide) (ht _ bw_93) (fun _ h9 => h9) rfl (by decide +kernel) rfl rfl (Nat.le_of_ble_eq_true rfl) d_Way_keepPayload_15 (fun H locs hP hD hS => ?_)
  have hP : va_P D vwCl [(h, .inr (0, [.int 126, .int 0, .ref q3, .ref q1, .int br, .int bg, .int hk, .ref qt, .int es, .int ck, .int he, .int ol, .int ne]))] H := hP
  have hD : va_D A [(h, .inr (0, [.int 126, .int 0, .ref q3, .ref q1, .int br, .int bg, .int hk, .ref qt, .int es, .int ck, .int he, .int ol, .int ne]))] := hD
  refine lv_aload_n hx hb d_Way_keepPayload_18 rfl (lv_at hl 1 rfl) ?_
  refine lv_iconst (v := 1) hx hb d_Way_keepPayload_19 (by decide +kernel) ?_
  refine va_put (D := D) (ci := 0) (v := .int 1) (ty := .boolean) (C := R_CW) (T := F_CW) (N := 13) hx hb ht bi_CW t_CW t_CW_ok n_CW hown hK hP hD hS 0 rfl rfl 6 (by decide) (ht _ bw_108) (fun _ h9 => h9) rfl (by decide +kernel) rfl rfl (Nat.le_of_ble_eq_true rfl) d_Way_keepPayload_20 (fun H locs hP hD hS => ?_)
  have hP : va_P D vwCl [(h, .inr (0, [.int 126, .int 0, .ref q3, .ref q1, .int br, .int bg, .int 1, .ref qt, .int es, .int ck, .int he, .int ol, .int ne]))] H := hP
  have hD : va_D A [(h, .inr (0, [.int 126, .int 0, .ref q3, .ref q1, .int br, .int bg, .int 1, .ref qt, .int es, .int ck, .int he, .int ol, .int ne]))] := hD
  exact ft_retv () hx hb hr hlocks hP hK hD hS trivial d_Way_keepPayload_23

set_option maxHeartbeats 4000000 in
set_option maxRecDepth 100000 in
theorem c_C_finishChunk (l : Launch) (D : va_G) (cI : ClassId) (h q1 q2 q3 q4 qt : Nat) (br bg hk es ck he ol ne : Int32) (ta : Nat → Int32) (pay kept : RS) (hp : pay.2.1 ≤ 400) (hp2 : kept.2.1 ≤ 400) (most : Int32) (sz : Nat) : ft_Mi l y_Way_finishChunk (.code y_Way_finishChunk b_Way_finishChunk 3 (some .int) :: ft_big) ({ frames := 3, cells := 0, slots := 0, locals := 120 }) D [(cI, .int)] sz [.ref h, .int most] [(h, .inr (0, [.int 126, .int 0, .ref q1, .ref q3, .int br, .int bg, .int hk, .ref qt, .int es, .int ck, .int he, .int ol, .int ne])), (q1, .inr (3, [.ref q2, .int (nI pay.2.1), .int pay.2.2])), (q2, .inl (cI, 400, .inl pay.1)), (q3, .inr (3, [.ref q4, .int (nI kept.2.1), .int kept.2.2])), (q4, .inl (cI, 400, .inl kept.1)), (qt, .inl (cI, 4, .inl ta))] (fun (v : Int32) (u : Nat × Nat × Nat × Nat × CS × Int32 × Int32 × Int32 × Int32 × Int32) => v = (judge 0 br bg pay (whole2 pay es ck ol ne) most) ∧ u.2.2.2.2 = (finC v (pay, kept, br, bg, hk, ta), 0, 65535, 0, 0, 0)) (wC h qt cI) 0 0 := by
  refine ft_ei (cc := b_Way_finishChunk) (maxL := 3) (ret := (some .int)) (by decide) rfl (Nat.le_of_ble_eq_true rfl) ?_
  intro p e s m below meth c A ls hx hb hr hml hts hown hlocks hmn hP hK hD hA hS hNW hl
  have ht : ∀ w ∈ ft_big, w.before _ s = true := fun w h => hts w (List.mem_cons_of_mem _ h)
  have hP : va_P D vwCl [(h, .inr (0, [.int 126, .int 0, .ref q1, .ref q3, .int br, .int bg, .int hk, .ref qt, .int es, .int ck, .int he, .int ol, .int ne])), (q1, .inr (3, [.ref q2, .int (nI pay.2.1), .int pay.2.2])), (q2, .inl (cI, 400, .inl pay.1)), (q3, .inr (3, [.ref q4, .int (nI kept.2.1), .int kept.2.2])), (q4, .inl (cI, 400, .inl kept.1)), (qt, .inl (cI, 4, .inl ta))] s.heap := hP
  have hD : va_D A [(h, .inr (0, [.int 126, .int 0, .ref q1, .ref q3, .int br, .int bg, .int hk, .ref qt, .int es, .int ck, .int he, .int ol, .int ne])), (q1, .inr (3, [.ref q2, .int (nI pay.2.1), .int pay.2.2])), (q2, .inl (cI, 400, .inl pay.1)), (q3, .inr (3, [.ref q4, .int (nI kept.2.1), .int kept.2.2])), (q4, .inl (cI, 400, .inl kept.1)), (qt, .inl (cI, 4, .inl ta))] := hD
  have hl : lv_has ls 3 [(0, .ref h), (1, .int most)] := hl
  refine lv_aload_n hx hb d_Way_finishChunk_0 rfl (lv_at hl 0 rfl) ?_
  refine lv_iload_n hx hb d_Way_finishChunk_1 rfl (lv_at hl 1 rfl) ?_
  refine ft_ci (wc := [(h, .inr (0, [.int 126, .int 0, .ref q1, .ref q3, .int br, .int bg, .int hk, .ref qt, .int es, .int ck, .int he, .int ol, .int ne])), (q1, .inr (3, [.ref q2, .int (nI pay.2.1), .int pay.2.2])), (q2, .inl (cI, 400, .inl pay.1))]) (wr := [(q3, .inr (3, [.ref q4, .int (nI kept.2.1), .int kept.2.2])), (q4, .inl (cI, 400, .inl kept.1)), (qt, .inl (cI, 4, .inl ta))]) (va_runU (As := [.int most]) (rest := []) ⟨hx, hb, hml, hown, ht⟩ (c_C_judge l D cI h q1 q2 q3 qt br bg hk es ck he ol ne pay hp most s.heap.size) (ft_cwU (owner := R_Way) 1 ht bw_306 bw_585 bw_3 bw_308 bw_35 bw_309 (by decide) ⟨Nat.le_of_ble_eq_true rfl, Nat.le_of_ble_eq_true rfl⟩) ⟨ft_blind, va_recv hK hP (ci := 0) (q0 := 0) rfl rfl, (ft_pre hP hD hK hNW [0, 1, 2] [0] rfl rfl (by decide) rfl _)⟩ rfl rfl hl.1 rfl (lv_room (Nat.le_of_ble_eq_true rfl)) d_Way_finishChunk_2 ⟨Nat.le_of_ble_eq_true rfl, Nat.le_of_ble_eq_true rfl⟩) hP hD hS hA [0, 1, 2] [3, 4, 5] rfl rfl (by decide) (by decide) (fun r_1 u_2 H locs hu_2 hP hD hS => ?_)
  have hP : va_P D vwCl [(q3, .inr (3, [.ref q4, .int (nI kept.2.1), .int kept.2.2])), (q4, .inl (cI, 400, .inl kept.1)), (qt, .inl (cI, 4, .inl ta)), (h, .inr (0, [.int 126, .int 0, .ref q1, .ref q3, .int br, .int bg, .int hk, .ref qt, .int es, .int ck, .int he, .int ol, .int ne])), (q1, .inr (3, [.ref q2, .int (nI pay.2.1), .int pay.2.2])), (q2, .inl (cI, 400, .inl pay.1))] H := hP
  have hD : va_D A [(q3, .inr (3, [.ref q4, .int (nI kept.2.1), .int kept.2.2])), (q4, .inl (cI, 400, .inl kept.1)), (qt, .inl (cI, 4, .inl ta)), (h, .inr (0, [.int 126, .int 0, .ref q1, .ref q3, .int br, .int bg, .int hk, .ref qt, .int es, .int ck, .int he, .int ol, .int ne])), (q1, .inr (3, [.ref q2, .int (nI pay.2.1), .int pay.2.2])), (q2, .inl (cI, 400, .inl pay.1))] := hD
  have e_v := hu_2
  rcases judge_4 0 br bg pay (whole2 pay es ck ol ne) most with hv | hv | hv | hv
  · rw [hv] at hu_2
    subst hu_2
    refine lv_istore_n (lv' := [(2, .int 0), (0, .ref h), (1, .int most)]) hx hb d_Way_finishChunk_5 rfl hl (by decide) rfl (fun ls hl => ?_)
    refine lv_iload_n hx hb d_Way_finishChunk_6 rfl (lv_at hl 0 rfl) ?_
    refine lv_iconst (v := 1) hx hb d_Way_finishChunk_7 (by decide +kernel) ?_
    refine lv_icmp_lt (tgt := 26) hx hb d_Way_finishChunk_8 (by decide) (fun _ => ?_) (fun c8 => absurd (by decide) c8)
    refine lv_iload_n hx hb d_Way_finishChunk_26 rfl (lv_at hl 0 rfl) ?_
    refine lv_iconst (v := 1) hx hb d_Way_finishChunk_27 (by decide +kernel) ?_
    refine lv_icmp_ne (tgt := 35) hx hb d_Way_finishChunk_28 (by decide) (fun _ => ?_) (fun c28 => absurd c28 (by decide))
    refine lv_aload_n hx hb d_Way_finishChunk_35 rfl (lv_at hl 1 rfl) ?_
    refine va_get (D := D) (ci := 0) (v := .ref q1) (C := R_CW) (T := F_CW) (N := 13) hx hb ht bi_CW hown hK hP 3 rfl rfl 2 (by decide) (ht _ bw_93) (fun _ h9 => h9) rfl d_Way_finishChunk_36 ?_
    refine lv_iconst (v := nI 0) hx hb d_Way_finishChunk_39 (by decide +kernel) ?_
    refine ft_cv (wc := [(q1, .inr (3, [.ref q2, .int (nI pay.2.1), .int pay.2.2])), (q2, .inl (cI, 400, .inl pay.1))]) (wr := [(q3, .inr (3, [.ref q4, .int (nI kept.2.1), .int kept.2.2])), (q4, .inl (cI, 400, .inl kept.1)), (qt, .inl (cI, 4, .inl ta)), (h, .inr (0, [.int 126, .int 0, .ref q1, .ref q3, .int br, .int bg, .int hk, .ref qt, .int es, .int ck, .int he, .int ol, .int ne]))]) (va_runV (As := [.int (nI 0)]) (rest := []) ⟨hx, hb, hml, hown, ht⟩ (c_Row_cutTo l D cI q1 q2 400 (by omega) pay hp 0 (by omega) H.size) (ft_cwV 1 ht bw_326 bw_210 bw_211 bw_33 bw_212 (by decide) ⟨Nat.le_of_ble_eq_true rfl, Nat.le_of_ble_eq_true rfl⟩) ⟨ft_blind, va_recv hK hP (ci := 3) (q0 := 4) rfl rfl, (ft_pre hP hD hK hNW [4, 5] [0] rfl rfl (by decide) rfl _)⟩ rfl rfl hl.1 rfl (lv_room (Nat.le_of_ble_eq_true rfl)) d_Way_finishChunk_40 ⟨Nat.le_of_ble_eq_true rfl, Nat.le_of_ble_eq_true rfl⟩) hP hD hS hA [4, 5] [0, 1, 2, 3] rfl rfl (by decide) (by decide) (fun u_4 H locs hu_4 hP hD hS => ?_)
    have le_u_4 : u_4.2.1 ≤ 400 := by rw [hu_4]; exact rcut_le hp
    have hP : va_P D vwCl [(q3, .inr (3, [.ref q4, .int (nI kept.2.1), .int kept.2.2])), (q4, .inl (cI, 400, .inl kept.1)), (qt, .inl (cI, 4, .inl ta)), (h, .inr (0, [.int 126, .int 0, .ref q1, .ref q3, .int br, .int bg, .int hk, .ref qt, .int es, .int ck, .int he, .int ol, .int ne])), (q1, .inr (3, [.ref q2, .int (nI u_4.2.1), .int u_4.2.2])), (q2, .inl (cI, 400, .inl u_4.1))] H := hP
    have hD : va_D A [(q3, .inr (3, [.ref q4, .int (nI kept.2.1), .int kept.2.2])), (q4, .inl (cI, 400, .inl kept.1)), (qt, .inl (cI, 4, .inl ta)), (h, .inr (0, [.int 126, .int 0, .ref q1, .ref q3, .int br, .int bg, .int hk, .ref qt, .int es, .int ck, .int he, .int ol, .int ne])), (q1, .inr (3, [.ref q2, .int (nI u_4.2.1), .int u_4.2.2])), (q2, .inl (cI, 400, .inl u_4.1))] := hD
    rw [rcut_0] at hu_4
    refine lv_aload_n hx hb d_Way_finishChunk_43 rfl (lv_at hl 1 rfl) ?_
    refine lv_iconst (v := 0) hx hb d_Way_finishChunk_44 (by decide +kernel) ?_
    refine va_put (D := D) (ci := 0) (v := .int 0) (ty := .boolean) (C := R_CW) (T := F_CW) (N := 13) hx hb ht bi_CW t_CW t_CW_ok n_CW hown hK hP hD hS 3 rfl rfl 4 (by decide) (ht _ bw_102) (fun _ h9 => h9) rfl (by decide +kernel) rfl rfl (Nat.le_of_ble_eq_true rfl) d_Way_finishChunk_45 (fun H locs hP hD hS => ?_)
    have hP : va_P D vwCl [(q3, .inr (3, [.ref q4, .int (nI kept.2.1), .int kept.2.2])), (q4, .inl (cI, 400, .inl kept.1)), (qt, .inl (cI, 4, .inl ta)), (h, .inr (0, [.int 126, .int 0, .ref q1, .ref q3, .int 0, .int bg, .int hk, .ref qt, .int es, .int ck, .int he, .int ol, .int ne])), (q1, .inr (3, [.ref q2, .int (nI u_4.2.1), .int u_4.2.2])), (q2, .inl (cI, 400, .inl u_4.1))] H := hP
    have hD : va_D A [(q3, .inr (3, [.ref q4, .int (nI kept.2.1), .int kept.2.2])), (q4, .inl (cI, 400, .inl kept.1)), (qt, .inl (cI, 4, .inl ta)), (h, .inr (0, [.int 126, .int 0, .ref q1, .ref q3, .int 0, .int bg, .int hk, .ref qt, .int es, .int ck, .int he, .int ol, .int ne])), (q1, .inr (3, [.ref q2, .int (nI u_4.2.1), .int u_4.2.2])), (q2, .inl (cI, 400, .inl u_4.1))] := hD
    refine lv_aload_n hx hb d_Way_finishChunk_48 rfl (lv_at hl 1 rfl) ?_
    refine lv_iconst (v := 0) hx hb d_Way_finishChunk_49 (by decide +kernel) ?_
    refine va_put (D := D) (ci := 0) (v := .int 0) (ty := .boolean) (C := R_CW) (T := F_CW) (N := 13) hx hb ht bi_CW t_CW t_CW_ok n_CW hown hK hP hD hS 3 rfl rfl 5 (by decide) (ht _ bw_107) (fun _ h9 => h9) rfl (by decide +kernel) rfl rfl (Nat.le_of_ble_eq_true rfl) d_Way_finishChunk_50 (fun H locs hP hD hS => ?_)
    have hP : va_P D vwCl [(q3, .inr (3, [.ref q4, .int (nI kept.2.1), .int kept.2.2])), (q4, .inl (cI, 400, .inl kept.1)), (qt, .inl (cI, 4, .inl ta)), (h, .inr (0, [.int 126, .int 0, .ref q1, .ref q3, .int 0, .int 0, .int hk, .ref qt, .int es, .int ck, .int he, .int ol, .int ne])), (q1, .inr (3, [.ref q2, .int (nI u_4.2.1), .int u_4.2.2])), (q2, .inl (cI, 400, .inl u_4.1))] H := hP
    have hD : va_D A [(q3, .inr (3, [.ref q4, .int (nI kept.2.1), .int kept.2.2])), (q4, .inl (cI, 400, .inl kept.1)), (qt, .inl (cI, 4, .inl ta)), (h, .inr (0, [.int 126, .int 0, .ref q1, .ref q3, .int 0, .int 0, .int hk, .ref qt, .int es, .int ck, .int he, .int ol, .int ne])), (q1, .inr (3, [.ref q2, .int (nI u_4.2.1), .int u_4.2.2])), (q2, .inl (cI, 400, .inl u_4.1))] := hD
    refine lv_aload_n hx hb d_Way_finishChunk_53 rfl (lv_at hl 1 rfl) ?_
    refine ft_cv (wc := [(h, .inr (0, [.int 126, .int 0, .ref q1, .ref q3, .int 0, .int 0, .int hk, .ref qt, .int es, .int ck, .int he, .int ol, .int ne]))]) (wr := [(q3, .inr (3, [.ref q4, .int (nI kept.2.1), .int kept.2.2])), (q4, .inl (cI, 400, .inl kept.1)), (qt, .inl (cI, 4, .inl ta)), (q1, .inr (3, [.ref q2, .int (nI u_4.2.1), .int u_4.2.2])), (q2, .inl (cI, 400, .inl u_4.1))]) (va_runU (As := []) (rest := []) ⟨hx, hb, hml, hown, ht⟩ (c_C_forgetChunk l D cI h q1 q3 qt 0 0 hk es ck he ol ne H.size) (ft_cwA (owner := R_Way) 0 ht bw_327 bw_329 bw_330 bw_331 bw_38 bw_332 (hNW _ bn_328) (by decide) ⟨Nat.le_of_ble_eq_true rfl, Nat.le_of_ble_eq_true rfl⟩) ⟨ft_blind, va_recv hK hP (ci := 0) (q0 := 3) rfl rfl, (ft_pre hP hD hK hNW [3] [0] rfl rfl (by decide) rfl _)⟩ rfl rfl hl.1 rfl (lv_room (Nat.le_of_ble_eq_true rfl)) d_Way_finishChunk_54 ⟨Nat.le_of_ble_eq_true rfl, Nat.le_of_ble_eq_true rfl⟩) hP hD hS hA [3] [0, 1, 2, 4, 5] rfl rfl (by decide) (by decide) (fun u_6 H locs hu_6 hP hD hS => ?_)
    have hP : va_P D vwCl [(q3, .inr (3, [.ref q4, .int (nI kept.2.1), .int kept.2.2])), (q4, .inl (cI, 400, .inl kept.1)), (qt, .inl (cI, 4, .inl ta)), (q1, .inr (3, [.ref q2, .int (nI u_4.2.1), .int u_4.2.2])), (q2, .inl (cI, 400, .inl u_4.1)), (h, .inr (0, [.int 126, .int 0, .ref q1, .ref q3, .int 0, .int 0, .int hk, .ref qt, .int 0, .int 65535, .int 0, .int 0, .int 0]))] H := hP
    have hD : va_D A [(q3, .inr (3, [.ref q4, .int (nI kept.2.1), .int kept.2.2])), (q4, .inl (cI, 400, .inl kept.1)), (qt, .inl (cI, 4, .inl ta)), (q1, .inr (3, [.ref q2, .int (nI u_4.2.1), .int u_4.2.2])), (q2, .inl (cI, 400, .inl u_4.1)), (h, .inr (0, [.int 126, .int 0, .ref q1, .ref q3, .int 0, .int 0, .int hk, .ref qt, .int 0, .int 65535, .int 0, .int 0, .int 0]))] := hD
    refine lv_iload_n hx hb d_Way_finishChunk_57 rfl (lv_at hl 0 rfl) ?_
    exact ft_reti (q1, q2, q3, q4, (u_4, kept, 0, 0, hk, ta), 0, 65535, 0, 0, 0) hx hb hr hlocks (hP.sub [5, 3, 4, 0, 1, 2] rfl) hK (hD.sub [5, 3, 4, 0, 1, 2] (by decide) rfl) hS ⟨hv.symm, by simp [finC, hu_4, hu_6]⟩ d_Way_finishChunk_58
  · rw [hv] at hu_2
    subst hu_2
    refine lv_istore_n (lv' := [(2, .int 1), (0, .ref h), (1, .int most)]) hx hb d_Way_finishChunk_5 rfl hl (by decide) rfl (fun ls hl => ?_)
    refine lv_iload_n hx hb d_Way_finishChunk_6 rfl (lv_at hl 0 rfl) ?_
    refine lv_iconst (v := 1) hx hb d_Way_finishChunk_7 (by decide +kernel) ?_
    refine lv_icmp_lt (tgt := 26) hx hb d_Way_finishChunk_8 (by decide) (fun c8 => absurd c8 (by decide)) (fun _ => ?_)
    refine lv_iload_n hx hb d_Way_finishChunk_11 rfl (lv_at hl 0 rfl) ?_
    refine lv_iconst (v := 3) hx hb d_Way_finishChunk_12 (by decide +kernel) ?_
    refine lv_icmp_gt (tgt := 26) hx hb d_Way_finishChunk_13 (by decide) (fun c13 => absurd c13 (by decide)) (fun _ => ?_)
    refine lv_aload_n hx hb d_Way_finishChunk_16 rfl (lv_at hl 1 rfl) ?_
    refine va_get (D := D) (ci := 0) (v := .ref qt) (C := R_CW) (T := F_CW) (N := 13) hx hb ht bi_CW hown hK hP 3 rfl rfl 7 (by decide) (ht _ bw_109) (fun _ h9 => h9) rfl d_Way_finishChunk_17 ?_
    refine lv_iload_n hx hb d_Way_finishChunk_20 rfl (lv_at hl 0 rfl) ?_
    refine lv_dup2_11 hx hb d_Way_finishChunk_21 rfl rfl ?_
    refine va_iald hx hb hK hP 2 0 rfl rfl (vp_in_iff.mpr (by decide)) d_Way_finishChunk_22 ?_
    refine ft_top (congrArg ta (show (1 : Int32).toNatClampNeg = 1 from by decide)) ?_
    refine lv_iconst (v := 1) hx hb d_Way_finishChunk_23 (by decide +kernel) ?_
    refine lv_iadd hx hb d_Way_finishChunk_24 ?_
    refine va_iast hx hb hK hP hD hS 2 0 rfl rfl (vp_in_iff.mpr (by decide)) d_Way_finishChunk_25 (fun H locs hP hD hS => ?_)
    rw [show (1 : Int32).toNatClampNeg = 1 from by decide] at hP hD
    have hP : va_P D vwCl [(q3, .inr (3, [.ref q4, .int (nI kept.2.1), .int kept.2.2])), (q4, .inl (cI, 400, .inl kept.1)), (qt, .inl (cI, 4, .inl (upd ta 1 ((ta 1) + 1)))), (h, .inr (0, [.int 126, .int 0, .ref q1, .ref q3, .int br, .int bg, .int hk, .ref qt, .int es, .int ck, .int he, .int ol, .int ne])), (q1, .inr (3, [.ref q2, .int (nI pay.2.1), .int pay.2.2])), (q2, .inl (cI, 400, .inl pay.1))] H := hP
    have hD : va_D A [(q3, .inr (3, [.ref q4, .int (nI kept.2.1), .int kept.2.2])), (q4, .inl (cI, 400, .inl kept.1)), (qt, .inl (cI, 4, .inl (upd ta 1 ((ta 1) + 1)))), (h, .inr (0, [.int 126, .int 0, .ref q1, .ref q3, .int br, .int bg, .int hk, .ref qt, .int es, .int ck, .int he, .int ol, .int ne])), (q1, .inr (3, [.ref q2, .int (nI pay.2.1), .int pay.2.2])), (q2, .inl (cI, 400, .inl pay.1))] := hD
    refine lv_iload_n hx hb d_Way_finishChunk_26 rfl (lv_at hl 0 rfl) ?_
    refine lv_iconst (v := 1) hx hb d_Way_finishChunk_27 (by decide +kernel) ?_
    refine lv_icmp_ne (tgt := 35) hx hb d_Way_finishChunk_28 (by decide) (fun c28 => absurd (by decide) c28) (fun _ => ?_)
    refine lv_aload_n hx hb d_Way_finishChunk_31 rfl (lv_at hl 1 rfl) ?_
    refine ft_cv (wc := [(h, .inr (0, [.int 126, .int 0, .ref q1, .ref q3, .int br, .int bg, .int hk, .ref qt, .int es, .int ck, .int he, .int ol, .int ne]))]) (wr := [(q3, .inr (3, [.ref q4, .int (nI kept.2.1), .int kept.2.2])), (q4, .inl (cI, 400, .inl kept.1)), (qt, .inl (cI, 4, .inl (upd ta 1 ((ta 1) + 1)))), (q1, .inr (3, [.ref q2, .int (nI pay.2.1), .int pay.2.2])), (q2, .inl (cI, 400, .inl pay.1))]) (va_runU (As := []) (rest := []) ⟨hx, hb, hml, hown, ht⟩ (c_C_keepPayload l D cI h q1 q3 qt br bg hk es ck he ol ne H.size) (ft_cwU (owner := R_Way) 0 ht bw_322 bw_586 bw_6 bw_324 bw_35 bw_325 (by decide) ⟨Nat.le_of_ble_eq_true rfl, Nat.le_of_ble_eq_true rfl⟩) ⟨ft_blind, va_recv hK hP (ci := 0) (q0 := 3) rfl rfl, (ft_pre hP hD hK hNW [3] [0] rfl rfl (by decide) rfl _)⟩ rfl rfl hl.1 rfl (lv_room (Nat.le_of_ble_eq_true rfl)) d_Way_finishChunk_32 ⟨Nat.le_of_ble_eq_true rfl, Nat.le_of_ble_eq_true rfl⟩) hP hD hS hA [3] [0, 1, 2, 4, 5] rfl rfl (by decide) (by decide) (fun u_8 H locs hu_8 hP hD hS => ?_)
    have hP : va_P D vwCl [(q3, .inr (3, [.ref q4, .int (nI kept.2.1), .int kept.2.2])), (q4, .inl (cI, 400, .inl kept.1)), (qt, .inl (cI, 4, .inl (upd ta 1 ((ta 1) + 1)))), (q1, .inr (3, [.ref q2, .int (nI pay.2.1), .int pay.2.2])), (q2, .inl (cI, 400, .inl pay.1)), (h, .inr (0, [.int 126, .int 0, .ref q3, .ref q1, .int br, .int bg, .int 1, .ref qt, .int es, .int ck, .int he, .int ol, .int ne]))] H := hP
    have hD : va_D A [(q3, .inr (3, [.ref q4, .int (nI kept.2.1), .int kept.2.2])), (q4, .inl (cI, 400, .inl kept.1)), (qt, .inl (cI, 4, .inl (upd ta 1 ((ta 1) + 1)))), (q1, .inr (3, [.ref q2, .int (nI pay.2.1), .int pay.2.2])), (q2, .inl (cI, 400, .inl pay.1)), (h, .inr (0, [.int 126, .int 0, .ref q3, .ref q1, .int br, .int bg, .int 1, .ref qt, .int es, .int ck, .int he, .int ol, .int ne]))] := hD
    refine lv_aload_n hx hb d_Way_finishChunk_35 rfl (lv_at hl 1 rfl) ?_
    refine va_get (D := D) (ci := 0) (v := .ref q3) (C := R_CW) (T := F_CW) (N := 13) hx hb ht bi_CW hown hK hP 5 rfl rfl 2 (by decide) (ht _ bw_93) (fun _ h9 => h9) rfl d_Way_finishChunk_36 ?_
    refine lv_iconst (v := nI 0) hx hb d_Way_finishChunk_39 (by decide +kernel) ?_
    refine ft_cv (wc := [(q3, .inr (3, [.ref q4, .int (nI kept.2.1), .int kept.2.2])), (q4, .inl (cI, 400, .inl kept.1))]) (wr := [(qt, .inl (cI, 4, .inl (upd ta 1 ((ta 1) + 1)))), (q1, .inr (3, [.ref q2, .int (nI pay.2.1), .int pay.2.2])), (q2, .inl (cI, 400, .inl pay.1)), (h, .inr (0, [.int 126, .int 0, .ref q3, .ref q1, .int br, .int bg, .int 1, .ref qt, .int es, .int ck, .int he, .int ol, .int ne]))]) (va_runV (As := [.int (nI 0)]) (rest := []) ⟨hx, hb, hml, hown, ht⟩ (c_Row_cutTo l D cI q3 q4 400 (by omega) kept hp2 0 (by omega) H.size) (ft_cwV 1 ht bw_326 bw_210 bw_211 bw_33 bw_212 (by decide) ⟨Nat.le_of_ble_eq_true rfl, Nat.le_of_ble_eq_true rfl⟩) ⟨ft_blind, va_recv hK hP (ci := 3) (q0 := 0) rfl rfl, (ft_pre hP hD hK hNW [0, 1] [0] rfl rfl (by decide) rfl _)⟩ rfl rfl hl.1 rfl (lv_room (Nat.le_of_ble_eq_true rfl)) d_Way_finishChunk_40 ⟨Nat.le_of_ble_eq_true rfl, Nat.le_of_ble_eq_true rfl⟩) hP hD hS hA [0, 1] [2, 3, 4, 5] rfl rfl (by decide) (by decide) (fun u_10 H locs hu_10 hP hD hS => ?_)
    have le_u_10 : u_10.2.1 ≤ 400 := by rw [hu_10]; exact rcut_le hp2
    have hP : va_P D vwCl [(qt, .inl (cI, 4, .inl (upd ta 1 ((ta 1) + 1)))), (q1, .inr (3, [.ref q2, .int (nI pay.2.1), .int pay.2.2])), (q2, .inl (cI, 400, .inl pay.1)), (h, .inr (0, [.int 126, .int 0, .ref q3, .ref q1, .int br, .int bg, .int 1, .ref qt, .int es, .int ck, .int he, .int ol, .int ne])), (q3, .inr (3, [.ref q4, .int (nI u_10.2.1), .int u_10.2.2])), (q4, .inl (cI, 400, .inl u_10.1))] H := hP
    have hD : va_D A [(qt, .inl (cI, 4, .inl (upd ta 1 ((ta 1) + 1)))), (q1, .inr (3, [.ref q2, .int (nI pay.2.1), .int pay.2.2])), (q2, .inl (cI, 400, .inl pay.1)), (h, .inr (0, [.int 126, .int 0, .ref q3, .ref q1, .int br, .int bg, .int 1, .ref qt, .int es, .int ck, .int he, .int ol, .int ne])), (q3, .inr (3, [.ref q4, .int (nI u_10.2.1), .int u_10.2.2])), (q4, .inl (cI, 400, .inl u_10.1))] := hD
    rw [rcut_0] at hu_10
    refine lv_aload_n hx hb d_Way_finishChunk_43 rfl (lv_at hl 1 rfl) ?_
    refine lv_iconst (v := 0) hx hb d_Way_finishChunk_44 (by decide +kernel) ?_
    refine va_put (D := D) (ci := 0) (v := .int 0) (ty := .boolean) (C := R_CW) (T := F_CW) (N := 13) hx hb ht bi_CW t_CW t_CW_ok n_CW hown hK hP hD hS 3 rfl rfl 4 (by decide) (ht _ bw_102) (fun _ h9 => h9) rfl (by decide +kernel) rfl rfl (Nat.le_of_ble_eq_true rfl) d_Way_finishChunk_45 (fun H locs hP hD hS => ?_)
    have hP : va_P D vwCl [(qt, .inl (cI, 4, .inl (upd ta 1 ((ta 1) + 1)))), (q1, .inr (3, [.ref q2, .int (nI pay.2.1), .int pay.2.2])), (q2, .inl (cI, 400, .inl pay.1)), (h, .inr (0, [.int 126, .int 0, .ref q3, .ref q1, .int 0, .int bg, .int 1, .ref qt, .int es, .int ck, .int he, .int ol, .int ne])), (q3, .inr (3, [.ref q4, .int (nI u_10.2.1), .int u_10.2.2])), (q4, .inl (cI, 400, .inl u_10.1))] H := hP
    have hD : va_D A [(qt, .inl (cI, 4, .inl (upd ta 1 ((ta 1) + 1)))), (q1, .inr (3, [.ref q2, .int (nI pay.2.1), .int pay.2.2])), (q2, .inl (cI, 400, .inl pay.1)), (h, .inr (0, [.int 126, .int 0, .ref q3, .ref q1, .int 0, .int bg, .int 1, .ref qt, .int es, .int ck, .int he, .int ol, .int ne])), (q3, .inr (3, [.ref q4, .int (nI u_10.2.1), .int u_10.2.2])), (q4, .inl (cI, 400, .inl u_10.1))] := hD
    refine lv_aload_n hx hb d_Way_finishChunk_48 rfl (lv_at hl 1 rfl) ?_
    refine lv_iconst (v := 0) hx hb d_Way_finishChunk_49 (by decide +kernel) ?_
    refine va_put (D := D) (ci := 0) (v := .int 0) (ty := .boolean) (C := R_CW) (T := F_CW) (N := 13) hx hb ht bi_CW t_CW t_CW_ok n_CW hown hK hP hD hS 3 rfl rfl 5 (by decide) (ht _ bw_107) (fun _ h9 => h9) rfl (by decide +kernel) rfl rfl (Nat.le_of_ble_eq_true rfl) d_Way_finishChunk_50 (fun H locs hP hD hS => ?_)
    have hP : va_P D vwCl [(qt, .inl (cI, 4, .inl (upd ta 1 ((ta 1) + 1)))), (q1, .inr (3, [.ref q2, .int (nI pay.2.1), .int pay.2.2])), (q2, .inl (cI, 400, .inl pay.1)), (h, .inr (0, [.int 126, .int 0, .ref q3, .ref q1, .int 0, .int 0, .int 1, .ref qt, .int es, .int ck, .int he, .int ol, .int ne])), (q3, .inr (3, [.ref q4, .int (nI u_10.2.1), .int u_10.2.2])), (q4, .inl (cI, 400, .inl u_10.1))] H := hP
    have hD : va_D A [(qt, .inl (cI, 4, .inl (upd ta 1 ((ta 1) + 1)))), (q1, .inr (3, [.ref q2, .int (nI pay.2.1), .int pay.2.2])), (q2, .inl (cI, 400, .inl pay.1)), (h, .inr (0, [.int 126, .int 0, .ref q3, .ref q1, .int 0, .int 0, .int 1, .ref qt, .int es, .int ck, .int he, .int ol, .int ne])), (q3, .inr (3, [.ref q4, .int (nI u_10.2.1), .int u_10.2.2])), (q4, .inl (cI, 400, .inl u_10.1))] := hD
    refine lv_aload_n hx hb d_Way_finishChunk_53 rfl (lv_at hl 1 rfl) ?_
    refine ft_cv (wc := [(h, .inr (0, [.int 126, .int 0, .ref q3, .ref q1, .int 0, .int 0, .int 1, .ref qt, .int es, .int ck, .int he, .int ol, .int ne]))]) (wr := [(qt, .inl (cI, 4, .inl (upd ta 1 ((ta 1) + 1)))), (q1, .inr (3, [.ref q2, .int (nI pay.2.1), .int pay.2.2])), (q2, .inl (cI, 400, .inl pay.1)), (q3, .inr (3, [.ref q4, .int (nI u_10.2.1), .int u_10.2.2])), (q4, .inl (cI, 400, .inl u_10.1))]) (va_runU (As := []) (rest := []) ⟨hx, hb, hml, hown, ht⟩ (c_C_forgetChunk l D cI h q3 q1 qt 0 0 1 es ck he ol ne H.size) (ft_cwA (owner := R_Way) 0 ht bw_327 bw_329 bw_330 bw_331 bw_38 bw_332 (hNW _ bn_328) (by decide) ⟨Nat.le_of_ble_eq_true rfl, Nat.le_of_ble_eq_true rfl⟩) ⟨ft_blind, va_recv hK hP (ci := 0) (q0 := 3) rfl rfl, (ft_pre hP hD hK hNW [3] [0] rfl rfl (by decide) rfl _)⟩ rfl rfl hl.1 rfl (lv_room (Nat.le_of_ble_eq_true rfl)) d_Way_finishChunk_54 ⟨Nat.le_of_ble_eq_true rfl, Nat.le_of_ble_eq_true rfl⟩) hP hD hS hA [3] [0, 1, 2, 4, 5] rfl rfl (by decide) (by decide) (fun u_12 H locs hu_12 hP hD hS => ?_)
    have hP : va_P D vwCl [(qt, .inl (cI, 4, .inl (upd ta 1 ((ta 1) + 1)))), (q1, .inr (3, [.ref q2, .int (nI pay.2.1), .int pay.2.2])), (q2, .inl (cI, 400, .inl pay.1)), (q3, .inr (3, [.ref q4, .int (nI u_10.2.1), .int u_10.2.2])), (q4, .inl (cI, 400, .inl u_10.1)), (h, .inr (0, [.int 126, .int 0, .ref q3, .ref q1, .int 0, .int 0, .int 1, .ref qt, .int 0, .int 65535, .int 0, .int 0, .int 0]))] H := hP
    have hD : va_D A [(qt, .inl (cI, 4, .inl (upd ta 1 ((ta 1) + 1)))), (q1, .inr (3, [.ref q2, .int (nI pay.2.1), .int pay.2.2])), (q2, .inl (cI, 400, .inl pay.1)), (q3, .inr (3, [.ref q4, .int (nI u_10.2.1), .int u_10.2.2])), (q4, .inl (cI, 400, .inl u_10.1)), (h, .inr (0, [.int 126, .int 0, .ref q3, .ref q1, .int 0, .int 0, .int 1, .ref qt, .int 0, .int 65535, .int 0, .int 0, .int 0]))] := hD
    refine lv_iload_n hx hb d_Way_finishChunk_57 rfl (lv_at hl 0 rfl) ?_
    exact ft_reti (q3, q4, q1, q2, (u_10, pay, 0, 0, 1, upd ta 1 ((ta 1) + 1)), 0, 65535, 0, 0, 0) hx hb hr hlocks (hP.sub [5, 3, 4, 1, 2, 0] rfl) hK (hD.sub [5, 3, 4, 1, 2, 0] (by decide) rfl) hS ⟨hv.symm, by simp [finC, hu_8, hu_10, hu_12]⟩ d_Way_finishChunk_58
  · rw [hv] at hu_2
    subst hu_2
    refine lv_istore_n (lv' := [(2, .int 2), (0, .ref h), (1, .int most)]) hx hb d_Way_finishChunk_5 rfl hl (by decide) rfl (fun ls hl => ?_)
    refine lv_iload_n hx hb d_Way_finishChunk_6 rfl (lv_at hl 0 rfl) ?_
    refine lv_iconst (v := 1) hx hb d_Way_finishChunk_7 (by decide +kernel) ?_
    refine lv_icmp_lt (tgt := 26) hx hb d_Way_finishChunk_8 (by decide) (fun c8 => absurd c8 (by decide)) (fun _ => ?_)
    refine lv_iload_n hx hb d_Way_finishChunk_11 rfl (lv_at hl 0 rfl) ?_
    refine lv_iconst (v := 3) hx hb d_Way_finishChunk_12 (by decide +kernel) ?_
    refine lv_icmp_gt (tgt := 26) hx hb d_Way_finishChunk_13 (by decide) (fun c13 => absurd c13 (by decide)) (fun _ => ?_)
    refine lv_aload_n hx hb d_Way_finishChunk_16 rfl (lv_at hl 1 rfl) ?_
    refine va_get (D := D) (ci := 0) (v := .ref qt) (C := R_CW) (T := F_CW) (N := 13) hx hb ht bi_CW hown hK hP 3 rfl rfl 7 (by decide) (ht _ bw_109) (fun _ h9 => h9) rfl d_Way_finishChunk_17 ?_
    refine lv_iload_n hx hb d_Way_finishChunk_20 rfl (lv_at hl 0 rfl) ?_
    refine lv_dup2_11 hx hb d_Way_finishChunk_21 rfl rfl ?_
    refine va_iald hx hb hK hP 2 0 rfl rfl (vp_in_iff.mpr (by decide)) d_Way_finishChunk_22 ?_
    refine ft_top (congrArg ta (show (2 : Int32).toNatClampNeg = 2 from by decide)) ?_
    refine lv_iconst (v := 1) hx hb d_Way_finishChunk_23 (by decide +kernel) ?_
    refine lv_iadd hx hb d_Way_finishChunk_24 ?_
    refine va_iast hx hb hK hP hD hS 2 0 rfl rfl (vp_in_iff.mpr (by decide)) d_Way_finishChunk_25 (fun H locs hP hD hS => ?_)
    rw [show (2 : Int32).toNatClampNeg = 2 from by decide] at hP hD
    have hP : va_P D vwCl [(q3, .inr (3, [.ref q4, .int (nI kept.2.1), .int kept.2.2])), (q4, .inl (cI, 400, .inl kept.1)), (qt, .inl (cI, 4, .inl (upd ta 2 ((ta 2) + 1)))), (h, .inr (0, [.int 126, .int 0, .ref q1, .ref q3, .int br, .int bg, .int hk, .ref qt, .int es, .int ck, .int he, .int ol, .int ne])), (q1, .inr (3, [.ref q2, .int (nI pay.2.1), .int pay.2.2])), (q2, .inl (cI, 400, .inl pay.1))] H := hP
    have hD : va_D A [(q3, .inr (3, [.ref q4, .int (nI kept.2.1), .int kept.2.2])), (q4, .inl (cI, 400, .inl kept.1)), (qt, .inl (cI, 4, .inl (upd ta 2 ((ta 2) + 1)))), (h, .inr (0, [.int 126, .int 0, .ref q1, .ref q3, .int br, .int bg, .int hk, .ref qt, .int es, .int ck, .int he, .int ol, .int ne])), (q1, .inr (3, [.ref q2, .int (nI pay.2.1), .int pay.2.2])), (q2, .inl (cI, 400, .inl pay.1))] := hD
    refine lv_iload_n hx hb d_Way_finishChunk_26 rfl (lv_at hl 0 rfl) ?_
    refine lv_iconst (v := 1) hx hb d_Way_finishChunk_27 (by decide +kernel) ?_
    refine lv_icmp_ne (tgt := 35) hx hb d_Way_finishChunk_28 (by decide) (fun _ => ?_) (fun c28 => absurd c28 (by decide))
    refine lv_aload_n hx hb d_Way_finishChunk_35 rfl (lv_at hl 1 rfl) ?_
    refine va_get (D := D) (ci := 0) (v := .ref q1) (C := R_CW) (T := F_CW) (N := 13) hx hb ht bi_CW hown hK hP 3 rfl rfl 2 (by decide) (ht _ bw_93) (fun _ h9 => h9) rfl d_Way_finishChunk_36 ?_
    refine lv_iconst (v := nI 0) hx hb d_Way_finishChunk_39 (by decide +kernel) ?_
    refine ft_cv (wc := [(q1, .inr (3, [.ref q2, .int (nI pay.2.1), .int pay.2.2])), (q2, .inl (cI, 400, .inl pay.1))]) (wr := [(q3, .inr (3, [.ref q4, .int (nI kept.2.1), .int kept.2.2])), (q4, .inl (cI, 400, .inl kept.1)), (qt, .inl (cI, 4, .inl (upd ta 2 ((ta 2) + 1)))), (h, .inr (0, [.int 126, .int 0, .ref q1, .ref q3, .int br, .int bg, .int hk, .ref qt, .int es, .int ck, .int he, .int ol, .int ne]))]) (va_runV (As := [.int (nI 0)]) (rest := []) ⟨hx, hb, hml, hown, ht⟩ (c_Row_cutTo l D cI q1 q2 400 (by omega) pay hp 0 (by omega) H.size) (ft_cwV 1 ht bw_326 bw_210 bw_211 bw_33 bw_212 (by decide) ⟨Nat.le_of_ble_eq_true rfl, Nat.le_of_ble_eq_true rfl⟩) ⟨ft_blind, va_recv hK hP (ci := 3) (q0 := 4) rfl rfl, (ft_pre hP hD hK hNW [4, 5] [0] rfl rfl (by decide) rfl _)⟩ rfl rfl hl.1 rfl (lv_room (Nat.le_of_ble_eq_true rfl)) d_Way_finishChunk_40 ⟨Nat.le_of_ble_eq_true rfl, Nat.le_of_ble_eq_true rfl⟩) hP hD hS hA [4, 5] [0, 1, 2, 3] rfl rfl (by decide) (by decide) (fun u_14 H locs hu_14 hP hD hS => ?_)
    have le_u_14 : u_14.2.1 ≤ 400 := by rw [hu_14]; exact rcut_le hp
    have hP : va_P D vwCl [(q3, .inr (3, [.ref q4, .int (nI kept.2.1), .int kept.2.2])), (q4, .inl (cI, 400, .inl kept.1)), (qt, .inl (cI, 4, .inl (upd ta 2 ((ta 2) + 1)))), (h, .inr (0, [.int 126, .int 0, .ref q1, .ref q3, .int br, .int bg, .int hk, .ref qt, .int es, .int ck, .int he, .int ol, .int ne])), (q1, .inr (3, [.ref q2, .int (nI u_14.2.1), .int u_14.2.2])), (q2, .inl (cI, 400, .inl u_14.1))] H := hP
    have hD : va_D A [(q3, .inr (3, [.ref q4, .int (nI kept.2.1), .int kept.2.2])), (q4, .inl (cI, 400, .inl kept.1)), (qt, .inl (cI, 4, .inl (upd ta 2 ((ta 2) + 1)))), (h, .inr (0, [.int 126, .int 0, .ref q1, .ref q3, .int br, .int bg, .int hk, .ref qt, .int es, .int ck, .int he, .int ol, .int ne])), (q1, .inr (3, [.ref q2, .int (nI u_14.2.1), .int u_14.2.2])), (q2, .inl (cI, 400, .inl u_14.1))] := hD
    rw [rcut_0] at hu_14
    refine lv_aload_n hx hb d_Way_finishChunk_43 rfl (lv_at hl 1 rfl) ?_
    refine lv_iconst (v := 0) hx hb d_Way_finishChunk_44 (by decide +kernel) ?_
    refine va_put (D := D) (ci := 0) (v := .int 0) (ty := .boolean) (C := R_CW) (T := F_CW) (N := 13) hx hb ht bi_CW t_CW t_CW_ok n_CW hown hK hP hD hS 3 rfl rfl 4 (by decide) (ht _ bw_102) (fun _ h9 => h9) rfl (by decide +kernel) rfl rfl (Nat.le_of_ble_eq_true rfl) d_Way_finishChunk_45 (fun H locs hP hD hS => ?_)
    have hP : va_P D vwCl [(q3, .inr (3, [.ref q4, .int (nI kept.2.1), .int kept.2.2])), (q4, .inl (cI, 400, .inl kept.1)), (qt, .inl (cI, 4, .inl (upd ta 2 ((ta 2) + 1)))), (h, .inr (0, [.int 126, .int 0, .ref q1, .ref q3, .int 0, .int bg, .int hk, .ref qt, .int es, .int ck, .int he, .int ol, .int ne])), (q1, .inr (3, [.ref q2, .int (nI u_14.2.1), .int u_14.2.2])), (q2, .inl (cI, 400, .inl u_14.1))] H := hP
    have hD : va_D A [(q3, .inr (3, [.ref q4, .int (nI kept.2.1), .int kept.2.2])), (q4, .inl (cI, 400, .inl kept.1)), (qt, .inl (cI, 4, .inl (upd ta 2 ((ta 2) + 1)))), (h, .inr (0, [.int 126, .int 0, .ref q1, .ref q3, .int 0, .int bg, .int hk, .ref qt, .int es, .int ck, .int he, .int ol, .int ne])), (q1, .inr (3, [.ref q2, .int (nI u_14.2.1), .int u_14.2.2])), (q2, .inl (cI, 400, .inl u_14.1))] := hD
    refine lv_aload_n hx hb d_Way_finishChunk_48 rfl (lv_at hl 1 rfl) ?_
    refine lv_iconst (v := 0) hx hb d_Way_finishChunk_49 (by decide +kernel) ?_
    refine va_put (D := D) (ci := 0) (v := .int 0) (ty := .boolean) (C := R_CW) (T := F_CW) (N := 13) hx hb ht bi_CW t_CW t_CW_ok n_CW hown hK hP hD hS 3 rfl rfl 5 (by decide) (ht _ bw_107) (fun _ h9 => h9) rfl (by decide +kernel) rfl rfl (Nat.le_of_ble_eq_true rfl) d_Way_finishChunk_50 (fun H locs hP hD hS => ?_)
    have hP : va_P D vwCl [(q3, .inr (3, [.ref q4, .int (nI kept.2.1), .int kept.2.2])), (q4, .inl (cI, 400, .inl kept.1)), (qt, .inl (cI, 4, .inl (upd ta 2 ((ta 2) + 1)))), (h, .inr (0, [.int 126, .int 0, .ref q1, .ref q3, .int 0, .int 0, .int hk, .ref qt, .int es, .int ck, .int he, .int ol, .int ne])), (q1, .inr (3, [.ref q2, .int (nI u_14.2.1), .int u_14.2.2])), (q2, .inl (cI, 400, .inl u_14.1))] H := hP
    have hD : va_D A [(q3, .inr (3, [.ref q4, .int (nI kept.2.1), .int kept.2.2])), (q4, .inl (cI, 400, .inl kept.1)), (qt, .inl (cI, 4, .inl (upd ta 2 ((ta 2) + 1)))), (h, .inr (0, [.int 126, .int 0, .ref q1, .ref q3, .int 0, .int 0, .int hk, .ref qt, .int es, .int ck, .int he, .int ol, .int ne])), (q1, .inr (3, [.ref q2, .int (nI u_14.2.1), .int u_14.2.2])), (q2, .inl (cI, 400, .inl u_14.1))] := hD
    refine lv_aload_n hx hb d_Way_finishChunk_53 rfl (lv_at hl 1 rfl) ?_
    refine ft_cv (wc := [(h, .inr (0, [.int 126, .int 0, .ref q1, .ref q3, .int 0, .int 0, .int hk, .ref qt, .int es, .int ck, .int he, .int ol, .int ne]))]) (wr := [(q3, .inr (3, [.ref q4, .int (nI kept.2.1), .int kept.2.2])), (q4, .inl (cI, 400, .inl kept.1)), (qt, .inl (cI, 4, .inl (upd ta 2 ((ta 2) + 1)))), (q1, .inr (3, [.ref q2, .int (nI u_14.2.1), .int u_14.2.2])), (q2, .inl (cI, 400, .inl u_14.1))]) (va_runU (As := []) (rest := []) ⟨hx, hb, hml, hown, ht⟩ (c_C_forgetChunk l D cI h q1 q3 qt 0 0 hk es ck he ol ne H.size) (ft_cwA (owner := R_Way) 0 ht bw_327 bw_329 bw_330 bw_331 bw_38 bw_332 (hNW _ bn_328) (by decide) ⟨Nat.le_of_ble_eq_true rfl, Nat.le_of_ble_eq_true rfl⟩) ⟨ft_blind, va_recv hK hP (ci := 0) (q0 := 3) rfl rfl, (ft_pre hP hD hK hNW [3] [0] rfl rfl (by decide) rfl _)⟩ rfl rfl hl.1 rfl (lv_room (Nat.le_of_ble_eq_true rfl)) d_Way_finishChunk_54 ⟨Nat.le_of_ble_eq_true rfl, Nat.le_of_ble_eq_true rfl⟩) hP hD hS hA [3] [0, 1, 2, 4, 5] rfl rfl (by decide) (by decide) (fun u_16 H locs hu_16 hP hD hS => ?_)
    have hP : va_P D vwCl [(q3, .inr (3, [.ref q4, .int (nI kept.2.1), .int kept.2.2])), (q4, .inl (cI, 400, .inl kept.1)), (qt, .inl (cI, 4, .inl (upd ta 2 ((ta 2) + 1)))), (q1, .inr (3, [.ref q2, .int (nI u_14.2.1), .int u_14.2.2])), (q2, .inl (cI, 400, .inl u_14.1)), (h, .inr (0, [.int 126, .int 0, .ref q1, .ref q3, .int 0, .int 0, .int hk, .ref qt, .int 0, .int 65535, .int 0, .int 0, .int 0]))] H := hP
    have hD : va_D A [(q3, .inr (3, [.ref q4, .int (nI kept.2.1), .int kept.2.2])), (q4, .inl (cI, 400, .inl kept.1)), (qt, .inl (cI, 4, .inl (upd ta 2 ((ta 2) + 1)))), (q1, .inr (3, [.ref q2, .int (nI u_14.2.1), .int u_14.2.2])), (q2, .inl (cI, 400, .inl u_14.1)), (h, .inr (0, [.int 126, .int 0, .ref q1, .ref q3, .int 0, .int 0, .int hk, .ref qt, .int 0, .int 65535, .int 0, .int 0, .int 0]))] := hD
    refine lv_iload_n hx hb d_Way_finishChunk_57 rfl (lv_at hl 0 rfl) ?_
    exact ft_reti (q1, q2, q3, q4, (u_14, kept, 0, 0, hk, upd ta 2 ((ta 2) + 1)), 0, 65535, 0, 0, 0) hx hb hr hlocks (hP.sub [5, 3, 4, 0, 1, 2] rfl) hK (hD.sub [5, 3, 4, 0, 1, 2] (by decide) rfl) hS ⟨hv.symm, by simp [finC, hu_14, hu_16]⟩ d_Way_finishChunk_58
  · rw [hv] at hu_2
    subst hu_2
    refine lv_istore_n (lv' := [(2, .int 3), (0, .ref h), (1, .int most)]) hx hb d_Way_finishChunk_5 rfl hl (by decide) rfl (fun ls hl => ?_)
    refine lv_iload_n hx hb d_Way_finishChunk_6 rfl (lv_at hl 0 rfl) ?_
    refine lv_iconst (v := 1) hx hb d_Way_finishChunk_7 (by decide +kernel) ?_
    refine lv_icmp_lt (tgt := 26) hx hb d_Way_finishChunk_8 (by decide) (fun c8 => absurd c8 (by decide)) (fun _ => ?_)
    refine lv_iload_n hx hb d_Way_finishChunk_11 rfl (lv_at hl 0 rfl) ?_
    refine lv_iconst (v := 3) hx hb d_Way_finishChunk_12 (by decide +kernel) ?_
    refine lv_icmp_gt (tgt := 26) hx hb d_Way_finishChunk_13 (by decide) (fun c13 => absurd c13 (by decide)) (fun _ => ?_)
    refine lv_aload_n hx hb d_Way_finishChunk_16 rfl (lv_at hl 1 rfl) ?_
    refine va_get (D := D) (ci := 0) (v := .ref qt) (C := R_CW) (T := F_CW) (N := 13) hx hb ht bi_CW hown hK hP 3 rfl rfl 7 (by decide) (ht _ bw_109) (fun _ h9 => h9) rfl d_Way_finishChunk_17 ?_
    refine lv_iload_n hx hb d_Way_finishChunk_20 rfl (lv_at hl 0 rfl) ?_
    refine lv_dup2_11 hx hb d_Way_finishChunk_21 rfl rfl ?_
    refine va_iald hx hb hK hP 2 0 rfl rfl (vp_in_iff.mpr (by decide)) d_Way_finishChunk_22 ?_
    refine ft_top (congrArg ta (show (3 : Int32).toNatClampNeg = 3 from by decide)) ?_
    refine lv_iconst (v := 1) hx hb d_Way_finishChunk_23 (by decide +kernel) ?_
    refine lv_iadd hx hb d_Way_finishChunk_24 ?_
    refine va_iast hx hb hK hP hD hS 2 0 rfl rfl (vp_in_iff.mpr (by decide)) d_Way_finishChunk_25 (fun H locs hP hD hS => ?_)
    rw [show (3 : Int32).toNatClampNeg = 3 from by decide] at hP hD
    have hP : va_P D vwCl [(q3, .inr (3, [.ref q4, .int (nI kept.2.1), .int kept.2.2])), (q4, .inl (cI, 400, .inl kept.1)), (qt, .inl (cI, 4, .inl (upd ta 3 ((ta 3) + 1)))), (h, .inr (0, [.int 126, .int 0, .ref q1, .ref q3, .int br, .int bg, .int hk, .ref qt, .int es, .int ck, .int he, .int ol, .int ne])), (q1, .inr (3, [.ref q2, .int (nI pay.2.1), .int pay.2.2])), (q2, .inl (cI, 400, .inl pay.1))] H := hP
    have hD : va_D A [(q3, .inr (3, [.ref q4, .int (nI kept.2.1), .int kept.2.2])), (q4, .inl (cI, 400, .inl kept.1)), (qt, .inl (cI, 4, .inl (upd ta 3 ((ta 3) + 1)))), (h, .inr (0, [.int 126, .int 0, .ref q1, .ref q3, .int br, .int bg, .int hk, .ref qt, .int es, .int ck, .int he, .int ol, .int ne])), (q1, .inr (3, [.ref q2, .int (nI pay.2.1), .int pay.2.2])), (q2, .inl (cI, 400, .inl pay.1))] := hD
    refine lv_iload_n hx hb d_Way_finishChunk_26 rfl (lv_at hl 0 rfl) ?_
    refine lv_iconst (v := 1) hx hb d_Way_finishChunk_27 (by decide +kernel) ?_
    refine lv_icmp_ne (tgt := 35) hx hb d_Way_finishChunk_28 (by decide) (fun _ => ?_) (fun c28 => absurd c28 (by decide))
    refine lv_aload_n hx hb d_Way_finishChunk_35 rfl (lv_at hl 1 rfl) ?_
    refine va_get (D := D) (ci := 0) (v := .ref q1) (C := R_CW) (T := F_CW) (N := 13) hx hb ht bi_CW hown hK hP 3 rfl rfl 2 (by decide) (ht _ bw_93) (fun _ h9 => h9) rfl d_Way_finishChunk_36 ?_
    refine lv_iconst (v := nI 0) hx hb d_Way_finishChunk_39 (by decide +kernel) ?_
    refine ft_cv (wc := [(q1, .inr (3, [.ref q2, .int (nI pay.2.1), .int pay.2.2])), (q2, .inl (cI, 400, .inl pay.1))]) (wr := [(q3, .inr (3, [.ref q4, .int (nI kept.2.1), .int kept.2.2])), (q4, .inl (cI, 400, .inl kept.1)), (qt, .inl (cI, 4, .inl (upd ta 3 ((ta 3) + 1)))), (h, .inr (0, [.int 126, .int 0, .ref q1, .ref q3, .int br, .int bg, .int hk, .ref qt, .int es, .int ck, .int he, .int ol, .int ne]))]) (va_runV (As := [.int (nI 0)]) (rest := []) ⟨hx, hb, hml, hown, ht⟩ (c_Row_cutTo l D cI q1 q2 400 (by omega) pay hp 0 (by omega) H.size) (ft_cwV 1 ht bw_326 bw_210 bw_211 bw_33 bw_212 (by decide) ⟨Nat.le_of_ble_eq_true rfl, Nat.le_of_ble_eq_true rfl⟩) ⟨ft_blind, va_recv hK hP (ci := 3) (q0 := 4) rfl rfl, (ft_pre hP hD hK hNW [4, 5] [0] rfl rfl (by decide) rfl _)⟩ rfl rfl hl.1 rfl (lv_room (Nat.le_of_ble_eq_true rfl)) d_Way_finishChunk_40 ⟨Nat.le_of_ble_eq_true rfl, Nat.le_of_ble_eq_true rfl⟩) hP hD hS hA [4, 5] [0, 1, 2, 3] rfl rfl (by decide) (by decide) (fun u_18 H locs hu_18 hP hD hS => ?_)
    have le_u_18 : u_18.2.1 ≤ 400 := by rw [hu_18]; exact rcut_le hp
    have hP : va_P D vwCl [(q3, .inr (3, [.ref q4, .int (nI kept.2.1), .int kept.2.2])), (q4, .inl (cI, 400, .inl kept.1)), (qt, .inl (cI, 4, .inl (upd ta 3 ((ta 3) + 1)))), (h, .inr (0, [.int 126, .int 0, .ref q1, .ref q3, .int br, .int bg, .int hk, .ref qt, .int es, .int ck, .int he, .int ol, .int ne])), (q1, .inr (3, [.ref q2, .int (nI u_18.2.1), .int u_18.2.2])), (q2, .inl (cI, 400, .inl u_18.1))] H := hP
    have hD : va_D A [(q3, .inr (3, [.ref q4, .int (nI kept.2.1), .int kept.2.2])), (q4, .inl (cI, 400, .inl kept.1)), (qt, .inl (cI, 4, .inl (upd ta 3 ((ta 3) + 1)))), (h, .inr (0, [.int 126, .int 0, .ref q1, .ref q3, .int br, .int bg, .int hk, .ref qt, .int es, .int ck, .int he, .int ol, .int ne])), (q1, .inr (3, [.ref q2, .int (nI u_18.2.1), .int u_18.2.2])), (q2, .inl (cI, 400, .inl u_18.1))] := hD
    rw [rcut_0] at hu_18
    refine lv_aload_n hx hb d_Way_finishChunk_43 rfl (lv_at hl 1 rfl) ?_
    refine lv_iconst (v := 0) hx hb d_Way_finishChunk_44 (by decide +kernel) ?_
    refine va_put (D := D) (ci := 0) (v := .int 0) (ty := .boolean) (C := R_CW) (T := F_CW) (N := 13) hx hb ht bi_CW t_CW t_CW_ok n_CW hown hK hP hD hS 3 rfl rfl 4 (by decide) (ht _ bw_102) (fun _ h9 => h9) rfl (by decide +kernel) rfl rfl (Nat.le_of_ble_eq_true rfl) d_Way_finishChunk_45 (fun H locs hP hD hS => ?_)
    have hP : va_P D vwCl [(q3, .inr (3, [.ref q4, .int (nI kept.2.1), .int kept.2.2])), (q4, .inl (cI, 400, .inl kept.1)), (qt, .inl (cI, 4, .inl (upd ta 3 ((ta 3) + 1)))), (h, .inr (0, [.int 126, .int 0, .ref q1, .ref q3, .int 0, .int bg, .int hk, .ref qt, .int es, .int ck, .int he, .int ol, .int ne])), (q1, .inr (3, [.ref q2, .int (nI u_18.2.1), .int u_18.2.2])), (q2, .inl (cI, 400, .inl u_18.1))] H := hP
    have hD : va_D A [(q3, .inr (3, [.ref q4, .int (nI kept.2.1), .int kept.2.2])), (q4, .inl (cI, 400, .inl kept.1)), (qt, .inl (cI, 4, .inl (upd ta 3 ((ta 3) + 1)))), (h, .inr (0, [.int 126, .int 0, .ref q1, .ref q3, .int 0, .int bg, .int hk, .ref qt, .int es, .int ck, .int he, .int ol, .int ne])), (q1, .inr (3, [.ref q2, .int (nI u_18.2.1), .int u_18.2.2])), (q2, .inl (cI, 400, .inl u_18.1))] := hD
    refine lv_aload_n hx hb d_Way_finishChunk_48 rfl (lv_at hl 1 rfl) ?_
    refine lv_iconst (v := 0) hx hb d_Way_finishChunk_49 (by decide +kernel) ?_
    refine va_put (D := D) (ci := 0) (v := .int 0) (ty := .boolean) (C := R_CW) (T := F_CW) (N := 13) hx hb ht bi_CW t_CW t_CW_ok n_CW hown hK hP hD hS 3 rfl rfl 5 (by decide) (ht _ bw_107) (fun _ h9 => h9) rfl (by decide +kernel) rfl rfl (Nat.le_of_ble_eq_true rfl) d_Way_finishChunk_50 (fun H locs hP hD hS => ?_)
    have hP : va_P D vwCl [(q3, .inr (3, [.ref q4, .int (nI kept.2.1), .int kept.2.2])), (q4, .inl (cI, 400, .inl kept.1)), (qt, .inl (cI, 4, .inl (upd ta 3 ((ta 3) + 1)))), (h, .inr (0, [.int 126, .int 0, .ref q1, .ref q3, .int 0, .int 0, .int hk, .ref qt, .int es, .int ck, .int he, .int ol, .int ne])), (q1, .inr (3, [.ref q2, .int (nI u_18.2.1), .int u_18.2.2])), (q2, .inl (cI, 400, .inl u_18.1))] H := hP
    have hD : va_D A [(q3, .inr (3, [.ref q4, .int (nI kept.2.1), .int kept.2.2])), (q4, .inl (cI, 400, .inl kept.1)), (qt, .inl (cI, 4, .inl (upd ta 3 ((ta 3) + 1)))), (h, .inr (0, [.int 126, .int 0, .ref q1, .ref q3, .int 0, .int 0, .int hk, .ref qt, .int es, .int ck, .int he, .int ol, .int ne])), (q1, .inr (3, [.ref q2, .int (nI u_18.2.1), .int u_18.2.2])), (q2, .inl (cI, 400, .inl u_18.1))] := hD
    refine lv_aload_n hx hb d_Way_finishChunk_53 rfl (lv_at hl 1 rfl) ?_
    refine ft_cv (wc := [(h, .inr (0, [.int 126, .int 0, .ref q1, .ref q3, .int 0, .int 0, .int hk, .ref qt, .int es, .int ck, .int he, .int ol, .int ne]))]) (wr := [(q3, .inr (3, [.ref q4, .int (nI kept.2.1), .int kept.2.2])), (q4, .inl (cI, 400, .inl kept.1)), (qt, .inl (cI, 4, .inl (upd ta 3 ((ta 3) + 1)))), (q1, .inr (3, [.ref q2, .int (nI u_18.2.1), .int u_18.2.2])), (q2, .inl (cI, 400, .inl u_18.1))]) (va_runU (As := []) (rest := []) ⟨hx, hb, hml, hown, ht⟩ (c_C_forgetChunk l D cI h q1 q3 qt 0 0 hk es ck he ol ne H.size) (ft_cwA (owner := R_Way) 0 ht bw_327 bw_329 bw_330 bw_331 bw_38 bw_332 (hNW _ bn_328) (by decide) ⟨Nat.le_of_ble_eq_true rfl, Nat.le_of_ble_eq_true rfl⟩) ⟨ft_blind, va_recv hK hP (ci := 0) (q0 := 3) rfl rfl, (ft_pre hP hD hK hNW [3] [0] rfl rfl (by decide) rfl _)⟩ rfl rfl hl.1 rfl (lv_room (Nat.le_of_ble_eq_true rfl)) d_Way_finishChunk_54 ⟨Nat.le_of_ble_eq_true rfl, Nat.le_of_ble_eq_true rfl⟩) hP hD hS hA [3] [0, 1, 2, 4, 5] rfl rfl (by decide) (by decide) (fun u_20 H locs hu_20 hP hD hS => ?_)
    have hP : va_P D vwCl [(q3, .inr (3, [.ref q4, .int (nI kept.2.1), .int kept.2.2])), (q4, .inl (cI, 400, .inl kept.1)), (qt, .inl (cI, 4, .inl (upd ta 3 ((ta 3) + 1)))), (q1, .inr (3, [.ref q2, .int (nI u_18.2.1), .int u_18.2.2])), (q2, .inl (cI, 400, .inl u_18.1)), (h, .inr (0, [.int 126, .int 0, .ref q1, .ref q3, .int 0, .int 0, .int hk, .ref qt, .int 0, .int 65535, .int 0, .int 0, .int 0]))] H := hP
    have hD : va_D A [(q3, .inr (3, [.ref q4, .int (nI kept.2.1), .int kept.2.2])), (q4, .inl (cI, 400, .inl kept.1)), (qt, .inl (cI, 4, .inl (upd ta 3 ((ta 3) + 1)))), (q1, .inr (3, [.ref q2, .int (nI u_18.2.1), .int u_18.2.2])), (q2, .inl (cI, 400, .inl u_18.1)), (h, .inr (0, [.int 126, .int 0, .ref q1, .ref q3, .int 0, .int 0, .int hk, .ref qt, .int 0, .int 65535, .int 0, .int 0, .int 0]))] := hD
    refine lv_iload_n hx hb d_Way_finishChunk_57 rfl (lv_at hl 0 rfl) ?_
    exact ft_reti (q1, q2, q3, q4, (u_18, kept, 0, 0, hk, upd ta 3 ((ta 3) + 1)), 0, 65535, 0, 0, 0) hx hb hr hlocks (hP.sub [5, 3, 4, 0, 1, 2] rfl) hK (hD.sub [5, 3, 4, 0, 1, 2] (by decide) rfl) hS ⟨hv.symm, by simp [finC, hu_18, hu_20]⟩ d_Way_finishChunk_58

set_option maxHeartbeats 4000000 in
set_option maxRecDepth 100000 in
theorem c_C_take (l : Launch) (D : va_G) (cI : ClassId) (h q1 q2 q3 q4 qt : Nat) (br bg hk es ck he ol ne : Int32) (ta : Nat → Int32) (pay kept : RS) (hp : pay.2.1 ≤ 400) (hp2 : kept.2.1 ≤ 400) (b most : Int32) (sz : Nat) : ft_Mi l y_Way_take (.code y_Way_take b_Way_take 3 (some .int) :: ft_big) ({ frames := 4, cells := 0, slots := 0, locals := 160 }) D [(cI, .int)] sz [.ref h, .int b, .int most] [(h, .inr (0, [.int 126, .int 0, .ref q1, .ref q3, .int br, .int bg, .int hk, .ref qt, .int es, .int ck, .int he, .int ol, .int ne])), (q1, .inr (3, [.ref q2, .int (nI pay.2.1), .int pay.2.2])), (q2, .inl (cI, 400, .inl pay.1)), (q3, .inr (3, [.ref q4, .int (nI kept.2.1), .int kept.2.2])), (q4, .inl (cI, 400, .inl kept.1)), (qt, .inl (cI, 4, .inl ta))] (fun (v : Int32) (u : Nat × Nat × Nat × Nat × CS × Int32 × Int32 × Int32 × Int32 × Int32) => (v, u.2.2.2.2) = takeC most b ((pay, kept, br, bg, hk, ta), es, ck, he, ol, ne)) (wC h qt cI) 0 0 := by
  refine ft_ei (cc := b_Way_take) (maxL := 3) (ret := (some .int)) (by decide) rfl (Nat.le_of_ble_eq_true rfl) ?_
  intro p e s m below meth c A ls hx hb hr hml hts hown hlocks hmn hP hK hD hA hS hNW hl
  have ht : ∀ w ∈ ft_big, w.before _ s = true := fun w h => hts w (List.mem_cons_of_mem _ h)
  have hP : va_P D vwCl [(h, .inr (0, [.int 126, .int 0, .ref q1, .ref q3, .int br, .int bg, .int hk, .ref qt, .int es, .int ck, .int he, .int ol, .int ne])), (q1, .inr (3, [.ref q2, .int (nI pay.2.1), .int pay.2.2])), (q2, .inl (cI, 400, .inl pay.1)), (q3, .inr (3, [.ref q4, .int (nI kept.2.1), .int kept.2.2])), (q4, .inl (cI, 400, .inl kept.1)), (qt, .inl (cI, 4, .inl ta))] s.heap := hP
  have hD : va_D A [(h, .inr (0, [.int 126, .int 0, .ref q1, .ref q3, .int br, .int bg, .int hk, .ref qt, .int es, .int ck, .int he, .int ol, .int ne])), (q1, .inr (3, [.ref q2, .int (nI pay.2.1), .int pay.2.2])), (q2, .inl (cI, 400, .inl pay.1)), (q3, .inr (3, [.ref q4, .int (nI kept.2.1), .int kept.2.2])), (q4, .inl (cI, 400, .inl kept.1)), (qt, .inl (cI, 4, .inl ta))] := hD
  have hl : lv_has ls 3 [(0, .ref h), (1, .int b), (2, .int most)] := hl
  refine lv_iload_n hx hb d_Way_take_0 rfl (lv_at hl 1 rfl) ?_
  refine lv_aload_n hx hb d_Way_take_1 rfl (lv_at hl 0 rfl) ?_
  refine va_get (D := D) (ci := 0) (v := .int 126) (C := R_CW) (T := F_CW) (N := 13) hx hb ht bi_CW hown hK hP 0 rfl rfl 0 (by decide) (ht _ bw_90) (fun _ h9 => h9) rfl d_Way_take_2 ?_
  refine lv_icmp_ne (tgt := 14) hx hb d_Way_take_5 (by decide) (fun c5 => ?_) (fun c5 => ?_)
  · skip
    refine lv_aload_n hx hb d_Way_take_14 rfl (lv_at hl 0 rfl) ?_
    refine lv_iconst (v := 1) hx hb d_Way_take_15 (by decide +kernel) ?_
    refine va_put (D := D) (ci := 0) (v := .int 1) (ty := .boolean) (C := R_CW) (T := F_CW) (N := 13) hx hb ht bi_CW t_CW t_CW_ok n_CW hown hK hP hD hS 0 rfl rfl 5 (by decide) (ht _ bw_107) (fun _ h9 => h9) rfl (by decide +kernel) rfl rfl (Nat.le_of_ble_eq_true rfl) d_Way_take_16 (fun H locs hP hD hS => ?_)
    have hP : va_P D vwCl [(h, .inr (0, [.int 126, .int 0, .ref q1, .ref q3, .int br, .int 1, .int hk, .ref qt, .int es, .int ck, .int he, .int ol, .int ne])), (q1, .inr (3, [.ref q2, .int (nI pay.2.1), .int pay.2.2])), (q2, .inl (cI, 400, .inl pay.1)), (q3, .inr (3, [.ref q4, .int (nI kept.2.1), .int kept.2.2])), (q4, .inl (cI, 400, .inl kept.1)), (qt, .inl (cI, 4, .inl ta))] H := hP
    have hD : va_D A [(h, .inr (0, [.int 126, .int 0, .ref q1, .ref q3, .int br, .int 1, .int hk, .ref qt, .int es, .int ck, .int he, .int ol, .int ne])), (q1, .inr (3, [.ref q2, .int (nI pay.2.1), .int pay.2.2])), (q2, .inl (cI, 400, .inl pay.1)), (q3, .inr (3, [.ref q4, .int (nI kept.2.1), .int kept.2.2])), (q4, .inl (cI, 400, .inl kept.1)), (qt, .inl (cI, 4, .inl ta))] := hD
    refine lv_aload_n hx hb d_Way_take_19 rfl (lv_at hl 0 rfl) ?_
    refine va_get (D := D) (ci := 0) (v := .int br) (C := R_CW) (T := F_CW) (N := 13) hx hb ht bi_CW hown hK hP 0 rfl rfl 4 (by decide) (ht _ bw_102) (fun _ h9 => h9) rfl d_Way_take_20 ?_
    refine lv_if_ne (tgt := 31) hx hb d_Way_take_23 (by decide) (fun c23 => ?_) (fun c23 => ?_)
    · skip
      refine lv_iconst (v := 0) hx hb d_Way_take_31 (by decide +kernel) ?_
      exact ft_reti (q1, q2, q3, q4, (pay, kept, br, 1, hk, ta), es, ck, he, ol, ne) hx hb hr hlocks hP hK hD hS (by show (_, _) = takeC most b _; simp only [takeC, if_neg c5, if_neg c23]) d_Way_take_32
    · skip
      refine lv_aload_n hx hb d_Way_take_26 rfl (lv_at hl 0 rfl) ?_
      refine lv_iload_n hx hb d_Way_take_27 rfl (lv_at hl 1 rfl) ?_
      refine ft_cv (wc := [(h, .inr (0, [.int 126, .int 0, .ref q1, .ref q3, .int br, .int 1, .int hk, .ref qt, .int es, .int ck, .int he, .int ol, .int ne])), (q1, .inr (3, [.ref q2, .int (nI pay.2.1), .int pay.2.2])), (q2, .inl (cI, 400, .inl pay.1))]) (wr := [(q3, .inr (3, [.ref q4, .int (nI kept.2.1), .int kept.2.2])), (q4, .inl (cI, 400, .inl kept.1)), (qt, .inl (cI, 4, .inl ta))]) (va_runU (As := [.int b]) (rest := []) ⟨hx, hb, hml, hown, ht⟩ (c_C_decode l D cI h q1 q2 q3 qt br 1 hk es ck he ol ne pay hp b H.size) (ft_cwA (owner := R_Way) 1 ht bw_339 bw_341 bw_342 bw_343 bw_38 bw_344 (hNW _ bn_340) (by decide) ⟨Nat.le_of_ble_eq_true rfl, Nat.le_of_ble_eq_true rfl⟩) ⟨ft_blind, va_recv hK hP (ci := 0) (q0 := 0) rfl rfl, (ft_pre hP hD hK hNW [0, 1, 2] [0] rfl rfl (by decide) rfl _)⟩ rfl rfl hl.1 rfl (lv_room (Nat.le_of_ble_eq_true rfl)) d_Way_take_28 ⟨Nat.le_of_ble_eq_true rfl, Nat.le_of_ble_eq_true rfl⟩) hP hD hS hA [0, 1, 2] [3, 4, 5] rfl rfl (by decide) (by decide) (fun u_2 H locs hu_2 hP hD hS => ?_)
      obtain ⟨pay1, br1, es1, ck1, he1, ol1, ne1⟩ := u_2
      have hP : va_P D vwCl [(q3, .inr (3, [.ref q4, .int (nI kept.2.1), .int kept.2.2])), (q4, .inl (cI, 400, .inl kept.1)), (qt, .inl (cI, 4, .inl ta)), (h, .inr (0, [.int 126, .int 0, .ref q1, .ref q3, .int br1, .int 1, .int hk, .ref qt, .int es1, .int ck1, .int he1, .int ol1, .int ne1])), (q1, .inr (3, [.ref q2, .int (nI pay1.2.1), .int pay1.2.2])), (q2, .inl (cI, 400, .inl pay1.1))] H := hP
      have hD : va_D A [(q3, .inr (3, [.ref q4, .int (nI kept.2.1), .int kept.2.2])), (q4, .inl (cI, 400, .inl kept.1)), (qt, .inl (cI, 4, .inl ta)), (h, .inr (0, [.int 126, .int 0, .ref q1, .ref q3, .int br1, .int 1, .int hk, .ref qt, .int es1, .int ck1, .int he1, .int ol1, .int ne1])), (q1, .inr (3, [.ref q2, .int (nI pay1.2.1), .int pay1.2.2])), (q2, .inl (cI, 400, .inl pay1.1))] := hD
      refine lv_iconst (v := 0) hx hb d_Way_take_31 (by decide +kernel) ?_
      exact ft_reti (q1, q2, q3, q4, (pay1, kept, br1, 1, hk, ta), es1, ck1, he1, ol1, ne1) hx hb hr hlocks (hP.sub [3, 4, 5, 0, 1, 2] rfl) hK (hD.sub [3, 4, 5, 0, 1, 2] (by decide) rfl) hS (by show (_, _) = takeC most b _; simp only [takeC, if_neg c5, if_pos c23, ← hu_2]) d_Way_take_32
  · skip
    refine lv_aload_n hx hb d_Way_take_8 rfl (lv_at hl 0 rfl) ?_
    refine lv_iload_n hx hb d_Way_take_9 rfl (lv_at hl 2 rfl) ?_
    refine ft_ci (wc := [(h, .inr (0, [.int 126, .int 0, .ref q1, .ref q3, .int br, .int bg, .int hk, .ref qt, .int es, .int ck, .int he, .int ol, .int ne])), (q1, .inr (3, [.ref q2, .int (nI pay.2.1), .int pay.2.2])), (q2, .inl (cI, 400, .inl pay.1)), (q3, .inr (3, [.ref q4, .int (nI kept.2.1), .int kept.2.2])), (q4, .inl (cI, 400, .inl kept.1)), (qt, .inl (cI, 4, .inl ta))]) (wr := []) (va_runU (As := [.int most]) (rest := []) ⟨hx, hb, hml, hown, ht⟩ (c_C_finishChunk l D cI h q1 q2 q3 q4 qt br bg hk es ck he ol ne ta pay kept hp hp2 most s.heap.size) (ft_cwU (owner := R_Way) 1 ht bw_302 bw_584 bw_0 bw_304 bw_35 bw_305 (by decide) ⟨Nat.le_of_ble_eq_true rfl, Nat.le_of_ble_eq_true rfl⟩) ⟨ft_blind, va_recv hK hP (ci := 0) (q0 := 0) rfl rfl, (ft_pre hP hD hK hNW [0, 1, 2, 3, 4, 5] [0] rfl rfl (by decide) rfl _)⟩ rfl rfl hl.1 rfl (lv_room (Nat.le_of_ble_eq_true rfl)) d_Way_take_10 ⟨Nat.le_of_ble_eq_true rfl, Nat.le_of_ble_eq_true rfl⟩) hP hD hS hA [0, 1, 2, 3, 4, 5] [] rfl rfl (by decide) (by decide) (fun r_3 u_4 H locs hu_4 hP hD hS => ?_)
    obtain ⟨p1, p2, p3, p4, ⟨pay1, kept1, br1, bg1, hk1, ta1⟩, es1, ck1, he1, ol1, ne1⟩ := u_4
    have hP : va_P D vwCl [(h, .inr (0, [.int 126, .int 0, .ref p1, .ref p3, .int br1, .int bg1, .int hk1, .ref qt, .int es1, .int ck1, .int he1, .int ol1, .int ne1])), (p1, .inr (3, [.ref p2, .int (nI pay1.2.1), .int pay1.2.2])), (p2, .inl (cI, 400, .inl pay1.1)), (p3, .inr (3, [.ref p4, .int (nI kept1.2.1), .int kept1.2.2])), (p4, .inl (cI, 400, .inl kept1.1)), (qt, .inl (cI, 4, .inl ta1))] H := hP
    have hD : va_D A [(h, .inr (0, [.int 126, .int 0, .ref p1, .ref p3, .int br1, .int bg1, .int hk1, .ref qt, .int es1, .int ck1, .int he1, .int ol1, .int ne1])), (p1, .inr (3, [.ref p2, .int (nI pay1.2.1), .int pay1.2.2])), (p2, .inl (cI, 400, .inl pay1.1)), (p3, .inr (3, [.ref p4, .int (nI kept1.2.1), .int kept1.2.2])), (p4, .inl (cI, 400, .inl kept1.1)), (qt, .inl (cI, 4, .inl ta1))] := hD
    exact ft_reti (p1, p2, p3, p4, (pay1, kept1, br1, bg1, hk1, ta1), es1, ck1, he1, ol1, ne1) hx hb hr hlocks hP hK hD hS (by obtain ⟨a1, a2⟩ := hu_4; show (_, _) = takeC most b _; simp only [takeC, c5, if_true, ↓reduceIte]; rw [← a1]; exact congrArg (Prod.mk _) a2) d_Way_take_13

set_option maxHeartbeats 4000000 in
set_option maxRecDepth 100000 in
theorem c_C_keptSize (l : Launch) (D : va_G) (cI : ClassId) (h q1 q3 q4 qt : Nat) (br bg hk es ck he ol ne : Int32) (kept : RS) (hp2 : kept.2.1 ≤ 400) (sz : Nat) : ft_Mi l y_Way_keptSize (.code y_Way_keptSize b_Way_keptSize 1 (some .int) :: ft_big) ({ frames := 0, cells := 0, slots := 0, locals := 0 }) D [(cI, .int)] sz [.ref h] [(h, .inr (0, [.int 126, .int 0, .ref q1, .ref q3, .int br, .int bg, .int hk, .ref qt, .int es, .int ck, .int he, .int ol, .int ne])), (q3, .inr (3, [.ref q4, .int (nI kept.2.1), .int kept.2.2])), (q4, .inl (cI, 400, .inl kept.1))] (fun (v : Int32) (_ : Unit) => v = latV hk kept) (fun _ => [(h, .inr (0, [.int 126, .int 0, .ref q1, .ref q3, .int br, .int bg, .int hk, .ref qt, .int es, .int ck, .int he, .int ol, .int ne])), (q3, .inr (3, [.ref q4, .int (nI kept.2.1), .int kept.2.2])), (q4, .inl (cI, 400, .inl kept.1))]) 0 0 := by
  refine ft_ei (cc := b_Way_keptSize) (maxL := 1) (ret := (some .int)) (by decide) rfl (Nat.le_of_ble_eq_true rfl) ?_
  intro p e s m below meth c A ls hx hb hr hml hts hown hlocks hmn hP hK hD hA hS hNW hl
  have ht : ∀ w ∈ ft_big, w.before _ s = true := fun w h => hts w (List.mem_cons_of_mem _ h)
  have hP : va_P D vwCl [(h, .inr (0, [.int 126, .int 0, .ref q1, .ref q3, .int br, .int bg, .int hk, .ref qt, .int es, .int ck, .int he, .int ol, .int ne])), (q3, .inr (3, [.ref q4, .int (nI kept.2.1), .int kept.2.2])), (q4, .inl (cI, 400, .inl kept.1))] s.heap := hP
  have hD : va_D A [(h, .inr (0, [.int 126, .int 0, .ref q1, .ref q3, .int br, .int bg, .int hk, .ref qt, .int es, .int ck, .int he, .int ol, .int ne])), (q3, .inr (3, [.ref q4, .int (nI kept.2.1), .int kept.2.2])), (q4, .inl (cI, 400, .inl kept.1))] := hD
  have hl : lv_has ls 1 [(0, .ref h)] := hl
  refine lv_aload_n hx hb d_Way_keptSize_0 rfl (lv_at hl 0 rfl) ?_
  refine va_get (D := D) (ci := 0) (v := .int hk) (C := R_CW) (T := F_CW) (N := 13) hx hb ht bi_CW hown hK hP 0 rfl rfl 6 (by decide) (ht _ bw_108) (fun _ h9 => h9) rfl d_Way_keptSize_1 ?_
  refine lv_if_eq (tgt := 17) hx hb d_Way_keptSize_4 (by decide) (fun c4 => ?_) (fun c4 => ?_)
  · skip
    refine lv_iconst (v := (-1)) hx hb d_Way_keptSize_17 (by decide +kernel) ?_
    exact ft_reti () hx hb hr hlocks hP hK hD hS (by show _ = latV hk kept; simp [latV, c4]) d_Way_keptSize_18
  · skip
    refine lv_aload_n hx hb d_Way_keptSize_7 rfl (lv_at hl 0 rfl) ?_
    refine va_get (D := D) (ci := 0) (v := .ref q3) (C := R_CW) (T := F_CW) (N := 13) hx hb ht bi_CW hown hK hP 0 rfl rfl 3 (by decide) (ht _ bw_100) (fun _ h9 => h9) rfl d_Way_keptSize_8 ?_
    refine va_getN (D := D) (ci := 3) (v := .int (nI kept.2.1)) (C := R_Row) (T := F_Row) (N := 3) hx hb ht bi_Row hown hK hP 1 rfl rfl 1 (by decide) (va_Nw.use rfl (hNW _ bn_63)) (fun _ h9 => h9) rfl d_Way_keptSize_11 ?_
    refine lv_goto (tgt := 18) hx hb d_Way_keptSize_14 (by decide) ?_
    exact ft_reti () hx hb hr hlocks hP hK hD hS (by show _ = latV hk kept; simp [latV, c4]) d_Way_keptSize_18

set_option maxHeartbeats 4000000 in
set_option maxRecDepth 100000 in
theorem c_C_tally (l : Launch) (D : va_G) (cI : ClassId) (h q1 q3 qt : Nat) (br bg hk es ck he ol ne : Int32) (ta : Nat → Int32) (k : Int32) (sz : Nat) : ft_Mi l y_Way_tally (.code y_Way_tally b_Way_tally 2 (some .int) :: ft_big) ({ frames := 0, cells := 0, slots := 0, locals := 0 }) D [(cI, .int)] sz [.ref h, .int k] [(h, .inr (0, [.int 126, .int 0, .ref q1, .ref q3, .int br, .int bg, .int hk, .ref qt, .int es, .int ck, .int he, .int ol, .int ne])), (qt, .inl (cI, 4, .inl ta))] (fun (v : Int32) (_ : Unit) => v = tal ta k) (fun _ => [(h, .inr (0, [.int 126, .int 0, .ref q1, .ref q3, .int br, .int bg, .int hk, .ref qt, .int es, .int ck, .int he, .int ol, .int ne])), (qt, .inl (cI, 4, .inl ta))]) 0 0 := by
  refine ft_ei (cc := b_Way_tally) (maxL := 2) (ret := (some .int)) (by decide) rfl (Nat.le_of_ble_eq_true rfl) ?_
  intro p e s m below meth c A ls hx hb hr hml hts hown hlocks hmn hP hK hD hA hS hNW hl
  have ht : ∀ w ∈ ft_big, w.before _ s = true := fun w h => hts w (List.mem_cons_of_mem _ h)
  have hP : va_P D vwCl [(h, .inr (0, [.int 126, .int 0, .ref q1, .ref q3, .int br, .int bg, .int hk, .ref qt, .int es, .int ck, .int he, .int ol, .int ne])), (qt, .inl (cI, 4, .inl ta))] s.heap := hP
  have hD : va_D A [(h, .inr (0, [.int 126, .int 0, .ref q1, .ref q3, .int br, .int bg, .int hk, .ref qt, .int es, .int ck, .int he, .int ol, .int ne])), (qt, .inl (cI, 4, .inl ta))] := hD
  have hl : lv_has ls 2 [(0, .ref h), (1, .int k)] := hl
  refine lv_iload_n hx hb d_Way_tally_0 rfl (lv_at hl 1 rfl) ?_
  refine lv_iconst (v := 1) hx hb d_Way_tally_1 (by decide +kernel) ?_
  refine lv_icmp_lt (tgt := 19) hx hb d_Way_tally_2 (by decide) (fun c2 => ?_) (fun c2 => ?_)
  · skip
    refine lv_iconst (v := (-1)) hx hb d_Way_tally_19 (by decide +kernel) ?_
    exact ft_reti () hx hb hr hlocks hP hK hD hS (by show _ = tal ta k; simp [tal, c2]) d_Way_tally_20
  · skip
    refine lv_iload_n hx hb d_Way_tally_5 rfl (lv_at hl 1 rfl) ?_
    refine lv_iconst (v := 3) hx hb d_Way_tally_6 (by decide +kernel) ?_
    refine lv_icmp_gt (tgt := 19) hx hb d_Way_tally_7 (by decide) (fun c7 => ?_) (fun c7 => ?_)
    · skip
      refine lv_iconst (v := (-1)) hx hb d_Way_tally_19 (by decide +kernel) ?_
      exact ft_reti () hx hb hr hlocks hP hK hD hS (by show _ = tal ta k; simp [tal, c2, c7]) d_Way_tally_20
    · skip
      refine lv_aload_n hx hb d_Way_tally_10 rfl (lv_at hl 0 rfl) ?_
      refine va_get (D := D) (ci := 0) (v := .ref qt) (C := R_CW) (T := F_CW) (N := 13) hx hb ht bi_CW hown hK hP 0 rfl rfl 7 (by decide) (ht _ bw_109) (fun _ h9 => h9) rfl d_Way_tally_11 ?_
      refine lv_iload_n hx hb d_Way_tally_14 rfl (lv_at hl 1 rfl) ?_
      refine va_iald hx hb hK hP 1 0 rfl rfl (tal_in c2 c7) d_Way_tally_15 ?_
      refine lv_goto (tgt := 20) hx hb d_Way_tally_16 (by decide) ?_
      exact ft_reti () hx hb hr hlocks hP hK hD hS (by show _ = tal ta k; simp [tal, c2, c7]) d_Way_tally_20
