set_option maxHeartbeats 4000000 in
set_option maxRecDepth 100000 in
theorem c_M_groupEnd (l : Launch) (D : va_G) (cI : ClassId) (cB : ClassId) (o mt mo mf mc mm mk mb mu ml mg mx : Nat) (th lim lf fl f1 f2 ck : Int32) (nT nO nF : Nat) (fT : Nat → Int32) (i n : Nat) (hi : i ≤ n) (hn : n ≤ 400) (sz : Nat) : ft_Mi l y_M_groupEnd (.code y_M_groupEnd b_M_groupEnd 4 (some .int) :: ft_big) ({ frames := 0, cells := 0, slots := 0, locals := 0 }) D [(cI, .int), (cB, .boolean)] sz [.ref o, .int (nI i), .int (nI n)] [(o, .inr (5, [.int th, .ref mt, .int (nI nT), .int lim, .ref mo, .int (nI nO), .ref mf, .int (nI nF), .ref mc, .ref mm, .ref mk, .ref mb, .int lf, .int fl, .ref mu, .int f1, .int f2, .int ck, .ref ml, .ref mg, .ref mx])), (mt, .inl (cI, 400, .inl fT))] (fun (v : Int32) (_ : Unit) => ∃ k : Nat, v = nI k ∧ GE fT n i k) (fun _ => [(o, .inr (5, [.int th, .ref mt, .int (nI nT), .int lim, .ref mo, .int (nI nO), .ref mf, .int (nI nF), .ref mc, .ref mm, .ref mk, .ref mb, .int lf, .int fl, .ref mu, .int f1, .int f2, .int ck, .ref ml, .ref mg, .ref mx])), (mt, .inl (cI, 400, .inl fT))]) 0 0 := by
  refine ft_ei (cc := b_M_groupEnd) (maxL := 4) (ret := (some .int)) (by decide) rfl (Nat.le_of_ble_eq_true rfl) ?_
  intro p e s m below meth c A ls hx hb hr hml hts hown hlocks hmn hP hK hD hA hS hNW hl
  have ht : ∀ w ∈ ft_big, w.before _ s = true := fun w h => hts w (List.mem_cons_of_mem _ h)
  have hP : va_P D vwCl [(o, .inr (5, [.int th, .ref mt, .int (nI nT), .int lim, .ref mo, .int (nI nO), .ref mf, .int (nI nF), .ref mc, .ref mm, .ref mk, .ref mb, .int lf, .int fl, .ref mu, .int f1, .int f2, .int ck, .ref ml, .ref mg, .ref mx])), (mt, .inl (cI, 400, .inl fT))] s.heap := hP
  have hD : va_D A [(o, .inr (5, [.int th, .ref mt, .int (nI nT), .int lim, .ref mo, .int (nI nO), .ref mf, .int (nI nF), .ref mc, .ref mm, .ref mk, .ref mb, .int lf, .int fl, .ref mu, .int f1, .int f2, .int ck, .ref ml, .ref mg, .ref mx])), (mt, .inl (cI, 400, .inl fT))] := hD
  have hl : lv_has ls 4 [(0, .ref o), (1, .int (nI i)), (2, .int (nI n))] := hl
  refine lv_iload_n hx hb d_M_groupEnd_0 rfl (lv_at hl 1 rfl) ?_
  refine lv_istore_n (lv' := [(3, .int (nI i)), (0, .ref o), (1, .int (nI i)), (2, .int (nI n))]) hx hb d_M_groupEnd_1 rfl hl (by decide) rfl (fun ls hl => ?_)
  have loop : ∀ (q k : Nat) (ls : Array Slot), k + q = n → i ≤ k → k ≤ n → k - i ≤ 254 → (∀ j, i ≤ j → j < k → ¬ fT j = 0) → lv_has ls 4 [(3, .int (nI k)), (0, .ref o), (1, .int (nI i)), (2, .int (nI n))] → W p l e ({ frames := 0, cells := 0, slots := 0, locals := 0 } : Room) s m ([.ref o, .int (nI i), .int (nI n)] : List Value).toArray below meth c s.heap [] 0 0 (MQ below (va_Qi (fun (v : Int32) (_ : Unit) => ∃ k : Nat, v = nI k ∧ GE fT n i k) (ft_B D vwCl [(cI, .int), (cB, .boolean)] A (fun _ => [(o, .inr (5, [.int th, .ref mt, .int (nI nT), .int lim, .ref mo, .int (nI nO), .ref mf, .int (nI nF), .ref mc, .ref mm, .ref mk, .ref mb, .int lf, .int fl, .ref mu, .int f1, .int f2, .int ck, .ref ml, .ref mg, .ref mx])), (mt, .inl (cI, 400, .inl fT))])) A) ([.ref o, .int (nI i), .int (nI n)] : List Value).toArray s 0 0 A) (F0 m 2 ls []) := by
    intro q
    induction q with
    | zero =>
      intro k ls hk h1 h2 h3 h4 hl
      refine lv_iload_n hx hb d_M_groupEnd_2 rfl (lv_at hl 0 rfl) ?_
      refine lv_iload_n hx hb d_M_groupEnd_3 rfl (lv_at hl 3 rfl) ?_
      refine lv_icmp_ge (tgt := 31) hx hb d_M_groupEnd_4 (by decide) (fun c4 => ?_) (fun c4 => absurd (nI_le (by omega) (by omega)) c4)
      have c4 : n ≤ k := (nI_leI (by omega) (by omega)).mp c4
      refine lv_iload_n hx hb d_M_groupEnd_31 rfl (lv_at hl 0 rfl) ?_
      exact ft_reti () hx hb hr hlocks hP hK hD hS ⟨k, rfl, h1, h2, h3, h4, Or.inl (by omega)⟩ d_M_groupEnd_32
    | succ q ih =>
      intro k ls hk h1 h2 h3 h4 hl
      refine lv_iload_n hx hb d_M_groupEnd_2 rfl (lv_at hl 0 rfl) ?_
      refine lv_iload_n hx hb d_M_groupEnd_3 rfl (lv_at hl 3 rfl) ?_
      refine lv_icmp_ge (tgt := 31) hx hb d_M_groupEnd_4 (by decide) (fun c4 => absurd c4 (nI_ge (by omega) (by omega))) (fun c4 => ?_)
      have c4 : ¬ n ≤ k := fun h => c4 ((nI_leI (by omega) (by omega)).mpr h)
      refine lv_aload_n hx hb d_M_groupEnd_7 rfl (lv_at hl 1 rfl) ?_
      refine va_get (D := D) (ci := 5) (v := .ref mt) (C := R_M) (T := F_M) (N := 21) hx hb ht bi_M hown hK hP 0 rfl rfl 1 (by decide) (ht _ bw_408) (fun _ h9 => h9) rfl d_M_groupEnd_8 ?_
      refine lv_iload_n hx hb d_M_groupEnd_11 rfl (lv_at hl 0 rfl) ?_
      refine va_iald hx hb hK hP 1 0 rfl rfl (vp_in_nI (by omega) (by omega)) d_M_groupEnd_12 ?_
      refine ft_top (congrArg fT (nI_clamp (n := k) (by omega))) ?_
      refine lv_if_eq (tgt := 31) hx hb d_M_groupEnd_13 (by decide) (fun c13 => ?_) (fun c13 => ?_)
      · skip
        refine lv_iload_n hx hb d_M_groupEnd_31 rfl (lv_at hl 0 rfl) ?_
        exact ft_reti () hx hb hr hlocks hP hK hD hS ⟨k, rfl, h1, h2, h3, h4, Or.inr (Or.inl c13)⟩ d_M_groupEnd_32
      · skip
        refine lv_iload_n hx hb d_M_groupEnd_16 rfl (lv_at hl 0 rfl) ?_
        refine lv_iload_n hx hb d_M_groupEnd_17 rfl (lv_at hl 2 rfl) ?_
        refine lv_isub hx hb d_M_groupEnd_18 ?_
        refine ft_top (pk_sub (by omega)) ?_
        refine lv_sipush (v := nI 254) hx hb d_M_groupEnd_19 (by decide +kernel) ?_
        refine lv_icmp_ge (tgt := 31) hx hb d_M_groupEnd_22 (by decide) (fun c22 => ?_) (fun c22 => ?_)
        · skip
          have c22 : 254 ≤ k - i := (nI_leI (by omega) (by omega)).mp c22
          refine lv_iload_n hx hb d_M_groupEnd_31 rfl (lv_at hl 0 rfl) ?_
          exact ft_reti () hx hb hr hlocks hP hK hD hS ⟨k, rfl, h1, h2, h3, h4, Or.inr (Or.inr (by omega))⟩ d_M_groupEnd_32
        · skip
          have c22 : ¬ 254 ≤ k - i := fun h => c22 ((nI_leI (by omega) (by omega)).mpr h)
          refine lv_iinc (v := nI (k + 1)) (lv' := [(3, .int (nI (k + 1))), (0, .ref o), (1, .int (nI i)), (2, .int (nI n))]) hx hb d_M_groupEnd_25 hl (k := 0) rfl (nI_1 k) (by decide) rfl (fun ls hl => ?_)
          refine lv_goto (tgt := 2) hx hb d_M_groupEnd_28 (by decide) ?_
          exact ih (k + 1) ls (by omega) (by omega) (by omega) (by omega) (fun j a b => by rcases Nat.lt_or_ge j k with z | z; exact h4 j a z; rw [show j = k from by omega]; exact c13) (lv_sub hl [0, 1, 2, 3] rfl)
  exact loop (n - i) i ls (by omega) (Nat.le_refl i) hi (by omega) (fun j a b => absurd a (by omega)) (lv_sub hl [0, 1, 2, 3] rfl)

set_option maxHeartbeats 4000000 in
set_option maxRecDepth 100000 in
theorem c_M_written (l : Launch) (D : va_G) (cI : ClassId) (cB : ClassId) (o mt mo mf mc mm mk mb mu ml mg mx : Nat) (th lim lf fl f1 f2 ck : Int32) (nT nO nF : Nat) (sz : Nat) : ft_Mi l y_M_written (.code y_M_written b_M_written 1 (some .int) :: ft_big) ({ frames := 0, cells := 0, slots := 0, locals := 0 }) D [(cI, .int), (cB, .boolean)] sz [.ref o] [(o, .inr (5, [.int th, .ref mt, .int (nI nT), .int lim, .ref mo, .int (nI nO), .ref mf, .int (nI nF), .ref mc, .ref mm, .ref mk, .ref mb, .int lf, .int fl, .ref mu, .int f1, .int f2, .int ck, .ref ml, .ref mg, .ref mx]))] (fun (v : Int32) (_ : Unit) => v = nI nO) (fun _ => [(o, .inr (5, [.int 0, .ref mt, .int (nI nT), .int lim, .ref mo, .int (nI nO), .ref mf, .int (nI nF), .ref mc, .ref mm, .ref mk, .ref mb, .int lf, .int fl, .ref mu, .int f1, .int f2, .int ck, .ref ml, .ref mg, .ref mx]))]) 0 0 := by
  refine ft_ei (cc := b_M_written) (maxL := 1) (ret := (some .int)) (by decide) rfl (Nat.le_of_ble_eq_true rfl) ?_
  intro p e s m below meth c A ls hx hb hr hml hts hown hlocks hmn hP hK hD hA hS hNW hl
  have ht : ∀ w ∈ ft_big, w.before _ s = true := fun w h => hts w (List.mem_cons_of_mem _ h)
  have hP : va_P D vwCl [(o, .inr (5, [.int th, .ref mt, .int (nI nT), .int lim, .ref mo, .int (nI nO), .ref mf, .int (nI nF), .ref mc, .ref mm, .ref mk, .ref mb, .int lf, .int fl, .ref mu, .int f1, .int f2, .int ck, .ref ml, .ref mg, .ref mx]))] s.heap := hP
  have hD : va_D A [(o, .inr (5, [.int th, .ref mt, .int (nI nT), .int lim, .ref mo, .int (nI nO), .ref mf, .int (nI nF), .ref mc, .ref mm, .ref mk, .ref mb, .int lf, .int fl, .ref mu, .int f1, .int f2, .int ck, .ref ml, .ref mg, .ref mx]))] := hD
  have hl : lv_has ls 1 [(0, .ref o)] := hl
  refine lv_aload_n hx hb d_M_written_0 rfl (lv_at hl 0 rfl) ?_
  refine lv_iconst (v := 0) hx hb d_M_written_1 (by decide +kernel) ?_
  refine va_put (D := D) (ci := 5) (v := .int 0) (ty := .int) (C := R_M) (T := F_M) (N := 21) hx hb ht bi_M t_M t_M_ok n_M hown hK hP hD hS 0 rfl rfl 0 (by decide) (ht _ bw_407) (fun _ h9 => h9) rfl (by decide +kernel) rfl rfl (Nat.le_of_ble_eq_true rfl) d_M_written_2 (fun H locs hP hD hS => ?_)
  have hP : va_P D vwCl [(o, .inr (5, [.int 0, .ref mt, .int (nI nT), .int lim, .ref mo, .int (nI nO), .ref mf, .int (nI nF), .ref mc, .ref mm, .ref mk, .ref mb, .int lf, .int fl, .ref mu, .int f1, .int f2, .int ck, .ref ml, .ref mg, .ref mx]))] H := hP
  have hD : va_D A [(o, .inr (5, [.int 0, .ref mt, .int (nI nT), .int lim, .ref mo, .int (nI nO), .ref mf, .int (nI nF), .ref mc, .ref mm, .ref mk, .ref mb, .int lf, .int fl, .ref mu, .int f1, .int f2, .int ck, .ref ml, .ref mg, .ref mx]))] := hD
  refine lv_aload_n hx hb d_M_written_5 rfl (lv_at hl 0 rfl) ?_
  refine va_get (D := D) (ci := 5) (v := .int (nI nO)) (C := R_M) (T := F_M) (N := 21) hx hb ht bi_M hown hK hP 0 rfl rfl 5 (by decide) (ht _ bw_412) (fun _ h9 => h9) rfl d_M_written_6 ?_
  exact ft_reti () hx hb hr hlocks hP hK hD hS rfl d_M_written_9

set_option maxHeartbeats 4000000 in
set_option maxRecDepth 100000 in
theorem c_M_writtenAt (l : Launch) (D : va_G) (cI : ClassId) (cB : ClassId) (o mt mo mf mc mm mk mb mu ml mg mx : Nat) (th lim lf fl f1 f2 ck : Int32) (nT nO nF : Nat) (fO : Nat → Int32) (hO : nO ≤ 2000) (i : Int32) (sz : Nat) : ft_Mi l y_M_writtenAt (.code y_M_writtenAt b_M_writtenAt 2 (some .int) :: ft_big) ({ frames := 0, cells := 0, slots := 0, locals := 0 }) D [(cI, .int), (cB, .boolean)] sz [.ref o, .int i] [(o, .inr (5, [.int th, .ref mt, .int (nI nT), .int lim, .ref mo, .int (nI nO), .ref mf, .int (nI nF), .ref mc, .ref mm, .ref mk, .ref mb, .int lf, .int fl, .ref mu, .int f1, .int f2, .int ck, .ref ml, .ref mg, .ref mx])), (mo, .inl (cI, 2000, .inl fO))] (fun (v : Int32) (_ : Unit) => v = rat (fO, nO, 0) i) (fun _ => [(o, .inr (5, [.int 0, .ref mt, .int (nI nT), .int lim, .ref mo, .int (nI nO), .ref mf, .int (nI nF), .ref mc, .ref mm, .ref mk, .ref mb, .int lf, .int fl, .ref mu, .int f1, .int f2, .int ck, .ref ml, .ref mg, .ref mx])), (mo, .inl (cI, 2000, .inl fO))]) 0 0 := by
  refine ft_ei (cc := b_M_writtenAt) (maxL := 2) (ret := (some .int)) (by decide) rfl (Nat.le_of_ble_eq_true rfl) ?_
  intro p e s m below meth c A ls hx hb hr hml hts hown hlocks hmn hP hK hD hA hS hNW hl
  have ht : ∀ w ∈ ft_big, w.before _ s = true := fun w h => hts w (List.mem_cons_of_mem _ h)
  have hP : va_P D vwCl [(o, .inr (5, [.int th, .ref mt, .int (nI nT), .int lim, .ref mo, .int (nI nO), .ref mf, .int (nI nF), .ref mc, .ref mm, .ref mk, .ref mb, .int lf, .int fl, .ref mu, .int f1, .int f2, .int ck, .ref ml, .ref mg, .ref mx])), (mo, .inl (cI, 2000, .inl fO))] s.heap := hP
  have hD : va_D A [(o, .inr (5, [.int th, .ref mt, .int (nI nT), .int lim, .ref mo, .int (nI nO), .ref mf, .int (nI nF), .ref mc, .ref mm, .ref mk, .ref mb, .int lf, .int fl, .ref mu, .int f1, .int f2, .int ck, .ref ml, .ref mg, .ref mx])), (mo, .inl (cI, 2000, .inl fO))] := hD
  have hl : lv_has ls 2 [(0, .ref o), (1, .int i)] := hl
  refine lv_aload_n hx hb d_M_writtenAt_0 rfl (lv_at hl 0 rfl) ?_
  refine lv_iconst (v := 0) hx hb d_M_writtenAt_1 (by decide +kernel) ?_
  refine va_put (D := D) (ci := 5) (v := .int 0) (ty := .int) (C := R_M) (T := F_M) (N := 21) hx hb ht bi_M t_M t_M_ok n_M hown hK hP hD hS 0 rfl rfl 0 (by decide) (ht _ bw_407) (fun _ h9 => h9) rfl (by decide +kernel) rfl rfl (Nat.le_of_ble_eq_true rfl) d_M_writtenAt_2 (fun H locs hP hD hS => ?_)
  have hP : va_P D vwCl [(o, .inr (5, [.int 0, .ref mt, .int (nI nT), .int lim, .ref mo, .int (nI nO), .ref mf, .int (nI nF), .ref mc, .ref mm, .ref mk, .ref mb, .int lf, .int fl, .ref mu, .int f1, .int f2, .int ck, .ref ml, .ref mg, .ref mx])), (mo, .inl (cI, 2000, .inl fO))] H := hP
  have hD : va_D A [(o, .inr (5, [.int 0, .ref mt, .int (nI nT), .int lim, .ref mo, .int (nI nO), .ref mf, .int (nI nF), .ref mc, .ref mm, .ref mk, .ref mb, .int lf, .int fl, .ref mu, .int f1, .int f2, .int ck, .ref ml, .ref mg, .ref mx])), (mo, .inl (cI, 2000, .inl fO))] := hD
  refine lv_iload_n hx hb d_M_writtenAt_5 rfl (lv_at hl 1 rfl) ?_
  refine lv_if_lt (tgt := 26) hx hb d_M_writtenAt_6 (by decide) (fun c6 => ?_) (fun c6 => ?_)
  · skip
    refine lv_iconst (v := (-1)) hx hb d_M_writtenAt_26 (by decide +kernel) ?_
    exact ft_reti () hx hb hr hlocks hP hK hD hS (by show _ = rat (fO, nO, 0) i; simp [rat, rhas, c6]) d_M_writtenAt_27
  · skip
    refine lv_iload_n hx hb d_M_writtenAt_9 rfl (lv_at hl 1 rfl) ?_
    refine lv_aload_n hx hb d_M_writtenAt_10 rfl (lv_at hl 0 rfl) ?_
    refine va_get (D := D) (ci := 5) (v := .int (nI nO)) (C := R_M) (T := F_M) (N := 21) hx hb ht bi_M hown hK hP 0 rfl rfl 5 (by decide) (ht _ bw_412) (fun _ h9 => h9) rfl d_M_writtenAt_11 ?_
    refine lv_icmp_ge (tgt := 26) hx hb d_M_writtenAt_14 (by decide) (fun c14 => ?_) (fun c14 => ?_)
    · skip
      refine lv_iconst (v := (-1)) hx hb d_M_writtenAt_26 (by decide +kernel) ?_
      exact ft_reti () hx hb hr hlocks hP hK hD hS (by show _ = rat (fO, nO, 0) i; simp [rat, rhas, c6, c14]) d_M_writtenAt_27
    · skip
      refine lv_aload_n hx hb d_M_writtenAt_17 rfl (lv_at hl 0 rfl) ?_
      refine va_get (D := D) (ci := 5) (v := .ref mo) (C := R_M) (T := F_M) (N := 21) hx hb ht bi_M hown hK hP 0 rfl rfl 4 (by decide) (ht _ bw_411) (fun _ h9 => h9) rfl d_M_writtenAt_18 ?_
      refine lv_iload_n hx hb d_M_writtenAt_21 rfl (lv_at hl 1 rfl) ?_
      refine va_iald hx hb hK hP 1 0 rfl rfl (rhas_in (n := nO) (by simp [rhas, c6, c14]) hO (by omega)) d_M_writtenAt_22 ?_
      refine lv_goto (tgt := 27) hx hb d_M_writtenAt_23 (by decide) ?_
      exact ft_reti () hx hb hr hlocks hP hK hD hS (by show _ = rat (fO, nO, 0) i; simp [rat, rhas, c6, c14]) d_M_writtenAt_27

set_option maxHeartbeats 4000000 in
set_option maxRecDepth 100000 in
theorem c_M_spoil (l : Launch) (D : va_G) (cI : ClassId) (cB : ClassId) (o mt mo mf mc mm mk mb mu ml mg mx : Nat) (th lim lf fl f1 f2 ck : Int32) (nT nO nF : Nat) (fO : Nat → Int32) (hO : nO ≤ 2000) (i k : Int32) (sz : Nat) : ft_Mi l y_M_spoil (.code y_M_spoil b_M_spoil 3 (some .boolean) :: ft_big) ({ frames := 0, cells := 0, slots := 0, locals := 0 }) D [(cI, .int), (cB, .boolean)] sz [.ref o, .int i, .int k] [(o, .inr (5, [.int th, .ref mt, .int (nI nT), .int lim, .ref mo, .int (nI nO), .ref mf, .int (nI nF), .ref mc, .ref mm, .ref mk, .ref mb, .int lf, .int fl, .ref mu, .int f1, .int f2, .int ck, .ref ml, .ref mg, .ref mx])), (mo, .inl (cI, 2000, .inl fO))] (fun (v : Int32) (u : Nat → Int32) => v = rhas nO i ∧ u = (rturn (fO, nO, 0) i (k &&& 255)).1) (fun u => [(o, .inr (5, [.int 0, .ref mt, .int (nI nT), .int lim, .ref mo, .int (nI nO), .ref mf, .int (nI nF), .ref mc, .ref mm, .ref mk, .ref mb, .int lf, .int fl, .ref mu, .int f1, .int f2, .int ck, .ref ml, .ref mg, .ref mx])), (mo, .inl (cI, 2000, .inl u))]) 0 0 := by
  refine ft_ei (cc := b_M_spoil) (maxL := 3) (ret := (some .boolean)) (by decide) rfl (Nat.le_of_ble_eq_true rfl) ?_
  intro p e s m below meth c A ls hx hb hr hml hts hown hlocks hmn hP hK hD hA hS hNW hl
  have ht : ∀ w ∈ ft_big, w.before _ s = true := fun w h => hts w (List.mem_cons_of_mem _ h)
  have hP : va_P D vwCl [(o, .inr (5, [.int th, .ref mt, .int (nI nT), .int lim, .ref mo, .int (nI nO), .ref mf, .int (nI nF), .ref mc, .ref mm, .ref mk, .ref mb, .int lf, .int fl, .ref mu, .int f1, .int f2, .int ck, .ref ml, .ref mg, .ref mx])), (mo, .inl (cI, 2000, .inl fO))] s.heap := hP
  have hD : va_D A [(o, .inr (5, [.int th, .ref mt, .int (nI nT), .int lim, .ref mo, .int (nI nO), .ref mf, .int (nI nF), .ref mc, .ref mm, .ref mk, .ref mb, .int lf, .int fl, .ref mu, .int f1, .int f2, .int ck, .ref ml, .ref mg, .ref mx])), (mo, .inl (cI, 2000, .inl fO))] := hD
  have hl : lv_has ls 3 [(0, .ref o), (1, .int i), (2, .int k)] := hl
  refine lv_aload_n hx hb d_M_spoil_0 rfl (lv_at hl 0 rfl) ?_
  refine lv_iconst (v := 0) hx hb d_M_spoil_1 (by decide +kernel) ?_
  refine va_put (D := D) (ci := 5) (v := .int 0) (ty := .int) (C := R_M) (T := F_M) (N := 21) hx hb ht bi_M t_M t_M_ok n_M hown hK hP hD hS 0 rfl rfl 0 (by decide) (ht _ bw_407) (fun _ h9 => h9) rfl (by decide +kernel) rfl rfl (Nat.le_of_ble_eq_true rfl) d_M_spoil_2 (fun H locs hP hD hS => ?_)
  have hP : va_P D vwCl [(o, .inr (5, [.int 0, .ref mt, .int (nI nT), .int lim, .ref mo, .int (nI nO), .ref mf, .int (nI nF), .ref mc, .ref mm, .ref mk, .ref mb, .int lf, .int fl, .ref mu, .int f1, .int f2, .int ck, .ref ml, .ref mg, .ref mx])), (mo, .inl (cI, 2000, .inl fO))] H := hP
  have hD : va_D A [(o, .inr (5, [.int 0, .ref mt, .int (nI nT), .int lim, .ref mo, .int (nI nO), .ref mf, .int (nI nF), .ref mc, .ref mm, .ref mk, .ref mb, .int lf, .int fl, .ref mu, .int f1, .int f2, .int ck, .ref ml, .ref mg, .ref mx])), (mo, .inl (cI, 2000, .inl fO))] := hD
  refine lv_iload_n hx hb d_M_spoil_5 rfl (lv_at hl 1 rfl) ?_
  refine lv_if_lt (tgt := 17) hx hb d_M_spoil_6 (by decide) (fun c6 => ?_) (fun c6 => ?_)
  · skip
    refine lv_iconst (v := 0) hx hb d_M_spoil_17 (by decide +kernel) ?_
    exact ft_retz fO hx hb hr (by decide) hlocks hP hK hD hS (by show (0 : Int32) = rhas nO i ∧ _ = (rturn (fO, nO, 0) i (k &&& 255)).1; simp [rturn, rhas, c6]) d_M_spoil_18
  · skip
    refine lv_iload_n hx hb d_M_spoil_9 rfl (lv_at hl 1 rfl) ?_
    refine lv_aload_n hx hb d_M_spoil_10 rfl (lv_at hl 0 rfl) ?_
    refine va_get (D := D) (ci := 5) (v := .int (nI nO)) (C := R_M) (T := F_M) (N := 21) hx hb ht bi_M hown hK hP 0 rfl rfl 5 (by decide) (ht _ bw_412) (fun _ h9 => h9) rfl d_M_spoil_11 ?_
    refine lv_icmp_lt (tgt := 19) hx hb d_M_spoil_14 (by decide) (fun c14 => ?_) (fun c14 => ?_)
    · skip
      have z14 : ¬ nI nO ≤ i := Int32.not_le.mpr c14
      refine lv_aload_n hx hb d_M_spoil_19 rfl (lv_at hl 0 rfl) ?_
      refine va_get (D := D) (ci := 5) (v := .ref mo) (C := R_M) (T := F_M) (N := 21) hx hb ht bi_M hown hK hP 0 rfl rfl 4 (by decide) (ht _ bw_411) (fun _ h9 => h9) rfl d_M_spoil_20 ?_
      refine lv_iload_n hx hb d_M_spoil_23 rfl (lv_at hl 1 rfl) ?_
      refine lv_aload_n hx hb d_M_spoil_24 rfl (lv_at hl 0 rfl) ?_
      refine va_get (D := D) (ci := 5) (v := .ref mo) (C := R_M) (T := F_M) (N := 21) hx hb ht bi_M hown hK hP 0 rfl rfl 4 (by decide) (ht _ bw_411) (fun _ h9 => h9) rfl d_M_spoil_25 ?_
      refine lv_iload_n hx hb d_M_spoil_28 rfl (lv_at hl 1 rfl) ?_
      refine va_iald hx hb hK hP 1 0 rfl rfl (rhas_in (n := nO) (by simp [rhas, c6, z14]) hO (by omega)) d_M_spoil_29 ?_
      refine lv_iload_n hx hb d_M_spoil_30 rfl (lv_at hl 2 rfl) ?_
      refine lv_sipush (v := 255) hx hb d_M_spoil_31 (by decide +kernel) ?_
      refine lv_iand hx hb d_M_spoil_34 ?_
      refine lv_ixor hx hb d_M_spoil_35 ?_
      refine va_iast hx hb hK hP hD hS 1 0 rfl rfl (rhas_in (n := nO) (by simp [rhas, c6, z14]) hO (by omega)) d_M_spoil_36 (fun H locs hP hD hS => ?_)
      obtain ⟨fO_1, efO_1⟩ : ∃ g : Nat → Int32, g = upd fO i.toNatClampNeg ((fO i.toNatClampNeg) ^^^ (k &&& 255)) := ⟨_, rfl⟩
      rw [← efO_1] at hP hD
      have hP : va_P D vwCl [(o, .inr (5, [.int 0, .ref mt, .int (nI nT), .int lim, .ref mo, .int (nI nO), .ref mf, .int (nI nF), .ref mc, .ref mm, .ref mk, .ref mb, .int lf, .int fl, .ref mu, .int f1, .int f2, .int ck, .ref ml, .ref mg, .ref mx])), (mo, .inl (cI, 2000, .inl fO_1))] H := hP
      have hD : va_D A [(o, .inr (5, [.int 0, .ref mt, .int (nI nT), .int lim, .ref mo, .int (nI nO), .ref mf, .int (nI nF), .ref mc, .ref mm, .ref mk, .ref mb, .int lf, .int fl, .ref mu, .int f1, .int f2, .int ck, .ref ml, .ref mg, .ref mx])), (mo, .inl (cI, 2000, .inl fO_1))] := hD
      refine lv_iconst (v := 1) hx hb d_M_spoil_37 (by decide +kernel) ?_
      exact ft_retz fO_1 hx hb hr (by decide) hlocks hP hK hD hS (by show (1 : Int32) = rhas nO i ∧ _ = (rturn (fO, nO, 0) i (k &&& 255)).1; simp [rturn, rhas, c6, c14, efO_1, z14]) d_M_spoil_38
    · skip
      refine lv_iconst (v := 0) hx hb d_M_spoil_17 (by decide +kernel) ?_
      exact ft_retz fO hx hb hr (by decide) hlocks hP hK hD hS (by show (0 : Int32) = rhas nO i ∧ _ = (rturn (fO, nO, 0) i (k &&& 255)).1; simp [rturn, rhas, c6, c14]) d_M_spoil_18
