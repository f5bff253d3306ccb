set_option maxHeartbeats 4000000 in
set_option maxRecDepth 100000 in
theorem c_M_isWay (l : Launch) (D : va_G) (cI : ClassId) (cB : ClassId) (i : Int32) (sz : Nat) : ft_Mi l y_M_isWay (.code y_M_isWay b_M_isWay 1 (some .boolean) :: ft_big) ({ frames := 0, cells := 0, slots := 0, locals := 0 }) D [(cI, .int), (cB, .boolean)] sz [.int i] [] (fun (v : Int32) (_ : Unit) => isw v i) (fun _ => []) 0 0 := by
  refine ft_ei (cc := b_M_isWay) (maxL := 1) (ret := (some .boolean)) (by decide) rfl (Nat.le_of_ble_eq_true rfl) ?_
  intro p e s m below meth c A ls hx hb hr hml hts hown hlocks hmn hP hK hD hA hS hNW hl
  have ht : ∀ w ∈ ft_big, w.before _ s = true := fun w h => hts w (List.mem_cons_of_mem _ h)
  have hP : va_P D vwCl [] s.heap := hP
  have hD : va_D A [] := hD
  have hl : lv_has ls 1 [(0, .int i)] := hl
  refine lv_iload_n hx hb d_M_isWay_0 rfl (lv_at hl 0 rfl) ?_
  refine lv_if_lt (tgt := 13) hx hb d_M_isWay_1 (by decide) (fun c1 => ?_) (fun c1 => ?_)
  · skip
    refine lv_iconst (v := 0) hx hb d_M_isWay_13 (by decide +kernel) ?_
    exact ft_retz () hx hb hr (by decide) hlocks hP hK hD hS (Or.inr ⟨rfl, isw_out1 c1⟩) d_M_isWay_14
  · skip
    refine lv_iload_n hx hb d_M_isWay_4 rfl (lv_at hl 0 rfl) ?_
    refine lv_iconst (v := 3) hx hb d_M_isWay_5 (by decide +kernel) ?_
    refine lv_icmp_ge (tgt := 13) hx hb d_M_isWay_6 (by decide) (fun c6 => ?_) (fun c6 => ?_)
    · skip
      refine lv_iconst (v := 0) hx hb d_M_isWay_13 (by decide +kernel) ?_
      exact ft_retz () hx hb hr (by decide) hlocks hP hK hD hS (Or.inr ⟨rfl, isw_out2 c1 c6⟩) d_M_isWay_14
    · skip
      refine lv_iconst (v := 1) hx hb d_M_isWay_9 (by decide +kernel) ?_
      refine lv_goto (tgt := 14) hx hb d_M_isWay_10 (by decide) ?_
      exact ft_retz () hx hb hr (by decide) hlocks hP hK hD hS (Or.inl ⟨rfl, isw_in c1 c6⟩) d_M_isWay_14

set_option maxHeartbeats 4000000 in
set_option maxRecDepth 100000 in
theorem c_M_put (l : Launch) (D : va_G) (cI : ClassId) (cB : ClassId) (o mt mo mf mc mm mk mb mu ml mg mx : Nat) (th lim lf fl f1 f2 ck : Int32) (nT nO nF : Nat) (fT : Nat → Int32) (hT : nT + 4 ≤ 400) (v : Int32) (sz : Nat) : ft_Mv l y_M_put (.code y_M_put b_M_put 3 none :: ft_big) ({ frames := 0, cells := 0, slots := 0, locals := 0 }) D [(cI, .int), (cB, .boolean)] sz [.ref o, .int v] [(o, .inr (5, [.int th, .ref mt, .int (nI nT), .int lim, .ref mo, .int (nI nO), .ref mf, .int (nI nF), .ref mc, .ref mm, .ref mk, .ref mb, .int lf, .int fl, .ref mu, .int f1, .int f2, .int ck, .ref ml, .ref mg, .ref mx])), (mt, .inl (cI, 400, .inl fT))] (fun u : AS => u = asays (fT, nT) (by4M v)) (fun u : AS => [(o, .inr (5, [.int th, .ref mt, .int (nI u.2), .int lim, .ref mo, .int (nI nO), .ref mf, .int (nI nF), .ref mc, .ref mm, .ref mk, .ref mb, .int lf, .int fl, .ref mu, .int f1, .int f2, .int ck, .ref ml, .ref mg, .ref mx])), (mt, .inl (cI, 400, .inl u.1))]) 0 0 := by
  refine ft_ev (cc := b_M_put) (maxL := 3) (ret := none) (by decide) rfl (Nat.le_of_ble_eq_true rfl) ?_
  intro p e s m below meth c A ls hx hb hr hml hts hown hlocks hmn hP hK hD hA hS hNW hl
  have ht : ∀ w ∈ ft_big, w.before _ s = true := fun w h => hts w (List.mem_cons_of_mem _ h)
  have hP : va_P D vwCl [(o, .inr (5, [.int th, .ref mt, .int (nI nT), .int lim, .ref mo, .int (nI nO), .ref mf, .int (nI nF), .ref mc, .ref mm, .ref mk, .ref mb, .int lf, .int fl, .ref mu, .int f1, .int f2, .int ck, .ref ml, .ref mg, .ref mx])), (mt, .inl (cI, 400, .inl fT))] s.heap := hP
  have hD : va_D A [(o, .inr (5, [.int th, .ref mt, .int (nI nT), .int lim, .ref mo, .int (nI nO), .ref mf, .int (nI nF), .ref mc, .ref mm, .ref mk, .ref mb, .int lf, .int fl, .ref mu, .int f1, .int f2, .int ck, .ref ml, .ref mg, .ref mx])), (mt, .inl (cI, 400, .inl fT))] := hD
  have hl : lv_has ls 3 [(0, .ref o), (1, .int v)] := hl
  refine lv_bipush (v := 24) hx hb d_M_put_0 (by decide +kernel) ?_
  refine lv_istore_n (lv' := [(2, .int 24), (0, .ref o), (1, .int v)]) hx hb d_M_put_2 rfl hl (by decide) rfl (fun ls hl => ?_)
  refine lv_iload_n hx hb d_M_put_3 rfl (lv_at hl 0 rfl) ?_
  refine lv_if_lt (tgt := 39) hx hb d_M_put_4 (by decide) (fun c4 => absurd c4 (by decide)) (fun _ => ?_)
  refine lv_aload_n hx hb d_M_put_7 rfl (lv_at hl 1 rfl) ?_
  refine va_get (D := D) (ci := 5) (v := .ref mt) (C := R_M) (T := F_M) (N := 21) hx hb ht bi_M hown hK hP 0 rfl rfl 1 (by decide) (ht _ bw_408) (fun _ h9 => h9) rfl d_M_put_8 ?_
  refine lv_aload_n hx hb d_M_put_11 rfl (lv_at hl 1 rfl) ?_
  refine va_get (D := D) (ci := 5) (v := .int (nI nT)) (C := R_M) (T := F_M) (N := 21) hx hb ht bi_M hown hK hP 0 rfl rfl 2 (by decide) (ht _ bw_409) (fun _ h9 => h9) rfl d_M_put_12 ?_
  refine lv_iload_n hx hb d_M_put_15 rfl (lv_at hl 2 rfl) ?_
  refine lv_iload_n hx hb d_M_put_16 rfl (lv_at hl 0 rfl) ?_
  refine lv_ishr hx hb d_M_put_17 ?_
  refine lv_sipush (v := 255) hx hb d_M_put_18 (by decide +kernel) ?_
  refine lv_iand hx hb d_M_put_21 ?_
  refine va_iast hx hb hK hP hD hS 1 0 rfl rfl (vp_in_nI (by omega) (by omega)) d_M_put_22 (fun H locs hP hD hS => ?_)
  rw [nI_clamp (n := nT) (by omega)] at hP hD
  obtain ⟨fT_1, efT_1⟩ : ∃ g : Nat → Int32, g = upd fT nT ((v >>> ((24 : Int32) &&& 31)) &&& 255) := ⟨_, rfl⟩
  rw [← efT_1] at hP hD
  have hP : va_P D vwCl [(o, .inr (5, [.int th, .ref mt, .int (nI nT), .int lim, .ref mo, .int (nI nO), .ref mf, .int (nI nF), .ref mc, .ref mm, .ref mk, .ref mb, .int lf, .int fl, .ref mu, .int f1, .int f2, .int ck, .ref ml, .ref mg, .ref mx])), (mt, .inl (cI, 400, .inl fT_1))] H := hP
  have hD : va_D A [(o, .inr (5, [.int th, .ref mt, .int (nI nT), .int lim, .ref mo, .int (nI nO), .ref mf, .int (nI nF), .ref mc, .ref mm, .ref mk, .ref mb, .int lf, .int fl, .ref mu, .int f1, .int f2, .int ck, .ref ml, .ref mg, .ref mx])), (mt, .inl (cI, 400, .inl fT_1))] := hD
  refine lv_aload_n hx hb d_M_put_23 rfl (lv_at hl 1 rfl) ?_
  refine lv_dup hx hb d_M_put_24 rfl ?_
  refine va_get (D := D) (ci := 5) (v := .int (nI nT)) (C := R_M) (T := F_M) (N := 21) hx hb ht bi_M hown hK hP 0 rfl rfl 2 (by decide) (ht _ bw_409) (fun _ h9 => h9) rfl d_M_put_25 ?_
  refine lv_iconst (v := 1) hx hb d_M_put_28 (by decide +kernel) ?_
  refine lv_iadd hx hb d_M_put_29 ?_
  refine ft_top (nI_1 nT) ?_
  refine va_put (D := D) (ci := 5) (v := .int (nI (nT + 1))) (ty := .int) (C := R_M) (T := F_M) (N := 21) hx hb ht bi_M t_M t_M_ok n_M hown hK hP hD hS 0 rfl rfl 2 (by decide) (ht _ bw_409) (fun _ h9 => h9) rfl (by decide +kernel) rfl rfl (Nat.le_of_ble_eq_true rfl) d_M_put_30 (fun H locs hP hD hS => ?_)
  have hP : va_P D vwCl [(o, .inr (5, [.int th, .ref mt, .int (nI (nT + 1)), .int lim, .ref mo, .int (nI nO), .ref mf, .int (nI nF), .ref mc, .ref mm, .ref mk, .ref mb, .int lf, .int fl, .ref mu, .int f1, .int f2, .int ck, .ref ml, .ref mg, .ref mx])), (mt, .inl (cI, 400, .inl fT_1))] H := hP
  have hD : va_D A [(o, .inr (5, [.int th, .ref mt, .int (nI (nT + 1)), .int lim, .ref mo, .int (nI nO), .ref mf, .int (nI nF), .ref mc, .ref mm, .ref mk, .ref mb, .int lf, .int fl, .ref mu, .int f1, .int f2, .int ck, .ref ml, .ref mg, .ref mx])), (mt, .inl (cI, 400, .inl fT_1))] := hD
  refine lv_iinc (v := 16) (lv' := [(2, .int 16), (0, .ref o), (1, .int v)]) hx hb d_M_put_33 hl (k := 0) rfl (by decide +kernel) (by decide) rfl (fun ls hl => ?_)
  refine lv_goto (tgt := 3) hx hb d_M_put_36 (by decide) ?_
  refine lv_iload_n hx hb d_M_put_3 rfl (lv_at hl 0 rfl) ?_
  refine lv_if_lt (tgt := 39) hx hb d_M_put_4 (by decide) (fun c4 => absurd c4 (by decide)) (fun _ => ?_)
  refine lv_aload_n hx hb d_M_put_7 rfl (lv_at hl 1 rfl) ?_
  refine va_get (D := D) (ci := 5) (v := .ref mt) (C := R_M) (T := F_M) (N := 21) hx hb ht bi_M hown hK hP 0 rfl rfl 1 (by decide) (ht _ bw_408) (fun _ h9 => h9) rfl d_M_put_8 ?_
  refine lv_aload_n hx hb d_M_put_11 rfl (lv_at hl 1 rfl) ?_
  refine va_get (D := D) (ci := 5) (v := .int (nI (nT + 1))) (C := R_M) (T := F_M) (N := 21) hx hb ht bi_M hown hK hP 0 rfl rfl 2 (by decide) (ht _ bw_409) (fun _ h9 => h9) rfl d_M_put_12 ?_
  refine lv_iload_n hx hb d_M_put_15 rfl (lv_at hl 2 rfl) ?_
  refine lv_iload_n hx hb d_M_put_16 rfl (lv_at hl 0 rfl) ?_
  refine lv_ishr hx hb d_M_put_17 ?_
  refine lv_sipush (v := 255) hx hb d_M_put_18 (by decide +kernel) ?_
  refine lv_iand hx hb d_M_put_21 ?_
  refine va_iast hx hb hK hP hD hS 1 0 rfl rfl (vp_in_nI (by omega) (by omega)) d_M_put_22 (fun H locs hP hD hS => ?_)
  rw [nI_clamp (n := nT + 1) (by omega)] at hP hD
  obtain ⟨fT_2, efT_2⟩ : ∃ g : Nat → Int32, g = upd fT_1 (nT + 1) ((v >>> ((16 : Int32) &&& 31)) &&& 255) := ⟨_, rfl⟩
  rw [← efT_2] at hP hD
  have hP : va_P D vwCl [(o, .inr (5, [.int th, .ref mt, .int (nI (nT + 1)), .int lim, .ref mo, .int (nI nO), .ref mf, .int (nI nF), .ref mc, .ref mm, .ref mk, .ref mb, .int lf, .int fl, .ref mu, .int f1, .int f2, .int ck, .ref ml, .ref mg, .ref mx])), (mt, .inl (cI, 400, .inl fT_2))] H := hP
  have hD : va_D A [(o, .inr (5, [.int th, .ref mt, .int (nI (nT + 1)), .int lim, .ref mo, .int (nI nO), .ref mf, .int (nI nF), .ref mc, .ref mm, .ref mk, .ref mb, .int lf, .int fl, .ref mu, .int f1, .int f2, .int ck, .ref ml, .ref mg, .ref mx])), (mt, .inl (cI, 400, .inl fT_2))] := hD
  refine lv_aload_n hx hb d_M_put_23 rfl (lv_at hl 1 rfl) ?_
  refine lv_dup hx hb d_M_put_24 rfl ?_
  refine va_get (D := D) (ci := 5) (v := .int (nI (nT + 1))) (C := R_M) (T := F_M) (N := 21) hx hb ht bi_M hown hK hP 0 rfl rfl 2 (by decide) (ht _ bw_409) (fun _ h9 => h9) rfl d_M_put_25 ?_
  refine lv_iconst (v := 1) hx hb d_M_put_28 (by decide +kernel) ?_
  refine lv_iadd hx hb d_M_put_29 ?_
  refine ft_top (nI_1 (nT + 1)) ?_
  refine va_put (D := D) (ci := 5) (v := .int (nI (nT + 1 + 1))) (ty := .int) (C := R_M) (T := F_M) (N := 21) hx hb ht bi_M t_M t_M_ok n_M hown hK hP hD hS 0 rfl rfl 2 (by decide) (ht _ bw_409) (fun _ h9 => h9) rfl (by decide +kernel) rfl rfl (Nat.le_of_ble_eq_true rfl) d_M_put_30 (fun H locs hP hD hS => ?_)
  have hP : va_P D vwCl [(o, .inr (5, [.int th, .ref mt, .int (nI (nT + 1 + 1)), .int lim, .ref mo, .int (nI nO), .ref mf, .int (nI nF), .ref mc, .ref mm, .ref mk, .ref mb, .int lf, .int fl, .ref mu, .int f1, .int f2, .int ck, .ref ml, .ref mg, .ref mx])), (mt, .inl (cI, 400, .inl fT_2))] H := hP
  have hD : va_D A [(o, .inr (5, [.int th, .ref mt, .int (nI (nT + 1 + 1)), .int lim, .ref mo, .int (nI nO), .ref mf, .int (nI nF), .ref mc, .ref mm, .ref mk, .ref mb, .int lf, .int fl, .ref mu, .int f1, .int f2, .int ck, .ref ml, .ref mg, .ref mx])), (mt, .inl (cI, 400, .inl fT_2))] := hD
  refine lv_iinc (v := 8) (lv' := [(2, .int 8), (0, .ref o), (1, .int v)]) hx hb d_M_put_33 hl (k := 0) rfl (by decide +kernel) (by decide) rfl (fun ls hl => ?_)
  refine lv_goto (tgt := 3) hx hb d_M_put_36 (by decide) ?_
  refine lv_iload_n hx hb d_M_put_3 rfl (lv_at hl 0 rfl) ?_
  refine lv_if_lt (tgt := 39) hx hb d_M_put_4 (by decide) (fun c4 => absurd c4 (by decide)) (fun _ => ?_)
  refine lv_aload_n hx hb d_M_put_7 rfl (lv_at hl 1 rfl) ?_
  refine va_get (D := D) (ci := 5) (v := .ref mt) (C := R_M) (T := F_M) (N := 21) hx hb ht bi_M hown hK hP 0 rfl rfl 1 (by decide) (ht _ bw_408) (fun _ h9 => h9) rfl d_M_put_8 ?_
  refine lv_aload_n hx hb d_M_put_11 rfl (lv_at hl 1 rfl) ?_
  refine va_get (D := D) (ci := 5) (v := .int (nI (nT + 1 + 1))) (C := R_M) (T := F_M) (N := 21) hx hb ht bi_M hown hK hP 0 rfl rfl 2 (by decide) (ht _ bw_409) (fun _ h9 => h9) rfl d_M_put_12 ?_
  refine lv_iload_n hx hb d_M_put_15 rfl (lv_at hl 2 rfl) ?_
  refine lv_iload_n hx hb d_M_put_16 rfl (lv_at hl 0 rfl) ?_
  refine lv_ishr hx hb d_M_put_17 ?_
  refine lv_sipush (v := 255) hx hb d_M_put_18 (by decide +kernel) ?_
  refine lv_iand hx hb d_M_put_21 ?_
  refine va_iast hx hb hK hP hD hS 1 0 rfl rfl (vp_in_nI (by omega) (by omega)) d_M_put_22 (fun H locs hP hD hS => ?_)
  rw [nI_clamp (n := nT + 1 + 1) (by omega)] at hP hD
  obtain ⟨fT_3, efT_3⟩ : ∃ g : Nat → Int32, g = upd fT_2 (nT + 1 + 1) ((v >>> ((8 : Int32) &&& 31)) &&& 255) := ⟨_, rfl⟩
  rw [← efT_3] at hP hD
  have hP : va_P D vwCl [(o, .inr (5, [.int th, .ref mt, .int (nI (nT + 1 + 1)), .int lim, .ref mo, .int (nI nO), .ref mf, .int (nI nF), .ref mc, .ref mm, .ref mk, .ref mb, .int lf, .int fl, .ref mu, .int f1, .int f2, .int ck, .ref ml, .ref mg, .ref mx])), (mt, .inl (cI, 400, .inl fT_3))] H := hP
  have hD : va_D A [(o, .inr (5, [.int th, .ref mt, .int (nI (nT + 1 + 1)), .int lim, .ref mo, .int (nI nO), .ref mf, .int (nI nF), .ref mc, .ref mm, .ref mk, .ref mb, .int lf, .int fl, .ref mu, .int f1, .int f2, .int ck, .ref ml, .ref mg, .ref mx])), (mt, .inl (cI, 400, .inl fT_3))] := hD
  refine lv_aload_n hx hb d_M_put_23 rfl (lv_at hl 1 rfl) ?_
  refine lv_dup hx hb d_M_put_24 rfl ?_
  refine va_get (D := D) (ci := 5) (v := .int (nI (nT + 1 + 1))) (C := R_M) (T := F_M) (N := 21) hx hb ht bi_M hown hK hP 0 rfl rfl 2 (by decide) (ht _ bw_409) (fun _ h9 => h9) rfl d_M_put_25 ?_
  refine lv_iconst (v := 1) hx hb d_M_put_28 (by decide +kernel) ?_
  refine lv_iadd hx hb d_M_put_29 ?_
  refine ft_top (nI_1 (nT + 1 + 1)) ?_
  refine va_put (D := D) (ci := 5) (v := .int (nI (nT + 1 + 1 + 1))) (ty := .int) (C := R_M) (T := F_M) (N := 21) hx hb ht bi_M t_M t_M_ok n_M hown hK hP hD hS 0 rfl rfl 2 (by decide) (ht _ bw_409) (fun _ h9 => h9) rfl (by decide +kernel) rfl rfl (Nat.le_of_ble_eq_true rfl) d_M_put_30 (fun H locs hP hD hS => ?_)
  have hP : va_P D vwCl [(o, .inr (5, [.int th, .ref mt, .int (nI (nT + 1 + 1 + 1)), .int lim, .ref mo, .int (nI nO), .ref mf, .int (nI nF), .ref mc, .ref mm, .ref mk, .ref mb, .int lf, .int fl, .ref mu, .int f1, .int f2, .int ck, .ref ml, .ref mg, .ref mx])), (mt, .inl (cI, 400, .inl fT_3))] H := hP
  have hD : va_D A [(o, .inr (5, [.int th, .ref mt, .int (nI (nT + 1 + 1 + 1)), .int lim, .ref mo, .int (nI nO), .ref mf, .int (nI nF), .ref mc, .ref mm, .ref mk, .ref mb, .int lf, .int fl, .ref mu, .int f1, .int f2, .int ck, .ref ml, .ref mg, .ref mx])), (mt, .inl (cI, 400, .inl fT_3))] := hD
  refine lv_iinc (v := 0) (lv' := [(2, .int 0), (0, .ref o), (1, .int v)]) hx hb d_M_put_33 hl (k := 0) rfl (by decide +kernel) (by decide) rfl (fun ls hl => ?_)
  refine lv_goto (tgt := 3) hx hb d_M_put_36 (by decide) ?_
  refine lv_iload_n hx hb d_M_put_3 rfl (lv_at hl 0 rfl) ?_
  refine lv_if_lt (tgt := 39) hx hb d_M_put_4 (by decide) (fun c4 => absurd c4 (by decide)) (fun _ => ?_)
  refine lv_aload_n hx hb d_M_put_7 rfl (lv_at hl 1 rfl) ?_
  refine va_get (D := D) (ci := 5) (v := .ref mt) (C := R_M) (T := F_M) (N := 21) hx hb ht bi_M hown hK hP 0 rfl rfl 1 (by decide) (ht _ bw_408) (fun _ h9 => h9) rfl d_M_put_8 ?_
  refine lv_aload_n hx hb d_M_put_11 rfl (lv_at hl 1 rfl) ?_
  refine va_get (D := D) (ci := 5) (v := .int (nI (nT + 1 + 1 + 1))) (C := R_M) (T := F_M) (N := 21) hx hb ht bi_M hown hK hP 0 rfl rfl 2 (by decide) (ht _ bw_409) (fun _ h9 => h9) rfl d_M_put_12 ?_
  refine lv_iload_n hx hb d_M_put_15 rfl (lv_at hl 2 rfl) ?_
  refine lv_iload_n hx hb d_M_put_16 rfl (lv_at hl 0 rfl) ?_
  refine lv_ishr hx hb d_M_put_17 ?_
  refine lv_sipush (v := 255) hx hb d_M_put_18 (by decide +kernel) ?_
  refine lv_iand hx hb d_M_put_21 ?_
  refine va_iast hx hb hK hP hD hS 1 0 rfl rfl (vp_in_nI (by omega) (by omega)) d_M_put_22 (fun H locs hP hD hS => ?_)
  rw [nI_clamp (n := nT + 1 + 1 + 1) (by omega)] at hP hD
  obtain ⟨fT_4, efT_4⟩ : ∃ g : Nat → Int32, g = upd fT_3 (nT + 1 + 1 + 1) ((v >>> ((0 : Int32) &&& 31)) &&& 255) := ⟨_, rfl⟩
  rw [← efT_4] at hP hD
  have hP : va_P D vwCl [(o, .inr (5, [.int th, .ref mt, .int (nI (nT + 1 + 1 + 1)), .int lim, .ref mo, .int (nI nO), .ref mf, .int (nI nF), .ref mc, .ref mm, .ref mk, .ref mb, .int lf, .int fl, .ref mu, .int f1, .int f2, .int ck, .ref ml, .ref mg, .ref mx])), (mt, .inl (cI, 400, .inl fT_4))] H := hP
  have hD : va_D A [(o, .inr (5, [.int th, .ref mt, .int (nI (nT + 1 + 1 + 1)), .int lim, .ref mo, .int (nI nO), .ref mf, .int (nI nF), .ref mc, .ref mm, .ref mk, .ref mb, .int lf, .int fl, .ref mu, .int f1, .int f2, .int ck, .ref ml, .ref mg, .ref mx])), (mt, .inl (cI, 400, .inl fT_4))] := hD
  refine lv_aload_n hx hb d_M_put_23 rfl (lv_at hl 1 rfl) ?_
  refine lv_dup hx hb d_M_put_24 rfl ?_
  refine va_get (D := D) (ci := 5) (v := .int (nI (nT + 1 + 1 + 1))) (C := R_M) (T := F_M) (N := 21) hx hb ht bi_M hown hK hP 0 rfl rfl 2 (by decide) (ht _ bw_409) (fun _ h9 => h9) rfl d_M_put_25 ?_
  refine lv_iconst (v := 1) hx hb d_M_put_28 (by decide +kernel) ?_
  refine lv_iadd hx hb d_M_put_29 ?_
  refine ft_top (nI_1 (nT + 1 + 1 + 1)) ?_
  refine va_put (D := D) (ci := 5) (v := .int (nI (nT + 1 + 1 + 1 + 1))) (ty := .int) (C := R_M) (T := F_M) (N := 21) hx hb ht bi_M t_M t_M_ok n_M hown hK hP hD hS 0 rfl rfl 2 (by decide) (ht _ bw_409) (fun _ h9 => h9) rfl (by decide +kernel) rfl rfl (Nat.le_of_ble_eq_true rfl) d_M_put_30 (fun H locs hP hD hS => ?_)
  have hP : va_P D vwCl [(o, .inr (5, [.int th, .ref mt, .int (nI (nT + 1 + 1 + 1 + 1)), .int lim, .ref mo, .int (nI nO), .ref mf, .int (nI nF), .ref mc, .ref mm, .ref mk, .ref mb, .int lf, .int fl, .ref mu, .int f1, .int f2, .int ck, .ref ml, .ref mg, .ref mx])), (mt, .inl (cI, 400, .inl fT_4))] H := hP
  have hD : va_D A [(o, .inr (5, [.int th, .ref mt, .int (nI (nT + 1 + 1 + 1 + 1)), .int lim, .ref mo, .int (nI nO), .ref mf, .int (nI nF), .ref mc, .ref mm, .ref mk, .ref mb, .int lf, .int fl, .ref mu, .int f1, .int f2, .int ck, .ref ml, .ref mg, .ref mx])), (mt, .inl (cI, 400, .inl fT_4))] := hD
  refine lv_iinc (v := (-8)) (lv' := [(2, .int (-8)), (0, .ref o), (1, .int v)]) hx hb d_M_put_33 hl (k := 0) rfl (by decide +kernel) (by decide) rfl (fun ls hl => ?_)
  refine lv_goto (tgt := 3) hx hb d_M_put_36 (by decide) ?_
  refine lv_iload_n hx hb d_M_put_3 rfl (lv_at hl 0 rfl) ?_
  refine lv_if_lt (tgt := 39) hx hb d_M_put_4 (by decide) (fun _ => ?_) (fun c4 => absurd (by decide) c4)
  exact ft_retv (fT_4, nT + 1 + 1 + 1 + 1) hx hb hr hlocks hP hK hD hS (by show _ = asays (fT, nT) (by4M v); simp [asays, asay, by4M, efT_1, efT_2, efT_3, efT_4]) d_M_put_39

set_option maxHeartbeats 4000000 in
set_option maxRecDepth 100000 in
theorem c_M_feed (l : Launch) (D : va_G) (cI : ClassId) (cB : ClassId) (o mt mo mf mc mm mk mb mu ml mg mx : Nat) (th lim lf fl f1 f2 ck : Int32) (nT nO nF : Nat) (fT : Nat → Int32) (hT : nT ≤ 400) (a b c' d e' : Int32) (sz : Nat) : ft_Mi l y_M_feed (.code y_M_feed b_M_feed 6 (some .boolean) :: ft_big) ({ frames := 1, cells := 0, slots := 0, locals := 30 }) D [(cI, .int), (cB, .boolean)] sz [.ref o, .int a, .int b, .int c', .int d, .int e'] [(o, .inr (5, [.int th, .ref mt, .int (nI nT), .int lim, .ref mo, .int (nI nO), .ref mf, .int (nI nF), .ref mc, .ref mm, .ref mk, .ref mb, .int lf, .int fl, .ref mu, .int f1, .int f2, .int ck, .ref ml, .ref mg, .ref mx])), (mt, .inl (cI, 400, .inl fT))] (fun (v : Int32) (u : AS) => (v, u) = feedM (fT, nT) a b c' d e') (fun u : AS => [(o, .inr (5, [.int 0, .ref mt, .int (nI u.2), .int lim, .ref mo, .int (nI nO), .ref mf, .int (nI nF), .ref mc, .ref mm, .ref mk, .ref mb, .int lf, .int fl, .ref mu, .int f1, .int f2, .int ck, .ref ml, .ref mg, .ref mx])), (mt, .inl (cI, 400, .inl u.1))]) 0 0 := by
  refine ft_ei (cc := b_M_feed) (maxL := 6) (ret := (some .boolean)) (by decide) rfl (Nat.le_of_ble_eq_true rfl) ?_
  intro p e s m below meth c A ls hx hb hr hml hts hown hlocks hmn hP hK hD hA hS hNW hl
  have ht : ∀ w ∈ ft_big, w.before _ s = true := fun w h => hts w (List.mem_cons_of_mem _ h)
  have hP : va_P D vwCl [(o, .inr (5, [.int th, .ref mt, .int (nI nT), .int lim, .ref mo, .int (nI nO), .ref mf, .int (nI nF), .ref mc, .ref mm, .ref mk, .ref mb, .int lf, .int fl, .ref mu, .int f1, .int f2, .int ck, .ref ml, .ref mg, .ref mx])), (mt, .inl (cI, 400, .inl fT))] s.heap := hP
  have hD : va_D A [(o, .inr (5, [.int th, .ref mt, .int (nI nT), .int lim, .ref mo, .int (nI nO), .ref mf, .int (nI nF), .ref mc, .ref mm, .ref mk, .ref mb, .int lf, .int fl, .ref mu, .int f1, .int f2, .int ck, .ref ml, .ref mg, .ref mx])), (mt, .inl (cI, 400, .inl fT))] := hD
  have hl : lv_has ls 6 [(0, .ref o), (1, .int a), (2, .int b), (3, .int c'), (4, .int d), (5, .int e')] := hl
  refine lv_aload_n hx hb d_M_feed_0 rfl (lv_at hl 0 rfl) ?_
  refine lv_iconst (v := 0) hx hb d_M_feed_1 (by decide +kernel) ?_
  refine va_put (D := D) (ci := 5) (v := .int 0) (ty := .int) (C := R_M) (T := F_M) (N := 21) hx hb ht bi_M t_M t_M_ok n_M hown hK hP hD hS 0 rfl rfl 0 (by decide) (ht _ bw_407) (fun _ h9 => h9) rfl (by decide +kernel) rfl rfl (Nat.le_of_ble_eq_true rfl) d_M_feed_2 (fun H locs hP hD hS => ?_)
  have hP : va_P D vwCl [(o, .inr (5, [.int 0, .ref mt, .int (nI nT), .int lim, .ref mo, .int (nI nO), .ref mf, .int (nI nF), .ref mc, .ref mm, .ref mk, .ref mb, .int lf, .int fl, .ref mu, .int f1, .int f2, .int ck, .ref ml, .ref mg, .ref mx])), (mt, .inl (cI, 400, .inl fT))] H := hP
  have hD : va_D A [(o, .inr (5, [.int 0, .ref mt, .int (nI nT), .int lim, .ref mo, .int (nI nO), .ref mf, .int (nI nF), .ref mc, .ref mm, .ref mk, .ref mb, .int lf, .int fl, .ref mu, .int f1, .int f2, .int ck, .ref ml, .ref mg, .ref mx])), (mt, .inl (cI, 400, .inl fT))] := hD
  refine lv_aload_n hx hb d_M_feed_5 rfl (lv_at hl 0 rfl) ?_
  refine va_get (D := D) (ci := 5) (v := .int (nI nT)) (C := R_M) (T := F_M) (N := 21) hx hb ht bi_M hown hK hP 0 rfl rfl 2 (by decide) (ht _ bw_409) (fun _ h9 => h9) rfl d_M_feed_6 ?_
  refine lv_bipush (v := nI 20) hx hb d_M_feed_9 (by decide +kernel) ?_
  refine lv_iadd hx hb d_M_feed_11 ?_
  refine ft_top (nI_add nT 20) ?_
  refine lv_sipush (v := nI 400) hx hb d_M_feed_12 (by decide +kernel) ?_
  refine lv_icmp_le (tgt := 20) hx hb d_M_feed_15 (by decide) (fun c15 => ?_) (fun c15 => ?_)
  · skip
    have c15 : nT + 20 ≤ 400 := (nI_leI (by omega) (by omega)).mp c15
    refine lv_aload_n hx hb d_M_feed_20 rfl (lv_at hl 0 rfl) ?_
    refine lv_iload_n hx hb d_M_feed_21 rfl (lv_at hl 1 rfl) ?_
    refine ft_cv (wc := [(o, .inr (5, [.int 0, .ref mt, .int (nI nT), .int lim, .ref mo, .int (nI nO), .ref mf, .int (nI nF), .ref mc, .ref mm, .ref mk, .ref mb, .int lf, .int fl, .ref mu, .int f1, .int f2, .int ck, .ref ml, .ref mg, .ref mx])), (mt, .inl (cI, 400, .inl fT))]) (wr := []) (va_runV (As := [.int a]) (rest := []) ⟨hx, hb, hml, hown, ht⟩ (c_M_put l D cI cB o mt mo mf mc mm mk mb mu ml mg mx 0 lim lf fl f1 f2 ck nT nO nF fT (by omega) a H.size) (ft_cwV 1 ht bw_476 bw_478 bw_18 bw_39 bw_479 (by decide) ⟨Nat.le_of_ble_eq_true rfl, Nat.le_of_ble_eq_true rfl⟩) ⟨ft_blind, va_recv hK hP (ci := 5) (q0 := 0) rfl rfl, (ft_pre hP hD hK hNW [0, 1] [0, 1] rfl rfl (by decide) rfl _)⟩ rfl rfl hl.1 rfl (lv_room (Nat.le_of_ble_eq_true rfl)) d_M_feed_22 ⟨Nat.le_of_ble_eq_true rfl, Nat.le_of_ble_eq_true rfl⟩) hP hD hS hA [0, 1] [] rfl rfl (by decide) (by decide) (fun u_2 H locs hu_2 hP hD hS => ?_)
    obtain ⟨fT1, nT1⟩ := u_2
    have e_n1 : nT1 = nT + 4 := by
      have q := congrArg Prod.snd hu_2
      rw [asays_n] at q
      have q2 : nT1 = nT + 4 := q
      omega
    have hP : va_P D vwCl [(o, .inr (5, [.int 0, .ref mt, .int (nI nT1), .int lim, .ref mo, .int (nI nO), .ref mf, .int (nI nF), .ref mc, .ref mm, .ref mk, .ref mb, .int lf, .int fl, .ref mu, .int f1, .int f2, .int ck, .ref ml, .ref mg, .ref mx])), (mt, .inl (cI, 400, .inl fT1))] H := hP
    have hD : va_D A [(o, .inr (5, [.int 0, .ref mt, .int (nI nT1), .int lim, .ref mo, .int (nI nO), .ref mf, .int (nI nF), .ref mc, .ref mm, .ref mk, .ref mb, .int lf, .int fl, .ref mu, .int f1, .int f2, .int ck, .ref ml, .ref mg, .ref mx])), (mt, .inl (cI, 400, .inl fT1))] := hD
    refine lv_aload_n hx hb d_M_feed_25 rfl (lv_at hl 0 rfl) ?_
    refine lv_iload_n hx hb d_M_feed_26 rfl (lv_at hl 2 rfl) ?_
    refine ft_cv (wc := [(o, .inr (5, [.int 0, .ref mt, .int (nI nT1), .int lim, .ref mo, .int (nI nO), .ref mf, .int (nI nF), .ref mc, .ref mm, .ref mk, .ref mb, .int lf, .int fl, .ref mu, .int f1, .int f2, .int ck, .ref ml, .ref mg, .ref mx])), (mt, .inl (cI, 400, .inl fT1))]) (wr := []) (va_runV (As := [.int b]) (rest := []) ⟨hx, hb, hml, hown, ht⟩ (c_M_put l D cI cB o mt mo mf mc mm mk mb mu ml mg mx 0 lim lf fl f1 f2 ck nT1 nO nF fT1 (by omega) b H.size) (ft_cwV 1 ht bw_476 bw_478 bw_18 bw_39 bw_479 (by decide) ⟨Nat.le_of_ble_eq_true rfl, Nat.le_of_ble_eq_true rfl⟩) ⟨ft_blind, va_recv hK hP (ci := 5) (q0 := 0) rfl rfl, (ft_pre hP hD hK hNW [0, 1] [0, 1] rfl rfl (by decide) rfl _)⟩ rfl rfl hl.1 rfl (lv_room (Nat.le_of_ble_eq_true rfl)) d_M_feed_27 ⟨Nat.le_of_ble_eq_true rfl, Nat.le_of_ble_eq_true rfl⟩) hP hD hS hA [0, 1] [] rfl rfl (by decide) (by decide) (fun u_4 H locs hu_4 hP hD hS => ?_)
    obtain ⟨fT2, nT2⟩ := u_4
    have e_n2 : nT2 = nT + 8 := by
      have q := congrArg Prod.snd hu_4
      rw [asays_n] at q
      have q2 : nT2 = nT1 + 4 := q
      omega
    have hP : va_P D vwCl [(o, .inr (5, [.int 0, .ref mt, .int (nI nT2), .int lim, .ref mo, .int (nI nO), .ref mf, .int (nI nF), .ref mc, .ref mm, .ref mk, .ref mb, .int lf, .int fl, .ref mu, .int f1, .int f2, .int ck, .ref ml, .ref mg, .ref mx])), (mt, .inl (cI, 400, .inl fT2))] H := hP
    have hD : va_D A [(o, .inr (5, [.int 0, .ref mt, .int (nI nT2), .int lim, .ref mo, .int (nI nO), .ref mf, .int (nI nF), .ref mc, .ref mm, .ref mk, .ref mb, .int lf, .int fl, .ref mu, .int f1, .int f2, .int ck, .ref ml, .ref mg, .ref mx])), (mt, .inl (cI, 400, .inl fT2))] := hD
    refine lv_aload_n hx hb d_M_feed_30 rfl (lv_at hl 0 rfl) ?_
    refine lv_iload_n hx hb d_M_feed_31 rfl (lv_at hl 3 rfl) ?_
    refine ft_cv (wc := [(o, .inr (5, [.int 0, .ref mt, .int (nI nT2), .int lim, .ref mo, .int (nI nO), .ref mf, .int (nI nF), .ref mc, .ref mm, .ref mk, .ref mb, .int lf, .int fl, .ref mu, .int f1, .int f2, .int ck, .ref ml, .ref mg, .ref mx])), (mt, .inl (cI, 400, .inl fT2))]) (wr := []) (va_runV (As := [.int c']) (rest := []) ⟨hx, hb, hml, hown, ht⟩ (c_M_put l D cI cB o mt mo mf mc mm mk mb mu ml mg mx 0 lim lf fl f1 f2 ck nT2 nO nF fT2 (by omega) c' H.size) (ft_cwV 1 ht bw_476 bw_478 bw_18 bw_39 bw_479 (by decide) ⟨Nat.le_of_ble_eq_true rfl, Nat.le_of_ble_eq_true rfl⟩) ⟨ft_blind, va_recv hK hP (ci := 5) (q0 := 0) rfl rfl, (ft_pre hP hD hK hNW [0, 1] [0, 1] rfl rfl (by decide) rfl _)⟩ rfl rfl hl.1 rfl (lv_room (Nat.le_of_ble_eq_true rfl)) d_M_feed_32 ⟨Nat.le_of_ble_eq_true rfl, Nat.le_of_ble_eq_true rfl⟩) hP hD hS hA [0, 1] [] rfl rfl (by decide) (by decide) (fun u_6 H locs hu_6 hP hD hS => ?_)
    obtain ⟨fT3, nT3⟩ := u_6
    have e_n3 : nT3 = nT + 12 := by
      have q := congrArg Prod.snd hu_6
      rw [asays_n] at q
      have q2 : nT3 = nT2 + 4 := q
      omega
    have hP : va_P D vwCl [(o, .inr (5, [.int 0, .ref mt, .int (nI nT3), .int lim, .ref mo, .int (nI nO), .ref mf, .int (nI nF), .ref mc, .ref mm, .ref mk, .ref mb, .int lf, .int fl, .ref mu, .int f1, .int f2, .int ck, .ref ml, .ref mg, .ref mx])), (mt, .inl (cI, 400, .inl fT3))] H := hP
    have hD : va_D A [(o, .inr (5, [.int 0, .ref mt, .int (nI nT3), .int lim, .ref mo, .int (nI nO), .ref mf, .int (nI nF), .ref mc, .ref mm, .ref mk, .ref mb, .int lf, .int fl, .ref mu, .int f1, .int f2, .int ck, .ref ml, .ref mg, .ref mx])), (mt, .inl (cI, 400, .inl fT3))] := hD
    refine lv_aload_n hx hb d_M_feed_35 rfl (lv_at hl 0 rfl) ?_
    refine lv_iload hx hb d_M_feed_36 (lv_at hl 4 rfl) ?_
    refine ft_cv (wc := [(o, .inr (5, [.int 0, .ref mt, .int (nI nT3), .int lim, .ref mo, .int (nI nO), .ref mf, .int (nI nF), .ref mc, .ref mm, .ref mk, .ref mb, .int lf, .int fl, .ref mu, .int f1, .int f2, .int ck, .ref ml, .ref mg, .ref mx])), (mt, .inl (cI, 400, .inl fT3))]) (wr := []) (va_runV (As := [.int d]) (rest := []) ⟨hx, hb, hml, hown, ht⟩ (c_M_put l D cI cB o mt mo mf mc mm mk mb mu ml mg mx 0 lim lf fl f1 f2 ck nT3 nO nF fT3 (by omega) d H.size) (ft_cwV 1 ht bw_476 bw_478 bw_18 bw_39 bw_479 (by decide) ⟨Nat.le_of_ble_eq_true rfl, Nat.le_of_ble_eq_true rfl⟩) ⟨ft_blind, va_recv hK hP (ci := 5) (q0 := 0) rfl rfl, (ft_pre hP hD hK hNW [0, 1] [0, 1] rfl rfl (by decide) rfl _)⟩ rfl rfl hl.1 rfl (lv_room (Nat.le_of_ble_eq_true rfl)) d_M_feed_38 ⟨Nat.le_of_ble_eq_true rfl, Nat.le_of_ble_eq_true rfl⟩) hP hD hS hA [0, 1] [] rfl rfl (by decide) (by decide) (fun u_8 H locs hu_8 hP hD hS => ?_)
    obtain ⟨fT4, nT4⟩ := u_8
    have e_n4 : nT4 = nT + 16 := by
      have q := congrArg Prod.snd hu_8
      rw [asays_n] at q
      have q2 : nT4 = nT3 + 4 := q
      omega
    have hP : va_P D vwCl [(o, .inr (5, [.int 0, .ref mt, .int (nI nT4), .int lim, .ref mo, .int (nI nO), .ref mf, .int (nI nF), .ref mc, .ref mm, .ref mk, .ref mb, .int lf, .int fl, .ref mu, .int f1, .int f2, .int ck, .ref ml, .ref mg, .ref mx])), (mt, .inl (cI, 400, .inl fT4))] H := hP
    have hD : va_D A [(o, .inr (5, [.int 0, .ref mt, .int (nI nT4), .int lim, .ref mo, .int (nI nO), .ref mf, .int (nI nF), .ref mc, .ref mm, .ref mk, .ref mb, .int lf, .int fl, .ref mu, .int f1, .int f2, .int ck, .ref ml, .ref mg, .ref mx])), (mt, .inl (cI, 400, .inl fT4))] := hD
    refine lv_aload_n hx hb d_M_feed_41 rfl (lv_at hl 0 rfl) ?_
    refine lv_iload hx hb d_M_feed_42 (lv_at hl 5 rfl) ?_
    refine ft_cv (wc := [(o, .inr (5, [.int 0, .ref mt, .int (nI nT4), .int lim, .ref mo, .int (nI nO), .ref mf, .int (nI nF), .ref mc, .ref mm, .ref mk, .ref mb, .int lf, .int fl, .ref mu, .int f1, .int f2, .int ck, .ref ml, .ref mg, .ref mx])), (mt, .inl (cI, 400, .inl fT4))]) (wr := []) (va_runV (As := [.int e']) (rest := []) ⟨hx, hb, hml, hown, ht⟩ (c_M_put l D cI cB o mt mo mf mc mm mk mb mu ml mg mx 0 lim lf fl f1 f2 ck nT4 nO nF fT4 (by omega) e' H.size) (ft_cwV 1 ht bw_476 bw_478 bw_18 bw_39 bw_479 (by decide) ⟨Nat.le_of_ble_eq_true rfl, Nat.le_of_ble_eq_true rfl⟩) ⟨ft_blind, va_recv hK hP (ci := 5) (q0 := 0) rfl rfl, (ft_pre hP hD hK hNW [0, 1] [0, 1] rfl rfl (by decide) rfl _)⟩ rfl rfl hl.1 rfl (lv_room (Nat.le_of_ble_eq_true rfl)) d_M_feed_44 ⟨Nat.le_of_ble_eq_true rfl, Nat.le_of_ble_eq_true rfl⟩) hP hD hS hA [0, 1] [] rfl rfl (by decide) (by decide) (fun u_10 H locs hu_10 hP hD hS => ?_)
    obtain ⟨fT5, nT5⟩ := u_10
    have e_n5 : nT5 = nT + 20 := by
      have q := congrArg Prod.snd hu_10
      rw [asays_n] at q
      have q2 : nT5 = nT4 + 4 := q
      omega
    have hP : va_P D vwCl [(o, .inr (5, [.int 0, .ref mt, .int (nI nT5), .int lim, .ref mo, .int (nI nO), .ref mf, .int (nI nF), .ref mc, .ref mm, .ref mk, .ref mb, .int lf, .int fl, .ref mu, .int f1, .int f2, .int ck, .ref ml, .ref mg, .ref mx])), (mt, .inl (cI, 400, .inl fT5))] H := hP
    have hD : va_D A [(o, .inr (5, [.int 0, .ref mt, .int (nI nT5), .int lim, .ref mo, .int (nI nO), .ref mf, .int (nI nF), .ref mc, .ref mm, .ref mk, .ref mb, .int lf, .int fl, .ref mu, .int f1, .int f2, .int ck, .ref ml, .ref mg, .ref mx])), (mt, .inl (cI, 400, .inl fT5))] := hD
    refine lv_iconst (v := 1) hx hb d_M_feed_47 (by decide +kernel) ?_
    exact ft_retz (fT5, nT5) hx hb hr (by decide) hlocks hP hK hD hS (by show _ = feedM (fT, nT) a b c' d e'; unfold feedM; rw [if_neg (show ¬ 380 < (fT, nT).2 from by show ¬ 380 < nT; omega), ← hu_2, ← hu_4, ← hu_6, ← hu_8, ← hu_10]) d_M_feed_48
  · skip
    have c15 : ¬ nT + 20 ≤ 400 := fun h => c15 ((nI_leI (by omega) (by omega)).mpr h)
    refine lv_iconst (v := 0) hx hb d_M_feed_18 (by decide +kernel) ?_
    exact ft_retz (fT, nT) hx hb hr (by decide) hlocks hP hK hD hS (by show _ = feedM (fT, nT) a b c' d e'; unfold feedM; rw [if_pos (show 380 < (fT, nT).2 from by show 380 < nT; omega)]) d_M_feed_19

set_option maxHeartbeats 4000000 in
set_option maxRecDepth 100000 in
theorem c_M_end (l : Launch) (D : va_G) (cI : ClassId) (cB : ClassId) (o mt mo mf mc mm mk mb mu ml mg mx : Nat) (th lim lf fl f1 f2 ck : Int32) (nT nO nF : Nat) (hT : nT ≤ 400) (n : Int32) (sz : Nat) : ft_Mi l y_M_end (.code y_M_end b_M_end 2 (some .boolean) :: ft_big) ({ frames := 0, cells := 0, slots := 0, locals := 0 }) D [(cI, .int), (cB, .boolean)] sz [.ref o, .int n] [(o, .inr (5, [.int th, .ref mt, .int (nI nT), .int lim, .ref mo, .int (nI nO), .ref mf, .int (nI nF), .ref mc, .ref mm, .ref mk, .ref mb, .int lf, .int fl, .ref mu, .int f1, .int f2, .int ck, .ref ml, .ref mg, .ref mx]))] (fun (v : Int32) (u : Nat) => (v, u) = endM nT n) (fun u : Nat => [(o, .inr (5, [.int 0, .ref mt, .int (nI u), .int lim, .ref mo, .int (nI nO), .ref mf, .int (nI nF), .ref mc, .ref mm, .ref mk, .ref mb, .int lf, .int fl, .ref mu, .int f1, .int f2, .int ck, .ref ml, .ref mg, .ref mx]))]) 0 0 := by
  refine ft_ei (cc := b_M_end) (maxL := 2) (ret := (some .boolean)) (by decide) rfl (Nat.le_of_ble_eq_true rfl) ?_
  intro p e s m below meth c A ls hx hb hr hml hts hown hlocks hmn hP hK hD hA hS hNW hl
  have ht : ∀ w ∈ ft_big, w.before _ s = true := fun w h => hts w (List.mem_cons_of_mem _ h)
  have hP : va_P D vwCl [(o, .inr (5, [.int th, .ref mt, .int (nI nT), .int lim, .ref mo, .int (nI nO), .ref mf, .int (nI nF), .ref mc, .ref mm, .ref mk, .ref mb, .int lf, .int fl, .ref mu, .int f1, .int f2, .int ck, .ref ml, .ref mg, .ref mx]))] s.heap := hP
  have hD : va_D A [(o, .inr (5, [.int th, .ref mt, .int (nI nT), .int lim, .ref mo, .int (nI nO), .ref mf, .int (nI nF), .ref mc, .ref mm, .ref mk, .ref mb, .int lf, .int fl, .ref mu, .int f1, .int f2, .int ck, .ref ml, .ref mg, .ref mx]))] := hD
  have hl : lv_has ls 2 [(0, .ref o), (1, .int n)] := hl
  refine lv_aload_n hx hb d_M_end_0 rfl (lv_at hl 0 rfl) ?_
  refine lv_iconst (v := 0) hx hb d_M_end_1 (by decide +kernel) ?_
  refine va_put (D := D) (ci := 5) (v := .int 0) (ty := .int) (C := R_M) (T := F_M) (N := 21) hx hb ht bi_M t_M t_M_ok n_M hown hK hP hD hS 0 rfl rfl 0 (by decide) (ht _ bw_407) (fun _ h9 => h9) rfl (by decide +kernel) rfl rfl (Nat.le_of_ble_eq_true rfl) d_M_end_2 (fun H locs hP hD hS => ?_)
  have hP : va_P D vwCl [(o, .inr (5, [.int 0, .ref mt, .int (nI nT), .int lim, .ref mo, .int (nI nO), .ref mf, .int (nI nF), .ref mc, .ref mm, .ref mk, .ref mb, .int lf, .int fl, .ref mu, .int f1, .int f2, .int ck, .ref ml, .ref mg, .ref mx]))] H := hP
  have hD : va_D A [(o, .inr (5, [.int 0, .ref mt, .int (nI nT), .int lim, .ref mo, .int (nI nO), .ref mf, .int (nI nF), .ref mc, .ref mm, .ref mk, .ref mb, .int lf, .int fl, .ref mu, .int f1, .int f2, .int ck, .ref ml, .ref mg, .ref mx]))] := hD
  refine lv_iload_n hx hb d_M_end_5 rfl (lv_at hl 1 rfl) ?_
  refine lv_if_lt (tgt := 17) hx hb d_M_end_6 (by decide) (fun c6 => ?_) (fun c6 => ?_)
  · skip
    refine lv_iconst (v := 0) hx hb d_M_end_17 (by decide +kernel) ?_
    exact ft_retz nT hx hb hr (by decide) hlocks hP hK hD hS (by show _ = endM nT n; simp [endM, c6]) d_M_end_18
  · skip
    refine lv_iload_n hx hb d_M_end_9 rfl (lv_at hl 1 rfl) ?_
    refine lv_aload_n hx hb d_M_end_10 rfl (lv_at hl 0 rfl) ?_
    refine va_get (D := D) (ci := 5) (v := .int (nI nT)) (C := R_M) (T := F_M) (N := 21) hx hb ht bi_M hown hK hP 0 rfl rfl 2 (by decide) (ht _ bw_409) (fun _ h9 => h9) rfl d_M_end_11 ?_
    refine lv_icmp_le (tgt := 19) hx hb d_M_end_14 (by decide) (fun c14 => ?_) (fun c14 => ?_)
    · skip
      obtain ⟨j, hj, hjn⟩ : ∃ j : Nat, j ≤ nT ∧ n = nI j := by
        obtain ⟨j, hj, e⟩ := nI_of c6
        rw [e] at c14
        exact ⟨j, (nI_leI hj (by omega)).mp c14, e⟩
      have e_j : n.toNatClampNeg = j := by rw [hjn]; exact nI_clamp (by omega)
      have hl : lv_has ls 2 [(0, .ref o), (1, .int (nI j))] := by rw [← hjn]; exact hl
      refine lv_aload_n hx hb d_M_end_19 rfl (lv_at hl 0 rfl) ?_
      refine lv_iload_n hx hb d_M_end_20 rfl (lv_at hl 1 rfl) ?_
      refine va_put (D := D) (ci := 5) (v := .int (nI j)) (ty := .int) (C := R_M) (T := F_M) (N := 21) hx hb ht bi_M t_M t_M_ok n_M hown hK hP hD hS 0 rfl rfl 2 (by decide) (ht _ bw_409) (fun _ h9 => h9) rfl (by decide +kernel) rfl rfl (Nat.le_of_ble_eq_true rfl) d_M_end_21 (fun H locs hP hD hS => ?_)
      have hP : va_P D vwCl [(o, .inr (5, [.int 0, .ref mt, .int (nI j), .int lim, .ref mo, .int (nI nO), .ref mf, .int (nI nF), .ref mc, .ref mm, .ref mk, .ref mb, .int lf, .int fl, .ref mu, .int f1, .int f2, .int ck, .ref ml, .ref mg, .ref mx]))] H := hP
      have hD : va_D A [(o, .inr (5, [.int 0, .ref mt, .int (nI j), .int lim, .ref mo, .int (nI nO), .ref mf, .int (nI nF), .ref mc, .ref mm, .ref mk, .ref mb, .int lf, .int fl, .ref mu, .int f1, .int f2, .int ck, .ref ml, .ref mg, .ref mx]))] := hD
      refine lv_iconst (v := 1) hx hb d_M_end_24 (by decide +kernel) ?_
      exact ft_retz j hx hb hr (by decide) hlocks hP hK hD hS (by show _ = endM nT n; unfold endM; rw [if_neg c6, if_pos c14, e_j]) d_M_end_25
    · skip
      refine lv_iconst (v := 0) hx hb d_M_end_17 (by decide +kernel) ?_
      exact ft_retz nT hx hb hr (by decide) hlocks hP hK hD hS (by show _ = endM nT n; simp [endM, c6, c14]) d_M_end_18

set_option maxHeartbeats 4000000 in
set_option maxRecDepth 100000 in
theorem c_M_limit (l : Launch) (D : va_G) (cI : ClassId) (cB : ClassId) (o mt mo mf mc mm mk mb mu ml mg mx : Nat) (th lim lf fl f1 f2 ck : Int32) (nT nO nF : Nat) (n : Int32) (sz : Nat) : ft_Mi l y_M_limit (.code y_M_limit b_M_limit 2 (some .boolean) :: ft_big) ({ frames := 0, cells := 0, slots := 0, locals := 0 }) D [(cI, .int), (cB, .boolean)] sz [.ref o, .int n] [(o, .inr (5, [.int th, .ref mt, .int (nI nT), .int lim, .ref mo, .int (nI nO), .ref mf, .int (nI nF), .ref mc, .ref mm, .ref mk, .ref mb, .int lf, .int fl, .ref mu, .int f1, .int f2, .int ck, .ref ml, .ref mg, .ref mx]))] (fun (v : Int32) (u : Int32) => (v, u) = limX lim n) (fun u : Int32 => [(o, .inr (5, [.int 0, .ref mt, .int (nI nT), .int u, .ref mo, .int (nI nO), .ref mf, .int (nI nF), .ref mc, .ref mm, .ref mk, .ref mb, .int lf, .int fl, .ref mu, .int f1, .int f2, .int ck, .ref ml, .ref mg, .ref mx]))]) 0 0 := by
  refine ft_ei (cc := b_M_limit) (maxL := 2) (ret := (some .boolean)) (by decide) rfl (Nat.le_of_ble_eq_true rfl) ?_
  intro p e s m below meth c A ls hx hb hr hml hts hown hlocks hmn hP hK hD hA hS hNW hl
  have ht : ∀ w ∈ ft_big, w.before _ s = true := fun w h => hts w (List.mem_cons_of_mem _ h)
  have hP : va_P D vwCl [(o, .inr (5, [.int th, .ref mt, .int (nI nT), .int lim, .ref mo, .int (nI nO), .ref mf, .int (nI nF), .ref mc, .ref mm, .ref mk, .ref mb, .int lf, .int fl, .ref mu, .int f1, .int f2, .int ck, .ref ml, .ref mg, .ref mx]))] s.heap := hP
  have hD : va_D A [(o, .inr (5, [.int th, .ref mt, .int (nI nT), .int lim, .ref mo, .int (nI nO), .ref mf, .int (nI nF), .ref mc, .ref mm, .ref mk, .ref mb, .int lf, .int fl, .ref mu, .int f1, .int f2, .int ck, .ref ml, .ref mg, .ref mx]))] := hD
  have hl : lv_has ls 2 [(0, .ref o), (1, .int n)] := hl
  refine lv_aload_n hx hb d_M_limit_0 rfl (lv_at hl 0 rfl) ?_
  refine lv_iconst (v := 0) hx hb d_M_limit_1 (by decide +kernel) ?_
  refine va_put (D := D) (ci := 5) (v := .int 0) (ty := .int) (C := R_M) (T := F_M) (N := 21) hx hb ht bi_M t_M t_M_ok n_M hown hK hP hD hS 0 rfl rfl 0 (by decide) (ht _ bw_407) (fun _ h9 => h9) rfl (by decide +kernel) rfl rfl (Nat.le_of_ble_eq_true rfl) d_M_limit_2 (fun H locs hP hD hS => ?_)
  have hP : va_P D vwCl [(o, .inr (5, [.int 0, .ref mt, .int (nI nT), .int lim, .ref mo, .int (nI nO), .ref mf, .int (nI nF), .ref mc, .ref mm, .ref mk, .ref mb, .int lf, .int fl, .ref mu, .int f1, .int f2, .int ck, .ref ml, .ref mg, .ref mx]))] H := hP
  have hD : va_D A [(o, .inr (5, [.int 0, .ref mt, .int (nI nT), .int lim, .ref mo, .int (nI nO), .ref mf, .int (nI nF), .ref mc, .ref mm, .ref mk, .ref mb, .int lf, .int fl, .ref mu, .int f1, .int f2, .int ck, .ref ml, .ref mg, .ref mx]))] := hD
  refine lv_iload_n hx hb d_M_limit_5 rfl (lv_at hl 1 rfl) ?_
  refine lv_iconst (v := 1) hx hb d_M_limit_6 (by decide +kernel) ?_
  refine lv_icmp_lt (tgt := 17) hx hb d_M_limit_7 (by decide) (fun c7 => ?_) (fun c7 => ?_)
  · skip
    refine lv_iconst (v := 0) hx hb d_M_limit_17 (by decide +kernel) ?_
    exact ft_retz lim hx hb hr (by decide) hlocks hP hK hD hS (by show _ = limX lim n; simp [limX, c7]) d_M_limit_18
  · skip
    refine lv_iload_n hx hb d_M_limit_10 rfl (lv_at hl 1 rfl) ?_
    refine lv_sipush (v := 400) hx hb d_M_limit_11 (by decide +kernel) ?_
    refine lv_icmp_le (tgt := 19) hx hb d_M_limit_14 (by decide) (fun c14 => ?_) (fun c14 => ?_)
    · skip
      refine lv_aload_n hx hb d_M_limit_19 rfl (lv_at hl 0 rfl) ?_
      refine lv_iload_n hx hb d_M_limit_20 rfl (lv_at hl 1 rfl) ?_
      refine va_put (D := D) (ci := 5) (v := .int n) (ty := .int) (C := R_M) (T := F_M) (N := 21) hx hb ht bi_M t_M t_M_ok n_M hown hK hP hD hS 0 rfl rfl 3 (by decide) (ht _ bw_410) (fun _ h9 => h9) rfl (by decide +kernel) rfl rfl (Nat.le_of_ble_eq_true rfl) d_M_limit_21 (fun H locs hP hD hS => ?_)
      have hP : va_P D vwCl [(o, .inr (5, [.int 0, .ref mt, .int (nI nT), .int n, .ref mo, .int (nI nO), .ref mf, .int (nI nF), .ref mc, .ref mm, .ref mk, .ref mb, .int lf, .int fl, .ref mu, .int f1, .int f2, .int ck, .ref ml, .ref mg, .ref mx]))] H := hP
      have hD : va_D A [(o, .inr (5, [.int 0, .ref mt, .int (nI nT), .int n, .ref mo, .int (nI nO), .ref mf, .int (nI nF), .ref mc, .ref mm, .ref mk, .ref mb, .int lf, .int fl, .ref mu, .int f1, .int f2, .int ck, .ref ml, .ref mg, .ref mx]))] := hD
      refine lv_iconst (v := 1) hx hb d_M_limit_24 (by decide +kernel) ?_
      exact ft_retz n hx hb hr (by decide) hlocks hP hK hD hS (by show _ = limX lim n; simp [limX, c7, c14]) d_M_limit_25
    · skip
      refine lv_iconst (v := 0) hx hb d_M_limit_17 (by decide +kernel) ?_
      exact ft_retz lim hx hb hr (by decide) hlocks hP hK hD hS (by show _ = limX lim n; simp [limX, c7, c14]) d_M_limit_18

set_option maxHeartbeats 4000000 in
set_option maxRecDepth 100000 in
theorem c_M_checked (l : Launch) (D : va_G) (cI : ClassId) (cB : ClassId) (sum b : Int32) (sz : Nat) : ft_Mi l y_M_checked (.code y_M_checked b_M_checked 4 (some .int) :: ft_big) ({ frames := 0, cells := 0, slots := 0, locals := 0 }) D [(cI, .int), (cB, .boolean)] sz [.int sum, .int b] [] (fun (v : Int32) (_ : Unit) => v = chkB sum b) (fun _ => []) 0 0 := by
  refine ft_ei (cc := b_M_checked) (maxL := 4) (ret := (some .int)) (by decide) rfl (Nat.le_of_ble_eq_true rfl) ?_
  intro p e s m below meth c A ls hx hb hr hml hts hown hlocks hmn hP hK hD hA hS hNW hl
  have ht : ∀ w ∈ ft_big, w.before _ s = true := fun w h => hts w (List.mem_cons_of_mem _ h)
  have hP : va_P D vwCl [] s.heap := hP
  have hD : va_D A [] := hD
  have hl : lv_has ls 4 [(0, .int sum), (1, .int b)] := hl
  refine lv_iload_n hx hb d_M_checked_0 rfl (lv_at hl 0 rfl) ?_
  refine lv_iload_n hx hb d_M_checked_1 rfl (lv_at hl 1 rfl) ?_
  refine lv_ixor hx hb d_M_checked_2 ?_
  refine lv_istore_n (lv' := [(2, .int (sum ^^^ b)), (0, .int sum), (1, .int b)]) hx hb d_M_checked_3 rfl hl (by decide) rfl (fun ls hl => ?_)
  refine lv_iconst (v := nI 0) hx hb d_M_checked_4 (by decide +kernel) ?_
  refine lv_istore_n (lv' := [(3, .int (nI 0)), (2, .int (sum ^^^ b)), (0, .int sum), (1, .int b)]) hx hb d_M_checked_5 rfl hl (by decide) rfl (fun ls hl => ?_)
  have loop : ∀ (n k : Nat) (x : Int32) (ls : Array Slot), k + n = 8 → x = chkN k (sum ^^^ b) → lv_has ls 4 [(3, .int (nI k)), (2, .int x), (0, .int sum), (1, .int b)] → W p l e ({ frames := 0, cells := 0, slots := 0, locals := 0 } : Room) s m ([.int sum, .int b] : List Value).toArray below meth c s.heap [] 0 0 (MQ below (va_Qi (fun (v : Int32) (_ : Unit) => v = chkB sum b) (ft_B D vwCl [(cI, .int), (cB, .boolean)] A (fun _ => [])) A) ([.int sum, .int b] : List Value).toArray s 0 0 A) (F0 m 6 ls []) := by
    intro n
    induction n with
    | zero =>
      intro k x ls hk ex hl
      refine lv_iload_n hx hb d_M_checked_6 rfl (lv_at hl 0 rfl) ?_
      refine lv_bipush (v := nI 8) hx hb d_M_checked_7 (by decide +kernel) ?_
      refine lv_icmp_ge (tgt := 38) hx hb d_M_checked_9 (by decide) (fun c9 => ?_) (fun c9 => absurd (nI_le (by omega) (by omega)) c9)
      have c9 : 8 ≤ k := (nI_leI (by omega) (by omega)).mp c9
      refine lv_iload_n hx hb d_M_checked_38 rfl (lv_at hl 1 rfl) ?_
      exact ft_reti () hx hb hr hlocks hP hK hD hS (by show _ = chkB sum b; rw [ex, show k = 8 from by omega]; rfl) d_M_checked_39
    | succ n ih =>
      intro k x ls hk ex hl
      refine lv_iload_n hx hb d_M_checked_6 rfl (lv_at hl 0 rfl) ?_
      refine lv_bipush (v := nI 8) hx hb d_M_checked_7 (by decide +kernel) ?_
      refine lv_icmp_ge (tgt := 38) hx hb d_M_checked_9 (by decide) (fun c9 => absurd c9 (nI_ge (by omega) (by omega))) (fun c9 => ?_)
      have c9 : ¬ 8 ≤ k := fun h => c9 ((nI_leI (by omega) (by omega)).mpr h)
      refine lv_iload_n hx hb d_M_checked_12 rfl (lv_at hl 1 rfl) ?_
      refine lv_iconst (v := 1) hx hb d_M_checked_13 (by decide +kernel) ?_
      refine lv_iand hx hb d_M_checked_14 ?_
      refine lv_iconst (v := 1) hx hb d_M_checked_15 (by decide +kernel) ?_
      refine lv_icmp_ne (tgt := 28) hx hb d_M_checked_16 (by decide) (fun c16 => ?_) (fun c16 => ?_)
      · skip
        refine lv_iload_n hx hb d_M_checked_28 rfl (lv_at hl 1 rfl) ?_
        refine lv_iconst (v := 1) hx hb d_M_checked_29 (by decide +kernel) ?_
        refine lv_ishr hx hb d_M_checked_30 ?_
        refine lv_istore_n (lv' := [(2, .int (x >>> ((1 : Int32) &&& 31))), (3, .int (nI k)), (0, .int sum), (1, .int b)]) hx hb d_M_checked_31 rfl hl (by decide) rfl (fun ls hl => ?_)
        refine lv_iinc (v := nI (k + 1)) (lv' := [(3, .int (nI (k + 1))), (2, .int (x >>> ((1 : Int32) &&& 31))), (0, .int sum), (1, .int b)]) hx hb d_M_checked_32 hl (k := 1) rfl (nI_1 k) (by decide) rfl (fun ls hl => ?_)
        refine lv_goto (tgt := 6) hx hb d_M_checked_35 (by decide) ?_
        exact ih (k + 1) (x >>> ((1 : Int32) &&& 31)) ls (by omega) (by show _ = chk1 (chkN k (sum ^^^ b)); rw [← ex]; simp [chk1, c16]) (lv_sub hl [0, 1, 2, 3] rfl)
      · skip
        refine lv_iload_n hx hb d_M_checked_19 rfl (lv_at hl 1 rfl) ?_
        refine lv_iconst (v := 1) hx hb d_M_checked_20 (by decide +kernel) ?_
        refine lv_ishr hx hb d_M_checked_21 ?_
        refine lv_ldc hx hb hown (ht _ bw_515) d_M_checked_22 ?_
        refine lv_ixor hx hb d_M_checked_24 ?_
        refine lv_goto (tgt := 31) hx hb d_M_checked_25 (by decide) ?_
        refine lv_istore_n (lv' := [(2, .int ((x >>> ((1 : Int32) &&& 31)) ^^^ 33800)), (3, .int (nI k)), (0, .int sum), (1, .int b)]) hx hb d_M_checked_31 rfl hl (by decide) rfl (fun ls hl => ?_)
        refine lv_iinc (v := nI (k + 1)) (lv' := [(3, .int (nI (k + 1))), (2, .int ((x >>> ((1 : Int32) &&& 31)) ^^^ 33800)), (0, .int sum), (1, .int b)]) hx hb d_M_checked_32 hl (k := 1) rfl (nI_1 k) (by decide) rfl (fun ls hl => ?_)
        refine lv_goto (tgt := 6) hx hb d_M_checked_35 (by decide) ?_
        exact ih (k + 1) ((x >>> ((1 : Int32) &&& 31)) ^^^ 33800) ls (by omega) (by show _ = chk1 (chkN k (sum ^^^ b)); rw [← ex]; simp [chk1, c16]) (lv_sub hl [0, 1, 2, 3] rfl)
  exact loop 8 0 _ ls rfl rfl (lv_sub hl [0, 1, 2, 3] rfl)

set_option maxHeartbeats 4000000 in
set_option maxRecDepth 100000 in
theorem c_M_say (l : Launch) (D : va_G) (cI : ClassId) (cB : ClassId) (o mt mo mf mc mm mk mb mu ml mg mx : Nat) (th lim lf fl f1 f2 ck : Int32) (nT nO nF : Nat) (fF : Nat → Int32) (hF : nF < 900) (b : Int32) (sz : Nat) : ft_Mv l y_M_say (.code y_M_say b_M_say 2 none :: ft_big) ({ frames := 0, cells := 0, slots := 0, locals := 0 }) D [(cI, .int), (cB, .boolean)] sz [.ref o, .int b] [(o, .inr (5, [.int th, .ref mt, .int (nI nT), .int lim, .ref mo, .int (nI nO), .ref mf, .int (nI nF), .ref mc, .ref mm, .ref mk, .ref mb, .int lf, .int fl, .ref mu, .int f1, .int f2, .int ck, .ref ml, .ref mg, .ref mx])), (mf, .inl (cI, 900, .inl fF))] (fun u : AS => u = asay (fF, nF) b) (fun u : AS => [(o, .inr (5, [.int th, .ref mt, .int (nI nT), .int lim, .ref mo, .int (nI nO), .ref mf, .int (nI u.2), .ref mc, .ref mm, .ref mk, .ref mb, .int lf, .int fl, .ref mu, .int f1, .int f2, .int ck, .ref ml, .ref mg, .ref mx])), (mf, .inl (cI, 900, .inl u.1))]) 0 0 := by
  refine ft_ev (cc := b_M_say) (maxL := 2) (ret := none) (by decide) rfl (Nat.le_of_ble_eq_true rfl) ?_
  intro p e s m below meth c A ls hx hb hr hml hts hown hlocks hmn hP hK hD hA hS hNW hl
  have ht : ∀ w ∈ ft_big, w.before _ s = true := fun w h => hts w (List.mem_cons_of_mem _ h)
  have hP : va_P D vwCl [(o, .inr (5, [.int th, .ref mt, .int (nI nT), .int lim, .ref mo, .int (nI nO), .ref mf, .int (nI nF), .ref mc, .ref mm, .ref mk, .ref mb, .int lf, .int fl, .ref mu, .int f1, .int f2, .int ck, .ref ml, .ref mg, .ref mx])), (mf, .inl (cI, 900, .inl fF))] s.heap := hP
  have hD : va_D A [(o, .inr (5, [.int th, .ref mt, .int (nI nT), .int lim, .ref mo, .int (nI nO), .ref mf, .int (nI nF), .ref mc, .ref mm, .ref mk, .ref mb, .int lf, .int fl, .ref mu, .int f1, .int f2, .int ck, .ref ml, .ref mg, .ref mx])), (mf, .inl (cI, 900, .inl fF))] := hD
  have hl : lv_has ls 2 [(0, .ref o), (1, .int b)] := hl
  refine lv_aload_n hx hb d_M_say_0 rfl (lv_at hl 0 rfl) ?_
  refine va_get (D := D) (ci := 5) (v := .ref mf) (C := R_M) (T := F_M) (N := 21) hx hb ht bi_M hown hK hP 0 rfl rfl 6 (by decide) (ht _ bw_413) (fun _ h9 => h9) rfl d_M_say_1 ?_
  refine lv_aload_n hx hb d_M_say_4 rfl (lv_at hl 0 rfl) ?_
  refine va_get (D := D) (ci := 5) (v := .int (nI nF)) (C := R_M) (T := F_M) (N := 21) hx hb ht bi_M hown hK hP 0 rfl rfl 7 (by decide) (ht _ bw_414) (fun _ h9 => h9) rfl d_M_say_5 ?_
  refine lv_iload_n hx hb d_M_say_8 rfl (lv_at hl 1 rfl) ?_
  refine va_iast hx hb hK hP hD hS 1 0 rfl rfl (vp_in_nI (by omega) (by omega)) d_M_say_9 (fun H locs hP hD hS => ?_)
  rw [nI_clamp (n := nF) (by omega)] at hP hD
  obtain ⟨fF_1, efF_1⟩ : ∃ g : Nat → Int32, g = upd fF nF b := ⟨_, rfl⟩
  rw [← efF_1] at hP hD
  have hP : va_P D vwCl [(o, .inr (5, [.int th, .ref mt, .int (nI nT), .int lim, .ref mo, .int (nI nO), .ref mf, .int (nI nF), .ref mc, .ref mm, .ref mk, .ref mb, .int lf, .int fl, .ref mu, .int f1, .int f2, .int ck, .ref ml, .ref mg, .ref mx])), (mf, .inl (cI, 900, .inl fF_1))] H := hP
  have hD : va_D A [(o, .inr (5, [.int th, .ref mt, .int (nI nT), .int lim, .ref mo, .int (nI nO), .ref mf, .int (nI nF), .ref mc, .ref mm, .ref mk, .ref mb, .int lf, .int fl, .ref mu, .int f1, .int f2, .int ck, .ref ml, .ref mg, .ref mx])), (mf, .inl (cI, 900, .inl fF_1))] := hD
  refine lv_aload_n hx hb d_M_say_10 rfl (lv_at hl 0 rfl) ?_
  refine lv_dup hx hb d_M_say_11 rfl ?_
  refine va_get (D := D) (ci := 5) (v := .int (nI nF)) (C := R_M) (T := F_M) (N := 21) hx hb ht bi_M hown hK hP 0 rfl rfl 7 (by decide) (ht _ bw_414) (fun _ h9 => h9) rfl d_M_say_12 ?_
  refine lv_iconst (v := 1) hx hb d_M_say_15 (by decide +kernel) ?_
  refine lv_iadd hx hb d_M_say_16 ?_
  refine ft_top (nI_1 nF) ?_
  refine va_put (D := D) (ci := 5) (v := .int (nI (nF + 1))) (ty := .int) (C := R_M) (T := F_M) (N := 21) hx hb ht bi_M t_M t_M_ok n_M hown hK hP hD hS 0 rfl rfl 7 (by decide) (ht _ bw_414) (fun _ h9 => h9) rfl (by decide +kernel) rfl rfl (Nat.le_of_ble_eq_true rfl) d_M_say_17 (fun H locs hP hD hS => ?_)
  have hP : va_P D vwCl [(o, .inr (5, [.int th, .ref mt, .int (nI nT), .int lim, .ref mo, .int (nI nO), .ref mf, .int (nI (nF + 1)), .ref mc, .ref mm, .ref mk, .ref mb, .int lf, .int fl, .ref mu, .int f1, .int f2, .int ck, .ref ml, .ref mg, .ref mx])), (mf, .inl (cI, 900, .inl fF_1))] H := hP
  have hD : va_D A [(o, .inr (5, [.int th, .ref mt, .int (nI nT), .int lim, .ref mo, .int (nI nO), .ref mf, .int (nI (nF + 1)), .ref mc, .ref mm, .ref mk, .ref mb, .int lf, .int fl, .ref mu, .int f1, .int f2, .int ck, .ref ml, .ref mg, .ref mx])), (mf, .inl (cI, 900, .inl fF_1))] := hD
  exact ft_retv (fF_1, nF + 1) hx hb hr hlocks hP hK hD hS (by show _ = asay (fF, nF) b; simp [asay, efF_1]) d_M_say_20

set_option maxHeartbeats 4000000 in
set_option maxRecDepth 100000 in
theorem c_M_sayTurned_1 (l : Launch) (D : va_G) (cI : ClassId) (cB : ClassId) (o mt mo mf mc mm mk mb mu ml mg mx : Nat) (th lim lf fl f1 f2 ck : Int32) (nT nO nF : Nat) (fF : Nat → Int32) (hF : nF + 2 ≤ 900) (b : Int32) (sz : Nat) : ft_Mv l y_M_sayTurned (.code y_M_sayTurned b_M_sayTurned 4 none :: ft_big) ({ frames := 1, cells := 0, slots := 0, locals := 30 }) D [(cI, .int), (cB, .boolean)] sz [.ref o, .int (nI 1), .int b] [(o, .inr (5, [.int th, .ref mt, .int (nI nT), .int lim, .ref mo, .int (nI nO), .ref mf, .int (nI nF), .ref mc, .ref mm, .ref mk, .ref mb, .int lf, .int fl, .ref mu, .int f1, .int f2, .int ck, .ref ml, .ref mg, .ref mx])), (mf, .inl (cI, 900, .inl fF))] (fun u : AS => u = asays (fF, nF) (wb1 b)) (fun u : AS => [(o, .inr (5, [.int th, .ref mt, .int (nI nT), .int lim, .ref mo, .int (nI nO), .ref mf, .int (nI u.2), .ref mc, .ref mm, .ref mk, .ref mb, .int lf, .int fl, .ref mu, .int f1, .int f2, .int ck, .ref ml, .ref mg, .ref mx])), (mf, .inl (cI, 900, .inl u.1))]) 0 0 := by
  refine ft_ev (cc := b_M_sayTurned) (maxL := 4) (ret := none) (by decide) rfl (Nat.le_of_ble_eq_true rfl) ?_
  intro p e s m below meth c A ls hx hb hr hml hts hown hlocks hmn hP hK hD hA hS hNW hl
  have ht : ∀ w ∈ ft_big, w.before _ s = true := fun w h => hts w (List.mem_cons_of_mem _ h)
  have hP : va_P D vwCl [(o, .inr (5, [.int th, .ref mt, .int (nI nT), .int lim, .ref mo, .int (nI nO), .ref mf, .int (nI nF), .ref mc, .ref mm, .ref mk, .ref mb, .int lf, .int fl, .ref mu, .int f1, .int f2, .int ck, .ref ml, .ref mg, .ref mx])), (mf, .inl (cI, 900, .inl fF))] s.heap := hP
  have hD : va_D A [(o, .inr (5, [.int th, .ref mt, .int (nI nT), .int lim, .ref mo, .int (nI nO), .ref mf, .int (nI nF), .ref mc, .ref mm, .ref mk, .ref mb, .int lf, .int fl, .ref mu, .int f1, .int f2, .int ck, .ref ml, .ref mg, .ref mx])), (mf, .inl (cI, 900, .inl fF))] := hD
  have hl : lv_has ls 4 [(0, .ref o), (1, .int (nI 1)), (2, .int b)] := hl
  refine lv_iload_n hx hb d_M_sayTurned_0 rfl (lv_at hl 1 rfl) ?_
  refine lv_iconst (v := 1) hx hb d_M_sayTurned_1 (by decide +kernel) ?_
  refine lv_icmp_ne (tgt := 27) hx hb d_M_sayTurned_2 (by decide) (fun c2 => absurd (by decide) c2) (fun _ => ?_)
  refine lv_iload_n hx hb d_M_sayTurned_5 rfl (lv_at hl 2 rfl) ?_
  refine lv_sipush (v := 192) hx hb d_M_sayTurned_6 (by decide +kernel) ?_
  refine lv_icmp_eq (tgt := 19) hx hb d_M_sayTurned_9 (by decide) (fun c9 => ?_) (fun c9 => ?_)
  · skip
    refine lv_iconst (v := 1) hx hb d_M_sayTurned_19 (by decide +kernel) ?_
    refine lv_goto (tgt := 44) hx hb d_M_sayTurned_20 (by decide) ?_
    refine lv_istore_n (lv' := [(3, .int 1), (0, .ref o), (1, .int (nI 1)), (2, .int b)]) hx hb d_M_sayTurned_44 rfl hl (by decide) rfl (fun ls hl => ?_)
    refine lv_iload_n hx hb d_M_sayTurned_45 rfl (lv_at hl 0 rfl) ?_
    refine lv_if_eq (tgt := 66) hx hb d_M_sayTurned_46 (by decide) (fun c46 => absurd c46 (by decide)) (fun _ => ?_)
    refine lv_aload_n hx hb d_M_sayTurned_49 rfl (lv_at hl 1 rfl) ?_
    refine lv_iload_n hx hb d_M_sayTurned_50 rfl (lv_at hl 2 rfl) ?_
    refine lv_iconst (v := 1) hx hb d_M_sayTurned_51 (by decide +kernel) ?_
    refine lv_icmp_ne (tgt := 61) hx hb d_M_sayTurned_52 (by decide) (fun c52 => absurd (by decide) c52) (fun _ => ?_)
    refine lv_sipush (v := 219) hx hb d_M_sayTurned_55 (by decide +kernel) ?_
    refine lv_goto (tgt := 63) hx hb d_M_sayTurned_58 (by decide) ?_
    refine ft_cv (wc := [(o, .inr (5, [.int th, .ref mt, .int (nI nT), .int lim, .ref mo, .int (nI nO), .ref mf, .int (nI nF), .ref mc, .ref mm, .ref mk, .ref mb, .int lf, .int fl, .ref mu, .int f1, .int f2, .int ck, .ref ml, .ref mg, .ref mx])), (mf, .inl (cI, 900, .inl fF))]) (wr := []) (va_runV (As := [.int 219]) (rest := []) ⟨hx, hb, hml, hown, ht⟩ (c_M_say l D cI cB o mt mo mf mc mm mk mb mu ml mg mx th lim lf fl f1 f2 ck nT nO nF fF (by omega) 219 s.heap.size) (ft_cwV 1 ht bw_503 bw_505 bw_21 bw_39 bw_506 (by decide) ⟨Nat.le_of_ble_eq_true rfl, Nat.le_of_ble_eq_true rfl⟩) ⟨ft_blind, va_recv hK hP (ci := 5) (q0 := 0) rfl rfl, (ft_pre hP hD hK hNW [0, 1] [0, 1] rfl rfl (by decide) rfl _)⟩ rfl rfl hl.1 rfl (lv_room (Nat.le_of_ble_eq_true rfl)) d_M_sayTurned_63 ⟨Nat.le_of_ble_eq_true rfl, Nat.le_of_ble_eq_true rfl⟩) hP hD hS hA [0, 1] [] rfl rfl (by decide) (by decide) (fun u_3 H locs hu_3 hP hD hS => ?_)
    obtain ⟨fFs1, nFs1⟩ := u_3
    have e_ns1 : nFs1 = nF + 1 := congrArg Prod.snd hu_3
    have hP : va_P D vwCl [(o, .inr (5, [.int th, .ref mt, .int (nI nT), .int lim, .ref mo, .int (nI nO), .ref mf, .int (nI nFs1), .ref mc, .ref mm, .ref mk, .ref mb, .int lf, .int fl, .ref mu, .int f1, .int f2, .int ck, .ref ml, .ref mg, .ref mx])), (mf, .inl (cI, 900, .inl fFs1))] H := hP
    have hD : va_D A [(o, .inr (5, [.int th, .ref mt, .int (nI nT), .int lim, .ref mo, .int (nI nO), .ref mf, .int (nI nFs1), .ref mc, .ref mm, .ref mk, .ref mb, .int lf, .int fl, .ref mu, .int f1, .int f2, .int ck, .ref ml, .ref mg, .ref mx])), (mf, .inl (cI, 900, .inl fFs1))] := hD
    refine lv_aload_n hx hb d_M_sayTurned_66 rfl (lv_at hl 1 rfl) ?_
    refine lv_iload_n hx hb d_M_sayTurned_67 rfl (lv_at hl 0 rfl) ?_
    refine lv_if_ne (tgt := 75) hx hb d_M_sayTurned_68 (by decide) (fun _ => ?_) (fun c68 => absurd c68 (by decide))
    refine lv_iload_n hx hb d_M_sayTurned_75 rfl (lv_at hl 2 rfl) ?_
    refine lv_iconst (v := 1) hx hb d_M_sayTurned_76 (by decide +kernel) ?_
    refine lv_icmp_ne (tgt := 99) hx hb d_M_sayTurned_77 (by decide) (fun c77 => absurd (by decide) c77) (fun _ => ?_)
    refine lv_iload_n hx hb d_M_sayTurned_80 rfl (lv_at hl 3 rfl) ?_
    refine lv_sipush (v := 192) hx hb d_M_sayTurned_81 (by decide +kernel) ?_
    refine lv_icmp_ne (tgt := 93) hx hb d_M_sayTurned_84 (by decide) (fun c84 => ?_) (fun c84 => ?_)
    · skip
      refine lv_sipush (v := 221) hx hb d_M_sayTurned_93 (by decide +kernel) ?_
      refine lv_goto (tgt := 103) hx hb d_M_sayTurned_96 (by decide) ?_
      refine ft_cv (wc := [(o, .inr (5, [.int th, .ref mt, .int (nI nT), .int lim, .ref mo, .int (nI nO), .ref mf, .int (nI nFs1), .ref mc, .ref mm, .ref mk, .ref mb, .int lf, .int fl, .ref mu, .int f1, .int f2, .int ck, .ref ml, .ref mg, .ref mx])), (mf, .inl (cI, 900, .inl fFs1))]) (wr := []) (va_runV (As := [.int 221]) (rest := []) ⟨hx, hb, hml, hown, ht⟩ (c_M_say l D cI cB o mt mo mf mc mm mk mb mu ml mg mx th lim lf fl f1 f2 ck nT nO nFs1 fFs1 (by omega) 221 H.size) (ft_cwV 1 ht bw_503 bw_505 bw_21 bw_39 bw_506 (by decide) ⟨Nat.le_of_ble_eq_true rfl, Nat.le_of_ble_eq_true rfl⟩) ⟨ft_blind, va_recv hK hP (ci := 5) (q0 := 0) rfl rfl, (ft_pre hP hD hK hNW [0, 1] [0, 1] rfl rfl (by decide) rfl _)⟩ rfl rfl hl.1 rfl (lv_room (Nat.le_of_ble_eq_true rfl)) d_M_sayTurned_103 ⟨Nat.le_of_ble_eq_true rfl, Nat.le_of_ble_eq_true rfl⟩) hP hD hS hA [0, 1] [] rfl rfl (by decide) (by decide) (fun u_6 H locs hu_6 hP hD hS => ?_)
      obtain ⟨fFs4, nFs4⟩ := u_6
      have e_ns4 : nFs4 = nFs1 + 1 := congrArg Prod.snd hu_6
      have hP : va_P D vwCl [(o, .inr (5, [.int th, .ref mt, .int (nI nT), .int lim, .ref mo, .int (nI nO), .ref mf, .int (nI nFs4), .ref mc, .ref mm, .ref mk, .ref mb, .int lf, .int fl, .ref mu, .int f1, .int f2, .int ck, .ref ml, .ref mg, .ref mx])), (mf, .inl (cI, 900, .inl fFs4))] H := hP
      have hD : va_D A [(o, .inr (5, [.int th, .ref mt, .int (nI nT), .int lim, .ref mo, .int (nI nO), .ref mf, .int (nI nFs4), .ref mc, .ref mm, .ref mk, .ref mb, .int lf, .int fl, .ref mu, .int f1, .int f2, .int ck, .ref ml, .ref mg, .ref mx])), (mf, .inl (cI, 900, .inl fFs4))] := hD
      exact ft_retv (fFs4, nFs4) hx hb hr hlocks hP hK hD hS (by first | (exact absurd c9 c84) | (exact absurd c84 c9) | (show _ = asays (fF, nF) (wb1 b); rw [hu_6, hu_3]; simp [wb1, c9, c84, asays])) d_M_sayTurned_106
    · skip
      refine lv_sipush (v := 220) hx hb d_M_sayTurned_87 (by decide +kernel) ?_
      refine lv_goto (tgt := 103) hx hb d_M_sayTurned_90 (by decide) ?_
      refine ft_cv (wc := [(o, .inr (5, [.int th, .ref mt, .int (nI nT), .int lim, .ref mo, .int (nI nO), .ref mf, .int (nI nFs1), .ref mc, .ref mm, .ref mk, .ref mb, .int lf, .int fl, .ref mu, .int f1, .int f2, .int ck, .ref ml, .ref mg, .ref mx])), (mf, .inl (cI, 900, .inl fFs1))]) (wr := []) (va_runV (As := [.int 220]) (rest := []) ⟨hx, hb, hml, hown, ht⟩ (c_M_say l D cI cB o mt mo mf mc mm mk mb mu ml mg mx th lim lf fl f1 f2 ck nT nO nFs1 fFs1 (by omega) 220 H.size) (ft_cwV 1 ht bw_503 bw_505 bw_21 bw_39 bw_506 (by decide) ⟨Nat.le_of_ble_eq_true rfl, Nat.le_of_ble_eq_true rfl⟩) ⟨ft_blind, va_recv hK hP (ci := 5) (q0 := 0) rfl rfl, (ft_pre hP hD hK hNW [0, 1] [0, 1] rfl rfl (by decide) rfl _)⟩ rfl rfl hl.1 rfl (lv_room (Nat.le_of_ble_eq_true rfl)) d_M_sayTurned_103 ⟨Nat.le_of_ble_eq_true rfl, Nat.le_of_ble_eq_true rfl⟩) hP hD hS hA [0, 1] [] rfl rfl (by decide) (by decide) (fun u_9 H locs hu_9 hP hD hS => ?_)
      obtain ⟨fFs7, nFs7⟩ := u_9
      have e_ns7 : nFs7 = nFs1 + 1 := congrArg Prod.snd hu_9
      have hP : va_P D vwCl [(o, .inr (5, [.int th, .ref mt, .int (nI nT), .int lim, .ref mo, .int (nI nO), .ref mf, .int (nI nFs7), .ref mc, .ref mm, .ref mk, .ref mb, .int lf, .int fl, .ref mu, .int f1, .int f2, .int ck, .ref ml, .ref mg, .ref mx])), (mf, .inl (cI, 900, .inl fFs7))] H := hP
      have hD : va_D A [(o, .inr (5, [.int th, .ref mt, .int (nI nT), .int lim, .ref mo, .int (nI nO), .ref mf, .int (nI nFs7), .ref mc, .ref mm, .ref mk, .ref mb, .int lf, .int fl, .ref mu, .int f1, .int f2, .int ck, .ref ml, .ref mg, .ref mx])), (mf, .inl (cI, 900, .inl fFs7))] := hD
      exact ft_retv (fFs7, nFs7) hx hb hr hlocks hP hK hD hS (by first | (exact absurd c9 c84) | (exact absurd c84 c9) | (show _ = asays (fF, nF) (wb1 b); rw [hu_9, hu_3]; simp [wb1, c9, c84, asays])) d_M_sayTurned_106
  · skip
    refine lv_iload_n hx hb d_M_sayTurned_12 rfl (lv_at hl 2 rfl) ?_
    refine lv_sipush (v := 219) hx hb d_M_sayTurned_13 (by decide +kernel) ?_
    refine lv_icmp_ne (tgt := 23) hx hb d_M_sayTurned_16 (by decide) (fun c16 => ?_) (fun c16 => ?_)
    · skip
      refine lv_iconst (v := 0) hx hb d_M_sayTurned_23 (by decide +kernel) ?_
      refine lv_goto (tgt := 44) hx hb d_M_sayTurned_24 (by decide) ?_
      refine lv_istore_n (lv' := [(3, .int 0), (0, .ref o), (1, .int (nI 1)), (2, .int b)]) hx hb d_M_sayTurned_44 rfl hl (by decide) rfl (fun ls hl => ?_)
      refine lv_iload_n hx hb d_M_sayTurned_45 rfl (lv_at hl 0 rfl) ?_
      refine lv_if_eq (tgt := 66) hx hb d_M_sayTurned_46 (by decide) (fun _ => ?_) (fun c46 => absurd (by decide) c46)
      refine lv_aload_n hx hb d_M_sayTurned_66 rfl (lv_at hl 1 rfl) ?_
      refine lv_iload_n hx hb d_M_sayTurned_67 rfl (lv_at hl 0 rfl) ?_
      refine lv_if_ne (tgt := 75) hx hb d_M_sayTurned_68 (by decide) (fun c68 => absurd (by decide) c68) (fun _ => ?_)
      refine lv_iload_n hx hb d_M_sayTurned_71 rfl (lv_at hl 3 rfl) ?_
      refine lv_goto (tgt := 103) hx hb d_M_sayTurned_72 (by decide) ?_
      refine ft_cv (wc := [(o, .inr (5, [.int th, .ref mt, .int (nI nT), .int lim, .ref mo, .int (nI nO), .ref mf, .int (nI nF), .ref mc, .ref mm, .ref mk, .ref mb, .int lf, .int fl, .ref mu, .int f1, .int f2, .int ck, .ref ml, .ref mg, .ref mx])), (mf, .inl (cI, 900, .inl fF))]) (wr := []) (va_runV (As := [.int b]) (rest := []) ⟨hx, hb, hml, hown, ht⟩ (c_M_say l D cI cB o mt mo mf mc mm mk mb mu ml mg mx th lim lf fl f1 f2 ck nT nO nF fF (by omega) b s.heap.size) (ft_cwV 1 ht bw_503 bw_505 bw_21 bw_39 bw_506 (by decide) ⟨Nat.le_of_ble_eq_true rfl, Nat.le_of_ble_eq_true rfl⟩) ⟨ft_blind, va_recv hK hP (ci := 5) (q0 := 0) rfl rfl, (ft_pre hP hD hK hNW [0, 1] [0, 1] rfl rfl (by decide) rfl _)⟩ rfl rfl hl.1 rfl (lv_room (Nat.le_of_ble_eq_true rfl)) d_M_sayTurned_103 ⟨Nat.le_of_ble_eq_true rfl, Nat.le_of_ble_eq_true rfl⟩) hP hD hS hA [0, 1] [] rfl rfl (by decide) (by decide) (fun u_12 H locs hu_12 hP hD hS => ?_)
      obtain ⟨fFs10, nFs10⟩ := u_12
      have e_ns10 : nFs10 = nF + 1 := congrArg Prod.snd hu_12
      have hP : va_P D vwCl [(o, .inr (5, [.int th, .ref mt, .int (nI nT), .int lim, .ref mo, .int (nI nO), .ref mf, .int (nI nFs10), .ref mc, .ref mm, .ref mk, .ref mb, .int lf, .int fl, .ref mu, .int f1, .int f2, .int ck, .ref ml, .ref mg, .ref mx])), (mf, .inl (cI, 900, .inl fFs10))] H := hP
      have hD : va_D A [(o, .inr (5, [.int th, .ref mt, .int (nI nT), .int lim, .ref mo, .int (nI nO), .ref mf, .int (nI nFs10), .ref mc, .ref mm, .ref mk, .ref mb, .int lf, .int fl, .ref mu, .int f1, .int f2, .int ck, .ref ml, .ref mg, .ref mx])), (mf, .inl (cI, 900, .inl fFs10))] := hD
      exact ft_retv (fFs10, nFs10) hx hb hr hlocks hP hK hD hS (by (show _ = asays (fF, nF) (wb1 b); rw [hu_12]; simp [wb1, c9, c16, asays])) d_M_sayTurned_106
    · skip
      refine lv_iconst (v := 1) hx hb d_M_sayTurned_19 (by decide +kernel) ?_
      refine lv_goto (tgt := 44) hx hb d_M_sayTurned_20 (by decide) ?_
      refine lv_istore_n (lv' := [(3, .int 1), (0, .ref o), (1, .int (nI 1)), (2, .int b)]) hx hb d_M_sayTurned_44 rfl hl (by decide) rfl (fun ls hl => ?_)
      refine lv_iload_n hx hb d_M_sayTurned_45 rfl (lv_at hl 0 rfl) ?_
      refine lv_if_eq (tgt := 66) hx hb d_M_sayTurned_46 (by decide) (fun c46 => absurd c46 (by decide)) (fun _ => ?_)
      refine lv_aload_n hx hb d_M_sayTurned_49 rfl (lv_at hl 1 rfl) ?_
      refine lv_iload_n hx hb d_M_sayTurned_50 rfl (lv_at hl 2 rfl) ?_
      refine lv_iconst (v := 1) hx hb d_M_sayTurned_51 (by decide +kernel) ?_
      refine lv_icmp_ne (tgt := 61) hx hb d_M_sayTurned_52 (by decide) (fun c52 => absurd (by decide) c52) (fun _ => ?_)
      refine lv_sipush (v := 219) hx hb d_M_sayTurned_55 (by decide +kernel) ?_
      refine lv_goto (tgt := 63) hx hb d_M_sayTurned_58 (by decide) ?_
      refine ft_cv (wc := [(o, .inr (5, [.int th, .ref mt, .int (nI nT), .int lim, .ref mo, .int (nI nO), .ref mf, .int (nI nF), .ref mc, .ref mm, .ref mk, .ref mb, .int lf, .int fl, .ref mu, .int f1, .int f2, .int ck, .ref ml, .ref mg, .ref mx])), (mf, .inl (cI, 900, .inl fF))]) (wr := []) (va_runV (As := [.int 219]) (rest := []) ⟨hx, hb, hml, hown, ht⟩ (c_M_say l D cI cB o mt mo mf mc mm mk mb mu ml mg mx th lim lf fl f1 f2 ck nT nO nF fF (by omega) 219 s.heap.size) (ft_cwV 1 ht bw_503 bw_505 bw_21 bw_39 bw_506 (by decide) ⟨Nat.le_of_ble_eq_true rfl, Nat.le_of_ble_eq_true rfl⟩) ⟨ft_blind, va_recv hK hP (ci := 5) (q0 := 0) rfl rfl, (ft_pre hP hD hK hNW [0, 1] [0, 1] rfl rfl (by decide) rfl _)⟩ rfl rfl hl.1 rfl (lv_room (Nat.le_of_ble_eq_true rfl)) d_M_sayTurned_63 ⟨Nat.le_of_ble_eq_true rfl, Nat.le_of_ble_eq_true rfl⟩) hP hD hS hA [0, 1] [] rfl rfl (by decide) (by decide) (fun u_15 H locs hu_15 hP hD hS => ?_)
      obtain ⟨fFs13, nFs13⟩ := u_15
      have e_ns13 : nFs13 = nF + 1 := congrArg Prod.snd hu_15
      have hP : va_P D vwCl [(o, .inr (5, [.int th, .ref mt, .int (nI nT), .int lim, .ref mo, .int (nI nO), .ref mf, .int (nI nFs13), .ref mc, .ref mm, .ref mk, .ref mb, .int lf, .int fl, .ref mu, .int f1, .int f2, .int ck, .ref ml, .ref mg, .ref mx])), (mf, .inl (cI, 900, .inl fFs13))] H := hP
      have hD : va_D A [(o, .inr (5, [.int th, .ref mt, .int (nI nT), .int lim, .ref mo, .int (nI nO), .ref mf, .int (nI nFs13), .ref mc, .ref mm, .ref mk, .ref mb, .int lf, .int fl, .ref mu, .int f1, .int f2, .int ck, .ref ml, .ref mg, .ref mx])), (mf, .inl (cI, 900, .inl fFs13))] := hD
      refine lv_aload_n hx hb d_M_sayTurned_66 rfl (lv_at hl 1 rfl) ?_
      refine lv_iload_n hx hb d_M_sayTurned_67 rfl (lv_at hl 0 rfl) ?_
      refine lv_if_ne (tgt := 75) hx hb d_M_sayTurned_68 (by decide) (fun _ => ?_) (fun c68 => absurd c68 (by decide))
      refine lv_iload_n hx hb d_M_sayTurned_75 rfl (lv_at hl 2 rfl) ?_
      refine lv_iconst (v := 1) hx hb d_M_sayTurned_76 (by decide +kernel) ?_
      refine lv_icmp_ne (tgt := 99) hx hb d_M_sayTurned_77 (by decide) (fun c77 => absurd (by decide) c77) (fun _ => ?_)
      refine lv_iload_n hx hb d_M_sayTurned_80 rfl (lv_at hl 3 rfl) ?_
      refine lv_sipush (v := 192) hx hb d_M_sayTurned_81 (by decide +kernel) ?_
      refine lv_icmp_ne (tgt := 93) hx hb d_M_sayTurned_84 (by decide) (fun c84 => ?_) (fun c84 => ?_)
      · skip
        refine lv_sipush (v := 221) hx hb d_M_sayTurned_93 (by decide +kernel) ?_
        refine lv_goto (tgt := 103) hx hb d_M_sayTurned_96 (by decide) ?_
        refine ft_cv (wc := [(o, .inr (5, [.int th, .ref mt, .int (nI nT), .int lim, .ref mo, .int (nI nO), .ref mf, .int (nI nFs13), .ref mc, .ref mm, .ref mk, .ref mb, .int lf, .int fl, .ref mu, .int f1, .int f2, .int ck, .ref ml, .ref mg, .ref mx])), (mf, .inl (cI, 900, .inl fFs13))]) (wr := []) (va_runV (As := [.int 221]) (rest := []) ⟨hx, hb, hml, hown, ht⟩ (c_M_say l D cI cB o mt mo mf mc mm mk mb mu ml mg mx th lim lf fl f1 f2 ck nT nO nFs13 fFs13 (by omega) 221 H.size) (ft_cwV 1 ht bw_503 bw_505 bw_21 bw_39 bw_506 (by decide) ⟨Nat.le_of_ble_eq_true rfl, Nat.le_of_ble_eq_true rfl⟩) ⟨ft_blind, va_recv hK hP (ci := 5) (q0 := 0) rfl rfl, (ft_pre hP hD hK hNW [0, 1] [0, 1] rfl rfl (by decide) rfl _)⟩ rfl rfl hl.1 rfl (lv_room (Nat.le_of_ble_eq_true rfl)) d_M_sayTurned_103 ⟨Nat.le_of_ble_eq_true rfl, Nat.le_of_ble_eq_true rfl⟩) hP hD hS hA [0, 1] [] rfl rfl (by decide) (by decide) (fun u_18 H locs hu_18 hP hD hS => ?_)
        obtain ⟨fFs16, nFs16⟩ := u_18
        have e_ns16 : nFs16 = nFs13 + 1 := congrArg Prod.snd hu_18
        have hP : va_P D vwCl [(o, .inr (5, [.int th, .ref mt, .int (nI nT), .int lim, .ref mo, .int (nI nO), .ref mf, .int (nI nFs16), .ref mc, .ref mm, .ref mk, .ref mb, .int lf, .int fl, .ref mu, .int f1, .int f2, .int ck, .ref ml, .ref mg, .ref mx])), (mf, .inl (cI, 900, .inl fFs16))] H := hP
        have hD : va_D A [(o, .inr (5, [.int th, .ref mt, .int (nI nT), .int lim, .ref mo, .int (nI nO), .ref mf, .int (nI nFs16), .ref mc, .ref mm, .ref mk, .ref mb, .int lf, .int fl, .ref mu, .int f1, .int f2, .int ck, .ref ml, .ref mg, .ref mx])), (mf, .inl (cI, 900, .inl fFs16))] := hD
        exact ft_retv (fFs16, nFs16) hx hb hr hlocks hP hK hD hS (by first | (exact absurd c9 c84) | (exact absurd c84 c9) | (show _ = asays (fF, nF) (wb1 b); rw [hu_18, hu_15]; simp [wb1, c9, c16, c84, asays])) d_M_sayTurned_106
      · skip
        refine lv_sipush (v := 220) hx hb d_M_sayTurned_87 (by decide +kernel) ?_
        refine lv_goto (tgt := 103) hx hb d_M_sayTurned_90 (by decide) ?_
        refine ft_cv (wc := [(o, .inr (5, [.int th, .ref mt, .int (nI nT), .int lim, .ref mo, .int (nI nO), .ref mf, .int (nI nFs13), .ref mc, .ref mm, .ref mk, .ref mb, .int lf, .int fl, .ref mu, .int f1, .int f2, .int ck, .ref ml, .ref mg, .ref mx])), (mf, .inl (cI, 900, .inl fFs13))]) (wr := []) (va_runV (As := [.int 220]) (rest := []) ⟨hx, hb, hml, hown, ht⟩ (c_M_say l D cI cB o mt mo mf mc mm mk mb mu ml mg mx th lim lf fl f1 f2 ck nT nO nFs13 fFs13 (by omega) 220 H.size) (ft_cwV 1 ht bw_503 bw_505 bw_21 bw_39 bw_506 (by decide) ⟨Nat.le_of_ble_eq_true rfl, Nat.le_of_ble_eq_true rfl⟩) ⟨ft_blind, va_recv hK hP (ci := 5) (q0 := 0) rfl rfl, (ft_pre hP hD hK hNW [0, 1] [0, 1] rfl rfl (by decide) rfl _)⟩ rfl rfl hl.1 rfl (lv_room (Nat.le_of_ble_eq_true rfl)) d_M_sayTurned_103 ⟨Nat.le_of_ble_eq_true rfl, Nat.le_of_ble_eq_true rfl⟩) hP hD hS hA [0, 1] [] rfl rfl (by decide) (by decide) (fun u_21 H locs hu_21 hP hD hS => ?_)
        obtain ⟨fFs19, nFs19⟩ := u_21
        have e_ns19 : nFs19 = nFs13 + 1 := congrArg Prod.snd hu_21
        have hP : va_P D vwCl [(o, .inr (5, [.int th, .ref mt, .int (nI nT), .int lim, .ref mo, .int (nI nO), .ref mf, .int (nI nFs19), .ref mc, .ref mm, .ref mk, .ref mb, .int lf, .int fl, .ref mu, .int f1, .int f2, .int ck, .ref ml, .ref mg, .ref mx])), (mf, .inl (cI, 900, .inl fFs19))] H := hP
        have hD : va_D A [(o, .inr (5, [.int th, .ref mt, .int (nI nT), .int lim, .ref mo, .int (nI nO), .ref mf, .int (nI nFs19), .ref mc, .ref mm, .ref mk, .ref mb, .int lf, .int fl, .ref mu, .int f1, .int f2, .int ck, .ref ml, .ref mg, .ref mx])), (mf, .inl (cI, 900, .inl fFs19))] := hD
        exact ft_retv (fFs19, nFs19) hx hb hr hlocks hP hK hD hS (by first | (exact absurd c9 c84) | (exact absurd c84 c9) | (show _ = asays (fF, nF) (wb1 b); rw [hu_21, hu_15]; simp [wb1, c9, c16, c84, asays])) d_M_sayTurned_106

set_option maxHeartbeats 4000000 in
set_option maxRecDepth 100000 in
theorem c_M_sayTurned_2 (l : Launch) (D : va_G) (cI : ClassId) (cB : ClassId) (o mt mo mf mc mm mk mb mu ml mg mx : Nat) (th lim lf fl f1 f2 ck : Int32) (nT nO nF : Nat) (fF : Nat → Int32) (hF : nF + 2 ≤ 900) (b : Int32) (sz : Nat) : ft_Mv l y_M_sayTurned (.code y_M_sayTurned b_M_sayTurned 4 none :: ft_big) ({ frames := 1, cells := 0, slots := 0, locals := 30 }) D [(cI, .int), (cB, .boolean)] sz [.ref o, .int (nI 2), .int b] [(o, .inr (5, [.int th, .ref mt, .int (nI nT), .int lim, .ref mo, .int (nI nO), .ref mf, .int (nI nF), .ref mc, .ref mm, .ref mk, .ref mb, .int lf, .int fl, .ref mu, .int f1, .int f2, .int ck, .ref ml, .ref mg, .ref mx])), (mf, .inl (cI, 900, .inl fF))] (fun u : AS => u = asays (fF, nF) (wb2 b)) (fun u : AS => [(o, .inr (5, [.int th, .ref mt, .int (nI nT), .int lim, .ref mo, .int (nI nO), .ref mf, .int (nI u.2), .ref mc, .ref mm, .ref mk, .ref mb, .int lf, .int fl, .ref mu, .int f1, .int f2, .int ck, .ref ml, .ref mg, .ref mx])), (mf, .inl (cI, 900, .inl u.1))]) 0 0 := by
  refine ft_ev (cc := b_M_sayTurned) (maxL := 4) (ret := none) (by decide) rfl (Nat.le_of_ble_eq_true rfl) ?_
  intro p e s m below meth c A ls hx hb hr hml hts hown hlocks hmn hP hK hD hA hS hNW hl
  have ht : ∀ w ∈ ft_big, w.before _ s = true := fun w h => hts w (List.mem_cons_of_mem _ h)
  have hP : va_P D vwCl [(o, .inr (5, [.int th, .ref mt, .int (nI nT), .int lim, .ref mo, .int (nI nO), .ref mf, .int (nI nF), .ref mc, .ref mm, .ref mk, .ref mb, .int lf, .int fl, .ref mu, .int f1, .int f2, .int ck, .ref ml, .ref mg, .ref mx])), (mf, .inl (cI, 900, .inl fF))] s.heap := hP
  have hD : va_D A [(o, .inr (5, [.int th, .ref mt, .int (nI nT), .int lim, .ref mo, .int (nI nO), .ref mf, .int (nI nF), .ref mc, .ref mm, .ref mk, .ref mb, .int lf, .int fl, .ref mu, .int f1, .int f2, .int ck, .ref ml, .ref mg, .ref mx])), (mf, .inl (cI, 900, .inl fF))] := hD
  have hl : lv_has ls 4 [(0, .ref o), (1, .int (nI 2)), (2, .int b)] := hl
  refine lv_iload_n hx hb d_M_sayTurned_0 rfl (lv_at hl 1 rfl) ?_
  refine lv_iconst (v := 1) hx hb d_M_sayTurned_1 (by decide +kernel) ?_
  refine lv_icmp_ne (tgt := 27) hx hb d_M_sayTurned_2 (by decide) (fun _ => ?_) (fun c2 => absurd c2 (by decide))
  refine lv_iload_n hx hb d_M_sayTurned_27 rfl (lv_at hl 2 rfl) ?_
  refine lv_bipush (v := 125) hx hb d_M_sayTurned_28 (by decide +kernel) ?_
  refine lv_icmp_eq (tgt := 39) hx hb d_M_sayTurned_30 (by decide) (fun c30 => ?_) (fun c30 => ?_)
  · skip
    refine lv_iconst (v := 1) hx hb d_M_sayTurned_39 (by decide +kernel) ?_
    refine lv_goto (tgt := 44) hx hb d_M_sayTurned_40 (by decide) ?_
    refine lv_istore_n (lv' := [(3, .int 1), (0, .ref o), (1, .int (nI 2)), (2, .int b)]) hx hb d_M_sayTurned_44 rfl hl (by decide) rfl (fun ls hl => ?_)
    refine lv_iload_n hx hb d_M_sayTurned_45 rfl (lv_at hl 0 rfl) ?_
    refine lv_if_eq (tgt := 66) hx hb d_M_sayTurned_46 (by decide) (fun c46 => absurd c46 (by decide)) (fun _ => ?_)
    refine lv_aload_n hx hb d_M_sayTurned_49 rfl (lv_at hl 1 rfl) ?_
    refine lv_iload_n hx hb d_M_sayTurned_50 rfl (lv_at hl 2 rfl) ?_
    refine lv_iconst (v := 1) hx hb d_M_sayTurned_51 (by decide +kernel) ?_
    refine lv_icmp_ne (tgt := 61) hx hb d_M_sayTurned_52 (by decide) (fun _ => ?_) (fun c52 => absurd c52 (by decide))
    refine lv_bipush (v := 125) hx hb d_M_sayTurned_61 (by decide +kernel) ?_
    refine ft_cv (wc := [(o, .inr (5, [.int th, .ref mt, .int (nI nT), .int lim, .ref mo, .int (nI nO), .ref mf, .int (nI nF), .ref mc, .ref mm, .ref mk, .ref mb, .int lf, .int fl, .ref mu, .int f1, .int f2, .int ck, .ref ml, .ref mg, .ref mx])), (mf, .inl (cI, 900, .inl fF))]) (wr := []) (va_runV (As := [.int 125]) (rest := []) ⟨hx, hb, hml, hown, ht⟩ (c_M_say l D cI cB o mt mo mf mc mm mk mb mu ml mg mx th lim lf fl f1 f2 ck nT nO nF fF (by omega) 125 s.heap.size) (ft_cwV 1 ht bw_503 bw_505 bw_21 bw_39 bw_506 (by decide) ⟨Nat.le_of_ble_eq_true rfl, Nat.le_of_ble_eq_true rfl⟩) ⟨ft_blind, va_recv hK hP (ci := 5) (q0 := 0) rfl rfl, (ft_pre hP hD hK hNW [0, 1] [0, 1] rfl rfl (by decide) rfl _)⟩ rfl rfl hl.1 rfl (lv_room (Nat.le_of_ble_eq_true rfl)) d_M_sayTurned_63 ⟨Nat.le_of_ble_eq_true rfl, Nat.le_of_ble_eq_true rfl⟩) hP hD hS hA [0, 1] [] rfl rfl (by decide) (by decide) (fun u_3 H locs hu_3 hP hD hS => ?_)
    obtain ⟨fFs1, nFs1⟩ := u_3
    have e_ns1 : nFs1 = nF + 1 := congrArg Prod.snd hu_3
    have hP : va_P D vwCl [(o, .inr (5, [.int th, .ref mt, .int (nI nT), .int lim, .ref mo, .int (nI nO), .ref mf, .int (nI nFs1), .ref mc, .ref mm, .ref mk, .ref mb, .int lf, .int fl, .ref mu, .int f1, .int f2, .int ck, .ref ml, .ref mg, .ref mx])), (mf, .inl (cI, 900, .inl fFs1))] H := hP
    have hD : va_D A [(o, .inr (5, [.int th, .ref mt, .int (nI nT), .int lim, .ref mo, .int (nI nO), .ref mf, .int (nI nFs1), .ref mc, .ref mm, .ref mk, .ref mb, .int lf, .int fl, .ref mu, .int f1, .int f2, .int ck, .ref ml, .ref mg, .ref mx])), (mf, .inl (cI, 900, .inl fFs1))] := hD
    refine lv_aload_n hx hb d_M_sayTurned_66 rfl (lv_at hl 1 rfl) ?_
    refine lv_iload_n hx hb d_M_sayTurned_67 rfl (lv_at hl 0 rfl) ?_
    refine lv_if_ne (tgt := 75) hx hb d_M_sayTurned_68 (by decide) (fun _ => ?_) (fun c68 => absurd c68 (by decide))
    refine lv_iload_n hx hb d_M_sayTurned_75 rfl (lv_at hl 2 rfl) ?_
    refine lv_iconst (v := 1) hx hb d_M_sayTurned_76 (by decide +kernel) ?_
    refine lv_icmp_ne (tgt := 99) hx hb d_M_sayTurned_77 (by decide) (fun _ => ?_) (fun c77 => absurd c77 (by decide))
    refine lv_iload_n hx hb d_M_sayTurned_99 rfl (lv_at hl 3 rfl) ?_
    refine lv_bipush (v := 32) hx hb d_M_sayTurned_100 (by decide +kernel) ?_
    refine lv_ixor hx hb d_M_sayTurned_102 ?_
    refine ft_cv (wc := [(o, .inr (5, [.int th, .ref mt, .int (nI nT), .int lim, .ref mo, .int (nI nO), .ref mf, .int (nI nFs1), .ref mc, .ref mm, .ref mk, .ref mb, .int lf, .int fl, .ref mu, .int f1, .int f2, .int ck, .ref ml, .ref mg, .ref mx])), (mf, .inl (cI, 900, .inl fFs1))]) (wr := []) (va_runV (As := [.int (b ^^^ 32)]) (rest := []) ⟨hx, hb, hml, hown, ht⟩ (c_M_say l D cI cB o mt mo mf mc mm mk mb mu ml mg mx th lim lf fl f1 f2 ck nT nO nFs1 fFs1 (by omega) (b ^^^ 32) H.size) (ft_cwV 1 ht bw_503 bw_505 bw_21 bw_39 bw_506 (by decide) ⟨Nat.le_of_ble_eq_true rfl, Nat.le_of_ble_eq_true rfl⟩) ⟨ft_blind, va_recv hK hP (ci := 5) (q0 := 0) rfl rfl, (ft_pre hP hD hK hNW [0, 1] [0, 1] rfl rfl (by decide) rfl _)⟩ rfl rfl hl.1 rfl (lv_room (Nat.le_of_ble_eq_true rfl)) d_M_sayTurned_103 ⟨Nat.le_of_ble_eq_true rfl, Nat.le_of_ble_eq_true rfl⟩) hP hD hS hA [0, 1] [] rfl rfl (by decide) (by decide) (fun u_6 H locs hu_6 hP hD hS => ?_)
    obtain ⟨fFs4, nFs4⟩ := u_6
    have e_ns4 : nFs4 = nFs1 + 1 := congrArg Prod.snd hu_6
    have hP : va_P D vwCl [(o, .inr (5, [.int th, .ref mt, .int (nI nT), .int lim, .ref mo, .int (nI nO), .ref mf, .int (nI nFs4), .ref mc, .ref mm, .ref mk, .ref mb, .int lf, .int fl, .ref mu, .int f1, .int f2, .int ck, .ref ml, .ref mg, .ref mx])), (mf, .inl (cI, 900, .inl fFs4))] H := hP
    have hD : va_D A [(o, .inr (5, [.int th, .ref mt, .int (nI nT), .int lim, .ref mo, .int (nI nO), .ref mf, .int (nI nFs4), .ref mc, .ref mm, .ref mk, .ref mb, .int lf, .int fl, .ref mu, .int f1, .int f2, .int ck, .ref ml, .ref mg, .ref mx])), (mf, .inl (cI, 900, .inl fFs4))] := hD
    exact ft_retv (fFs4, nFs4) hx hb hr hlocks hP hK hD hS (by (show _ = asays (fF, nF) (wb2 b); rw [hu_6, hu_3]; simp [wb2, c30, asays])) d_M_sayTurned_106
  · skip
    refine lv_iload_n hx hb d_M_sayTurned_33 rfl (lv_at hl 2 rfl) ?_
    refine lv_bipush (v := 126) hx hb d_M_sayTurned_34 (by decide +kernel) ?_
    refine lv_icmp_ne (tgt := 43) hx hb d_M_sayTurned_36 (by decide) (fun c36 => ?_) (fun c36 => ?_)
    · skip
      refine lv_iconst (v := 0) hx hb d_M_sayTurned_43 (by decide +kernel) ?_
      refine lv_istore_n (lv' := [(3, .int 0), (0, .ref o), (1, .int (nI 2)), (2, .int b)]) hx hb d_M_sayTurned_44 rfl hl (by decide) rfl (fun ls hl => ?_)
      refine lv_iload_n hx hb d_M_sayTurned_45 rfl (lv_at hl 0 rfl) ?_
      refine lv_if_eq (tgt := 66) hx hb d_M_sayTurned_46 (by decide) (fun _ => ?_) (fun c46 => absurd (by decide) c46)
      refine lv_aload_n hx hb d_M_sayTurned_66 rfl (lv_at hl 1 rfl) ?_
      refine lv_iload_n hx hb d_M_sayTurned_67 rfl (lv_at hl 0 rfl) ?_
      refine lv_if_ne (tgt := 75) hx hb d_M_sayTurned_68 (by decide) (fun c68 => absurd (by decide) c68) (fun _ => ?_)
      refine lv_iload_n hx hb d_M_sayTurned_71 rfl (lv_at hl 3 rfl) ?_
      refine lv_goto (tgt := 103) hx hb d_M_sayTurned_72 (by decide) ?_
      refine ft_cv (wc := [(o, .inr (5, [.int th, .ref mt, .int (nI nT), .int lim, .ref mo, .int (nI nO), .ref mf, .int (nI nF), .ref mc, .ref mm, .ref mk, .ref mb, .int lf, .int fl, .ref mu, .int f1, .int f2, .int ck, .ref ml, .ref mg, .ref mx])), (mf, .inl (cI, 900, .inl fF))]) (wr := []) (va_runV (As := [.int b]) (rest := []) ⟨hx, hb, hml, hown, ht⟩ (c_M_say l D cI cB o mt mo mf mc mm mk mb mu ml mg mx th lim lf fl f1 f2 ck nT nO nF fF (by omega) b s.heap.size) (ft_cwV 1 ht bw_503 bw_505 bw_21 bw_39 bw_506 (by decide) ⟨Nat.le_of_ble_eq_true rfl, Nat.le_of_ble_eq_true rfl⟩) ⟨ft_blind, va_recv hK hP (ci := 5) (q0 := 0) rfl rfl, (ft_pre hP hD hK hNW [0, 1] [0, 1] rfl rfl (by decide) rfl _)⟩ rfl rfl hl.1 rfl (lv_room (Nat.le_of_ble_eq_true rfl)) d_M_sayTurned_103 ⟨Nat.le_of_ble_eq_true rfl, Nat.le_of_ble_eq_true rfl⟩) hP hD hS hA [0, 1] [] rfl rfl (by decide) (by decide) (fun u_9 H locs hu_9 hP hD hS => ?_)
      obtain ⟨fFs7, nFs7⟩ := u_9
      have e_ns7 : nFs7 = nF + 1 := congrArg Prod.snd hu_9
      have hP : va_P D vwCl [(o, .inr (5, [.int th, .ref mt, .int (nI nT), .int lim, .ref mo, .int (nI nO), .ref mf, .int (nI nFs7), .ref mc, .ref mm, .ref mk, .ref mb, .int lf, .int fl, .ref mu, .int f1, .int f2, .int ck, .ref ml, .ref mg, .ref mx])), (mf, .inl (cI, 900, .inl fFs7))] H := hP
      have hD : va_D A [(o, .inr (5, [.int th, .ref mt, .int (nI nT), .int lim, .ref mo, .int (nI nO), .ref mf, .int (nI nFs7), .ref mc, .ref mm, .ref mk, .ref mb, .int lf, .int fl, .ref mu, .int f1, .int f2, .int ck, .ref ml, .ref mg, .ref mx])), (mf, .inl (cI, 900, .inl fFs7))] := hD
      exact ft_retv (fFs7, nFs7) hx hb hr hlocks hP hK hD hS (by (show _ = asays (fF, nF) (wb2 b); rw [hu_9]; simp [wb2, c30, c36, asays])) d_M_sayTurned_106
    · skip
      refine lv_iconst (v := 1) hx hb d_M_sayTurned_39 (by decide +kernel) ?_
      refine lv_goto (tgt := 44) hx hb d_M_sayTurned_40 (by decide) ?_
      refine lv_istore_n (lv' := [(3, .int 1), (0, .ref o), (1, .int (nI 2)), (2, .int b)]) hx hb d_M_sayTurned_44 rfl hl (by decide) rfl (fun ls hl => ?_)
      refine lv_iload_n hx hb d_M_sayTurned_45 rfl (lv_at hl 0 rfl) ?_
      refine lv_if_eq (tgt := 66) hx hb d_M_sayTurned_46 (by decide) (fun c46 => absurd c46 (by decide)) (fun _ => ?_)
      refine lv_aload_n hx hb d_M_sayTurned_49 rfl (lv_at hl 1 rfl) ?_
      refine lv_iload_n hx hb d_M_sayTurned_50 rfl (lv_at hl 2 rfl) ?_
      refine lv_iconst (v := 1) hx hb d_M_sayTurned_51 (by decide +kernel) ?_
      refine lv_icmp_ne (tgt := 61) hx hb d_M_sayTurned_52 (by decide) (fun _ => ?_) (fun c52 => absurd c52 (by decide))
      refine lv_bipush (v := 125) hx hb d_M_sayTurned_61 (by decide +kernel) ?_
      refine ft_cv (wc := [(o, .inr (5, [.int th, .ref mt, .int (nI nT), .int lim, .ref mo, .int (nI nO), .ref mf, .int (nI nF), .ref mc, .ref mm, .ref mk, .ref mb, .int lf, .int fl, .ref mu, .int f1, .int f2, .int ck, .ref ml, .ref mg, .ref mx])), (mf, .inl (cI, 900, .inl fF))]) (wr := []) (va_runV (As := [.int 125]) (rest := []) ⟨hx, hb, hml, hown, ht⟩ (c_M_say l D cI cB o mt mo mf mc mm mk mb mu ml mg mx th lim lf fl f1 f2 ck nT nO nF fF (by omega) 125 s.heap.size) (ft_cwV 1 ht bw_503 bw_505 bw_21 bw_39 bw_506 (by decide) ⟨Nat.le_of_ble_eq_true rfl, Nat.le_of_ble_eq_true rfl⟩) ⟨ft_blind, va_recv hK hP (ci := 5) (q0 := 0) rfl rfl, (ft_pre hP hD hK hNW [0, 1] [0, 1] rfl rfl (by decide) rfl _)⟩ rfl rfl hl.1 rfl (lv_room (Nat.le_of_ble_eq_true rfl)) d_M_sayTurned_63 ⟨Nat.le_of_ble_eq_true rfl, Nat.le_of_ble_eq_true rfl⟩) hP hD hS hA [0, 1] [] rfl rfl (by decide) (by decide) (fun u_12 H locs hu_12 hP hD hS => ?_)
      obtain ⟨fFs10, nFs10⟩ := u_12
      have e_ns10 : nFs10 = nF + 1 := congrArg Prod.snd hu_12
      have hP : va_P D vwCl [(o, .inr (5, [.int th, .ref mt, .int (nI nT), .int lim, .ref mo, .int (nI nO), .ref mf, .int (nI nFs10), .ref mc, .ref mm, .ref mk, .ref mb, .int lf, .int fl, .ref mu, .int f1, .int f2, .int ck, .ref ml, .ref mg, .ref mx])), (mf, .inl (cI, 900, .inl fFs10))] H := hP
      have hD : va_D A [(o, .inr (5, [.int th, .ref mt, .int (nI nT), .int lim, .ref mo, .int (nI nO), .ref mf, .int (nI nFs10), .ref mc, .ref mm, .ref mk, .ref mb, .int lf, .int fl, .ref mu, .int f1, .int f2, .int ck, .ref ml, .ref mg, .ref mx])), (mf, .inl (cI, 900, .inl fFs10))] := hD
      refine lv_aload_n hx hb d_M_sayTurned_66 rfl (lv_at hl 1 rfl) ?_
      refine lv_iload_n hx hb d_M_sayTurned_67 rfl (lv_at hl 0 rfl) ?_
      refine lv_if_ne (tgt := 75) hx hb d_M_sayTurned_68 (by decide) (fun _ => ?_) (fun c68 => absurd c68 (by decide))
      refine lv_iload_n hx hb d_M_sayTurned_75 rfl (lv_at hl 2 rfl) ?_
      refine lv_iconst (v := 1) hx hb d_M_sayTurned_76 (by decide +kernel) ?_
      refine lv_icmp_ne (tgt := 99) hx hb d_M_sayTurned_77 (by decide) (fun _ => ?_) (fun c77 => absurd c77 (by decide))
      refine lv_iload_n hx hb d_M_sayTurned_99 rfl (lv_at hl 3 rfl) ?_
      refine lv_bipush (v := 32) hx hb d_M_sayTurned_100 (by decide +kernel) ?_
      refine lv_ixor hx hb d_M_sayTurned_102 ?_
      refine ft_cv (wc := [(o, .inr (5, [.int th, .ref mt, .int (nI nT), .int lim, .ref mo, .int (nI nO), .ref mf, .int (nI nFs10), .ref mc, .ref mm, .ref mk, .ref mb, .int lf, .int fl, .ref mu, .int f1, .int f2, .int ck, .ref ml, .ref mg, .ref mx])), (mf, .inl (cI, 900, .inl fFs10))]) (wr := []) (va_runV (As := [.int (b ^^^ 32)]) (rest := []) ⟨hx, hb, hml, hown, ht⟩ (c_M_say l D cI cB o mt mo mf mc mm mk mb mu ml mg mx th lim lf fl f1 f2 ck nT nO nFs10 fFs10 (by omega) (b ^^^ 32) H.size) (ft_cwV 1 ht bw_503 bw_505 bw_21 bw_39 bw_506 (by decide) ⟨Nat.le_of_ble_eq_true rfl, Nat.le_of_ble_eq_true rfl⟩) ⟨ft_blind, va_recv hK hP (ci := 5) (q0 := 0) rfl rfl, (ft_pre hP hD hK hNW [0, 1] [0, 1] rfl rfl (by decide) rfl _)⟩ rfl rfl hl.1 rfl (lv_room (Nat.le_of_ble_eq_true rfl)) d_M_sayTurned_103 ⟨Nat.le_of_ble_eq_true rfl, Nat.le_of_ble_eq_true rfl⟩) hP hD hS hA [0, 1] [] rfl rfl (by decide) (by decide) (fun u_15 H locs hu_15 hP hD hS => ?_)
      obtain ⟨fFs13, nFs13⟩ := u_15
      have e_ns13 : nFs13 = nFs10 + 1 := congrArg Prod.snd hu_15
      have hP : va_P D vwCl [(o, .inr (5, [.int th, .ref mt, .int (nI nT), .int lim, .ref mo, .int (nI nO), .ref mf, .int (nI nFs13), .ref mc, .ref mm, .ref mk, .ref mb, .int lf, .int fl, .ref mu, .int f1, .int f2, .int ck, .ref ml, .ref mg, .ref mx])), (mf, .inl (cI, 900, .inl fFs13))] H := hP
      have hD : va_D A [(o, .inr (5, [.int th, .ref mt, .int (nI nT), .int lim, .ref mo, .int (nI nO), .ref mf, .int (nI nFs13), .ref mc, .ref mm, .ref mk, .ref mb, .int lf, .int fl, .ref mu, .int f1, .int f2, .int ck, .ref ml, .ref mg, .ref mx])), (mf, .inl (cI, 900, .inl fFs13))] := hD
      exact ft_retv (fFs13, nFs13) hx hb hr hlocks hP hK hD hS (by (show _ = asays (fF, nF) (wb2 b); rw [hu_15, hu_12]; simp [wb2, c30, c36, asays])) d_M_sayTurned_106
