set_option maxHeartbeats 4000000 in
set_option maxRecDepth 100000 in
theorem c_M_keep_0 (l : Launch) (D : va_G) (cI : ClassId) (cB : ClassId) (o mt mo mf mc mm mk mb mu ml mg mx : Nat) (th lim lf fl f1 f2 ck : Int32) (nT nO nF : Nat) (mn : Nat → Nat) (kp : Nat → Int32) (hM : mn 0 < 1073741824) (b : Int32) (sz : Nat) : ft_Mv l y_M_keep (.code y_M_keep b_M_keep 3 none :: ft_big) ({ frames := 0, cells := 0, slots := 0, locals := 0 }) D [(cI, .int), (cB, .boolean)] sz [.ref o, .int (nI 0), .int b] [(o, .inr (5, [.int th, .ref mt, .int (nI nT), .int lim, .ref mo, .int (nI nO), .ref mf, .int (nI nF), .ref mc, .ref mm, .ref mk, .ref mb, .int lf, .int fl, .ref mu, .int f1, .int f2, .int ck, .ref ml, .ref mg, .ref mx])), (mm, .inl (cI, 3, .inl (fun j => nI (mn j)))), (mk, .inl (cI, 1200, .inl kp))] (fun u : (Nat → Nat) × (Nat → Int32) => u = keepM 0 b mn kp) (fun u => [(o, .inr (5, [.int th, .ref mt, .int (nI nT), .int lim, .ref mo, .int (nI nO), .ref mf, .int (nI nF), .ref mc, .ref mm, .ref mk, .ref mb, .int lf, .int fl, .ref mu, .int f1, .int f2, .int ck, .ref ml, .ref mg, .ref mx])), (mm, .inl (cI, 3, .inl (fun j => nI (u.1 j)))), (mk, .inl (cI, 1200, .inl u.2))]) 0 0 := by
  refine ft_ev (cc := b_M_keep) (maxL := 3) (ret := none) (by decide) rfl (Nat.le_of_ble_eq_true rfl) ?_
  intro p e s m below meth c A ls hx hb hr hml hts hown hlocks hmn hP hK hD hA hS hNW hl
  have ht : ∀ w ∈ ft_big, w.before _ s = true := fun w h => hts w (List.mem_cons_of_mem _ h)
  have hP : va_P D vwCl [(o, .inr (5, [.int th, .ref mt, .int (nI nT), .int lim, .ref mo, .int (nI nO), .ref mf, .int (nI nF), .ref mc, .ref mm, .ref mk, .ref mb, .int lf, .int fl, .ref mu, .int f1, .int f2, .int ck, .ref ml, .ref mg, .ref mx])), (mm, .inl (cI, 3, .inl (fun j => nI (mn j)))), (mk, .inl (cI, 1200, .inl kp))] s.heap := hP
  have hD : va_D A [(o, .inr (5, [.int th, .ref mt, .int (nI nT), .int lim, .ref mo, .int (nI nO), .ref mf, .int (nI nF), .ref mc, .ref mm, .ref mk, .ref mb, .int lf, .int fl, .ref mu, .int f1, .int f2, .int ck, .ref ml, .ref mg, .ref mx])), (mm, .inl (cI, 3, .inl (fun j => nI (mn j)))), (mk, .inl (cI, 1200, .inl kp))] := hD
  have hl : lv_has ls 3 [(0, .ref o), (1, .int (nI 0)), (2, .int b)] := hl
  refine lv_aload_n hx hb d_M_keep_0 rfl (lv_at hl 0 rfl) ?_
  refine va_get (D := D) (ci := 5) (v := .ref mm) (C := R_M) (T := F_M) (N := 21) hx hb ht bi_M hown hK hP 0 rfl rfl 9 (by decide) (ht _ bw_416) (fun _ h9 => h9) rfl d_M_keep_1 ?_
  refine lv_iload_n hx hb d_M_keep_4 rfl (lv_at hl 1 rfl) ?_
  refine va_iald hx hb hK hP 1 0 rfl rfl (vp_in_nI (by omega) (by omega)) d_M_keep_5 ?_
  refine ft_top (y := nI (mn 0)) (congrArg (fun j => nI (mn j)) (by decide)) ?_
  refine lv_sipush (v := nI 400) hx hb d_M_keep_6 (by decide +kernel) ?_
  refine lv_icmp_ge (tgt := 30) hx hb d_M_keep_9 (by decide) (fun c9 => ?_) (fun c9 => ?_)
  · skip
    have c9 : 400 ≤ mn 0 := (nI_leI (by omega) (by omega)).mp c9
    have z9 : ¬ mn 0 < 400 := by omega
    refine lv_aload_n hx hb d_M_keep_30 rfl (lv_at hl 0 rfl) ?_
    refine va_get (D := D) (ci := 5) (v := .ref mm) (C := R_M) (T := F_M) (N := 21) hx hb ht bi_M hown hK hP 0 rfl rfl 9 (by decide) (ht _ bw_416) (fun _ h9 => h9) rfl d_M_keep_31 ?_
    refine lv_iload_n hx hb d_M_keep_34 rfl (lv_at hl 1 rfl) ?_
    refine lv_dup2_11 hx hb d_M_keep_35 rfl rfl ?_
    refine va_iald hx hb hK hP 1 0 rfl rfl (vp_in_nI (by omega) (by omega)) d_M_keep_36 ?_
    refine ft_top (y := nI (mn 0)) (congrArg (fun j => nI (mn j)) (by decide)) ?_
    refine lv_iconst (v := nI 1) hx hb d_M_keep_37 (by decide +kernel) ?_
    refine lv_iadd hx hb d_M_keep_38 ?_
    refine ft_top (nI_add (mn 0) 1) ?_
    refine va_iast hx hb hK hP hD hS 1 0 rfl rfl (vp_in_nI (by omega) (by omega)) d_M_keep_39 (fun H locs hP hD hS => ?_)
    rw [show (nI 0).toNatClampNeg = 0 from by decide] at hP hD
    rw [upd_nI] at hP hD
    obtain ⟨mn_1, emn_1⟩ : ∃ g : Nat → Nat, g = va_up mn 0 (mn 0 + 1) := ⟨_, rfl⟩
    rw [← emn_1] at hP hD
    have hP : va_P D vwCl [(o, .inr (5, [.int th, .ref mt, .int (nI nT), .int lim, .ref mo, .int (nI nO), .ref mf, .int (nI nF), .ref mc, .ref mm, .ref mk, .ref mb, .int lf, .int fl, .ref mu, .int f1, .int f2, .int ck, .ref ml, .ref mg, .ref mx])), (mm, .inl (cI, 3, .inl (fun j => nI (mn_1 j)))), (mk, .inl (cI, 1200, .inl kp))] H := hP
    have hD : va_D A [(o, .inr (5, [.int th, .ref mt, .int (nI nT), .int lim, .ref mo, .int (nI nO), .ref mf, .int (nI nF), .ref mc, .ref mm, .ref mk, .ref mb, .int lf, .int fl, .ref mu, .int f1, .int f2, .int ck, .ref ml, .ref mg, .ref mx])), (mm, .inl (cI, 3, .inl (fun j => nI (mn_1 j)))), (mk, .inl (cI, 1200, .inl kp))] := hD
    exact ft_retv (mn_1, kp) hx hb hr hlocks hP hK hD hS (by show _ = keepM 0 b mn kp; simp [keepM, z9, emn_1]) d_M_keep_40
  · skip
    have c9 : ¬ 400 ≤ mn 0 := fun h => c9 ((nI_leI (by omega) (by omega)).mpr h)
    have z9 : mn 0 < 400 := by omega
    refine lv_aload_n hx hb d_M_keep_12 rfl (lv_at hl 0 rfl) ?_
    refine va_get (D := D) (ci := 5) (v := .ref mk) (C := R_M) (T := F_M) (N := 21) hx hb ht bi_M hown hK hP 0 rfl rfl 10 (by decide) (ht _ bw_417) (fun _ h9 => h9) rfl d_M_keep_13 ?_
    refine lv_sipush (v := nI 400) hx hb d_M_keep_16 (by decide +kernel) ?_
    refine lv_iload_n hx hb d_M_keep_19 rfl (lv_at hl 1 rfl) ?_
    refine lv_imul hx hb d_M_keep_20 ?_
    refine ft_top (show nI 400 * nI 0 = nI 0 from by decide) ?_
    refine lv_aload_n hx hb d_M_keep_21 rfl (lv_at hl 0 rfl) ?_
    refine va_get (D := D) (ci := 5) (v := .ref mm) (C := R_M) (T := F_M) (N := 21) hx hb ht bi_M hown hK hP 0 rfl rfl 9 (by decide) (ht _ bw_416) (fun _ h9 => h9) rfl d_M_keep_22 ?_
    refine lv_iload_n hx hb d_M_keep_25 rfl (lv_at hl 1 rfl) ?_
    refine va_iald hx hb hK hP 1 0 rfl rfl (vp_in_nI (by omega) (by omega)) d_M_keep_26 ?_
    refine ft_top (y := nI (mn 0)) (congrArg (fun j => nI (mn j)) (by decide)) ?_
    refine lv_iadd hx hb d_M_keep_27 ?_
    refine ft_top (nI_add 0 (mn 0)) ?_
    refine lv_iload_n hx hb d_M_keep_28 rfl (lv_at hl 2 rfl) ?_
    refine va_iast hx hb hK hP hD hS 2 0 rfl rfl (vp_in_nI (by omega) (by omega)) d_M_keep_29 (fun H locs hP hD hS => ?_)
    rw [nI_clamp (n := 0 + mn 0) (by omega)] at hP hD
    obtain ⟨kp_2, ekp_2⟩ : ∃ g : Nat → Int32, g = upd kp (0 + mn 0) b := ⟨_, rfl⟩
    rw [← ekp_2] at hP hD
    have hP : va_P D vwCl [(o, .inr (5, [.int th, .ref mt, .int (nI nT), .int lim, .ref mo, .int (nI nO), .ref mf, .int (nI nF), .ref mc, .ref mm, .ref mk, .ref mb, .int lf, .int fl, .ref mu, .int f1, .int f2, .int ck, .ref ml, .ref mg, .ref mx])), (mm, .inl (cI, 3, .inl (fun j => nI (mn j)))), (mk, .inl (cI, 1200, .inl kp_2))] H := hP
    have hD : va_D A [(o, .inr (5, [.int th, .ref mt, .int (nI nT), .int lim, .ref mo, .int (nI nO), .ref mf, .int (nI nF), .ref mc, .ref mm, .ref mk, .ref mb, .int lf, .int fl, .ref mu, .int f1, .int f2, .int ck, .ref ml, .ref mg, .ref mx])), (mm, .inl (cI, 3, .inl (fun j => nI (mn j)))), (mk, .inl (cI, 1200, .inl kp_2))] := hD
    refine lv_aload_n hx hb d_M_keep_30 rfl (lv_at hl 0 rfl) ?_
    refine va_get (D := D) (ci := 5) (v := .ref mm) (C := R_M) (T := F_M) (N := 21) hx hb ht bi_M hown hK hP 0 rfl rfl 9 (by decide) (ht _ bw_416) (fun _ h9 => h9) rfl d_M_keep_31 ?_
    refine lv_iload_n hx hb d_M_keep_34 rfl (lv_at hl 1 rfl) ?_
    refine lv_dup2_11 hx hb d_M_keep_35 rfl rfl ?_
    refine va_iald hx hb hK hP 1 0 rfl rfl (vp_in_nI (by omega) (by omega)) d_M_keep_36 ?_
    refine ft_top (y := nI (mn 0)) (congrArg (fun j => nI (mn j)) (by decide)) ?_
    refine lv_iconst (v := nI 1) hx hb d_M_keep_37 (by decide +kernel) ?_
    refine lv_iadd hx hb d_M_keep_38 ?_
    refine ft_top (nI_add (mn 0) 1) ?_
    refine va_iast hx hb hK hP hD hS 1 0 rfl rfl (vp_in_nI (by omega) (by omega)) d_M_keep_39 (fun H locs hP hD hS => ?_)
    rw [show (nI 0).toNatClampNeg = 0 from by decide] at hP hD
    rw [upd_nI] at hP hD
    obtain ⟨mn_3, emn_3⟩ : ∃ g : Nat → Nat, g = va_up mn 0 (mn 0 + 1) := ⟨_, rfl⟩
    rw [← emn_3] at hP hD
    have hP : va_P D vwCl [(o, .inr (5, [.int th, .ref mt, .int (nI nT), .int lim, .ref mo, .int (nI nO), .ref mf, .int (nI nF), .ref mc, .ref mm, .ref mk, .ref mb, .int lf, .int fl, .ref mu, .int f1, .int f2, .int ck, .ref ml, .ref mg, .ref mx])), (mm, .inl (cI, 3, .inl (fun j => nI (mn_3 j)))), (mk, .inl (cI, 1200, .inl kp_2))] H := hP
    have hD : va_D A [(o, .inr (5, [.int th, .ref mt, .int (nI nT), .int lim, .ref mo, .int (nI nO), .ref mf, .int (nI nF), .ref mc, .ref mm, .ref mk, .ref mb, .int lf, .int fl, .ref mu, .int f1, .int f2, .int ck, .ref ml, .ref mg, .ref mx])), (mm, .inl (cI, 3, .inl (fun j => nI (mn_3 j)))), (mk, .inl (cI, 1200, .inl kp_2))] := hD
    exact ft_retv (mn_3, kp_2) hx hb hr hlocks hP hK hD hS (by show _ = keepM 0 b mn kp; simp [keepM, z9, ekp_2, emn_3]) d_M_keep_40

set_option maxHeartbeats 4000000 in
set_option maxRecDepth 100000 in
theorem c_M_keep_1 (l : Launch) (D : va_G) (cI : ClassId) (cB : ClassId) (o mt mo mf mc mm mk mb mu ml mg mx : Nat) (th lim lf fl f1 f2 ck : Int32) (nT nO nF : Nat) (mn : Nat → Nat) (kp : Nat → Int32) (hM : mn 1 < 1073741824) (b : Int32) (sz : Nat) : ft_Mv l y_M_keep (.code y_M_keep b_M_keep 3 none :: ft_big) ({ frames := 0, cells := 0, slots := 0, locals := 0 }) D [(cI, .int), (cB, .boolean)] sz [.ref o, .int (nI 1), .int b] [(o, .inr (5, [.int th, .ref mt, .int (nI nT), .int lim, .ref mo, .int (nI nO), .ref mf, .int (nI nF), .ref mc, .ref mm, .ref mk, .ref mb, .int lf, .int fl, .ref mu, .int f1, .int f2, .int ck, .ref ml, .ref mg, .ref mx])), (mm, .inl (cI, 3, .inl (fun j => nI (mn j)))), (mk, .inl (cI, 1200, .inl kp))] (fun u : (Nat → Nat) × (Nat → Int32) => u = keepM 1 b mn kp) (fun u => [(o, .inr (5, [.int th, .ref mt, .int (nI nT), .int lim, .ref mo, .int (nI nO), .ref mf, .int (nI nF), .ref mc, .ref mm, .ref mk, .ref mb, .int lf, .int fl, .ref mu, .int f1, .int f2, .int ck, .ref ml, .ref mg, .ref mx])), (mm, .inl (cI, 3, .inl (fun j => nI (u.1 j)))), (mk, .inl (cI, 1200, .inl u.2))]) 0 0 := by
  refine ft_ev (cc := b_M_keep) (maxL := 3) (ret := none) (by decide) rfl (Nat.le_of_ble_eq_true rfl) ?_
  intro p e s m below meth c A ls hx hb hr hml hts hown hlocks hmn hP hK hD hA hS hNW hl
  have ht : ∀ w ∈ ft_big, w.before _ s = true := fun w h => hts w (List.mem_cons_of_mem _ h)
  have hP : va_P D vwCl [(o, .inr (5, [.int th, .ref mt, .int (nI nT), .int lim, .ref mo, .int (nI nO), .ref mf, .int (nI nF), .ref mc, .ref mm, .ref mk, .ref mb, .int lf, .int fl, .ref mu, .int f1, .int f2, .int ck, .ref ml, .ref mg, .ref mx])), (mm, .inl (cI, 3, .inl (fun j => nI (mn j)))), (mk, .inl (cI, 1200, .inl kp))] s.heap := hP
  have hD : va_D A [(o, .inr (5, [.int th, .ref mt, .int (nI nT), .int lim, .ref mo, .int (nI nO), .ref mf, .int (nI nF), .ref mc, .ref mm, .ref mk, .ref mb, .int lf, .int fl, .ref mu, .int f1, .int f2, .int ck, .ref ml, .ref mg, .ref mx])), (mm, .inl (cI, 3, .inl (fun j => nI (mn j)))), (mk, .inl (cI, 1200, .inl kp))] := hD
  have hl : lv_has ls 3 [(0, .ref o), (1, .int (nI 1)), (2, .int b)] := hl
  refine lv_aload_n hx hb d_M_keep_0 rfl (lv_at hl 0 rfl) ?_
  refine va_get (D := D) (ci := 5) (v := .ref mm) (C := R_M) (T := F_M) (N := 21) hx hb ht bi_M hown hK hP 0 rfl rfl 9 (by decide) (ht _ bw_416) (fun _ h9 => h9) rfl d_M_keep_1 ?_
  refine lv_iload_n hx hb d_M_keep_4 rfl (lv_at hl 1 rfl) ?_
  refine va_iald hx hb hK hP 1 0 rfl rfl (vp_in_nI (by omega) (by omega)) d_M_keep_5 ?_
  refine ft_top (y := nI (mn 1)) (congrArg (fun j => nI (mn j)) (by decide)) ?_
  refine lv_sipush (v := nI 400) hx hb d_M_keep_6 (by decide +kernel) ?_
  refine lv_icmp_ge (tgt := 30) hx hb d_M_keep_9 (by decide) (fun c9 => ?_) (fun c9 => ?_)
  · skip
    have c9 : 400 ≤ mn 1 := (nI_leI (by omega) (by omega)).mp c9
    have z9 : ¬ mn 1 < 400 := by omega
    refine lv_aload_n hx hb d_M_keep_30 rfl (lv_at hl 0 rfl) ?_
    refine va_get (D := D) (ci := 5) (v := .ref mm) (C := R_M) (T := F_M) (N := 21) hx hb ht bi_M hown hK hP 0 rfl rfl 9 (by decide) (ht _ bw_416) (fun _ h9 => h9) rfl d_M_keep_31 ?_
    refine lv_iload_n hx hb d_M_keep_34 rfl (lv_at hl 1 rfl) ?_
    refine lv_dup2_11 hx hb d_M_keep_35 rfl rfl ?_
    refine va_iald hx hb hK hP 1 0 rfl rfl (vp_in_nI (by omega) (by omega)) d_M_keep_36 ?_
    refine ft_top (y := nI (mn 1)) (congrArg (fun j => nI (mn j)) (by decide)) ?_
    refine lv_iconst (v := nI 1) hx hb d_M_keep_37 (by decide +kernel) ?_
    refine lv_iadd hx hb d_M_keep_38 ?_
    refine ft_top (nI_add (mn 1) 1) ?_
    refine va_iast hx hb hK hP hD hS 1 0 rfl rfl (vp_in_nI (by omega) (by omega)) d_M_keep_39 (fun H locs hP hD hS => ?_)
    rw [show (nI 1).toNatClampNeg = 1 from by decide] at hP hD
    rw [upd_nI] at hP hD
    obtain ⟨mn_1, emn_1⟩ : ∃ g : Nat → Nat, g = va_up mn 1 (mn 1 + 1) := ⟨_, rfl⟩
    rw [← emn_1] at hP hD
    have hP : va_P D vwCl [(o, .inr (5, [.int th, .ref mt, .int (nI nT), .int lim, .ref mo, .int (nI nO), .ref mf, .int (nI nF), .ref mc, .ref mm, .ref mk, .ref mb, .int lf, .int fl, .ref mu, .int f1, .int f2, .int ck, .ref ml, .ref mg, .ref mx])), (mm, .inl (cI, 3, .inl (fun j => nI (mn_1 j)))), (mk, .inl (cI, 1200, .inl kp))] H := hP
    have hD : va_D A [(o, .inr (5, [.int th, .ref mt, .int (nI nT), .int lim, .ref mo, .int (nI nO), .ref mf, .int (nI nF), .ref mc, .ref mm, .ref mk, .ref mb, .int lf, .int fl, .ref mu, .int f1, .int f2, .int ck, .ref ml, .ref mg, .ref mx])), (mm, .inl (cI, 3, .inl (fun j => nI (mn_1 j)))), (mk, .inl (cI, 1200, .inl kp))] := hD
    exact ft_retv (mn_1, kp) hx hb hr hlocks hP hK hD hS (by show _ = keepM 1 b mn kp; simp [keepM, z9, emn_1]) d_M_keep_40
  · skip
    have c9 : ¬ 400 ≤ mn 1 := fun h => c9 ((nI_leI (by omega) (by omega)).mpr h)
    have z9 : mn 1 < 400 := by omega
    refine lv_aload_n hx hb d_M_keep_12 rfl (lv_at hl 0 rfl) ?_
    refine va_get (D := D) (ci := 5) (v := .ref mk) (C := R_M) (T := F_M) (N := 21) hx hb ht bi_M hown hK hP 0 rfl rfl 10 (by decide) (ht _ bw_417) (fun _ h9 => h9) rfl d_M_keep_13 ?_
    refine lv_sipush (v := nI 400) hx hb d_M_keep_16 (by decide +kernel) ?_
    refine lv_iload_n hx hb d_M_keep_19 rfl (lv_at hl 1 rfl) ?_
    refine lv_imul hx hb d_M_keep_20 ?_
    refine ft_top (show nI 400 * nI 1 = nI 400 from by decide) ?_
    refine lv_aload_n hx hb d_M_keep_21 rfl (lv_at hl 0 rfl) ?_
    refine va_get (D := D) (ci := 5) (v := .ref mm) (C := R_M) (T := F_M) (N := 21) hx hb ht bi_M hown hK hP 0 rfl rfl 9 (by decide) (ht _ bw_416) (fun _ h9 => h9) rfl d_M_keep_22 ?_
    refine lv_iload_n hx hb d_M_keep_25 rfl (lv_at hl 1 rfl) ?_
    refine va_iald hx hb hK hP 1 0 rfl rfl (vp_in_nI (by omega) (by omega)) d_M_keep_26 ?_
    refine ft_top (y := nI (mn 1)) (congrArg (fun j => nI (mn j)) (by decide)) ?_
    refine lv_iadd hx hb d_M_keep_27 ?_
    refine ft_top (nI_add 400 (mn 1)) ?_
    refine lv_iload_n hx hb d_M_keep_28 rfl (lv_at hl 2 rfl) ?_
    refine va_iast hx hb hK hP hD hS 2 0 rfl rfl (vp_in_nI (by omega) (by omega)) d_M_keep_29 (fun H locs hP hD hS => ?_)
    rw [nI_clamp (n := 400 + mn 1) (by omega)] at hP hD
    obtain ⟨kp_2, ekp_2⟩ : ∃ g : Nat → Int32, g = upd kp (400 + mn 1) b := ⟨_, rfl⟩
    rw [← ekp_2] at hP hD
    have hP : va_P D vwCl [(o, .inr (5, [.int th, .ref mt, .int (nI nT), .int lim, .ref mo, .int (nI nO), .ref mf, .int (nI nF), .ref mc, .ref mm, .ref mk, .ref mb, .int lf, .int fl, .ref mu, .int f1, .int f2, .int ck, .ref ml, .ref mg, .ref mx])), (mm, .inl (cI, 3, .inl (fun j => nI (mn j)))), (mk, .inl (cI, 1200, .inl kp_2))] H := hP
    have hD : va_D A [(o, .inr (5, [.int th, .ref mt, .int (nI nT), .int lim, .ref mo, .int (nI nO), .ref mf, .int (nI nF), .ref mc, .ref mm, .ref mk, .ref mb, .int lf, .int fl, .ref mu, .int f1, .int f2, .int ck, .ref ml, .ref mg, .ref mx])), (mm, .inl (cI, 3, .inl (fun j => nI (mn j)))), (mk, .inl (cI, 1200, .inl kp_2))] := hD
    refine lv_aload_n hx hb d_M_keep_30 rfl (lv_at hl 0 rfl) ?_
    refine va_get (D := D) (ci := 5) (v := .ref mm) (C := R_M) (T := F_M) (N := 21) hx hb ht bi_M hown hK hP 0 rfl rfl 9 (by decide) (ht _ bw_416) (fun _ h9 => h9) rfl d_M_keep_31 ?_
    refine lv_iload_n hx hb d_M_keep_34 rfl (lv_at hl 1 rfl) ?_
    refine lv_dup2_11 hx hb d_M_keep_35 rfl rfl ?_
    refine va_iald hx hb hK hP 1 0 rfl rfl (vp_in_nI (by omega) (by omega)) d_M_keep_36 ?_
    refine ft_top (y := nI (mn 1)) (congrArg (fun j => nI (mn j)) (by decide)) ?_
    refine lv_iconst (v := nI 1) hx hb d_M_keep_37 (by decide +kernel) ?_
    refine lv_iadd hx hb d_M_keep_38 ?_
    refine ft_top (nI_add (mn 1) 1) ?_
    refine va_iast hx hb hK hP hD hS 1 0 rfl rfl (vp_in_nI (by omega) (by omega)) d_M_keep_39 (fun H locs hP hD hS => ?_)
    rw [show (nI 1).toNatClampNeg = 1 from by decide] at hP hD
    rw [upd_nI] at hP hD
    obtain ⟨mn_3, emn_3⟩ : ∃ g : Nat → Nat, g = va_up mn 1 (mn 1 + 1) := ⟨_, rfl⟩
    rw [← emn_3] at hP hD
    have hP : va_P D vwCl [(o, .inr (5, [.int th, .ref mt, .int (nI nT), .int lim, .ref mo, .int (nI nO), .ref mf, .int (nI nF), .ref mc, .ref mm, .ref mk, .ref mb, .int lf, .int fl, .ref mu, .int f1, .int f2, .int ck, .ref ml, .ref mg, .ref mx])), (mm, .inl (cI, 3, .inl (fun j => nI (mn_3 j)))), (mk, .inl (cI, 1200, .inl kp_2))] H := hP
    have hD : va_D A [(o, .inr (5, [.int th, .ref mt, .int (nI nT), .int lim, .ref mo, .int (nI nO), .ref mf, .int (nI nF), .ref mc, .ref mm, .ref mk, .ref mb, .int lf, .int fl, .ref mu, .int f1, .int f2, .int ck, .ref ml, .ref mg, .ref mx])), (mm, .inl (cI, 3, .inl (fun j => nI (mn_3 j)))), (mk, .inl (cI, 1200, .inl kp_2))] := hD
    exact ft_retv (mn_3, kp_2) hx hb hr hlocks hP hK hD hS (by show _ = keepM 1 b mn kp; simp [keepM, z9, ekp_2, emn_3]) d_M_keep_40

set_option maxHeartbeats 4000000 in
set_option maxRecDepth 100000 in
theorem c_M_keep_2 (l : Launch) (D : va_G) (cI : ClassId) (cB : ClassId) (o mt mo mf mc mm mk mb mu ml mg mx : Nat) (th lim lf fl f1 f2 ck : Int32) (nT nO nF : Nat) (mn : Nat → Nat) (kp : Nat → Int32) (hM : mn 2 < 1073741824) (b : Int32) (sz : Nat) : ft_Mv l y_M_keep (.code y_M_keep b_M_keep 3 none :: ft_big) ({ frames := 0, cells := 0, slots := 0, locals := 0 }) D [(cI, .int), (cB, .boolean)] sz [.ref o, .int (nI 2), .int b] [(o, .inr (5, [.int th, .ref mt, .int (nI nT), .int lim, .ref mo, .int (nI nO), .ref mf, .int (nI nF), .ref mc, .ref mm, .ref mk, .ref mb, .int lf, .int fl, .ref mu, .int f1, .int f2, .int ck, .ref ml, .ref mg, .ref mx])), (mm, .inl (cI, 3, .inl (fun j => nI (mn j)))), (mk, .inl (cI, 1200, .inl kp))] (fun u : (Nat → Nat) × (Nat → Int32) => u = keepM 2 b mn kp) (fun u => [(o, .inr (5, [.int th, .ref mt, .int (nI nT), .int lim, .ref mo, .int (nI nO), .ref mf, .int (nI nF), .ref mc, .ref mm, .ref mk, .ref mb, .int lf, .int fl, .ref mu, .int f1, .int f2, .int ck, .ref ml, .ref mg, .ref mx])), (mm, .inl (cI, 3, .inl (fun j => nI (u.1 j)))), (mk, .inl (cI, 1200, .inl u.2))]) 0 0 := by
  refine ft_ev (cc := b_M_keep) (maxL := 3) (ret := none) (by decide) rfl (Nat.le_of_ble_eq_true rfl) ?_
  intro p e s m below meth c A ls hx hb hr hml hts hown hlocks hmn hP hK hD hA hS hNW hl
  have ht : ∀ w ∈ ft_big, w.before _ s = true := fun w h => hts w (List.mem_cons_of_mem _ h)
  have hP : va_P D vwCl [(o, .inr (5, [.int th, .ref mt, .int (nI nT), .int lim, .ref mo, .int (nI nO), .ref mf, .int (nI nF), .ref mc, .ref mm, .ref mk, .ref mb, .int lf, .int fl, .ref mu, .int f1, .int f2, .int ck, .ref ml, .ref mg, .ref mx])), (mm, .inl (cI, 3, .inl (fun j => nI (mn j)))), (mk, .inl (cI, 1200, .inl kp))] s.heap := hP
  have hD : va_D A [(o, .inr (5, [.int th, .ref mt, .int (nI nT), .int lim, .ref mo, .int (nI nO), .ref mf, .int (nI nF), .ref mc, .ref mm, .ref mk, .ref mb, .int lf, .int fl, .ref mu, .int f1, .int f2, .int ck, .ref ml, .ref mg, .ref mx])), (mm, .inl (cI, 3, .inl (fun j => nI (mn j)))), (mk, .inl (cI, 1200, .inl kp))] := hD
  have hl : lv_has ls 3 [(0, .ref o), (1, .int (nI 2)), (2, .int b)] := hl
  refine lv_aload_n hx hb d_M_keep_0 rfl (lv_at hl 0 rfl) ?_
  refine va_get (D := D) (ci := 5) (v := .ref mm) (C := R_M) (T := F_M) (N := 21) hx hb ht bi_M hown hK hP 0 rfl rfl 9 (by decide) (ht _ bw_416) (fun _ h9 => h9) rfl d_M_keep_1 ?_
  refine lv_iload_n hx hb d_M_keep_4 rfl (lv_at hl 1 rfl) ?_
  refine va_iald hx hb hK hP 1 0 rfl rfl (vp_in_nI (by omega) (by omega)) d_M_keep_5 ?_
  refine ft_top (y := nI (mn 2)) (congrArg (fun j => nI (mn j)) (by decide)) ?_
  refine lv_sipush (v := nI 400) hx hb d_M_keep_6 (by decide +kernel) ?_
  refine lv_icmp_ge (tgt := 30) hx hb d_M_keep_9 (by decide) (fun c9 => ?_) (fun c9 => ?_)
  · skip
    have c9 : 400 ≤ mn 2 := (nI_leI (by omega) (by omega)).mp c9
    have z9 : ¬ mn 2 < 400 := by omega
    refine lv_aload_n hx hb d_M_keep_30 rfl (lv_at hl 0 rfl) ?_
    refine va_get (D := D) (ci := 5) (v := .ref mm) (C := R_M) (T := F_M) (N := 21) hx hb ht bi_M hown hK hP 0 rfl rfl 9 (by decide) (ht _ bw_416) (fun _ h9 => h9) rfl d_M_keep_31 ?_
    refine lv_iload_n hx hb d_M_keep_34 rfl (lv_at hl 1 rfl) ?_
    refine lv_dup2_11 hx hb d_M_keep_35 rfl rfl ?_
    refine va_iald hx hb hK hP 1 0 rfl rfl (vp_in_nI (by omega) (by omega)) d_M_keep_36 ?_
    refine ft_top (y := nI (mn 2)) (congrArg (fun j => nI (mn j)) (by decide)) ?_
    refine lv_iconst (v := nI 1) hx hb d_M_keep_37 (by decide +kernel) ?_
    refine lv_iadd hx hb d_M_keep_38 ?_
    refine ft_top (nI_add (mn 2) 1) ?_
    refine va_iast hx hb hK hP hD hS 1 0 rfl rfl (vp_in_nI (by omega) (by omega)) d_M_keep_39 (fun H locs hP hD hS => ?_)
    rw [show (nI 2).toNatClampNeg = 2 from by decide] at hP hD
    rw [upd_nI] at hP hD
    obtain ⟨mn_1, emn_1⟩ : ∃ g : Nat → Nat, g = va_up mn 2 (mn 2 + 1) := ⟨_, rfl⟩
    rw [← emn_1] at hP hD
    have hP : va_P D vwCl [(o, .inr (5, [.int th, .ref mt, .int (nI nT), .int lim, .ref mo, .int (nI nO), .ref mf, .int (nI nF), .ref mc, .ref mm, .ref mk, .ref mb, .int lf, .int fl, .ref mu, .int f1, .int f2, .int ck, .ref ml, .ref mg, .ref mx])), (mm, .inl (cI, 3, .inl (fun j => nI (mn_1 j)))), (mk, .inl (cI, 1200, .inl kp))] H := hP
    have hD : va_D A [(o, .inr (5, [.int th, .ref mt, .int (nI nT), .int lim, .ref mo, .int (nI nO), .ref mf, .int (nI nF), .ref mc, .ref mm, .ref mk, .ref mb, .int lf, .int fl, .ref mu, .int f1, .int f2, .int ck, .ref ml, .ref mg, .ref mx])), (mm, .inl (cI, 3, .inl (fun j => nI (mn_1 j)))), (mk, .inl (cI, 1200, .inl kp))] := hD
    exact ft_retv (mn_1, kp) hx hb hr hlocks hP hK hD hS (by show _ = keepM 2 b mn kp; simp [keepM, z9, emn_1]) d_M_keep_40
  · skip
    have c9 : ¬ 400 ≤ mn 2 := fun h => c9 ((nI_leI (by omega) (by omega)).mpr h)
    have z9 : mn 2 < 400 := by omega
    refine lv_aload_n hx hb d_M_keep_12 rfl (lv_at hl 0 rfl) ?_
    refine va_get (D := D) (ci := 5) (v := .ref mk) (C := R_M) (T := F_M) (N := 21) hx hb ht bi_M hown hK hP 0 rfl rfl 10 (by decide) (ht _ bw_417) (fun _ h9 => h9) rfl d_M_keep_13 ?_
    refine lv_sipush (v := nI 400) hx hb d_M_keep_16 (by decide +kernel) ?_
    refine lv_iload_n hx hb d_M_keep_19 rfl (lv_at hl 1 rfl) ?_
    refine lv_imul hx hb d_M_keep_20 ?_
    refine ft_top (show nI 400 * nI 2 = nI 800 from by decide) ?_
    refine lv_aload_n hx hb d_M_keep_21 rfl (lv_at hl 0 rfl) ?_
    refine va_get (D := D) (ci := 5) (v := .ref mm) (C := R_M) (T := F_M) (N := 21) hx hb ht bi_M hown hK hP 0 rfl rfl 9 (by decide) (ht _ bw_416) (fun _ h9 => h9) rfl d_M_keep_22 ?_
    refine lv_iload_n hx hb d_M_keep_25 rfl (lv_at hl 1 rfl) ?_
    refine va_iald hx hb hK hP 1 0 rfl rfl (vp_in_nI (by omega) (by omega)) d_M_keep_26 ?_
    refine ft_top (y := nI (mn 2)) (congrArg (fun j => nI (mn j)) (by decide)) ?_
    refine lv_iadd hx hb d_M_keep_27 ?_
    refine ft_top (nI_add 800 (mn 2)) ?_
    refine lv_iload_n hx hb d_M_keep_28 rfl (lv_at hl 2 rfl) ?_
    refine va_iast hx hb hK hP hD hS 2 0 rfl rfl (vp_in_nI (by omega) (by omega)) d_M_keep_29 (fun H locs hP hD hS => ?_)
    rw [nI_clamp (n := 800 + mn 2) (by omega)] at hP hD
    obtain ⟨kp_2, ekp_2⟩ : ∃ g : Nat → Int32, g = upd kp (800 + mn 2) b := ⟨_, rfl⟩
    rw [← ekp_2] at hP hD
    have hP : va_P D vwCl [(o, .inr (5, [.int th, .ref mt, .int (nI nT), .int lim, .ref mo, .int (nI nO), .ref mf, .int (nI nF), .ref mc, .ref mm, .ref mk, .ref mb, .int lf, .int fl, .ref mu, .int f1, .int f2, .int ck, .ref ml, .ref mg, .ref mx])), (mm, .inl (cI, 3, .inl (fun j => nI (mn j)))), (mk, .inl (cI, 1200, .inl kp_2))] H := hP
    have hD : va_D A [(o, .inr (5, [.int th, .ref mt, .int (nI nT), .int lim, .ref mo, .int (nI nO), .ref mf, .int (nI nF), .ref mc, .ref mm, .ref mk, .ref mb, .int lf, .int fl, .ref mu, .int f1, .int f2, .int ck, .ref ml, .ref mg, .ref mx])), (mm, .inl (cI, 3, .inl (fun j => nI (mn j)))), (mk, .inl (cI, 1200, .inl kp_2))] := hD
    refine lv_aload_n hx hb d_M_keep_30 rfl (lv_at hl 0 rfl) ?_
    refine va_get (D := D) (ci := 5) (v := .ref mm) (C := R_M) (T := F_M) (N := 21) hx hb ht bi_M hown hK hP 0 rfl rfl 9 (by decide) (ht _ bw_416) (fun _ h9 => h9) rfl d_M_keep_31 ?_
    refine lv_iload_n hx hb d_M_keep_34 rfl (lv_at hl 1 rfl) ?_
    refine lv_dup2_11 hx hb d_M_keep_35 rfl rfl ?_
    refine va_iald hx hb hK hP 1 0 rfl rfl (vp_in_nI (by omega) (by omega)) d_M_keep_36 ?_
    refine ft_top (y := nI (mn 2)) (congrArg (fun j => nI (mn j)) (by decide)) ?_
    refine lv_iconst (v := nI 1) hx hb d_M_keep_37 (by decide +kernel) ?_
    refine lv_iadd hx hb d_M_keep_38 ?_
    refine ft_top (nI_add (mn 2) 1) ?_
    refine va_iast hx hb hK hP hD hS 1 0 rfl rfl (vp_in_nI (by omega) (by omega)) d_M_keep_39 (fun H locs hP hD hS => ?_)
    rw [show (nI 2).toNatClampNeg = 2 from by decide] at hP hD
    rw [upd_nI] at hP hD
    obtain ⟨mn_3, emn_3⟩ : ∃ g : Nat → Nat, g = va_up mn 2 (mn 2 + 1) := ⟨_, rfl⟩
    rw [← emn_3] at hP hD
    have hP : va_P D vwCl [(o, .inr (5, [.int th, .ref mt, .int (nI nT), .int lim, .ref mo, .int (nI nO), .ref mf, .int (nI nF), .ref mc, .ref mm, .ref mk, .ref mb, .int lf, .int fl, .ref mu, .int f1, .int f2, .int ck, .ref ml, .ref mg, .ref mx])), (mm, .inl (cI, 3, .inl (fun j => nI (mn_3 j)))), (mk, .inl (cI, 1200, .inl kp_2))] H := hP
    have hD : va_D A [(o, .inr (5, [.int th, .ref mt, .int (nI nT), .int lim, .ref mo, .int (nI nO), .ref mf, .int (nI nF), .ref mc, .ref mm, .ref mk, .ref mb, .int lf, .int fl, .ref mu, .int f1, .int f2, .int ck, .ref ml, .ref mg, .ref mx])), (mm, .inl (cI, 3, .inl (fun j => nI (mn_3 j)))), (mk, .inl (cI, 1200, .inl kp_2))] := hD
    exact ft_retv (mn_3, kp_2) hx hb hr hlocks hP hK hD hS (by show _ = keepM 2 b mn kp; simp [keepM, z9, ekp_2, emn_3]) d_M_keep_40

set_option maxHeartbeats 4000000 in
set_option maxRecDepth 100000 in
theorem c_M_comeGroup (l : Launch) (D : va_G) (cI : ClassId) (cB : ClassId) (o mt mo mf mc mm mk mb mu ml mg mx : Nat) (th lim lf fl f1 f2 ck : Int32) (nT nO nF : Nat) (cm mn : Nat → Nat) (kp : Nat → Int32) (hC : cm 0 < 1073741824) (hM : mn 0 < 1073741824) (b : Int32) (sz : Nat) : ft_Mv l y_M_comeGroup (.code y_M_comeGroup b_M_comeGroup 2 none :: ft_big) ({ frames := 1, cells := 0, slots := 0, locals := 40 }) D [(cI, .int), (cB, .boolean)] sz [.ref o, .int b] [(o, .inr (5, [.int th, .ref mt, .int (nI nT), .int lim, .ref mo, .int (nI nO), .ref mf, .int (nI nF), .ref mc, .ref mm, .ref mk, .ref mb, .int lf, .int fl, .ref mu, .int f1, .int f2, .int ck, .ref ml, .ref mg, .ref mx])), (mc, .inl (cI, 3, .inl (fun j => nI (cm j)))), (mm, .inl (cI, 3, .inl (fun j => nI (mn j)))), (mk, .inl (cI, 1200, .inl kp))] (fun u : (Nat → Nat) × (Nat → Int32) × Int32 × Int32 => u = cgM b cm mn kp lf fl) (fun u => [(o, .inr (5, [.int th, .ref mt, .int (nI nT), .int lim, .ref mo, .int (nI nO), .ref mf, .int (nI nF), .ref mc, .ref mm, .ref mk, .ref mb, .int u.2.2.1, .int u.2.2.2, .ref mu, .int f1, .int f2, .int ck, .ref ml, .ref mg, .ref mx])), (mc, .inl (cI, 3, .inl (fun j => nI (cm j)))), (mm, .inl (cI, 3, .inl (fun j => nI (u.1 j)))), (mk, .inl (cI, 1200, .inl u.2.1))]) 0 0 := by
  refine ft_ev (cc := b_M_comeGroup) (maxL := 2) (ret := none) (by decide) rfl (Nat.le_of_ble_eq_true rfl) ?_
  intro p e s m below meth c A ls hx hb hr hml hts hown hlocks hmn hP hK hD hA hS hNW hl
  have ht : ∀ w ∈ ft_big, w.before _ s = true := fun w h => hts w (List.mem_cons_of_mem _ h)
  have hP : va_P D vwCl [(o, .inr (5, [.int th, .ref mt, .int (nI nT), .int lim, .ref mo, .int (nI nO), .ref mf, .int (nI nF), .ref mc, .ref mm, .ref mk, .ref mb, .int lf, .int fl, .ref mu, .int f1, .int f2, .int ck, .ref ml, .ref mg, .ref mx])), (mc, .inl (cI, 3, .inl (fun j => nI (cm j)))), (mm, .inl (cI, 3, .inl (fun j => nI (mn j)))), (mk, .inl (cI, 1200, .inl kp))] s.heap := hP
  have hD : va_D A [(o, .inr (5, [.int th, .ref mt, .int (nI nT), .int lim, .ref mo, .int (nI nO), .ref mf, .int (nI nF), .ref mc, .ref mm, .ref mk, .ref mb, .int lf, .int fl, .ref mu, .int f1, .int f2, .int ck, .ref ml, .ref mg, .ref mx])), (mc, .inl (cI, 3, .inl (fun j => nI (cm j)))), (mm, .inl (cI, 3, .inl (fun j => nI (mn j)))), (mk, .inl (cI, 1200, .inl kp))] := hD
  have hl : lv_has ls 2 [(0, .ref o), (1, .int b)] := hl
  refine lv_aload_n hx hb d_M_comeGroup_0 rfl (lv_at hl 0 rfl) ?_
  refine va_get (D := D) (ci := 5) (v := .int lf) (C := R_M) (T := F_M) (N := 21) hx hb ht bi_M hown hK hP 0 rfl rfl 12 (by decide) (ht _ bw_419) (fun _ h9 => h9) rfl d_M_comeGroup_1 ?_
  refine lv_if_le (tgt := 24) hx hb d_M_comeGroup_4 (by decide) (fun c4 => ?_) (fun c4 => ?_)
  · skip
    refine lv_aload_n hx hb d_M_comeGroup_24 rfl (lv_at hl 0 rfl) ?_
    refine va_get (D := D) (ci := 5) (v := .ref mc) (C := R_M) (T := F_M) (N := 21) hx hb ht bi_M hown hK hP 0 rfl rfl 8 (by decide) (ht _ bw_415) (fun _ h9 => h9) rfl d_M_comeGroup_25 ?_
    refine lv_iconst (v := nI 0) hx hb d_M_comeGroup_28 (by decide +kernel) ?_
    refine va_iald hx hb hK hP 1 0 rfl rfl (vp_in_nI (by omega) (by omega)) d_M_comeGroup_29 ?_
    refine ft_top (y := nI (cm 0)) (congrArg (fun j => nI (cm j)) (by decide)) ?_
    refine lv_if_le (tgt := 46) hx hb d_M_comeGroup_30 (by decide) (fun c30 => ?_) (fun c30 => ?_)
    · skip
      have c30 : cm 0 ≤ 0 := (nI_leI (b := 0) (by omega) (by omega)).mp c30
      have z30 : cm 0 = 0 := by omega
      refine lv_aload_n hx hb d_M_comeGroup_46 rfl (lv_at hl 0 rfl) ?_
      refine lv_iload_n hx hb d_M_comeGroup_47 rfl (lv_at hl 1 rfl) ?_
      refine lv_iconst (v := 1) hx hb d_M_comeGroup_48 (by decide +kernel) ?_
      refine lv_isub hx hb d_M_comeGroup_49 ?_
      refine va_put (D := D) (ci := 5) (v := .int (b - 1)) (ty := .int) (C := R_M) (T := F_M) (N := 21) hx hb ht bi_M t_M t_M_ok n_M hown hK hP hD hS 0 rfl rfl 12 (by decide) (ht _ bw_419) (fun _ h9 => h9) rfl (by decide +kernel) rfl rfl (Nat.le_of_ble_eq_true rfl) d_M_comeGroup_50 (fun H locs hP hD hS => ?_)
      have hP : va_P D vwCl [(o, .inr (5, [.int th, .ref mt, .int (nI nT), .int lim, .ref mo, .int (nI nO), .ref mf, .int (nI nF), .ref mc, .ref mm, .ref mk, .ref mb, .int (b - 1), .int fl, .ref mu, .int f1, .int f2, .int ck, .ref ml, .ref mg, .ref mx])), (mc, .inl (cI, 3, .inl (fun j => nI (cm j)))), (mm, .inl (cI, 3, .inl (fun j => nI (mn j)))), (mk, .inl (cI, 1200, .inl kp))] H := hP
      have hD : va_D A [(o, .inr (5, [.int th, .ref mt, .int (nI nT), .int lim, .ref mo, .int (nI nO), .ref mf, .int (nI nF), .ref mc, .ref mm, .ref mk, .ref mb, .int (b - 1), .int fl, .ref mu, .int f1, .int f2, .int ck, .ref ml, .ref mg, .ref mx])), (mc, .inl (cI, 3, .inl (fun j => nI (cm j)))), (mm, .inl (cI, 3, .inl (fun j => nI (mn j)))), (mk, .inl (cI, 1200, .inl kp))] := hD
      refine lv_aload_n hx hb d_M_comeGroup_53 rfl (lv_at hl 0 rfl) ?_
      refine lv_iload_n hx hb d_M_comeGroup_54 rfl (lv_at hl 1 rfl) ?_
      refine lv_sipush (v := 255) hx hb d_M_comeGroup_55 (by decide +kernel) ?_
      refine lv_icmp_ne (tgt := 65) hx hb d_M_comeGroup_58 (by decide) (fun c58 => ?_) (fun c58 => ?_)
      · skip
        refine lv_iconst (v := 0) hx hb d_M_comeGroup_65 (by decide +kernel) ?_
        refine va_put (D := D) (ci := 5) (v := .int 0) (ty := .boolean) (C := R_M) (T := F_M) (N := 21) hx hb ht bi_M t_M t_M_ok n_M hown hK hP hD hS 0 rfl rfl 13 (by decide) (ht _ bw_420) (fun _ h9 => h9) rfl (by decide +kernel) rfl rfl (Nat.le_of_ble_eq_true rfl) d_M_comeGroup_66 (fun H locs hP hD hS => ?_)
        have hP : va_P D vwCl [(o, .inr (5, [.int th, .ref mt, .int (nI nT), .int lim, .ref mo, .int (nI nO), .ref mf, .int (nI nF), .ref mc, .ref mm, .ref mk, .ref mb, .int (b - 1), .int 0, .ref mu, .int f1, .int f2, .int ck, .ref ml, .ref mg, .ref mx])), (mc, .inl (cI, 3, .inl (fun j => nI (cm j)))), (mm, .inl (cI, 3, .inl (fun j => nI (mn j)))), (mk, .inl (cI, 1200, .inl kp))] H := hP
        have hD : va_D A [(o, .inr (5, [.int th, .ref mt, .int (nI nT), .int lim, .ref mo, .int (nI nO), .ref mf, .int (nI nF), .ref mc, .ref mm, .ref mk, .ref mb, .int (b - 1), .int 0, .ref mu, .int f1, .int f2, .int ck, .ref ml, .ref mg, .ref mx])), (mc, .inl (cI, 3, .inl (fun j => nI (cm j)))), (mm, .inl (cI, 3, .inl (fun j => nI (mn j)))), (mk, .inl (cI, 1200, .inl kp))] := hD
        exact ft_retv (mn, kp, b - 1, 0) hx hb hr hlocks hP hK hD hS (by show _ = cgM b cm mn kp lf fl; simp [cgM, c4, z30, c58]) d_M_comeGroup_69
      · skip
        refine lv_iconst (v := 1) hx hb d_M_comeGroup_61 (by decide +kernel) ?_
        refine lv_goto (tgt := 66) hx hb d_M_comeGroup_62 (by decide) ?_
        refine va_put (D := D) (ci := 5) (v := .int 1) (ty := .boolean) (C := R_M) (T := F_M) (N := 21) hx hb ht bi_M t_M t_M_ok n_M hown hK hP hD hS 0 rfl rfl 13 (by decide) (ht _ bw_420) (fun _ h9 => h9) rfl (by decide +kernel) rfl rfl (Nat.le_of_ble_eq_true rfl) d_M_comeGroup_66 (fun H locs hP hD hS => ?_)
        have hP : va_P D vwCl [(o, .inr (5, [.int th, .ref mt, .int (nI nT), .int lim, .ref mo, .int (nI nO), .ref mf, .int (nI nF), .ref mc, .ref mm, .ref mk, .ref mb, .int (b - 1), .int 1, .ref mu, .int f1, .int f2, .int ck, .ref ml, .ref mg, .ref mx])), (mc, .inl (cI, 3, .inl (fun j => nI (cm j)))), (mm, .inl (cI, 3, .inl (fun j => nI (mn j)))), (mk, .inl (cI, 1200, .inl kp))] H := hP
        have hD : va_D A [(o, .inr (5, [.int th, .ref mt, .int (nI nT), .int lim, .ref mo, .int (nI nO), .ref mf, .int (nI nF), .ref mc, .ref mm, .ref mk, .ref mb, .int (b - 1), .int 1, .ref mu, .int f1, .int f2, .int ck, .ref ml, .ref mg, .ref mx])), (mc, .inl (cI, 3, .inl (fun j => nI (cm j)))), (mm, .inl (cI, 3, .inl (fun j => nI (mn j)))), (mk, .inl (cI, 1200, .inl kp))] := hD
        exact ft_retv (mn, kp, b - 1, 1) hx hb hr hlocks hP hK hD hS (by show _ = cgM b cm mn kp lf fl; simp [cgM, c4, z30, c58]) d_M_comeGroup_69
    · skip
      have c30 : ¬ cm 0 ≤ 0 := fun h => c30 ((nI_leI (b := 0) (by omega) (by omega)).mpr h)
      have z30 : ¬ cm 0 = 0 := by omega
      refine lv_aload_n hx hb d_M_comeGroup_33 rfl (lv_at hl 0 rfl) ?_
      refine va_get (D := D) (ci := 5) (v := .int fl) (C := R_M) (T := F_M) (N := 21) hx hb ht bi_M hown hK hP 0 rfl rfl 13 (by decide) (ht _ bw_420) (fun _ h9 => h9) rfl d_M_comeGroup_34 ?_
      refine lv_if_ne (tgt := 46) hx hb d_M_comeGroup_37 (by decide) (fun c37 => ?_) (fun c37 => ?_)
      · skip
        refine lv_aload_n hx hb d_M_comeGroup_46 rfl (lv_at hl 0 rfl) ?_
        refine lv_iload_n hx hb d_M_comeGroup_47 rfl (lv_at hl 1 rfl) ?_
        refine lv_iconst (v := 1) hx hb d_M_comeGroup_48 (by decide +kernel) ?_
        refine lv_isub hx hb d_M_comeGroup_49 ?_
        refine va_put (D := D) (ci := 5) (v := .int (b - 1)) (ty := .int) (C := R_M) (T := F_M) (N := 21) hx hb ht bi_M t_M t_M_ok n_M hown hK hP hD hS 0 rfl rfl 12 (by decide) (ht _ bw_419) (fun _ h9 => h9) rfl (by decide +kernel) rfl rfl (Nat.le_of_ble_eq_true rfl) d_M_comeGroup_50 (fun H locs hP hD hS => ?_)
        have hP : va_P D vwCl [(o, .inr (5, [.int th, .ref mt, .int (nI nT), .int lim, .ref mo, .int (nI nO), .ref mf, .int (nI nF), .ref mc, .ref mm, .ref mk, .ref mb, .int (b - 1), .int fl, .ref mu, .int f1, .int f2, .int ck, .ref ml, .ref mg, .ref mx])), (mc, .inl (cI, 3, .inl (fun j => nI (cm j)))), (mm, .inl (cI, 3, .inl (fun j => nI (mn j)))), (mk, .inl (cI, 1200, .inl kp))] H := hP
        have hD : va_D A [(o, .inr (5, [.int th, .ref mt, .int (nI nT), .int lim, .ref mo, .int (nI nO), .ref mf, .int (nI nF), .ref mc, .ref mm, .ref mk, .ref mb, .int (b - 1), .int fl, .ref mu, .int f1, .int f2, .int ck, .ref ml, .ref mg, .ref mx])), (mc, .inl (cI, 3, .inl (fun j => nI (cm j)))), (mm, .inl (cI, 3, .inl (fun j => nI (mn j)))), (mk, .inl (cI, 1200, .inl kp))] := hD
        refine lv_aload_n hx hb d_M_comeGroup_53 rfl (lv_at hl 0 rfl) ?_
        refine lv_iload_n hx hb d_M_comeGroup_54 rfl (lv_at hl 1 rfl) ?_
        refine lv_sipush (v := 255) hx hb d_M_comeGroup_55 (by decide +kernel) ?_
        refine lv_icmp_ne (tgt := 65) hx hb d_M_comeGroup_58 (by decide) (fun c58 => ?_) (fun c58 => ?_)
        · skip
          refine lv_iconst (v := 0) hx hb d_M_comeGroup_65 (by decide +kernel) ?_
          refine va_put (D := D) (ci := 5) (v := .int 0) (ty := .boolean) (C := R_M) (T := F_M) (N := 21) hx hb ht bi_M t_M t_M_ok n_M hown hK hP hD hS 0 rfl rfl 13 (by decide) (ht _ bw_420) (fun _ h9 => h9) rfl (by decide +kernel) rfl rfl (Nat.le_of_ble_eq_true rfl) d_M_comeGroup_66 (fun H locs hP hD hS => ?_)
          have hP : va_P D vwCl [(o, .inr (5, [.int th, .ref mt, .int (nI nT), .int lim, .ref mo, .int (nI nO), .ref mf, .int (nI nF), .ref mc, .ref mm, .ref mk, .ref mb, .int (b - 1), .int 0, .ref mu, .int f1, .int f2, .int ck, .ref ml, .ref mg, .ref mx])), (mc, .inl (cI, 3, .inl (fun j => nI (cm j)))), (mm, .inl (cI, 3, .inl (fun j => nI (mn j)))), (mk, .inl (cI, 1200, .inl kp))] H := hP
          have hD : va_D A [(o, .inr (5, [.int th, .ref mt, .int (nI nT), .int lim, .ref mo, .int (nI nO), .ref mf, .int (nI nF), .ref mc, .ref mm, .ref mk, .ref mb, .int (b - 1), .int 0, .ref mu, .int f1, .int f2, .int ck, .ref ml, .ref mg, .ref mx])), (mc, .inl (cI, 3, .inl (fun j => nI (cm j)))), (mm, .inl (cI, 3, .inl (fun j => nI (mn j)))), (mk, .inl (cI, 1200, .inl kp))] := hD
          exact ft_retv (mn, kp, b - 1, 0) hx hb hr hlocks hP hK hD hS (by show _ = cgM b cm mn kp lf fl; simp [cgM, c4, z30, c37, c58]) d_M_comeGroup_69
        · skip
          refine lv_iconst (v := 1) hx hb d_M_comeGroup_61 (by decide +kernel) ?_
          refine lv_goto (tgt := 66) hx hb d_M_comeGroup_62 (by decide) ?_
          refine va_put (D := D) (ci := 5) (v := .int 1) (ty := .boolean) (C := R_M) (T := F_M) (N := 21) hx hb ht bi_M t_M t_M_ok n_M hown hK hP hD hS 0 rfl rfl 13 (by decide) (ht _ bw_420) (fun _ h9 => h9) rfl (by decide +kernel) rfl rfl (Nat.le_of_ble_eq_true rfl) d_M_comeGroup_66 (fun H locs hP hD hS => ?_)
          have hP : va_P D vwCl [(o, .inr (5, [.int th, .ref mt, .int (nI nT), .int lim, .ref mo, .int (nI nO), .ref mf, .int (nI nF), .ref mc, .ref mm, .ref mk, .ref mb, .int (b - 1), .int 1, .ref mu, .int f1, .int f2, .int ck, .ref ml, .ref mg, .ref mx])), (mc, .inl (cI, 3, .inl (fun j => nI (cm j)))), (mm, .inl (cI, 3, .inl (fun j => nI (mn j)))), (mk, .inl (cI, 1200, .inl kp))] H := hP
          have hD : va_D A [(o, .inr (5, [.int th, .ref mt, .int (nI nT), .int lim, .ref mo, .int (nI nO), .ref mf, .int (nI nF), .ref mc, .ref mm, .ref mk, .ref mb, .int (b - 1), .int 1, .ref mu, .int f1, .int f2, .int ck, .ref ml, .ref mg, .ref mx])), (mc, .inl (cI, 3, .inl (fun j => nI (cm j)))), (mm, .inl (cI, 3, .inl (fun j => nI (mn j)))), (mk, .inl (cI, 1200, .inl kp))] := hD
          exact ft_retv (mn, kp, b - 1, 1) hx hb hr hlocks hP hK hD hS (by show _ = cgM b cm mn kp lf fl; simp [cgM, c4, z30, c37, c58]) d_M_comeGroup_69
      · skip
        refine lv_aload_n hx hb d_M_comeGroup_40 rfl (lv_at hl 0 rfl) ?_
        refine lv_iconst (v := nI 0) hx hb d_M_comeGroup_41 (by decide +kernel) ?_
        refine lv_iconst (v := 0) hx hb d_M_comeGroup_42 (by decide +kernel) ?_
        refine ft_cv (wc := [(o, .inr (5, [.int th, .ref mt, .int (nI nT), .int lim, .ref mo, .int (nI nO), .ref mf, .int (nI nF), .ref mc, .ref mm, .ref mk, .ref mb, .int lf, .int fl, .ref mu, .int f1, .int f2, .int ck, .ref ml, .ref mg, .ref mx])), (mm, .inl (cI, 3, .inl (fun j => nI (mn j)))), (mk, .inl (cI, 1200, .inl kp))]) (wr := [(mc, .inl (cI, 3, .inl (fun j => nI (cm j))))]) (va_runV (As := [.int (nI 0), .int 0]) (rest := []) ⟨hx, hb, hml, hown, ht⟩ (c_M_keep_0 l D cI cB o mt mo mf mc mm mk mb mu ml mg mx th lim lf fl f1 f2 ck nT nO nF mn kp (by omega) 0 s.heap.size) (ft_cwV 2 ht bw_552 bw_554 bw_28 bw_39 bw_555 (by decide) ⟨Nat.le_of_ble_eq_true rfl, Nat.le_of_ble_eq_true rfl⟩) ⟨ft_blind, va_recv hK hP (ci := 5) (q0 := 0) rfl rfl, (ft_pre hP hD hK hNW [0, 2, 3] [0, 1] rfl rfl (by decide) rfl _)⟩ rfl rfl hl.1 rfl (lv_room (Nat.le_of_ble_eq_true rfl)) d_M_comeGroup_43 ⟨Nat.le_of_ble_eq_true rfl, Nat.le_of_ble_eq_true rfl⟩) hP hD hS hA [0, 2, 3] [1] rfl rfl (by decide) (by decide) (fun u_3 H locs hu_3 hP hD hS => ?_)
        obtain ⟨mnk1, kpk1⟩ := u_3
        have e_mk1 : mnk1 = (keepM 0 0 mn kp).1 := congrArg Prod.fst hu_3
        have e_kk1 : kpk1 = (keepM 0 0 mn kp).2 := congrArg Prod.snd hu_3
        have hP : va_P D vwCl [(mc, .inl (cI, 3, .inl (fun j => nI (cm j)))), (o, .inr (5, [.int th, .ref mt, .int (nI nT), .int lim, .ref mo, .int (nI nO), .ref mf, .int (nI nF), .ref mc, .ref mm, .ref mk, .ref mb, .int lf, .int fl, .ref mu, .int f1, .int f2, .int ck, .ref ml, .ref mg, .ref mx])), (mm, .inl (cI, 3, .inl (fun j => nI (mnk1 j)))), (mk, .inl (cI, 1200, .inl kpk1))] H := hP
        have hD : va_D A [(mc, .inl (cI, 3, .inl (fun j => nI (cm j)))), (o, .inr (5, [.int th, .ref mt, .int (nI nT), .int lim, .ref mo, .int (nI nO), .ref mf, .int (nI nF), .ref mc, .ref mm, .ref mk, .ref mb, .int lf, .int fl, .ref mu, .int f1, .int f2, .int ck, .ref ml, .ref mg, .ref mx])), (mm, .inl (cI, 3, .inl (fun j => nI (mnk1 j)))), (mk, .inl (cI, 1200, .inl kpk1))] := hD
        refine lv_aload_n hx hb d_M_comeGroup_46 rfl (lv_at hl 0 rfl) ?_
        refine lv_iload_n hx hb d_M_comeGroup_47 rfl (lv_at hl 1 rfl) ?_
        refine lv_iconst (v := 1) hx hb d_M_comeGroup_48 (by decide +kernel) ?_
        refine lv_isub hx hb d_M_comeGroup_49 ?_
        refine va_put (D := D) (ci := 5) (v := .int (b - 1)) (ty := .int) (C := R_M) (T := F_M) (N := 21) hx hb ht bi_M t_M t_M_ok n_M hown hK hP hD hS 1 rfl rfl 12 (by decide) (ht _ bw_419) (fun _ h9 => h9) rfl (by decide +kernel) rfl rfl (Nat.le_of_ble_eq_true rfl) d_M_comeGroup_50 (fun H locs hP hD hS => ?_)
        have hP : va_P D vwCl [(mc, .inl (cI, 3, .inl (fun j => nI (cm j)))), (o, .inr (5, [.int th, .ref mt, .int (nI nT), .int lim, .ref mo, .int (nI nO), .ref mf, .int (nI nF), .ref mc, .ref mm, .ref mk, .ref mb, .int (b - 1), .int fl, .ref mu, .int f1, .int f2, .int ck, .ref ml, .ref mg, .ref mx])), (mm, .inl (cI, 3, .inl (fun j => nI (mnk1 j)))), (mk, .inl (cI, 1200, .inl kpk1))] H := hP
        have hD : va_D A [(mc, .inl (cI, 3, .inl (fun j => nI (cm j)))), (o, .inr (5, [.int th, .ref mt, .int (nI nT), .int lim, .ref mo, .int (nI nO), .ref mf, .int (nI nF), .ref mc, .ref mm, .ref mk, .ref mb, .int (b - 1), .int fl, .ref mu, .int f1, .int f2, .int ck, .ref ml, .ref mg, .ref mx])), (mm, .inl (cI, 3, .inl (fun j => nI (mnk1 j)))), (mk, .inl (cI, 1200, .inl kpk1))] := hD
        refine lv_aload_n hx hb d_M_comeGroup_53 rfl (lv_at hl 0 rfl) ?_
        refine lv_iload_n hx hb d_M_comeGroup_54 rfl (lv_at hl 1 rfl) ?_
        refine lv_sipush (v := 255) hx hb d_M_comeGroup_55 (by decide +kernel) ?_
        refine lv_icmp_ne (tgt := 65) hx hb d_M_comeGroup_58 (by decide) (fun c58 => ?_) (fun c58 => ?_)
        · skip
          refine lv_iconst (v := 0) hx hb d_M_comeGroup_65 (by decide +kernel) ?_
          refine va_put (D := D) (ci := 5) (v := .int 0) (ty := .boolean) (C := R_M) (T := F_M) (N := 21) hx hb ht bi_M t_M t_M_ok n_M hown hK hP hD hS 1 rfl rfl 13 (by decide) (ht _ bw_420) (fun _ h9 => h9) rfl (by decide +kernel) rfl rfl (Nat.le_of_ble_eq_true rfl) d_M_comeGroup_66 (fun H locs hP hD hS => ?_)
          have hP : va_P D vwCl [(mc, .inl (cI, 3, .inl (fun j => nI (cm j)))), (o, .inr (5, [.int th, .ref mt, .int (nI nT), .int lim, .ref mo, .int (nI nO), .ref mf, .int (nI nF), .ref mc, .ref mm, .ref mk, .ref mb, .int (b - 1), .int 0, .ref mu, .int f1, .int f2, .int ck, .ref ml, .ref mg, .ref mx])), (mm, .inl (cI, 3, .inl (fun j => nI (mnk1 j)))), (mk, .inl (cI, 1200, .inl kpk1))] H := hP
          have hD : va_D A [(mc, .inl (cI, 3, .inl (fun j => nI (cm j)))), (o, .inr (5, [.int th, .ref mt, .int (nI nT), .int lim, .ref mo, .int (nI nO), .ref mf, .int (nI nF), .ref mc, .ref mm, .ref mk, .ref mb, .int (b - 1), .int 0, .ref mu, .int f1, .int f2, .int ck, .ref ml, .ref mg, .ref mx])), (mm, .inl (cI, 3, .inl (fun j => nI (mnk1 j)))), (mk, .inl (cI, 1200, .inl kpk1))] := hD
          exact ft_retv (mnk1, kpk1, b - 1, 0) hx hb hr hlocks (hP.sub [1, 0, 2, 3] rfl) hK (hD.sub [1, 0, 2, 3] (by decide) rfl) hS (by show _ = cgM b cm mn kp lf fl; simp [cgM, c4, z30, c37, e_mk1, e_kk1, c58]) d_M_comeGroup_69
        · skip
          refine lv_iconst (v := 1) hx hb d_M_comeGroup_61 (by decide +kernel) ?_
          refine lv_goto (tgt := 66) hx hb d_M_comeGroup_62 (by decide) ?_
          refine va_put (D := D) (ci := 5) (v := .int 1) (ty := .boolean) (C := R_M) (T := F_M) (N := 21) hx hb ht bi_M t_M t_M_ok n_M hown hK hP hD hS 1 rfl rfl 13 (by decide) (ht _ bw_420) (fun _ h9 => h9) rfl (by decide +kernel) rfl rfl (Nat.le_of_ble_eq_true rfl) d_M_comeGroup_66 (fun H locs hP hD hS => ?_)
          have hP : va_P D vwCl [(mc, .inl (cI, 3, .inl (fun j => nI (cm j)))), (o, .inr (5, [.int th, .ref mt, .int (nI nT), .int lim, .ref mo, .int (nI nO), .ref mf, .int (nI nF), .ref mc, .ref mm, .ref mk, .ref mb, .int (b - 1), .int 1, .ref mu, .int f1, .int f2, .int ck, .ref ml, .ref mg, .ref mx])), (mm, .inl (cI, 3, .inl (fun j => nI (mnk1 j)))), (mk, .inl (cI, 1200, .inl kpk1))] H := hP
          have hD : va_D A [(mc, .inl (cI, 3, .inl (fun j => nI (cm j)))), (o, .inr (5, [.int th, .ref mt, .int (nI nT), .int lim, .ref mo, .int (nI nO), .ref mf, .int (nI nF), .ref mc, .ref mm, .ref mk, .ref mb, .int (b - 1), .int 1, .ref mu, .int f1, .int f2, .int ck, .ref ml, .ref mg, .ref mx])), (mm, .inl (cI, 3, .inl (fun j => nI (mnk1 j)))), (mk, .inl (cI, 1200, .inl kpk1))] := hD
          exact ft_retv (mnk1, kpk1, b - 1, 1) hx hb hr hlocks (hP.sub [1, 0, 2, 3] rfl) hK (hD.sub [1, 0, 2, 3] (by decide) rfl) hS (by show _ = cgM b cm mn kp lf fl; simp [cgM, c4, z30, c37, e_mk1, e_kk1, c58]) d_M_comeGroup_69
  · skip
    refine lv_aload_n hx hb d_M_comeGroup_7 rfl (lv_at hl 0 rfl) ?_
    refine lv_dup hx hb d_M_comeGroup_8 rfl ?_
    refine va_get (D := D) (ci := 5) (v := .int lf) (C := R_M) (T := F_M) (N := 21) hx hb ht bi_M hown hK hP 0 rfl rfl 12 (by decide) (ht _ bw_419) (fun _ h9 => h9) rfl d_M_comeGroup_9 ?_
    refine lv_iconst (v := 1) hx hb d_M_comeGroup_12 (by decide +kernel) ?_
    refine lv_isub hx hb d_M_comeGroup_13 ?_
    refine va_put (D := D) (ci := 5) (v := .int (lf - 1)) (ty := .int) (C := R_M) (T := F_M) (N := 21) hx hb ht bi_M t_M t_M_ok n_M hown hK hP hD hS 0 rfl rfl 12 (by decide) (ht _ bw_419) (fun _ h9 => h9) rfl (by decide +kernel) rfl rfl (Nat.le_of_ble_eq_true rfl) d_M_comeGroup_14 (fun H locs hP hD hS => ?_)
    have hP : va_P D vwCl [(o, .inr (5, [.int th, .ref mt, .int (nI nT), .int lim, .ref mo, .int (nI nO), .ref mf, .int (nI nF), .ref mc, .ref mm, .ref mk, .ref mb, .int (lf - 1), .int fl, .ref mu, .int f1, .int f2, .int ck, .ref ml, .ref mg, .ref mx])), (mc, .inl (cI, 3, .inl (fun j => nI (cm j)))), (mm, .inl (cI, 3, .inl (fun j => nI (mn j)))), (mk, .inl (cI, 1200, .inl kp))] H := hP
    have hD : va_D A [(o, .inr (5, [.int th, .ref mt, .int (nI nT), .int lim, .ref mo, .int (nI nO), .ref mf, .int (nI nF), .ref mc, .ref mm, .ref mk, .ref mb, .int (lf - 1), .int fl, .ref mu, .int f1, .int f2, .int ck, .ref ml, .ref mg, .ref mx])), (mc, .inl (cI, 3, .inl (fun j => nI (cm j)))), (mm, .inl (cI, 3, .inl (fun j => nI (mn j)))), (mk, .inl (cI, 1200, .inl kp))] := hD
    refine lv_aload_n hx hb d_M_comeGroup_17 rfl (lv_at hl 0 rfl) ?_
    refine lv_iconst (v := nI 0) hx hb d_M_comeGroup_18 (by decide +kernel) ?_
    refine lv_iload_n hx hb d_M_comeGroup_19 rfl (lv_at hl 1 rfl) ?_
    refine ft_cv (wc := [(o, .inr (5, [.int th, .ref mt, .int (nI nT), .int lim, .ref mo, .int (nI nO), .ref mf, .int (nI nF), .ref mc, .ref mm, .ref mk, .ref mb, .int (lf - 1), .int fl, .ref mu, .int f1, .int f2, .int ck, .ref ml, .ref mg, .ref mx])), (mm, .inl (cI, 3, .inl (fun j => nI (mn j)))), (mk, .inl (cI, 1200, .inl kp))]) (wr := [(mc, .inl (cI, 3, .inl (fun j => nI (cm j))))]) (va_runV (As := [.int (nI 0), .int b]) (rest := []) ⟨hx, hb, hml, hown, ht⟩ (c_M_keep_0 l D cI cB o mt mo mf mc mm mk mb mu ml mg mx th lim (lf - 1) fl f1 f2 ck nT nO nF mn kp (by omega) b H.size) (ft_cwV 2 ht bw_552 bw_554 bw_28 bw_39 bw_555 (by decide) ⟨Nat.le_of_ble_eq_true rfl, Nat.le_of_ble_eq_true rfl⟩) ⟨ft_blind, va_recv hK hP (ci := 5) (q0 := 0) rfl rfl, (ft_pre hP hD hK hNW [0, 2, 3] [0, 1] rfl rfl (by decide) rfl _)⟩ rfl rfl hl.1 rfl (lv_room (Nat.le_of_ble_eq_true rfl)) d_M_comeGroup_20 ⟨Nat.le_of_ble_eq_true rfl, Nat.le_of_ble_eq_true rfl⟩) hP hD hS hA [0, 2, 3] [1] rfl rfl (by decide) (by decide) (fun u_6 H locs hu_6 hP hD hS => ?_)
    obtain ⟨mnk4, kpk4⟩ := u_6
    have e_mk4 : mnk4 = (keepM 0 b mn kp).1 := congrArg Prod.fst hu_6
    have e_kk4 : kpk4 = (keepM 0 b mn kp).2 := congrArg Prod.snd hu_6
    have hP : va_P D vwCl [(mc, .inl (cI, 3, .inl (fun j => nI (cm j)))), (o, .inr (5, [.int th, .ref mt, .int (nI nT), .int lim, .ref mo, .int (nI nO), .ref mf, .int (nI nF), .ref mc, .ref mm, .ref mk, .ref mb, .int (lf - 1), .int fl, .ref mu, .int f1, .int f2, .int ck, .ref ml, .ref mg, .ref mx])), (mm, .inl (cI, 3, .inl (fun j => nI (mnk4 j)))), (mk, .inl (cI, 1200, .inl kpk4))] H := hP
    have hD : va_D A [(mc, .inl (cI, 3, .inl (fun j => nI (cm j)))), (o, .inr (5, [.int th, .ref mt, .int (nI nT), .int lim, .ref mo, .int (nI nO), .ref mf, .int (nI nF), .ref mc, .ref mm, .ref mk, .ref mb, .int (lf - 1), .int fl, .ref mu, .int f1, .int f2, .int ck, .ref ml, .ref mg, .ref mx])), (mm, .inl (cI, 3, .inl (fun j => nI (mnk4 j)))), (mk, .inl (cI, 1200, .inl kpk4))] := hD
    exact ft_retv (mnk4, kpk4, lf - 1, fl) hx hb hr hlocks (hP.sub [1, 0, 2, 3] rfl) hK (hD.sub [1, 0, 2, 3] (by decide) rfl) hS (by show _ = cgM b cm mn kp lf fl; simp [cgM, c4, e_mk4, e_kk4]) d_M_comeGroup_23

set_option maxHeartbeats 4000000 in
set_option maxRecDepth 100000 in
theorem c_M_isTurned_1 (l : Launch) (D : va_G) (cI : ClassId) (cB : ClassId) (o mt mo mf mc mm mk mb mu ml mg mx : Nat) (th lim lf fl f1 f2 ck : Int32) (nT nO nF : Nat) (bd tu : Nat → Int32) (hB : tu 1 = 0 ∨ tu 1 = 1) (b : Int32) (sz : Nat) : ft_Mi l y_M_isTurned (.code y_M_isTurned b_M_isTurned 5 (some .boolean) :: ft_big) ({ frames := 0, cells := 0, slots := 0, locals := 0 }) D [(cI, .int), (cB, .boolean)] sz [.ref o, .int (nI 1), .int b] [(o, .inr (5, [.int th, .ref mt, .int (nI nT), .int lim, .ref mo, .int (nI nO), .ref mf, .int (nI nF), .ref mc, .ref mm, .ref mk, .ref mb, .int lf, .int fl, .ref mu, .int f1, .int f2, .int ck, .ref ml, .ref mg, .ref mx])), (mb, .inl (cB, 3, .inl bd)), (mu, .inl (cB, 3, .inl tu))] (fun (v : Int32) (u : (Nat → Int32) × (Nat → Int32)) => v = tu 1 ∧ u.1 = itB1 b bd tu ∧ u.2 = itT 1 219 b tu) (fun u => [(o, .inr (5, [.int th, .ref mt, .int (nI nT), .int lim, .ref mo, .int (nI nO), .ref mf, .int (nI nF), .ref mc, .ref mm, .ref mk, .ref mb, .int lf, .int fl, .ref mu, .int f1, .int f2, .int ck, .ref ml, .ref mg, .ref mx])), (mb, .inl (cB, 3, .inl u.1)), (mu, .inl (cB, 3, .inl u.2))]) 0 0 := by
  refine ft_ei (cc := b_M_isTurned) (maxL := 5) (ret := (some .boolean)) (by decide) rfl (Nat.le_of_ble_eq_true rfl) ?_
  intro p e s m below meth c A ls hx hb hr hml hts hown hlocks hmn hP hK hD hA hS hNW hl
  have ht : ∀ w ∈ ft_big, w.before _ s = true := fun w h => hts w (List.mem_cons_of_mem _ h)
  have hP : va_P D vwCl [(o, .inr (5, [.int th, .ref mt, .int (nI nT), .int lim, .ref mo, .int (nI nO), .ref mf, .int (nI nF), .ref mc, .ref mm, .ref mk, .ref mb, .int lf, .int fl, .ref mu, .int f1, .int f2, .int ck, .ref ml, .ref mg, .ref mx])), (mb, .inl (cB, 3, .inl bd)), (mu, .inl (cB, 3, .inl tu))] s.heap := hP
  have hD : va_D A [(o, .inr (5, [.int th, .ref mt, .int (nI nT), .int lim, .ref mo, .int (nI nO), .ref mf, .int (nI nF), .ref mc, .ref mm, .ref mk, .ref mb, .int lf, .int fl, .ref mu, .int f1, .int f2, .int ck, .ref ml, .ref mg, .ref mx])), (mb, .inl (cB, 3, .inl bd)), (mu, .inl (cB, 3, .inl tu))] := hD
  have hl : lv_has ls 5 [(0, .ref o), (1, .int (nI 1)), (2, .int b)] := hl
  refine lv_aload_n hx hb d_M_isTurned_0 rfl (lv_at hl 0 rfl) ?_
  refine va_get (D := D) (ci := 5) (v := .ref mu) (C := R_M) (T := F_M) (N := 21) hx hb ht bi_M hown hK hP 0 rfl rfl 14 (by decide) (ht _ bw_421) (fun _ h9 => h9) rfl d_M_isTurned_1 ?_
  refine lv_iload_n hx hb d_M_isTurned_4 rfl (lv_at hl 1 rfl) ?_
  refine va_zald hx hb hK hP 2 1 rfl rfl (vp_in_nI (by omega) (by omega)) d_M_isTurned_5 ?_
  refine ft_top (congrArg tu (show (nI 1).toNatClampNeg = 1 from by decide)) ?_
  refine lv_istore_n (lv' := [(3, .int (tu 1)), (0, .ref o), (1, .int (nI 1)), (2, .int b)]) hx hb d_M_isTurned_6 rfl hl (by decide) rfl (fun ls hl => ?_)
  refine lv_iload_n hx hb d_M_isTurned_7 rfl (lv_at hl 2 rfl) ?_
  refine lv_iconst (v := nI 1) hx hb d_M_isTurned_8 (by decide +kernel) ?_
  refine lv_icmp_ne (tgt := 18) hx hb d_M_isTurned_9 (by decide) (fun c9 => absurd (by decide) c9) (fun _ => ?_)
  refine lv_sipush (v := 219) hx hb d_M_isTurned_12 (by decide +kernel) ?_
  refine lv_goto (tgt := 20) hx hb d_M_isTurned_15 (by decide) ?_
  refine lv_istore (lv' := [(4, .int 219), (3, .int (tu 1)), (0, .ref o), (1, .int (nI 1)), (2, .int b)]) hx hb d_M_isTurned_20 hl (by decide) rfl (fun ls hl => ?_)
  refine lv_aload_n hx hb d_M_isTurned_22 rfl (lv_at hl 2 rfl) ?_
  refine va_get (D := D) (ci := 5) (v := .ref mu) (C := R_M) (T := F_M) (N := 21) hx hb ht bi_M hown hK hP 0 rfl rfl 14 (by decide) (ht _ bw_421) (fun _ h9 => h9) rfl d_M_isTurned_23 ?_
  refine lv_iload_n hx hb d_M_isTurned_26 rfl (lv_at hl 3 rfl) ?_
  refine lv_iload_n hx hb d_M_isTurned_27 rfl (lv_at hl 1 rfl) ?_
  refine lv_if_ne (tgt := 41) hx hb d_M_isTurned_28 (by decide) (fun c28 => ?_) (fun c28 => ?_)
  · skip
    refine lv_iconst (v := 0) hx hb d_M_isTurned_41 (by decide +kernel) ?_
    refine va_zast hx hb hK hP hD hS 2 1 rfl rfl (vp_in_nI (by omega) (by omega)) d_M_isTurned_42 (fun H locs hP hD hS => ?_)
    rw [show vp_nar .boolean 0 = 0 from rfl] at hP hD
    rw [show (nI 1).toNatClampNeg = 1 from by decide] at hP hD
    obtain ⟨tu_1, etu_1⟩ : ∃ g : Nat → Int32, g = upd tu 1 0 := ⟨_, rfl⟩
    rw [← etu_1] at hP hD
    have hP : va_P D vwCl [(o, .inr (5, [.int th, .ref mt, .int (nI nT), .int lim, .ref mo, .int (nI nO), .ref mf, .int (nI nF), .ref mc, .ref mm, .ref mk, .ref mb, .int lf, .int fl, .ref mu, .int f1, .int f2, .int ck, .ref ml, .ref mg, .ref mx])), (mb, .inl (cB, 3, .inl bd)), (mu, .inl (cB, 3, .inl tu_1))] H := hP
    have hD : va_D A [(o, .inr (5, [.int th, .ref mt, .int (nI nT), .int lim, .ref mo, .int (nI nO), .ref mf, .int (nI nF), .ref mc, .ref mm, .ref mk, .ref mb, .int lf, .int fl, .ref mu, .int f1, .int f2, .int ck, .ref ml, .ref mg, .ref mx])), (mb, .inl (cB, 3, .inl bd)), (mu, .inl (cB, 3, .inl tu_1))] := hD
    refine lv_iload_n hx hb d_M_isTurned_43 rfl (lv_at hl 1 rfl) ?_
    refine lv_if_eq (tgt := 95) hx hb d_M_isTurned_44 (by decide) (fun c44 => absurd c44 c28) (fun _ => ?_)
    refine lv_aload_n hx hb d_M_isTurned_47 rfl (lv_at hl 2 rfl) ?_
    refine va_get (D := D) (ci := 5) (v := .ref mb) (C := R_M) (T := F_M) (N := 21) hx hb ht bi_M hown hK hP 0 rfl rfl 11 (by decide) (ht _ bw_418) (fun _ h9 => h9) rfl d_M_isTurned_48 ?_
    refine lv_iload_n hx hb d_M_isTurned_51 rfl (lv_at hl 3 rfl) ?_
    refine lv_aload_n hx hb d_M_isTurned_52 rfl (lv_at hl 2 rfl) ?_
    refine va_get (D := D) (ci := 5) (v := .ref mb) (C := R_M) (T := F_M) (N := 21) hx hb ht bi_M hown hK hP 0 rfl rfl 11 (by decide) (ht _ bw_418) (fun _ h9 => h9) rfl d_M_isTurned_53 ?_
    refine lv_iload_n hx hb d_M_isTurned_56 rfl (lv_at hl 3 rfl) ?_
    refine va_zald hx hb hK hP 1 1 rfl rfl (vp_in_nI (by omega) (by omega)) d_M_isTurned_57 ?_
    refine ft_top (congrArg bd (show (nI 1).toNatClampNeg = 1 from by decide)) ?_
    refine lv_if_ne (tgt := 89) hx hb d_M_isTurned_58 (by decide) (fun c58 => ?_) (fun c58 => ?_)
    · skip
      refine lv_iconst (v := 1) hx hb d_M_isTurned_89 (by decide +kernel) ?_
      refine lv_goto (tgt := 94) hx hb d_M_isTurned_90 (by decide) ?_
      refine va_zast hx hb hK hP hD hS 1 1 rfl rfl (vp_in_nI (by omega) (by omega)) d_M_isTurned_94 (fun H locs hP hD hS => ?_)
      rw [show vp_nar .boolean 1 = 1 from rfl] at hP hD
      rw [show (nI 1).toNatClampNeg = 1 from by decide] at hP hD
      obtain ⟨bd_2, ebd_2⟩ : ∃ g : Nat → Int32, g = upd bd 1 1 := ⟨_, rfl⟩
      rw [← ebd_2] at hP hD
      have hP : va_P D vwCl [(o, .inr (5, [.int th, .ref mt, .int (nI nT), .int lim, .ref mo, .int (nI nO), .ref mf, .int (nI nF), .ref mc, .ref mm, .ref mk, .ref mb, .int lf, .int fl, .ref mu, .int f1, .int f2, .int ck, .ref ml, .ref mg, .ref mx])), (mb, .inl (cB, 3, .inl bd_2)), (mu, .inl (cB, 3, .inl tu_1))] H := hP
      have hD : va_D A [(o, .inr (5, [.int th, .ref mt, .int (nI nT), .int lim, .ref mo, .int (nI nO), .ref mf, .int (nI nF), .ref mc, .ref mm, .ref mk, .ref mb, .int lf, .int fl, .ref mu, .int f1, .int f2, .int ck, .ref ml, .ref mg, .ref mx])), (mb, .inl (cB, 3, .inl bd_2)), (mu, .inl (cB, 3, .inl tu_1))] := hD
      refine lv_iload_n hx hb d_M_isTurned_95 rfl (lv_at hl 1 rfl) ?_
      exact ft_retz (bd_2, tu_1) hx hb hr (by rcases hB with q | q <;> rw [q] <;> decide) hlocks hP hK hD hS ⟨rfl, by show _ = itB1 b bd tu; simp [itB1, c28, etu_1, c58, ebd_2], by show _ = itT 1 219 b tu; simp [itT, c28, etu_1, c58, ebd_2]⟩ d_M_isTurned_96
    · skip
      refine lv_iload_n hx hb d_M_isTurned_61 rfl (lv_at hl 3 rfl) ?_
      refine lv_iconst (v := nI 1) hx hb d_M_isTurned_62 (by decide +kernel) ?_
      refine lv_icmp_ne (tgt := 83) hx hb d_M_isTurned_63 (by decide) (fun c63 => absurd (by decide) c63) (fun _ => ?_)
      refine lv_iload_n hx hb d_M_isTurned_66 rfl (lv_at hl 4 rfl) ?_
      refine lv_sipush (v := 220) hx hb d_M_isTurned_67 (by decide +kernel) ?_
      refine lv_icmp_eq (tgt := 93) hx hb d_M_isTurned_70 (by decide) (fun c70 => ?_) (fun c70 => ?_)
      · skip
        refine lv_iconst (v := 0) hx hb d_M_isTurned_93 (by decide +kernel) ?_
        refine va_zast hx hb hK hP hD hS 1 1 rfl rfl (vp_in_nI (by omega) (by omega)) d_M_isTurned_94 (fun H locs hP hD hS => ?_)
        rw [show vp_nar .boolean 0 = 0 from rfl] at hP hD
        rw [show (nI 1).toNatClampNeg = 1 from by decide] at hP hD
        obtain ⟨bd_3, ebd_3⟩ : ∃ g : Nat → Int32, g = upd bd 1 0 := ⟨_, rfl⟩
        rw [← ebd_3] at hP hD
        have hP : va_P D vwCl [(o, .inr (5, [.int th, .ref mt, .int (nI nT), .int lim, .ref mo, .int (nI nO), .ref mf, .int (nI nF), .ref mc, .ref mm, .ref mk, .ref mb, .int lf, .int fl, .ref mu, .int f1, .int f2, .int ck, .ref ml, .ref mg, .ref mx])), (mb, .inl (cB, 3, .inl bd_3)), (mu, .inl (cB, 3, .inl tu_1))] H := hP
        have hD : va_D A [(o, .inr (5, [.int th, .ref mt, .int (nI nT), .int lim, .ref mo, .int (nI nO), .ref mf, .int (nI nF), .ref mc, .ref mm, .ref mk, .ref mb, .int lf, .int fl, .ref mu, .int f1, .int f2, .int ck, .ref ml, .ref mg, .ref mx])), (mb, .inl (cB, 3, .inl bd_3)), (mu, .inl (cB, 3, .inl tu_1))] := hD
        refine lv_iload_n hx hb d_M_isTurned_95 rfl (lv_at hl 1 rfl) ?_
        exact ft_retz (bd_3, tu_1) hx hb hr (by rcases hB with q | q <;> rw [q] <;> decide) hlocks hP hK hD hS ⟨rfl, by show _ = itB1 b bd tu; simp [itB1, c28, etu_1, c58, c70, ebd_3], by show _ = itT 1 219 b tu; simp [itT, c28, etu_1, c58, c70, ebd_3]⟩ d_M_isTurned_96
      · skip
        refine lv_iload_n hx hb d_M_isTurned_73 rfl (lv_at hl 4 rfl) ?_
        refine lv_sipush (v := 221) hx hb d_M_isTurned_74 (by decide +kernel) ?_
        refine lv_icmp_eq (tgt := 93) hx hb d_M_isTurned_77 (by decide) (fun c77 => ?_) (fun c77 => ?_)
        · skip
          refine lv_iconst (v := 0) hx hb d_M_isTurned_93 (by decide +kernel) ?_
          refine va_zast hx hb hK hP hD hS 1 1 rfl rfl (vp_in_nI (by omega) (by omega)) d_M_isTurned_94 (fun H locs hP hD hS => ?_)
          rw [show vp_nar .boolean 0 = 0 from rfl] at hP hD
          rw [show (nI 1).toNatClampNeg = 1 from by decide] at hP hD
          obtain ⟨bd_4, ebd_4⟩ : ∃ g : Nat → Int32, g = upd bd 1 0 := ⟨_, rfl⟩
          rw [← ebd_4] at hP hD
          have hP : va_P D vwCl [(o, .inr (5, [.int th, .ref mt, .int (nI nT), .int lim, .ref mo, .int (nI nO), .ref mf, .int (nI nF), .ref mc, .ref mm, .ref mk, .ref mb, .int lf, .int fl, .ref mu, .int f1, .int f2, .int ck, .ref ml, .ref mg, .ref mx])), (mb, .inl (cB, 3, .inl bd_4)), (mu, .inl (cB, 3, .inl tu_1))] H := hP
          have hD : va_D A [(o, .inr (5, [.int th, .ref mt, .int (nI nT), .int lim, .ref mo, .int (nI nO), .ref mf, .int (nI nF), .ref mc, .ref mm, .ref mk, .ref mb, .int lf, .int fl, .ref mu, .int f1, .int f2, .int ck, .ref ml, .ref mg, .ref mx])), (mb, .inl (cB, 3, .inl bd_4)), (mu, .inl (cB, 3, .inl tu_1))] := hD
          refine lv_iload_n hx hb d_M_isTurned_95 rfl (lv_at hl 1 rfl) ?_
          exact ft_retz (bd_4, tu_1) hx hb hr (by rcases hB with q | q <;> rw [q] <;> decide) hlocks hP hK hD hS ⟨rfl, by show _ = itB1 b bd tu; simp [itB1, c28, etu_1, c58, c70, c77, ebd_4], by show _ = itT 1 219 b tu; simp [itT, c28, etu_1, c58, c70, c77, ebd_4]⟩ d_M_isTurned_96
        · skip
          refine lv_goto (tgt := 89) hx hb d_M_isTurned_80 (by decide) ?_
          refine lv_iconst (v := 1) hx hb d_M_isTurned_89 (by decide +kernel) ?_
          refine lv_goto (tgt := 94) hx hb d_M_isTurned_90 (by decide) ?_
          refine va_zast hx hb hK hP hD hS 1 1 rfl rfl (vp_in_nI (by omega) (by omega)) d_M_isTurned_94 (fun H locs hP hD hS => ?_)
          rw [show vp_nar .boolean 1 = 1 from rfl] at hP hD
          rw [show (nI 1).toNatClampNeg = 1 from by decide] at hP hD
          obtain ⟨bd_5, ebd_5⟩ : ∃ g : Nat → Int32, g = upd bd 1 1 := ⟨_, rfl⟩
          rw [← ebd_5] at hP hD
          have hP : va_P D vwCl [(o, .inr (5, [.int th, .ref mt, .int (nI nT), .int lim, .ref mo, .int (nI nO), .ref mf, .int (nI nF), .ref mc, .ref mm, .ref mk, .ref mb, .int lf, .int fl, .ref mu, .int f1, .int f2, .int ck, .ref ml, .ref mg, .ref mx])), (mb, .inl (cB, 3, .inl bd_5)), (mu, .inl (cB, 3, .inl tu_1))] H := hP
          have hD : va_D A [(o, .inr (5, [.int th, .ref mt, .int (nI nT), .int lim, .ref mo, .int (nI nO), .ref mf, .int (nI nF), .ref mc, .ref mm, .ref mk, .ref mb, .int lf, .int fl, .ref mu, .int f1, .int f2, .int ck, .ref ml, .ref mg, .ref mx])), (mb, .inl (cB, 3, .inl bd_5)), (mu, .inl (cB, 3, .inl tu_1))] := hD
          refine lv_iload_n hx hb d_M_isTurned_95 rfl (lv_at hl 1 rfl) ?_
          exact ft_retz (bd_5, tu_1) hx hb hr (by rcases hB with q | q <;> rw [q] <;> decide) hlocks hP hK hD hS ⟨rfl, by show _ = itB1 b bd tu; simp [itB1, c28, etu_1, c58, c70, c77, ebd_5], by show _ = itT 1 219 b tu; simp [itT, c28, etu_1, c58, c70, c77, ebd_5]⟩ d_M_isTurned_96
  · skip
    refine lv_iload_n hx hb d_M_isTurned_31 rfl (lv_at hl 4 rfl) ?_
    refine lv_iload hx hb d_M_isTurned_32 (lv_at hl 0 rfl) ?_
    refine lv_icmp_ne (tgt := 41) hx hb d_M_isTurned_34 (by decide) (fun c34 => ?_) (fun c34 => ?_)
    · skip
      refine lv_iconst (v := 0) hx hb d_M_isTurned_41 (by decide +kernel) ?_
      refine va_zast hx hb hK hP hD hS 2 1 rfl rfl (vp_in_nI (by omega) (by omega)) d_M_isTurned_42 (fun H locs hP hD hS => ?_)
      rw [show vp_nar .boolean 0 = 0 from rfl] at hP hD
      rw [show (nI 1).toNatClampNeg = 1 from by decide] at hP hD
      obtain ⟨tu_6, etu_6⟩ : ∃ g : Nat → Int32, g = upd tu 1 0 := ⟨_, rfl⟩
      rw [← etu_6] at hP hD
      have hP : va_P D vwCl [(o, .inr (5, [.int th, .ref mt, .int (nI nT), .int lim, .ref mo, .int (nI nO), .ref mf, .int (nI nF), .ref mc, .ref mm, .ref mk, .ref mb, .int lf, .int fl, .ref mu, .int f1, .int f2, .int ck, .ref ml, .ref mg, .ref mx])), (mb, .inl (cB, 3, .inl bd)), (mu, .inl (cB, 3, .inl tu_6))] H := hP
      have hD : va_D A [(o, .inr (5, [.int th, .ref mt, .int (nI nT), .int lim, .ref mo, .int (nI nO), .ref mf, .int (nI nF), .ref mc, .ref mm, .ref mk, .ref mb, .int lf, .int fl, .ref mu, .int f1, .int f2, .int ck, .ref ml, .ref mg, .ref mx])), (mb, .inl (cB, 3, .inl bd)), (mu, .inl (cB, 3, .inl tu_6))] := hD
      refine lv_iload_n hx hb d_M_isTurned_43 rfl (lv_at hl 1 rfl) ?_
      refine lv_if_eq (tgt := 95) hx hb d_M_isTurned_44 (by decide) (fun _ => ?_) (fun c44 => absurd c28 c44)
      refine lv_iload_n hx hb d_M_isTurned_95 rfl (lv_at hl 1 rfl) ?_
      exact ft_retz (bd, tu_6) hx hb hr (by rcases hB with q | q <;> rw [q] <;> decide) hlocks hP hK hD hS ⟨rfl, by show _ = itB1 b bd tu; simp [itB1, c28, c34, etu_6], by show _ = itT 1 219 b tu; simp [itT, c28, c34, etu_6]⟩ d_M_isTurned_96
    · skip
      refine lv_iconst (v := 1) hx hb d_M_isTurned_37 (by decide +kernel) ?_
      refine lv_goto (tgt := 42) hx hb d_M_isTurned_38 (by decide) ?_
      refine va_zast hx hb hK hP hD hS 2 1 rfl rfl (vp_in_nI (by omega) (by omega)) d_M_isTurned_42 (fun H locs hP hD hS => ?_)
      rw [show vp_nar .boolean 1 = 1 from rfl] at hP hD
      rw [show (nI 1).toNatClampNeg = 1 from by decide] at hP hD
      obtain ⟨tu_7, etu_7⟩ : ∃ g : Nat → Int32, g = upd tu 1 1 := ⟨_, rfl⟩
      rw [← etu_7] at hP hD
      have hP : va_P D vwCl [(o, .inr (5, [.int th, .ref mt, .int (nI nT), .int lim, .ref mo, .int (nI nO), .ref mf, .int (nI nF), .ref mc, .ref mm, .ref mk, .ref mb, .int lf, .int fl, .ref mu, .int f1, .int f2, .int ck, .ref ml, .ref mg, .ref mx])), (mb, .inl (cB, 3, .inl bd)), (mu, .inl (cB, 3, .inl tu_7))] H := hP
      have hD : va_D A [(o, .inr (5, [.int th, .ref mt, .int (nI nT), .int lim, .ref mo, .int (nI nO), .ref mf, .int (nI nF), .ref mc, .ref mm, .ref mk, .ref mb, .int lf, .int fl, .ref mu, .int f1, .int f2, .int ck, .ref ml, .ref mg, .ref mx])), (mb, .inl (cB, 3, .inl bd)), (mu, .inl (cB, 3, .inl tu_7))] := hD
      refine lv_iload_n hx hb d_M_isTurned_43 rfl (lv_at hl 1 rfl) ?_
      refine lv_if_eq (tgt := 95) hx hb d_M_isTurned_44 (by decide) (fun _ => ?_) (fun c44 => absurd c28 c44)
      refine lv_iload_n hx hb d_M_isTurned_95 rfl (lv_at hl 1 rfl) ?_
      exact ft_retz (bd, tu_7) hx hb hr (by rcases hB with q | q <;> rw [q] <;> decide) hlocks hP hK hD hS ⟨rfl, by show _ = itB1 b bd tu; simp [itB1, c28, c34, etu_7], by show _ = itT 1 219 b tu; simp [itT, c28, c34, etu_7]⟩ d_M_isTurned_96

set_option maxHeartbeats 4000000 in
set_option maxRecDepth 100000 in
theorem c_M_isTurned_2 (l : Launch) (D : va_G) (cI : ClassId) (cB : ClassId) (o mt mo mf mc mm mk mb mu ml mg mx : Nat) (th lim lf fl f1 f2 ck : Int32) (nT nO nF : Nat) (bd tu : Nat → Int32) (hB : tu 2 = 0 ∨ tu 2 = 1) (b : Int32) (sz : Nat) : ft_Mi l y_M_isTurned (.code y_M_isTurned b_M_isTurned 5 (some .boolean) :: ft_big) ({ frames := 0, cells := 0, slots := 0, locals := 0 }) D [(cI, .int), (cB, .boolean)] sz [.ref o, .int (nI 2), .int b] [(o, .inr (5, [.int th, .ref mt, .int (nI nT), .int lim, .ref mo, .int (nI nO), .ref mf, .int (nI nF), .ref mc, .ref mm, .ref mk, .ref mb, .int lf, .int fl, .ref mu, .int f1, .int f2, .int ck, .ref ml, .ref mg, .ref mx])), (mb, .inl (cB, 3, .inl bd)), (mu, .inl (cB, 3, .inl tu))] (fun (v : Int32) (u : (Nat → Int32) × (Nat → Int32)) => v = tu 2 ∧ u.1 = itB2 b bd tu ∧ u.2 = itT 2 125 b tu) (fun u => [(o, .inr (5, [.int th, .ref mt, .int (nI nT), .int lim, .ref mo, .int (nI nO), .ref mf, .int (nI nF), .ref mc, .ref mm, .ref mk, .ref mb, .int lf, .int fl, .ref mu, .int f1, .int f2, .int ck, .ref ml, .ref mg, .ref mx])), (mb, .inl (cB, 3, .inl u.1)), (mu, .inl (cB, 3, .inl u.2))]) 0 0 := by
  refine ft_ei (cc := b_M_isTurned) (maxL := 5) (ret := (some .boolean)) (by decide) rfl (Nat.le_of_ble_eq_true rfl) ?_
  intro p e s m below meth c A ls hx hb hr hml hts hown hlocks hmn hP hK hD hA hS hNW hl
  have ht : ∀ w ∈ ft_big, w.before _ s = true := fun w h => hts w (List.mem_cons_of_mem _ h)
  have hP : va_P D vwCl [(o, .inr (5, [.int th, .ref mt, .int (nI nT), .int lim, .ref mo, .int (nI nO), .ref mf, .int (nI nF), .ref mc, .ref mm, .ref mk, .ref mb, .int lf, .int fl, .ref mu, .int f1, .int f2, .int ck, .ref ml, .ref mg, .ref mx])), (mb, .inl (cB, 3, .inl bd)), (mu, .inl (cB, 3, .inl tu))] s.heap := hP
  have hD : va_D A [(o, .inr (5, [.int th, .ref mt, .int (nI nT), .int lim, .ref mo, .int (nI nO), .ref mf, .int (nI nF), .ref mc, .ref mm, .ref mk, .ref mb, .int lf, .int fl, .ref mu, .int f1, .int f2, .int ck, .ref ml, .ref mg, .ref mx])), (mb, .inl (cB, 3, .inl bd)), (mu, .inl (cB, 3, .inl tu))] := hD
  have hl : lv_has ls 5 [(0, .ref o), (1, .int (nI 2)), (2, .int b)] := hl
  refine lv_aload_n hx hb d_M_isTurned_0 rfl (lv_at hl 0 rfl) ?_
  refine va_get (D := D) (ci := 5) (v := .ref mu) (C := R_M) (T := F_M) (N := 21) hx hb ht bi_M hown hK hP 0 rfl rfl 14 (by decide) (ht _ bw_421) (fun _ h9 => h9) rfl d_M_isTurned_1 ?_
  refine lv_iload_n hx hb d_M_isTurned_4 rfl (lv_at hl 1 rfl) ?_
  refine va_zald hx hb hK hP 2 1 rfl rfl (vp_in_nI (by omega) (by omega)) d_M_isTurned_5 ?_
  refine ft_top (congrArg tu (show (nI 2).toNatClampNeg = 2 from by decide)) ?_
  refine lv_istore_n (lv' := [(3, .int (tu 2)), (0, .ref o), (1, .int (nI 2)), (2, .int b)]) hx hb d_M_isTurned_6 rfl hl (by decide) rfl (fun ls hl => ?_)
  refine lv_iload_n hx hb d_M_isTurned_7 rfl (lv_at hl 2 rfl) ?_
  refine lv_iconst (v := nI 1) hx hb d_M_isTurned_8 (by decide +kernel) ?_
  refine lv_icmp_ne (tgt := 18) hx hb d_M_isTurned_9 (by decide) (fun _ => ?_) (fun c9 => absurd c9 (by decide))
  refine lv_bipush (v := 125) hx hb d_M_isTurned_18 (by decide +kernel) ?_
  refine lv_istore (lv' := [(4, .int 125), (3, .int (tu 2)), (0, .ref o), (1, .int (nI 2)), (2, .int b)]) hx hb d_M_isTurned_20 hl (by decide) rfl (fun ls hl => ?_)
  refine lv_aload_n hx hb d_M_isTurned_22 rfl (lv_at hl 2 rfl) ?_
  refine va_get (D := D) (ci := 5) (v := .ref mu) (C := R_M) (T := F_M) (N := 21) hx hb ht bi_M hown hK hP 0 rfl rfl 14 (by decide) (ht _ bw_421) (fun _ h9 => h9) rfl d_M_isTurned_23 ?_
  refine lv_iload_n hx hb d_M_isTurned_26 rfl (lv_at hl 3 rfl) ?_
  refine lv_iload_n hx hb d_M_isTurned_27 rfl (lv_at hl 1 rfl) ?_
  refine lv_if_ne (tgt := 41) hx hb d_M_isTurned_28 (by decide) (fun c28 => ?_) (fun c28 => ?_)
  · skip
    refine lv_iconst (v := 0) hx hb d_M_isTurned_41 (by decide +kernel) ?_
    refine va_zast hx hb hK hP hD hS 2 1 rfl rfl (vp_in_nI (by omega) (by omega)) d_M_isTurned_42 (fun H locs hP hD hS => ?_)
    rw [show vp_nar .boolean 0 = 0 from rfl] at hP hD
    rw [show (nI 2).toNatClampNeg = 2 from by decide] at hP hD
    obtain ⟨tu_1, etu_1⟩ : ∃ g : Nat → Int32, g = upd tu 2 0 := ⟨_, rfl⟩
    rw [← etu_1] at hP hD
    have hP : va_P D vwCl [(o, .inr (5, [.int th, .ref mt, .int (nI nT), .int lim, .ref mo, .int (nI nO), .ref mf, .int (nI nF), .ref mc, .ref mm, .ref mk, .ref mb, .int lf, .int fl, .ref mu, .int f1, .int f2, .int ck, .ref ml, .ref mg, .ref mx])), (mb, .inl (cB, 3, .inl bd)), (mu, .inl (cB, 3, .inl tu_1))] H := hP
    have hD : va_D A [(o, .inr (5, [.int th, .ref mt, .int (nI nT), .int lim, .ref mo, .int (nI nO), .ref mf, .int (nI nF), .ref mc, .ref mm, .ref mk, .ref mb, .int lf, .int fl, .ref mu, .int f1, .int f2, .int ck, .ref ml, .ref mg, .ref mx])), (mb, .inl (cB, 3, .inl bd)), (mu, .inl (cB, 3, .inl tu_1))] := hD
    refine lv_iload_n hx hb d_M_isTurned_43 rfl (lv_at hl 1 rfl) ?_
    refine lv_if_eq (tgt := 95) hx hb d_M_isTurned_44 (by decide) (fun c44 => absurd c44 c28) (fun _ => ?_)
    refine lv_aload_n hx hb d_M_isTurned_47 rfl (lv_at hl 2 rfl) ?_
    refine va_get (D := D) (ci := 5) (v := .ref mb) (C := R_M) (T := F_M) (N := 21) hx hb ht bi_M hown hK hP 0 rfl rfl 11 (by decide) (ht _ bw_418) (fun _ h9 => h9) rfl d_M_isTurned_48 ?_
    refine lv_iload_n hx hb d_M_isTurned_51 rfl (lv_at hl 3 rfl) ?_
    refine lv_aload_n hx hb d_M_isTurned_52 rfl (lv_at hl 2 rfl) ?_
    refine va_get (D := D) (ci := 5) (v := .ref mb) (C := R_M) (T := F_M) (N := 21) hx hb ht bi_M hown hK hP 0 rfl rfl 11 (by decide) (ht _ bw_418) (fun _ h9 => h9) rfl d_M_isTurned_53 ?_
    refine lv_iload_n hx hb d_M_isTurned_56 rfl (lv_at hl 3 rfl) ?_
    refine va_zald hx hb hK hP 1 1 rfl rfl (vp_in_nI (by omega) (by omega)) d_M_isTurned_57 ?_
    refine ft_top (congrArg bd (show (nI 2).toNatClampNeg = 2 from by decide)) ?_
    refine lv_if_ne (tgt := 89) hx hb d_M_isTurned_58 (by decide) (fun c58 => ?_) (fun c58 => ?_)
    · skip
      refine lv_iconst (v := 1) hx hb d_M_isTurned_89 (by decide +kernel) ?_
      refine lv_goto (tgt := 94) hx hb d_M_isTurned_90 (by decide) ?_
      refine va_zast hx hb hK hP hD hS 1 1 rfl rfl (vp_in_nI (by omega) (by omega)) d_M_isTurned_94 (fun H locs hP hD hS => ?_)
      rw [show vp_nar .boolean 1 = 1 from rfl] at hP hD
      rw [show (nI 2).toNatClampNeg = 2 from by decide] at hP hD
      obtain ⟨bd_2, ebd_2⟩ : ∃ g : Nat → Int32, g = upd bd 2 1 := ⟨_, rfl⟩
      rw [← ebd_2] at hP hD
      have hP : va_P D vwCl [(o, .inr (5, [.int th, .ref mt, .int (nI nT), .int lim, .ref mo, .int (nI nO), .ref mf, .int (nI nF), .ref mc, .ref mm, .ref mk, .ref mb, .int lf, .int fl, .ref mu, .int f1, .int f2, .int ck, .ref ml, .ref mg, .ref mx])), (mb, .inl (cB, 3, .inl bd_2)), (mu, .inl (cB, 3, .inl tu_1))] H := hP
      have hD : va_D A [(o, .inr (5, [.int th, .ref mt, .int (nI nT), .int lim, .ref mo, .int (nI nO), .ref mf, .int (nI nF), .ref mc, .ref mm, .ref mk, .ref mb, .int lf, .int fl, .ref mu, .int f1, .int f2, .int ck, .ref ml, .ref mg, .ref mx])), (mb, .inl (cB, 3, .inl bd_2)), (mu, .inl (cB, 3, .inl tu_1))] := hD
      refine lv_iload_n hx hb d_M_isTurned_95 rfl (lv_at hl 1 rfl) ?_
      exact ft_retz (bd_2, tu_1) hx hb hr (by rcases hB with q | q <;> rw [q] <;> decide) hlocks hP hK hD hS ⟨rfl, by show _ = itB2 b bd tu; simp [itB2, c28, etu_1, c58, ebd_2], by show _ = itT 2 125 b tu; simp [itT, c28, etu_1, c58, ebd_2]⟩ d_M_isTurned_96
    · skip
      refine lv_iload_n hx hb d_M_isTurned_61 rfl (lv_at hl 3 rfl) ?_
      refine lv_iconst (v := nI 1) hx hb d_M_isTurned_62 (by decide +kernel) ?_
      refine lv_icmp_ne (tgt := 83) hx hb d_M_isTurned_63 (by decide) (fun _ => ?_) (fun c63 => absurd c63 (by decide))
      refine lv_iload_n hx hb d_M_isTurned_83 rfl (lv_at hl 4 rfl) ?_
      refine lv_bipush (v := 125) hx hb d_M_isTurned_84 (by decide +kernel) ?_
      refine lv_icmp_ne (tgt := 93) hx hb d_M_isTurned_86 (by decide) (fun c86 => ?_) (fun c86 => ?_)
      · skip
        refine lv_iconst (v := 0) hx hb d_M_isTurned_93 (by decide +kernel) ?_
        refine va_zast hx hb hK hP hD hS 1 1 rfl rfl (vp_in_nI (by omega) (by omega)) d_M_isTurned_94 (fun H locs hP hD hS => ?_)
        rw [show vp_nar .boolean 0 = 0 from rfl] at hP hD
        rw [show (nI 2).toNatClampNeg = 2 from by decide] at hP hD
        obtain ⟨bd_3, ebd_3⟩ : ∃ g : Nat → Int32, g = upd bd 2 0 := ⟨_, rfl⟩
        rw [← ebd_3] at hP hD
        have hP : va_P D vwCl [(o, .inr (5, [.int th, .ref mt, .int (nI nT), .int lim, .ref mo, .int (nI nO), .ref mf, .int (nI nF), .ref mc, .ref mm, .ref mk, .ref mb, .int lf, .int fl, .ref mu, .int f1, .int f2, .int ck, .ref ml, .ref mg, .ref mx])), (mb, .inl (cB, 3, .inl bd_3)), (mu, .inl (cB, 3, .inl tu_1))] H := hP
        have hD : va_D A [(o, .inr (5, [.int th, .ref mt, .int (nI nT), .int lim, .ref mo, .int (nI nO), .ref mf, .int (nI nF), .ref mc, .ref mm, .ref mk, .ref mb, .int lf, .int fl, .ref mu, .int f1, .int f2, .int ck, .ref ml, .ref mg, .ref mx])), (mb, .inl (cB, 3, .inl bd_3)), (mu, .inl (cB, 3, .inl tu_1))] := hD
        refine lv_iload_n hx hb d_M_isTurned_95 rfl (lv_at hl 1 rfl) ?_
        exact ft_retz (bd_3, tu_1) hx hb hr (by rcases hB with q | q <;> rw [q] <;> decide) hlocks hP hK hD hS ⟨rfl, by show _ = itB2 b bd tu; simp [itB2, c28, etu_1, c58, c86, ebd_3], by show _ = itT 2 125 b tu; simp [itT, c28, etu_1, c58, c86, ebd_3]⟩ d_M_isTurned_96
      · skip
        refine lv_iconst (v := 1) hx hb d_M_isTurned_89 (by decide +kernel) ?_
        refine lv_goto (tgt := 94) hx hb d_M_isTurned_90 (by decide) ?_
        refine va_zast hx hb hK hP hD hS 1 1 rfl rfl (vp_in_nI (by omega) (by omega)) d_M_isTurned_94 (fun H locs hP hD hS => ?_)
        rw [show vp_nar .boolean 1 = 1 from rfl] at hP hD
        rw [show (nI 2).toNatClampNeg = 2 from by decide] at hP hD
        obtain ⟨bd_4, ebd_4⟩ : ∃ g : Nat → Int32, g = upd bd 2 1 := ⟨_, rfl⟩
        rw [← ebd_4] at hP hD
        have hP : va_P D vwCl [(o, .inr (5, [.int th, .ref mt, .int (nI nT), .int lim, .ref mo, .int (nI nO), .ref mf, .int (nI nF), .ref mc, .ref mm, .ref mk, .ref mb, .int lf, .int fl, .ref mu, .int f1, .int f2, .int ck, .ref ml, .ref mg, .ref mx])), (mb, .inl (cB, 3, .inl bd_4)), (mu, .inl (cB, 3, .inl tu_1))] H := hP
        have hD : va_D A [(o, .inr (5, [.int th, .ref mt, .int (nI nT), .int lim, .ref mo, .int (nI nO), .ref mf, .int (nI nF), .ref mc, .ref mm, .ref mk, .ref mb, .int lf, .int fl, .ref mu, .int f1, .int f2, .int ck, .ref ml, .ref mg, .ref mx])), (mb, .inl (cB, 3, .inl bd_4)), (mu, .inl (cB, 3, .inl tu_1))] := hD
        refine lv_iload_n hx hb d_M_isTurned_95 rfl (lv_at hl 1 rfl) ?_
        exact ft_retz (bd_4, tu_1) hx hb hr (by rcases hB with q | q <;> rw [q] <;> decide) hlocks hP hK hD hS ⟨rfl, by show _ = itB2 b bd tu; simp [itB2, c28, etu_1, c58, c86, ebd_4], by show _ = itT 2 125 b tu; simp [itT, c28, etu_1, c58, c86, ebd_4]⟩ d_M_isTurned_96
  · skip
    refine lv_iload_n hx hb d_M_isTurned_31 rfl (lv_at hl 4 rfl) ?_
    refine lv_iload hx hb d_M_isTurned_32 (lv_at hl 0 rfl) ?_
    refine lv_icmp_ne (tgt := 41) hx hb d_M_isTurned_34 (by decide) (fun c34 => ?_) (fun c34 => ?_)
    · skip
      refine lv_iconst (v := 0) hx hb d_M_isTurned_41 (by decide +kernel) ?_
      refine va_zast hx hb hK hP hD hS 2 1 rfl rfl (vp_in_nI (by omega) (by omega)) d_M_isTurned_42 (fun H locs hP hD hS => ?_)
      rw [show vp_nar .boolean 0 = 0 from rfl] at hP hD
      rw [show (nI 2).toNatClampNeg = 2 from by decide] at hP hD
      obtain ⟨tu_5, etu_5⟩ : ∃ g : Nat → Int32, g = upd tu 2 0 := ⟨_, rfl⟩
      rw [← etu_5] at hP hD
      have hP : va_P D vwCl [(o, .inr (5, [.int th, .ref mt, .int (nI nT), .int lim, .ref mo, .int (nI nO), .ref mf, .int (nI nF), .ref mc, .ref mm, .ref mk, .ref mb, .int lf, .int fl, .ref mu, .int f1, .int f2, .int ck, .ref ml, .ref mg, .ref mx])), (mb, .inl (cB, 3, .inl bd)), (mu, .inl (cB, 3, .inl tu_5))] H := hP
      have hD : va_D A [(o, .inr (5, [.int th, .ref mt, .int (nI nT), .int lim, .ref mo, .int (nI nO), .ref mf, .int (nI nF), .ref mc, .ref mm, .ref mk, .ref mb, .int lf, .int fl, .ref mu, .int f1, .int f2, .int ck, .ref ml, .ref mg, .ref mx])), (mb, .inl (cB, 3, .inl bd)), (mu, .inl (cB, 3, .inl tu_5))] := hD
      refine lv_iload_n hx hb d_M_isTurned_43 rfl (lv_at hl 1 rfl) ?_
      refine lv_if_eq (tgt := 95) hx hb d_M_isTurned_44 (by decide) (fun _ => ?_) (fun c44 => absurd c28 c44)
      refine lv_iload_n hx hb d_M_isTurned_95 rfl (lv_at hl 1 rfl) ?_
      exact ft_retz (bd, tu_5) hx hb hr (by rcases hB with q | q <;> rw [q] <;> decide) hlocks hP hK hD hS ⟨rfl, by show _ = itB2 b bd tu; simp [itB2, c28, c34, etu_5], by show _ = itT 2 125 b tu; simp [itT, c28, c34, etu_5]⟩ d_M_isTurned_96
    · skip
      refine lv_iconst (v := 1) hx hb d_M_isTurned_37 (by decide +kernel) ?_
      refine lv_goto (tgt := 42) hx hb d_M_isTurned_38 (by decide) ?_
      refine va_zast hx hb hK hP hD hS 2 1 rfl rfl (vp_in_nI (by omega) (by omega)) d_M_isTurned_42 (fun H locs hP hD hS => ?_)
      rw [show vp_nar .boolean 1 = 1 from rfl] at hP hD
      rw [show (nI 2).toNatClampNeg = 2 from by decide] at hP hD
      obtain ⟨tu_6, etu_6⟩ : ∃ g : Nat → Int32, g = upd tu 2 1 := ⟨_, rfl⟩
      rw [← etu_6] at hP hD
      have hP : va_P D vwCl [(o, .inr (5, [.int th, .ref mt, .int (nI nT), .int lim, .ref mo, .int (nI nO), .ref mf, .int (nI nF), .ref mc, .ref mm, .ref mk, .ref mb, .int lf, .int fl, .ref mu, .int f1, .int f2, .int ck, .ref ml, .ref mg, .ref mx])), (mb, .inl (cB, 3, .inl bd)), (mu, .inl (cB, 3, .inl tu_6))] H := hP
      have hD : va_D A [(o, .inr (5, [.int th, .ref mt, .int (nI nT), .int lim, .ref mo, .int (nI nO), .ref mf, .int (nI nF), .ref mc, .ref mm, .ref mk, .ref mb, .int lf, .int fl, .ref mu, .int f1, .int f2, .int ck, .ref ml, .ref mg, .ref mx])), (mb, .inl (cB, 3, .inl bd)), (mu, .inl (cB, 3, .inl tu_6))] := hD
      refine lv_iload_n hx hb d_M_isTurned_43 rfl (lv_at hl 1 rfl) ?_
      refine lv_if_eq (tgt := 95) hx hb d_M_isTurned_44 (by decide) (fun _ => ?_) (fun c44 => absurd c28 c44)
      refine lv_iload_n hx hb d_M_isTurned_95 rfl (lv_at hl 1 rfl) ?_
      exact ft_retz (bd, tu_6) hx hb hr (by rcases hB with q | q <;> rw [q] <;> decide) hlocks hP hK hD hS ⟨rfl, by show _ = itB2 b bd tu; simp [itB2, c28, c34, etu_6], by show _ = itT 2 125 b tu; simp [itT, c28, c34, etu_6]⟩ d_M_isTurned_96

set_option maxHeartbeats 4000000 in
set_option maxRecDepth 100000 in
theorem c_M_comeTurned_1 (l : Launch) (D : va_G) (cI : ClassId) (cB : ClassId) (o mt mo mf mc mm mk mb mu ml mg mx : Nat) (th lim lf fl f1 f2 ck : Int32) (nT nO nF : Nat) (mn : Nat → Nat) (kp bd tu : Nat → Int32) (hM : mn 1 < 1073741824) (hB : tu 1 = 0 ∨ tu 1 = 1) (b : Int32) (sz : Nat) : ft_Mv l y_M_comeTurned (.code y_M_comeTurned b_M_comeTurned 5 none :: ft_big) ({ frames := 1, cells := 0, slots := 0, locals := 40 }) D [(cI, .int), (cB, .boolean)] sz [.ref o, .int (nI 1), .int b] [(o, .inr (5, [.int th, .ref mt, .int (nI nT), .int lim, .ref mo, .int (nI nO), .ref mf, .int (nI nF), .ref mc, .ref mm, .ref mk, .ref mb, .int lf, .int fl, .ref mu, .int f1, .int f2, .int ck, .ref ml, .ref mg, .ref mx])), (mm, .inl (cI, 3, .inl (fun j => nI (mn j)))), (mk, .inl (cI, 1200, .inl kp)), (mb, .inl (cB, 3, .inl bd)), (mu, .inl (cB, 3, .inl tu))] (fun u : (Nat → Nat) × (Nat → Int32) × (Nat → Int32) × (Nat → Int32) => (u.1, u.2.1) = ctM1 b mn kp bd tu ∧ u.2.2.1 = itB1 b bd tu ∧ u.2.2.2 = itT 1 219 b tu) (fun u => [(o, .inr (5, [.int th, .ref mt, .int (nI nT), .int lim, .ref mo, .int (nI nO), .ref mf, .int (nI nF), .ref mc, .ref mm, .ref mk, .ref mb, .int lf, .int fl, .ref mu, .int f1, .int f2, .int ck, .ref ml, .ref mg, .ref mx])), (mm, .inl (cI, 3, .inl (fun j => nI (u.1 j)))), (mk, .inl (cI, 1200, .inl u.2.1)), (mb, .inl (cB, 3, .inl u.2.2.1)), (mu, .inl (cB, 3, .inl u.2.2.2))]) 0 0 := by
  refine ft_ev (cc := b_M_comeTurned) (maxL := 5) (ret := none) (by decide) rfl (Nat.le_of_ble_eq_true rfl) ?_
  intro p e s m below meth c A ls hx hb hr hml hts hown hlocks hmn hP hK hD hA hS hNW hl
  have ht : ∀ w ∈ ft_big, w.before _ s = true := fun w h => hts w (List.mem_cons_of_mem _ h)
  have hP : va_P D vwCl [(o, .inr (5, [.int th, .ref mt, .int (nI nT), .int lim, .ref mo, .int (nI nO), .ref mf, .int (nI nF), .ref mc, .ref mm, .ref mk, .ref mb, .int lf, .int fl, .ref mu, .int f1, .int f2, .int ck, .ref ml, .ref mg, .ref mx])), (mm, .inl (cI, 3, .inl (fun j => nI (mn j)))), (mk, .inl (cI, 1200, .inl kp)), (mb, .inl (cB, 3, .inl bd)), (mu, .inl (cB, 3, .inl tu))] s.heap := hP
  have hD : va_D A [(o, .inr (5, [.int th, .ref mt, .int (nI nT), .int lim, .ref mo, .int (nI nO), .ref mf, .int (nI nF), .ref mc, .ref mm, .ref mk, .ref mb, .int lf, .int fl, .ref mu, .int f1, .int f2, .int ck, .ref ml, .ref mg, .ref mx])), (mm, .inl (cI, 3, .inl (fun j => nI (mn j)))), (mk, .inl (cI, 1200, .inl kp)), (mb, .inl (cB, 3, .inl bd)), (mu, .inl (cB, 3, .inl tu))] := hD
  have hl : lv_has ls 5 [(0, .ref o), (1, .int (nI 1)), (2, .int b)] := hl
  refine lv_aload_n hx hb d_M_comeTurned_0 rfl (lv_at hl 0 rfl) ?_
  refine lv_iload_n hx hb d_M_comeTurned_1 rfl (lv_at hl 1 rfl) ?_
  refine lv_iload_n hx hb d_M_comeTurned_2 rfl (lv_at hl 2 rfl) ?_
  refine ft_ci (wc := [(o, .inr (5, [.int th, .ref mt, .int (nI nT), .int lim, .ref mo, .int (nI nO), .ref mf, .int (nI nF), .ref mc, .ref mm, .ref mk, .ref mb, .int lf, .int fl, .ref mu, .int f1, .int f2, .int ck, .ref ml, .ref mg, .ref mx])), (mb, .inl (cB, 3, .inl bd)), (mu, .inl (cB, 3, .inl tu))]) (wr := [(mm, .inl (cI, 3, .inl (fun j => nI (mn j)))), (mk, .inl (cI, 1200, .inl kp))]) (va_runV (As := [.int (nI 1), .int b]) (rest := []) ⟨hx, hb, hml, hown, ht⟩ (c_M_isTurned_1 l D cI cB o mt mo mf mc mm mk mb mu ml mg mx th lim lf fl f1 f2 ck nT nO nF bd tu hB b s.heap.size) (ft_cwV 2 ht bw_560 bw_562 bw_30 bw_39 bw_563 (by decide) ⟨Nat.le_of_ble_eq_true rfl, Nat.le_of_ble_eq_true rfl⟩) ⟨ft_blind, va_recv hK hP (ci := 5) (q0 := 0) rfl rfl, (ft_pre hP hD hK hNW [0, 3, 4] [0, 1] rfl rfl (by decide) rfl _)⟩ rfl rfl hl.1 rfl (lv_room (Nat.le_of_ble_eq_true rfl)) d_M_comeTurned_3 ⟨Nat.le_of_ble_eq_true rfl, Nat.le_of_ble_eq_true rfl⟩) hP hD hS hA [0, 3, 4] [1, 2] rfl rfl (by decide) (by decide) (fun r_1 u_2 H locs hu_2 hP hD hS => ?_)
  obtain ⟨bd1, tu1⟩ := u_2
  obtain ⟨e_v, e_b, e_t⟩ : r_1 = tu 1 ∧ bd1 = itB1 b bd tu ∧ tu1 = itT 1 219 b tu := hu_2
  subst e_v
  have hP : va_P D vwCl [(mm, .inl (cI, 3, .inl (fun j => nI (mn j)))), (mk, .inl (cI, 1200, .inl kp)), (o, .inr (5, [.int th, .ref mt, .int (nI nT), .int lim, .ref mo, .int (nI nO), .ref mf, .int (nI nF), .ref mc, .ref mm, .ref mk, .ref mb, .int lf, .int fl, .ref mu, .int f1, .int f2, .int ck, .ref ml, .ref mg, .ref mx])), (mb, .inl (cB, 3, .inl bd1)), (mu, .inl (cB, 3, .inl tu1))] H := hP
  have hD : va_D A [(mm, .inl (cI, 3, .inl (fun j => nI (mn j)))), (mk, .inl (cI, 1200, .inl kp)), (o, .inr (5, [.int th, .ref mt, .int (nI nT), .int lim, .ref mo, .int (nI nO), .ref mf, .int (nI nF), .ref mc, .ref mm, .ref mk, .ref mb, .int lf, .int fl, .ref mu, .int f1, .int f2, .int ck, .ref ml, .ref mg, .ref mx])), (mb, .inl (cB, 3, .inl bd1)), (mu, .inl (cB, 3, .inl tu1))] := hD
  refine lv_istore_n (lv' := [(3, .int (tu 1)), (0, .ref o), (1, .int (nI 1)), (2, .int b)]) hx hb d_M_comeTurned_6 rfl hl (by decide) rfl (fun ls hl => ?_)
  refine lv_aload_n hx hb d_M_comeTurned_7 rfl (lv_at hl 1 rfl) ?_
  refine va_get (D := D) (ci := 5) (v := .ref mu) (C := R_M) (T := F_M) (N := 21) hx hb ht bi_M hown hK hP 2 rfl rfl 14 (by decide) (ht _ bw_421) (fun _ h9 => h9) rfl d_M_comeTurned_8 ?_
  refine lv_iload_n hx hb d_M_comeTurned_11 rfl (lv_at hl 2 rfl) ?_
  refine va_zald hx hb hK hP 4 1 rfl rfl (vp_in_nI (by omega) (by omega)) d_M_comeTurned_12 ?_
  refine ft_top (congrArg tu1 (show (nI 1).toNatClampNeg = 1 from by decide)) ?_
  refine lv_if_eq (tgt := 17) hx hb d_M_comeTurned_13 (by decide) (fun c13 => ?_) (fun c13 => ?_)
  · skip
    refine lv_iload_n hx hb d_M_comeTurned_17 rfl (lv_at hl 0 rfl) ?_
    refine lv_if_ne (tgt := 25) hx hb d_M_comeTurned_18 (by decide) (fun c18 => ?_) (fun c18 => ?_)
    · skip
      refine lv_iload_n hx hb d_M_comeTurned_25 rfl (lv_at hl 2 rfl) ?_
      refine lv_iconst (v := nI 1) hx hb d_M_comeTurned_26 (by decide +kernel) ?_
      refine lv_icmp_ne (tgt := 49) hx hb d_M_comeTurned_27 (by decide) (fun c27 => absurd (by decide) c27) (fun _ => ?_)
      refine lv_iload_n hx hb d_M_comeTurned_30 rfl (lv_at hl 3 rfl) ?_
      refine lv_sipush (v := 220) hx hb d_M_comeTurned_31 (by decide +kernel) ?_
      refine lv_icmp_ne (tgt := 43) hx hb d_M_comeTurned_34 (by decide) (fun c34 => ?_) (fun c34 => ?_)
      · skip
        refine lv_sipush (v := 219) hx hb d_M_comeTurned_43 (by decide +kernel) ?_
        refine lv_goto (tgt := 53) hx hb d_M_comeTurned_46 (by decide) ?_
        refine lv_istore (lv' := [(4, .int 219), (3, .int (tu 1)), (0, .ref o), (1, .int (nI 1)), (2, .int b)]) hx hb d_M_comeTurned_53 hl (by decide) rfl (fun ls hl => ?_)
        refine lv_iload_n hx hb d_M_comeTurned_55 rfl (lv_at hl 3 rfl) ?_
        refine lv_iconst (v := nI 1) hx hb d_M_comeTurned_56 (by decide +kernel) ?_
        refine lv_icmp_ne (tgt := 68) hx hb d_M_comeTurned_57 (by decide) (fun c57 => absurd (by decide) c57) (fun _ => ?_)
        refine lv_aload_n hx hb d_M_comeTurned_60 rfl (lv_at hl 2 rfl) ?_
        refine lv_iconst (v := nI 1) hx hb d_M_comeTurned_61 (by decide +kernel) ?_
        refine lv_iload hx hb d_M_comeTurned_62 (lv_at hl 0 rfl) ?_
        refine ft_cv (wc := [(o, .inr (5, [.int th, .ref mt, .int (nI nT), .int lim, .ref mo, .int (nI nO), .ref mf, .int (nI nF), .ref mc, .ref mm, .ref mk, .ref mb, .int lf, .int fl, .ref mu, .int f1, .int f2, .int ck, .ref ml, .ref mg, .ref mx])), (mm, .inl (cI, 3, .inl (fun j => nI (mn j)))), (mk, .inl (cI, 1200, .inl kp))]) (wr := [(mb, .inl (cB, 3, .inl bd1)), (mu, .inl (cB, 3, .inl tu1))]) (va_runV (As := [.int (nI 1), .int 219]) (rest := []) ⟨hx, hb, hml, hown, ht⟩ (c_M_keep_1 l D cI cB o mt mo mf mc mm mk mb mu ml mg mx th lim lf fl f1 f2 ck nT nO nF mn kp (by omega) 219 H.size) (ft_cwV 2 ht bw_552 bw_554 bw_28 bw_39 bw_555 (by decide) ⟨Nat.le_of_ble_eq_true rfl, Nat.le_of_ble_eq_true rfl⟩) ⟨ft_blind, va_recv hK hP (ci := 5) (q0 := 2) rfl rfl, (ft_pre hP hD hK hNW [2, 0, 1] [0, 1] rfl rfl (by decide) rfl _)⟩ rfl rfl hl.1 rfl (lv_room (Nat.le_of_ble_eq_true rfl)) d_M_comeTurned_64 ⟨Nat.le_of_ble_eq_true rfl, Nat.le_of_ble_eq_true rfl⟩) hP hD hS hA [2, 0, 1] [3, 4] rfl rfl (by decide) (by decide) (fun u_5 H locs hu_5 hP hD hS => ?_)
        obtain ⟨mnk3, kpk3⟩ := u_5
        have e_mk3 : mnk3 = (keepM 1 219 mn kp).1 := congrArg Prod.fst hu_5
        have e_kk3 : kpk3 = (keepM 1 219 mn kp).2 := congrArg Prod.snd hu_5
        have hP : va_P D vwCl [(mb, .inl (cB, 3, .inl bd1)), (mu, .inl (cB, 3, .inl tu1)), (o, .inr (5, [.int th, .ref mt, .int (nI nT), .int lim, .ref mo, .int (nI nO), .ref mf, .int (nI nF), .ref mc, .ref mm, .ref mk, .ref mb, .int lf, .int fl, .ref mu, .int f1, .int f2, .int ck, .ref ml, .ref mg, .ref mx])), (mm, .inl (cI, 3, .inl (fun j => nI (mnk3 j)))), (mk, .inl (cI, 1200, .inl kpk3))] H := hP
        have hD : va_D A [(mb, .inl (cB, 3, .inl bd1)), (mu, .inl (cB, 3, .inl tu1)), (o, .inr (5, [.int th, .ref mt, .int (nI nT), .int lim, .ref mo, .int (nI nO), .ref mf, .int (nI nF), .ref mc, .ref mm, .ref mk, .ref mb, .int lf, .int fl, .ref mu, .int f1, .int f2, .int ck, .ref ml, .ref mg, .ref mx])), (mm, .inl (cI, 3, .inl (fun j => nI (mnk3 j)))), (mk, .inl (cI, 1200, .inl kpk3))] := hD
        exact ft_retv (mnk3, kpk3, bd1, tu1) hx hb hr hlocks (hP.sub [2, 3, 4, 0, 1] rfl) hK (hD.sub [2, 3, 4, 0, 1] (by decide) rfl) hS ⟨by show (_, _) = ctM1 b mn kp bd tu; unfold ctM1; rw [← e_t, if_pos c13]; simp [c18, c34, e_mk3, e_kk3], e_b, e_t⟩ d_M_comeTurned_67
      · skip
        refine lv_sipush (v := 192) hx hb d_M_comeTurned_37 (by decide +kernel) ?_
        refine lv_goto (tgt := 53) hx hb d_M_comeTurned_40 (by decide) ?_
        refine lv_istore (lv' := [(4, .int 192), (3, .int (tu 1)), (0, .ref o), (1, .int (nI 1)), (2, .int b)]) hx hb d_M_comeTurned_53 hl (by decide) rfl (fun ls hl => ?_)
        refine lv_iload_n hx hb d_M_comeTurned_55 rfl (lv_at hl 3 rfl) ?_
        refine lv_iconst (v := nI 1) hx hb d_M_comeTurned_56 (by decide +kernel) ?_
        refine lv_icmp_ne (tgt := 68) hx hb d_M_comeTurned_57 (by decide) (fun c57 => absurd (by decide) c57) (fun _ => ?_)
        refine lv_aload_n hx hb d_M_comeTurned_60 rfl (lv_at hl 2 rfl) ?_
        refine lv_iconst (v := nI 1) hx hb d_M_comeTurned_61 (by decide +kernel) ?_
        refine lv_iload hx hb d_M_comeTurned_62 (lv_at hl 0 rfl) ?_
        refine ft_cv (wc := [(o, .inr (5, [.int th, .ref mt, .int (nI nT), .int lim, .ref mo, .int (nI nO), .ref mf, .int (nI nF), .ref mc, .ref mm, .ref mk, .ref mb, .int lf, .int fl, .ref mu, .int f1, .int f2, .int ck, .ref ml, .ref mg, .ref mx])), (mm, .inl (cI, 3, .inl (fun j => nI (mn j)))), (mk, .inl (cI, 1200, .inl kp))]) (wr := [(mb, .inl (cB, 3, .inl bd1)), (mu, .inl (cB, 3, .inl tu1))]) (va_runV (As := [.int (nI 1), .int 192]) (rest := []) ⟨hx, hb, hml, hown, ht⟩ (c_M_keep_1 l D cI cB o mt mo mf mc mm mk mb mu ml mg mx th lim lf fl f1 f2 ck nT nO nF mn kp (by omega) 192 H.size) (ft_cwV 2 ht bw_552 bw_554 bw_28 bw_39 bw_555 (by decide) ⟨Nat.le_of_ble_eq_true rfl, Nat.le_of_ble_eq_true rfl⟩) ⟨ft_blind, va_recv hK hP (ci := 5) (q0 := 2) rfl rfl, (ft_pre hP hD hK hNW [2, 0, 1] [0, 1] rfl rfl (by decide) rfl _)⟩ rfl rfl hl.1 rfl (lv_room (Nat.le_of_ble_eq_true rfl)) d_M_comeTurned_64 ⟨Nat.le_of_ble_eq_true rfl, Nat.le_of_ble_eq_true rfl⟩) hP hD hS hA [2, 0, 1] [3, 4] rfl rfl (by decide) (by decide) (fun u_8 H locs hu_8 hP hD hS => ?_)
        obtain ⟨mnk6, kpk6⟩ := u_8
        have e_mk6 : mnk6 = (keepM 1 192 mn kp).1 := congrArg Prod.fst hu_8
        have e_kk6 : kpk6 = (keepM 1 192 mn kp).2 := congrArg Prod.snd hu_8
        have hP : va_P D vwCl [(mb, .inl (cB, 3, .inl bd1)), (mu, .inl (cB, 3, .inl tu1)), (o, .inr (5, [.int th, .ref mt, .int (nI nT), .int lim, .ref mo, .int (nI nO), .ref mf, .int (nI nF), .ref mc, .ref mm, .ref mk, .ref mb, .int lf, .int fl, .ref mu, .int f1, .int f2, .int ck, .ref ml, .ref mg, .ref mx])), (mm, .inl (cI, 3, .inl (fun j => nI (mnk6 j)))), (mk, .inl (cI, 1200, .inl kpk6))] H := hP
        have hD : va_D A [(mb, .inl (cB, 3, .inl bd1)), (mu, .inl (cB, 3, .inl tu1)), (o, .inr (5, [.int th, .ref mt, .int (nI nT), .int lim, .ref mo, .int (nI nO), .ref mf, .int (nI nF), .ref mc, .ref mm, .ref mk, .ref mb, .int lf, .int fl, .ref mu, .int f1, .int f2, .int ck, .ref ml, .ref mg, .ref mx])), (mm, .inl (cI, 3, .inl (fun j => nI (mnk6 j)))), (mk, .inl (cI, 1200, .inl kpk6))] := hD
        exact ft_retv (mnk6, kpk6, bd1, tu1) hx hb hr hlocks (hP.sub [2, 3, 4, 0, 1] rfl) hK (hD.sub [2, 3, 4, 0, 1] (by decide) rfl) hS ⟨by show (_, _) = ctM1 b mn kp bd tu; unfold ctM1; rw [← e_t, if_pos c13]; simp [c18, c34, e_mk6, e_kk6], e_b, e_t⟩ d_M_comeTurned_67
    · skip
      refine lv_iload_n hx hb d_M_comeTurned_21 rfl (lv_at hl 3 rfl) ?_
      refine lv_goto (tgt := 53) hx hb d_M_comeTurned_22 (by decide) ?_
      refine lv_istore (lv' := [(4, .int b), (3, .int (tu 1)), (0, .ref o), (1, .int (nI 1)), (2, .int b)]) hx hb d_M_comeTurned_53 hl (by decide) rfl (fun ls hl => ?_)
      refine lv_iload_n hx hb d_M_comeTurned_55 rfl (lv_at hl 3 rfl) ?_
      refine lv_iconst (v := nI 1) hx hb d_M_comeTurned_56 (by decide +kernel) ?_
      refine lv_icmp_ne (tgt := 68) hx hb d_M_comeTurned_57 (by decide) (fun c57 => absurd (by decide) c57) (fun _ => ?_)
      refine lv_aload_n hx hb d_M_comeTurned_60 rfl (lv_at hl 2 rfl) ?_
      refine lv_iconst (v := nI 1) hx hb d_M_comeTurned_61 (by decide +kernel) ?_
      refine lv_iload hx hb d_M_comeTurned_62 (lv_at hl 0 rfl) ?_
      refine ft_cv (wc := [(o, .inr (5, [.int th, .ref mt, .int (nI nT), .int lim, .ref mo, .int (nI nO), .ref mf, .int (nI nF), .ref mc, .ref mm, .ref mk, .ref mb, .int lf, .int fl, .ref mu, .int f1, .int f2, .int ck, .ref ml, .ref mg, .ref mx])), (mm, .inl (cI, 3, .inl (fun j => nI (mn j)))), (mk, .inl (cI, 1200, .inl kp))]) (wr := [(mb, .inl (cB, 3, .inl bd1)), (mu, .inl (cB, 3, .inl tu1))]) (va_runV (As := [.int (nI 1), .int b]) (rest := []) ⟨hx, hb, hml, hown, ht⟩ (c_M_keep_1 l D cI cB o mt mo mf mc mm mk mb mu ml mg mx th lim lf fl f1 f2 ck nT nO nF mn kp (by omega) b H.size) (ft_cwV 2 ht bw_552 bw_554 bw_28 bw_39 bw_555 (by decide) ⟨Nat.le_of_ble_eq_true rfl, Nat.le_of_ble_eq_true rfl⟩) ⟨ft_blind, va_recv hK hP (ci := 5) (q0 := 2) rfl rfl, (ft_pre hP hD hK hNW [2, 0, 1] [0, 1] rfl rfl (by decide) rfl _)⟩ rfl rfl hl.1 rfl (lv_room (Nat.le_of_ble_eq_true rfl)) d_M_comeTurned_64 ⟨Nat.le_of_ble_eq_true rfl, Nat.le_of_ble_eq_true rfl⟩) hP hD hS hA [2, 0, 1] [3, 4] rfl rfl (by decide) (by decide) (fun u_11 H locs hu_11 hP hD hS => ?_)
      obtain ⟨mnk9, kpk9⟩ := u_11
      have e_mk9 : mnk9 = (keepM 1 b mn kp).1 := congrArg Prod.fst hu_11
      have e_kk9 : kpk9 = (keepM 1 b mn kp).2 := congrArg Prod.snd hu_11
      have hP : va_P D vwCl [(mb, .inl (cB, 3, .inl bd1)), (mu, .inl (cB, 3, .inl tu1)), (o, .inr (5, [.int th, .ref mt, .int (nI nT), .int lim, .ref mo, .int (nI nO), .ref mf, .int (nI nF), .ref mc, .ref mm, .ref mk, .ref mb, .int lf, .int fl, .ref mu, .int f1, .int f2, .int ck, .ref ml, .ref mg, .ref mx])), (mm, .inl (cI, 3, .inl (fun j => nI (mnk9 j)))), (mk, .inl (cI, 1200, .inl kpk9))] H := hP
      have hD : va_D A [(mb, .inl (cB, 3, .inl bd1)), (mu, .inl (cB, 3, .inl tu1)), (o, .inr (5, [.int th, .ref mt, .int (nI nT), .int lim, .ref mo, .int (nI nO), .ref mf, .int (nI nF), .ref mc, .ref mm, .ref mk, .ref mb, .int lf, .int fl, .ref mu, .int f1, .int f2, .int ck, .ref ml, .ref mg, .ref mx])), (mm, .inl (cI, 3, .inl (fun j => nI (mnk9 j)))), (mk, .inl (cI, 1200, .inl kpk9))] := hD
      exact ft_retv (mnk9, kpk9, bd1, tu1) hx hb hr hlocks (hP.sub [2, 3, 4, 0, 1] rfl) hK (hD.sub [2, 3, 4, 0, 1] (by decide) rfl) hS ⟨by show (_, _) = ctM1 b mn kp bd tu; unfold ctM1; rw [← e_t, if_pos c13]; simp [c18, e_mk9, e_kk9], e_b, e_t⟩ d_M_comeTurned_67
  · skip
    exact ft_retv (mn, kp, bd1, tu1) hx hb hr hlocks (hP.sub [2, 0, 1, 3, 4] rfl) hK (hD.sub [2, 0, 1, 3, 4] (by decide) rfl) hS ⟨by show (_, _) = ctM1 b mn kp bd tu; simp only [ctM1, ← e_t, if_neg c13], e_b, e_t⟩ d_M_comeTurned_16

set_option maxHeartbeats 4000000 in
set_option maxRecDepth 100000 in
theorem c_M_comeTurned_2 (l : Launch) (D : va_G) (cI : ClassId) (cB : ClassId) (o mt mo mf mc mm mk mb mu ml mg mx : Nat) (th lim lf fl f1 f2 ck : Int32) (nT nO nF : Nat) (mn : Nat → Nat) (kp bd tu : Nat → Int32) (hM : mn 2 < 1073741824) (hB : tu 2 = 0 ∨ tu 2 = 1) (b : Int32) (sz : Nat) : ft_Mv l y_M_comeTurned (.code y_M_comeTurned b_M_comeTurned 5 none :: ft_big) ({ frames := 1, cells := 0, slots := 0, locals := 40 }) D [(cI, .int), (cB, .boolean)] sz [.ref o, .int (nI 2), .int b] [(o, .inr (5, [.int th, .ref mt, .int (nI nT), .int lim, .ref mo, .int (nI nO), .ref mf, .int (nI nF), .ref mc, .ref mm, .ref mk, .ref mb, .int lf, .int fl, .ref mu, .int f1, .int f2, .int ck, .ref ml, .ref mg, .ref mx])), (mm, .inl (cI, 3, .inl (fun j => nI (mn j)))), (mk, .inl (cI, 1200, .inl kp)), (mb, .inl (cB, 3, .inl bd)), (mu, .inl (cB, 3, .inl tu))] (fun u : (Nat → Nat) × (Nat → Int32) × Int32 × Int32 × Int32 × (Nat → Int32) × (Nat → Int32) => (u.1, u.2.1, u.2.2.1, u.2.2.2.1, u.2.2.2.2.1) = ctM2 b mn kp bd tu f1 f2 ck ∧ u.2.2.2.2.2.1 = itB2 b bd tu ∧ u.2.2.2.2.2.2 = itT 2 125 b tu) (fun u => [(o, .inr (5, [.int th, .ref mt, .int (nI nT), .int lim, .ref mo, .int (nI nO), .ref mf, .int (nI nF), .ref mc, .ref mm, .ref mk, .ref mb, .int lf, .int fl, .ref mu, .int u.2.2.1, .int u.2.2.2.1, .int u.2.2.2.2.1, .ref ml, .ref mg, .ref mx])), (mm, .inl (cI, 3, .inl (fun j => nI (u.1 j)))), (mk, .inl (cI, 1200, .inl u.2.1)), (mb, .inl (cB, 3, .inl u.2.2.2.2.2.1)), (mu, .inl (cB, 3, .inl u.2.2.2.2.2.2))]) 0 0 := by
  refine ft_ev (cc := b_M_comeTurned) (maxL := 5) (ret := none) (by decide) rfl (Nat.le_of_ble_eq_true rfl) ?_
  intro p e s m below meth c A ls hx hb hr hml hts hown hlocks hmn hP hK hD hA hS hNW hl
  have ht : ∀ w ∈ ft_big, w.before _ s = true := fun w h => hts w (List.mem_cons_of_mem _ h)
  have hP : va_P D vwCl [(o, .inr (5, [.int th, .ref mt, .int (nI nT), .int lim, .ref mo, .int (nI nO), .ref mf, .int (nI nF), .ref mc, .ref mm, .ref mk, .ref mb, .int lf, .int fl, .ref mu, .int f1, .int f2, .int ck, .ref ml, .ref mg, .ref mx])), (mm, .inl (cI, 3, .inl (fun j => nI (mn j)))), (mk, .inl (cI, 1200, .inl kp)), (mb, .inl (cB, 3, .inl bd)), (mu, .inl (cB, 3, .inl tu))] s.heap := hP
  have hD : va_D A [(o, .inr (5, [.int th, .ref mt, .int (nI nT), .int lim, .ref mo, .int (nI nO), .ref mf, .int (nI nF), .ref mc, .ref mm, .ref mk, .ref mb, .int lf, .int fl, .ref mu, .int f1, .int f2, .int ck, .ref ml, .ref mg, .ref mx])), (mm, .inl (cI, 3, .inl (fun j => nI (mn j)))), (mk, .inl (cI, 1200, .inl kp)), (mb, .inl (cB, 3, .inl bd)), (mu, .inl (cB, 3, .inl tu))] := hD
  have hl : lv_has ls 5 [(0, .ref o), (1, .int (nI 2)), (2, .int b)] := hl
  refine lv_aload_n hx hb d_M_comeTurned_0 rfl (lv_at hl 0 rfl) ?_
  refine lv_iload_n hx hb d_M_comeTurned_1 rfl (lv_at hl 1 rfl) ?_
  refine lv_iload_n hx hb d_M_comeTurned_2 rfl (lv_at hl 2 rfl) ?_
  refine ft_ci (wc := [(o, .inr (5, [.int th, .ref mt, .int (nI nT), .int lim, .ref mo, .int (nI nO), .ref mf, .int (nI nF), .ref mc, .ref mm, .ref mk, .ref mb, .int lf, .int fl, .ref mu, .int f1, .int f2, .int ck, .ref ml, .ref mg, .ref mx])), (mb, .inl (cB, 3, .inl bd)), (mu, .inl (cB, 3, .inl tu))]) (wr := [(mm, .inl (cI, 3, .inl (fun j => nI (mn j)))), (mk, .inl (cI, 1200, .inl kp))]) (va_runV (As := [.int (nI 2), .int b]) (rest := []) ⟨hx, hb, hml, hown, ht⟩ (c_M_isTurned_2 l D cI cB o mt mo mf mc mm mk mb mu ml mg mx th lim lf fl f1 f2 ck nT nO nF bd tu hB b s.heap.size) (ft_cwV 2 ht bw_560 bw_562 bw_30 bw_39 bw_563 (by decide) ⟨Nat.le_of_ble_eq_true rfl, Nat.le_of_ble_eq_true rfl⟩) ⟨ft_blind, va_recv hK hP (ci := 5) (q0 := 0) rfl rfl, (ft_pre hP hD hK hNW [0, 3, 4] [0, 1] rfl rfl (by decide) rfl _)⟩ rfl rfl hl.1 rfl (lv_room (Nat.le_of_ble_eq_true rfl)) d_M_comeTurned_3 ⟨Nat.le_of_ble_eq_true rfl, Nat.le_of_ble_eq_true rfl⟩) hP hD hS hA [0, 3, 4] [1, 2] rfl rfl (by decide) (by decide) (fun r_1 u_2 H locs hu_2 hP hD hS => ?_)
  obtain ⟨bd1, tu1⟩ := u_2
  obtain ⟨e_v, e_b, e_t⟩ : r_1 = tu 2 ∧ bd1 = itB2 b bd tu ∧ tu1 = itT 2 125 b tu := hu_2
  subst e_v
  have hP : va_P D vwCl [(mm, .inl (cI, 3, .inl (fun j => nI (mn j)))), (mk, .inl (cI, 1200, .inl kp)), (o, .inr (5, [.int th, .ref mt, .int (nI nT), .int lim, .ref mo, .int (nI nO), .ref mf, .int (nI nF), .ref mc, .ref mm, .ref mk, .ref mb, .int lf, .int fl, .ref mu, .int f1, .int f2, .int ck, .ref ml, .ref mg, .ref mx])), (mb, .inl (cB, 3, .inl bd1)), (mu, .inl (cB, 3, .inl tu1))] H := hP
  have hD : va_D A [(mm, .inl (cI, 3, .inl (fun j => nI (mn j)))), (mk, .inl (cI, 1200, .inl kp)), (o, .inr (5, [.int th, .ref mt, .int (nI nT), .int lim, .ref mo, .int (nI nO), .ref mf, .int (nI nF), .ref mc, .ref mm, .ref mk, .ref mb, .int lf, .int fl, .ref mu, .int f1, .int f2, .int ck, .ref ml, .ref mg, .ref mx])), (mb, .inl (cB, 3, .inl bd1)), (mu, .inl (cB, 3, .inl tu1))] := hD
  refine lv_istore_n (lv' := [(3, .int (tu 2)), (0, .ref o), (1, .int (nI 2)), (2, .int b)]) hx hb d_M_comeTurned_6 rfl hl (by decide) rfl (fun ls hl => ?_)
  refine lv_aload_n hx hb d_M_comeTurned_7 rfl (lv_at hl 1 rfl) ?_
  refine va_get (D := D) (ci := 5) (v := .ref mu) (C := R_M) (T := F_M) (N := 21) hx hb ht bi_M hown hK hP 2 rfl rfl 14 (by decide) (ht _ bw_421) (fun _ h9 => h9) rfl d_M_comeTurned_8 ?_
  refine lv_iload_n hx hb d_M_comeTurned_11 rfl (lv_at hl 2 rfl) ?_
  refine va_zald hx hb hK hP 4 1 rfl rfl (vp_in_nI (by omega) (by omega)) d_M_comeTurned_12 ?_
  refine ft_top (congrArg tu1 (show (nI 2).toNatClampNeg = 2 from by decide)) ?_
  refine lv_if_eq (tgt := 17) hx hb d_M_comeTurned_13 (by decide) (fun c13 => ?_) (fun c13 => ?_)
  · skip
    refine lv_iload_n hx hb d_M_comeTurned_17 rfl (lv_at hl 0 rfl) ?_
    refine lv_if_ne (tgt := 25) hx hb d_M_comeTurned_18 (by decide) (fun c18 => ?_) (fun c18 => ?_)
    · skip
      refine lv_iload_n hx hb d_M_comeTurned_25 rfl (lv_at hl 2 rfl) ?_
      refine lv_iconst (v := nI 1) hx hb d_M_comeTurned_26 (by decide +kernel) ?_
      refine lv_icmp_ne (tgt := 49) hx hb d_M_comeTurned_27 (by decide) (fun _ => ?_) (fun c27 => absurd c27 (by decide))
      refine lv_iload_n hx hb d_M_comeTurned_49 rfl (lv_at hl 3 rfl) ?_
      refine lv_bipush (v := 32) hx hb d_M_comeTurned_50 (by decide +kernel) ?_
      refine lv_ixor hx hb d_M_comeTurned_52 ?_
      refine lv_istore (lv' := [(4, .int (b ^^^ 32)), (3, .int (tu 2)), (0, .ref o), (1, .int (nI 2)), (2, .int b)]) hx hb d_M_comeTurned_53 hl (by decide) rfl (fun ls hl => ?_)
      refine lv_iload_n hx hb d_M_comeTurned_55 rfl (lv_at hl 3 rfl) ?_
      refine lv_iconst (v := nI 1) hx hb d_M_comeTurned_56 (by decide +kernel) ?_
      refine lv_icmp_ne (tgt := 68) hx hb d_M_comeTurned_57 (by decide) (fun _ => ?_) (fun c57 => absurd c57 (by decide))
      refine lv_aload_n hx hb d_M_comeTurned_68 rfl (lv_at hl 2 rfl) ?_
      refine va_get (D := D) (ci := 5) (v := .ref mm) (C := R_M) (T := F_M) (N := 21) hx hb ht bi_M hown hK hP 2 rfl rfl 9 (by decide) (ht _ bw_416) (fun _ h9 => h9) rfl d_M_comeTurned_69 ?_
      refine lv_iconst (v := nI 2) hx hb d_M_comeTurned_72 (by decide +kernel) ?_
      refine va_iald hx hb hK hP 0 0 rfl rfl (vp_in_nI (by omega) (by omega)) d_M_comeTurned_73 ?_
      refine ft_top (y := nI (mn 2)) (congrArg (fun j => nI (mn j)) (by decide)) ?_
      refine lv_iconst (v := nI 2) hx hb d_M_comeTurned_74 (by decide +kernel) ?_
      refine lv_icmp_lt (tgt := 128) hx hb d_M_comeTurned_75 (by decide) (fun c75 => ?_) (fun c75 => ?_)
      · skip
        have c75 : mn 2 < 2 := (nI_ltI (by omega) (by omega)).mp c75
        refine lv_aload_n hx hb d_M_comeTurned_128 rfl (lv_at hl 2 rfl) ?_
        refine lv_aload_n hx hb d_M_comeTurned_129 rfl (lv_at hl 2 rfl) ?_
        refine va_get (D := D) (ci := 5) (v := .int f2) (C := R_M) (T := F_M) (N := 21) hx hb ht bi_M hown hK hP 2 rfl rfl 16 (by decide) (ht _ bw_423) (fun _ h9 => h9) rfl d_M_comeTurned_130 ?_
        refine va_put (D := D) (ci := 5) (v := .int f2) (ty := .int) (C := R_M) (T := F_M) (N := 21) hx hb ht bi_M t_M t_M_ok n_M hown hK hP hD hS 2 rfl rfl 15 (by decide) (ht _ bw_422) (fun _ h9 => h9) rfl (by decide +kernel) rfl rfl (Nat.le_of_ble_eq_true rfl) d_M_comeTurned_133 (fun H locs hP hD hS => ?_)
        have hP : va_P D vwCl [(mm, .inl (cI, 3, .inl (fun j => nI (mn j)))), (mk, .inl (cI, 1200, .inl kp)), (o, .inr (5, [.int th, .ref mt, .int (nI nT), .int lim, .ref mo, .int (nI nO), .ref mf, .int (nI nF), .ref mc, .ref mm, .ref mk, .ref mb, .int lf, .int fl, .ref mu, .int f2, .int f2, .int ck, .ref ml, .ref mg, .ref mx])), (mb, .inl (cB, 3, .inl bd1)), (mu, .inl (cB, 3, .inl tu1))] H := hP
        have hD : va_D A [(mm, .inl (cI, 3, .inl (fun j => nI (mn j)))), (mk, .inl (cI, 1200, .inl kp)), (o, .inr (5, [.int th, .ref mt, .int (nI nT), .int lim, .ref mo, .int (nI nO), .ref mf, .int (nI nF), .ref mc, .ref mm, .ref mk, .ref mb, .int lf, .int fl, .ref mu, .int f2, .int f2, .int ck, .ref ml, .ref mg, .ref mx])), (mb, .inl (cB, 3, .inl bd1)), (mu, .inl (cB, 3, .inl tu1))] := hD
        refine lv_aload_n hx hb d_M_comeTurned_136 rfl (lv_at hl 2 rfl) ?_
        refine lv_iload hx hb d_M_comeTurned_137 (lv_at hl 0 rfl) ?_
        refine va_put (D := D) (ci := 5) (v := .int (b ^^^ 32)) (ty := .int) (C := R_M) (T := F_M) (N := 21) hx hb ht bi_M t_M t_M_ok n_M hown hK hP hD hS 2 rfl rfl 16 (by decide) (ht _ bw_423) (fun _ h9 => h9) rfl (by decide +kernel) rfl rfl (Nat.le_of_ble_eq_true rfl) d_M_comeTurned_139 (fun H locs hP hD hS => ?_)
        have hP : va_P D vwCl [(mm, .inl (cI, 3, .inl (fun j => nI (mn j)))), (mk, .inl (cI, 1200, .inl kp)), (o, .inr (5, [.int th, .ref mt, .int (nI nT), .int lim, .ref mo, .int (nI nO), .ref mf, .int (nI nF), .ref mc, .ref mm, .ref mk, .ref mb, .int lf, .int fl, .ref mu, .int f2, .int (b ^^^ 32), .int ck, .ref ml, .ref mg, .ref mx])), (mb, .inl (cB, 3, .inl bd1)), (mu, .inl (cB, 3, .inl tu1))] H := hP
        have hD : va_D A [(mm, .inl (cI, 3, .inl (fun j => nI (mn j)))), (mk, .inl (cI, 1200, .inl kp)), (o, .inr (5, [.int th, .ref mt, .int (nI nT), .int lim, .ref mo, .int (nI nO), .ref mf, .int (nI nF), .ref mc, .ref mm, .ref mk, .ref mb, .int lf, .int fl, .ref mu, .int f2, .int (b ^^^ 32), .int ck, .ref ml, .ref mg, .ref mx])), (mb, .inl (cB, 3, .inl bd1)), (mu, .inl (cB, 3, .inl tu1))] := hD
        refine lv_aload_n hx hb d_M_comeTurned_142 rfl (lv_at hl 2 rfl) ?_
        refine va_get (D := D) (ci := 5) (v := .ref mm) (C := R_M) (T := F_M) (N := 21) hx hb ht bi_M hown hK hP 2 rfl rfl 9 (by decide) (ht _ bw_416) (fun _ h9 => h9) rfl d_M_comeTurned_143 ?_
        refine lv_iconst (v := nI 2) hx hb d_M_comeTurned_146 (by decide +kernel) ?_
        refine lv_dup2_11 hx hb d_M_comeTurned_147 rfl rfl ?_
        refine va_iald hx hb hK hP 0 0 rfl rfl (vp_in_nI (by omega) (by omega)) d_M_comeTurned_148 ?_
        refine ft_top (y := nI (mn 2)) (congrArg (fun j => nI (mn j)) (by decide)) ?_
        refine lv_iconst (v := nI 1) hx hb d_M_comeTurned_149 (by decide +kernel) ?_
        refine lv_iadd hx hb d_M_comeTurned_150 ?_
        refine ft_top (nI_add (mn 2) 1) ?_
        refine va_iast hx hb hK hP hD hS 0 0 rfl rfl (vp_in_nI (by omega) (by omega)) d_M_comeTurned_151 (fun H locs hP hD hS => ?_)
        rw [show (nI 2).toNatClampNeg = 2 from by decide] at hP hD
        rw [upd_nI] at hP hD
        obtain ⟨mn_3, emn_3⟩ : ∃ g : Nat → Nat, g = va_up mn 2 (mn 2 + 1) := ⟨_, rfl⟩
        rw [← emn_3] at hP hD
        have hP : va_P D vwCl [(mm, .inl (cI, 3, .inl (fun j => nI (mn_3 j)))), (mk, .inl (cI, 1200, .inl kp)), (o, .inr (5, [.int th, .ref mt, .int (nI nT), .int lim, .ref mo, .int (nI nO), .ref mf, .int (nI nF), .ref mc, .ref mm, .ref mk, .ref mb, .int lf, .int fl, .ref mu, .int f2, .int (b ^^^ 32), .int ck, .ref ml, .ref mg, .ref mx])), (mb, .inl (cB, 3, .inl bd1)), (mu, .inl (cB, 3, .inl tu1))] H := hP
        have hD : va_D A [(mm, .inl (cI, 3, .inl (fun j => nI (mn_3 j)))), (mk, .inl (cI, 1200, .inl kp)), (o, .inr (5, [.int th, .ref mt, .int (nI nT), .int lim, .ref mo, .int (nI nO), .ref mf, .int (nI nF), .ref mc, .ref mm, .ref mk, .ref mb, .int lf, .int fl, .ref mu, .int f2, .int (b ^^^ 32), .int ck, .ref ml, .ref mg, .ref mx])), (mb, .inl (cB, 3, .inl bd1)), (mu, .inl (cB, 3, .inl tu1))] := hD
        exact ft_retv (mn_3, kp, f2, b ^^^ 32, ck, bd1, tu1) hx hb hr hlocks (hP.sub [2, 0, 1, 3, 4] rfl) hK (hD.sub [2, 0, 1, 3, 4] (by decide) rfl) hS ⟨by show (_, _, _, _, _) = ctM2 b mn kp bd tu f1 f2 ck; unfold ctM2; rw [← e_t, if_pos c13]; simp [c18, c75, emn_3], e_b, e_t⟩ d_M_comeTurned_152
      · skip
        have c75 : ¬ mn 2 < 2 := fun h => c75 ((nI_ltI (by omega) (by omega)).mpr h)
        refine lv_aload_n hx hb d_M_comeTurned_78 rfl (lv_at hl 2 rfl) ?_
        refine lv_aload_n hx hb d_M_comeTurned_79 rfl (lv_at hl 2 rfl) ?_
        refine va_get (D := D) (ci := 5) (v := .int ck) (C := R_M) (T := F_M) (N := 21) hx hb ht bi_M hown hK hP 2 rfl rfl 17 (by decide) (ht _ bw_424) (fun _ h9 => h9) rfl d_M_comeTurned_80 ?_
        refine lv_aload_n hx hb d_M_comeTurned_83 rfl (lv_at hl 2 rfl) ?_
        refine va_get (D := D) (ci := 5) (v := .int f1) (C := R_M) (T := F_M) (N := 21) hx hb ht bi_M hown hK hP 2 rfl rfl 15 (by decide) (ht _ bw_422) (fun _ h9 => h9) rfl d_M_comeTurned_84 ?_
        refine ft_ci (wc := []) (wr := [(mm, .inl (cI, 3, .inl (fun j => nI (mn j)))), (mk, .inl (cI, 1200, .inl kp)), (o, .inr (5, [.int th, .ref mt, .int (nI nT), .int lim, .ref mo, .int (nI nO), .ref mf, .int (nI nF), .ref mc, .ref mm, .ref mk, .ref mb, .int lf, .int fl, .ref mu, .int f1, .int f2, .int ck, .ref ml, .ref mg, .ref mx])), (mb, .inl (cB, 3, .inl bd1)), (mu, .inl (cB, 3, .inl tu1))]) (va_runS (As := [.int ck, .int f1]) (rest := [.ref o]) ⟨hx, hb, hml, hown, ht⟩ (c_M_checked l D cI cB ck f1 H.size) (ft_cwS 2 ht bw_512 bw_513 bw_39 bw_514 (by decide) ⟨Nat.le_of_ble_eq_true rfl, Nat.le_of_ble_eq_true rfl⟩) ⟨ft_blind, (ft_pre hP hD hK hNW [] [0, 1] rfl rfl (by decide) rfl _)⟩ rfl rfl hl.1 rfl (lv_room (Nat.le_of_ble_eq_true rfl)) d_M_comeTurned_87 ⟨Nat.le_of_ble_eq_true rfl, Nat.le_of_ble_eq_true rfl⟩) hP hD hS hA [] [0, 1, 2, 3, 4] rfl rfl (by decide) (by decide) (fun r_4 u_5 H locs hu_5 hP hD hS => ?_)
        subst hu_5
        have hP : va_P D vwCl [(mm, .inl (cI, 3, .inl (fun j => nI (mn j)))), (mk, .inl (cI, 1200, .inl kp)), (o, .inr (5, [.int th, .ref mt, .int (nI nT), .int lim, .ref mo, .int (nI nO), .ref mf, .int (nI nF), .ref mc, .ref mm, .ref mk, .ref mb, .int lf, .int fl, .ref mu, .int f1, .int f2, .int ck, .ref ml, .ref mg, .ref mx])), (mb, .inl (cB, 3, .inl bd1)), (mu, .inl (cB, 3, .inl tu1))] H := hP
        have hD : va_D A [(mm, .inl (cI, 3, .inl (fun j => nI (mn j)))), (mk, .inl (cI, 1200, .inl kp)), (o, .inr (5, [.int th, .ref mt, .int (nI nT), .int lim, .ref mo, .int (nI nO), .ref mf, .int (nI nF), .ref mc, .ref mm, .ref mk, .ref mb, .int lf, .int fl, .ref mu, .int f1, .int f2, .int ck, .ref ml, .ref mg, .ref mx])), (mb, .inl (cB, 3, .inl bd1)), (mu, .inl (cB, 3, .inl tu1))] := hD
        refine va_put (D := D) (ci := 5) (v := .int (chkB ck f1)) (ty := .int) (C := R_M) (T := F_M) (N := 21) hx hb ht bi_M t_M t_M_ok n_M hown hK hP hD hS 2 rfl rfl 17 (by decide) (ht _ bw_424) (fun _ h9 => h9) rfl (by decide +kernel) rfl rfl (Nat.le_of_ble_eq_true rfl) d_M_comeTurned_90 (fun H locs hP hD hS => ?_)
        have hP : va_P D vwCl [(mm, .inl (cI, 3, .inl (fun j => nI (mn j)))), (mk, .inl (cI, 1200, .inl kp)), (o, .inr (5, [.int th, .ref mt, .int (nI nT), .int lim, .ref mo, .int (nI nO), .ref mf, .int (nI nF), .ref mc, .ref mm, .ref mk, .ref mb, .int lf, .int fl, .ref mu, .int f1, .int f2, .int (chkB ck f1), .ref ml, .ref mg, .ref mx])), (mb, .inl (cB, 3, .inl bd1)), (mu, .inl (cB, 3, .inl tu1))] H := hP
        have hD : va_D A [(mm, .inl (cI, 3, .inl (fun j => nI (mn j)))), (mk, .inl (cI, 1200, .inl kp)), (o, .inr (5, [.int th, .ref mt, .int (nI nT), .int lim, .ref mo, .int (nI nO), .ref mf, .int (nI nF), .ref mc, .ref mm, .ref mk, .ref mb, .int lf, .int fl, .ref mu, .int f1, .int f2, .int (chkB ck f1), .ref ml, .ref mg, .ref mx])), (mb, .inl (cB, 3, .inl bd1)), (mu, .inl (cB, 3, .inl tu1))] := hD
        refine lv_aload_n hx hb d_M_comeTurned_93 rfl (lv_at hl 2 rfl) ?_
        refine va_get (D := D) (ci := 5) (v := .ref mm) (C := R_M) (T := F_M) (N := 21) hx hb ht bi_M hown hK hP 2 rfl rfl 9 (by decide) (ht _ bw_416) (fun _ h9 => h9) rfl d_M_comeTurned_94 ?_
        refine lv_iconst (v := nI 2) hx hb d_M_comeTurned_97 (by decide +kernel) ?_
        refine va_iald hx hb hK hP 0 0 rfl rfl (vp_in_nI (by omega) (by omega)) d_M_comeTurned_98 ?_
        refine ft_top (y := nI (mn 2)) (congrArg (fun j => nI (mn j)) (by decide)) ?_
        refine lv_iconst (v := nI 2) hx hb d_M_comeTurned_99 (by decide +kernel) ?_
        refine lv_isub hx hb d_M_comeTurned_100 ?_
        refine ft_top (pk_sub (by omega)) ?_
        refine lv_sipush (v := nI 400) hx hb d_M_comeTurned_101 (by decide +kernel) ?_
        refine lv_icmp_ge (tgt := 128) hx hb d_M_comeTurned_104 (by decide) (fun c104 => ?_) (fun c104 => ?_)
        · skip
          have c104 : 400 ≤ (mn 2) - 2 := (nI_leI (by omega) (by omega)).mp c104
          have z104 : ¬ mn 2 - 2 < 400 := by omega
          refine lv_aload_n hx hb d_M_comeTurned_128 rfl (lv_at hl 2 rfl) ?_
          refine lv_aload_n hx hb d_M_comeTurned_129 rfl (lv_at hl 2 rfl) ?_
          refine va_get (D := D) (ci := 5) (v := .int f2) (C := R_M) (T := F_M) (N := 21) hx hb ht bi_M hown hK hP 2 rfl rfl 16 (by decide) (ht _ bw_423) (fun _ h9 => h9) rfl d_M_comeTurned_130 ?_
          refine va_put (D := D) (ci := 5) (v := .int f2) (ty := .int) (C := R_M) (T := F_M) (N := 21) hx hb ht bi_M t_M t_M_ok n_M hown hK hP hD hS 2 rfl rfl 15 (by decide) (ht _ bw_422) (fun _ h9 => h9) rfl (by decide +kernel) rfl rfl (Nat.le_of_ble_eq_true rfl) d_M_comeTurned_133 (fun H locs hP hD hS => ?_)
          have hP : va_P D vwCl [(mm, .inl (cI, 3, .inl (fun j => nI (mn j)))), (mk, .inl (cI, 1200, .inl kp)), (o, .inr (5, [.int th, .ref mt, .int (nI nT), .int lim, .ref mo, .int (nI nO), .ref mf, .int (nI nF), .ref mc, .ref mm, .ref mk, .ref mb, .int lf, .int fl, .ref mu, .int f2, .int f2, .int (chkB ck f1), .ref ml, .ref mg, .ref mx])), (mb, .inl (cB, 3, .inl bd1)), (mu, .inl (cB, 3, .inl tu1))] H := hP
          have hD : va_D A [(mm, .inl (cI, 3, .inl (fun j => nI (mn j)))), (mk, .inl (cI, 1200, .inl kp)), (o, .inr (5, [.int th, .ref mt, .int (nI nT), .int lim, .ref mo, .int (nI nO), .ref mf, .int (nI nF), .ref mc, .ref mm, .ref mk, .ref mb, .int lf, .int fl, .ref mu, .int f2, .int f2, .int (chkB ck f1), .ref ml, .ref mg, .ref mx])), (mb, .inl (cB, 3, .inl bd1)), (mu, .inl (cB, 3, .inl tu1))] := hD
          refine lv_aload_n hx hb d_M_comeTurned_136 rfl (lv_at hl 2 rfl) ?_
          refine lv_iload hx hb d_M_comeTurned_137 (lv_at hl 0 rfl) ?_
          refine va_put (D := D) (ci := 5) (v := .int (b ^^^ 32)) (ty := .int) (C := R_M) (T := F_M) (N := 21) hx hb ht bi_M t_M t_M_ok n_M hown hK hP hD hS 2 rfl rfl 16 (by decide) (ht _ bw_423) (fun _ h9 => h9) rfl (by decide +kernel) rfl rfl (Nat.le_of_ble_eq_true rfl) d_M_comeTurned_139 (fun H locs hP hD hS => ?_)
          have hP : va_P D vwCl [(mm, .inl (cI, 3, .inl (fun j => nI (mn j)))), (mk, .inl (cI, 1200, .inl kp)), (o, .inr (5, [.int th, .ref mt, .int (nI nT), .int lim, .ref mo, .int (nI nO), .ref mf, .int (nI nF), .ref mc, .ref mm, .ref mk, .ref mb, .int lf, .int fl, .ref mu, .int f2, .int (b ^^^ 32), .int (chkB ck f1), .ref ml, .ref mg, .ref mx])), (mb, .inl (cB, 3, .inl bd1)), (mu, .inl (cB, 3, .inl tu1))] H := hP
          have hD : va_D A [(mm, .inl (cI, 3, .inl (fun j => nI (mn j)))), (mk, .inl (cI, 1200, .inl kp)), (o, .inr (5, [.int th, .ref mt, .int (nI nT), .int lim, .ref mo, .int (nI nO), .ref mf, .int (nI nF), .ref mc, .ref mm, .ref mk, .ref mb, .int lf, .int fl, .ref mu, .int f2, .int (b ^^^ 32), .int (chkB ck f1), .ref ml, .ref mg, .ref mx])), (mb, .inl (cB, 3, .inl bd1)), (mu, .inl (cB, 3, .inl tu1))] := hD
          refine lv_aload_n hx hb d_M_comeTurned_142 rfl (lv_at hl 2 rfl) ?_
          refine va_get (D := D) (ci := 5) (v := .ref mm) (C := R_M) (T := F_M) (N := 21) hx hb ht bi_M hown hK hP 2 rfl rfl 9 (by decide) (ht _ bw_416) (fun _ h9 => h9) rfl d_M_comeTurned_143 ?_
          refine lv_iconst (v := nI 2) hx hb d_M_comeTurned_146 (by decide +kernel) ?_
          refine lv_dup2_11 hx hb d_M_comeTurned_147 rfl rfl ?_
          refine va_iald hx hb hK hP 0 0 rfl rfl (vp_in_nI (by omega) (by omega)) d_M_comeTurned_148 ?_
          refine ft_top (y := nI (mn 2)) (congrArg (fun j => nI (mn j)) (by decide)) ?_
          refine lv_iconst (v := nI 1) hx hb d_M_comeTurned_149 (by decide +kernel) ?_
          refine lv_iadd hx hb d_M_comeTurned_150 ?_
          refine ft_top (nI_add (mn 2) 1) ?_
          refine va_iast hx hb hK hP hD hS 0 0 rfl rfl (vp_in_nI (by omega) (by omega)) d_M_comeTurned_151 (fun H locs hP hD hS => ?_)
          rw [show (nI 2).toNatClampNeg = 2 from by decide] at hP hD
          rw [upd_nI] at hP hD
          obtain ⟨mn_6, emn_6⟩ : ∃ g : Nat → Nat, g = va_up mn 2 (mn 2 + 1) := ⟨_, rfl⟩
          rw [← emn_6] at hP hD
          have hP : va_P D vwCl [(mm, .inl (cI, 3, .inl (fun j => nI (mn_6 j)))), (mk, .inl (cI, 1200, .inl kp)), (o, .inr (5, [.int th, .ref mt, .int (nI nT), .int lim, .ref mo, .int (nI nO), .ref mf, .int (nI nF), .ref mc, .ref mm, .ref mk, .ref mb, .int lf, .int fl, .ref mu, .int f2, .int (b ^^^ 32), .int (chkB ck f1), .ref ml, .ref mg, .ref mx])), (mb, .inl (cB, 3, .inl bd1)), (mu, .inl (cB, 3, .inl tu1))] H := hP
          have hD : va_D A [(mm, .inl (cI, 3, .inl (fun j => nI (mn_6 j)))), (mk, .inl (cI, 1200, .inl kp)), (o, .inr (5, [.int th, .ref mt, .int (nI nT), .int lim, .ref mo, .int (nI nO), .ref mf, .int (nI nF), .ref mc, .ref mm, .ref mk, .ref mb, .int lf, .int fl, .ref mu, .int f2, .int (b ^^^ 32), .int (chkB ck f1), .ref ml, .ref mg, .ref mx])), (mb, .inl (cB, 3, .inl bd1)), (mu, .inl (cB, 3, .inl tu1))] := hD
          exact ft_retv (mn_6, kp, f2, b ^^^ 32, chkB ck f1, bd1, tu1) hx hb hr hlocks (hP.sub [2, 0, 1, 3, 4] rfl) hK (hD.sub [2, 0, 1, 3, 4] (by decide) rfl) hS ⟨by show (_, _, _, _, _) = ctM2 b mn kp bd tu f1 f2 ck; unfold ctM2; rw [← e_t, if_pos c13]; simp [c18, c75, z104, emn_6], e_b, e_t⟩ d_M_comeTurned_152
        · skip
          have c104 : ¬ 400 ≤ (mn 2) - 2 := fun h => c104 ((nI_leI (by omega) (by omega)).mpr h)
          have z104 : mn 2 - 2 < 400 := by omega
          refine lv_aload_n hx hb d_M_comeTurned_107 rfl (lv_at hl 2 rfl) ?_
          refine va_get (D := D) (ci := 5) (v := .ref mk) (C := R_M) (T := F_M) (N := 21) hx hb ht bi_M hown hK hP 2 rfl rfl 10 (by decide) (ht _ bw_417) (fun _ h9 => h9) rfl d_M_comeTurned_108 ?_
          refine lv_sipush (v := nI 800) hx hb d_M_comeTurned_111 (by decide +kernel) ?_
          refine lv_aload_n hx hb d_M_comeTurned_114 rfl (lv_at hl 2 rfl) ?_
          refine va_get (D := D) (ci := 5) (v := .ref mm) (C := R_M) (T := F_M) (N := 21) hx hb ht bi_M hown hK hP 2 rfl rfl 9 (by decide) (ht _ bw_416) (fun _ h9 => h9) rfl d_M_comeTurned_115 ?_
          refine lv_iconst (v := nI 2) hx hb d_M_comeTurned_118 (by decide +kernel) ?_
          refine va_iald hx hb hK hP 0 0 rfl rfl (vp_in_nI (by omega) (by omega)) d_M_comeTurned_119 ?_
          refine ft_top (y := nI (mn 2)) (congrArg (fun j => nI (mn j)) (by decide)) ?_
          refine lv_iadd hx hb d_M_comeTurned_120 ?_
          refine ft_top (nI_add 800 (mn 2)) ?_
          refine lv_iconst (v := nI 2) hx hb d_M_comeTurned_121 (by decide +kernel) ?_
          refine lv_isub hx hb d_M_comeTurned_122 ?_
          refine ft_top (pk_sub (by omega)) ?_
          refine lv_aload_n hx hb d_M_comeTurned_123 rfl (lv_at hl 2 rfl) ?_
          refine va_get (D := D) (ci := 5) (v := .int f1) (C := R_M) (T := F_M) (N := 21) hx hb ht bi_M hown hK hP 2 rfl rfl 15 (by decide) (ht _ bw_422) (fun _ h9 => h9) rfl d_M_comeTurned_124 ?_
          refine va_iast hx hb hK hP hD hS 1 0 rfl rfl (vp_in_nI (by omega) (by omega)) d_M_comeTurned_127 (fun H locs hP hD hS => ?_)
          rw [nI_clamp (n := (800 + mn 2) - 2) (by omega)] at hP hD
          obtain ⟨kp_7, ekp_7⟩ : ∃ g : Nat → Int32, g = upd kp ((800 + mn 2) - 2) f1 := ⟨_, rfl⟩
          rw [← ekp_7] at hP hD
          have hP : va_P D vwCl [(mm, .inl (cI, 3, .inl (fun j => nI (mn j)))), (mk, .inl (cI, 1200, .inl kp_7)), (o, .inr (5, [.int th, .ref mt, .int (nI nT), .int lim, .ref mo, .int (nI nO), .ref mf, .int (nI nF), .ref mc, .ref mm, .ref mk, .ref mb, .int lf, .int fl, .ref mu, .int f1, .int f2, .int (chkB ck f1), .ref ml, .ref mg, .ref mx])), (mb, .inl (cB, 3, .inl bd1)), (mu, .inl (cB, 3, .inl tu1))] H := hP
          have hD : va_D A [(mm, .inl (cI, 3, .inl (fun j => nI (mn j)))), (mk, .inl (cI, 1200, .inl kp_7)), (o, .inr (5, [.int th, .ref mt, .int (nI nT), .int lim, .ref mo, .int (nI nO), .ref mf, .int (nI nF), .ref mc, .ref mm, .ref mk, .ref mb, .int lf, .int fl, .ref mu, .int f1, .int f2, .int (chkB ck f1), .ref ml, .ref mg, .ref mx])), (mb, .inl (cB, 3, .inl bd1)), (mu, .inl (cB, 3, .inl tu1))] := hD
          refine lv_aload_n hx hb d_M_comeTurned_128 rfl (lv_at hl 2 rfl) ?_
          refine lv_aload_n hx hb d_M_comeTurned_129 rfl (lv_at hl 2 rfl) ?_
          refine va_get (D := D) (ci := 5) (v := .int f2) (C := R_M) (T := F_M) (N := 21) hx hb ht bi_M hown hK hP 2 rfl rfl 16 (by decide) (ht _ bw_423) (fun _ h9 => h9) rfl d_M_comeTurned_130 ?_
          refine va_put (D := D) (ci := 5) (v := .int f2) (ty := .int) (C := R_M) (T := F_M) (N := 21) hx hb ht bi_M t_M t_M_ok n_M hown hK hP hD hS 2 rfl rfl 15 (by decide) (ht _ bw_422) (fun _ h9 => h9) rfl (by decide +kernel) rfl rfl (Nat.le_of_ble_eq_true rfl) d_M_comeTurned_133 (fun H locs hP hD hS => ?_)
          have hP : va_P D vwCl [(mm, .inl (cI, 3, .inl (fun j => nI (mn j)))), (mk, .inl (cI, 1200, .inl kp_7)), (o, .inr (5, [.int th, .ref mt, .int (nI nT), .int lim, .ref mo, .int (nI nO), .ref mf, .int (nI nF), .ref mc, .ref mm, .ref mk, .ref mb, .int lf, .int fl, .ref mu, .int f2, .int f2, .int (chkB ck f1), .ref ml, .ref mg, .ref mx])), (mb, .inl (cB, 3, .inl bd1)), (mu, .inl (cB, 3, .inl tu1))] H := hP
          have hD : va_D A [(mm, .inl (cI, 3, .inl (fun j => nI (mn j)))), (mk, .inl (cI, 1200, .inl kp_7)), (o, .inr (5, [.int th, .ref mt, .int (nI nT), .int lim, .ref mo, .int (nI nO), .ref mf, .int (nI nF), .ref mc, .ref mm, .ref mk, .ref mb, .int lf, .int fl, .ref mu, .int f2, .int f2, .int (chkB ck f1), .ref ml, .ref mg, .ref mx])), (mb, .inl (cB, 3, .inl bd1)), (mu, .inl (cB, 3, .inl tu1))] := hD
          refine lv_aload_n hx hb d_M_comeTurned_136 rfl (lv_at hl 2 rfl) ?_
          refine lv_iload hx hb d_M_comeTurned_137 (lv_at hl 0 rfl) ?_
          refine va_put (D := D) (ci := 5) (v := .int (b ^^^ 32)) (ty := .int) (C := R_M) (T := F_M) (N := 21) hx hb ht bi_M t_M t_M_ok n_M hown hK hP hD hS 2 rfl rfl 16 (by decide) (ht _ bw_423) (fun _ h9 => h9) rfl (by decide +kernel) rfl rfl (Nat.le_of_ble_eq_true rfl) d_M_comeTurned_139 (fun H locs hP hD hS => ?_)
          have hP : va_P D vwCl [(mm, .inl (cI, 3, .inl (fun j => nI (mn j)))), (mk, .inl (cI, 1200, .inl kp_7)), (o, .inr (5, [.int th, .ref mt, .int (nI nT), .int lim, .ref mo, .int (nI nO), .ref mf, .int (nI nF), .ref mc, .ref mm, .ref mk, .ref mb, .int lf, .int fl, .ref mu, .int f2, .int (b ^^^ 32), .int (chkB ck f1), .ref ml, .ref mg, .ref mx])), (mb, .inl (cB, 3, .inl bd1)), (mu, .inl (cB, 3, .inl tu1))] H := hP
          have hD : va_D A [(mm, .inl (cI, 3, .inl (fun j => nI (mn j)))), (mk, .inl (cI, 1200, .inl kp_7)), (o, .inr (5, [.int th, .ref mt, .int (nI nT), .int lim, .ref mo, .int (nI nO), .ref mf, .int (nI nF), .ref mc, .ref mm, .ref mk, .ref mb, .int lf, .int fl, .ref mu, .int f2, .int (b ^^^ 32), .int (chkB ck f1), .ref ml, .ref mg, .ref mx])), (mb, .inl (cB, 3, .inl bd1)), (mu, .inl (cB, 3, .inl tu1))] := hD
          refine lv_aload_n hx hb d_M_comeTurned_142 rfl (lv_at hl 2 rfl) ?_
          refine va_get (D := D) (ci := 5) (v := .ref mm) (C := R_M) (T := F_M) (N := 21) hx hb ht bi_M hown hK hP 2 rfl rfl 9 (by decide) (ht _ bw_416) (fun _ h9 => h9) rfl d_M_comeTurned_143 ?_
          refine lv_iconst (v := nI 2) hx hb d_M_comeTurned_146 (by decide +kernel) ?_
          refine lv_dup2_11 hx hb d_M_comeTurned_147 rfl rfl ?_
          refine va_iald hx hb hK hP 0 0 rfl rfl (vp_in_nI (by omega) (by omega)) d_M_comeTurned_148 ?_
          refine ft_top (y := nI (mn 2)) (congrArg (fun j => nI (mn j)) (by decide)) ?_
          refine lv_iconst (v := nI 1) hx hb d_M_comeTurned_149 (by decide +kernel) ?_
          refine lv_iadd hx hb d_M_comeTurned_150 ?_
          refine ft_top (nI_add (mn 2) 1) ?_
          refine va_iast hx hb hK hP hD hS 0 0 rfl rfl (vp_in_nI (by omega) (by omega)) d_M_comeTurned_151 (fun H locs hP hD hS => ?_)
          rw [show (nI 2).toNatClampNeg = 2 from by decide] at hP hD
          rw [upd_nI] at hP hD
          obtain ⟨mn_8, emn_8⟩ : ∃ g : Nat → Nat, g = va_up mn 2 (mn 2 + 1) := ⟨_, rfl⟩
          rw [← emn_8] at hP hD
          have hP : va_P D vwCl [(mm, .inl (cI, 3, .inl (fun j => nI (mn_8 j)))), (mk, .inl (cI, 1200, .inl kp_7)), (o, .inr (5, [.int th, .ref mt, .int (nI nT), .int lim, .ref mo, .int (nI nO), .ref mf, .int (nI nF), .ref mc, .ref mm, .ref mk, .ref mb, .int lf, .int fl, .ref mu, .int f2, .int (b ^^^ 32), .int (chkB ck f1), .ref ml, .ref mg, .ref mx])), (mb, .inl (cB, 3, .inl bd1)), (mu, .inl (cB, 3, .inl tu1))] H := hP
          have hD : va_D A [(mm, .inl (cI, 3, .inl (fun j => nI (mn_8 j)))), (mk, .inl (cI, 1200, .inl kp_7)), (o, .inr (5, [.int th, .ref mt, .int (nI nT), .int lim, .ref mo, .int (nI nO), .ref mf, .int (nI nF), .ref mc, .ref mm, .ref mk, .ref mb, .int lf, .int fl, .ref mu, .int f2, .int (b ^^^ 32), .int (chkB ck f1), .ref ml, .ref mg, .ref mx])), (mb, .inl (cB, 3, .inl bd1)), (mu, .inl (cB, 3, .inl tu1))] := hD
          exact ft_retv (mn_8, kp_7, f2, b ^^^ 32, chkB ck f1, bd1, tu1) hx hb hr hlocks (hP.sub [2, 0, 1, 3, 4] rfl) hK (hD.sub [2, 0, 1, 3, 4] (by decide) rfl) hS ⟨by show (_, _, _, _, _) = ctM2 b mn kp bd tu f1 f2 ck; unfold ctM2; rw [← e_t, if_pos c13]; simp [c18, c75, z104, ekp_7, emn_8], e_b, e_t⟩ d_M_comeTurned_152
    · skip
      refine lv_iload_n hx hb d_M_comeTurned_21 rfl (lv_at hl 3 rfl) ?_
      refine lv_goto (tgt := 53) hx hb d_M_comeTurned_22 (by decide) ?_
      refine lv_istore (lv' := [(4, .int b), (3, .int (tu 2)), (0, .ref o), (1, .int (nI 2)), (2, .int b)]) hx hb d_M_comeTurned_53 hl (by decide) rfl (fun ls hl => ?_)
      refine lv_iload_n hx hb d_M_comeTurned_55 rfl (lv_at hl 3 rfl) ?_
      refine lv_iconst (v := nI 1) hx hb d_M_comeTurned_56 (by decide +kernel) ?_
      refine lv_icmp_ne (tgt := 68) hx hb d_M_comeTurned_57 (by decide) (fun _ => ?_) (fun c57 => absurd c57 (by decide))
      refine lv_aload_n hx hb d_M_comeTurned_68 rfl (lv_at hl 2 rfl) ?_
      refine va_get (D := D) (ci := 5) (v := .ref mm) (C := R_M) (T := F_M) (N := 21) hx hb ht bi_M hown hK hP 2 rfl rfl 9 (by decide) (ht _ bw_416) (fun _ h9 => h9) rfl d_M_comeTurned_69 ?_
      refine lv_iconst (v := nI 2) hx hb d_M_comeTurned_72 (by decide +kernel) ?_
      refine va_iald hx hb hK hP 0 0 rfl rfl (vp_in_nI (by omega) (by omega)) d_M_comeTurned_73 ?_
      refine ft_top (y := nI (mn 2)) (congrArg (fun j => nI (mn j)) (by decide)) ?_
      refine lv_iconst (v := nI 2) hx hb d_M_comeTurned_74 (by decide +kernel) ?_
      refine lv_icmp_lt (tgt := 128) hx hb d_M_comeTurned_75 (by decide) (fun c75 => ?_) (fun c75 => ?_)
      · skip
        have c75 : mn 2 < 2 := (nI_ltI (by omega) (by omega)).mp c75
        refine lv_aload_n hx hb d_M_comeTurned_128 rfl (lv_at hl 2 rfl) ?_
        refine lv_aload_n hx hb d_M_comeTurned_129 rfl (lv_at hl 2 rfl) ?_
        refine va_get (D := D) (ci := 5) (v := .int f2) (C := R_M) (T := F_M) (N := 21) hx hb ht bi_M hown hK hP 2 rfl rfl 16 (by decide) (ht _ bw_423) (fun _ h9 => h9) rfl d_M_comeTurned_130 ?_
        refine va_put (D := D) (ci := 5) (v := .int f2) (ty := .int) (C := R_M) (T := F_M) (N := 21) hx hb ht bi_M t_M t_M_ok n_M hown hK hP hD hS 2 rfl rfl 15 (by decide) (ht _ bw_422) (fun _ h9 => h9) rfl (by decide +kernel) rfl rfl (Nat.le_of_ble_eq_true rfl) d_M_comeTurned_133 (fun H locs hP hD hS => ?_)
        have hP : va_P D vwCl [(mm, .inl (cI, 3, .inl (fun j => nI (mn j)))), (mk, .inl (cI, 1200, .inl kp)), (o, .inr (5, [.int th, .ref mt, .int (nI nT), .int lim, .ref mo, .int (nI nO), .ref mf, .int (nI nF), .ref mc, .ref mm, .ref mk, .ref mb, .int lf, .int fl, .ref mu, .int f2, .int f2, .int ck, .ref ml, .ref mg, .ref mx])), (mb, .inl (cB, 3, .inl bd1)), (mu, .inl (cB, 3, .inl tu1))] H := hP
        have hD : va_D A [(mm, .inl (cI, 3, .inl (fun j => nI (mn j)))), (mk, .inl (cI, 1200, .inl kp)), (o, .inr (5, [.int th, .ref mt, .int (nI nT), .int lim, .ref mo, .int (nI nO), .ref mf, .int (nI nF), .ref mc, .ref mm, .ref mk, .ref mb, .int lf, .int fl, .ref mu, .int f2, .int f2, .int ck, .ref ml, .ref mg, .ref mx])), (mb, .inl (cB, 3, .inl bd1)), (mu, .inl (cB, 3, .inl tu1))] := hD
        refine lv_aload_n hx hb d_M_comeTurned_136 rfl (lv_at hl 2 rfl) ?_
        refine lv_iload hx hb d_M_comeTurned_137 (lv_at hl 0 rfl) ?_
        refine va_put (D := D) (ci := 5) (v := .int b) (ty := .int) (C := R_M) (T := F_M) (N := 21) hx hb ht bi_M t_M t_M_ok n_M hown hK hP hD hS 2 rfl rfl 16 (by decide) (ht _ bw_423) (fun _ h9 => h9) rfl (by decide +kernel) rfl rfl (Nat.le_of_ble_eq_true rfl) d_M_comeTurned_139 (fun H locs hP hD hS => ?_)
        have hP : va_P D vwCl [(mm, .inl (cI, 3, .inl (fun j => nI (mn j)))), (mk, .inl (cI, 1200, .inl kp)), (o, .inr (5, [.int th, .ref mt, .int (nI nT), .int lim, .ref mo, .int (nI nO), .ref mf, .int (nI nF), .ref mc, .ref mm, .ref mk, .ref mb, .int lf, .int fl, .ref mu, .int f2, .int b, .int ck, .ref ml, .ref mg, .ref mx])), (mb, .inl (cB, 3, .inl bd1)), (mu, .inl (cB, 3, .inl tu1))] H := hP
        have hD : va_D A [(mm, .inl (cI, 3, .inl (fun j => nI (mn j)))), (mk, .inl (cI, 1200, .inl kp)), (o, .inr (5, [.int th, .ref mt, .int (nI nT), .int lim, .ref mo, .int (nI nO), .ref mf, .int (nI nF), .ref mc, .ref mm, .ref mk, .ref mb, .int lf, .int fl, .ref mu, .int f2, .int b, .int ck, .ref ml, .ref mg, .ref mx])), (mb, .inl (cB, 3, .inl bd1)), (mu, .inl (cB, 3, .inl tu1))] := hD
        refine lv_aload_n hx hb d_M_comeTurned_142 rfl (lv_at hl 2 rfl) ?_
        refine va_get (D := D) (ci := 5) (v := .ref mm) (C := R_M) (T := F_M) (N := 21) hx hb ht bi_M hown hK hP 2 rfl rfl 9 (by decide) (ht _ bw_416) (fun _ h9 => h9) rfl d_M_comeTurned_143 ?_
        refine lv_iconst (v := nI 2) hx hb d_M_comeTurned_146 (by decide +kernel) ?_
        refine lv_dup2_11 hx hb d_M_comeTurned_147 rfl rfl ?_
        refine va_iald hx hb hK hP 0 0 rfl rfl (vp_in_nI (by omega) (by omega)) d_M_comeTurned_148 ?_
        refine ft_top (y := nI (mn 2)) (congrArg (fun j => nI (mn j)) (by decide)) ?_
        refine lv_iconst (v := nI 1) hx hb d_M_comeTurned_149 (by decide +kernel) ?_
        refine lv_iadd hx hb d_M_comeTurned_150 ?_
        refine ft_top (nI_add (mn 2) 1) ?_
        refine va_iast hx hb hK hP hD hS 0 0 rfl rfl (vp_in_nI (by omega) (by omega)) d_M_comeTurned_151 (fun H locs hP hD hS => ?_)
        rw [show (nI 2).toNatClampNeg = 2 from by decide] at hP hD
        rw [upd_nI] at hP hD
        obtain ⟨mn_9, emn_9⟩ : ∃ g : Nat → Nat, g = va_up mn 2 (mn 2 + 1) := ⟨_, rfl⟩
        rw [← emn_9] at hP hD
        have hP : va_P D vwCl [(mm, .inl (cI, 3, .inl (fun j => nI (mn_9 j)))), (mk, .inl (cI, 1200, .inl kp)), (o, .inr (5, [.int th, .ref mt, .int (nI nT), .int lim, .ref mo, .int (nI nO), .ref mf, .int (nI nF), .ref mc, .ref mm, .ref mk, .ref mb, .int lf, .int fl, .ref mu, .int f2, .int b, .int ck, .ref ml, .ref mg, .ref mx])), (mb, .inl (cB, 3, .inl bd1)), (mu, .inl (cB, 3, .inl tu1))] H := hP
        have hD : va_D A [(mm, .inl (cI, 3, .inl (fun j => nI (mn_9 j)))), (mk, .inl (cI, 1200, .inl kp)), (o, .inr (5, [.int th, .ref mt, .int (nI nT), .int lim, .ref mo, .int (nI nO), .ref mf, .int (nI nF), .ref mc, .ref mm, .ref mk, .ref mb, .int lf, .int fl, .ref mu, .int f2, .int b, .int ck, .ref ml, .ref mg, .ref mx])), (mb, .inl (cB, 3, .inl bd1)), (mu, .inl (cB, 3, .inl tu1))] := hD
        exact ft_retv (mn_9, kp, f2, b, ck, bd1, tu1) hx hb hr hlocks (hP.sub [2, 0, 1, 3, 4] rfl) hK (hD.sub [2, 0, 1, 3, 4] (by decide) rfl) hS ⟨by show (_, _, _, _, _) = ctM2 b mn kp bd tu f1 f2 ck; unfold ctM2; rw [← e_t, if_pos c13]; simp [c18, c75, emn_9], e_b, e_t⟩ d_M_comeTurned_152
      · skip
        have c75 : ¬ mn 2 < 2 := fun h => c75 ((nI_ltI (by omega) (by omega)).mpr h)
        refine lv_aload_n hx hb d_M_comeTurned_78 rfl (lv_at hl 2 rfl) ?_
        refine lv_aload_n hx hb d_M_comeTurned_79 rfl (lv_at hl 2 rfl) ?_
        refine va_get (D := D) (ci := 5) (v := .int ck) (C := R_M) (T := F_M) (N := 21) hx hb ht bi_M hown hK hP 2 rfl rfl 17 (by decide) (ht _ bw_424) (fun _ h9 => h9) rfl d_M_comeTurned_80 ?_
        refine lv_aload_n hx hb d_M_comeTurned_83 rfl (lv_at hl 2 rfl) ?_
        refine va_get (D := D) (ci := 5) (v := .int f1) (C := R_M) (T := F_M) (N := 21) hx hb ht bi_M hown hK hP 2 rfl rfl 15 (by decide) (ht _ bw_422) (fun _ h9 => h9) rfl d_M_comeTurned_84 ?_
        refine ft_ci (wc := []) (wr := [(mm, .inl (cI, 3, .inl (fun j => nI (mn j)))), (mk, .inl (cI, 1200, .inl kp)), (o, .inr (5, [.int th, .ref mt, .int (nI nT), .int lim, .ref mo, .int (nI nO), .ref mf, .int (nI nF), .ref mc, .ref mm, .ref mk, .ref mb, .int lf, .int fl, .ref mu, .int f1, .int f2, .int ck, .ref ml, .ref mg, .ref mx])), (mb, .inl (cB, 3, .inl bd1)), (mu, .inl (cB, 3, .inl tu1))]) (va_runS (As := [.int ck, .int f1]) (rest := [.ref o]) ⟨hx, hb, hml, hown, ht⟩ (c_M_checked l D cI cB ck f1 H.size) (ft_cwS 2 ht bw_512 bw_513 bw_39 bw_514 (by decide) ⟨Nat.le_of_ble_eq_true rfl, Nat.le_of_ble_eq_true rfl⟩) ⟨ft_blind, (ft_pre hP hD hK hNW [] [0, 1] rfl rfl (by decide) rfl _)⟩ rfl rfl hl.1 rfl (lv_room (Nat.le_of_ble_eq_true rfl)) d_M_comeTurned_87 ⟨Nat.le_of_ble_eq_true rfl, Nat.le_of_ble_eq_true rfl⟩) hP hD hS hA [] [0, 1, 2, 3, 4] rfl rfl (by decide) (by decide) (fun r_10 u_11 H locs hu_11 hP hD hS => ?_)
        subst hu_11
        have hP : va_P D vwCl [(mm, .inl (cI, 3, .inl (fun j => nI (mn j)))), (mk, .inl (cI, 1200, .inl kp)), (o, .inr (5, [.int th, .ref mt, .int (nI nT), .int lim, .ref mo, .int (nI nO), .ref mf, .int (nI nF), .ref mc, .ref mm, .ref mk, .ref mb, .int lf, .int fl, .ref mu, .int f1, .int f2, .int ck, .ref ml, .ref mg, .ref mx])), (mb, .inl (cB, 3, .inl bd1)), (mu, .inl (cB, 3, .inl tu1))] H := hP
        have hD : va_D A [(mm, .inl (cI, 3, .inl (fun j => nI (mn j)))), (mk, .inl (cI, 1200, .inl kp)), (o, .inr (5, [.int th, .ref mt, .int (nI nT), .int lim, .ref mo, .int (nI nO), .ref mf, .int (nI nF), .ref mc, .ref mm, .ref mk, .ref mb, .int lf, .int fl, .ref mu, .int f1, .int f2, .int ck, .ref ml, .ref mg, .ref mx])), (mb, .inl (cB, 3, .inl bd1)), (mu, .inl (cB, 3, .inl tu1))] := hD
        refine va_put (D := D) (ci := 5) (v := .int (chkB ck f1)) (ty := .int) (C := R_M) (T := F_M) (N := 21) hx hb ht bi_M t_M t_M_ok n_M hown hK hP hD hS 2 rfl rfl 17 (by decide) (ht _ bw_424) (fun _ h9 => h9) rfl (by decide +kernel) rfl rfl (Nat.le_of_ble_eq_true rfl) d_M_comeTurned_90 (fun H locs hP hD hS => ?_)
        have hP : va_P D vwCl [(mm, .inl (cI, 3, .inl (fun j => nI (mn j)))), (mk, .inl (cI, 1200, .inl kp)), (o, .inr (5, [.int th, .ref mt, .int (nI nT), .int lim, .ref mo, .int (nI nO), .ref mf, .int (nI nF), .ref mc, .ref mm, .ref mk, .ref mb, .int lf, .int fl, .ref mu, .int f1, .int f2, .int (chkB ck f1), .ref ml, .ref mg, .ref mx])), (mb, .inl (cB, 3, .inl bd1)), (mu, .inl (cB, 3, .inl tu1))] H := hP
        have hD : va_D A [(mm, .inl (cI, 3, .inl (fun j => nI (mn j)))), (mk, .inl (cI, 1200, .inl kp)), (o, .inr (5, [.int th, .ref mt, .int (nI nT), .int lim, .ref mo, .int (nI nO), .ref mf, .int (nI nF), .ref mc, .ref mm, .ref mk, .ref mb, .int lf, .int fl, .ref mu, .int f1, .int f2, .int (chkB ck f1), .ref ml, .ref mg, .ref mx])), (mb, .inl (cB, 3, .inl bd1)), (mu, .inl (cB, 3, .inl tu1))] := hD
        refine lv_aload_n hx hb d_M_comeTurned_93 rfl (lv_at hl 2 rfl) ?_
        refine va_get (D := D) (ci := 5) (v := .ref mm) (C := R_M) (T := F_M) (N := 21) hx hb ht bi_M hown hK hP 2 rfl rfl 9 (by decide) (ht _ bw_416) (fun _ h9 => h9) rfl d_M_comeTurned_94 ?_
        refine lv_iconst (v := nI 2) hx hb d_M_comeTurned_97 (by decide +kernel) ?_
        refine va_iald hx hb hK hP 0 0 rfl rfl (vp_in_nI (by omega) (by omega)) d_M_comeTurned_98 ?_
        refine ft_top (y := nI (mn 2)) (congrArg (fun j => nI (mn j)) (by decide)) ?_
        refine lv_iconst (v := nI 2) hx hb d_M_comeTurned_99 (by decide +kernel) ?_
        refine lv_isub hx hb d_M_comeTurned_100 ?_
        refine ft_top (pk_sub (by omega)) ?_
        refine lv_sipush (v := nI 400) hx hb d_M_comeTurned_101 (by decide +kernel) ?_
        refine lv_icmp_ge (tgt := 128) hx hb d_M_comeTurned_104 (by decide) (fun c104 => ?_) (fun c104 => ?_)
        · skip
          have c104 : 400 ≤ (mn 2) - 2 := (nI_leI (by omega) (by omega)).mp c104
          have z104 : ¬ mn 2 - 2 < 400 := by omega
          refine lv_aload_n hx hb d_M_comeTurned_128 rfl (lv_at hl 2 rfl) ?_
          refine lv_aload_n hx hb d_M_comeTurned_129 rfl (lv_at hl 2 rfl) ?_
          refine va_get (D := D) (ci := 5) (v := .int f2) (C := R_M) (T := F_M) (N := 21) hx hb ht bi_M hown hK hP 2 rfl rfl 16 (by decide) (ht _ bw_423) (fun _ h9 => h9) rfl d_M_comeTurned_130 ?_
          refine va_put (D := D) (ci := 5) (v := .int f2) (ty := .int) (C := R_M) (T := F_M) (N := 21) hx hb ht bi_M t_M t_M_ok n_M hown hK hP hD hS 2 rfl rfl 15 (by decide) (ht _ bw_422) (fun _ h9 => h9) rfl (by decide +kernel) rfl rfl (Nat.le_of_ble_eq_true rfl) d_M_comeTurned_133 (fun H locs hP hD hS => ?_)
          have hP : va_P D vwCl [(mm, .inl (cI, 3, .inl (fun j => nI (mn j)))), (mk, .inl (cI, 1200, .inl kp)), (o, .inr (5, [.int th, .ref mt, .int (nI nT), .int lim, .ref mo, .int (nI nO), .ref mf, .int (nI nF), .ref mc, .ref mm, .ref mk, .ref mb, .int lf, .int fl, .ref mu, .int f2, .int f2, .int (chkB ck f1), .ref ml, .ref mg, .ref mx])), (mb, .inl (cB, 3, .inl bd1)), (mu, .inl (cB, 3, .inl tu1))] H := hP
          have hD : va_D A [(mm, .inl (cI, 3, .inl (fun j => nI (mn j)))), (mk, .inl (cI, 1200, .inl kp)), (o, .inr (5, [.int th, .ref mt, .int (nI nT), .int lim, .ref mo, .int (nI nO), .ref mf, .int (nI nF), .ref mc, .ref mm, .ref mk, .ref mb, .int lf, .int fl, .ref mu, .int f2, .int f2, .int (chkB ck f1), .ref ml, .ref mg, .ref mx])), (mb, .inl (cB, 3, .inl bd1)), (mu, .inl (cB, 3, .inl tu1))] := hD
          refine lv_aload_n hx hb d_M_comeTurned_136 rfl (lv_at hl 2 rfl) ?_
          refine lv_iload hx hb d_M_comeTurned_137 (lv_at hl 0 rfl) ?_
          refine va_put (D := D) (ci := 5) (v := .int b) (ty := .int) (C := R_M) (T := F_M) (N := 21) hx hb ht bi_M t_M t_M_ok n_M hown hK hP hD hS 2 rfl rfl 16 (by decide) (ht _ bw_423) (fun _ h9 => h9) rfl (by decide +kernel) rfl rfl (Nat.le_of_ble_eq_true rfl) d_M_comeTurned_139 (fun H locs hP hD hS => ?_)
          have hP : va_P D vwCl [(mm, .inl (cI, 3, .inl (fun j => nI (mn j)))), (mk, .inl (cI, 1200, .inl kp)), (o, .inr (5, [.int th, .ref mt, .int (nI nT), .int lim, .ref mo, .int (nI nO), .ref mf, .int (nI nF), .ref mc, .ref mm, .ref mk, .ref mb, .int lf, .int fl, .ref mu, .int f2, .int b, .int (chkB ck f1), .ref ml, .ref mg, .ref mx])), (mb, .inl (cB, 3, .inl bd1)), (mu, .inl (cB, 3, .inl tu1))] H := hP
          have hD : va_D A [(mm, .inl (cI, 3, .inl (fun j => nI (mn j)))), (mk, .inl (cI, 1200, .inl kp)), (o, .inr (5, [.int th, .ref mt, .int (nI nT), .int lim, .ref mo, .int (nI nO), .ref mf, .int (nI nF), .ref mc, .ref mm, .ref mk, .ref mb, .int lf, .int fl, .ref mu, .int f2, .int b, .int (chkB ck f1), .ref ml, .ref mg, .ref mx])), (mb, .inl (cB, 3, .inl bd1)), (mu, .inl (cB, 3, .inl tu1))] := hD
          refine lv_aload_n hx hb d_M_comeTurned_142 rfl (lv_at hl 2 rfl) ?_
          refine va_get (D := D) (ci := 5) (v := .ref mm) (C := R_M) (T := F_M) (N := 21) hx hb ht bi_M hown hK hP 2 rfl rfl 9 (by decide) (ht _ bw_416) (fun _ h9 => h9) rfl d_M_comeTurned_143 ?_
          refine lv_iconst (v := nI 2) hx hb d_M_comeTurned_146 (by decide +kernel) ?_
          refine lv_dup2_11 hx hb d_M_comeTurned_147 rfl rfl ?_
          refine va_iald hx hb hK hP 0 0 rfl rfl (vp_in_nI (by omega) (by omega)) d_M_comeTurned_148 ?_
          refine ft_top (y := nI (mn 2)) (congrArg (fun j => nI (mn j)) (by decide)) ?_
          refine lv_iconst (v := nI 1) hx hb d_M_comeTurned_149 (by decide +kernel) ?_
          refine lv_iadd hx hb d_M_comeTurned_150 ?_
          refine ft_top (nI_add (mn 2) 1) ?_
          refine va_iast hx hb hK hP hD hS 0 0 rfl rfl (vp_in_nI (by omega) (by omega)) d_M_comeTurned_151 (fun H locs hP hD hS => ?_)
          rw [show (nI 2).toNatClampNeg = 2 from by decide] at hP hD
          rw [upd_nI] at hP hD
          obtain ⟨mn_12, emn_12⟩ : ∃ g : Nat → Nat, g = va_up mn 2 (mn 2 + 1) := ⟨_, rfl⟩
          rw [← emn_12] at hP hD
          have hP : va_P D vwCl [(mm, .inl (cI, 3, .inl (fun j => nI (mn_12 j)))), (mk, .inl (cI, 1200, .inl kp)), (o, .inr (5, [.int th, .ref mt, .int (nI nT), .int lim, .ref mo, .int (nI nO), .ref mf, .int (nI nF), .ref mc, .ref mm, .ref mk, .ref mb, .int lf, .int fl, .ref mu, .int f2, .int b, .int (chkB ck f1), .ref ml, .ref mg, .ref mx])), (mb, .inl (cB, 3, .inl bd1)), (mu, .inl (cB, 3, .inl tu1))] H := hP
          have hD : va_D A [(mm, .inl (cI, 3, .inl (fun j => nI (mn_12 j)))), (mk, .inl (cI, 1200, .inl kp)), (o, .inr (5, [.int th, .ref mt, .int (nI nT), .int lim, .ref mo, .int (nI nO), .ref mf, .int (nI nF), .ref mc, .ref mm, .ref mk, .ref mb, .int lf, .int fl, .ref mu, .int f2, .int b, .int (chkB ck f1), .ref ml, .ref mg, .ref mx])), (mb, .inl (cB, 3, .inl bd1)), (mu, .inl (cB, 3, .inl tu1))] := hD
          exact ft_retv (mn_12, kp, f2, b, chkB ck f1, bd1, tu1) hx hb hr hlocks (hP.sub [2, 0, 1, 3, 4] rfl) hK (hD.sub [2, 0, 1, 3, 4] (by decide) rfl) hS ⟨by show (_, _, _, _, _) = ctM2 b mn kp bd tu f1 f2 ck; unfold ctM2; rw [← e_t, if_pos c13]; simp [c18, c75, z104, emn_12], e_b, e_t⟩ d_M_comeTurned_152
        · skip
          have c104 : ¬ 400 ≤ (mn 2) - 2 := fun h => c104 ((nI_leI (by omega) (by omega)).mpr h)
          have z104 : mn 2 - 2 < 400 := by omega
          refine lv_aload_n hx hb d_M_comeTurned_107 rfl (lv_at hl 2 rfl) ?_
          refine va_get (D := D) (ci := 5) (v := .ref mk) (C := R_M) (T := F_M) (N := 21) hx hb ht bi_M hown hK hP 2 rfl rfl 10 (by decide) (ht _ bw_417) (fun _ h9 => h9) rfl d_M_comeTurned_108 ?_
          refine lv_sipush (v := nI 800) hx hb d_M_comeTurned_111 (by decide +kernel) ?_
          refine lv_aload_n hx hb d_M_comeTurned_114 rfl (lv_at hl 2 rfl) ?_
          refine va_get (D := D) (ci := 5) (v := .ref mm) (C := R_M) (T := F_M) (N := 21) hx hb ht bi_M hown hK hP 2 rfl rfl 9 (by decide) (ht _ bw_416) (fun _ h9 => h9) rfl d_M_comeTurned_115 ?_
          refine lv_iconst (v := nI 2) hx hb d_M_comeTurned_118 (by decide +kernel) ?_
          refine va_iald hx hb hK hP 0 0 rfl rfl (vp_in_nI (by omega) (by omega)) d_M_comeTurned_119 ?_
          refine ft_top (y := nI (mn 2)) (congrArg (fun j => nI (mn j)) (by decide)) ?_
          refine lv_iadd hx hb d_M_comeTurned_120 ?_
          refine ft_top (nI_add 800 (mn 2)) ?_
          refine lv_iconst (v := nI 2) hx hb d_M_comeTurned_121 (by decide +kernel) ?_
          refine lv_isub hx hb d_M_comeTurned_122 ?_
          refine ft_top (pk_sub (by omega)) ?_
          refine lv_aload_n hx hb d_M_comeTurned_123 rfl (lv_at hl 2 rfl) ?_
          refine va_get (D := D) (ci := 5) (v := .int f1) (C := R_M) (T := F_M) (N := 21) hx hb ht bi_M hown hK hP 2 rfl rfl 15 (by decide) (ht _ bw_422) (fun _ h9 => h9) rfl d_M_comeTurned_124 ?_
          refine va_iast hx hb hK hP hD hS 1 0 rfl rfl (vp_in_nI (by omega) (by omega)) d_M_comeTurned_127 (fun H locs hP hD hS => ?_)
          rw [nI_clamp (n := (800 + mn 2) - 2) (by omega)] at hP hD
          obtain ⟨kp_13, ekp_13⟩ : ∃ g : Nat → Int32, g = upd kp ((800 + mn 2) - 2) f1 := ⟨_, rfl⟩
          rw [← ekp_13] at hP hD
          have hP : va_P D vwCl [(mm, .inl (cI, 3, .inl (fun j => nI (mn j)))), (mk, .inl (cI, 1200, .inl kp_13)), (o, .inr (5, [.int th, .ref mt, .int (nI nT), .int lim, .ref mo, .int (nI nO), .ref mf, .int (nI nF), .ref mc, .ref mm, .ref mk, .ref mb, .int lf, .int fl, .ref mu, .int f1, .int f2, .int (chkB ck f1), .ref ml, .ref mg, .ref mx])), (mb, .inl (cB, 3, .inl bd1)), (mu, .inl (cB, 3, .inl tu1))] H := hP
          have hD : va_D A [(mm, .inl (cI, 3, .inl (fun j => nI (mn j)))), (mk, .inl (cI, 1200, .inl kp_13)), (o, .inr (5, [.int th, .ref mt, .int (nI nT), .int lim, .ref mo, .int (nI nO), .ref mf, .int (nI nF), .ref mc, .ref mm, .ref mk, .ref mb, .int lf, .int fl, .ref mu, .int f1, .int f2, .int (chkB ck f1), .ref ml, .ref mg, .ref mx])), (mb, .inl (cB, 3, .inl bd1)), (mu, .inl (cB, 3, .inl tu1))] := hD
          refine lv_aload_n hx hb d_M_comeTurned_128 rfl (lv_at hl 2 rfl) ?_
          refine lv_aload_n hx hb d_M_comeTurned_129 rfl (lv_at hl 2 rfl) ?_
          refine va_get (D := D) (ci := 5) (v := .int f2) (C := R_M) (T := F_M) (N := 21) hx hb ht bi_M hown hK hP 2 rfl rfl 16 (by decide) (ht _ bw_423) (fun _ h9 => h9) rfl d_M_comeTurned_130 ?_
          refine va_put (D := D) (ci := 5) (v := .int f2) (ty := .int) (C := R_M) (T := F_M) (N := 21) hx hb ht bi_M t_M t_M_ok n_M hown hK hP hD hS 2 rfl rfl 15 (by decide) (ht _ bw_422) (fun _ h9 => h9) rfl (by decide +kernel) rfl rfl (Nat.le_of_ble_eq_true rfl) d_M_comeTurned_133 (fun H locs hP hD hS => ?_)
          have hP : va_P D vwCl [(mm, .inl (cI, 3, .inl (fun j => nI (mn j)))), (mk, .inl (cI, 1200, .inl kp_13)), (o, .inr (5, [.int th, .ref mt, .int (nI nT), .int lim, .ref mo, .int (nI nO), .ref mf, .int (nI nF), .ref mc, .ref mm, .ref mk, .ref mb, .int lf, .int fl, .ref mu, .int f2, .int f2, .int (chkB ck f1), .ref ml, .ref mg, .ref mx])), (mb, .inl (cB, 3, .inl bd1)), (mu, .inl (cB, 3, .inl tu1))] H := hP
          have hD : va_D A [(mm, .inl (cI, 3, .inl (fun j => nI (mn j)))), (mk, .inl (cI, 1200, .inl kp_13)), (o, .inr (5, [.int th, .ref mt, .int (nI nT), .int lim, .ref mo, .int (nI nO), .ref mf, .int (nI nF), .ref mc, .ref mm, .ref mk, .ref mb, .int lf, .int fl, .ref mu, .int f2, .int f2, .int (chkB ck f1), .ref ml, .ref mg, .ref mx])), (mb, .inl (cB, 3, .inl bd1)), (mu, .inl (cB, 3, .inl tu1))] := hD
          refine lv_aload_n hx hb d_M_comeTurned_136 rfl (lv_at hl 2 rfl) ?_
          refine lv_iload hx hb d_M_comeTurned_137 (lv_at hl 0 rfl) ?_
          refine va_put (D := D) (ci := 5) (v := .int b) (ty := .int) (C := R_M) (T := F_M) (N := 21) hx hb ht bi_M t_M t_M_ok n_M hown hK hP hD hS 2 rfl rfl 16 (by decide) (ht _ bw_423) (fun _ h9 => h9) rfl (by decide +kernel) rfl rfl (Nat.le_of_ble_eq_true rfl) d_M_comeTurned_139 (fun H locs hP hD hS => ?_)
          have hP : va_P D vwCl [(mm, .inl (cI, 3, .inl (fun j => nI (mn j)))), (mk, .inl (cI, 1200, .inl kp_13)), (o, .inr (5, [.int th, .ref mt, .int (nI nT), .int lim, .ref mo, .int (nI nO), .ref mf, .int (nI nF), .ref mc, .ref mm, .ref mk, .ref mb, .int lf, .int fl, .ref mu, .int f2, .int b, .int (chkB ck f1), .ref ml, .ref mg, .ref mx])), (mb, .inl (cB, 3, .inl bd1)), (mu, .inl (cB, 3, .inl tu1))] H := hP
          have hD : va_D A [(mm, .inl (cI, 3, .inl (fun j => nI (mn j)))), (mk, .inl (cI, 1200, .inl kp_13)), (o, .inr (5, [.int th, .ref mt, .int (nI nT), .int lim, .ref mo, .int (nI nO), .ref mf, .int (nI nF), .ref mc, .ref mm, .ref mk, .ref mb, .int lf, .int fl, .ref mu, .int f2, .int b, .int (chkB ck f1), .ref ml, .ref mg, .ref mx])), (mb, .inl (cB, 3, .inl bd1)), (mu, .inl (cB, 3, .inl tu1))] := hD
          refine lv_aload_n hx hb d_M_comeTurned_142 rfl (lv_at hl 2 rfl) ?_
          refine va_get (D := D) (ci := 5) (v := .ref mm) (C := R_M) (T := F_M) (N := 21) hx hb ht bi_M hown hK hP 2 rfl rfl 9 (by decide) (ht _ bw_416) (fun _ h9 => h9) rfl d_M_comeTurned_143 ?_
          refine lv_iconst (v := nI 2) hx hb d_M_comeTurned_146 (by decide +kernel) ?_
          refine lv_dup2_11 hx hb d_M_comeTurned_147 rfl rfl ?_
          refine va_iald hx hb hK hP 0 0 rfl rfl (vp_in_nI (by omega) (by omega)) d_M_comeTurned_148 ?_
          refine ft_top (y := nI (mn 2)) (congrArg (fun j => nI (mn j)) (by decide)) ?_
          refine lv_iconst (v := nI 1) hx hb d_M_comeTurned_149 (by decide +kernel) ?_
          refine lv_iadd hx hb d_M_comeTurned_150 ?_
          refine ft_top (nI_add (mn 2) 1) ?_
          refine va_iast hx hb hK hP hD hS 0 0 rfl rfl (vp_in_nI (by omega) (by omega)) d_M_comeTurned_151 (fun H locs hP hD hS => ?_)
          rw [show (nI 2).toNatClampNeg = 2 from by decide] at hP hD
          rw [upd_nI] at hP hD
          obtain ⟨mn_14, emn_14⟩ : ∃ g : Nat → Nat, g = va_up mn 2 (mn 2 + 1) := ⟨_, rfl⟩
          rw [← emn_14] at hP hD
          have hP : va_P D vwCl [(mm, .inl (cI, 3, .inl (fun j => nI (mn_14 j)))), (mk, .inl (cI, 1200, .inl kp_13)), (o, .inr (5, [.int th, .ref mt, .int (nI nT), .int lim, .ref mo, .int (nI nO), .ref mf, .int (nI nF), .ref mc, .ref mm, .ref mk, .ref mb, .int lf, .int fl, .ref mu, .int f2, .int b, .int (chkB ck f1), .ref ml, .ref mg, .ref mx])), (mb, .inl (cB, 3, .inl bd1)), (mu, .inl (cB, 3, .inl tu1))] H := hP
          have hD : va_D A [(mm, .inl (cI, 3, .inl (fun j => nI (mn_14 j)))), (mk, .inl (cI, 1200, .inl kp_13)), (o, .inr (5, [.int th, .ref mt, .int (nI nT), .int lim, .ref mo, .int (nI nO), .ref mf, .int (nI nF), .ref mc, .ref mm, .ref mk, .ref mb, .int lf, .int fl, .ref mu, .int f2, .int b, .int (chkB ck f1), .ref ml, .ref mg, .ref mx])), (mb, .inl (cB, 3, .inl bd1)), (mu, .inl (cB, 3, .inl tu1))] := hD
          exact ft_retv (mn_14, kp_13, f2, b, chkB ck f1, bd1, tu1) hx hb hr hlocks (hP.sub [2, 0, 1, 3, 4] rfl) hK (hD.sub [2, 0, 1, 3, 4] (by decide) rfl) hS ⟨by show (_, _, _, _, _) = ctM2 b mn kp bd tu f1 f2 ck; unfold ctM2; rw [← e_t, if_pos c13]; simp [c18, c75, z104, ekp_13, emn_14], e_b, e_t⟩ d_M_comeTurned_152
  · skip
    exact ft_retv (mn, kp, f1, f2, ck, bd1, tu1) hx hb hr hlocks (hP.sub [2, 0, 1, 3, 4] rfl) hK (hD.sub [2, 0, 1, 3, 4] (by decide) rfl) hS ⟨by show (_, _, _, _, _) = ctM2 b mn kp bd tu f1 f2 ck; simp only [ctM2, ← e_t, if_neg c13], e_b, e_t⟩ d_M_comeTurned_16

set_option maxHeartbeats 4000000 in
set_option maxRecDepth 100000 in
theorem c_M_isSo_0 (l : Launch) (D : va_G) (cI : ClassId) (cB : ClassId) (o mt mo mf mc mm mk mb mu ml mg mx : Nat) (th lim lf fl f1 f2 ck : Int32) (nT nO nF : Nat) (cm mn : Nat → Nat) (bd tu : Nat → Int32) (hC : cm 0 < 1073741824) (hM : mn 0 < 1073741824) (sz : Nat) : ft_Mi l y_M_isSo (.code y_M_isSo b_M_isSo 2 (some .boolean) :: ft_big) ({ frames := 0, cells := 0, slots := 0, locals := 0 }) D [(cI, .int), (cB, .boolean)] sz [.ref o, .int (nI 0)] [(o, .inr (5, [.int th, .ref mt, .int (nI nT), .int lim, .ref mo, .int (nI nO), .ref mf, .int (nI nF), .ref mc, .ref mm, .ref mk, .ref mb, .int lf, .int fl, .ref mu, .int f1, .int f2, .int ck, .ref ml, .ref mg, .ref mx])), (mc, .inl (cI, 3, .inl (fun j => nI (cm j)))), (mm, .inl (cI, 3, .inl (fun j => nI (mn j)))), (mb, .inl (cB, 3, .inl bd)), (mu, .inl (cB, 3, .inl tu))] (fun (v : Int32) (_ : Unit) => v = so0 cm lf) (fun _ => [(o, .inr (5, [.int th, .ref mt, .int (nI nT), .int lim, .ref mo, .int (nI nO), .ref mf, .int (nI nF), .ref mc, .ref mm, .ref mk, .ref mb, .int lf, .int fl, .ref mu, .int f1, .int f2, .int ck, .ref ml, .ref mg, .ref mx])), (mc, .inl (cI, 3, .inl (fun j => nI (cm j)))), (mm, .inl (cI, 3, .inl (fun j => nI (mn j)))), (mb, .inl (cB, 3, .inl bd)), (mu, .inl (cB, 3, .inl tu))]) 0 0 := by
  refine ft_ei (cc := b_M_isSo) (maxL := 2) (ret := (some .boolean)) (by decide) rfl (Nat.le_of_ble_eq_true rfl) ?_
  intro p e s m below meth c A ls hx hb hr hml hts hown hlocks hmn hP hK hD hA hS hNW hl
  have ht : ∀ w ∈ ft_big, w.before _ s = true := fun w h => hts w (List.mem_cons_of_mem _ h)
  have hP : va_P D vwCl [(o, .inr (5, [.int th, .ref mt, .int (nI nT), .int lim, .ref mo, .int (nI nO), .ref mf, .int (nI nF), .ref mc, .ref mm, .ref mk, .ref mb, .int lf, .int fl, .ref mu, .int f1, .int f2, .int ck, .ref ml, .ref mg, .ref mx])), (mc, .inl (cI, 3, .inl (fun j => nI (cm j)))), (mm, .inl (cI, 3, .inl (fun j => nI (mn j)))), (mb, .inl (cB, 3, .inl bd)), (mu, .inl (cB, 3, .inl tu))] s.heap := hP
  have hD : va_D A [(o, .inr (5, [.int th, .ref mt, .int (nI nT), .int lim, .ref mo, .int (nI nO), .ref mf, .int (nI nF), .ref mc, .ref mm, .ref mk, .ref mb, .int lf, .int fl, .ref mu, .int f1, .int f2, .int ck, .ref ml, .ref mg, .ref mx])), (mc, .inl (cI, 3, .inl (fun j => nI (cm j)))), (mm, .inl (cI, 3, .inl (fun j => nI (mn j)))), (mb, .inl (cB, 3, .inl bd)), (mu, .inl (cB, 3, .inl tu))] := hD
  have hl : lv_has ls 2 [(0, .ref o), (1, .int (nI 0))] := hl
  refine lv_iload_n hx hb d_M_isSo_0 rfl (lv_at hl 1 rfl) ?_
  refine lv_if_ne (tgt := 26) hx hb d_M_isSo_1 (by decide) (fun c1 => absurd (by decide) c1) (fun _ => ?_)
  refine lv_aload_n hx hb d_M_isSo_4 rfl (lv_at hl 0 rfl) ?_
  refine va_get (D := D) (ci := 5) (v := .ref mc) (C := R_M) (T := F_M) (N := 21) hx hb ht bi_M hown hK hP 0 rfl rfl 8 (by decide) (ht _ bw_415) (fun _ h9 => h9) rfl d_M_isSo_5 ?_
  refine lv_iconst (v := nI 0) hx hb d_M_isSo_8 (by decide +kernel) ?_
  refine va_iald hx hb hK hP 1 0 rfl rfl (vp_in_nI (by omega) (by omega)) d_M_isSo_9 ?_
  refine ft_top (y := nI (cm 0)) (congrArg (fun j => nI (cm j)) (by decide)) ?_
  refine lv_if_le (tgt := 24) hx hb d_M_isSo_10 (by decide) (fun c10 => ?_) (fun c10 => ?_)
  · skip
    have c10 : cm 0 ≤ 0 := (nI_leI (b := 0) (by omega) (by omega)).mp c10
    have z10 : cm 0 = 0 := by omega
    refine lv_iconst (v := 0) hx hb d_M_isSo_24 (by decide +kernel) ?_
    exact ft_retz () hx hb hr (by decide) hlocks hP hK hD hS (by show (0 : Int32) = so0 cm lf; simp [so0, z10]) d_M_isSo_25
  · skip
    have c10 : ¬ cm 0 ≤ 0 := fun h => c10 ((nI_leI (b := 0) (by omega) (by omega)).mpr h)
    have z10 : ¬ cm 0 = 0 := by omega
    refine lv_aload_n hx hb d_M_isSo_13 rfl (lv_at hl 0 rfl) ?_
    refine va_get (D := D) (ci := 5) (v := .int lf) (C := R_M) (T := F_M) (N := 21) hx hb ht bi_M hown hK hP 0 rfl rfl 12 (by decide) (ht _ bw_419) (fun _ h9 => h9) rfl d_M_isSo_14 ?_
    refine lv_if_ne (tgt := 24) hx hb d_M_isSo_17 (by decide) (fun c17 => ?_) (fun c17 => ?_)
    · skip
      refine lv_iconst (v := 0) hx hb d_M_isSo_24 (by decide +kernel) ?_
      exact ft_retz () hx hb hr (by decide) hlocks hP hK hD hS (by show (0 : Int32) = so0 cm lf; simp [so0, z10, c17]) d_M_isSo_25
    · skip
      refine lv_iconst (v := 1) hx hb d_M_isSo_20 (by decide +kernel) ?_
      refine lv_goto (tgt := 25) hx hb d_M_isSo_21 (by decide) ?_
      exact ft_retz () hx hb hr (by decide) hlocks hP hK hD hS (by show (1 : Int32) = so0 cm lf; simp [so0, z10, c17]) d_M_isSo_25

set_option maxHeartbeats 4000000 in
set_option maxRecDepth 100000 in
theorem c_M_isSo_1 (l : Launch) (D : va_G) (cI : ClassId) (cB : ClassId) (o mt mo mf mc mm mk mb mu ml mg mx : Nat) (th lim lf fl f1 f2 ck : Int32) (nT nO nF : Nat) (cm mn : Nat → Nat) (bd tu : Nat → Int32) (hC : cm 1 < 1073741824) (hM : mn 1 < 1073741824) (sz : Nat) : ft_Mi l y_M_isSo (.code y_M_isSo b_M_isSo 2 (some .boolean) :: ft_big) ({ frames := 0, cells := 0, slots := 0, locals := 0 }) D [(cI, .int), (cB, .boolean)] sz [.ref o, .int (nI 1)] [(o, .inr (5, [.int th, .ref mt, .int (nI nT), .int lim, .ref mo, .int (nI nO), .ref mf, .int (nI nF), .ref mc, .ref mm, .ref mk, .ref mb, .int lf, .int fl, .ref mu, .int f1, .int f2, .int ck, .ref ml, .ref mg, .ref mx])), (mc, .inl (cI, 3, .inl (fun j => nI (cm j)))), (mm, .inl (cI, 3, .inl (fun j => nI (mn j)))), (mb, .inl (cB, 3, .inl bd)), (mu, .inl (cB, 3, .inl tu))] (fun (v : Int32) (_ : Unit) => v = so1 bd tu) (fun _ => [(o, .inr (5, [.int th, .ref mt, .int (nI nT), .int lim, .ref mo, .int (nI nO), .ref mf, .int (nI nF), .ref mc, .ref mm, .ref mk, .ref mb, .int lf, .int fl, .ref mu, .int f1, .int f2, .int ck, .ref ml, .ref mg, .ref mx])), (mc, .inl (cI, 3, .inl (fun j => nI (cm j)))), (mm, .inl (cI, 3, .inl (fun j => nI (mn j)))), (mb, .inl (cB, 3, .inl bd)), (mu, .inl (cB, 3, .inl tu))]) 0 0 := by
  refine ft_ei (cc := b_M_isSo) (maxL := 2) (ret := (some .boolean)) (by decide) rfl (Nat.le_of_ble_eq_true rfl) ?_
  intro p e s m below meth c A ls hx hb hr hml hts hown hlocks hmn hP hK hD hA hS hNW hl
  have ht : ∀ w ∈ ft_big, w.before _ s = true := fun w h => hts w (List.mem_cons_of_mem _ h)
  have hP : va_P D vwCl [(o, .inr (5, [.int th, .ref mt, .int (nI nT), .int lim, .ref mo, .int (nI nO), .ref mf, .int (nI nF), .ref mc, .ref mm, .ref mk, .ref mb, .int lf, .int fl, .ref mu, .int f1, .int f2, .int ck, .ref ml, .ref mg, .ref mx])), (mc, .inl (cI, 3, .inl (fun j => nI (cm j)))), (mm, .inl (cI, 3, .inl (fun j => nI (mn j)))), (mb, .inl (cB, 3, .inl bd)), (mu, .inl (cB, 3, .inl tu))] s.heap := hP
  have hD : va_D A [(o, .inr (5, [.int th, .ref mt, .int (nI nT), .int lim, .ref mo, .int (nI nO), .ref mf, .int (nI nF), .ref mc, .ref mm, .ref mk, .ref mb, .int lf, .int fl, .ref mu, .int f1, .int f2, .int ck, .ref ml, .ref mg, .ref mx])), (mc, .inl (cI, 3, .inl (fun j => nI (cm j)))), (mm, .inl (cI, 3, .inl (fun j => nI (mn j)))), (mb, .inl (cB, 3, .inl bd)), (mu, .inl (cB, 3, .inl tu))] := hD
  have hl : lv_has ls 2 [(0, .ref o), (1, .int (nI 1))] := hl
  refine lv_iload_n hx hb d_M_isSo_0 rfl (lv_at hl 1 rfl) ?_
  refine lv_if_ne (tgt := 26) hx hb d_M_isSo_1 (by decide) (fun _ => ?_) (fun c1 => absurd c1 (by decide))
  refine lv_aload_n hx hb d_M_isSo_26 rfl (lv_at hl 0 rfl) ?_
  refine va_get (D := D) (ci := 5) (v := .ref mb) (C := R_M) (T := F_M) (N := 21) hx hb ht bi_M hown hK hP 0 rfl rfl 11 (by decide) (ht _ bw_418) (fun _ h9 => h9) rfl d_M_isSo_27 ?_
  refine lv_iload_n hx hb d_M_isSo_30 rfl (lv_at hl 1 rfl) ?_
  refine va_zald hx hb hK hP 3 1 rfl rfl (vp_in_nI (by omega) (by omega)) d_M_isSo_31 ?_
  refine ft_top (congrArg bd (show (nI 1).toNatClampNeg = 1 from by decide)) ?_
  refine lv_if_ne (tgt := 44) hx hb d_M_isSo_32 (by decide) (fun c32 => ?_) (fun c32 => ?_)
  · skip
    refine lv_iconst (v := 0) hx hb d_M_isSo_44 (by decide +kernel) ?_
    exact ft_retz () hx hb hr (by decide) hlocks hP hK hD hS (by show (0 : Int32) = so1 bd tu; simp [so1, c32]) d_M_isSo_45
  · skip
    refine lv_aload_n hx hb d_M_isSo_35 rfl (lv_at hl 0 rfl) ?_
    refine va_get (D := D) (ci := 5) (v := .ref mu) (C := R_M) (T := F_M) (N := 21) hx hb ht bi_M hown hK hP 0 rfl rfl 14 (by decide) (ht _ bw_421) (fun _ h9 => h9) rfl d_M_isSo_36 ?_
    refine lv_iload_n hx hb d_M_isSo_39 rfl (lv_at hl 1 rfl) ?_
    refine va_zald hx hb hK hP 4 1 rfl rfl (vp_in_nI (by omega) (by omega)) d_M_isSo_40 ?_
    refine ft_top (congrArg tu (show (nI 1).toNatClampNeg = 1 from by decide)) ?_
    refine lv_if_eq (tgt := 46) hx hb d_M_isSo_41 (by decide) (fun c41 => ?_) (fun c41 => ?_)
    · skip
      refine lv_iload_n hx hb d_M_isSo_46 rfl (lv_at hl 1 rfl) ?_
      refine lv_iconst (v := nI 1) hx hb d_M_isSo_47 (by decide +kernel) ?_
      refine lv_icmp_eq (tgt := 85) hx hb d_M_isSo_48 (by decide) (fun _ => ?_) (fun c48 => absurd (by decide) c48)
      refine lv_iconst (v := 1) hx hb d_M_isSo_85 (by decide +kernel) ?_
      refine lv_goto (tgt := 90) hx hb d_M_isSo_86 (by decide) ?_
      exact ft_retz () hx hb hr (by decide) hlocks hP hK hD hS (by show (1 : Int32) = so1 bd tu; simp [so1, c32, c41]) d_M_isSo_90
    · skip
      refine lv_iconst (v := 0) hx hb d_M_isSo_44 (by decide +kernel) ?_
      exact ft_retz () hx hb hr (by decide) hlocks hP hK hD hS (by show (0 : Int32) = so1 bd tu; simp [so1, c32, c41]) d_M_isSo_45

set_option maxHeartbeats 4000000 in
set_option maxRecDepth 100000 in
theorem c_M_isSo_2 (l : Launch) (D : va_G) (cI : ClassId) (cB : ClassId) (o mt mo mf mc mm mk mb mu ml mg mx : Nat) (th lim lf fl f1 f2 ck : Int32) (nT nO nF : Nat) (cm mn : Nat → Nat) (bd tu : Nat → Int32) (hC : cm 2 < 1073741824) (hM : mn 2 < 1073741824) (sz : Nat) : ft_Mi l y_M_isSo (.code y_M_isSo b_M_isSo 2 (some .boolean) :: ft_big) ({ frames := 0, cells := 0, slots := 0, locals := 0 }) D [(cI, .int), (cB, .boolean)] sz [.ref o, .int (nI 2)] [(o, .inr (5, [.int th, .ref mt, .int (nI nT), .int lim, .ref mo, .int (nI nO), .ref mf, .int (nI nF), .ref mc, .ref mm, .ref mk, .ref mb, .int lf, .int fl, .ref mu, .int f1, .int f2, .int ck, .ref ml, .ref mg, .ref mx])), (mc, .inl (cI, 3, .inl (fun j => nI (cm j)))), (mm, .inl (cI, 3, .inl (fun j => nI (mn j)))), (mb, .inl (cB, 3, .inl bd)), (mu, .inl (cB, 3, .inl tu))] (fun (v : Int32) (_ : Unit) => v = so2 mn bd tu f1 f2 ck) (fun _ => [(o, .inr (5, [.int th, .ref mt, .int (nI nT), .int lim, .ref mo, .int (nI nO), .ref mf, .int (nI nF), .ref mc, .ref mm, .ref mk, .ref mb, .int lf, .int fl, .ref mu, .int f1, .int f2, .int ck, .ref ml, .ref mg, .ref mx])), (mc, .inl (cI, 3, .inl (fun j => nI (cm j)))), (mm, .inl (cI, 3, .inl (fun j => nI (mn j)))), (mb, .inl (cB, 3, .inl bd)), (mu, .inl (cB, 3, .inl tu))]) 0 0 := by
  refine ft_ei (cc := b_M_isSo) (maxL := 2) (ret := (some .boolean)) (by decide) rfl (Nat.le_of_ble_eq_true rfl) ?_
  intro p e s m below meth c A ls hx hb hr hml hts hown hlocks hmn hP hK hD hA hS hNW hl
  have ht : ∀ w ∈ ft_big, w.before _ s = true := fun w h => hts w (List.mem_cons_of_mem _ h)
  have hP : va_P D vwCl [(o, .inr (5, [.int th, .ref mt, .int (nI nT), .int lim, .ref mo, .int (nI nO), .ref mf, .int (nI nF), .ref mc, .ref mm, .ref mk, .ref mb, .int lf, .int fl, .ref mu, .int f1, .int f2, .int ck, .ref ml, .ref mg, .ref mx])), (mc, .inl (cI, 3, .inl (fun j => nI (cm j)))), (mm, .inl (cI, 3, .inl (fun j => nI (mn j)))), (mb, .inl (cB, 3, .inl bd)), (mu, .inl (cB, 3, .inl tu))] s.heap := hP
  have hD : va_D A [(o, .inr (5, [.int th, .ref mt, .int (nI nT), .int lim, .ref mo, .int (nI nO), .ref mf, .int (nI nF), .ref mc, .ref mm, .ref mk, .ref mb, .int lf, .int fl, .ref mu, .int f1, .int f2, .int ck, .ref ml, .ref mg, .ref mx])), (mc, .inl (cI, 3, .inl (fun j => nI (cm j)))), (mm, .inl (cI, 3, .inl (fun j => nI (mn j)))), (mb, .inl (cB, 3, .inl bd)), (mu, .inl (cB, 3, .inl tu))] := hD
  have hl : lv_has ls 2 [(0, .ref o), (1, .int (nI 2))] := hl
  refine lv_iload_n hx hb d_M_isSo_0 rfl (lv_at hl 1 rfl) ?_
  refine lv_if_ne (tgt := 26) hx hb d_M_isSo_1 (by decide) (fun _ => ?_) (fun c1 => absurd c1 (by decide))
  refine lv_aload_n hx hb d_M_isSo_26 rfl (lv_at hl 0 rfl) ?_
  refine va_get (D := D) (ci := 5) (v := .ref mb) (C := R_M) (T := F_M) (N := 21) hx hb ht bi_M hown hK hP 0 rfl rfl 11 (by decide) (ht _ bw_418) (fun _ h9 => h9) rfl d_M_isSo_27 ?_
  refine lv_iload_n hx hb d_M_isSo_30 rfl (lv_at hl 1 rfl) ?_
  refine va_zald hx hb hK hP 3 1 rfl rfl (vp_in_nI (by omega) (by omega)) d_M_isSo_31 ?_
  refine ft_top (congrArg bd (show (nI 2).toNatClampNeg = 2 from by decide)) ?_
  refine lv_if_ne (tgt := 44) hx hb d_M_isSo_32 (by decide) (fun c32 => ?_) (fun c32 => ?_)
  · skip
    refine lv_iconst (v := 0) hx hb d_M_isSo_44 (by decide +kernel) ?_
    exact ft_retz () hx hb hr (by decide) hlocks hP hK hD hS (by show (0 : Int32) = so2 mn bd tu f1 f2 ck; unfold so2; rw [if_neg c32]) d_M_isSo_45
  · skip
    refine lv_aload_n hx hb d_M_isSo_35 rfl (lv_at hl 0 rfl) ?_
    refine va_get (D := D) (ci := 5) (v := .ref mu) (C := R_M) (T := F_M) (N := 21) hx hb ht bi_M hown hK hP 0 rfl rfl 14 (by decide) (ht _ bw_421) (fun _ h9 => h9) rfl d_M_isSo_36 ?_
    refine lv_iload_n hx hb d_M_isSo_39 rfl (lv_at hl 1 rfl) ?_
    refine va_zald hx hb hK hP 4 1 rfl rfl (vp_in_nI (by omega) (by omega)) d_M_isSo_40 ?_
    refine ft_top (congrArg tu (show (nI 2).toNatClampNeg = 2 from by decide)) ?_
    refine lv_if_eq (tgt := 46) hx hb d_M_isSo_41 (by decide) (fun c41 => ?_) (fun c41 => ?_)
    · skip
      refine lv_iload_n hx hb d_M_isSo_46 rfl (lv_at hl 1 rfl) ?_
      refine lv_iconst (v := nI 1) hx hb d_M_isSo_47 (by decide +kernel) ?_
      refine lv_icmp_eq (tgt := 85) hx hb d_M_isSo_48 (by decide) (fun c48 => absurd c48 (by decide)) (fun _ => ?_)
      refine lv_aload_n hx hb d_M_isSo_51 rfl (lv_at hl 0 rfl) ?_
      refine va_get (D := D) (ci := 5) (v := .ref mm) (C := R_M) (T := F_M) (N := 21) hx hb ht bi_M hown hK hP 0 rfl rfl 9 (by decide) (ht _ bw_416) (fun _ h9 => h9) rfl d_M_isSo_52 ?_
      refine lv_iconst (v := nI 2) hx hb d_M_isSo_55 (by decide +kernel) ?_
      refine va_iald hx hb hK hP 2 0 rfl rfl (vp_in_nI (by omega) (by omega)) d_M_isSo_56 ?_
      refine ft_top (y := nI (mn 2)) (congrArg (fun j => nI (mn j)) (by decide)) ?_
      refine lv_iconst (v := nI 2) hx hb d_M_isSo_57 (by decide +kernel) ?_
      refine lv_icmp_le (tgt := 89) hx hb d_M_isSo_58 (by decide) (fun c58 => ?_) (fun c58 => ?_)
      · skip
        have c58 : mn 2 ≤ 2 := (nI_leI (by omega) (by omega)).mp c58
        have z58 : ¬ 2 < mn 2 := by omega
        refine lv_iconst (v := 0) hx hb d_M_isSo_89 (by decide +kernel) ?_
        exact ft_retz () hx hb hr (by decide) hlocks hP hK hD hS (by show (0 : Int32) = so2 mn bd tu f1 f2 ck; unfold so2; rw [if_pos c32, if_pos c41, if_neg z58]) d_M_isSo_90
      · skip
        have c58 : ¬ mn 2 ≤ 2 := fun h => c58 ((nI_leI (by omega) (by omega)).mpr h)
        have z58 : 2 < mn 2 := by omega
        refine lv_aload_n hx hb d_M_isSo_61 rfl (lv_at hl 0 rfl) ?_
        refine va_get (D := D) (ci := 5) (v := .int ck) (C := R_M) (T := F_M) (N := 21) hx hb ht bi_M hown hK hP 0 rfl rfl 17 (by decide) (ht _ bw_424) (fun _ h9 => h9) rfl d_M_isSo_62 ?_
        refine lv_iconst (v := (-1)) hx hb d_M_isSo_65 (by decide +kernel) ?_
        refine lv_ixor hx hb d_M_isSo_66 ?_
        refine lv_ldc hx hb hown (ht _ bw_507) d_M_isSo_67 ?_
        refine lv_iand hx hb d_M_isSo_69 ?_
        refine lv_aload_n hx hb d_M_isSo_70 rfl (lv_at hl 0 rfl) ?_
        refine va_get (D := D) (ci := 5) (v := .int f1) (C := R_M) (T := F_M) (N := 21) hx hb ht bi_M hown hK hP 0 rfl rfl 15 (by decide) (ht _ bw_422) (fun _ h9 => h9) rfl d_M_isSo_71 ?_
        refine lv_aload_n hx hb d_M_isSo_74 rfl (lv_at hl 0 rfl) ?_
        refine va_get (D := D) (ci := 5) (v := .int f2) (C := R_M) (T := F_M) (N := 21) hx hb ht bi_M hown hK hP 0 rfl rfl 16 (by decide) (ht _ bw_423) (fun _ h9 => h9) rfl d_M_isSo_75 ?_
        refine lv_bipush (v := 8) hx hb d_M_isSo_78 (by decide +kernel) ?_
        refine lv_ishl hx hb d_M_isSo_80 ?_
        refine lv_ior hx hb d_M_isSo_81 ?_
        refine lv_icmp_ne (tgt := 89) hx hb d_M_isSo_82 (by decide) (fun c82 => ?_) (fun c82 => ?_)
        · skip
          refine lv_iconst (v := 0) hx hb d_M_isSo_89 (by decide +kernel) ?_
          exact ft_retz () hx hb hr (by decide) hlocks hP hK hD hS (by show (0 : Int32) = so2 mn bd tu f1 f2 ck; unfold so2; rw [if_pos c32, if_pos c41, if_pos z58, if_neg c82]) d_M_isSo_90
        · skip
          refine lv_iconst (v := 1) hx hb d_M_isSo_85 (by decide +kernel) ?_
          refine lv_goto (tgt := 90) hx hb d_M_isSo_86 (by decide) ?_
          exact ft_retz () hx hb hr (by decide) hlocks hP hK hD hS (by show (1 : Int32) = so2 mn bd tu f1 f2 ck; unfold so2; rw [if_pos c32, if_pos c41, if_pos z58, if_pos c82]) d_M_isSo_90
    · skip
      refine lv_iconst (v := 0) hx hb d_M_isSo_44 (by decide +kernel) ?_
      exact ft_retz () hx hb hr (by decide) hlocks hP hK hD hS (by show (0 : Int32) = so2 mn bd tu f1 f2 ck; unfold so2; rw [if_pos c32, if_neg c41]) d_M_isSo_45

set_option maxHeartbeats 4000000 in
set_option maxRecDepth 100000 in
theorem c_M_begin_0 (l : Launch) (D : va_G) (cI : ClassId) (cB : ClassId) (o mt mo mf mc mm mk mb mu ml mg mx : Nat) (th lim lf fl f1 f2 ck : Int32) (nT nO nF : Nat) (cm mn : Nat → Nat) (bd tu : Nat → Int32) (sz : Nat) : ft_Mv l y_M_begin (.code y_M_begin b_M_begin 2 none :: ft_big) ({ frames := 0, cells := 0, slots := 0, locals := 0 }) D [(cI, .int), (cB, .boolean)] sz [.ref o, .int (nI 0)] [(o, .inr (5, [.int th, .ref mt, .int (nI nT), .int lim, .ref mo, .int (nI nO), .ref mf, .int (nI nF), .ref mc, .ref mm, .ref mk, .ref mb, .int lf, .int fl, .ref mu, .int f1, .int f2, .int ck, .ref ml, .ref mg, .ref mx])), (mc, .inl (cI, 3, .inl (fun j => nI (cm j)))), (mm, .inl (cI, 3, .inl (fun j => nI (mn j)))), (mb, .inl (cB, 3, .inl bd)), (mu, .inl (cB, 3, .inl tu))] (fun u : (Nat → Nat) × (Nat → Nat) × (Nat → Int32) × (Nat → Int32) => u = (va_up cm 0 0, va_up mn 0 0, upd bd 0 0, upd tu 0 0)) (fun u => [(o, .inr (5, [.int th, .ref mt, .int (nI nT), .int lim, .ref mo, .int (nI nO), .ref mf, .int (nI nF), .ref mc, .ref mm, .ref mk, .ref mb, .int 0, .int 0, .ref mu, .int f1, .int f2, .int ck, .ref ml, .ref mg, .ref mx])), (mc, .inl (cI, 3, .inl (fun j => nI (u.1 j)))), (mm, .inl (cI, 3, .inl (fun j => nI (u.2.1 j)))), (mb, .inl (cB, 3, .inl u.2.2.1)), (mu, .inl (cB, 3, .inl u.2.2.2))]) 0 0 := by
  refine ft_ev (cc := b_M_begin) (maxL := 2) (ret := none) (by decide) rfl (Nat.le_of_ble_eq_true rfl) ?_
  intro p e s m below meth c A ls hx hb hr hml hts hown hlocks hmn hP hK hD hA hS hNW hl
  have ht : ∀ w ∈ ft_big, w.before _ s = true := fun w h => hts w (List.mem_cons_of_mem _ h)
  have hP : va_P D vwCl [(o, .inr (5, [.int th, .ref mt, .int (nI nT), .int lim, .ref mo, .int (nI nO), .ref mf, .int (nI nF), .ref mc, .ref mm, .ref mk, .ref mb, .int lf, .int fl, .ref mu, .int f1, .int f2, .int ck, .ref ml, .ref mg, .ref mx])), (mc, .inl (cI, 3, .inl (fun j => nI (cm j)))), (mm, .inl (cI, 3, .inl (fun j => nI (mn j)))), (mb, .inl (cB, 3, .inl bd)), (mu, .inl (cB, 3, .inl tu))] s.heap := hP
  have hD : va_D A [(o, .inr (5, [.int th, .ref mt, .int (nI nT), .int lim, .ref mo, .int (nI nO), .ref mf, .int (nI nF), .ref mc, .ref mm, .ref mk, .ref mb, .int lf, .int fl, .ref mu, .int f1, .int f2, .int ck, .ref ml, .ref mg, .ref mx])), (mc, .inl (cI, 3, .inl (fun j => nI (cm j)))), (mm, .inl (cI, 3, .inl (fun j => nI (mn j)))), (mb, .inl (cB, 3, .inl bd)), (mu, .inl (cB, 3, .inl tu))] := hD
  have hl : lv_has ls 2 [(0, .ref o), (1, .int (nI 0))] := hl
  refine lv_aload_n hx hb d_M_begin_0 rfl (lv_at hl 0 rfl) ?_
  refine va_get (D := D) (ci := 5) (v := .ref mc) (C := R_M) (T := F_M) (N := 21) hx hb ht bi_M hown hK hP 0 rfl rfl 8 (by decide) (ht _ bw_415) (fun _ h9 => h9) rfl d_M_begin_1 ?_
  refine lv_iload_n hx hb d_M_begin_4 rfl (lv_at hl 1 rfl) ?_
  refine lv_iconst (v := nI 0) hx hb d_M_begin_5 (by decide +kernel) ?_
  refine va_iast hx hb hK hP hD hS 1 0 rfl rfl (vp_in_nI (by omega) (by omega)) d_M_begin_6 (fun H locs hP hD hS => ?_)
  rw [show (nI 0).toNatClampNeg = 0 from by decide] at hP hD
  rw [upd_nI] at hP hD
  obtain ⟨cm_1, ecm_1⟩ : ∃ g : Nat → Nat, g = va_up cm 0 0 := ⟨_, rfl⟩
  rw [← ecm_1] at hP hD
  have hP : va_P D vwCl [(o, .inr (5, [.int th, .ref mt, .int (nI nT), .int lim, .ref mo, .int (nI nO), .ref mf, .int (nI nF), .ref mc, .ref mm, .ref mk, .ref mb, .int lf, .int fl, .ref mu, .int f1, .int f2, .int ck, .ref ml, .ref mg, .ref mx])), (mc, .inl (cI, 3, .inl (fun j => nI (cm_1 j)))), (mm, .inl (cI, 3, .inl (fun j => nI (mn j)))), (mb, .inl (cB, 3, .inl bd)), (mu, .inl (cB, 3, .inl tu))] H := hP
  have hD : va_D A [(o, .inr (5, [.int th, .ref mt, .int (nI nT), .int lim, .ref mo, .int (nI nO), .ref mf, .int (nI nF), .ref mc, .ref mm, .ref mk, .ref mb, .int lf, .int fl, .ref mu, .int f1, .int f2, .int ck, .ref ml, .ref mg, .ref mx])), (mc, .inl (cI, 3, .inl (fun j => nI (cm_1 j)))), (mm, .inl (cI, 3, .inl (fun j => nI (mn j)))), (mb, .inl (cB, 3, .inl bd)), (mu, .inl (cB, 3, .inl tu))] := hD
  refine lv_aload_n hx hb d_M_begin_7 rfl (lv_at hl 0 rfl) ?_
  refine va_get (D := D) (ci := 5) (v := .ref mm) (C := R_M) (T := F_M) (N := 21) hx hb ht bi_M hown hK hP 0 rfl rfl 9 (by decide) (ht _ bw_416) (fun _ h9 => h9) rfl d_M_begin_8 ?_
  refine lv_iload_n hx hb d_M_begin_11 rfl (lv_at hl 1 rfl) ?_
  refine lv_iconst (v := nI 0) hx hb d_M_begin_12 (by decide +kernel) ?_
  refine va_iast hx hb hK hP hD hS 2 0 rfl rfl (vp_in_nI (by omega) (by omega)) d_M_begin_13 (fun H locs hP hD hS => ?_)
  rw [show (nI 0).toNatClampNeg = 0 from by decide] at hP hD
  rw [upd_nI] at hP hD
  obtain ⟨mn_2, emn_2⟩ : ∃ g : Nat → Nat, g = va_up mn 0 0 := ⟨_, rfl⟩
  rw [← emn_2] at hP hD
  have hP : va_P D vwCl [(o, .inr (5, [.int th, .ref mt, .int (nI nT), .int lim, .ref mo, .int (nI nO), .ref mf, .int (nI nF), .ref mc, .ref mm, .ref mk, .ref mb, .int lf, .int fl, .ref mu, .int f1, .int f2, .int ck, .ref ml, .ref mg, .ref mx])), (mc, .inl (cI, 3, .inl (fun j => nI (cm_1 j)))), (mm, .inl (cI, 3, .inl (fun j => nI (mn_2 j)))), (mb, .inl (cB, 3, .inl bd)), (mu, .inl (cB, 3, .inl tu))] H := hP
  have hD : va_D A [(o, .inr (5, [.int th, .ref mt, .int (nI nT), .int lim, .ref mo, .int (nI nO), .ref mf, .int (nI nF), .ref mc, .ref mm, .ref mk, .ref mb, .int lf, .int fl, .ref mu, .int f1, .int f2, .int ck, .ref ml, .ref mg, .ref mx])), (mc, .inl (cI, 3, .inl (fun j => nI (cm_1 j)))), (mm, .inl (cI, 3, .inl (fun j => nI (mn_2 j)))), (mb, .inl (cB, 3, .inl bd)), (mu, .inl (cB, 3, .inl tu))] := hD
  refine lv_aload_n hx hb d_M_begin_14 rfl (lv_at hl 0 rfl) ?_
  refine va_get (D := D) (ci := 5) (v := .ref mb) (C := R_M) (T := F_M) (N := 21) hx hb ht bi_M hown hK hP 0 rfl rfl 11 (by decide) (ht _ bw_418) (fun _ h9 => h9) rfl d_M_begin_15 ?_
  refine lv_iload_n hx hb d_M_begin_18 rfl (lv_at hl 1 rfl) ?_
  refine lv_iconst (v := 0) hx hb d_M_begin_19 (by decide +kernel) ?_
  refine va_zast hx hb hK hP hD hS 3 1 rfl rfl (vp_in_nI (by omega) (by omega)) d_M_begin_20 (fun H locs hP hD hS => ?_)
  rw [show vp_nar .boolean 0 = 0 from rfl] at hP hD
  rw [show (nI 0).toNatClampNeg = 0 from by decide] at hP hD
  obtain ⟨bd_3, ebd_3⟩ : ∃ g : Nat → Int32, g = upd bd 0 0 := ⟨_, rfl⟩
  rw [← ebd_3] at hP hD
  have hP : va_P D vwCl [(o, .inr (5, [.int th, .ref mt, .int (nI nT), .int lim, .ref mo, .int (nI nO), .ref mf, .int (nI nF), .ref mc, .ref mm, .ref mk, .ref mb, .int lf, .int fl, .ref mu, .int f1, .int f2, .int ck, .ref ml, .ref mg, .ref mx])), (mc, .inl (cI, 3, .inl (fun j => nI (cm_1 j)))), (mm, .inl (cI, 3, .inl (fun j => nI (mn_2 j)))), (mb, .inl (cB, 3, .inl bd_3)), (mu, .inl (cB, 3, .inl tu))] H := hP
  have hD : va_D A [(o, .inr (5, [.int th, .ref mt, .int (nI nT), .int lim, .ref mo, .int (nI nO), .ref mf, .int (nI nF), .ref mc, .ref mm, .ref mk, .ref mb, .int lf, .int fl, .ref mu, .int f1, .int f2, .int ck, .ref ml, .ref mg, .ref mx])), (mc, .inl (cI, 3, .inl (fun j => nI (cm_1 j)))), (mm, .inl (cI, 3, .inl (fun j => nI (mn_2 j)))), (mb, .inl (cB, 3, .inl bd_3)), (mu, .inl (cB, 3, .inl tu))] := hD
  refine lv_aload_n hx hb d_M_begin_21 rfl (lv_at hl 0 rfl) ?_
  refine va_get (D := D) (ci := 5) (v := .ref mu) (C := R_M) (T := F_M) (N := 21) hx hb ht bi_M hown hK hP 0 rfl rfl 14 (by decide) (ht _ bw_421) (fun _ h9 => h9) rfl d_M_begin_22 ?_
  refine lv_iload_n hx hb d_M_begin_25 rfl (lv_at hl 1 rfl) ?_
  refine lv_iconst (v := 0) hx hb d_M_begin_26 (by decide +kernel) ?_
  refine va_zast hx hb hK hP hD hS 4 1 rfl rfl (vp_in_nI (by omega) (by omega)) d_M_begin_27 (fun H locs hP hD hS => ?_)
  rw [show vp_nar .boolean 0 = 0 from rfl] at hP hD
  rw [show (nI 0).toNatClampNeg = 0 from by decide] at hP hD
  obtain ⟨tu_4, etu_4⟩ : ∃ g : Nat → Int32, g = upd tu 0 0 := ⟨_, rfl⟩
  rw [← etu_4] at hP hD
  have hP : va_P D vwCl [(o, .inr (5, [.int th, .ref mt, .int (nI nT), .int lim, .ref mo, .int (nI nO), .ref mf, .int (nI nF), .ref mc, .ref mm, .ref mk, .ref mb, .int lf, .int fl, .ref mu, .int f1, .int f2, .int ck, .ref ml, .ref mg, .ref mx])), (mc, .inl (cI, 3, .inl (fun j => nI (cm_1 j)))), (mm, .inl (cI, 3, .inl (fun j => nI (mn_2 j)))), (mb, .inl (cB, 3, .inl bd_3)), (mu, .inl (cB, 3, .inl tu_4))] H := hP
  have hD : va_D A [(o, .inr (5, [.int th, .ref mt, .int (nI nT), .int lim, .ref mo, .int (nI nO), .ref mf, .int (nI nF), .ref mc, .ref mm, .ref mk, .ref mb, .int lf, .int fl, .ref mu, .int f1, .int f2, .int ck, .ref ml, .ref mg, .ref mx])), (mc, .inl (cI, 3, .inl (fun j => nI (cm_1 j)))), (mm, .inl (cI, 3, .inl (fun j => nI (mn_2 j)))), (mb, .inl (cB, 3, .inl bd_3)), (mu, .inl (cB, 3, .inl tu_4))] := hD
  refine lv_iload_n hx hb d_M_begin_28 rfl (lv_at hl 1 rfl) ?_
  refine lv_if_ne (tgt := 42) hx hb d_M_begin_29 (by decide) (fun c29 => absurd (by decide) c29) (fun _ => ?_)
  refine lv_aload_n hx hb d_M_begin_32 rfl (lv_at hl 0 rfl) ?_
  refine lv_iconst (v := 0) hx hb d_M_begin_33 (by decide +kernel) ?_
  refine va_put (D := D) (ci := 5) (v := .int 0) (ty := .int) (C := R_M) (T := F_M) (N := 21) hx hb ht bi_M t_M t_M_ok n_M hown hK hP hD hS 0 rfl rfl 12 (by decide) (ht _ bw_419) (fun _ h9 => h9) rfl (by decide +kernel) rfl rfl (Nat.le_of_ble_eq_true rfl) d_M_begin_34 (fun H locs hP hD hS => ?_)
  have hP : va_P D vwCl [(o, .inr (5, [.int th, .ref mt, .int (nI nT), .int lim, .ref mo, .int (nI nO), .ref mf, .int (nI nF), .ref mc, .ref mm, .ref mk, .ref mb, .int 0, .int fl, .ref mu, .int f1, .int f2, .int ck, .ref ml, .ref mg, .ref mx])), (mc, .inl (cI, 3, .inl (fun j => nI (cm_1 j)))), (mm, .inl (cI, 3, .inl (fun j => nI (mn_2 j)))), (mb, .inl (cB, 3, .inl bd_3)), (mu, .inl (cB, 3, .inl tu_4))] H := hP
  have hD : va_D A [(o, .inr (5, [.int th, .ref mt, .int (nI nT), .int lim, .ref mo, .int (nI nO), .ref mf, .int (nI nF), .ref mc, .ref mm, .ref mk, .ref mb, .int 0, .int fl, .ref mu, .int f1, .int f2, .int ck, .ref ml, .ref mg, .ref mx])), (mc, .inl (cI, 3, .inl (fun j => nI (cm_1 j)))), (mm, .inl (cI, 3, .inl (fun j => nI (mn_2 j)))), (mb, .inl (cB, 3, .inl bd_3)), (mu, .inl (cB, 3, .inl tu_4))] := hD
  refine lv_aload_n hx hb d_M_begin_37 rfl (lv_at hl 0 rfl) ?_
  refine lv_iconst (v := 0) hx hb d_M_begin_38 (by decide +kernel) ?_
  refine va_put (D := D) (ci := 5) (v := .int 0) (ty := .boolean) (C := R_M) (T := F_M) (N := 21) hx hb ht bi_M t_M t_M_ok n_M hown hK hP hD hS 0 rfl rfl 13 (by decide) (ht _ bw_420) (fun _ h9 => h9) rfl (by decide +kernel) rfl rfl (Nat.le_of_ble_eq_true rfl) d_M_begin_39 (fun H locs hP hD hS => ?_)
  have hP : va_P D vwCl [(o, .inr (5, [.int th, .ref mt, .int (nI nT), .int lim, .ref mo, .int (nI nO), .ref mf, .int (nI nF), .ref mc, .ref mm, .ref mk, .ref mb, .int 0, .int 0, .ref mu, .int f1, .int f2, .int ck, .ref ml, .ref mg, .ref mx])), (mc, .inl (cI, 3, .inl (fun j => nI (cm_1 j)))), (mm, .inl (cI, 3, .inl (fun j => nI (mn_2 j)))), (mb, .inl (cB, 3, .inl bd_3)), (mu, .inl (cB, 3, .inl tu_4))] H := hP
  have hD : va_D A [(o, .inr (5, [.int th, .ref mt, .int (nI nT), .int lim, .ref mo, .int (nI nO), .ref mf, .int (nI nF), .ref mc, .ref mm, .ref mk, .ref mb, .int 0, .int 0, .ref mu, .int f1, .int f2, .int ck, .ref ml, .ref mg, .ref mx])), (mc, .inl (cI, 3, .inl (fun j => nI (cm_1 j)))), (mm, .inl (cI, 3, .inl (fun j => nI (mn_2 j)))), (mb, .inl (cB, 3, .inl bd_3)), (mu, .inl (cB, 3, .inl tu_4))] := hD
  refine lv_iload_n hx hb d_M_begin_42 rfl (lv_at hl 1 rfl) ?_
  refine lv_iconst (v := nI 2) hx hb d_M_begin_43 (by decide +kernel) ?_
  refine lv_icmp_ne (tgt := 53) hx hb d_M_begin_44 (by decide) (fun _ => ?_) (fun c44 => absurd c44 (by decide))
  exact ft_retv (cm_1, mn_2, bd_3, tu_4) hx hb hr hlocks hP hK hD hS (by simp [ecm_1, emn_2, ebd_3, etu_4]) d_M_begin_53

set_option maxHeartbeats 4000000 in
set_option maxRecDepth 100000 in
theorem c_M_begin_1 (l : Launch) (D : va_G) (cI : ClassId) (cB : ClassId) (o mt mo mf mc mm mk mb mu ml mg mx : Nat) (th lim lf fl f1 f2 ck : Int32) (nT nO nF : Nat) (cm mn : Nat → Nat) (bd tu : Nat → Int32) (sz : Nat) : ft_Mv l y_M_begin (.code y_M_begin b_M_begin 2 none :: ft_big) ({ frames := 0, cells := 0, slots := 0, locals := 0 }) D [(cI, .int), (cB, .boolean)] sz [.ref o, .int (nI 1)] [(o, .inr (5, [.int th, .ref mt, .int (nI nT), .int lim, .ref mo, .int (nI nO), .ref mf, .int (nI nF), .ref mc, .ref mm, .ref mk, .ref mb, .int lf, .int fl, .ref mu, .int f1, .int f2, .int ck, .ref ml, .ref mg, .ref mx])), (mc, .inl (cI, 3, .inl (fun j => nI (cm j)))), (mm, .inl (cI, 3, .inl (fun j => nI (mn j)))), (mb, .inl (cB, 3, .inl bd)), (mu, .inl (cB, 3, .inl tu))] (fun u : (Nat → Nat) × (Nat → Nat) × (Nat → Int32) × (Nat → Int32) => u = (va_up cm 1 0, va_up mn 1 0, upd bd 1 0, upd tu 1 0)) (fun u => [(o, .inr (5, [.int th, .ref mt, .int (nI nT), .int lim, .ref mo, .int (nI nO), .ref mf, .int (nI nF), .ref mc, .ref mm, .ref mk, .ref mb, .int lf, .int fl, .ref mu, .int f1, .int f2, .int ck, .ref ml, .ref mg, .ref mx])), (mc, .inl (cI, 3, .inl (fun j => nI (u.1 j)))), (mm, .inl (cI, 3, .inl (fun j => nI (u.2.1 j)))), (mb, .inl (cB, 3, .inl u.2.2.1)), (mu, .inl (cB, 3, .inl u.2.2.2))]) 0 0 := by
  refine ft_ev (cc := b_M_begin) (maxL := 2) (ret := none) (by decide) rfl (Nat.le_of_ble_eq_true rfl) ?_
  intro p e s m below meth c A ls hx hb hr hml hts hown hlocks hmn hP hK hD hA hS hNW hl
  have ht : ∀ w ∈ ft_big, w.before _ s = true := fun w h => hts w (List.mem_cons_of_mem _ h)
  have hP : va_P D vwCl [(o, .inr (5, [.int th, .ref mt, .int (nI nT), .int lim, .ref mo, .int (nI nO), .ref mf, .int (nI nF), .ref mc, .ref mm, .ref mk, .ref mb, .int lf, .int fl, .ref mu, .int f1, .int f2, .int ck, .ref ml, .ref mg, .ref mx])), (mc, .inl (cI, 3, .inl (fun j => nI (cm j)))), (mm, .inl (cI, 3, .inl (fun j => nI (mn j)))), (mb, .inl (cB, 3, .inl bd)), (mu, .inl (cB, 3, .inl tu))] s.heap := hP
  have hD : va_D A [(o, .inr (5, [.int th, .ref mt, .int (nI nT), .int lim, .ref mo, .int (nI nO), .ref mf, .int (nI nF), .ref mc, .ref mm, .ref mk, .ref mb, .int lf, .int fl, .ref mu, .int f1, .int f2, .int ck, .ref ml, .ref mg, .ref mx])), (mc, .inl (cI, 3, .inl (fun j => nI (cm j)))), (mm, .inl (cI, 3, .inl (fun j => nI (mn j)))), (mb, .inl (cB, 3, .inl bd)), (mu, .inl (cB, 3, .inl tu))] := hD
  have hl : lv_has ls 2 [(0, .ref o), (1, .int (nI 1))] := hl
  refine lv_aload_n hx hb d_M_begin_0 rfl (lv_at hl 0 rfl) ?_
  refine va_get (D := D) (ci := 5) (v := .ref mc) (C := R_M) (T := F_M) (N := 21) hx hb ht bi_M hown hK hP 0 rfl rfl 8 (by decide) (ht _ bw_415) (fun _ h9 => h9) rfl d_M_begin_1 ?_
  refine lv_iload_n hx hb d_M_begin_4 rfl (lv_at hl 1 rfl) ?_
  refine lv_iconst (v := nI 0) hx hb d_M_begin_5 (by decide +kernel) ?_
  refine va_iast hx hb hK hP hD hS 1 0 rfl rfl (vp_in_nI (by omega) (by omega)) d_M_begin_6 (fun H locs hP hD hS => ?_)
  rw [show (nI 1).toNatClampNeg = 1 from by decide] at hP hD
  rw [upd_nI] at hP hD
  obtain ⟨cm_1, ecm_1⟩ : ∃ g : Nat → Nat, g = va_up cm 1 0 := ⟨_, rfl⟩
  rw [← ecm_1] at hP hD
  have hP : va_P D vwCl [(o, .inr (5, [.int th, .ref mt, .int (nI nT), .int lim, .ref mo, .int (nI nO), .ref mf, .int (nI nF), .ref mc, .ref mm, .ref mk, .ref mb, .int lf, .int fl, .ref mu, .int f1, .int f2, .int ck, .ref ml, .ref mg, .ref mx])), (mc, .inl (cI, 3, .inl (fun j => nI (cm_1 j)))), (mm, .inl (cI, 3, .inl (fun j => nI (mn j)))), (mb, .inl (cB, 3, .inl bd)), (mu, .inl (cB, 3, .inl tu))] H := hP
  have hD : va_D A [(o, .inr (5, [.int th, .ref mt, .int (nI nT), .int lim, .ref mo, .int (nI nO), .ref mf, .int (nI nF), .ref mc, .ref mm, .ref mk, .ref mb, .int lf, .int fl, .ref mu, .int f1, .int f2, .int ck, .ref ml, .ref mg, .ref mx])), (mc, .inl (cI, 3, .inl (fun j => nI (cm_1 j)))), (mm, .inl (cI, 3, .inl (fun j => nI (mn j)))), (mb, .inl (cB, 3, .inl bd)), (mu, .inl (cB, 3, .inl tu))] := hD
  refine lv_aload_n hx hb d_M_begin_7 rfl (lv_at hl 0 rfl) ?_
  refine va_get (D := D) (ci := 5) (v := .ref mm) (C := R_M) (T := F_M) (N := 21) hx hb ht bi_M hown hK hP 0 rfl rfl 9 (by decide) (ht _ bw_416) (fun _ h9 => h9) rfl d_M_begin_8 ?_
  refine lv_iload_n hx hb d_M_begin_11 rfl (lv_at hl 1 rfl) ?_
  refine lv_iconst (v := nI 0) hx hb d_M_begin_12 (by decide +kernel) ?_
  refine va_iast hx hb hK hP hD hS 2 0 rfl rfl (vp_in_nI (by omega) (by omega)) d_M_begin_13 (fun H locs hP hD hS => ?_)
  rw [show (nI 1).toNatClampNeg = 1 from by decide] at hP hD
  rw [upd_nI] at hP hD
  obtain ⟨mn_2, emn_2⟩ : ∃ g : Nat → Nat, g = va_up mn 1 0 := ⟨_, rfl⟩
  rw [← emn_2] at hP hD
  have hP : va_P D vwCl [(o, .inr (5, [.int th, .ref mt, .int (nI nT), .int lim, .ref mo, .int (nI nO), .ref mf, .int (nI nF), .ref mc, .ref mm, .ref mk, .ref mb, .int lf, .int fl, .ref mu, .int f1, .int f2, .int ck, .ref ml, .ref mg, .ref mx])), (mc, .inl (cI, 3, .inl (fun j => nI (cm_1 j)))), (mm, .inl (cI, 3, .inl (fun j => nI (mn_2 j)))), (mb, .inl (cB, 3, .inl bd)), (mu, .inl (cB, 3, .inl tu))] H := hP
  have hD : va_D A [(o, .inr (5, [.int th, .ref mt, .int (nI nT), .int lim, .ref mo, .int (nI nO), .ref mf, .int (nI nF), .ref mc, .ref mm, .ref mk, .ref mb, .int lf, .int fl, .ref mu, .int f1, .int f2, .int ck, .ref ml, .ref mg, .ref mx])), (mc, .inl (cI, 3, .inl (fun j => nI (cm_1 j)))), (mm, .inl (cI, 3, .inl (fun j => nI (mn_2 j)))), (mb, .inl (cB, 3, .inl bd)), (mu, .inl (cB, 3, .inl tu))] := hD
  refine lv_aload_n hx hb d_M_begin_14 rfl (lv_at hl 0 rfl) ?_
  refine va_get (D := D) (ci := 5) (v := .ref mb) (C := R_M) (T := F_M) (N := 21) hx hb ht bi_M hown hK hP 0 rfl rfl 11 (by decide) (ht _ bw_418) (fun _ h9 => h9) rfl d_M_begin_15 ?_
  refine lv_iload_n hx hb d_M_begin_18 rfl (lv_at hl 1 rfl) ?_
  refine lv_iconst (v := 0) hx hb d_M_begin_19 (by decide +kernel) ?_
  refine va_zast hx hb hK hP hD hS 3 1 rfl rfl (vp_in_nI (by omega) (by omega)) d_M_begin_20 (fun H locs hP hD hS => ?_)
  rw [show vp_nar .boolean 0 = 0 from rfl] at hP hD
  rw [show (nI 1).toNatClampNeg = 1 from by decide] at hP hD
  obtain ⟨bd_3, ebd_3⟩ : ∃ g : Nat → Int32, g = upd bd 1 0 := ⟨_, rfl⟩
  rw [← ebd_3] at hP hD
  have hP : va_P D vwCl [(o, .inr (5, [.int th, .ref mt, .int (nI nT), .int lim, .ref mo, .int (nI nO), .ref mf, .int (nI nF), .ref mc, .ref mm, .ref mk, .ref mb, .int lf, .int fl, .ref mu, .int f1, .int f2, .int ck, .ref ml, .ref mg, .ref mx])), (mc, .inl (cI, 3, .inl (fun j => nI (cm_1 j)))), (mm, .inl (cI, 3, .inl (fun j => nI (mn_2 j)))), (mb, .inl (cB, 3, .inl bd_3)), (mu, .inl (cB, 3, .inl tu))] H := hP
  have hD : va_D A [(o, .inr (5, [.int th, .ref mt, .int (nI nT), .int lim, .ref mo, .int (nI nO), .ref mf, .int (nI nF), .ref mc, .ref mm, .ref mk, .ref mb, .int lf, .int fl, .ref mu, .int f1, .int f2, .int ck, .ref ml, .ref mg, .ref mx])), (mc, .inl (cI, 3, .inl (fun j => nI (cm_1 j)))), (mm, .inl (cI, 3, .inl (fun j => nI (mn_2 j)))), (mb, .inl (cB, 3, .inl bd_3)), (mu, .inl (cB, 3, .inl tu))] := hD
  refine lv_aload_n hx hb d_M_begin_21 rfl (lv_at hl 0 rfl) ?_
  refine va_get (D := D) (ci := 5) (v := .ref mu) (C := R_M) (T := F_M) (N := 21) hx hb ht bi_M hown hK hP 0 rfl rfl 14 (by decide) (ht _ bw_421) (fun _ h9 => h9) rfl d_M_begin_22 ?_
  refine lv_iload_n hx hb d_M_begin_25 rfl (lv_at hl 1 rfl) ?_
  refine lv_iconst (v := 0) hx hb d_M_begin_26 (by decide +kernel) ?_
  refine va_zast hx hb hK hP hD hS 4 1 rfl rfl (vp_in_nI (by omega) (by omega)) d_M_begin_27 (fun H locs hP hD hS => ?_)
  rw [show vp_nar .boolean 0 = 0 from rfl] at hP hD
  rw [show (nI 1).toNatClampNeg = 1 from by decide] at hP hD
  obtain ⟨tu_4, etu_4⟩ : ∃ g : Nat → Int32, g = upd tu 1 0 := ⟨_, rfl⟩
  rw [← etu_4] at hP hD
  have hP : va_P D vwCl [(o, .inr (5, [.int th, .ref mt, .int (nI nT), .int lim, .ref mo, .int (nI nO), .ref mf, .int (nI nF), .ref mc, .ref mm, .ref mk, .ref mb, .int lf, .int fl, .ref mu, .int f1, .int f2, .int ck, .ref ml, .ref mg, .ref mx])), (mc, .inl (cI, 3, .inl (fun j => nI (cm_1 j)))), (mm, .inl (cI, 3, .inl (fun j => nI (mn_2 j)))), (mb, .inl (cB, 3, .inl bd_3)), (mu, .inl (cB, 3, .inl tu_4))] H := hP
  have hD : va_D A [(o, .inr (5, [.int th, .ref mt, .int (nI nT), .int lim, .ref mo, .int (nI nO), .ref mf, .int (nI nF), .ref mc, .ref mm, .ref mk, .ref mb, .int lf, .int fl, .ref mu, .int f1, .int f2, .int ck, .ref ml, .ref mg, .ref mx])), (mc, .inl (cI, 3, .inl (fun j => nI (cm_1 j)))), (mm, .inl (cI, 3, .inl (fun j => nI (mn_2 j)))), (mb, .inl (cB, 3, .inl bd_3)), (mu, .inl (cB, 3, .inl tu_4))] := hD
  refine lv_iload_n hx hb d_M_begin_28 rfl (lv_at hl 1 rfl) ?_
  refine lv_if_ne (tgt := 42) hx hb d_M_begin_29 (by decide) (fun _ => ?_) (fun c29 => absurd c29 (by decide))
  refine lv_iload_n hx hb d_M_begin_42 rfl (lv_at hl 1 rfl) ?_
  refine lv_iconst (v := nI 2) hx hb d_M_begin_43 (by decide +kernel) ?_
  refine lv_icmp_ne (tgt := 53) hx hb d_M_begin_44 (by decide) (fun _ => ?_) (fun c44 => absurd c44 (by decide))
  exact ft_retv (cm_1, mn_2, bd_3, tu_4) hx hb hr hlocks hP hK hD hS (by simp [ecm_1, emn_2, ebd_3, etu_4]) d_M_begin_53

set_option maxHeartbeats 4000000 in
set_option maxRecDepth 100000 in
theorem c_M_begin_2 (l : Launch) (D : va_G) (cI : ClassId) (cB : ClassId) (o mt mo mf mc mm mk mb mu ml mg mx : Nat) (th lim lf fl f1 f2 ck : Int32) (nT nO nF : Nat) (cm mn : Nat → Nat) (bd tu : Nat → Int32) (sz : Nat) : ft_Mv l y_M_begin (.code y_M_begin b_M_begin 2 none :: ft_big) ({ frames := 0, cells := 0, slots := 0, locals := 0 }) D [(cI, .int), (cB, .boolean)] sz [.ref o, .int (nI 2)] [(o, .inr (5, [.int th, .ref mt, .int (nI nT), .int lim, .ref mo, .int (nI nO), .ref mf, .int (nI nF), .ref mc, .ref mm, .ref mk, .ref mb, .int lf, .int fl, .ref mu, .int f1, .int f2, .int ck, .ref ml, .ref mg, .ref mx])), (mc, .inl (cI, 3, .inl (fun j => nI (cm j)))), (mm, .inl (cI, 3, .inl (fun j => nI (mn j)))), (mb, .inl (cB, 3, .inl bd)), (mu, .inl (cB, 3, .inl tu))] (fun u : (Nat → Nat) × (Nat → Nat) × (Nat → Int32) × (Nat → Int32) => u = (va_up cm 2 0, va_up mn 2 0, upd bd 2 0, upd tu 2 0)) (fun u => [(o, .inr (5, [.int th, .ref mt, .int (nI nT), .int lim, .ref mo, .int (nI nO), .ref mf, .int (nI nF), .ref mc, .ref mm, .ref mk, .ref mb, .int lf, .int fl, .ref mu, .int f1, .int f2, .int 65535, .ref ml, .ref mg, .ref mx])), (mc, .inl (cI, 3, .inl (fun j => nI (u.1 j)))), (mm, .inl (cI, 3, .inl (fun j => nI (u.2.1 j)))), (mb, .inl (cB, 3, .inl u.2.2.1)), (mu, .inl (cB, 3, .inl u.2.2.2))]) 0 0 := by
  refine ft_ev (cc := b_M_begin) (maxL := 2) (ret := none) (by decide) rfl (Nat.le_of_ble_eq_true rfl) ?_
  intro p e s m below meth c A ls hx hb hr hml hts hown hlocks hmn hP hK hD hA hS hNW hl
  have ht : ∀ w ∈ ft_big, w.before _ s = true := fun w h => hts w (List.mem_cons_of_mem _ h)
  have hP : va_P D vwCl [(o, .inr (5, [.int th, .ref mt, .int (nI nT), .int lim, .ref mo, .int (nI nO), .ref mf, .int (nI nF), .ref mc, .ref mm, .ref mk, .ref mb, .int lf, .int fl, .ref mu, .int f1, .int f2, .int ck, .ref ml, .ref mg, .ref mx])), (mc, .inl (cI, 3, .inl (fun j => nI (cm j)))), (mm, .inl (cI, 3, .inl (fun j => nI (mn j)))), (mb, .inl (cB, 3, .inl bd)), (mu, .inl (cB, 3, .inl tu))] s.heap := hP
  have hD : va_D A [(o, .inr (5, [.int th, .ref mt, .int (nI nT), .int lim, .ref mo, .int (nI nO), .ref mf, .int (nI nF), .ref mc, .ref mm, .ref mk, .ref mb, .int lf, .int fl, .ref mu, .int f1, .int f2, .int ck, .ref ml, .ref mg, .ref mx])), (mc, .inl (cI, 3, .inl (fun j => nI (cm j)))), (mm, .inl (cI, 3, .inl (fun j => nI (mn j)))), (mb, .inl (cB, 3, .inl bd)), (mu, .inl (cB, 3, .inl tu))] := hD
  have hl : lv_has ls 2 [(0, .ref o), (1, .int (nI 2))] := hl
  refine lv_aload_n hx hb d_M_begin_0 rfl (lv_at hl 0 rfl) ?_
  refine va_get (D := D) (ci := 5) (v := .ref mc) (C := R_M) (T := F_M) (N := 21) hx hb ht bi_M hown hK hP 0 rfl rfl 8 (by decide) (ht _ bw_415) (fun _ h9 => h9) rfl d_M_begin_1 ?_
  refine lv_iload_n hx hb d_M_begin_4 rfl (lv_at hl 1 rfl) ?_
  refine lv_iconst (v := nI 0) hx hb d_M_begin_5 (by decide +kernel) ?_
  refine va_iast hx hb hK hP hD hS 1 0 rfl rfl (vp_in_nI (by omega) (by omega)) d_M_begin_6 (fun H locs hP hD hS => ?_)
  rw [show (nI 2).toNatClampNeg = 2 from by decide] at hP hD
  rw [upd_nI] at hP hD
  obtain ⟨cm_1, ecm_1⟩ : ∃ g : Nat → Nat, g = va_up cm 2 0 := ⟨_, rfl⟩
  rw [← ecm_1] at hP hD
  have hP : va_P D vwCl [(o, .inr (5, [.int th, .ref mt, .int (nI nT), .int lim, .ref mo, .int (nI nO), .ref mf, .int (nI nF), .ref mc, .ref mm, .ref mk, .ref mb, .int lf, .int fl, .ref mu, .int f1, .int f2, .int ck, .ref ml, .ref mg, .ref mx])), (mc, .inl (cI, 3, .inl (fun j => nI (cm_1 j)))), (mm, .inl (cI, 3, .inl (fun j => nI (mn j)))), (mb, .inl (cB, 3, .inl bd)), (mu, .inl (cB, 3, .inl tu))] H := hP
  have hD : va_D A [(o, .inr (5, [.int th, .ref mt, .int (nI nT), .int lim, .ref mo, .int (nI nO), .ref mf, .int (nI nF), .ref mc, .ref mm, .ref mk, .ref mb, .int lf, .int fl, .ref mu, .int f1, .int f2, .int ck, .ref ml, .ref mg, .ref mx])), (mc, .inl (cI, 3, .inl (fun j => nI (cm_1 j)))), (mm, .inl (cI, 3, .inl (fun j => nI (mn j)))), (mb, .inl (cB, 3, .inl bd)), (mu, .inl (cB, 3, .inl tu))] := hD
  refine lv_aload_n hx hb d_M_begin_7 rfl (lv_at hl 0 rfl) ?_
  refine va_get (D := D) (ci := 5) (v := .ref mm) (C := R_M) (T := F_M) (N := 21) hx hb ht bi_M hown hK hP 0 rfl rfl 9 (by decide) (ht _ bw_416) (fun _ h9 => h9) rfl d_M_begin_8 ?_
  refine lv_iload_n hx hb d_M_begin_11 rfl (lv_at hl 1 rfl) ?_
  refine lv_iconst (v := nI 0) hx hb d_M_begin_12 (by decide +kernel) ?_
  refine va_iast hx hb hK hP hD hS 2 0 rfl rfl (vp_in_nI (by omega) (by omega)) d_M_begin_13 (fun H locs hP hD hS => ?_)
  rw [show (nI 2).toNatClampNeg = 2 from by decide] at hP hD
  rw [upd_nI] at hP hD
  obtain ⟨mn_2, emn_2⟩ : ∃ g : Nat → Nat, g = va_up mn 2 0 := ⟨_, rfl⟩
  rw [← emn_2] at hP hD
  have hP : va_P D vwCl [(o, .inr (5, [.int th, .ref mt, .int (nI nT), .int lim, .ref mo, .int (nI nO), .ref mf, .int (nI nF), .ref mc, .ref mm, .ref mk, .ref mb, .int lf, .int fl, .ref mu, .int f1, .int f2, .int ck, .ref ml, .ref mg, .ref mx])), (mc, .inl (cI, 3, .inl (fun j => nI (cm_1 j)))), (mm, .inl (cI, 3, .inl (fun j => nI (mn_2 j)))), (mb, .inl (cB, 3, .inl bd)), (mu, .inl (cB, 3, .inl tu))] H := hP
  have hD : va_D A [(o, .inr (5, [.int th, .ref mt, .int (nI nT), .int lim, .ref mo, .int (nI nO), .ref mf, .int (nI nF), .ref mc, .ref mm, .ref mk, .ref mb, .int lf, .int fl, .ref mu, .int f1, .int f2, .int ck, .ref ml, .ref mg, .ref mx])), (mc, .inl (cI, 3, .inl (fun j => nI (cm_1 j)))), (mm, .inl (cI, 3, .inl (fun j => nI (mn_2 j)))), (mb, .inl (cB, 3, .inl bd)), (mu, .inl (cB, 3, .inl tu))] := hD
  refine lv_aload_n hx hb d_M_begin_14 rfl (lv_at hl 0 rfl) ?_
  refine va_get (D := D) (ci := 5) (v := .ref mb) (C := R_M) (T := F_M) (N := 21) hx hb ht bi_M hown hK hP 0 rfl rfl 11 (by decide) (ht _ bw_418) (fun _ h9 => h9) rfl d_M_begin_15 ?_
  refine lv_iload_n hx hb d_M_begin_18 rfl (lv_at hl 1 rfl) ?_
  refine lv_iconst (v := 0) hx hb d_M_begin_19 (by decide +kernel) ?_
  refine va_zast hx hb hK hP hD hS 3 1 rfl rfl (vp_in_nI (by omega) (by omega)) d_M_begin_20 (fun H locs hP hD hS => ?_)
  rw [show vp_nar .boolean 0 = 0 from rfl] at hP hD
  rw [show (nI 2).toNatClampNeg = 2 from by decide] at hP hD
  obtain ⟨bd_3, ebd_3⟩ : ∃ g : Nat → Int32, g = upd bd 2 0 := ⟨_, rfl⟩
  rw [← ebd_3] at hP hD
  have hP : va_P D vwCl [(o, .inr (5, [.int th, .ref mt, .int (nI nT), .int lim, .ref mo, .int (nI nO), .ref mf, .int (nI nF), .ref mc, .ref mm, .ref mk, .ref mb, .int lf, .int fl, .ref mu, .int f1, .int f2, .int ck, .ref ml, .ref mg, .ref mx])), (mc, .inl (cI, 3, .inl (fun j => nI (cm_1 j)))), (mm, .inl (cI, 3, .inl (fun j => nI (mn_2 j)))), (mb, .inl (cB, 3, .inl bd_3)), (mu, .inl (cB, 3, .inl tu))] H := hP
  have hD : va_D A [(o, .inr (5, [.int th, .ref mt, .int (nI nT), .int lim, .ref mo, .int (nI nO), .ref mf, .int (nI nF), .ref mc, .ref mm, .ref mk, .ref mb, .int lf, .int fl, .ref mu, .int f1, .int f2, .int ck, .ref ml, .ref mg, .ref mx])), (mc, .inl (cI, 3, .inl (fun j => nI (cm_1 j)))), (mm, .inl (cI, 3, .inl (fun j => nI (mn_2 j)))), (mb, .inl (cB, 3, .inl bd_3)), (mu, .inl (cB, 3, .inl tu))] := hD
  refine lv_aload_n hx hb d_M_begin_21 rfl (lv_at hl 0 rfl) ?_
  refine va_get (D := D) (ci := 5) (v := .ref mu) (C := R_M) (T := F_M) (N := 21) hx hb ht bi_M hown hK hP 0 rfl rfl 14 (by decide) (ht _ bw_421) (fun _ h9 => h9) rfl d_M_begin_22 ?_
  refine lv_iload_n hx hb d_M_begin_25 rfl (lv_at hl 1 rfl) ?_
  refine lv_iconst (v := 0) hx hb d_M_begin_26 (by decide +kernel) ?_
  refine va_zast hx hb hK hP hD hS 4 1 rfl rfl (vp_in_nI (by omega) (by omega)) d_M_begin_27 (fun H locs hP hD hS => ?_)
  rw [show vp_nar .boolean 0 = 0 from rfl] at hP hD
  rw [show (nI 2).toNatClampNeg = 2 from by decide] at hP hD
  obtain ⟨tu_4, etu_4⟩ : ∃ g : Nat → Int32, g = upd tu 2 0 := ⟨_, rfl⟩
  rw [← etu_4] at hP hD
  have hP : va_P D vwCl [(o, .inr (5, [.int th, .ref mt, .int (nI nT), .int lim, .ref mo, .int (nI nO), .ref mf, .int (nI nF), .ref mc, .ref mm, .ref mk, .ref mb, .int lf, .int fl, .ref mu, .int f1, .int f2, .int ck, .ref ml, .ref mg, .ref mx])), (mc, .inl (cI, 3, .inl (fun j => nI (cm_1 j)))), (mm, .inl (cI, 3, .inl (fun j => nI (mn_2 j)))), (mb, .inl (cB, 3, .inl bd_3)), (mu, .inl (cB, 3, .inl tu_4))] H := hP
  have hD : va_D A [(o, .inr (5, [.int th, .ref mt, .int (nI nT), .int lim, .ref mo, .int (nI nO), .ref mf, .int (nI nF), .ref mc, .ref mm, .ref mk, .ref mb, .int lf, .int fl, .ref mu, .int f1, .int f2, .int ck, .ref ml, .ref mg, .ref mx])), (mc, .inl (cI, 3, .inl (fun j => nI (cm_1 j)))), (mm, .inl (cI, 3, .inl (fun j => nI (mn_2 j)))), (mb, .inl (cB, 3, .inl bd_3)), (mu, .inl (cB, 3, .inl tu_4))] := hD
  refine lv_iload_n hx hb d_M_begin_28 rfl (lv_at hl 1 rfl) ?_
  refine lv_if_ne (tgt := 42) hx hb d_M_begin_29 (by decide) (fun _ => ?_) (fun c29 => absurd c29 (by decide))
  refine lv_iload_n hx hb d_M_begin_42 rfl (lv_at hl 1 rfl) ?_
  refine lv_iconst (v := nI 2) hx hb d_M_begin_43 (by decide +kernel) ?_
  refine lv_icmp_ne (tgt := 53) hx hb d_M_begin_44 (by decide) (fun c44 => absurd (by decide) c44) (fun _ => ?_)
  refine lv_aload_n hx hb d_M_begin_47 rfl (lv_at hl 0 rfl) ?_
  refine lv_ldc hx hb hown (ht _ bw_507) d_M_begin_48 ?_
  refine va_put (D := D) (ci := 5) (v := .int 65535) (ty := .int) (C := R_M) (T := F_M) (N := 21) hx hb ht bi_M t_M t_M_ok n_M hown hK hP hD hS 0 rfl rfl 17 (by decide) (ht _ bw_424) (fun _ h9 => h9) rfl (by decide +kernel) rfl rfl (Nat.le_of_ble_eq_true rfl) d_M_begin_50 (fun H locs hP hD hS => ?_)
  have hP : va_P D vwCl [(o, .inr (5, [.int th, .ref mt, .int (nI nT), .int lim, .ref mo, .int (nI nO), .ref mf, .int (nI nF), .ref mc, .ref mm, .ref mk, .ref mb, .int lf, .int fl, .ref mu, .int f1, .int f2, .int 65535, .ref ml, .ref mg, .ref mx])), (mc, .inl (cI, 3, .inl (fun j => nI (cm_1 j)))), (mm, .inl (cI, 3, .inl (fun j => nI (mn_2 j)))), (mb, .inl (cB, 3, .inl bd_3)), (mu, .inl (cB, 3, .inl tu_4))] H := hP
  have hD : va_D A [(o, .inr (5, [.int th, .ref mt, .int (nI nT), .int lim, .ref mo, .int (nI nO), .ref mf, .int (nI nF), .ref mc, .ref mm, .ref mk, .ref mb, .int lf, .int fl, .ref mu, .int f1, .int f2, .int 65535, .ref ml, .ref mg, .ref mx])), (mc, .inl (cI, 3, .inl (fun j => nI (cm_1 j)))), (mm, .inl (cI, 3, .inl (fun j => nI (mn_2 j)))), (mb, .inl (cB, 3, .inl bd_3)), (mu, .inl (cB, 3, .inl tu_4))] := hD
  exact ft_retv (cm_1, mn_2, bd_3, tu_4) hx hb hr hlocks hP hK hD hS (by simp [ecm_1, emn_2, ebd_3, etu_4]) d_M_begin_53
