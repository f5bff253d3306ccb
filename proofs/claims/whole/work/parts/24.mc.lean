set_option maxHeartbeats 4000000 in
set_option maxRecDepth 100000 in
theorem c_M_sayGroups (l : Launch) (D : va_G) (cI : ClassId) (cB : ClassId) (o mt mo mf mc mm mk mb mu ml mg mx : Nat) (th lim lf fl f1 f2 ck : Int32) (nT nO nF : Nat) (fT fF : Nat → Int32) (n : Nat) (hn : n ≤ 400) (hF : nF + 2 * n + 1 ≤ 900) (sz : Nat) : ft_Mv l y_M_sayGroups (.code y_M_sayGroups b_M_sayGroups 6 none :: ft_big) ({ frames := 1, cells := 0, slots := 0, locals := 30 }) D [(cI, .int), (cB, .boolean)] sz [.ref o, .int (nI n)] [(o, .inr (5, [.int th, .ref mt, .int (nI nT), .int lim, .ref mo, .int (nI nO), .ref mf, .int (nI nF), .ref mc, .ref mm, .ref mk, .ref mb, .int lf, .int fl, .ref mu, .int f1, .int f2, .int ck, .ref ml, .ref mg, .ref mx])), (mt, .inl (cI, 400, .inl fT)), (mf, .inl (cI, 900, .inl fF))] (fun u : AS => ∃ L : List Int32, u = asays (fF, nF) L ∧ L ++ [0] = e0 fT n n 0 0 0) (fun u : AS => [(o, .inr (5, [.int th, .ref mt, .int (nI nT), .int lim, .ref mo, .int (nI nO), .ref mf, .int (nI u.2), .ref mc, .ref mm, .ref mk, .ref mb, .int lf, .int fl, .ref mu, .int f1, .int f2, .int ck, .ref ml, .ref mg, .ref mx])), (mt, .inl (cI, 400, .inl fT)), (mf, .inl (cI, 900, .inl u.1))]) 0 0 := by
  refine ft_ev (cc := b_M_sayGroups) (maxL := 6) (ret := none) (by decide) rfl (Nat.le_of_ble_eq_true rfl) ?_
  intro p e s m below meth c A ls hx hb hr hml hts hown hlocks hmn hP hK hD hA hS hNW hl
  have ht : ∀ w ∈ ft_big, w.before _ s = true := fun w h => hts w (List.mem_cons_of_mem _ h)
  have hP : va_P D vwCl [(o, .inr (5, [.int th, .ref mt, .int (nI nT), .int lim, .ref mo, .int (nI nO), .ref mf, .int (nI nF), .ref mc, .ref mm, .ref mk, .ref mb, .int lf, .int fl, .ref mu, .int f1, .int f2, .int ck, .ref ml, .ref mg, .ref mx])), (mt, .inl (cI, 400, .inl fT)), (mf, .inl (cI, 900, .inl fF))] s.heap := hP
  have hD : va_D A [(o, .inr (5, [.int th, .ref mt, .int (nI nT), .int lim, .ref mo, .int (nI nO), .ref mf, .int (nI nF), .ref mc, .ref mm, .ref mk, .ref mb, .int lf, .int fl, .ref mu, .int f1, .int f2, .int ck, .ref ml, .ref mg, .ref mx])), (mt, .inl (cI, 400, .inl fT)), (mf, .inl (cI, 900, .inl fF))] := hD
  have hl : lv_has ls 6 [(0, .ref o), (1, .int (nI n))] := hl
  refine lv_iconst (v := nI 0) hx hb d_M_sayGroups_0 (by decide +kernel) ?_
  refine lv_istore_n (lv' := [(2, .int (nI 0)), (0, .ref o), (1, .int (nI n))]) hx hb d_M_sayGroups_1 rfl hl (by decide) rfl (fun ls hl => ?_)
  refine lv_iconst (v := 1) hx hb d_M_sayGroups_2 (by decide +kernel) ?_
  refine lv_istore_n (lv' := [(3, .int 1), (2, .int (nI 0)), (0, .ref o), (1, .int (nI n))]) hx hb d_M_sayGroups_3 rfl hl (by decide) rfl (fun ls hl => ?_)
  refine lv_iload_n hx hb d_M_sayGroups_4 rfl (lv_at hl 0 rfl) ?_
  refine lv_if_eq (tgt := 119) hx hb d_M_sayGroups_5 (by decide) (fun c5 => absurd c5 (by decide)) (fun _ => ?_)
  have outer : ∀ (z i nA : Nat) (fA : Nat → Int32) (P : List Int32) (bf : Int32) (H : Heap) (locs : List Loc) (ls : Array Slot), n - i < z → i ≤ n → nA ≤ nF + 2 * i → va_P D vwCl [(o, .inr (5, [.int th, .ref mt, .int (nI nT), .int lim, .ref mo, .int (nI nO), .ref mf, .int (nI nA), .ref mc, .ref mm, .ref mk, .ref mb, .int lf, .int fl, .ref mu, .int f1, .int f2, .int ck, .ref ml, .ref mg, .ref mx])), (mt, .inl (cI, 400, .inl fT)), (mf, .inl (cI, 900, .inl fA))] H → va_D A [(o, .inr (5, [.int th, .ref mt, .int (nI nT), .int lim, .ref mo, .int (nI nO), .ref mf, .int (nI nA), .ref mc, .ref mm, .ref mk, .ref mb, .int lf, .int fl, .ref mu, .int f1, .int f2, .int ck, .ref ml, .ref mg, .ref mx])), (mt, .inl (cI, 400, .inl fT)), (mf, .inl (cI, 900, .inl fA))] → va_S A s.heap H locs → lv_has ls 6 [(2, .int (nI i)), (3, .int 1), (0, .ref o), (1, .int (nI n))] → (fA, nA) = asays (fF, nF) P → P ++ e0 fT n (n - i) i i bf = e0 fT n n 0 0 0 → (i < n ∨ bf = 0) → W p l e ({ frames := 1, cells := 0, slots := 0, locals := 30 } : Room) s m ([.ref o, .int (nI n)] : List Value).toArray below meth c H locs 0 0 (MQ below (va_Qv (fun u : AS => ∃ L : List Int32, u = asays (fF, nF) L ∧ L ++ [0] = e0 fT n n 0 0 0) (ft_B D vwCl [(cI, .int), (cB, .boolean)] A (fun u : AS => [(o, .inr (5, [.int th, .ref mt, .int (nI nT), .int lim, .ref mo, .int (nI nO), .ref mf, .int (nI u.2), .ref mc, .ref mm, .ref mk, .ref mb, .int lf, .int fl, .ref mu, .int f1, .int f2, .int ck, .ref ml, .ref mg, .ref mx])), (mt, .inl (cI, 400, .inl fT)), (mf, .inl (cI, 900, .inl u.1))])) A) ([.ref o, .int (nI n)] : List Value).toArray s 0 0 A) (F0 m 8 ls []) := by
    intro z
    induction z with
    | zero => intro i nA fA P bf H locs ls hz; exact absurd hz (by omega)
    | succ z ihz =>
      intro i nA fA P bf H locs ls hz hi hA2 hP hD hS hl eP eE hbf
      refine lv_aload_n hx hb d_M_sayGroups_8 rfl (lv_at hl 2 rfl) ?_
      refine lv_iload_n hx hb d_M_sayGroups_9 rfl (lv_at hl 0 rfl) ?_
      refine lv_iload_n hx hb d_M_sayGroups_10 rfl (lv_at hl 3 rfl) ?_
      refine ft_ci (wc := [(o, .inr (5, [.int th, .ref mt, .int (nI nT), .int lim, .ref mo, .int (nI nO), .ref mf, .int (nI nA), .ref mc, .ref mm, .ref mk, .ref mb, .int lf, .int fl, .ref mu, .int f1, .int f2, .int ck, .ref ml, .ref mg, .ref mx])), (mt, .inl (cI, 400, .inl fT))]) (wr := [(mf, .inl (cI, 900, .inl fA))]) (va_runV (As := [.int (nI i), .int (nI n)]) (rest := []) ⟨hx, hb, hml, hown, ht⟩ (c_M_groupEnd l D cI cB o mt mo mf mc mm mk mb mu ml mg mx th lim lf fl f1 f2 ck nT nO nA fT i n (by omega) (by omega) H.size) (ft_cwV 2 ht bw_499 bw_501 bw_20 bw_39 bw_502 (by decide) ⟨Nat.le_of_ble_eq_true rfl, Nat.le_of_ble_eq_true rfl⟩) ⟨ft_blind, va_recv hK hP (ci := 5) (q0 := 0) rfl rfl, (ft_pre hP hD hK hNW [0, 1] [0, 1] rfl rfl (by decide) rfl _)⟩ rfl rfl hl.1 rfl (lv_room (Nat.le_of_ble_eq_true rfl)) d_M_sayGroups_11 ⟨Nat.le_of_ble_eq_true rfl, Nat.le_of_ble_eq_true rfl⟩) hP hD hS hA [0, 1] [2] rfl rfl (by decide) (by decide) (fun r_1 u_2 H locs hu_2 hP hD hS => ?_)
      obtain ⟨k, rfl, hge⟩ := hu_2
      obtain ⟨g1, g2, g3, -, -⟩ := id hge
      have hP : va_P D vwCl [(mf, .inl (cI, 900, .inl fA)), (o, .inr (5, [.int th, .ref mt, .int (nI nT), .int lim, .ref mo, .int (nI nO), .ref mf, .int (nI nA), .ref mc, .ref mm, .ref mk, .ref mb, .int lf, .int fl, .ref mu, .int f1, .int f2, .int ck, .ref ml, .ref mg, .ref mx])), (mt, .inl (cI, 400, .inl fT))] H := hP
      have hD : va_D A [(mf, .inl (cI, 900, .inl fA)), (o, .inr (5, [.int th, .ref mt, .int (nI nT), .int lim, .ref mo, .int (nI nO), .ref mf, .int (nI nA), .ref mc, .ref mm, .ref mk, .ref mb, .int lf, .int fl, .ref mu, .int f1, .int f2, .int ck, .ref ml, .ref mg, .ref mx])), (mt, .inl (cI, 400, .inl fT))] := hD
      refine lv_istore (lv' := [(4, .int (nI k)), (2, .int (nI i)), (3, .int 1), (0, .ref o), (1, .int (nI n))]) hx hb d_M_sayGroups_14 hl (by decide) rfl (fun ls hl => ?_)
      refine lv_aload_n hx hb d_M_sayGroups_16 rfl (lv_at hl 3 rfl) ?_
      refine lv_iconst (v := nI 1) hx hb d_M_sayGroups_17 (by decide +kernel) ?_
      refine lv_iload hx hb d_M_sayGroups_18 (lv_at hl 0 rfl) ?_
      refine lv_iadd hx hb d_M_sayGroups_20 ?_
      refine ft_top (nI_add 1 k) ?_
      refine lv_iload_n hx hb d_M_sayGroups_21 rfl (lv_at hl 1 rfl) ?_
      refine lv_isub hx hb d_M_sayGroups_22 ?_
      refine ft_top (pk_sub (by omega)) ?_
      refine ft_cv (wc := [(o, .inr (5, [.int th, .ref mt, .int (nI nT), .int lim, .ref mo, .int (nI nO), .ref mf, .int (nI nA), .ref mc, .ref mm, .ref mk, .ref mb, .int lf, .int fl, .ref mu, .int f1, .int f2, .int ck, .ref ml, .ref mg, .ref mx])), (mf, .inl (cI, 900, .inl fA))]) (wr := [(mt, .inl (cI, 400, .inl fT))]) (va_runV (As := [.int (nI ((1 + k) - i))]) (rest := []) ⟨hx, hb, hml, hown, ht⟩ (c_M_say l D cI cB o mt mo mf mc mm mk mb mu ml mg mx th lim lf fl f1 f2 ck nT nO nA fA (by omega) (nI ((1 + k) - i)) H.size) (ft_cwV 1 ht bw_503 bw_505 bw_21 bw_39 bw_506 (by decide) ⟨Nat.le_of_ble_eq_true rfl, Nat.le_of_ble_eq_true rfl⟩) ⟨ft_blind, va_recv hK hP (ci := 5) (q0 := 1) rfl rfl, (ft_pre hP hD hK hNW [1, 0] [0, 1] rfl rfl (by decide) rfl _)⟩ rfl rfl hl.1 rfl (lv_room (Nat.le_of_ble_eq_true rfl)) d_M_sayGroups_23 ⟨Nat.le_of_ble_eq_true rfl, Nat.le_of_ble_eq_true rfl⟩) hP hD hS hA [1, 0] [2] rfl rfl (by decide) (by decide) (fun u_5 H locs hu_5 hP hD hS => ?_)
      obtain ⟨fFs3, nFs3⟩ := u_5
      have e_ns3 : nFs3 = nA + 1 := congrArg Prod.snd hu_5
      have hP : va_P D vwCl [(mt, .inl (cI, 400, .inl fT)), (o, .inr (5, [.int th, .ref mt, .int (nI nT), .int lim, .ref mo, .int (nI nO), .ref mf, .int (nI nFs3), .ref mc, .ref mm, .ref mk, .ref mb, .int lf, .int fl, .ref mu, .int f1, .int f2, .int ck, .ref ml, .ref mg, .ref mx])), (mf, .inl (cI, 900, .inl fFs3))] H := hP
      have hD : va_D A [(mt, .inl (cI, 400, .inl fT)), (o, .inr (5, [.int th, .ref mt, .int (nI nT), .int lim, .ref mo, .int (nI nO), .ref mf, .int (nI nFs3), .ref mc, .ref mm, .ref mk, .ref mb, .int lf, .int fl, .ref mu, .int f1, .int f2, .int ck, .ref ml, .ref mg, .ref mx])), (mf, .inl (cI, 900, .inl fFs3))] := hD
      refine lv_iload_n hx hb d_M_sayGroups_26 rfl (lv_at hl 1 rfl) ?_
      refine lv_istore (lv' := [(5, .int (nI i)), (4, .int (nI k)), (2, .int (nI i)), (3, .int 1), (0, .ref o), (1, .int (nI n))]) hx hb d_M_sayGroups_27 hl (by decide) rfl (fun ls hl => ?_)
      have inner : ∀ (q : Nat) (k5 : Nat) (fB : Nat → Int32) (nB : Nat) (H : Heap) (locs : List Loc) (ls : Array Slot), k5 + q = k → i ≤ k5 → nB + q ≤ 900 → va_P D vwCl [(o, .inr (5, [.int th, .ref mt, .int (nI nT), .int lim, .ref mo, .int (nI nO), .ref mf, .int (nI nB), .ref mc, .ref mm, .ref mk, .ref mb, .int lf, .int fl, .ref mu, .int f1, .int f2, .int ck, .ref ml, .ref mg, .ref mx])), (mt, .inl (cI, 400, .inl fT)), (mf, .inl (cI, 900, .inl fB))] H → va_D A [(o, .inr (5, [.int th, .ref mt, .int (nI nT), .int lim, .ref mo, .int (nI nO), .ref mf, .int (nI nB), .ref mc, .ref mm, .ref mk, .ref mb, .int lf, .int fl, .ref mu, .int f1, .int f2, .int ck, .ref ml, .ref mg, .ref mx])), (mt, .inl (cI, 400, .inl fT)), (mf, .inl (cI, 900, .inl fB))] → va_S A s.heap H locs → lv_has ls 6 [(5, .int (nI k5)), (4, .int (nI k)), (2, .int (nI i)), (3, .int 1), (0, .ref o), (1, .int (nI n))] → asays (fB, nB) (seg fT k5 q) = asays (fA, nA) (grp fT i k) → W p l e ({ frames := 1, cells := 0, slots := 0, locals := 30 } : Room) s m ([.ref o, .int (nI n)] : List Value).toArray below meth c H locs 0 0 (MQ below (va_Qv (fun u : AS => ∃ L : List Int32, u = asays (fF, nF) L ∧ L ++ [0] = e0 fT n n 0 0 0) (ft_B D vwCl [(cI, .int), (cB, .boolean)] A (fun u : AS => [(o, .inr (5, [.int th, .ref mt, .int (nI nT), .int lim, .ref mo, .int (nI nO), .ref mf, .int (nI u.2), .ref mc, .ref mm, .ref mk, .ref mb, .int lf, .int fl, .ref mu, .int f1, .int f2, .int ck, .ref ml, .ref mg, .ref mx])), (mt, .inl (cI, 400, .inl fT)), (mf, .inl (cI, 900, .inl u.1))])) A) ([.ref o, .int (nI n)] : List Value).toArray s 0 0 A) (F0 m 29 ls []) := by
        intro q
        induction q with
        | zero =>
          intro k5 fB nB H locs ls hk5 hik hB hP hD hS hl heq
          refine lv_iload hx hb d_M_sayGroups_29 (lv_at hl 0 rfl) ?_
          refine lv_iload hx hb d_M_sayGroups_31 (lv_at hl 1 rfl) ?_
          refine lv_icmp_ge (tgt := 53) hx hb d_M_sayGroups_33 (by decide) (fun c33 => ?_) (fun c33 => absurd (nI_le (by omega) (by omega)) c33)
          have c33 : k ≤ k5 := (nI_leI (by omega) (by omega)).mp c33
          refine lv_iload hx hb d_M_sayGroups_53 (lv_at hl 1 rfl) ?_
          refine lv_iload_n hx hb d_M_sayGroups_55 rfl (lv_at hl 2 rfl) ?_
          refine lv_isub hx hb d_M_sayGroups_56 ?_
          refine ft_top (pk_sub (by omega)) ?_
          refine lv_sipush (v := nI 254) hx hb d_M_sayGroups_57 (by decide +kernel) ?_
          refine lv_icmp_ne (tgt := 67) hx hb d_M_sayGroups_60 (by decide) (fun c60 => ?_) (fun c60 => ?_)
          · skip
            have c60 : ¬ k - i = 254 := fun h => c60 ((nI_eq (by omega) (by omega)).mpr h)
            refine lv_iconst (v := 0) hx hb d_M_sayGroups_67 (by decide +kernel) ?_
            refine lv_istore (lv' := [(5, .int 0), (4, .int (nI k)), (2, .int (nI i)), (3, .int 1), (0, .ref o), (1, .int (nI n))]) hx hb d_M_sayGroups_68 hl (by decide) rfl (fun ls hl => ?_)
            refine lv_iload hx hb d_M_sayGroups_70 (lv_at hl 0 rfl) ?_
            refine lv_if_eq (tgt := 89) hx hb d_M_sayGroups_72 (by decide) (fun _ => ?_) (fun c72 => absurd (by decide) c72)
            refine lv_iload hx hb d_M_sayGroups_89 (lv_at hl 1 rfl) ?_
            refine lv_iload_n hx hb d_M_sayGroups_91 rfl (lv_at hl 5 rfl) ?_
            refine lv_icmp_ge (tgt := 99) hx hb d_M_sayGroups_92 (by decide) (fun c92 => ?_) (fun c92 => ?_)
            · skip
              have c92 : n ≤ k := (nI_leI (by omega) (by omega)).mp c92
              refine lv_iconst (v := 0) hx hb d_M_sayGroups_99 (by decide +kernel) ?_
              refine lv_istore_n (lv' := [(3, .int 0), (5, .int 0), (4, .int (nI k)), (2, .int (nI i)), (0, .ref o), (1, .int (nI n))]) hx hb d_M_sayGroups_100 rfl hl (by decide) rfl (fun ls hl => ?_)
              refine lv_iload hx hb d_M_sayGroups_101 (lv_at hl 1 rfl) ?_
              refine lv_if_eq (tgt := 111) hx hb d_M_sayGroups_103 (by decide) (fun _ => ?_) (fun c103 => absurd (by decide) c103)
              refine lv_iload hx hb d_M_sayGroups_111 (lv_at hl 2 rfl) ?_
              refine lv_iconst (v := nI 1) hx hb d_M_sayGroups_113 (by decide +kernel) ?_
              refine lv_iadd hx hb d_M_sayGroups_114 ?_
              refine ft_top (nI_add k 1) ?_
              refine lv_istore_n (lv' := [(2, .int (nI (k + 1))), (3, .int 0), (5, .int 0), (4, .int (nI k)), (0, .ref o), (1, .int (nI n))]) hx hb d_M_sayGroups_115 rfl hl (by decide) rfl (fun ls hl => ?_)
              refine lv_goto (tgt := 4) hx hb d_M_sayGroups_116 (by decide) ?_
              refine lv_iload_n hx hb d_M_sayGroups_4 rfl (lv_at hl 1 rfl) ?_
              refine lv_if_eq (tgt := 119) hx hb d_M_sayGroups_5 (by decide) (fun _ => ?_) (fun c5 => absurd (by decide) c5)
              exact ft_retv (fB, nB) hx hb hr hlocks hP hK hD hS ⟨P ++ grp fT i k, by rw [asays_app, ← eP]; exact heq, by rw [List.append_assoc, ← e0_b0 bf hge c60 (by omega) hbf]; exact eE⟩ d_M_sayGroups_119
            · skip
              have c92 : ¬ n ≤ k := fun h => c92 ((nI_leI (by omega) (by omega)).mpr h)
              refine lv_iconst (v := 1) hx hb d_M_sayGroups_95 (by decide +kernel) ?_
              refine lv_goto (tgt := 100) hx hb d_M_sayGroups_96 (by decide) ?_
              refine lv_istore_n (lv' := [(3, .int 1), (5, .int 0), (4, .int (nI k)), (2, .int (nI i)), (0, .ref o), (1, .int (nI n))]) hx hb d_M_sayGroups_100 rfl hl (by decide) rfl (fun ls hl => ?_)
              refine lv_iload hx hb d_M_sayGroups_101 (lv_at hl 1 rfl) ?_
              refine lv_if_eq (tgt := 111) hx hb d_M_sayGroups_103 (by decide) (fun _ => ?_) (fun c103 => absurd (by decide) c103)
              refine lv_iload hx hb d_M_sayGroups_111 (lv_at hl 2 rfl) ?_
              refine lv_iconst (v := nI 1) hx hb d_M_sayGroups_113 (by decide +kernel) ?_
              refine lv_iadd hx hb d_M_sayGroups_114 ?_
              refine ft_top (nI_add k 1) ?_
              refine lv_istore_n (lv' := [(2, .int (nI (k + 1))), (3, .int 1), (5, .int 0), (4, .int (nI k)), (0, .ref o), (1, .int (nI n))]) hx hb d_M_sayGroups_115 rfl hl (by decide) rfl (fun ls hl => ?_)
              refine lv_goto (tgt := 4) hx hb d_M_sayGroups_116 (by decide) ?_
              refine lv_iload_n hx hb d_M_sayGroups_4 rfl (lv_at hl 1 rfl) ?_
              refine lv_if_eq (tgt := 119) hx hb d_M_sayGroups_5 (by decide) (fun c5 => absurd c5 (by decide)) (fun _ => ?_)
              have e_len : nB = nA + (k - i + 1) := by have q := congrArg Prod.snd heq; rw [asays_n, asays_n, grp_len, seg_len] at q; exact q
              exact ihz (k + 1) nB fB (P ++ grp fT i k) 0 H locs ls (by omega) (by omega) (by omega) (hP.sub [0, 1, 2] rfl) (hD.sub [0, 1, 2] (by decide) rfl) hS (lv_sub hl [0, 1, 4, 5] rfl) (by rw [asays_app, ← eP]; exact heq) (by rw [List.append_assoc, ← e0_b bf hge c60 (by omega)]; exact eE) (Or.inr rfl)
          · skip
            have c60 : k - i = 254 := (nI_eq (by omega) (by omega)).mp c60
            refine lv_iconst (v := 1) hx hb d_M_sayGroups_63 (by decide +kernel) ?_
            refine lv_goto (tgt := 68) hx hb d_M_sayGroups_64 (by decide) ?_
            refine lv_istore (lv' := [(5, .int 1), (4, .int (nI k)), (2, .int (nI i)), (3, .int 1), (0, .ref o), (1, .int (nI n))]) hx hb d_M_sayGroups_68 hl (by decide) rfl (fun ls hl => ?_)
            refine lv_iload hx hb d_M_sayGroups_70 (lv_at hl 0 rfl) ?_
            refine lv_if_eq (tgt := 89) hx hb d_M_sayGroups_72 (by decide) (fun c72 => absurd c72 (by decide)) (fun _ => ?_)
            refine lv_iload hx hb d_M_sayGroups_75 (lv_at hl 1 rfl) ?_
            refine lv_iload_n hx hb d_M_sayGroups_77 rfl (lv_at hl 5 rfl) ?_
            refine lv_icmp_ge (tgt := 85) hx hb d_M_sayGroups_78 (by decide) (fun c78 => ?_) (fun c78 => ?_)
            · skip
              have c78 : n ≤ k := (nI_leI (by omega) (by omega)).mp c78
              refine lv_iconst (v := 0) hx hb d_M_sayGroups_85 (by decide +kernel) ?_
              refine lv_goto (tgt := 100) hx hb d_M_sayGroups_86 (by decide) ?_
              refine lv_istore_n (lv' := [(3, .int 0), (5, .int 1), (4, .int (nI k)), (2, .int (nI i)), (0, .ref o), (1, .int (nI n))]) hx hb d_M_sayGroups_100 rfl hl (by decide) rfl (fun ls hl => ?_)
              refine lv_iload hx hb d_M_sayGroups_101 (lv_at hl 1 rfl) ?_
              refine lv_if_eq (tgt := 111) hx hb d_M_sayGroups_103 (by decide) (fun c103 => absurd c103 (by decide)) (fun _ => ?_)
              refine lv_iload hx hb d_M_sayGroups_106 (lv_at hl 2 rfl) ?_
              refine lv_goto (tgt := 115) hx hb d_M_sayGroups_108 (by decide) ?_
              refine lv_istore_n (lv' := [(2, .int (nI k)), (3, .int 0), (5, .int 1), (4, .int (nI k)), (0, .ref o), (1, .int (nI n))]) hx hb d_M_sayGroups_115 rfl hl (by decide) rfl (fun ls hl => ?_)
              refine lv_goto (tgt := 4) hx hb d_M_sayGroups_116 (by decide) ?_
              refine lv_iload_n hx hb d_M_sayGroups_4 rfl (lv_at hl 1 rfl) ?_
              refine lv_if_eq (tgt := 119) hx hb d_M_sayGroups_5 (by decide) (fun _ => ?_) (fun c5 => absurd (by decide) c5)
              exact ft_retv (fB, nB) hx hb hr hlocks hP hK hD hS ⟨P ++ grp fT i k, by rw [asays_app, ← eP]; exact heq, by rw [List.append_assoc, ← e0_a0 bf hge c60 (by omega)]; exact eE⟩ d_M_sayGroups_119
            · skip
              have c78 : ¬ n ≤ k := fun h => c78 ((nI_leI (by omega) (by omega)).mpr h)
              refine lv_iconst (v := 1) hx hb d_M_sayGroups_81 (by decide +kernel) ?_
              refine lv_goto (tgt := 100) hx hb d_M_sayGroups_82 (by decide) ?_
              refine lv_istore_n (lv' := [(3, .int 1), (5, .int 1), (4, .int (nI k)), (2, .int (nI i)), (0, .ref o), (1, .int (nI n))]) hx hb d_M_sayGroups_100 rfl hl (by decide) rfl (fun ls hl => ?_)
              refine lv_iload hx hb d_M_sayGroups_101 (lv_at hl 1 rfl) ?_
              refine lv_if_eq (tgt := 111) hx hb d_M_sayGroups_103 (by decide) (fun c103 => absurd c103 (by decide)) (fun _ => ?_)
              refine lv_iload hx hb d_M_sayGroups_106 (lv_at hl 2 rfl) ?_
              refine lv_goto (tgt := 115) hx hb d_M_sayGroups_108 (by decide) ?_
              refine lv_istore_n (lv' := [(2, .int (nI k)), (3, .int 1), (5, .int 1), (4, .int (nI k)), (0, .ref o), (1, .int (nI n))]) hx hb d_M_sayGroups_115 rfl hl (by decide) rfl (fun ls hl => ?_)
              refine lv_goto (tgt := 4) hx hb d_M_sayGroups_116 (by decide) ?_
              refine lv_iload_n hx hb d_M_sayGroups_4 rfl (lv_at hl 1 rfl) ?_
              refine lv_if_eq (tgt := 119) hx hb d_M_sayGroups_5 (by decide) (fun c5 => absurd c5 (by decide)) (fun _ => ?_)
              have e_len : nB = nA + (k - i + 1) := by have q := congrArg Prod.snd heq; rw [asays_n, asays_n, grp_len, seg_len] at q; exact q
              exact ihz k nB fB (P ++ grp fT i k) 1 H locs ls (by omega) (by omega) (by omega) (hP.sub [0, 1, 2] rfl) (hD.sub [0, 1, 2] (by decide) rfl) hS (lv_sub hl [0, 1, 4, 5] rfl) (by rw [asays_app, ← eP]; exact heq) (by rw [List.append_assoc, ← e0_a bf hge c60]; exact eE) (Or.inl (by omega))
        | succ q ih_inner =>
          intro k5 fB nB H locs ls hk5 hik hB hP hD hS hl heq
          refine lv_iload hx hb d_M_sayGroups_29 (lv_at hl 0 rfl) ?_
          refine lv_iload hx hb d_M_sayGroups_31 (lv_at hl 1 rfl) ?_
          refine lv_icmp_ge (tgt := 53) hx hb d_M_sayGroups_33 (by decide) (fun c33 => absurd c33 (nI_ge (by omega) (by omega))) (fun c33 => ?_)
          have c33 : ¬ k ≤ k5 := fun h => c33 ((nI_leI (by omega) (by omega)).mpr h)
          refine lv_aload_n hx hb d_M_sayGroups_36 rfl (lv_at hl 4 rfl) ?_
          refine lv_aload_n hx hb d_M_sayGroups_37 rfl (lv_at hl 4 rfl) ?_
          refine va_get (D := D) (ci := 5) (v := .ref mt) (C := R_M) (T := F_M) (N := 21) hx hb ht bi_M hown hK hP 0 rfl rfl 1 (by decide) (ht _ bw_408) (fun _ h9 => h9) rfl d_M_sayGroups_38 ?_
          refine lv_iload hx hb d_M_sayGroups_41 (lv_at hl 0 rfl) ?_
          refine va_iald hx hb hK hP 1 0 rfl rfl (vp_in_nI (by omega) (by omega)) d_M_sayGroups_43 ?_
          refine ft_top (congrArg fT (nI_clamp (n := k5) (by omega))) ?_
          refine ft_cv (wc := [(o, .inr (5, [.int th, .ref mt, .int (nI nT), .int lim, .ref mo, .int (nI nO), .ref mf, .int (nI nB), .ref mc, .ref mm, .ref mk, .ref mb, .int lf, .int fl, .ref mu, .int f1, .int f2, .int ck, .ref ml, .ref mg, .ref mx])), (mf, .inl (cI, 900, .inl fB))]) (wr := [(mt, .inl (cI, 400, .inl fT))]) (va_runV (As := [.int (fT k5)]) (rest := []) ⟨hx, hb, hml, hown, ht⟩ (c_M_say l D cI cB o mt mo mf mc mm mk mb mu ml mg mx th lim lf fl f1 f2 ck nT nO nB fB (by omega) (fT k5) H.size) (ft_cwV 1 ht bw_503 bw_505 bw_21 bw_39 bw_506 (by decide) ⟨Nat.le_of_ble_eq_true rfl, Nat.le_of_ble_eq_true rfl⟩) ⟨ft_blind, va_recv hK hP (ci := 5) (q0 := 0) rfl rfl, (ft_pre hP hD hK hNW [0, 2] [0, 1] rfl rfl (by decide) rfl _)⟩ rfl rfl hl.1 rfl (lv_room (Nat.le_of_ble_eq_true rfl)) d_M_sayGroups_44 ⟨Nat.le_of_ble_eq_true rfl, Nat.le_of_ble_eq_true rfl⟩) hP hD hS hA [0, 2] [1] rfl rfl (by decide) (by decide) (fun u_8 H locs hu_8 hP hD hS => ?_)
          obtain ⟨fFs6, nFs6⟩ := u_8
          have e_ns6 : nFs6 = nB + 1 := congrArg Prod.snd hu_8
          have hP : va_P D vwCl [(mt, .inl (cI, 400, .inl fT)), (o, .inr (5, [.int th, .ref mt, .int (nI nT), .int lim, .ref mo, .int (nI nO), .ref mf, .int (nI nFs6), .ref mc, .ref mm, .ref mk, .ref mb, .int lf, .int fl, .ref mu, .int f1, .int f2, .int ck, .ref ml, .ref mg, .ref mx])), (mf, .inl (cI, 900, .inl fFs6))] H := hP
          have hD : va_D A [(mt, .inl (cI, 400, .inl fT)), (o, .inr (5, [.int th, .ref mt, .int (nI nT), .int lim, .ref mo, .int (nI nO), .ref mf, .int (nI nFs6), .ref mc, .ref mm, .ref mk, .ref mb, .int lf, .int fl, .ref mu, .int f1, .int f2, .int ck, .ref ml, .ref mg, .ref mx])), (mf, .inl (cI, 900, .inl fFs6))] := hD
          refine lv_iinc (v := nI (k5 + 1)) (lv' := [(5, .int (nI (k5 + 1))), (4, .int (nI k)), (2, .int (nI i)), (3, .int 1), (0, .ref o), (1, .int (nI n))]) hx hb d_M_sayGroups_47 hl (k := 0) rfl (nI_1 k5) (by decide) rfl (fun ls hl => ?_)
          refine lv_goto (tgt := 29) hx hb d_M_sayGroups_50 (by decide) ?_
          exact ih_inner (k5 + 1) fFs6 nFs6 H locs ls (by omega) (by omega) (by omega) (hP.sub [1, 0, 2] rfl) (hD.sub [1, 0, 2] (by decide) rfl) hS (lv_sub hl [0, 1, 2, 3, 4, 5] rfl) (by rw [hu_8]; exact heq)
      exact inner (k - i) i fFs3 nFs3 H locs ls (by omega) (by omega) (by omega) (hP.sub [1, 0, 2] rfl) (hD.sub [1, 0, 2] (by decide) rfl) hS (lv_sub hl [0, 1, 2, 3, 4, 5] rfl) (by rw [hu_5]; show asays (asay (fA, nA) (nI (1 + k - i))) (seg fT i (k - i)) = asays (asay (fA, nA) (nI (k - i + 1))) (seg fT i (k - i)); rw [show 1 + k - i = k - i + 1 from by omega])
  exact outer (n + 1) 0 nF fF [] 0 s.heap [] ls (by omega) (by omega) (by omega) hP hD hS (lv_sub hl [1, 0, 2, 3] rfl) rfl rfl (Or.inr rfl)
