/-! One way's reader leaves the others' alone. -/
def Same (w : Nat) (a b : MR) : Prop := a.1 w = b.1 w ∧ a.2.1 w = b.2.1 w ∧ (∀ i, i < 400 → a.2.2.1 (400 * w + i) = b.2.2.1 (400 * w + i)) ∧ a.2.2.2.1 w = b.2.2.2.1 w ∧ a.2.2.2.2.1 w = b.2.2.2.2.1 w ∧ a.2.2.2.2.2.1 w = b.2.2.2.2.2.1 w ∧
  (∀ i, i < 400 → a.2.2.2.2.2.2.1 (400 * w + i) = b.2.2.2.2.2.2.1 (400 * w + i)) ∧ ∀ k, 1 ≤ k → k ≤ 3 → a.2.2.2.2.2.2.2.1 (4 * w + k) = b.2.2.2.2.2.2.2.1 (4 * w + k)
theorem Same.rf {w : Nat} (a : MR) : Same w a a := ⟨rfl, rfl, fun _ _ => rfl, rfl, rfl, rfl, fun _ _ => rfl, fun _ _ _ => rfl⟩
theorem Same.tr {w : Nat} {a b c : MR} (h : Same w a b) (k : Same w b c) : Same w a c := ⟨h.1.trans k.1, h.2.1.trans k.2.1, fun i hi => (h.2.2.1 i hi).trans (k.2.2.1 i hi), h.2.2.2.1.trans k.2.2.2.1, h.2.2.2.2.1.trans k.2.2.2.2.1, h.2.2.2.2.2.1.trans k.2.2.2.2.2.1, fun i hi => (h.2.2.2.2.2.2.1 i hi).trans (k.2.2.2.2.2.2.1 i hi), fun i a b => (h.2.2.2.2.2.2.2 i a b).trans (k.2.2.2.2.2.2.2 i a b)⟩
theorem begS0_same {w : Nat} (hw : w ≠ 0) (st : MR) : Same w (begS0 st) st := by
  obtain ⟨cm, mn, kp, bd, tu, la, gd, ct, lf, fl, f1, f2, ck⟩ := st
  exact ⟨va_up_n cm 0 hw, va_up_n mn 0 hw, fun _ _ => rfl, pk_un hw, pk_un hw, rfl, fun _ _ => rfl, fun _ _ _ => rfl⟩
theorem begS1_same {w : Nat} (hw : w ≠ 1) (st : MR) : Same w (begS1 st) st := by
  obtain ⟨cm, mn, kp, bd, tu, la, gd, ct, lf, fl, f1, f2, ck⟩ := st
  exact ⟨va_up_n cm 0 hw, va_up_n mn 0 hw, fun _ _ => rfl, pk_un hw, pk_un hw, rfl, fun _ _ => rfl, fun _ _ _ => rfl⟩
theorem begS2_same {w : Nat} (hw : w ≠ 2) (st : MR) : Same w (begS2 st) st := by
  obtain ⟨cm, mn, kp, bd, tu, la, gd, ct, lf, fl, f1, f2, ck⟩ := st
  exact ⟨va_up_n cm 0 hw, va_up_n mn 0 hw, fun _ _ => rfl, pk_un hw, pk_un hw, rfl, fun _ _ => rfl, fun _ _ _ => rfl⟩
theorem endA_same {w v m : Nat} {vd : Int32} (hw : w ≠ v) (hm : vd = 1 → m ≤ 400) (st : MR) : Same w (endA v m vd st) st := by
  obtain ⟨cm, mn, kp, bd, tu, la, gd, ct, lf, fl, f1, f2, ck⟩ := st
  by_cases q : vd = 1
  · subst q
    rw [endA_1]
    have := hm rfl
    refine ⟨rfl, rfl, fun _ _ => rfl, rfl, rfl, pk_un hw, fun i hi => ?_, fun k h1 h3 => pk_un (by omega)⟩
    show cpG gd kp (400 * v) m (400 * w + i) = gd (400 * w + i)
    unfold cpG
    rw [if_neg (by omega)]
  · by_cases q2 : vd = 2
    · subst q2
      rw [endA_2]
      exact ⟨rfl, rfl, fun _ _ => rfl, rfl, rfl, rfl, fun _ _ => rfl, fun k h1 h3 => pk_un (by omega)⟩
    · have e : endA v m vd (cm, mn, kp, bd, tu, la, gd, ct, lf, fl, f1, f2, ck) = (cm, mn, kp, bd, tu, la, gd, upd ct (4 * v + 3) (ct (4 * v + 3) + 1), lf, fl, f1, f2, ck) := by
        simp only [endA]
        rw [if_neg q, if_neg q2]
      rw [e]
      exact ⟨rfl, rfl, fun _ _ => rfl, rfl, rfl, rfl, fun _ _ => rfl, fun k h1 h3 => pk_un (by omega)⟩
theorem keepM_mn {w v : Nat} (hw : w ≠ v) (b : Int32) (mn : Nat → Nat) (kp : Nat → Int32) : (keepM v b mn kp).1 w = mn w := va_up_n mn _ hw
theorem keepM_kn {w v : Nat} (hw : w ≠ v) (b : Int32) (mn : Nat → Nat) (kp : Nat → Int32) {i : Nat} (hi : i < 400) : (keepM v b mn kp).2 (400 * w + i) = kp (400 * w + i) := by
  show (if mn v < 400 then upd kp (400 * v + mn v) b else kp) (400 * w + i) = _
  split
  · exact pk_un (by omega)
  · rfl
theorem stepM0_same {w : Nat} {b : Int32} (hw : w ≠ 0) (st : MR) : Same w (stepM0 b st) st := by
  obtain ⟨cm, mn, kp, bd, tu, la, gd, ct, lf, fl, f1, f2, ck⟩ := st
  refine ⟨va_up_n cm _ hw, ?_, fun i hi => ?_, rfl, rfl, rfl, fun _ _ => rfl, fun _ _ _ => rfl⟩
  · show (cgM b cm mn kp lf fl).1 w = mn w
    unfold cgM
    split
    · show (if cm 0 = 0 then mn else if fl = 0 then (keepM 0 0 mn kp).1 else mn) w = mn w
      split
      · rfl
      · split
        · exact keepM_mn hw 0 mn kp
        · rfl
    · exact keepM_mn hw b mn kp
  · show (cgM b cm mn kp lf fl).2.1 (400 * w + i) = kp (400 * w + i)
    unfold cgM
    split
    · show (if cm 0 = 0 then kp else if fl = 0 then (keepM 0 0 mn kp).2 else kp) (400 * w + i) = kp (400 * w + i)
      split
      · rfl
      · split
        · exact keepM_kn hw 0 mn kp hi
        · rfl
    · exact keepM_kn hw b mn kp hi
theorem stepM1_same {w : Nat} {b : Int32} (hw : w ≠ 1) (st : MR) : Same w (stepM1 b st) st := by
  obtain ⟨cm, mn, kp, bd, tu, la, gd, ct, lf, fl, f1, f2, ck⟩ := st
  refine ⟨va_up_n cm _ hw, ?_, fun i hi => ?_, ?_, pk_un hw, rfl, fun _ _ => rfl, fun _ _ _ => rfl⟩
  · show (ctM1 b mn kp bd tu).1 w = mn w
    unfold ctM1
    split
    · exact keepM_mn hw _ mn kp
    · rfl
  · show (ctM1 b mn kp bd tu).2 (400 * w + i) = kp (400 * w + i)
    unfold ctM1
    split
    · exact keepM_kn hw _ mn kp hi
    · rfl
  · show itB1 b bd tu w = bd w
    unfold itB1
    split
    · rfl
    · exact pk_un hw
theorem stepM2_same {w : Nat} {b : Int32} (hw : w ≠ 2) (st : MR) : Same w (stepM2 b st) st := by
  obtain ⟨cm, mn, kp, bd, tu, la, gd, ct, lf, fl, f1, f2, ck⟩ := st
  refine ⟨va_up_n cm _ hw, ?_, fun i hi => ?_, ?_, pk_un hw, rfl, fun _ _ => rfl, fun _ _ _ => rfl⟩
  · show (ctM2 b mn kp bd tu f1 f2 ck).1 w = mn w
    unfold ctM2
    split
    · exact va_up_n mn _ hw
    · rfl
  · show (ctM2 b mn kp bd tu f1 f2 ck).2.1 (400 * w + i) = kp (400 * w + i)
    unfold ctM2
    split
    · show (if mn 2 < 2 then kp else if mn 2 - 2 < 400 then upd kp (800 + mn 2 - 2) f1 else kp) (400 * w + i) = kp (400 * w + i)
      split
      · rfl
      · split
        · exact pk_un (by omega)
        · rfl
    · rfl
  · show itB2 b bd tu w = bd w
    unfold itB2
    split
    · rfl
    · exact pk_un hw
theorem takeM0_same {w C : Nat} {lim b : Int32} {mr : MR} (hw : w ≠ 0) (hb : BN 0 C mr) (hC : C < 1073741824) (hl : lim ≤ 400) : Same w (takeM0 lim b mr).2 mr := by
  unfold takeM0
  split
  · obtain ⟨cm, mn, kp, bd, tu, la, gd, ct, lf, fl, f1, f2, ck⟩ := mr
    have hm : mn 0 ≤ C := hb.2.1
    show Same w (begS0 (endA 0 (mn 0) (vrd (so0 cm lf) (nI (mn 0)) lim) (cm, mn, kp, bd, tu, la, gd, ct, lf, fl, f1, f2, ck))) _
    exact (begS0_same hw _).tr (endA_same hw (fun z => le400 (by omega) (vrd_1 z).2 hl) _)
  · split
    · exact (stepM0_same hw _).tr (begS0_same hw _)
    · exact stepM0_same hw _
theorem takeM1_same {w C : Nat} {lim b : Int32} {mr : MR} (hw : w ≠ 1) (hb : BN 1 C mr) (hC : C < 1073741824) (hl : lim ≤ 400) : Same w (takeM1 lim b mr).2 mr := by
  unfold takeM1
  split
  · split
    · exact Same.rf mr
    · obtain ⟨cm, mn, kp, bd, tu, la, gd, ct, lf, fl, f1, f2, ck⟩ := mr
      have hm : mn 1 ≤ C := hb.2.1
      show Same w (begS1 (endA 1 (mn 1) (vrd (so1 bd tu) (nI (mn 1)) lim) (cm, mn, kp, bd, tu, la, gd, ct, lf, fl, f1, f2, ck))) _
      exact (begS1_same hw _).tr (endA_same hw (fun z => le400 (by omega) (vrd_1 z).2 hl) _)
  · split
    · exact (stepM1_same hw _).tr (begS1_same hw _)
    · exact stepM1_same hw _
theorem takeM2_same {w C : Nat} {lim b : Int32} {mr : MR} (hw : w ≠ 2) (hb : BN 2 C mr) (hC : C < 1073741824) (hl : lim ≤ 400) : Same w (takeM2 lim b mr).2 mr := by
  unfold takeM2
  split
  · split
    · exact Same.rf mr
    · obtain ⟨cm, mn, kp, bd, tu, la, gd, ct, lf, fl, f1, f2, ck⟩ := mr
      have hm : mn 2 ≤ C := hb.2.1
      show Same w (begS2 (endA 2 (mn 2 - 2) (vrd (so2 mn bd tu f1 f2 ck) (nI (mn 2) - 2) lim) (cm, mn, kp, bd, tu, la, gd, ct, lf, fl, f1, f2, ck))) _
      refine (begS2_same hw _).tr (endA_same hw (fun z => ?_) _)
      obtain ⟨z1, z2⟩ := vrd_1 z
      have z3 := so2_gt z1
      rw [show nI (mn 2) - 2 = nI (mn 2 - 2) from pk_sub (a := mn 2) (b := 2) (by omega)] at z2
      exact le400 (by omega) z2 hl
  · split
    · exact (stepM2_same hw _).tr (begS2_same hw _)
    · exact stepM2_same hw _
def Lf (a b : MR) : Prop := a.2.2.2.2.2.2.2.2.1 = b.2.2.2.2.2.2.2.2.1 ∧ a.2.2.2.2.2.2.2.2.2.1 = b.2.2.2.2.2.2.2.2.2.1
def Fc (a b : MR) : Prop := a.2.2.2.2.2.2.2.2.2.2.1 = b.2.2.2.2.2.2.2.2.2.2.1 ∧ a.2.2.2.2.2.2.2.2.2.2.2.1 = b.2.2.2.2.2.2.2.2.2.2.2.1 ∧ a.2.2.2.2.2.2.2.2.2.2.2.2 = b.2.2.2.2.2.2.2.2.2.2.2.2
theorem endA_lf (v m : Nat) (vd : Int32) (st : MR) : Lf (endA v m vd st) st ∧ Fc (endA v m vd st) st := by
  obtain ⟨cm, mn, kp, bd, tu, la, gd, ct, lf, fl, f1, f2, ck⟩ := st
  simp only [endA]
  split
  · exact ⟨⟨rfl, rfl⟩, rfl, rfl, rfl⟩
  · split
    · exact ⟨⟨rfl, rfl⟩, rfl, rfl, rfl⟩
    · exact ⟨⟨rfl, rfl⟩, rfl, rfl, rfl⟩
theorem takeM0_fc {lim b : Int32} (mr : MR) : Fc (takeM0 lim b mr).2 mr := by
  obtain ⟨cm, mn, kp, bd, tu, la, gd, ct, lf, fl, f1, f2, ck⟩ := mr
  unfold takeM0
  split
  · have h := (endA_lf 0 (mn 0) (vrd (so0 cm lf) (nI (mn 0)) lim) (cm, mn, kp, bd, tu, la, gd, ct, lf, fl, f1, f2, ck)).2
    show Fc (begS0 (endA 0 (mn 0) (vrd (so0 cm lf) (nI (mn 0)) lim) (cm, mn, kp, bd, tu, la, gd, ct, lf, fl, f1, f2, ck))) _
    generalize endA 0 (mn 0) (vrd (so0 cm lf) (nI (mn 0)) lim) (cm, mn, kp, bd, tu, la, gd, ct, lf, fl, f1, f2, ck) = E at h ⊢
    obtain ⟨cm', mn', kp', bd', tu', la', gd', ct', lf', fl', f1', f2', ck'⟩ := E
    exact h
  · split
    · exact ⟨rfl, rfl, rfl⟩
    · exact ⟨rfl, rfl, rfl⟩
theorem takeM1_fx {lim b : Int32} (mr : MR) : Lf (takeM1 lim b mr).2 mr ∧ Fc (takeM1 lim b mr).2 mr := by
  obtain ⟨cm, mn, kp, bd, tu, la, gd, ct, lf, fl, f1, f2, ck⟩ := mr
  unfold takeM1
  split
  · split
    · exact ⟨⟨rfl, rfl⟩, rfl, rfl, rfl⟩
    · have h := endA_lf 1 (mn 1) (vrd (so1 bd tu) (nI (mn 1)) lim) (cm, mn, kp, bd, tu, la, gd, ct, lf, fl, f1, f2, ck)
      show Lf (begS1 (endA 1 (mn 1) (vrd (so1 bd tu) (nI (mn 1)) lim) (cm, mn, kp, bd, tu, la, gd, ct, lf, fl, f1, f2, ck))) _ ∧ Fc (begS1 (endA 1 (mn 1) (vrd (so1 bd tu) (nI (mn 1)) lim) (cm, mn, kp, bd, tu, la, gd, ct, lf, fl, f1, f2, ck))) _
      generalize endA 1 (mn 1) (vrd (so1 bd tu) (nI (mn 1)) lim) (cm, mn, kp, bd, tu, la, gd, ct, lf, fl, f1, f2, ck) = E at h ⊢
      obtain ⟨cm', mn', kp', bd', tu', la', gd', ct', lf', fl', f1', f2', ck'⟩ := E
      exact h
  · split
    · exact ⟨⟨rfl, rfl⟩, rfl, rfl, rfl⟩
    · exact ⟨⟨rfl, rfl⟩, rfl, rfl, rfl⟩
theorem takeM2_lf {lim b : Int32} (mr : MR) : Lf (takeM2 lim b mr).2 mr := by
  obtain ⟨cm, mn, kp, bd, tu, la, gd, ct, lf, fl, f1, f2, ck⟩ := mr
  unfold takeM2
  split
  · split
    · exact ⟨rfl, rfl⟩
    · have h := (endA_lf 2 (mn 2 - 2) (vrd (so2 mn bd tu f1 f2 ck) (nI (mn 2) - 2) lim) (cm, mn, kp, bd, tu, la, gd, ct, lf, fl, f1, f2, ck)).1
      show Lf (begS2 (endA 2 (mn 2 - 2) (vrd (so2 mn bd tu f1 f2 ck) (nI (mn 2) - 2) lim) (cm, mn, kp, bd, tu, la, gd, ct, lf, fl, f1, f2, ck))) _
      generalize endA 2 (mn 2 - 2) (vrd (so2 mn bd tu f1 f2 ck) (nI (mn 2) - 2) lim) (cm, mn, kp, bd, tu, la, gd, ct, lf, fl, f1, f2, ck) = E at h ⊢
      obtain ⟨cm', mn', kp', bd', tu', la', gd', ct', lf', fl', f1', f2', ck'⟩ := E
      exact h
  · split
    · exact ⟨rfl, rfl⟩
    · exact ⟨rfl, rfl⟩
theorem KeptR.cg {kept : RS} {hk la la' : Int32} {gd gd' : Nat → Int32} {off : Nat} (h : KeptR kept hk la gd off) (hl : la' = la) (hg : ∀ i, i < 400 → gd' (off + i) = gd (off + i)) : KeptR kept hk la' gd' off := by
  subst hl
  exact ⟨h.1, h.2.1, fun i hi => (h.2.2 i hi).trans (hg i (Nat.lt_of_lt_of_le hi h.1)).symm⟩
theorem TalR.cg {ta ct ct' : Nat → Int32} {o : Nat} (h : TalR ta ct o) (hc : ∀ k, 1 ≤ k → k ≤ 3 → ct' (o + k) = ct (o + k)) : TalR ta ct' o :=
  ⟨h.1.trans (hc 1 (by omega) (by omega)).symm, h.2.1.trans (hc 2 (by omega) (by omega)).symm, h.2.2.trans (hc 3 (by omega) (by omega)).symm⟩
theorem PayR.cg {pay : RS} {m m' : Nat} {kp kp' : Nat → Int32} {off : Nat} (h : PayR pay m kp off) (hm : m' = m) (hk : ∀ i, i < 400 → kp' (off + i) = kp (off + i)) : PayR pay m' kp' off := by
  subst hm
  exact ⟨h.1, h.2.1, fun i hi => (h.2.2 i hi).trans (hk i (by omega)).symm⟩
theorem RG.cg {st : CS × Int32 × Int32} {a b : MR} (h : RG st a) (hs : Same 0 b a) (hx : Lf b a) : RG st b := by
  obtain ⟨s1, s2, s3, s4, s5, s6, s7, s8⟩ := hs
  obtain ⟨h1, h2, h3, h4⟩ := h
  refine ⟨h1.cg s6 s7, h2.cg s8, h3, ?_⟩
  rcases h4 with ⟨a1, a2⟩ | ⟨a1, a2, a3, a4, a5, a6⟩
  · exact Or.inl ⟨s1.trans a1, a2⟩
  · exact Or.inr ⟨by rw [s1]; exact a1, a2, a3, by rw [hx.1]; exact a4, by rw [hx.2]; exact a5, a6.cg s2 s3⟩
theorem RE.cg {st : CS × Int32} {a b : MR} (h : RE st a) (hs : Same 1 b a) : RE st b := by
  obtain ⟨s1, s2, s3, s4, s5, s6, s7, s8⟩ := hs
  obtain ⟨h1, h2, h4⟩ := h
  refine ⟨h1.cg s6 s7, h2.cg s8, ?_⟩
  rcases h4 with ⟨a1, a2⟩ | ⟨a1, a2, a3⟩
  · exact Or.inl ⟨s1.trans a1, a2⟩
  · refine Or.inr ⟨by rw [s1]; exact a1, a2, ?_⟩
    rcases a3 with ⟨c1, c2⟩ | ⟨c1, c2, c3, c4⟩
    · exact Or.inl ⟨c1, by rw [s4]; exact c2⟩
    · exact Or.inr ⟨c1, s4.trans c2, by rw [s5]; exact c3, c4.cg s2 s3⟩
theorem RC.cg {st : CS × Int32 × Int32 × Int32 × Int32 × Int32} {a b : MR} (h : RC st a) (hs : Same 2 b a) (hx : Fc b a) : RC st b := by
  obtain ⟨s1, s2, s3, s4, s5, s6, s7, s8⟩ := hs
  obtain ⟨x1, x2, x3⟩ := hx
  obtain ⟨h1, h2, h4⟩ := h
  refine ⟨h1.cg s6 s7, h2.cg s8, ?_⟩
  rcases h4 with ⟨a1, a2⟩ | ⟨a1, a2, a3⟩
  · exact Or.inl ⟨s1.trans a1, a2⟩
  · refine Or.inr ⟨by rw [s1]; exact a1, a2, ?_⟩
    rcases a3 with ⟨c1, c2⟩ | ⟨c1, c2, d1, d2, d3, d4, d5, d6, d7⟩
    · exact Or.inl ⟨c1, by rw [s4]; exact c2⟩
    · exact Or.inr ⟨c1, s4.trans c2, by rw [s5]; exact d1, by rw [x3]; exact d2, d3, by rw [s2]; exact d4, by rw [s2, x2]; exact d5, by rw [s2, x1]; exact d6, d7.cg (by rw [s2]) s3⟩
theorem BN.cg {w C : Nat} {a b : MR} (h : BN w C a) (hs : Same w b a) : BN w C b := ⟨by rw [hs.1]; exact h.1, by rw [hs.2.1]; exact h.2.1, by rw [hs.2.2.2.2.1]; exact h.2.2⟩
/-- all three readers beside the reference's, at most C bytes a chunk -/
def RR (C : Nat) (g : CS × Int32 × Int32) (e : CS × Int32) (c : CS × Int32 × Int32 × Int32 × Int32 × Int32) (mr : MR) : Prop := RG g mr ∧ RE e mr ∧ RC c mr ∧ BN 0 C mr ∧ BN 1 C mr ∧ BN 2 C mr
section RRS
variable {C : Nat} {g : CS × Int32 × Int32} {e : CS × Int32} {c : CS × Int32 × Int32 × Int32 × Int32 × Int32} {mr : MR} {lim b : Int32}
theorem RR.upto {D : Nat} (h : RR C g e c mr) (hD : C ≤ D) : RR D g e c mr := by
  obtain ⟨h1, h2, h3, h4, h5, h6⟩ := h
  exact ⟨h1, h2, h3, ⟨Nat.le_trans h4.1 hD, Nat.le_trans h4.2.1 hD, h4.2.2⟩, ⟨Nat.le_trans h5.1 hD, Nat.le_trans h5.2.1 hD, h5.2.2⟩, ⟨Nat.le_trans h6.1 hD, Nat.le_trans h6.2.1 hD, h6.2.2⟩⟩
theorem RR0 (h : RR C g e c mr) (hC : C < 1073741824) (hl : lim ≤ 400) : (takeG lim b g).1 = (takeM0 lim b mr).1 ∧ RR (C + 1) (takeG lim b g).2 e c (takeM0 lim b mr).2 := by
  obtain ⟨h1, h2, h3, h4, h5, h6⟩ := h
  obtain ⟨k1, k2⟩ := takeG_sim (b := b) h1 h4 hC hl
  have s1 := takeM0_same (b := b) (w := 1) (by decide) h4 hC hl
  have s2 := takeM0_same (b := b) (w := 2) (by decide) h4 hC hl
  exact ⟨k1, k2, h2.cg s1, h3.cg s2 (takeM0_fc mr), takeM0_bn h4, (h5.cg s1).up, (h6.cg s2).up⟩
theorem RR1 (h : RR C g e c mr) (hC : C < 1073741824) (hl : lim ≤ 400) : (takeE lim b e).1 = (takeM1 lim b mr).1 ∧ RR (C + 1) g (takeE lim b e).2 c (takeM1 lim b mr).2 := by
  obtain ⟨h1, h2, h3, h4, h5, h6⟩ := h
  obtain ⟨k1, k2⟩ := takeE_sim (b := b) h2 h5 hC hl
  have s0 := takeM1_same (b := b) (w := 0) (by decide) h5 hC hl
  have s2 := takeM1_same (b := b) (w := 2) (by decide) h5 hC hl
  exact ⟨k1, h1.cg s0 (takeM1_fx mr).1, k2, h3.cg s2 (takeM1_fx mr).2, (h4.cg s0).up, takeM1_bn h5, (h6.cg s2).up⟩
theorem RR2 (h : RR C g e c mr) (hC : C < 1073741824) (hl : lim ≤ 400) (hb : IsB b) : (takeC lim b c).1 = (takeM2 lim b mr).1 ∧ RR (C + 1) g e (takeC lim b c).2 (takeM2 lim b mr).2 := by
  obtain ⟨h1, h2, h3, h4, h5, h6⟩ := h
  obtain ⟨k1, k2⟩ := takeC_sim (b := b) h3 h6 hC hl hb
  have s0 := takeM2_same (b := b) (w := 0) (by decide) h6 hC hl
  have s1 := takeM2_same (b := b) (w := 1) (by decide) h6 hC hl
  exact ⟨k1, h1.cg s0 (takeM2_lf mr), h2.cg s1, k2, (h4.cg s0).up, (h5.cg s1).up, takeM2_bn h6⟩
end RRS
theorem drn_sim {σ : Type} {tk : Int32 → σ → Int32 × σ} {tm : Int32 → MR → Int32 × MR} {I : Nat → σ → MR → Prop} (hs : ∀ (C : Nat) (st : σ) (mr : MR) (b : Int32), I C st mr → C < 1073741824 → IsB b → (tk b st).1 = (tm b mr).1 ∧ I (C + 1) (tk b st).2 (tm b mr).2) {f g : Nat → Int32} :
    ∀ (n i C : Nat) (good : Int32) (st : σ) (mr : MR), I C st mr → C + n ≤ 1073741824 → (∀ j, j < i + n → f j = g j ∧ IsB (g j)) → (drn tk f n i good st).1 = (drn tm g n i good mr).1 ∧ I (C + n) (drn tk f n i good st).2 (drn tm g n i good mr).2 := by
  intro n
  induction n with
  | zero => intro i C good st mr h _ _; exact ⟨rfl, h⟩
  | succ n ih =>
    intro i C good st mr h hC hf
    obtain ⟨e, hb⟩ := hf i (by omega)
    obtain ⟨k1, k2⟩ := hs C st mr (g i) h (by omega) hb
    show (drn tk f n (i + 1) (if (tk (f i) st).1 = 1 then good + 1 else good) (tk (f i) st).2).1 = (drn tm g n (i + 1) (if (tm (g i) mr).1 = 1 then good + 1 else good) (tm (g i) mr).2).1 ∧ I (C + (n + 1)) (drn tk f n (i + 1) (if (tk (f i) st).1 = 1 then good + 1 else good) (tk (f i) st).2).2 (drn tm g n (i + 1) (if (tm (g i) mr).1 = 1 then good + 1 else good) (tm (g i) mr).2).2
    rw [e, k1, show C + (n + 1) = C + 1 + n from by omega]
    exact ih (i + 1) (C + 1) _ _ _ k2 (by omega) (fun j hj => hf j (by omega))
section OPS
variable {C : Nat} {g : CS × Int32 × Int32} {e : CS × Int32} {c : CS × Int32 × Int32 × Int32 × Int32 × Int32} {mr : MR} {lim : Int32}
theorem come_sim (h : RR C g e c mr) (hC : C < 1073741824) (hl : lim ≤ 400) (way b : Int32) : (comeX lim way b g e c).1 = (comeM lim way b mr).1 ∧ RR (C + 1) (comeX lim way b g e c).2.1 (comeX lim way b g e c).2.2.1 (comeX lim way b g e c).2.2.2 (comeM lim way b mr).2 := by
  unfold comeX comeM
  by_cases w0 : way = 0
  · rw [if_pos w0, if_pos w0]; exact RR0 h hC hl
  · rw [if_neg w0, if_neg w0]
    by_cases w1 : way = 1
    · rw [if_pos w1, if_pos w1]; exact RR1 h hC hl
    · rw [if_neg w1, if_neg w1]
      by_cases w2 : way = 2
      · rw [if_pos w2, if_pos w2]; exact RR2 h hC hl (isB_and b)
      · rw [if_neg w2, if_neg w2]; exact ⟨rfl, h.upto (Nat.le_succ C)⟩
theorem dr_sim {N n z : Nat} {r y : RS} {f : Nat → Int32} (h : RR C g e c mr) (ht : TR N r f n) (hC : C + n ≤ 1073741824) (hl : lim ≤ 400) (way : Int32) :
    (drX y r lim way g e c).1 = (drM z n f lim way mr).1 ∧ RR (C + n) (drX y r lim way g e c).2.2.1 (drX y r lim way g e c).2.2.2.1 (drX y r lim way g e c).2.2.2.2 (drM z n f lim way mr).2.2 ∧
    (((way = 0 ∨ way = 1 ∨ way = 2) ∧ (drX y r lim way g e c).2.1 = rcut0 r ∧ (drM z n f lim way mr).2.1 = 0) ∨ (¬ (way = 0 ∨ way = 1 ∨ way = 2) ∧ (drX y r lim way g e c).2.1 = y ∧ (drM z n f lim way mr).2.1 = z)) := by
  obtain ⟨t1, t2, t3⟩ := ht
  unfold drX drM
  rw [t1]
  have hf : ∀ j, j < 0 + n → r.1 j = f j ∧ IsB (f j) := fun j hj => t3 j (by omega)
  by_cases w0 : way = 0
  · rw [if_pos w0, if_pos w0]
    obtain ⟨k1, k2⟩ := drn_sim (tk := takeG lim) (tm := takeM0 lim) (I := fun C st mr => RR C st e c mr) (fun C st mr b a q _ => RR0 a q hl) n 0 C 0 g mr h hC hf
    exact ⟨k1, k2, Or.inl ⟨Or.inl w0, rfl, rfl⟩⟩
  · rw [if_neg w0, if_neg w0]
    by_cases w1 : way = 1
    · rw [if_pos w1, if_pos w1]
      obtain ⟨k1, k2⟩ := drn_sim (tk := takeE lim) (tm := takeM1 lim) (I := fun C st mr => RR C g st c mr) (fun C st mr b a q _ => RR1 a q hl) n 0 C 0 e mr h hC hf
      exact ⟨k1, k2, Or.inl ⟨Or.inr (Or.inl w1), rfl, rfl⟩⟩
    · rw [if_neg w1, if_neg w1]
      by_cases w2 : way = 2
      · rw [if_pos w2, if_pos w2]
        obtain ⟨k1, k2⟩ := drn_sim (tk := takeC lim) (tm := takeM2 lim) (I := fun C st mr => RR C g e st mr) (fun C st mr b a q hb => RR2 a q hl hb) n 0 C 0 c mr h hC hf
        exact ⟨k1, k2, Or.inl ⟨Or.inr (Or.inr w2), rfl, rfl⟩⟩
      · rw [if_neg w2, if_neg w2]
        exact ⟨rfl, h.upto (by omega), Or.inr ⟨fun q => q.elim w0 (fun q => q.elim w1 w2), rfl, rfl⟩⟩
end OPS
theorem lim_le {most n : Int32} (h : most ≤ 400) : (limX most n).2 ≤ 400 := by
  unfold limX
  split
  · exact h
  · split
    · assumption
    · exact h
theorem lat_v {kept : RS} {hk la : Int32} {gd : Nat → Int32} {off : Nat} (h : KeptR kept hk la gd off) : latV hk kept = la := by
  obtain ⟨h1, h2, h3⟩ := h
  unfold latV
  rcases h2 with ⟨rfl, a, b⟩ | ⟨rfl, a⟩
  · rw [if_pos rfl, b]
  · rw [if_neg (by decide), a]
theorem lat_le {kept : RS} {hk la : Int32} {gd : Nat → Int32} {off : Nat} (h : KeptR kept hk la gd off) : la ≤ 400 := by
  obtain ⟨h1, h2, h3⟩ := h
  rcases h2 with ⟨rfl, a, b⟩ | ⟨rfl, a⟩
  · rw [b]; decide
  · rw [a]; show nI kept.2.1 ≤ nI 400; exact nI_le h1 (by omega)
theorem lat_at {kept : RS} {hk : Int32} {la gd : Nat → Int32} {w : Nat} (h : KeptR kept hk (la w) gd (400 * w)) (i : Int32) : rat kept i = latM la gd w i := by
  obtain ⟨h1, h2, h3⟩ := h
  by_cases q : i < 0
  · have hr : rhas kept.2.1 i = 0 := by unfold rhas; rw [if_neg (show ¬ ¬ i < 0 from fun z => z q)]
    unfold rat latM
    rw [if_pos hr, if_pos q]
  · by_cases z : nI kept.2.1 ≤ i
    · have hr : rhas kept.2.1 i = 0 := by unfold rhas; rw [if_pos q, if_pos z]
      have hla : la w ≤ i := by
        rcases h2 with ⟨_, a, b⟩ | ⟨_, a⟩
        · rw [b]
          obtain ⟨j, hj, rfl⟩ := nI_of q
          exact Int32.le_trans (by decide : (-1 : Int32) ≤ 0) (nI_pos' hj)
        · rw [a]; exact z
      unfold rat latM
      rw [if_pos hr, if_neg q, if_pos hla]
    · have hr : ¬ rhas kept.2.1 i = 0 := by unfold rhas; rw [if_pos q, if_neg z]; decide
      obtain ⟨j, hj, rfl⟩ := nI_of q
      have hjn : j < kept.2.1 := by
        rcases Nat.lt_or_ge j kept.2.1 with y | y
        · exact y
        · exact absurd (nI_le y hj) z
      have hla : ¬ la w ≤ nI j := by
        rcases h2 with ⟨_, a, b⟩ | ⟨_, a⟩
        · omega
        · rw [a]; exact z
      unfold rat latM
      rw [if_neg hr, if_neg q, if_neg hla, nI_clamp hj]
      exact h3 j hjn
theorem cnt_v {ta ct : Nat → Int32} {w : Nat} (h : TalR ta ct (4 * w)) (k : Int32) : tal ta k = cntM ct w k := by
  obtain ⟨h1, h2, h3⟩ := h
  unfold tal cntM
  by_cases q : k < 1
  · rw [if_pos q, if_pos q]
  · rw [if_neg q, if_neg q]
    by_cases z : 3 < k
    · rw [if_pos z, if_pos z]
    · rw [if_neg z, if_neg z]
      obtain ⟨j, hj, rfl⟩ := vp_in_of (tal_in q z) (by omega)
      rw [nI_clamp (by omega)]
      rcases (show j = 0 ∨ j = 1 ∨ j = 2 ∨ j = 3 by omega) with rfl | rfl | rfl | rfl
      · exact absurd (by decide : nI 0 < 1) q
      · exact h1
      · exact h2
      · exact h3
