theorem itT_01 (w : Nat) (sg b : Int32) (tu : Nat → Int32) : itT w sg b tu w = 0 ∨ itT w sg b tu w = 1 := by
  unfold itT
  rw [pk_us]
  split
  · split
    · exact Or.inr rfl
    · exact Or.inl rfl
  · exact Or.inl rfl
theorem va_up_s {α : Type} (f : Nat → α) (k : Nat) (v : α) : va_up f k v k = v := if_pos rfl
theorem va_up_n {α : Type} (f : Nat → α) {k j : Nat} (v : α) (h : j ≠ k) : va_up f k v j = f j := if_neg h
theorem keepM_m (w : Nat) (b : Int32) (mn : Nat → Nat) (kp : Nat → Int32) : (keepM w b mn kp).1 w = mn w + 1 := va_up_s mn w _
/-- what a reader of way w keeps: its numbers grow by at most one a byte, 'turns' stays 0 or 1 -/
def BN (w C : Nat) (st : MR) : Prop := st.1 w ≤ C ∧ st.2.1 w ≤ C ∧ (st.2.2.2.2.1 w = 0 ∨ st.2.2.2.2.1 w = 1)
theorem begS0_bn {C : Nat} (st : MR) : BN 0 C (begS0 st) := by
  obtain ⟨cm, mn, kp, bd, tu, la, gd, ct, lf, fl, f1, f2, ck⟩ := st
  exact ⟨by show va_up cm 0 0 0 ≤ C; rw [va_up_s]; omega, by show va_up mn 0 0 0 ≤ C; rw [va_up_s]; omega, Or.inl (by simp [begS0, begS1, begS2, upd])⟩
theorem begS1_bn {C : Nat} (st : MR) : BN 1 C (begS1 st) := by
  obtain ⟨cm, mn, kp, bd, tu, la, gd, ct, lf, fl, f1, f2, ck⟩ := st
  exact ⟨by show va_up cm 1 0 1 ≤ C; rw [va_up_s]; omega, by show va_up mn 1 0 1 ≤ C; rw [va_up_s]; omega, Or.inl (by simp [begS0, begS1, begS2, upd])⟩
theorem begS2_bn {C : Nat} (st : MR) : BN 2 C (begS2 st) := by
  obtain ⟨cm, mn, kp, bd, tu, la, gd, ct, lf, fl, f1, f2, ck⟩ := st
  exact ⟨by show va_up cm 2 0 2 ≤ C; rw [va_up_s]; omega, by show va_up mn 2 0 2 ≤ C; rw [va_up_s]; omega, Or.inl (by simp [begS0, begS1, begS2, upd])⟩
theorem stepM0_bn {C : Nat} {b : Int32} {st : MR} (h : BN 0 C st) : BN 0 (C + 1) (stepM0 b st) := by
  obtain ⟨cm, mn, kp, bd, tu, la, gd, ct, lf, fl, f1, f2, ck⟩ := st
  obtain ⟨h1, h2, h3⟩ := h
  have h1 : cm 0 ≤ C := h1
  have h2 : mn 0 ≤ C := h2
  refine ⟨by show va_up cm 0 (cm 0 + 1) 0 ≤ C + 1; rw [va_up_s]; omega, ?_, h3⟩
  show (cgM b cm mn kp lf fl).1 0 ≤ C + 1
  unfold cgM
  split
  · show (if cm 0 = 0 then mn else if fl = 0 then (keepM 0 0 mn kp).1 else mn) 0 ≤ C + 1
    split
    · omega
    · split
      · rw [keepM_m]; omega
      · omega
  · show (keepM 0 b mn kp).1 0 ≤ C + 1
    rw [keepM_m]; omega
theorem stepM1_bn {C : Nat} {b : Int32} {st : MR} (h : BN 1 C st) : BN 1 (C + 1) (stepM1 b st) := by
  obtain ⟨cm, mn, kp, bd, tu, la, gd, ct, lf, fl, f1, f2, ck⟩ := st
  obtain ⟨h1, h2, h3⟩ := h
  have h1 : cm 1 ≤ C := h1
  have h2 : mn 1 ≤ C := h2
  refine ⟨by show va_up cm 1 (cm 1 + 1) 1 ≤ C + 1; rw [va_up_s]; omega, ?_, itT_01 1 219 b tu⟩
  show (ctM1 b mn kp bd tu).1 1 ≤ C + 1
  unfold ctM1
  split
  · rw [keepM_m]; omega
  · show mn 1 ≤ C + 1; omega
theorem stepM2_bn {C : Nat} {b : Int32} {st : MR} (h : BN 2 C st) : BN 2 (C + 1) (stepM2 b st) := by
  obtain ⟨cm, mn, kp, bd, tu, la, gd, ct, lf, fl, f1, f2, ck⟩ := st
  obtain ⟨h1, h2, h3⟩ := h
  have h1 : cm 2 ≤ C := h1
  have h2 : mn 2 ≤ C := h2
  refine ⟨by show va_up cm 2 (cm 2 + 1) 2 ≤ C + 1; rw [va_up_s]; omega, ?_, itT_01 2 125 b tu⟩
  show (ctM2 b mn kp bd tu f1 f2 ck).1 2 ≤ C + 1
  unfold ctM2
  split
  · show va_up mn 2 (mn 2 + 1) 2 ≤ C + 1; rw [va_up_s]; omega
  · show mn 2 ≤ C + 1; omega
theorem BN.up {w C : Nat} {st : MR} (h : BN w C st) : BN w (C + 1) st := ⟨Nat.le_succ_of_le h.1, Nat.le_succ_of_le h.2.1, h.2.2⟩
theorem takeM0_bn {C : Nat} {lim b : Int32} {st : MR} (h : BN 0 C st) : BN 0 (C + 1) (takeM0 lim b st).2 := by
  unfold takeM0
  split
  · obtain ⟨cm, mn, kp, bd, tu, la, gd, ct, lf, fl, f1, f2, ck⟩ := st
    exact begS0_bn _
  · split
    · exact stepM0_bn (begS0_bn st)
    · exact stepM0_bn h
theorem takeM1_bn {C : Nat} {lim b : Int32} {st : MR} (h : BN 1 C st) : BN 1 (C + 1) (takeM1 lim b st).2 := by
  unfold takeM1
  split
  · split
    · exact h.up
    · obtain ⟨cm, mn, kp, bd, tu, la, gd, ct, lf, fl, f1, f2, ck⟩ := st
      exact begS1_bn _
  · split
    · exact stepM1_bn (begS1_bn st)
    · exact stepM1_bn h
theorem takeM2_bn {C : Nat} {lim b : Int32} {st : MR} (h : BN 2 C st) : BN 2 (C + 1) (takeM2 lim b st).2 := by
  unfold takeM2
  split
  · split
    · exact h.up
    · obtain ⟨cm, mn, kp, bd, tu, la, gd, ct, lf, fl, f1, f2, ck⟩ := st
      exact begS2_bn _
  · split
    · exact stepM2_bn (begS2_bn st)
    · exact stepM2_bn h
