/-! The law's loop: what holds at its head. -/
def LE2 (s : CS) : Prop := s.1.2.1 ≤ 400 ∧ s.2.1.2.1 ≤ 400
def Rel (C : Nat) (tape stream : RS) (most : Int32) (g : CS × Int32 × Int32) (e : CS × Int32) (c : CS × Int32 × Int32 × Int32 × Int32 × Int32) (fT : Nat → Int32) (nT : Nat) (fO : Nat → Int32) (nO : Nat) (lim : Int32) (mr : MR) : Prop :=
  TR 400 tape fT nT ∧ TR 2000 stream fO nO ∧ stream.2.2 = 0 ∧ most = lim ∧ lim ≤ 400 ∧ RR C g e c mr ∧ LE2 g.1 ∧ LE2 e.1 ∧ LE2 c.1
theorem drn_inv {σ : Type} {tk : Int32 → σ → Int32 × σ} {I : σ → Prop} (hs : ∀ (b : Int32) (st : σ), I st → I (tk b st).2) {f : Nat → Int32} : ∀ (n i : Nat) (good : Int32) (st : σ), I st → I (drn tk f n i good st).2 := by
  intro n
  induction n with
  | zero => intro i good st h; exact h
  | succ n ih => intro i good st h; exact ih (i + 1) _ _ (hs _ _ h)
section LES
variable {g : CS × Int32 × Int32} {e : CS × Int32} {c : CS × Int32 × Int32 × Int32 × Int32 × Int32} {lim : Int32}
theorem come_le (hg : LE2 g.1) (he : LE2 e.1) (hc : LE2 c.1) (way b : Int32) : LE2 (comeX lim way b g e c).2.1.1 ∧ LE2 (comeX lim way b g e c).2.2.1.1 ∧ LE2 (comeX lim way b g e c).2.2.2.1 := by
  unfold comeX
  split
  · exact ⟨takeG_le hg.1 hg.2, he, hc⟩
  · split
    · exact ⟨hg, takeE_le he.1 he.2, hc⟩
    · split
      · exact ⟨hg, he, takeC_le hc.1 hc.2⟩
      · exact ⟨hg, he, hc⟩
theorem dr_le {y r : RS} (hg : LE2 g.1) (he : LE2 e.1) (hc : LE2 c.1) (way : Int32) : LE2 (drX y r lim way g e c).2.2.1.1 ∧ LE2 (drX y r lim way g e c).2.2.2.1.1 ∧ LE2 (drX y r lim way g e c).2.2.2.2.1 := by
  unfold drX
  split
  · exact ⟨drn_inv (tk := takeG lim) (I := fun st => LE2 st.1) (fun b st h => takeG_le h.1 h.2) _ _ _ g hg, he, hc⟩
  · split
    · exact ⟨hg, drn_inv (tk := takeE lim) (I := fun st => LE2 st.1) (fun b st h => takeE_le h.1 h.2) _ _ _ e he, hc⟩
    · split
      · exact ⟨hg, he, drn_inv (tk := takeC lim) (I := fun st => LE2 st.1) (fun b st h => takeC_le h.1 h.2) _ _ _ c hc⟩
      · exact ⟨hg, he, hc⟩
end LES
theorem law_in {L i : Nat} (hL : L ≤ 3072) (hi : i ≤ L) (h : ¬ nI L - 6 < nI i) : i + 6 ≤ L := by
  have q : (nI L - nI 6).toInt = (L : Int) - 6 := pk_sub_toInt (by omega) (by omega)
  have q2 : ¬ (nI L - nI 6).toInt < (nI i).toInt := fun z => h (Int32.lt_iff_toInt_lt.mpr z)
  rw [q, nI_toInt (by omega)] at q2
  omega
theorem RR.c {C : Nat} {g : CS × Int32 × Int32} {e : CS × Int32} {c : CS × Int32 × Int32 × Int32 × Int32 × Int32} {mr : MR} (h : RR C g e c mr) (hC : C < 536870912) : (∀ w, w < 3 → mr.1 w < 536870912) ∧ (∀ w, w < 3 → mr.2.1 w < 536870912) ∧ ∀ w, w < 3 → (mr.2.2.2.2.1 w = 0 ∨ mr.2.2.2.2.1 w = 1) := by
  obtain ⟨_, _, _, h0, h1, h2⟩ := h
  refine ⟨fun w hw => ?_, fun w hw => ?_, fun w hw => ?_⟩
  · rcases (show w = 0 ∨ w = 1 ∨ w = 2 by omega) with rfl | rfl | rfl
    · exact Nat.lt_of_le_of_lt h0.1 hC
    · exact Nat.lt_of_le_of_lt h1.1 hC
    · exact Nat.lt_of_le_of_lt h2.1 hC
  · rcases (show w = 0 ∨ w = 1 ∨ w = 2 by omega) with rfl | rfl | rfl
    · exact Nat.lt_of_le_of_lt h0.2.1 hC
    · exact Nat.lt_of_le_of_lt h1.2.1 hC
    · exact Nat.lt_of_le_of_lt h2.2.1 hC
  · rcases (show w = 0 ∨ w = 1 ∨ w = 2 by omega) with rfl | rfl | rfl
    · exact h0.2.2
    · exact h1.2.2
    · exact h2.2.2
theorem RR.la {C : Nat} {g : CS × Int32 × Int32} {e : CS × Int32} {c : CS × Int32 × Int32 × Int32 × Int32 × Int32} {mr : MR} (h : RR C g e c mr) : ∀ w, w < 3 → mr.2.2.2.2.2.1 w ≤ 400 := by
  obtain ⟨h0, h1, h2, _⟩ := h
  intro w hw
  rcases (show w = 0 ∨ w = 1 ∨ w = 2 by omega) with rfl | rfl | rfl
  · exact lat_le h0.1
  · exact lat_le h1.1
  · exact lat_le h2.1
