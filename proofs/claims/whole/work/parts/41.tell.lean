/-! Class and reference: tell. -/
theorem seg_congr (f g : Nat → Int32) : ∀ (n i : Nat), (∀ j, i ≤ j → j < i + n → f j = g j) → seg f i n = seg g i n
  | 0, _, _ => rfl
  | n + 1, i, h => by
    show f i :: seg f (i + 1) n = g i :: seg g (i + 1) n
    rw [h i (Nat.le_refl i) (by omega), seg_congr f g n (i + 1) (fun j a b => h j (by omega) (by omega))]
theorem grp_congr {f g : Nat → Int32} {i k n : Nat} (hk : k ≤ n) (h : ∀ j, j < n → f j = g j) : grp f i k = grp g i k := by
  unfold grp
  rw [seg_congr f g (k - i) i (fun j a b => h j (by omega))]
theorem e0_congr {f g : Nat → Int32} {len : Nat} (h : ∀ j, j < len → f j = g j) : ∀ (k i st : Nat) (bf : Int32), i + k = len → e0 f len k i st bf = e0 g len k i st bf := by
  intro k
  induction k with
  | zero =>
    intro i st bf hi
    show (if st < len ∨ bf = 0 then grp f st len else []) ++ [0] = (if st < len ∨ bf = 0 then grp g st len else []) ++ [0]
    rw [grp_congr (Nat.le_refl len) h]
  | succ k ih =>
    intro i st bf hi
    show (if f i = 0 then grp f st i ++ e0 f len k (i + 1) (i + 1) 0 else if i + 1 - st = 254 then grp f st (i + 1) ++ e0 f len k (i + 1) (i + 1) 1 else e0 f len k (i + 1) st bf) = (if g i = 0 then grp g st i ++ e0 g len k (i + 1) (i + 1) 0 else if i + 1 - st = 254 then grp g st (i + 1) ++ e0 g len k (i + 1) (i + 1) 1 else e0 g len k (i + 1) st bf)
    rw [h i (by omega), grp_congr (i := st) (k := i) (by omega) h, grp_congr (i := st) (k := i + 1) (by omega) h, ih (i + 1) (i + 1) 0 (by omega), ih (i + 1) (i + 1) 1 (by omega), ih (i + 1) st bf (by omega)]
theorem e1_congr {f g : Nat → Int32} {len : Nat} (h : ∀ j, j < len → f j = g j) : ∀ (k i : Nat), i + k = len → e1 f k i = e1 g k i
  | 0, _, _ => rfl
  | k + 1, i, hi => by
    show wb1 (f i) ++ e1 f k (i + 1) = wb1 (g i) ++ e1 g k (i + 1)
    rw [h i (by omega), e1_congr h k (i + 1) (by omega)]
theorem e2_sim {f g : Nat → Int32} {len : Nat} (h : ∀ j, j < len → f j = g j ∧ IsB (g j)) : ∀ (k i : Nat) (c : Int32), i + k = len → IsW c → e2 f k i c = e2M g k i c
  | 0, _, c, _, hc => by
    show wb2 ((c ^^^ 65535) &&& 255) ++ (wb2 (ft_ushr (c ^^^ 65535) 8) ++ [126]) = wb2 ((c ^^^ (-1)) &&& 255) ++ (wb2 ((c ^^^ (-1)) >>> ((8 : Int32) &&& 31) &&& 255) ++ [126])
    rw [inv_lo, inv_hi hc]
  | k + 1, i, c, hi, hc => by
    show wb2 (f i) ++ e2 f k (i + 1) (crcB c (f i)) = wb2 (g i) ++ e2M g k (i + 1) (chkB c (g i))
    obtain ⟨e, hb⟩ := h i (by omega)
    obtain ⟨e2, hw⟩ := crc_sim hc hb
    rw [e, e2_sim h k (i + 1) (crcB c (g i)) (by omega) hw, e2]
theorem seg_isB {f : Nat → Int32} : ∀ (n i : Nat), (∀ j, i ≤ j → j < i + n → IsB (f j)) → ∀ b ∈ seg f i n, IsB b
  | 0, _, _, b, hb => by cases hb
  | n + 1, i, h, b, hb => by
    rcases List.mem_cons.mp hb with rfl | hb
    · exact h i (Nat.le_refl i) (by omega)
    · exact seg_isB n (i + 1) (fun j a c => h j (by omega) (by omega)) b hb
theorem grp_isB {f : Nat → Int32} {i k n : Nat} (hk : k ≤ n) (h254 : k - i ≤ 254) (h : ∀ j, j < n → IsB (f j)) : ∀ b ∈ grp f i k, IsB b := by
  intro b hb
  rcases List.mem_cons.mp hb with rfl | hb
  · exact isB_lit (by omega)
  · exact seg_isB (k - i) i (fun j a c => h j (by omega)) b hb
theorem isB_0 : IsB 0 := ⟨0, by decide, rfl⟩
theorem e0_isB {f : Nat → Int32} {len : Nat} (h : ∀ j, j < len → IsB (f j)) : ∀ (k i st : Nat) (bf : Int32), i + k = len → st ≤ i → i - st < 254 → ∀ b ∈ e0 f len k i st bf, IsB b := by
  intro k
  induction k with
  | zero =>
    intro i st bf hi hs h254 b hb
    have hb : b ∈ (if st < len ∨ bf = 0 then grp f st len else []) ++ [0] := hb
    rcases List.mem_append.mp hb with hb | hb
    · split at hb
      · exact grp_isB (Nat.le_refl len) (by omega) h b hb
      · cases hb
    · rcases List.mem_cons.mp hb with rfl | hb
      · exact isB_0
      · cases hb
  | succ k ih =>
    intro i st bf hi hs h254 b hb
    have hb : b ∈ (if f i = 0 then grp f st i ++ e0 f len k (i + 1) (i + 1) 0 else if i + 1 - st = 254 then grp f st (i + 1) ++ e0 f len k (i + 1) (i + 1) 1 else e0 f len k (i + 1) st bf) := hb
    split at hb
    · rcases List.mem_append.mp hb with hb | hb
      · exact grp_isB (n := len) (by omega) (by omega) h b hb
      · exact ih (i + 1) (i + 1) 0 (by omega) (by omega) (by omega) b hb
    · split at hb
      · rcases List.mem_append.mp hb with hb | hb
        · exact grp_isB (n := len) (by omega) (by omega) h b hb
        · exact ih (i + 1) (i + 1) 1 (by omega) (by omega) (by omega) b hb
      · exact ih (i + 1) st bf (by omega) (by omega) (by omega) b hb
theorem wb1_isB {b : Int32} (h : IsB b) : ∀ c ∈ wb1 b, IsB c := by
  intro c hc
  unfold wb1 at hc
  split at hc
  · simp only [List.mem_cons, List.not_mem_nil, or_false] at hc
    rcases hc with rfl | rfl
    · exact ⟨219, by decide, by decide⟩
    · exact ⟨220, by decide, by decide⟩
  · split at hc
    · simp only [List.mem_cons, List.not_mem_nil, or_false] at hc
      rcases hc with rfl | rfl
      · exact ⟨219, by decide, by decide⟩
      · exact ⟨221, by decide, by decide⟩
    · simp only [List.mem_cons, List.not_mem_nil, or_false] at hc
      subst hc; exact h
theorem wb2_isB {b : Int32} (h : IsB b) : ∀ c ∈ wb2 b, IsB c := by
  intro c hc
  have h32 : IsB 32 := ⟨32, by decide, by decide⟩
  have h125 : IsB 125 := ⟨125, by decide, by decide⟩
  unfold wb2 at hc
  split at hc
  · simp only [List.mem_cons, List.not_mem_nil, or_false] at hc
    rcases hc with rfl | rfl
    · exact h125
    · exact h.xor h32
  · split at hc
    · simp only [List.mem_cons, List.not_mem_nil, or_false] at hc
      rcases hc with rfl | rfl
      · exact h125
      · exact h.xor h32
    · simp only [List.mem_cons, List.not_mem_nil, or_false] at hc
      subst hc; exact h
theorem e1_isB {f : Nat → Int32} {len : Nat} (h : ∀ j, j < len → IsB (f j)) : ∀ (k i : Nat), i + k = len → ∀ b ∈ e1 f k i, IsB b
  | 0, _, _, b, hb => by
    have hb : b ∈ [(192 : Int32)] := hb
    simp only [List.mem_cons, List.not_mem_nil, or_false] at hb
    subst hb; exact ⟨192, by decide, by decide⟩
  | k + 1, i, hi, b, hb => by
    rcases List.mem_append.mp (show b ∈ wb1 (f i) ++ e1 f k (i + 1) from hb) with hb | hb
    · exact wb1_isB (h i (by omega)) b hb
    · exact e1_isB h k (i + 1) (by omega) b hb
theorem e2_isB {f : Nat → Int32} {len : Nat} (h : ∀ j, j < len → IsB (f j)) : ∀ (k i : Nat) (c : Int32), i + k = len → IsW c → ∀ b ∈ e2 f k i c, IsB b
  | 0, _, c, _, hc, b, hb => by
    rcases List.mem_append.mp (show b ∈ wb2 ((c ^^^ 65535) &&& 255) ++ (wb2 (ft_ushr (c ^^^ 65535) 8) ++ [126]) from hb) with hb | hb
    · exact wb2_isB (isB_and _) b hb
    · rcases List.mem_append.mp hb with hb | hb
      · exact wb2_isB (isB_hi hc) b hb
      · simp only [List.mem_cons, List.not_mem_nil, or_false] at hb
        subst hb; exact ⟨126, by decide, by decide⟩
  | k + 1, i, c, hi, hc, b, hb => by
    rcases List.mem_append.mp (show b ∈ wb2 (f i) ++ e2 f k (i + 1) (crcB c (f i)) from hb) with hb | hb
    · exact wb2_isB (h i (by omega)) b hb
    · exact e2_isB h k (i + 1) _ (by omega) (crc_sim hc (h i (by omega))).2 b hb
theorem AppTo.same {f g h : Nat → Int32} {n : Nat} {L : List Int32} (a : AppTo f n L g) (b : AppTo f n L h) : ∀ i, i < n + L.length → g i = h i := by
  intro i hi
  rcases Nat.lt_or_ge i n with q | q
  · rw [a.1 i q, b.1 i q]
  · obtain ⟨k, rfl⟩ : ∃ k, i = n + k := ⟨i - n, by omega⟩
    rw [a.2 k (by omega), b.2 k (by omega)]
theorem rput_pre {N : Nat} {r : RS} {b : Int32} : (∀ i, i < r.2.1 → (rput N r b).1 i = r.1 i) ∧ r.2.1 ≤ (rput N r b).2.1 := by
  unfold rput
  split
  · exact ⟨fun i hi => pk_un (by omega), Nat.le_succ _⟩
  · exact ⟨fun i hi => rfl, Nat.le_refl _⟩
theorem rputs_pre {N : Nat} : ∀ (L : List Int32) (r : RS), (∀ i, i < r.2.1 → (rputs N r L).1 i = r.1 i) ∧ r.2.1 ≤ (rputs N r L).2.1 := by
  intro L
  induction L with
  | nil => intro r; exact ⟨fun i hi => rfl, Nat.le_refl _⟩
  | cons b L ih =>
    intro r
    obtain ⟨h1, h2⟩ := rput_pre (N := N) (r := r) (b := b)
    obtain ⟨h3, h4⟩ := ih (rput N r b)
    exact ⟨fun i hi => (h3 i (by omega)).trans (h1 i hi), Nat.le_trans h2 h4⟩
theorem rputs_sp {N : Nat} : ∀ (L : List Int32) (r : RS), r.2.2 = 1 → (rputs N r L).2.2 = 1 := by
  intro L
  induction L with
  | nil => intro r h; exact h
  | cons b L ih =>
    intro r h
    refine ih (rput N r b) ?_
    unfold rput
    split
    · exact h
    · rfl
theorem rputs_over {N : Nat} : ∀ (L : List Int32) (r : RS), r.2.1 ≤ N → ¬ r.2.1 + L.length ≤ N → (rputs N r L).2.2 = 1 := by
  intro L
  induction L with
  | nil => intro r h h2; exact absurd h h2
  | cons b L ih =>
    intro r h h2
    have hl : (b :: L).length = L.length + 1 := rfl
    by_cases q : r.2.1 < N
    · refine ih (rput N r b) (rput_le h) ?_
      have e : (rput N r b).2.1 = r.2.1 + 1 := by unfold rput; rw [if_pos q]
      omega
    · refine rputs_sp L (rput N r b) ?_
      unfold rput; rw [if_neg q]
theorem wfr_fit {stream : RS} {fO gO : Nat → Int32} {nO : Nat} {L : List Int32} (h : TR 2000 stream fO nO) (h0 : stream.2.2 = 0) (hL : ∀ b ∈ L, IsB b) (hn : nO + L.length ≤ 2000) (hg : AppTo fO nO L gO) :
    wfr stream L = (1, rputs 2000 stream L) ∧ TR 2000 (rputs 2000 stream L) gO (nO + L.length) ∧ (rputs 2000 stream L).2.2 = 0 := by
  obtain ⟨h1, h2⟩ := TR_puts L h hn hL
  have e0 : (rputs 2000 stream L).2.2 = 0 := h2.trans h0
  refine ⟨by unfold wfr; rw [if_pos e0], ?_, e0⟩
  obtain ⟨a1, a2, a3⟩ := h1
  have en : (asays (fO, nO) L).2 = nO + L.length := asays_n L (fO, nO)
  rw [en] at a1 a2 a3
  refine ⟨a1, a2, fun i hi => ?_⟩
  rw [hg.same (asays_get L fO nO) i hi]
  exact a3 i hi
theorem wfr_over {stream : RS} {fO : Nat → Int32} {nO : Nat} {L : List Int32} (h : TR 2000 stream fO nO) (hn : ¬ nO + L.length ≤ 2000) :
    (wfr stream L).1 = 0 ∧ TR 2000 (wfr stream L).2 fO nO ∧ (wfr stream L).2.2.2 = 0 := by
  obtain ⟨a1, a2, a3⟩ := h
  have e1 : (rputs 2000 stream L).2.2 = 1 := rputs_over L stream (by omega) (by omega)
  obtain ⟨p1, p2⟩ := rputs_pre (N := 2000) L stream
  have e : wfr stream L = (0, ((rputs 2000 stream L).1, nO, 0)) := by
    unfold wfr
    rw [if_neg (by rw [e1]; decide)]
    unfold rcut
    rw [if_pos p2, a1]
  rw [e]
  refine ⟨rfl, ⟨rfl, a2, fun i hi => ?_⟩, rfl⟩
  show (rputs 2000 stream L).1 i = fO i ∧ IsB (fO i)
  rw [p1 i (by omega)]
  exact a3 i hi
/-- what class and reference have behind a tell -/
def TellS (x : Int32 × RS × RS) (fT : Nat → Int32) (v : Int32) (gO : Nat → Int32) (mO : Nat) : Prop := x.1 = v ∧ TR 400 x.2.1 fT 0 ∧ TR 2000 x.2.2 gO mO ∧ x.2.2.2.2 = 0
theorem tellW_sim {tape stream : RS} {fT fO gO : Nat → Int32} {nT nO mO : Nat} {lim way emp v : Int32} {L : List Int32} (hT : TR 400 tape fT nT) (hS : TR 2000 stream fO nO) (h0 : stream.2.2 = 0) (hL : ∀ b ∈ L, IsB b)
    (hw : way = 0 ∨ way = 1 ∨ way = 2) (he : encM fT nT way = L) (hz : emp = 0 ↔ ¬ way = 0) (hr : tellR fT nT lim way fO nO v gO mO) : TellS (tellW emp L tape stream lim) fT v gO mO := by
  obtain ⟨r1, r2⟩ := hr
  rw [he] at r1 r2
  have et := hT.1
  have no : ¬ tellC way lim nT nO L.length → TellS ((-1), rcut0 tape, stream) fT v gO mO := by
    intro q
    obtain ⟨rfl, rfl, rfl⟩ := r2 q
    exact ⟨rfl, TR_cut0 hT, hS, h0⟩
  unfold tellW
  by_cases q1 : lim < nI nT
  · rw [if_pos (by unfold mayT; rw [et, if_pos q1])]
    exact no (fun z => absurd q1 z.2.1)
  · by_cases q2 : nT = 0 ∧ emp = 0
    · rw [if_pos (by unfold mayT; rw [et, if_neg q1, if_pos q2.1]; exact q2.2)]
      exact no (fun z => z.2.2.1.elim (fun z => absurd z (hz.mp q2.2)) (fun z => absurd q2.1 z))
    · have hok : way = 0 ∨ ¬ nT = 0 := by
        by_cases z : nT = 0
        · left
          by_cases y : way = 0
          · exact y
          · exact absurd ⟨z, hz.mpr y⟩ q2
        · exact Or.inr z
      have hm : ¬ mayT emp tape lim = 0 := by
        unfold mayT
        rw [et, if_neg q1]
        split
        · rename_i z
          exact fun y => q2 ⟨z, y⟩
        · decide
      rw [if_neg hm]
      by_cases q3 : nO + L.length ≤ 2000
      · obtain ⟨b1, b2, b3⟩ := r1 ⟨hw, q1, hok, q3⟩
        obtain ⟨c1, c2, c3⟩ := wfr_fit hS h0 hL q3 b3
        rw [c1]
        show TellS (if (1 : Int32) = 0 then _ else (nI (rputs 2000 stream L).2.1, rcut0 tape, rputs 2000 stream L)) fT v gO mO
        rw [if_neg (by decide)]
        refine ⟨?_, TR_cut0 hT, by rw [b2]; exact c2, c3⟩
        show nI (rputs 2000 stream L).2.1 = v
        rw [c2.1, b1]
      · obtain ⟨c1, c2, c3⟩ := wfr_over (L := L) hS q3
        rw [if_pos c1]
        obtain ⟨rfl, rfl, rfl⟩ := r2 (fun z => q3 z.2.2.2)
        exact ⟨rfl, TR_cut0 hT, c2, c3⟩
theorem tell_sim {tape stream : RS} {fT fO gO : Nat → Int32} {nT nO mO : Nat} {lim way v : Int32} (hT : TR 400 tape fT nT) (hS : TR 2000 stream fO nO) (h0 : stream.2.2 = 0) (hr : tellR fT nT lim way fO nO v gO mO) : TellS (tellX tape stream lim way) fT v gO mO := by
  have e1 := hT.1
  have hf : ∀ j, j < nT → tape.1 j = fT j := fun j hj => (hT.2.2 j hj).1
  have hb : ∀ j, j < nT → IsB (tape.1 j) := fun j hj => by rw [hf j hj]; exact (hT.2.2 j hj).2
  have hfb : ∀ j, j < nT → tape.1 j = fT j ∧ IsB (fT j) := fun j hj => hT.2.2 j hj
  unfold tellX
  rw [e1]
  by_cases w0 : way = 0
  · subst w0
    rw [if_pos rfl]
    exact tellW_sim hT hS h0 (e0_isB hb nT 0 0 0 (by omega) (by omega) (by omega)) (Or.inl rfl) (by rw [encM_0, e0_congr hf nT 0 0 0 (by omega)]) (by decide) hr
  · rw [if_neg w0]
    by_cases w1 : way = 1
    · subst w1
      rw [if_pos rfl]
      exact tellW_sim hT hS h0 (e1_isB hb nT 0 (by omega)) (Or.inr (Or.inl rfl)) (by rw [encM_1, e1_congr hf nT 0 (by omega)]) (by decide) hr
    · rw [if_neg w1]
      by_cases w2 : way = 2
      · subst w2
        rw [if_pos rfl]
        exact tellW_sim hT hS h0 (e2_isB hb nT 0 65535 (by omega) isW_65535) (Or.inr (Or.inr rfl)) (by rw [encM_2, e2_sim hfb nT 0 65535 (by omega) isW_65535]) (by decide) hr
      · rw [if_neg w2]
        obtain ⟨rfl, rfl, rfl⟩ := hr.2 (fun z => z.1.elim w0 (fun z => z.elim w1 w2))
        exact ⟨rfl, TR_cut0 hT, hS, h0⟩
