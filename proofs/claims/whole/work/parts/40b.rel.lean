/-! Class and reference: tape, written bytes. -/
def IsB (x : Int32) : Prop := ∃ k : Nat, k < 256 ∧ x = nI k
def IsW (x : Int32) : Prop := ∃ k : Nat, k < 65536 ∧ x = nI k
theorem IsB.w {x : Int32} (h : IsB x) : IsW x := by
  obtain ⟨k, h, e⟩ := h
  exact ⟨k, by omega, e⟩
theorem isB_and (x : Int32) : IsB (x &&& 255) := by
  obtain ⟨j, h, e⟩ := pk_andE x (m := 255) 8 (by decide)
  exact ⟨j, h, e⟩
theorem isB_lit {k : Nat} (h : k < 256) : IsB (nI k) := ⟨k, h, rfl⟩
theorem IsB.xor {x y : Int32} (hx : IsB x) (hy : IsB y) : IsB (x ^^^ y) := by
  obtain ⟨a, ha, rfl⟩ := hx
  obtain ⟨b, hb, rfl⟩ := hy
  rw [nx_xor]
  exact ⟨_, Nat.xor_lt_two_pow (n := 8) ha hb, rfl⟩
theorem IsW.xor {x y : Int32} (hx : IsW x) (hy : IsW y) : IsW (x ^^^ y) := by
  obtain ⟨a, ha, rfl⟩ := hx
  obtain ⟨b, hb, rfl⟩ := hy
  rw [nx_xor]
  exact ⟨_, Nat.xor_lt_two_pow (n := 16) ha hb, rfl⟩
theorem sh_eq (n : Nat) (hn : n ≤ 24) (x : Int32) : x >>> (nI n &&& 31) &&& 255 = ft_ushr x (nI n) &&& 255 := by
  apply b_ext
  intro i hi
  rw [b_and, b_and, b_255, b_sshr n (by omega) x hi]
  show _ = (bt ((x.toUInt32 >>> ((nI n).toUInt32 &&& Int32.toUInt32 31)).toInt32) i && _)
  rw [b_ushr n (by omega)]
  rcases Nat.lt_or_ge i 8 with h | h
  · rw [if_pos (by omega)]
  · simp [Nat.not_lt.mpr h]
theorem by4_eq (x : Int32) : by4M x = by4 x := by
  show [x >>> (nI 24 &&& 31) &&& 255, x >>> (nI 16 &&& 31) &&& 255, x >>> (nI 8 &&& 31) &&& 255, x >>> (nI 0 &&& 31) &&& 255] = _
  rw [sh_eq 24 (by omega), sh_eq 16 (by omega), sh_eq 8 (by omega), sh_eq 0 (by omega)]
  rfl
theorem by4_isB (x : Int32) : ∀ b ∈ by4 x, IsB b := by
  intro b hb
  unfold by4 at hb
  simp only [List.mem_cons, List.not_mem_nil, or_false] at hb
  rcases hb with rfl | rfl | rfl | rfl <;> exact isB_and _
/-- a row of the class holds what the reference's array holds, n bytes -/
def TR (N : Nat) (r : RS) (f : Nat → Int32) (n : Nat) : Prop := r.2.1 = n ∧ n ≤ N ∧ ∀ i, i < n → r.1 i = f i ∧ IsB (f i)
theorem TR_put {N n : Nat} {r : RS} {f : Nat → Int32} {b : Int32} (h : TR N r f n) (hn : n < N) (hb : IsB b) : TR N (rput N r b) (upd f n b) (n + 1) ∧ (rput N r b).2.2 = r.2.2 := by
  obtain ⟨h1, h2, h3⟩ := h
  have e : rput N r b = (upd r.1 n b, n + 1, r.2.2) := by unfold rput; rw [if_pos (by omega), h1]
  rw [e]
  refine ⟨⟨rfl, by omega, fun i hi => ?_⟩, rfl⟩
  show upd r.1 n b i = upd f n b i ∧ IsB (upd f n b i)
  by_cases q : i = n
  · subst q; rw [pk_us, pk_us]; exact ⟨rfl, hb⟩
  · rw [pk_un q, pk_un q]; exact h3 i (by omega)
theorem TR_puts {N : Nat} : ∀ (L : List Int32) {r : RS} {f : Nat → Int32} {n : Nat}, TR N r f n → n + L.length ≤ N → (∀ b ∈ L, IsB b) → TR N (rputs N r L) (asays (f, n) L).1 (asays (f, n) L).2 ∧ (rputs N r L).2.2 = r.2.2 := by
  intro L
  induction L with
  | nil => intro r f n h _ _; exact ⟨h, rfl⟩
  | cons b L ih =>
    intro r f n h hn hb
    have hl : (b :: L).length = L.length + 1 := rfl
    obtain ⟨h1, h2⟩ := TR_put (b := b) h (by omega) (hb b List.mem_cons_self)
    obtain ⟨h3, h4⟩ := ih h1 (by omega) (fun c hc => hb c (List.mem_cons_of_mem _ hc))
    exact ⟨h3, h4.trans h2⟩
theorem TR_4 {r : RS} {a : AS} (h : TR 400 r a.1 a.2) (hn : a.2 + 4 ≤ 400) (x : Int32) : TR 400 (rputs 400 r (by4 x)) (asays a (by4M x)).1 (asays a (by4M x)).2 ∧ (asays a (by4M x)).2 = a.2 + 4 := by
  obtain ⟨f, n⟩ := a
  rw [by4_eq]
  exact ⟨(TR_puts (by4 x) h hn (by4_isB x)).1, asays_n (by4 x) (f, n)⟩
theorem feed_sim {tape : RS} {fT : Nat → Int32} {nT : Nat} (h : TR 400 tape fT nT) (a b c d e : Int32) : (feedX tape a b c d e).1 = (feedM (fT, nT) a b c d e).1 ∧ TR 400 (feedX tape a b c d e).2 (feedM (fT, nT) a b c d e).2.1 (feedM (fT, nT) a b c d e).2.2 := by
  have e1 := h.1
  unfold feedX feedM
  by_cases q : 380 < nT
  · rw [if_pos (by omega), if_pos (show 380 < (fT, nT).2 from q)]; exact ⟨rfl, h⟩
  · rw [if_neg (by omega), if_neg (show ¬ 380 < (fT, nT).2 from q)]
    have q0 : (fT, nT).2 = nT := rfl
    generalize hm : ((fT, nT) : AS) = m0 at q0 ⊢
    have h0 : TR 400 tape m0.1 m0.2 := by rw [← hm]; exact h
    obtain ⟨h1, n1⟩ := TR_4 h0 (by omega) a
    generalize rputs 400 tape (by4 a) = r1 at h1 ⊢
    generalize asays m0 (by4M a) = m1 at h1 n1 ⊢
    obtain ⟨h2, n2⟩ := TR_4 h1 (by omega) b
    generalize rputs 400 r1 (by4 b) = r2 at h2 ⊢
    generalize asays m1 (by4M b) = m2 at h2 n2 ⊢
    obtain ⟨h3, n3⟩ := TR_4 h2 (by omega) c
    generalize rputs 400 r2 (by4 c) = r3 at h3 ⊢
    generalize asays m2 (by4M c) = m3 at h3 n3 ⊢
    obtain ⟨h4, n4⟩ := TR_4 h3 (by omega) d
    generalize rputs 400 r3 (by4 d) = r4 at h4 ⊢
    generalize asays m3 (by4M d) = m4 at h4 n4 ⊢
    obtain ⟨h5, n5⟩ := TR_4 h4 (by omega) e
    exact ⟨rfl, h5⟩
theorem TR_cut {N n j : Nat} {r : RS} {f : Nat → Int32} (h : TR N r f n) (hj : j ≤ n) : TR N (rcut r j) f j ∧ (rcut r j).2.2 = 0 := by
  obtain ⟨h1, h2, h3⟩ := h
  have e : rcut r j = (r.1, j, 0) := by unfold rcut; rw [if_pos (by omega)]
  rw [e]
  exact ⟨⟨rfl, by omega, fun i hi => h3 i (by omega)⟩, rfl⟩
theorem TR_cut0 {N n : Nat} {r : RS} {f : Nat → Int32} (h : TR N r f n) : TR N (rcut0 r) f 0 := ⟨rfl, Nat.zero_le N, fun i hi => absurd hi (Nat.not_lt_zero i)⟩
theorem end_sim {tape : RS} {fT : Nat → Int32} {nT : Nat} (h : TR 400 tape fT nT) (n : Int32) : (endX tape n).1 = (endM nT n).1 ∧ TR 400 (endX tape n).2 fT (endM nT n).2 := by
  have e1 := h.1
  have e2 := h.2.1
  unfold endX endM
  rw [e1]
  by_cases q : n < 0
  · rw [if_pos q, if_pos q]; exact ⟨rfl, h⟩
  · rw [if_neg q, if_neg q]
    by_cases q2 : n ≤ nI nT
    · rw [if_pos q2, if_pos q2]
      refine ⟨rfl, (TR_cut h ?_).1⟩
      obtain ⟨j, hj, rfl⟩ := nI_of q
      rw [nI_clamp hj]
      exact (nI_leI hj (by omega)).mp q2
    · rw [if_neg q2, if_neg q2]; exact ⟨rfl, h⟩
theorem rat_sim {N n : Nat} {r : RS} {f : Nat → Int32} (h : TR N r f n) (hN : N < 2 ^ 31) (i : Int32) : rat r i = rat (f, n, 0) i := by
  obtain ⟨h1, h2, h3⟩ := h
  unfold rat
  rw [h1]
  by_cases q : rhas n i = 0
  · rw [if_pos q, if_pos (show rhas (f, n, (0 : Int32)).2.1 i = 0 from q)]
  · rw [if_neg q, if_neg (show ¬ rhas (f, n, (0 : Int32)).2.1 i = 0 from q)]
    obtain ⟨j, hj, rfl⟩ := rhas_nat q (by omega)
    rw [nI_clamp (by omega)]
    exact (h3 j hj).1
theorem spoil_sim {N n : Nat} {r : RS} {f : Nat → Int32} (h : TR N r f n) (hN : N < 2 ^ 31) (i k : Int32) : TR N (rturn r i (k &&& 255)) (rturn (f, n, 0) i (k &&& 255)).1 n ∧ (rturn r i (k &&& 255)).2.2 = r.2.2 := by
  obtain ⟨h1, h2, h3⟩ := h
  unfold rturn
  rw [h1]
  by_cases q : rhas n i = 0
  · rw [if_pos q, if_pos (show rhas (f, n, (0 : Int32)).2.1 i = 0 from q)]; exact ⟨⟨h1, h2, h3⟩, rfl⟩
  · rw [if_neg q, if_neg (show ¬ rhas (f, n, (0 : Int32)).2.1 i = 0 from q)]
    obtain ⟨j, hj, rfl⟩ := rhas_nat q (by omega)
    rw [nI_clamp (by omega)]
    refine ⟨⟨rfl, h2, fun a ha => ?_⟩, rfl⟩
    show upd r.1 j (r.1 j ^^^ (k &&& 255)) a = upd f j (f j ^^^ (k &&& 255)) a ∧ IsB (upd f j (f j ^^^ (k &&& 255)) a)
    by_cases z : a = j
    · subst z
      rw [pk_us, pk_us, (h3 a ha).1]
      exact ⟨rfl, (h3 a ha).2.xor (isB_and k)⟩
    · rw [pk_un z, pk_un z]; exact h3 a ha
/-! the check -/
theorem crc1_nI {k : Nat} (hk : k < 65536) : ∃ j, j < 65536 ∧ crc1 (nI k) = nI j ∧ chk1 (nI k) = nI j := by
  have ha : nI k &&& 1 = nI (k % 2) := pk_andN (by omega) (m := 1) 1 (by decide)
  have hu : ft_ushr (nI k) 1 = nI (k / 2) := by
    show ((nI k).toUInt32 >>> ((1 : Int32).toUInt32 &&& Int32.toUInt32 31)).toInt32 = _
    exact pk_ushrN (by omega) 1 1 (by decide)
  have hs : nI k >>> ((1 : Int32) &&& 31) = nI (k / 2) := pk_shrN (by omega) ((1 : Int32) &&& 31) 1 (by decide)
  unfold crc1 chk1
  rw [ha, hu, hs]
  rcases Nat.mod_two_eq_zero_or_one k with q | q
  · rw [q, if_pos (show nI 0 = 0 from rfl), if_neg (show ¬ nI 0 = 1 from by decide)]
    exact ⟨k / 2, by omega, rfl, rfl⟩
  · rw [q, if_neg (show ¬ nI 1 = 0 from by decide), if_pos (show nI 1 = 1 from rfl)]
    have e : (33800 : Int32) = nI 33800 := by decide
    rw [e, nx_xor]
    exact ⟨_, Nat.xor_lt_two_pow (n := 16) (by show k / 2 < 65536; omega) (by decide), rfl, rfl⟩
theorem crcN_nI : ∀ (n : Nat) {k : Nat}, k < 65536 → ∃ j, j < 65536 ∧ crcN n (nI k) = nI j ∧ chkN n (nI k) = nI j
  | 0, k, h => ⟨k, h, rfl, rfl⟩
  | n + 1, k, h => by
    obtain ⟨j, hj, e1, e2⟩ := crcN_nI n h
    obtain ⟨i, hi, e3, e4⟩ := crc1_nI hj
    exact ⟨i, hi, by show crc1 (crcN n (nI k)) = _; rw [e1, e3], by show chk1 (chkN n (nI k)) = _; rw [e2, e4]⟩
theorem crc_sim {c b : Int32} (hc : IsW c) (hb : IsB b) : crcB c b = chkB c b ∧ IsW (crcB c b) := by
  obtain ⟨k, hk, e⟩ := hc.xor hb.w
  unfold crcB chkB
  rw [e]
  obtain ⟨j, hj, e1, e2⟩ := crcN_nI 8 hk
  exact ⟨e1.trans e2.symm, j, hj, e1⟩
theorem isW_65535 : IsW 65535 := ⟨65535, by decide, by decide⟩
/-- all bits turned, the lowest sixteen: the same as against 65535 -/
theorem inv_w {c : Int32} (hc : IsW c) : (c ^^^ (-1)) &&& 65535 = c ^^^ 65535 := by
  obtain ⟨k, hk, rfl⟩ := hc
  apply b_ext
  intro i hi
  rw [b_and, b_xor, b_xor, b_65535, b_m1 i hi]
  rcases Nat.lt_or_ge i 16 with h | h
  · simp [h]
  · have z : bt (nI k) i = false := by
      show (BitVec.ofNat 32 k).getLsbD i = false
      rw [BitVec.getLsbD_ofNat]
      rw [Nat.testBit_lt_two_pow (Nat.lt_of_lt_of_le (show k < 2 ^ 16 from hk) (Nat.pow_le_pow_right (by decide) h))]
      simp
    rw [z]
    simp [Nat.not_lt.mpr h]
theorem inv_lo {c : Int32} : (c ^^^ (-1)) &&& 255 = (c ^^^ 65535) &&& 255 := by
  apply b_ext
  intro i hi
  rw [b_and, b_and, b_xor, b_xor, b_65535, b_255, b_m1 i hi]
  rcases Nat.lt_or_ge i 8 with h | h
  · simp [h, Nat.lt_trans h (by omega : 8 < 16)]
  · simp [Nat.not_lt.mpr h]
theorem inv_hi {c : Int32} (hc : IsW c) : (c ^^^ (-1)) >>> ((8 : Int32) &&& 31) &&& 255 = ft_ushr (c ^^^ 65535) 8 := by
  obtain ⟨k, hk, rfl⟩ := hc
  apply b_ext
  intro i hi
  rw [b_and, b_255, b_sshr8 _ hi]
  show _ = bt (((nI k ^^^ 65535).toUInt32 >>> ((nI 8).toUInt32 &&& Int32.toUInt32 31)).toInt32) i
  rw [b_ushr 8 (by omega)]
  simp only [b_xor, b_65535]
  rcases Nat.lt_or_ge i 8 with h | h
  · rw [if_pos (by omega), b_m1 (8 + i) (by omega)]
    simp [h, show 8 + i < 16 by omega]
  · have z : bt (nI k) (8 + i) = false := by
      show (BitVec.ofNat 32 k).getLsbD (8 + i) = false
      rw [BitVec.getLsbD_ofNat]
      rw [Nat.testBit_lt_two_pow (Nat.lt_of_lt_of_le (show k < 2 ^ 16 from hk) (Nat.pow_le_pow_right (by decide) (by omega : 16 ≤ 8 + i)))]
      simp
    rw [z]
    simp [Nat.not_lt.mpr h, show ¬ 8 + i < 16 by omega]
theorem isB_hi {c : Int32} (hc : IsW c) : IsB (ft_ushr (c ^^^ 65535) 8) := by
  rw [← inv_hi hc]; exact isB_and _
