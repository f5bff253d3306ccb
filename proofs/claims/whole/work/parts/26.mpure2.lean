/-! The reference's readers. MR: came, many, kept, bad, turns, latest, good, counts, left, full, first, second, check. -/
abbrev MR : Type := (Nat → Nat) × (Nat → Nat) × (Nat → Int32) × (Nat → Int32) × (Nat → Int32) × (Nat → Int32) × (Nat → Int32) × (Nat → Int32) × Int32 × Int32 × Int32 × Int32 × Int32
def vrd (so n lim : Int32) : Int32 := if so = 0 then 2 else if n ≤ lim then 1 else 3
def cpG (gd kp : Nat → Int32) (off k : Nat) : Nat → Int32 := fun j => if off ≤ j ∧ j < off + k then kp j else gd j
theorem cpG_0 (gd kp : Nat → Int32) (off : Nat) : cpG gd kp off 0 = gd := by
  funext j
  unfold cpG
  rw [if_neg (by omega)]
theorem cpG_s (gd kp : Nat → Int32) (off k : Nat) : upd (cpG gd kp off k) (off + k) (kp (off + k)) = cpG gd kp off (k + 1) := by
  funext j
  by_cases h : j = off + k
  · subst h
    rw [pk_us]
    unfold cpG
    rw [if_pos (by omega)]
  · rw [pk_un h]
    unfold cpG
    by_cases h2 : off ≤ j ∧ j < off + k
    · rw [if_pos h2, if_pos (by omega)]
    · rw [if_neg h2, if_neg (by omega)]
def begS0 : MR → MR
  | (cm, mn, kp, bd, tu, la, gd, ct, _, _, f1, f2, ck) => (va_up cm 0 0, va_up mn 0 0, kp, upd bd 0 0, upd tu 0 0, la, gd, ct, 0, 0, f1, f2, ck)
def begS1 : MR → MR
  | (cm, mn, kp, bd, tu, la, gd, ct, lf, fl, f1, f2, ck) => (va_up cm 1 0, va_up mn 1 0, kp, upd bd 1 0, upd tu 1 0, la, gd, ct, lf, fl, f1, f2, ck)
def begS2 : MR → MR
  | (cm, mn, kp, bd, tu, la, gd, ct, lf, fl, f1, f2, _) => (va_up cm 2 0, va_up mn 2 0, kp, upd bd 2 0, upd tu 2 0, la, gd, ct, lf, fl, f1, f2, 65535)
def stepM0 (b : Int32) : MR → MR
  | (cm, mn, kp, bd, tu, la, gd, ct, lf, fl, f1, f2, ck) => (va_up cm 0 (cm 0 + 1), (cgM b cm mn kp lf fl).1, (cgM b cm mn kp lf fl).2.1, bd, tu, la, gd, ct, (cgM b cm mn kp lf fl).2.2.1, (cgM b cm mn kp lf fl).2.2.2, f1, f2, ck)
def stepM1 (b : Int32) : MR → MR
  | (cm, mn, kp, bd, tu, la, gd, ct, lf, fl, f1, f2, ck) => (va_up cm 1 (cm 1 + 1), (ctM1 b mn kp bd tu).1, (ctM1 b mn kp bd tu).2, itB1 b bd tu, itT 1 219 b tu, la, gd, ct, lf, fl, f1, f2, ck)
def stepM2 (b : Int32) : MR → MR
  | (cm, mn, kp, bd, tu, la, gd, ct, lf, fl, f1, f2, ck) => (va_up cm 2 (cm 2 + 1), (ctM2 b mn kp bd tu f1 f2 ck).1, (ctM2 b mn kp bd tu f1 f2 ck).2.1, itB2 b bd tu, itT 2 125 b tu, la, gd, ct, lf, fl, (ctM2 b mn kp bd tu f1 f2 ck).2.2.1, (ctM2 b mn kp bd tu f1 f2 ck).2.2.2.1, (ctM2 b mn kp bd tu f1 f2 ck).2.2.2.2)
/-- a chunk's end with verdict v, m bytes being kept at 400 * w: what is latest, good, counted -/
def endA (w m : Nat) (v : Int32) : MR → MR
  | (cm, mn, kp, bd, tu, la, gd, ct, lf, fl, f1, f2, ck) =>
    if v = 1 then (cm, mn, kp, bd, tu, upd la w (nI m), cpG gd kp (400 * w) m, upd ct (4 * w + 1) (ct (4 * w + 1) + 1), lf, fl, f1, f2, ck)
    else if v = 2 then (cm, mn, kp, bd, tu, la, gd, upd ct (4 * w + 2) (ct (4 * w + 2) + 1), lf, fl, f1, f2, ck)
    else (cm, mn, kp, bd, tu, la, gd, upd ct (4 * w + 3) (ct (4 * w + 3) + 1), lf, fl, f1, f2, ck)
def endM0 (lim : Int32) (st : MR) : Int32 × MR := match st with
  | (cm, mn, _, _, _, _, _, _, lf, _, _, _, _) => (vrd (so0 cm lf) (nI (mn 0)) lim, begS0 (endA 0 (mn 0) (vrd (so0 cm lf) (nI (mn 0)) lim) st))
def endM1 (lim : Int32) (st : MR) : Int32 × MR := match st with
  | (_, mn, _, bd, tu, _, _, _, _, _, _, _, _) => (vrd (so1 bd tu) (nI (mn 1)) lim, begS1 (endA 1 (mn 1) (vrd (so1 bd tu) (nI (mn 1)) lim) st))
def endM2 (lim : Int32) (st : MR) : Int32 × MR := match st with
  | (_, mn, _, bd, tu, _, _, _, _, _, f1, f2, ck) => (vrd (so2 mn bd tu f1 f2 ck) (nI (mn 2) - 2) lim, begS2 (endA 2 (mn 2 - 2) (vrd (so2 mn bd tu f1 f2 ck) (nI (mn 2) - 2) lim) st))
def takeM0 (lim b : Int32) (st : MR) : Int32 × MR := if b = 0 then endM0 lim st else (0, stepM0 b (if st.1 0 = 0 then begS0 st else st))
def takeM1 (lim b : Int32) (st : MR) : Int32 × MR := if b = 192 then (if st.1 1 = 0 then (0, st) else endM1 lim st) else (0, stepM1 b (if st.1 1 = 0 then begS1 st else st))
def takeM2 (lim b : Int32) (st : MR) : Int32 × MR := if b = 126 then (if st.1 2 = 0 then (0, st) else endM2 lim st) else (0, stepM2 b (if st.1 2 = 0 then begS2 st else st))
theorem so2_gt {mn : Nat → Nat} {bd tu : Nat → Int32} {f1 f2 ck : Int32} (h : ¬ so2 mn bd tu f1 f2 ck = 0) : 2 < mn 2 := by
  unfold so2 at h
  split at h
  · split at h
    · split at h
      · assumption
      · exact absurd rfl h
    · exact absurd rfl h
  · exact absurd rfl h
theorem le400 {m : Nat} {lim : Int32} (hm : m < 2 ^ 31) (h : nI m ≤ lim) (hl : lim ≤ 400) : m ≤ 400 := by
  have q := Int32.le_trans h hl
  exact (nI_leI hm (by omega)).mp q
theorem endA_1 (w m : Nat) (cm mn : Nat → Nat) (kp bd tu la gd ct : Nat → Int32) (lf fl f1 f2 ck : Int32) : endA w m 1 (cm, mn, kp, bd, tu, la, gd, ct, lf, fl, f1, f2, ck) = (cm, mn, kp, bd, tu, upd la w (nI m), cpG gd kp (400 * w) m, upd ct (4 * w + 1) (ct (4 * w + 1) + 1), lf, fl, f1, f2, ck) := by
  simp only [endA]
  exact if_pos trivial
theorem endA_2 (w m : Nat) (cm mn : Nat → Nat) (kp bd tu la gd ct : Nat → Int32) (lf fl f1 f2 ck : Int32) : endA w m 2 (cm, mn, kp, bd, tu, la, gd, ct, lf, fl, f1, f2, ck) = (cm, mn, kp, bd, tu, la, gd, upd ct (4 * w + 2) (ct (4 * w + 2) + 1), lf, fl, f1, f2, ck) := by
  simp only [endA]
  rw [if_neg (by decide)]
  exact if_pos trivial
theorem endA_3 (w m : Nat) (cm mn : Nat → Nat) (kp bd tu la gd ct : Nat → Int32) (lf fl f1 f2 ck : Int32) : endA w m 3 (cm, mn, kp, bd, tu, la, gd, ct, lf, fl, f1, f2, ck) = (cm, mn, kp, bd, tu, la, gd, upd ct (4 * w + 3) (ct (4 * w + 3) + 1), lf, fl, f1, f2, ck) := by
  simp only [endA]
  rw [if_neg (by decide), if_neg (by decide)]
def comeM (lim way b : Int32) (st : MR) : Int32 × MR := if way = 0 then takeM0 lim (b &&& 255) st else if way = 1 then takeM1 lim (b &&& 255) st else if way = 2 then takeM2 lim (b &&& 255) st else ((-1), st)
def drM (z n : Nat) (f : Nat → Int32) (lim way : Int32) (st : MR) : Int32 × Nat × MR :=
  if way = 0 then ((drn (takeM0 lim) f n 0 0 st).1, 0, (drn (takeM0 lim) f n 0 0 st).2)
  else if way = 1 then ((drn (takeM1 lim) f n 0 0 st).1, 0, (drn (takeM1 lim) f n 0 0 st).2)
  else if way = 2 then ((drn (takeM2 lim) f n 0 0 st).1, 0, (drn (takeM2 lim) f n 0 0 st).2)
  else ((-1), z, st)
def latM (la gd : Nat → Int32) (w : Nat) (i : Int32) : Int32 := if i < 0 then (-1) else if la w ≤ i then (-1) else gd (400 * w + i.toNatClampNeg)
def cntM (ct : Nat → Int32) (w : Nat) (k : Int32) : Int32 := if k < 1 then (-1) else if 3 < k then (-1) else ct (4 * w + k.toNatClampNeg)
