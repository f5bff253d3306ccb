/-! Class and reference: what a reader holds. -/
def PayR (pay : RS) (m : Nat) (kp : Nat → Int32) (off : Nat) : Prop := pay.2.1 = min m 400 ∧ (pay.2.2 = 0 ↔ m ≤ 400) ∧ ∀ i, i < min m 400 → pay.1 i = kp (off + i)
def KeptR (kept : RS) (hk la : Int32) (gd : Nat → Int32) (off : Nat) : Prop := kept.2.1 ≤ 400 ∧ ((hk = 0 ∧ kept.2.1 = 0 ∧ la = -1) ∨ (hk = 1 ∧ la = nI kept.2.1)) ∧ ∀ i, i < kept.2.1 → kept.1 i = gd (off + i)
def TalR (ta ct : Nat → Int32) (o : Nat) : Prop := ta 1 = ct (o + 1) ∧ ta 2 = ct (o + 2) ∧ ta 3 = ct (o + 3)
theorem PayR_0 {pay : RS} {kp : Nat → Int32} {off : Nat} (h1 : pay.2.1 = 0) (h2 : pay.2.2 = 0) : PayR pay 0 kp off := ⟨by rw [h1]; rfl, ⟨fun _ => Nat.zero_le _, fun _ => h2⟩, fun i hi => absurd hi (by omega)⟩
theorem PayR_keep {pay : RS} {m : Nat} {kp : Nat → Int32} {off : Nat} {b : Int32} (h : PayR pay m kp off) : PayR (rput 400 pay b) (m + 1) (if m < 400 then upd kp (off + m) b else kp) off := by
  obtain ⟨h1, h2, h3⟩ := h
  by_cases q : m < 400
  · have e : rput 400 pay b = (upd pay.1 m b, m + 1, pay.2.2) := by unfold rput; rw [if_pos (by omega), show pay.2.1 = m from by omega]
    rw [e, if_pos q]
    refine ⟨by show m + 1 = min (m + 1) 400; omega, ⟨fun _ => by omega, fun _ => h2.mpr (by omega)⟩, fun i hi => ?_⟩
    show upd pay.1 m b i = upd kp (off + m) b (off + i)
    by_cases z : i = m
    · subst z; rw [pk_us, pk_us]
    · rw [pk_un z, pk_un (by omega)]; exact h3 i (by omega)
  · have e : rput 400 pay b = (pay.1, pay.2.1, 1) := by unfold rput; rw [if_neg (by omega)]
    rw [e, if_neg q]
    refine ⟨by show pay.2.1 = min (m + 1) 400; omega, ⟨fun z => absurd (show (1 : Int32) = 0 from z) (by decide), fun z => absurd z (by omega)⟩, fun i hi => h3 i (by omega)⟩
theorem PayR_v {pay : RS} {m : Nat} {kp : Nat → Int32} {off : Nat} {lim : Int32} (h : PayR pay m kp off) (hl : lim ≤ 400) (hm : m < 2 ^ 31) : (¬ pay.2.2 = 0 ∨ ¬ nI pay.2.1 ≤ lim) ↔ ¬ nI m ≤ lim := by
  obtain ⟨h1, h2, h3⟩ := h
  by_cases q : m ≤ 400
  · rw [show pay.2.1 = m from by omega]
    exact ⟨fun z => z.elim (fun z => absurd (h2.mpr q) z) id, Or.inr⟩
  · exact ⟨fun _ z => q (le400 hm z hl), fun _ => Or.inl (fun z => q (h2.mp z))⟩
/-- behind a mark: what is kept, counted, begun anew -/
theorem fin_sim {w m : Nat} {pay kept : RS} {br bg hk : Int32} {ta : Nat → Int32} {cm mn : Nat → Nat} {kp bd tu la gd ct : Nat → Int32} {lf fl f1 f2 ck v : Int32} (hv : v = 1 ∨ v = 2 ∨ v = 3)
    (hK : KeptR kept hk (la w) gd (400 * w)) (hT : TalR ta ct (4 * w)) (hp : v = 1 → PayR pay m kp (400 * w) ∧ m ≤ 400) :
    KeptR (finC v (pay, kept, br, bg, hk, ta)).2.1 (finC v (pay, kept, br, bg, hk, ta)).2.2.2.2.1 ((endA w m v (cm, mn, kp, bd, tu, la, gd, ct, lf, fl, f1, f2, ck)).2.2.2.2.2.1 w) (endA w m v (cm, mn, kp, bd, tu, la, gd, ct, lf, fl, f1, f2, ck)).2.2.2.2.2.2.1 (400 * w) ∧
    TalR (finC v (pay, kept, br, bg, hk, ta)).2.2.2.2.2 (endA w m v (cm, mn, kp, bd, tu, la, gd, ct, lf, fl, f1, f2, ck)).2.2.2.2.2.2.2.1 (4 * w) ∧
    (finC v (pay, kept, br, bg, hk, ta)).2.2.1 = 0 ∧ (finC v (pay, kept, br, bg, hk, ta)).2.2.2.1 = 0 ∧ (finC v (pay, kept, br, bg, hk, ta)).1.2.1 = 0 ∧ (finC v (pay, kept, br, bg, hk, ta)).1.2.2 = 0 := by
  obtain ⟨t1, t2, t3⟩ := hT
  rcases hv with rfl | rfl | rfl
  · rw [endA_1]
    unfold finC
    rw [if_neg (by decide), if_pos rfl]
    obtain ⟨⟨p1, p2, p3⟩, hm⟩ := hp rfl
    have en : pay.2.1 = m := by omega
    refine ⟨⟨by show pay.2.1 ≤ 400; omega, Or.inr ⟨rfl, ?_⟩, fun i hi => ?_⟩, ⟨?_, ?_, ?_⟩, rfl, rfl, rfl, rfl⟩
    · show upd la w (nI m) w = nI pay.2.1
      rw [pk_us, en]
    · have hi : i < pay.2.1 := hi
      show pay.1 i = cpG gd kp (400 * w) m (400 * w + i)
      unfold cpG
      rw [if_pos (by omega)]
      exact p3 i (by omega)
    · show upd ta 1 (ta 1 + 1) 1 = upd ct (4 * w + 1) (ct (4 * w + 1) + 1) (4 * w + 1)
      rw [pk_us, pk_us, t1]
    · show upd ta 1 (ta 1 + 1) 2 = upd ct (4 * w + 1) (ct (4 * w + 1) + 1) (4 * w + 2)
      rw [pk_un (by omega), pk_un (by omega)]; exact t2
    · show upd ta 1 (ta 1 + 1) 3 = upd ct (4 * w + 1) (ct (4 * w + 1) + 1) (4 * w + 3)
      rw [pk_un (by omega), pk_un (by omega)]; exact t3
  · rw [endA_2]
    unfold finC
    rw [if_neg (by decide), if_neg (by decide), if_pos rfl]
    refine ⟨hK, ⟨?_, ?_, ?_⟩, rfl, rfl, rfl, rfl⟩
    · show upd ta 2 (ta 2 + 1) 1 = upd ct (4 * w + 2) (ct (4 * w + 2) + 1) (4 * w + 1)
      rw [pk_un (by omega), pk_un (by omega)]; exact t1
    · show upd ta 2 (ta 2 + 1) 2 = upd ct (4 * w + 2) (ct (4 * w + 2) + 1) (4 * w + 2)
      rw [pk_us, pk_us, t2]
    · show upd ta 2 (ta 2 + 1) 3 = upd ct (4 * w + 2) (ct (4 * w + 2) + 1) (4 * w + 3)
      rw [pk_un (by omega), pk_un (by omega)]; exact t3
  · rw [endA_3]
    unfold finC
    rw [if_neg (by decide), if_neg (by decide), if_neg (by decide)]
    refine ⟨hK, ⟨?_, ?_, ?_⟩, rfl, rfl, rfl, rfl⟩
    · show upd ta 3 (ta 3 + 1) 1 = upd ct (4 * w + 3) (ct (4 * w + 3) + 1) (4 * w + 1)
      rw [pk_un (by omega), pk_un (by omega)]; exact t1
    · show upd ta 3 (ta 3 + 1) 2 = upd ct (4 * w + 3) (ct (4 * w + 3) + 1) (4 * w + 2)
      rw [pk_un (by omega), pk_un (by omega)]; exact t2
    · show upd ta 3 (ta 3 + 1) 3 = upd ct (4 * w + 3) (ct (4 * w + 3) + 1) (4 * w + 3)
      rw [pk_us, pk_us, t3]
theorem vrd_3 (so n lim : Int32) : vrd so n lim = 1 ∨ vrd so n lim = 2 ∨ vrd so n lim = 3 := by
  unfold vrd
  split
  · exact Or.inr (Or.inl rfl)
  · split
    · exact Or.inl rfl
    · exact Or.inr (Or.inr rfl)
theorem vrd_1 {so n lim : Int32} (h : vrd so n lim = 1) : ¬ so = 0 ∧ n ≤ lim := by
  unfold vrd at h
  split at h
  · exact absurd h (by decide)
  · split at h
    · rename_i a b; exact ⟨a, b⟩
    · exact absurd h (by decide)
/-- the verdict, once the chunk isn't broken and one knows whether it is whole -/
theorem judge_v {emp br bg : Int32} {pay : RS} {wh so lim n : Int32} (hb : ¬ (bg = 0 ∧ emp = 0)) (h : (¬ br = 0 ∨ wh = 0) ↔ so = 0) (hn : ¬ so = 0 → ((¬ pay.2.2 = 0 ∨ ¬ nI pay.2.1 ≤ lim) ↔ ¬ n ≤ lim)) : judge emp br bg pay wh lim = vrd so n lim := by
  unfold judge vrd
  rw [if_neg hb]
  by_cases q : so = 0
  · rw [if_pos (h.mpr q), if_pos q]
  · rw [if_neg (fun z => q (h.mp z)), if_neg q]
    by_cases z : n ≤ lim
    · rw [if_neg (fun y => (hn q).mp y z), if_pos z]
    · rw [if_pos ((hn q).mpr z), if_neg z]
/-! way 0 -/
def RG (st : CS × Int32 × Int32) (mr : MR) : Prop :=
  KeptR st.1.2.1 st.1.2.2.2.2.1 (mr.2.2.2.2.2.1 0) mr.2.2.2.2.2.2.1 0 ∧ TalR st.1.2.2.2.2.2 mr.2.2.2.2.2.2.2.1 0 ∧ st.1.2.2.1 = 0 ∧
  ((mr.1 0 = 0 ∧ st.1.2.2.2.1 = 0 ∧ st.1.1.2.1 = 0 ∧ st.1.1.2.2 = 0 ∧ st.2.1 = 0 ∧ st.2.2 = 0) ∨
   (¬ mr.1 0 = 0 ∧ st.1.2.2.2.1 = 1 ∧ ¬ st.2.1 = 0 ∧ st.2.2 = mr.2.2.2.2.2.2.2.2.1 ∧ (mr.2.2.2.2.2.2.2.2.2.1 = 0 ↔ ¬ st.2.1 = 255) ∧ PayR st.1.1 (mr.2.1 0) mr.2.2.1 0))
theorem takeG_sim {st : CS × Int32 × Int32} {mr : MR} {lim b : Int32} {C : Nat} (h : RG st mr) (hb : BN 0 C mr) (hC : C < 1073741824) (hl : lim ≤ 400) :
    (takeG lim b st).1 = (takeM0 lim b mr).1 ∧ RG (takeG lim b st).2 (takeM0 lim b mr).2 := by
  obtain ⟨⟨pay, kept, br, bg, hk, ta⟩, hd, mi⟩ := st
  obtain ⟨cm, mn, kp, bd, tu, la, gd, ct, lf, fl, f1, f2, ck⟩ := mr
  obtain ⟨hK, hT, rfl, hA⟩ := h
  have hK : KeptR kept hk (la 0) gd (400 * 0) := hK
  have hT : TalR ta ct (4 * 0) := hT
  have hmn : mn 0 ≤ C := hb.2.1
  by_cases q : b = 0
  · subst q
    have ev : judge 1 0 bg pay (whole0 hd mi) lim = vrd (so0 cm lf) (nI (mn 0)) lim := by
      refine judge_v (fun z => absurd z.2 (by decide)) ?_ ?_
      · rcases hA with ⟨a1, a2, a3, a4, a5, a6⟩ | ⟨a1, a2, a3, a4, a5, a6⟩
        · have a5 : hd = 0 := a5
          have a1 : cm 0 = 0 := a1
          unfold whole0 so0
          rw [if_pos a5, if_pos a1]
          exact ⟨fun _ => rfl, fun _ => Or.inr rfl⟩
        · have a3 : ¬ hd = 0 := a3
          have a1 : ¬ cm 0 = 0 := a1
          have a4 : mi = lf := a4
          unfold whole0 so0
          rw [if_neg a3, if_neg a1, a4]
          exact ⟨fun z => z.elim (fun z => absurd rfl z) id, Or.inr⟩
      · intro z
        rcases hA with ⟨a1, _⟩ | ⟨a1, a2, a3, a4, a5, a6⟩
        · have a1 : cm 0 = 0 := a1
          unfold so0 at z; rw [if_pos a1] at z; exact absurd rfl z
        · exact PayR_v a6 hl (by show mn 0 < 2 ^ 31; omega)
    have hp : vrd (so0 cm lf) (nI (mn 0)) lim = 1 → PayR pay (mn 0) kp (400 * 0) ∧ mn 0 ≤ 400 := by
      intro z
      obtain ⟨z1, z2⟩ := vrd_1 z
      rcases hA with ⟨a1, _⟩ | ⟨a1, a2, a3, a4, a5, a6⟩
      · have a1 : cm 0 = 0 := a1
        unfold so0 at z1; rw [if_pos a1] at z1; exact absurd rfl z1
      · exact ⟨a6, le400 (by omega) z2 hl⟩
    obtain ⟨r1, r2, r3, r4, r5, r6⟩ := fin_sim (w := 0) (br := 0) (bg := bg) (cm := cm) (mn := mn) (bd := bd) (tu := tu) (lf := lf) (fl := fl) (f1 := f1) (f2 := f2) (ck := ck) (vrd_3 (so0 cm lf) (nI (mn 0)) lim) hK hT hp
    have e1 : takeG lim 0 ((pay, kept, 0, bg, hk, ta), hd, mi) = (vrd (so0 cm lf) (nI (mn 0)) lim, finC (vrd (so0 cm lf) (nI (mn 0)) lim) (pay, kept, 0, bg, hk, ta), 0, 0) := by
      simp only [takeG]
      rw [ev]
      exact if_pos trivial
    have e2 : takeM0 lim 0 (cm, mn, kp, bd, tu, la, gd, ct, lf, fl, f1, f2, ck) = (vrd (so0 cm lf) (nI (mn 0)) lim, begS0 (endA 0 (mn 0) (vrd (so0 cm lf) (nI (mn 0)) lim) (cm, mn, kp, bd, tu, la, gd, ct, lf, fl, f1, f2, ck))) := by
      unfold takeM0
      rw [if_pos rfl]
      rfl
    rw [e1, e2]
    generalize endA 0 (mn 0) (vrd (so0 cm lf) (nI (mn 0)) lim) (cm, mn, kp, bd, tu, la, gd, ct, lf, fl, f1, f2, ck) = E at r1 r2 ⊢
    obtain ⟨cm', mn', kp', bd', tu', la', gd', ct', lf', fl', f1', f2', ck'⟩ := E
    exact ⟨rfl, r1, r2, r3, Or.inl ⟨va_up_s cm' 0 0, r4, r5, r6, rfl, rfl⟩⟩
  · have e1 : takeG lim b ((pay, kept, 0, bg, hk, ta), hd, mi) = (0, ((dec0 pay hd mi b).1, kept, 0, 1, hk, ta), (dec0 pay hd mi b).2) := by
      simp only [takeG]
      rw [if_neg q]
      exact if_pos trivial
    rw [e1]
    unfold takeM0
    rw [if_neg q]
    refine ⟨rfl, ?_⟩
    rcases hA with ⟨a1, a2, a3, a4, a5, a6⟩ | ⟨a1, a2, a3, a4, a5, a6⟩
    · have a1 : cm 0 = 0 := a1
      have a3 : pay.2.1 = 0 := a3
      have a4 : pay.2.2 = 0 := a4
      have a5 : hd = 0 := a5
      have a6 : mi = 0 := a6
      subst a5; subst a6
      rw [if_pos (show (cm, mn, kp, bd, tu, la, gd, ct, lf, fl, f1, f2, ck).1 0 = 0 from a1)]
      have ed : dec0 pay 0 0 b = (pay, b, b - 1) := by
        unfold dec0 beg0
        rw [if_pos (show (0 : Int32) ≤ 0 from by decide), if_pos rfl]
      rw [ed]
      have eg : cgM b (va_up cm 0 0) (va_up mn 0 0) kp 0 0 = (va_up mn 0 0, kp, b - 1, if b = 255 then 1 else 0) := by
        unfold cgM
        rw [if_pos (show (0 : Int32) ≤ 0 from by decide), if_pos (va_up_s cm 0 0), if_pos (va_up_s cm 0 0)]
      show RG ((pay, kept, 0, 1, hk, ta), b, b - 1) (va_up (va_up cm 0 0) 0 (va_up cm 0 0 0 + 1), (cgM b (va_up cm 0 0) (va_up mn 0 0) kp 0 0).1, (cgM b (va_up cm 0 0) (va_up mn 0 0) kp 0 0).2.1, upd bd 0 0, upd tu 0 0, la, gd, ct, (cgM b (va_up cm 0 0) (va_up mn 0 0) kp 0 0).2.2.1, (cgM b (va_up cm 0 0) (va_up mn 0 0) kp 0 0).2.2.2, f1, f2, ck)
      rw [eg]
      refine ⟨hK, hT, rfl, Or.inr ⟨?_, rfl, q, rfl, ?_, ?_⟩⟩
      · show ¬ va_up (va_up cm 0 0) 0 (va_up cm 0 0 0 + 1) 0 = 0
        rw [va_up_s]; omega
      · show (if b = 255 then (1 : Int32) else 0) = 0 ↔ ¬ b = 255
        by_cases z : b = 255
        · rw [if_pos z]; exact ⟨fun y => absurd y (by decide), fun y => absurd z y⟩
        · rw [if_neg z]; exact ⟨fun _ => z, fun _ => rfl⟩
      · show PayR pay (va_up mn 0 0 0) kp 0
        rw [va_up_s]; exact PayR_0 a3 a4
    · have a1 : ¬ cm 0 = 0 := a1
      have a3 : ¬ hd = 0 := a3
      have a4 : mi = lf := a4
      have a5 : fl = 0 ↔ ¬ hd = 255 := a5
      have a6 : PayR pay (mn 0) kp 0 := a6
      subst a4
      rw [if_neg (show ¬ (cm, mn, kp, bd, tu, la, gd, ct, mi, fl, f1, f2, ck).1 0 = 0 from a1)]
      show RG ((( dec0 pay hd mi b).1, kept, 0, 1, hk, ta), (dec0 pay hd mi b).2) (va_up cm 0 (cm 0 + 1), (cgM b cm mn kp mi fl).1, (cgM b cm mn kp mi fl).2.1, bd, tu, la, gd, ct, (cgM b cm mn kp mi fl).2.2.1, (cgM b cm mn kp mi fl).2.2.2, f1, f2, ck)
      have hc1 : ¬ va_up cm 0 (cm 0 + 1) 0 = 0 := by rw [va_up_s]; omega
      have hkp : ∀ x : Int32, PayR (rput 400 pay x) ((keepM 0 x mn kp).1 0) (keepM 0 x mn kp).2 0 := by
        intro x
        rw [keepM_m]
        have := PayR_keep (b := x) a6
        show PayR (rput 400 pay x) (mn 0 + 1) (if mn 0 < 400 then upd kp (400 * 0 + mn 0) x else kp) 0
        rw [show 400 * 0 + mn 0 = 0 + mn 0 from by omega]
        exact this
      by_cases z : mi ≤ 0
      · have ed : dec0 pay hd mi b = ((if hd = 255 then pay else rput 400 pay 0), b, b - 1) := by
          unfold dec0 beg0
          rw [if_pos z, if_neg a3]
        have eg : cgM b cm mn kp mi fl = ((if fl = 0 then (keepM 0 0 mn kp).1 else mn), (if fl = 0 then (keepM 0 0 mn kp).2 else kp), b - 1, if b = 255 then 1 else 0) := by
          unfold cgM
          rw [if_pos z, if_neg a1, if_neg a1]
        rw [ed, eg]
        refine ⟨hK, hT, rfl, Or.inr ⟨hc1, rfl, q, rfl, ?_, ?_⟩⟩
        · show (if b = 255 then (1 : Int32) else 0) = 0 ↔ ¬ b = 255
          by_cases z : b = 255
          · rw [if_pos z]; exact ⟨fun y => absurd y (by decide), fun y => absurd z y⟩
          · rw [if_neg z]; exact ⟨fun _ => z, fun _ => rfl⟩
        · show PayR (if hd = 255 then pay else rput 400 pay 0) ((if fl = 0 then (keepM 0 0 mn kp).1 else mn) 0) (if fl = 0 then (keepM 0 0 mn kp).2 else kp) 0
          by_cases y : hd = 255
          · rw [if_pos y, if_neg (fun x => a5.mp x y), if_neg (fun x => a5.mp x y)]; exact a6
          · rw [if_neg y, if_pos (a5.mpr y), if_pos (a5.mpr y)]; exact hkp 0
      · have ed : dec0 pay hd mi b = (rput 400 pay b, hd, mi - 1) := by unfold dec0; rw [if_neg z]
        have eg : cgM b cm mn kp mi fl = ((keepM 0 b mn kp).1, (keepM 0 b mn kp).2, mi - 1, fl) := by unfold cgM; rw [if_neg z]
        rw [ed, eg]
        exact ⟨hK, hT, rfl, Or.inr ⟨hc1, rfl, a3, rfl, a5, hkp b⟩⟩
