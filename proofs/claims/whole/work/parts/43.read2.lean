/-! ways 1 and 2 -/
def RE (st : CS × Int32) (mr : MR) : Prop :=
  KeptR st.1.2.1 st.1.2.2.2.2.1 (mr.2.2.2.2.2.1 1) mr.2.2.2.2.2.2.1 400 ∧ TalR st.1.2.2.2.2.2 mr.2.2.2.2.2.2.2.1 4 ∧
  ((mr.1 1 = 0 ∧ st.1.2.2.1 = 0 ∧ st.1.2.2.2.1 = 0 ∧ st.1.1.2.1 = 0 ∧ st.1.1.2.2 = 0 ∧ st.2 = 0) ∨
   (¬ mr.1 1 = 0 ∧ st.1.2.2.2.1 = 1 ∧ ((¬ st.1.2.2.1 = 0 ∧ ¬ mr.2.2.2.1 1 = 0) ∨ (st.1.2.2.1 = 0 ∧ mr.2.2.2.1 1 = 0 ∧ st.2 = mr.2.2.2.2.1 1 ∧ PayR st.1.1 (mr.2.1 1) mr.2.2.1 400))))
theorem PayR_keepM {pay : RS} {w : Nat} {mn : Nat → Nat} {kp : Nat → Int32} (h : PayR pay (mn w) kp (400 * w)) (x : Int32) : PayR (rput 400 pay x) ((keepM w x mn kp).1 w) (keepM w x mn kp).2 (400 * w) := by
  rw [keepM_m]
  exact PayR_keep h
/-- one byte that is no mark, way 1: what is broken stays so, else both go on alike -/
theorem stepE {pay : RS} {br es b : Int32} {mn : Nat → Nat} {kp bd tu : Nat → Int32} (h : br = 0 ∧ bd 1 = 0 ∧ es = tu 1 ∧ PayR pay (mn 1) kp 400) :
    (¬ (dec1 pay br es b).2.1 = 0 ∧ ¬ itB1 b bd tu 1 = 0) ∨ ((dec1 pay br es b).2.1 = 0 ∧ itB1 b bd tu 1 = 0 ∧ (dec1 pay br es b).2.2 = itT 1 219 b tu 1 ∧ PayR (dec1 pay br es b).1 ((ctM1 b mn kp bd tu).1 1) (ctM1 b mn kp bd tu).2 400) := by
  obtain ⟨rfl, hbd, rfl, hp⟩ := h
  have hp : PayR pay (mn 1) kp (400 * 1) := hp
  by_cases q : tu 1 = 0
  · have eb : itB1 b bd tu = bd := by unfold itB1; rw [if_pos q]
    by_cases z : b = 219
    · have et : itT 1 219 b tu 1 = 1 := by unfold itT; rw [pk_us, if_pos q, if_pos z]
      have ed : dec1 pay 0 (tu 1) b = (pay, 0, 1) := by unfold dec1; rw [if_pos q, if_pos z]
      have ec : ctM1 b mn kp bd tu = (mn, kp) := by unfold ctM1; rw [et, if_neg (by decide)]
      rw [ed, eb, et, ec]
      exact Or.inr ⟨rfl, hbd, rfl, hp⟩
    · have et : itT 1 219 b tu 1 = 0 := by unfold itT; rw [pk_us, if_pos q, if_neg z]
      have ed : dec1 pay 0 (tu 1) b = (rput 400 pay b, 0, tu 1) := by unfold dec1; rw [if_pos q, if_neg z]
      have ec : ctM1 b mn kp bd tu = keepM 1 b mn kp := by unfold ctM1; rw [et, if_pos rfl, if_pos q]
      rw [ed, eb, et, ec]
      exact Or.inr ⟨rfl, hbd, q, PayR_keepM hp b⟩
  · have et : itT 1 219 b tu 1 = 0 := by unfold itT; rw [pk_us, if_neg q]
    have ed : dec1 pay 0 (tu 1) b = ((esc1 pay 0 b).1, (esc1 pay 0 b).2, 0) := by unfold dec1; rw [if_neg q]
    have eb : itB1 b bd tu 1 = (if b = 220 then 0 else if b = 221 then 0 else 1) := by unfold itB1; rw [if_neg q, pk_us, if_pos hbd]
    have ec : ctM1 b mn kp bd tu = keepM 1 (if b = 220 then 192 else 219) mn kp := by unfold ctM1; rw [et, if_pos rfl, if_neg q]
    rw [ed, et, eb, ec]
    unfold esc1
    by_cases z : b = 220
    · rw [if_pos z, if_pos z, if_pos z]
      exact Or.inr ⟨rfl, rfl, rfl, PayR_keepM hp 192⟩
    · rw [if_neg z, if_neg z, if_neg z]
      by_cases y : b = 221
      · rw [if_pos y, if_pos y]
        exact Or.inr ⟨rfl, rfl, rfl, PayR_keepM hp 219⟩
      · rw [if_neg y, if_neg y]
        exact Or.inl ⟨by show ¬ (1 : Int32) = 0; decide, by decide⟩
theorem itB1_bad {b : Int32} {bd tu : Nat → Int32} (h : ¬ bd 1 = 0) : ¬ itB1 b bd tu 1 = 0 := by
  unfold itB1
  split
  · exact h
  · rw [pk_us]; first | decide | (rw [if_neg h]; decide)
theorem takeE_sim {st : CS × Int32} {mr : MR} {lim b : Int32} {C : Nat} (h : RE st mr) (hb : BN 1 C mr) (hC : C < 1073741824) (hl : lim ≤ 400) :
    (takeE lim b st).1 = (takeM1 lim b mr).1 ∧ RE (takeE lim b st).2 (takeM1 lim b mr).2 := by
  obtain ⟨⟨pay, kept, br, bg, hk, ta⟩, es⟩ := st
  obtain ⟨cm, mn, kp, bd, tu, la, gd, ct, lf, fl, f1, f2, ck⟩ := mr
  obtain ⟨hK, hT, hA⟩ := h
  have hK : KeptR kept hk (la 1) gd (400 * 1) := hK
  have hT : TalR ta ct (4 * 1) := hT
  have hmn : mn 1 ≤ C := hb.2.1
  by_cases q : b = 192
  · subst q
    rcases hA with ⟨a1, a2, a3, a4, a5, a6⟩ | ⟨a1, a2, a3⟩
    · have a1 : cm 1 = 0 := a1
      have a2 : br = 0 := a2
      have a3 : bg = 0 := a3
      subst a2; subst a3
      have e2 : takeM1 lim 192 (cm, mn, kp, bd, tu, la, gd, ct, lf, fl, f1, f2, ck) = (0, (cm, mn, kp, bd, tu, la, gd, ct, lf, fl, f1, f2, ck)) := by
        unfold takeM1
        rw [if_pos rfl, if_pos (show (cm, mn, kp, bd, tu, la, gd, ct, lf, fl, f1, f2, ck).1 1 = 0 from a1)]
      have ej : judge 0 0 0 pay (whole1 es) lim = 0 := by unfold judge; rw [if_pos ⟨rfl, rfl⟩]
      have e1 : takeE lim 192 ((pay, kept, 0, 0, hk, ta), es) = (0, finC 0 (pay, kept, 0, 0, hk, ta), 0) := by
        simp only [takeE]
        rw [ej]
        exact if_pos trivial
      rw [e1, e2]
      have ef : finC 0 (pay, kept, 0, 0, hk, ta) = (rcut0 pay, kept, 0, 0, hk, ta) := by unfold finC; rw [if_pos rfl]
      rw [ef]
      exact ⟨rfl, hK, hT, Or.inl ⟨a1, rfl, rfl, rfl, rfl, rfl⟩⟩
    · have a1 : ¬ cm 1 = 0 := a1
      have a2 : bg = 1 := a2
      subst a2
      have ev : judge 0 br 1 pay (whole1 es) lim = vrd (so1 bd tu) (nI (mn 1)) lim := by
        refine judge_v (fun z => absurd z.1 (by decide)) ?_ ?_
        · rcases a3 with ⟨c1, c2⟩ | ⟨c1, c2, c3, c4⟩
          · have c1 : ¬ br = 0 := c1
            have c2 : ¬ bd 1 = 0 := c2
            unfold so1
            rw [if_neg c2]
            exact ⟨fun _ => rfl, fun _ => Or.inl c1⟩
          · have c1 : br = 0 := c1
            have c2 : bd 1 = 0 := c2
            have c3 : es = tu 1 := c3
            unfold so1 whole1
            rw [if_pos c2, c3]
            exact ⟨fun z => z.elim (fun z => absurd c1 z) id, Or.inr⟩
        · intro z
          rcases a3 with ⟨c1, c2⟩ | ⟨c1, c2, c3, c4⟩
          · have c2 : ¬ bd 1 = 0 := c2
            unfold so1 at z; rw [if_neg c2] at z; exact absurd rfl z
          · exact PayR_v c4 hl (by show mn 1 < 2 ^ 31; omega)
      have hp : vrd (so1 bd tu) (nI (mn 1)) lim = 1 → PayR pay (mn 1) kp (400 * 1) ∧ mn 1 ≤ 400 := by
        intro z
        obtain ⟨z1, z2⟩ := vrd_1 z
        rcases a3 with ⟨c1, c2⟩ | ⟨c1, c2, c3, c4⟩
        · have c2 : ¬ bd 1 = 0 := c2
          unfold so1 at z1; rw [if_neg c2] at z1; exact absurd rfl z1
        · exact ⟨c4, le400 (by omega) z2 hl⟩
      obtain ⟨r1, r2, r3, r4, r5, r6⟩ := fin_sim (w := 1) (br := br) (bg := 1) (cm := cm) (mn := mn) (bd := bd) (tu := tu) (lf := lf) (fl := fl) (f1 := f1) (f2 := f2) (ck := ck) (vrd_3 (so1 bd tu) (nI (mn 1)) lim) hK hT hp
      have e1 : takeE lim 192 ((pay, kept, br, 1, hk, ta), es) = (vrd (so1 bd tu) (nI (mn 1)) lim, finC (vrd (so1 bd tu) (nI (mn 1)) lim) (pay, kept, br, 1, hk, ta), 0) := by
        simp only [takeE]
        rw [ev]
        exact if_pos trivial
      have e2 : takeM1 lim 192 (cm, mn, kp, bd, tu, la, gd, ct, lf, fl, f1, f2, ck) = (vrd (so1 bd tu) (nI (mn 1)) lim, begS1 (endA 1 (mn 1) (vrd (so1 bd tu) (nI (mn 1)) lim) (cm, mn, kp, bd, tu, la, gd, ct, lf, fl, f1, f2, ck))) := by
        unfold takeM1
        rw [if_pos rfl, if_neg (show ¬ (cm, mn, kp, bd, tu, la, gd, ct, lf, fl, f1, f2, ck).1 1 = 0 from a1)]
        rfl
      rw [e1, e2]
      generalize endA 1 (mn 1) (vrd (so1 bd tu) (nI (mn 1)) lim) (cm, mn, kp, bd, tu, la, gd, ct, lf, fl, f1, f2, ck) = E at r1 r2 ⊢
      obtain ⟨cm', mn', kp', bd', tu', la', gd', ct', lf', fl', f1', f2', ck'⟩ := E
      exact ⟨rfl, r1, r2, Or.inl ⟨va_up_s cm' 1 0, r3, r4, r5, r6, rfl⟩⟩
  · rcases hA with ⟨a1, a2, a3, a4, a5, a6⟩ | ⟨a1, a2, a3⟩
    · have a1 : cm 1 = 0 := a1
      have a2 : br = 0 := a2
      have a4 : pay.2.1 = 0 := a4
      have a5 : pay.2.2 = 0 := a5
      have a6 : es = 0 := a6
      subst a2; subst a6
      have e1 : takeE lim b ((pay, kept, 0, bg, hk, ta), 0) = (0, ((dec1 pay 0 0 b).1, kept, (dec1 pay 0 0 b).2.1, 1, hk, ta), (dec1 pay 0 0 b).2.2) := by
        simp only [takeE]
        rw [if_neg q]
        exact if_pos trivial
      rw [e1]
      unfold takeM1
      rw [if_neg q, if_pos (show (cm, mn, kp, bd, tu, la, gd, ct, lf, fl, f1, f2, ck).1 1 = 0 from a1)]
      refine ⟨rfl, hK, hT, Or.inr ⟨?_, rfl, ?_⟩⟩
      · show ¬ va_up (va_up cm 1 0) 1 (va_up cm 1 0 1 + 1) 1 = 0
        rw [va_up_s]; omega
      · exact stepE (br := 0) (es := 0) (b := b) (mn := va_up mn 1 0) (kp := kp) (bd := upd bd 1 0) (tu := upd tu 1 0) ⟨rfl, pk_us, pk_us.symm, by rw [va_up_s]; exact PayR_0 a4 a5⟩
    · have a1 : ¬ cm 1 = 0 := a1
      have hc1 : ¬ va_up cm 1 (cm 1 + 1) 1 = 0 := by rw [va_up_s]; omega
      unfold takeM1
      rw [if_neg q, if_neg (show ¬ (cm, mn, kp, bd, tu, la, gd, ct, lf, fl, f1, f2, ck).1 1 = 0 from a1)]
      rcases a3 with ⟨c1, c2⟩ | c
      · have c1 : ¬ br = 0 := c1
        have c2 : ¬ bd 1 = 0 := c2
        have e1 : takeE lim b ((pay, kept, br, bg, hk, ta), es) = (0, (pay, kept, br, 1, hk, ta), es) := by
          simp only [takeE]
          rw [if_neg q, if_neg c1]
        rw [e1]
        exact ⟨rfl, hK, hT, Or.inr ⟨hc1, rfl, Or.inl ⟨c1, itB1_bad c2⟩⟩⟩
      · have c1 : br = 0 := c.1
        have e1 : takeE lim b ((pay, kept, br, bg, hk, ta), es) = (0, ((dec1 pay br es b).1, kept, (dec1 pay br es b).2.1, 1, hk, ta), (dec1 pay br es b).2.2) := by
          simp only [takeE]
          rw [if_neg q, if_pos c1]
        rw [e1]
        exact ⟨rfl, hK, hT, Or.inr ⟨hc1, rfl, stepE c⟩⟩
/-- what way 2's readers have in common while the chunk isn't broken -/
def CkR (pay : RS) (es ck he ol ne : Int32) (mn : Nat) (kp : Nat → Int32) (tu f1 f2 ck' : Int32) : Prop :=
  es = tu ∧ ck = ck' ∧ IsW ck ∧ he = nI (min mn 2) ∧ (1 ≤ mn → ne = f2 ∧ IsB ne) ∧ (2 ≤ mn → ol = f1 ∧ IsB ol) ∧ PayR pay (mn - 2) kp 800
def RC (st : CS × Int32 × Int32 × Int32 × Int32 × Int32) (mr : MR) : Prop :=
  KeptR st.1.2.1 st.1.2.2.2.2.1 (mr.2.2.2.2.2.1 2) mr.2.2.2.2.2.2.1 800 ∧ TalR st.1.2.2.2.2.2 mr.2.2.2.2.2.2.2.1 8 ∧
  ((mr.1 2 = 0 ∧ st.1.2.2.1 = 0 ∧ st.1.2.2.2.1 = 0 ∧ st.1.1.2.1 = 0 ∧ st.1.1.2.2 = 0 ∧ st.2.1 = 0 ∧ st.2.2.1 = 65535 ∧ st.2.2.2.1 = 0) ∨
   (¬ mr.1 2 = 0 ∧ st.1.2.2.2.1 = 1 ∧ ((¬ st.1.2.2.1 = 0 ∧ ¬ mr.2.2.2.1 2 = 0) ∨ (st.1.2.2.1 = 0 ∧ mr.2.2.2.1 2 = 0 ∧ CkR st.1.1 st.2.1 st.2.2.1 st.2.2.2.1 st.2.2.2.2.1 st.2.2.2.2.2 (mr.2.1 2) mr.2.2.1 (mr.2.2.2.2.1 2) mr.2.2.2.2.2.2.2.2.2.2.1 mr.2.2.2.2.2.2.2.2.2.2.2.1 mr.2.2.2.2.2.2.2.2.2.2.2.2))))
/-- a byte v behind the escapes goes into both -/
theorem holdC {pay : RS} {es es' ck he ol ne v : Int32} {mn : Nat} {kp : Nat → Int32} {tu tu' f1 f2 ck' : Int32} (h : CkR pay es ck he ol ne mn kp tu f1 f2 ck') (hv : IsB v) (he' : es' = tu') :
    CkR (hold2 pay ck he ol ne v).1 es' (hold2 pay ck he ol ne v).2.1 (hold2 pay ck he ol ne v).2.2.1 (hold2 pay ck he ol ne v).2.2.2.1 (hold2 pay ck he ol ne v).2.2.2.2 (mn + 1) (if mn < 2 then kp else if mn - 2 < 400 then upd kp (800 + mn - 2) f1 else kp) tu' f2 v (if mn < 2 then ck' else chkB ck' f1) := by
  obtain ⟨h1, h2, h3, h4, h5, h6, h7⟩ := h
  subst h2
  by_cases q : mn < 2
  · have e : hold2 pay ck he ol ne v = (pay, ck, he + 1, ne, v) := by
      unfold hold2
      rw [if_neg]
      rw [h4, show min mn 2 = mn from by omega]
      rcases (show mn = 0 ∨ mn = 1 by omega) with rfl | rfl <;> decide
    rw [e, if_pos q, if_pos q]
    refine ⟨he', rfl, h3, ?_, fun _ => ⟨rfl, hv⟩, fun z => h5 (by omega), ?_⟩
    · show he + 1 = nI (min (mn + 1) 2)
      rw [h4, nI_1, show min mn 2 + 1 = min (mn + 1) 2 from by omega]
    · rw [show mn + 1 - 2 = mn - 2 from by omega]; exact h7
  · obtain ⟨k1, k2⟩ := h6 (by omega)
    have e : hold2 pay ck he ol ne v = (rput 400 pay ol, crcB ck ol, he, ne, v) := by
      unfold hold2
      rw [if_pos]
      rw [h4, show min mn 2 = 2 from by omega]; rfl
    obtain ⟨e1, e2⟩ := crc_sim h3 k2
    rw [e, if_neg q, if_neg q]
    refine ⟨he', by show crcB ck ol = chkB ck f1; rw [e1, k1], e2, ?_, fun _ => ⟨rfl, hv⟩, fun _ => h5 (by omega), ?_⟩
    · show he = nI (min (mn + 1) 2)
      rw [h4, show min mn 2 = min (mn + 1) 2 from by omega]
    · show PayR (rput 400 pay ol) (mn + 1 - 2) _ 800
      have := PayR_keep (b := ol) h7
      rw [show mn + 1 - 2 = mn - 2 + 1 from by omega, show 800 + mn - 2 = 800 + (mn - 2) from by omega, ← k1]
      exact this
theorem stepC {pay : RS} {br es ck he ol ne b : Int32} {mn : Nat → Nat} {kp bd tu : Nat → Int32} {f1 f2 ck' : Int32} (hb : IsB b) (h : br = 0 ∧ bd 2 = 0 ∧ CkR pay es ck he ol ne (mn 2) kp (tu 2) f1 f2 ck') :
    (¬ (dec2 pay br es ck he ol ne b).2.1 = 0 ∧ ¬ itB2 b bd tu 2 = 0) ∨ ((dec2 pay br es ck he ol ne b).2.1 = 0 ∧ itB2 b bd tu 2 = 0 ∧ CkR (dec2 pay br es ck he ol ne b).1 (dec2 pay br es ck he ol ne b).2.2.1 (dec2 pay br es ck he ol ne b).2.2.2.1 (dec2 pay br es ck he ol ne b).2.2.2.2.1 (dec2 pay br es ck he ol ne b).2.2.2.2.2.1 (dec2 pay br es ck he ol ne b).2.2.2.2.2.2
      ((ctM2 b mn kp bd tu f1 f2 ck').1 2) (ctM2 b mn kp bd tu f1 f2 ck').2.1 (itT 2 125 b tu 2) (ctM2 b mn kp bd tu f1 f2 ck').2.2.1 (ctM2 b mn kp bd tu f1 f2 ck').2.2.2.1 (ctM2 b mn kp bd tu f1 f2 ck').2.2.2.2) := by
  obtain ⟨rfl, hbd, hp⟩ := h
  have h32 : IsB 32 := ⟨32, by decide, by decide⟩
  obtain ⟨he1, -⟩ := id hp
  subst he1
  by_cases q : tu 2 = 0
  · have eb : itB2 b bd tu = bd := by unfold itB2; rw [if_pos q]
    by_cases z : b = 125
    · have et : itT 2 125 b tu 2 = 1 := by unfold itT; rw [pk_us, if_pos q, if_pos z]
      have ed : dec2 pay 0 (tu 2) ck he ol ne b = (pay, 0, 1, ck, he, ol, ne) := by unfold dec2; rw [if_pos q, if_pos z]
      have ec : ctM2 b mn kp bd tu f1 f2 ck' = (mn, kp, f1, f2, ck') := by unfold ctM2; rw [et, if_neg (by decide)]
      rw [ed, eb, et, ec]
      exact Or.inr ⟨rfl, hbd, rfl, hp.2⟩
    · have et : itT 2 125 b tu 2 = 0 := by unfold itT; rw [pk_us, if_pos q, if_neg z]
      have ed : dec2 pay 0 (tu 2) ck he ol ne b = ((hold2 pay ck he ol ne b).1, 0, tu 2, (hold2 pay ck he ol ne b).2) := by unfold dec2; rw [if_pos q, if_neg z]
      have ec : ctM2 b mn kp bd tu f1 f2 ck' = (va_up mn 2 (mn 2 + 1), (if mn 2 < 2 then kp else if mn 2 - 2 < 400 then upd kp (800 + mn 2 - 2) f1 else kp), f2, b, (if mn 2 < 2 then ck' else chkB ck' f1)) := by unfold ctM2; rw [et, if_pos rfl, if_pos q]
      rw [ed, eb, et, ec]
      refine Or.inr ⟨rfl, hbd, ?_⟩
      show CkR _ _ _ _ _ _ (va_up mn 2 (mn 2 + 1) 2) _ _ _ _ _
      rw [va_up_s]
      exact holdC hp hb q
  · have et : itT 2 125 b tu 2 = 0 := by unfold itT; rw [pk_us, if_neg q]
    have eb : itB2 b bd tu 2 = (if b = 125 then 1 else 0) := by unfold itB2; rw [if_neg q, pk_us, if_pos hbd]
    by_cases z : b = 125
    · have ed : dec2 pay 0 (tu 2) ck he ol ne b = (pay, 1, 0, ck, he, ol, ne) := by unfold dec2; rw [if_neg q, if_pos z]
      rw [ed, eb, if_pos z]
      exact Or.inl ⟨by show ¬ (1 : Int32) = 0; decide, by decide⟩
    · have ed : dec2 pay 0 (tu 2) ck he ol ne b = ((hold2 pay ck he ol ne (b ^^^ 32)).1, 0, 0, (hold2 pay ck he ol ne (b ^^^ 32)).2) := by unfold dec2; rw [if_neg q, if_neg z]
      have ec : ctM2 b mn kp bd tu f1 f2 ck' = (va_up mn 2 (mn 2 + 1), (if mn 2 < 2 then kp else if mn 2 - 2 < 400 then upd kp (800 + mn 2 - 2) f1 else kp), f2, b ^^^ 32, (if mn 2 < 2 then ck' else chkB ck' f1)) := by unfold ctM2; rw [et, if_pos rfl, if_neg q]
      rw [ed, eb, if_neg z, et, ec]
      refine Or.inr ⟨rfl, rfl, ?_⟩
      show CkR _ _ _ _ _ _ (va_up mn 2 (mn 2 + 1) 2) _ _ _ _ _
      rw [va_up_s]
      exact holdC hp (hb.xor h32) rfl
theorem itB2_bad {b : Int32} {bd tu : Nat → Int32} (h : ¬ bd 2 = 0) : ¬ itB2 b bd tu 2 = 0 := by
  unfold itB2
  split
  · exact h
  · rw [pk_us]; first | decide | (rw [if_neg h]; decide)
theorem whole_C {pay : RS} {es ck he ol ne : Int32} {mn : Nat → Nat} {kp bd tu : Nat → Int32} {f1 f2 ck' : Int32} (hbd : bd 2 = 0) (h : CkR pay es ck he ol ne (mn 2) kp (tu 2) f1 f2 ck') : whole2 pay es ck ol ne = so2 mn bd tu f1 f2 ck' := by
  obtain ⟨rfl, rfl, h3, h4, h5, h6, h7⟩ := h
  unfold whole2 so2
  rw [if_pos hbd]
  by_cases q : tu 2 = 0
  · rw [if_pos q, if_pos q]
    by_cases z : 2 < mn 2
    · rw [if_neg (show ¬ pay.2.1 = 0 from by rw [h7.1]; omega), if_pos z, inv_w h3, (h5 (by omega)).1, (h6 (by omega)).1]
    · rw [if_pos (show pay.2.1 = 0 from by rw [h7.1]; omega), if_neg z]
  · rw [if_neg q, if_neg q]
theorem takeC_sim {st : CS × Int32 × Int32 × Int32 × Int32 × Int32} {mr : MR} {lim b : Int32} {C : Nat} (h : RC st mr) (hb : BN 2 C mr) (hC : C < 1073741824) (hl : lim ≤ 400) (hB : IsB b) :
    (takeC lim b st).1 = (takeM2 lim b mr).1 ∧ RC (takeC lim b st).2 (takeM2 lim b mr).2 := by
  obtain ⟨⟨pay, kept, br, bg, hk, ta⟩, es, ck, he, ol, ne⟩ := st
  obtain ⟨cm, mn, kp, bd, tu, la, gd, ct, lf, fl, f1, f2, ck'⟩ := mr
  obtain ⟨hK, hT, hA⟩ := h
  have hK : KeptR kept hk (la 2) gd (400 * 2) := hK
  have hT : TalR ta ct (4 * 2) := hT
  have hmn : mn 2 ≤ C := hb.2.1
  by_cases q : b = 126
  · subst q
    rcases hA with ⟨a1, a2, a3, a4⟩ | ⟨a1, a2, a3⟩
    · have a1 : cm 2 = 0 := a1
      have a2 : br = 0 := a2
      have a3 : bg = 0 := a3
      subst a2; subst a3
      have e2 : takeM2 lim 126 (cm, mn, kp, bd, tu, la, gd, ct, lf, fl, f1, f2, ck') = (0, (cm, mn, kp, bd, tu, la, gd, ct, lf, fl, f1, f2, ck')) := by
        unfold takeM2
        rw [if_pos rfl, if_pos (show (cm, mn, kp, bd, tu, la, gd, ct, lf, fl, f1, f2, ck').1 2 = 0 from a1)]
      have ej : judge 0 0 0 pay (whole2 pay es ck ol ne) lim = 0 := by unfold judge; rw [if_pos ⟨rfl, rfl⟩]
      have e1 : takeC lim 126 ((pay, kept, 0, 0, hk, ta), es, ck, he, ol, ne) = (0, finC 0 (pay, kept, 0, 0, hk, ta), 0, 65535, 0, 0, 0) := by
        simp only [takeC]
        rw [ej]
        exact if_pos trivial
      rw [e1, e2]
      have ef : finC 0 (pay, kept, 0, 0, hk, ta) = (rcut0 pay, kept, 0, 0, hk, ta) := by unfold finC; rw [if_pos rfl]
      rw [ef]
      exact ⟨rfl, hK, hT, Or.inl ⟨a1, rfl, rfl, rfl, rfl, rfl, rfl, rfl⟩⟩
    · have a1 : ¬ cm 2 = 0 := a1
      have a2 : bg = 1 := a2
      subst a2
      have hn : ¬ so2 mn bd tu f1 f2 ck' = 0 → nI (mn 2) - 2 = nI (mn 2 - 2) := fun z => pk_sub (a := mn 2) (b := 2) (by have := so2_gt z; omega)
      have ev : judge 0 br 1 pay (whole2 pay es ck ol ne) lim = vrd (so2 mn bd tu f1 f2 ck') (nI (mn 2) - 2) lim := by
        refine judge_v (fun z => absurd z.1 (by decide)) ?_ ?_
        · rcases a3 with ⟨c1, c2⟩ | ⟨c1, c2, c3⟩
          · have c1 : ¬ br = 0 := c1
            have c2 : ¬ bd 2 = 0 := c2
            unfold so2
            rw [if_neg c2]
            exact ⟨fun _ => rfl, fun _ => Or.inl c1⟩
          · have c1 : br = 0 := c1
            rw [whole_C c2 c3]
            exact ⟨fun z => z.elim (fun z => absurd c1 z) id, Or.inr⟩
        · intro z
          rw [hn z]
          rcases a3 with ⟨c1, c2⟩ | ⟨c1, c2, c3⟩
          · have c2 : ¬ bd 2 = 0 := c2
            unfold so2 at z; rw [if_neg c2] at z; exact absurd rfl z
          · exact PayR_v c3.2.2.2.2.2.2 hl (by show mn 2 - 2 < 2 ^ 31; omega)
      have hp : vrd (so2 mn bd tu f1 f2 ck') (nI (mn 2) - 2) lim = 1 → PayR pay (mn 2 - 2) kp (400 * 2) ∧ mn 2 - 2 ≤ 400 := by
        intro z
        obtain ⟨z1, z2⟩ := vrd_1 z
        rw [hn z1] at z2
        rcases a3 with ⟨c1, c2⟩ | ⟨c1, c2, c3⟩
        · have c2 : ¬ bd 2 = 0 := c2
          unfold so2 at z1; rw [if_neg c2] at z1; exact absurd rfl z1
        · exact ⟨c3.2.2.2.2.2.2, le400 (by omega) z2 hl⟩
      obtain ⟨r1, r2, r3, r4, r5, r6⟩ := fin_sim (w := 2) (br := br) (bg := 1) (cm := cm) (mn := mn) (bd := bd) (tu := tu) (lf := lf) (fl := fl) (f1 := f1) (f2 := f2) (ck := ck') (vrd_3 (so2 mn bd tu f1 f2 ck') (nI (mn 2) - 2) lim) hK hT hp
      have e1 : takeC lim 126 ((pay, kept, br, 1, hk, ta), es, ck, he, ol, ne) = (vrd (so2 mn bd tu f1 f2 ck') (nI (mn 2) - 2) lim, finC (vrd (so2 mn bd tu f1 f2 ck') (nI (mn 2) - 2) lim) (pay, kept, br, 1, hk, ta), 0, 65535, 0, 0, 0) := by
        simp only [takeC]
        rw [ev]
        exact if_pos trivial
      have e2 : takeM2 lim 126 (cm, mn, kp, bd, tu, la, gd, ct, lf, fl, f1, f2, ck') = (vrd (so2 mn bd tu f1 f2 ck') (nI (mn 2) - 2) lim, begS2 (endA 2 (mn 2 - 2) (vrd (so2 mn bd tu f1 f2 ck') (nI (mn 2) - 2) lim) (cm, mn, kp, bd, tu, la, gd, ct, lf, fl, f1, f2, ck'))) := by
        unfold takeM2
        rw [if_pos rfl, if_neg (show ¬ (cm, mn, kp, bd, tu, la, gd, ct, lf, fl, f1, f2, ck').1 2 = 0 from a1)]
        rfl
      rw [e1, e2]
      generalize endA 2 (mn 2 - 2) (vrd (so2 mn bd tu f1 f2 ck') (nI (mn 2) - 2) lim) (cm, mn, kp, bd, tu, la, gd, ct, lf, fl, f1, f2, ck') = E at r1 r2 ⊢
      obtain ⟨cm', mn', kp', bd', tu', la', gd', ct', lf', fl', f1', f2', ck2⟩ := E
      exact ⟨rfl, r1, r2, Or.inl ⟨va_up_s cm' 2 0, r3, r4, r5, r6, rfl, rfl, rfl⟩⟩
  · rcases hA with ⟨a1, a2, a3, a4, a5, a6, a7, a8⟩ | ⟨a1, a2, a3⟩
    · have a1 : cm 2 = 0 := a1
      have a2 : br = 0 := a2
      have a4 : pay.2.1 = 0 := a4
      have a5 : pay.2.2 = 0 := a5
      have a6 : es = 0 := a6
      have a7 : ck = 65535 := a7
      have a8 : he = 0 := a8
      subst a2; subst a6; subst a7; subst a8
      have e1 : takeC lim b ((pay, kept, 0, bg, hk, ta), 0, 65535, 0, ol, ne) = (0, ((dec2 pay 0 0 65535 0 ol ne b).1, kept, (dec2 pay 0 0 65535 0 ol ne b).2.1, 1, hk, ta), (dec2 pay 0 0 65535 0 ol ne b).2.2) := by
        simp only [takeC]
        rw [if_neg q]
        exact if_pos trivial
      rw [e1]
      unfold takeM2
      rw [if_neg q, if_pos (show (cm, mn, kp, bd, tu, la, gd, ct, lf, fl, f1, f2, ck').1 2 = 0 from a1)]
      refine ⟨rfl, hK, hT, Or.inr ⟨?_, rfl, ?_⟩⟩
      · show ¬ va_up (va_up cm 2 0) 2 (va_up cm 2 0 2 + 1) 2 = 0
        rw [va_up_s]; omega
      · refine stepC (br := 0) (es := 0) (ck := 65535) (he := 0) (ol := ol) (ne := ne) (b := b) (mn := va_up mn 2 0) (kp := kp) (bd := upd bd 2 0) (tu := upd tu 2 0) (f1 := f1) (f2 := f2) (ck' := 65535) hB ⟨rfl, pk_us, pk_us.symm, rfl, isW_65535, ?_, ?_, ?_, ?_⟩
        · rw [va_up_s]; rfl
        · rw [va_up_s]; exact fun z => absurd z (by omega)
        · rw [va_up_s]; exact fun z => absurd z (by omega)
        · rw [va_up_s]; exact PayR_0 a4 a5
    · have a1 : ¬ cm 2 = 0 := a1
      have hc1 : ¬ va_up cm 2 (cm 2 + 1) 2 = 0 := by rw [va_up_s]; omega
      unfold takeM2
      rw [if_neg q, if_neg (show ¬ (cm, mn, kp, bd, tu, la, gd, ct, lf, fl, f1, f2, ck').1 2 = 0 from a1)]
      rcases a3 with ⟨c1, c2⟩ | c
      · have c1 : ¬ br = 0 := c1
        have c2 : ¬ bd 2 = 0 := c2
        have e1 : takeC lim b ((pay, kept, br, bg, hk, ta), es, ck, he, ol, ne) = (0, (pay, kept, br, 1, hk, ta), es, ck, he, ol, ne) := by
          simp only [takeC]
          rw [if_neg q, if_neg c1]
        rw [e1]
        exact ⟨rfl, hK, hT, Or.inr ⟨hc1, rfl, Or.inl ⟨c1, itB2_bad c2⟩⟩⟩
      · have c1 : br = 0 := c.1
        have e1 : takeC lim b ((pay, kept, br, bg, hk, ta), es, ck, he, ol, ne) = (0, ((dec2 pay br es ck he ol ne b).1, kept, (dec2 pay br es ck he ol ne b).2.1, 1, hk, ta), (dec2 pay br es ck he ol ne b).2.2) := by
          simp only [takeC]
          rw [if_neg q, if_pos c1]
        rw [e1]
        exact ⟨rfl, hK, hT, Or.inr ⟨hc1, rfl, stepC hB c⟩⟩
