/-! The class's own steps as functions. A row: contents, how many, spilt. -/
abbrev RS : Type := (Nat → Int32) × Nat × Int32
def rput (N : Nat) (r : RS) (b : Int32) : RS := if r.2.1 < N then (upd r.1 r.2.1 b, r.2.1 + 1, r.2.2) else (r.1, r.2.1, 1)
def rin (n : Nat) (i : Int32) : Prop := ¬ i < 0 ∧ ¬ nI n ≤ i
theorem rin_dec (n : Nat) (i : Int32) : rin n i ∨ ¬ rin n i := Classical.em _
noncomputable def rhas (n : Nat) (i : Int32) : Int32 := if ¬ i < 0 then (if nI n ≤ i then 0 else 1) else 0
noncomputable def rat (r : RS) (i : Int32) : Int32 := if rhas r.2.1 i = 0 then (-1) else r.1 i.toNatClampNeg
noncomputable def rturn (r : RS) (i mask : Int32) : RS := if rhas r.2.1 i = 0 then r else (upd r.1 i.toNatClampNeg (r.1 i.toNatClampNeg ^^^ mask), r.2.1, r.2.2)
def rcut (r : RS) (j : Nat) : RS := if j ≤ r.2.1 then (r.1, j, 0) else r
def rputs (N : Nat) (r : RS) (bs : List Int32) : RS := bs.foldl (rput N) r
theorem rput_le {N : Nat} {r : RS} {b : Int32} (h : r.2.1 ≤ N) : (rput N r b).2.1 ≤ N := by
  unfold rput; split
  · show r.2.1 + 1 ≤ N; omega
  · exact h
theorem rcut_le {N : Nat} {r : RS} {j : Nat} (h : r.2.1 ≤ N) : (rcut r j).2.1 ≤ N := by
  unfold rcut; split
  · show j ≤ N; omega
  · exact h
theorem rputs_le {N : Nat} (bs : List Int32) : ∀ {r : RS}, r.2.1 ≤ N → (rputs N r bs).2.1 ≤ N := by
  induction bs with
  | nil => intro r h; exact h
  | cons b bs ih => intro r h; exact ih (rput_le h)
theorem rputs_app {N : Nat} (r : RS) (a b : List Int32) : rputs N r (a ++ b) = rputs N (rputs N r a) b := List.foldl_append
theorem rturn_n (r : RS) (i k : Int32) : (rturn r i k).2.1 = r.2.1 := by
  unfold rturn; split <;> rfl
theorem rhas_nI {n j : Nat} (h : j < n) (hn : n < 2 ^ 31) : rhas n (nI j) = 1 := by
  unfold rhas
  rw [if_pos (nI_pos (by omega)), if_neg (nI_ge h hn)]
theorem rhas_ne {n : Nat} {i : Int32} (h : ¬ rhas n i = 0) : rhas n i = 1 := by
  unfold rhas at h ⊢
  split
  · split
    · rename_i h1 h2; simp [h1, h2] at h
    · rfl
  · rename_i h1; simp [h1] at h
theorem rhas_spec {n : Nat} {i : Int32} (h : ¬ rhas n i = 0) : ¬ i < 0 ∧ ¬ nI n ≤ i := by
  unfold rhas at h
  by_cases h1 : i < 0
  · rw [if_neg (fun q => q h1)] at h; exact absurd rfl h
  · rw [if_pos h1] at h
    by_cases h2 : nI n ≤ i
    · rw [if_pos h2] at h; exact absurd rfl h
    · exact ⟨h1, h2⟩
theorem rhas_nat {n : Nat} {i : Int32} (h : ¬ rhas n i = 0) (hn : n < 2 ^ 31) : ∃ j : Nat, j < n ∧ i = nI j := by
  obtain ⟨h1, h2⟩ := rhas_spec h
  obtain ⟨j, hj, rfl⟩ := nI_of h1
  refine ⟨j, ?_, rfl⟩
  rcases Nat.lt_or_ge j n with q | q
  · exact q
  · exact absurd (nI_le q hj) h2
theorem rhas_in {n N : Nat} {i : Int32} (h : ¬ rhas n i = 0) (hn : n ≤ N) (hN : N < 2 ^ 31) : vp_in i N := by
  obtain ⟨j, hj, rfl⟩ := rhas_nat h (by omega)
  exact vp_in_nI (by omega) hN
theorem rat_nI {r : RS} {j : Nat} (h : j < r.2.1) (hn : r.2.1 < 2 ^ 31) : rat r (nI j) = r.1 j := by
  unfold rat
  rw [rhas_nI h hn, if_neg (by decide), nI_clamp (by omega)]
def crc1 (x : Int32) : Int32 := if x &&& 1 = 0 then ft_ushr x 1 else ft_ushr x 1 ^^^ 33800
def crcN : Nat → Int32 → Int32
  | 0, x => x
  | k + 1, x => crc1 (crcN k x)
def crcB (sum b : Int32) : Int32 := crcN 8 (sum ^^^ b)
/-- what a reader has in common: payload, kept, broken, begun, hasKept, tallies -/
abbrev CS : Type := RS × RS × Int32 × Int32 × Int32 × (Nat → Int32)
def rcut0 (r : RS) : RS := (r.1, 0, 0)
theorem rcut_0 (r : RS) : rcut r 0 = rcut0 r := by simp [rcut, rcut0]
def beg0 (pay : RS) (hd b : Int32) : RS := if hd = 0 then pay else if hd = 255 then pay else rput 400 pay 0
def dec0 (pay : RS) (hd mi b : Int32) : RS × Int32 × Int32 := if mi ≤ 0 then (beg0 pay hd b, b, b - 1) else (rput 400 pay b, hd, mi - 1)
def esc1 (pay : RS) (br b : Int32) : RS × Int32 := if b = 220 then (rput 400 pay 192, br) else if b = 221 then (rput 400 pay 219, br) else (pay, 1)
def dec1 (pay : RS) (br es b : Int32) : RS × Int32 × Int32 := if es = 0 then (if b = 219 then (pay, br, 1) else (rput 400 pay b, br, es)) else ((esc1 pay br b).1, (esc1 pay br b).2, 0)
def hold2 (pay : RS) (ck he ol ne b : Int32) : RS × Int32 × Int32 × Int32 × Int32 := if he = 2 then (rput 400 pay ol, crcB ck ol, he, ne, b) else (pay, ck, he + 1, ne, b)
def dec2 (pay : RS) (br es ck he ol ne b : Int32) : RS × Int32 × Int32 × Int32 × Int32 × Int32 × Int32 :=
  if es = 0 then (if b = 125 then (pay, br, 1, ck, he, ol, ne) else ((hold2 pay ck he ol ne b).1, br, es, (hold2 pay ck he ol ne b).2))
  else (if b = 125 then (pay, 1, 0, ck, he, ol, ne) else ((hold2 pay ck he ol ne (b ^^^ 32)).1, br, 0, (hold2 pay ck he ol ne (b ^^^ 32)).2))
def whole0 (hd mi : Int32) : Int32 := if hd = 0 then 0 else if mi = 0 then 1 else 0
def whole1 (es : Int32) : Int32 := if es = 0 then 1 else 0
def whole2 (pay : RS) (es ck ol ne : Int32) : Int32 := if es = 0 then (if pay.2.1 = 0 then 0 else if (ck ^^^ 65535) = (ol ||| (ne <<< ((8 : Int32) &&& 31))) then 1 else 0) else 0
def judge (emp : Int32) (br bg : Int32) (pay : RS) (wh most : Int32) : Int32 :=
  if bg = 0 ∧ emp = 0 then 0 else if ¬ br = 0 ∨ wh = 0 then 2 else if ¬ pay.2.2 = 0 ∨ ¬ nI pay.2.1 ≤ most then 3 else 1
theorem judge_4 (emp br bg : Int32) (pay : RS) (wh most : Int32) : judge emp br bg pay wh most = 0 ∨ judge emp br bg pay wh most = 1 ∨ judge emp br bg pay wh most = 2 ∨ judge emp br bg pay wh most = 3 := by
  unfold judge
  split
  · exact Or.inl rfl
  · split
    · exact Or.inr (Or.inr (Or.inl rfl))
    · split
      · exact Or.inr (Or.inr (Or.inr rfl))
      · exact Or.inr (Or.inl rfl)
/-- what is in common behind a mark with verdict v -/
def finC (v : Int32) (st : CS) : CS :=
  if v = 0 then (rcut0 st.1, st.2.1, 0, 0, st.2.2.2.2.1, st.2.2.2.2.2)
  else if v = 1 then (rcut0 st.2.1, st.1, 0, 0, 1, upd st.2.2.2.2.2 1 (st.2.2.2.2.2 1 + 1))
  else if v = 2 then (rcut0 st.1, st.2.1, 0, 0, st.2.2.2.2.1, upd st.2.2.2.2.2 2 (st.2.2.2.2.2 2 + 1))
  else (rcut0 st.1, st.2.1, 0, 0, st.2.2.2.2.1, upd st.2.2.2.2.2 3 (st.2.2.2.2.2 3 + 1))
/-- n bytes from i on -/
def seg (f : Nat → Int32) : Nat → Nat → List Int32
  | _, 0 => []
  | i, n + 1 => f i :: seg f (i + 1) n
def grp (f : Nat → Int32) (i j : Nat) : List Int32 := nI (j - i + 1) :: seg f i (j - i)
/-- what way 0 tells from place i on, k bytes being left, the group begun at st -/
def e0 (f : Nat → Int32) (len : Nat) : Nat → Nat → Nat → Int32 → List Int32
  | 0, _, st, bf => (if st < len ∨ bf = 0 then grp f st len else []) ++ [0]
  | k + 1, i, st, bf => if f i = 0 then grp f st i ++ e0 f len k (i + 1) (i + 1) 0 else if i + 1 - st = 254 then grp f st (i + 1) ++ e0 f len k (i + 1) (i + 1) 1 else e0 f len k (i + 1) st bf
def wb1 (b : Int32) : List Int32 := if b = 192 then [219, 220] else if b = 219 then [219, 221] else [b]
def e1 (f : Nat → Int32) : Nat → Nat → List Int32
  | 0, _ => [192]
  | k + 1, i => wb1 (f i) ++ e1 f k (i + 1)
def wb2 (b : Int32) : List Int32 := if b = 125 then [125, b ^^^ 32] else if b = 126 then [125, b ^^^ 32] else [b]
def e2 (f : Nat → Int32) : Nat → Nat → Int32 → List Int32
  | 0, _, sum => wb2 ((sum ^^^ 65535) &&& 255) ++ (wb2 (ft_ushr (sum ^^^ 65535) 8) ++ [126])
  | k + 1, i, sum => wb2 (f i) ++ e2 f k (i + 1) (crcB sum (f i))
theorem seg_succ (f : Nat → Int32) (i n : Nat) : seg f i (n + 1) = f i :: seg f (i + 1) n := rfl
theorem rputs_cons {N : Nat} (r : RS) (b : Int32) (bs : List Int32) : rputs N r (b :: bs) = rputs N (rput N r b) bs := rfl
theorem rputs_nil {N : Nat} (r : RS) : rputs N r [] = r := rfl
theorem dec0_le {pay : RS} {hd mi b : Int32} (h : pay.2.1 ≤ 400) : (dec0 pay hd mi b).1.2.1 ≤ 400 := by
  unfold dec0
  split
  · show (beg0 pay hd b).2.1 ≤ 400
    unfold beg0
    split
    · exact h
    · split
      · exact h
      · exact rput_le h
  · exact rput_le h
theorem esc1_le {pay : RS} {br b : Int32} (h : pay.2.1 ≤ 400) : (esc1 pay br b).1.2.1 ≤ 400 := by
  unfold esc1
  split
  · exact rput_le h
  · split
    · exact rput_le h
    · exact h
theorem dec1_le {pay : RS} {br es b : Int32} (h : pay.2.1 ≤ 400) : (dec1 pay br es b).1.2.1 ≤ 400 := by
  unfold dec1
  split
  · split
    · exact h
    · exact rput_le h
  · exact esc1_le h
theorem hold2_le {pay : RS} {ck he ol ne b : Int32} (h : pay.2.1 ≤ 400) : (hold2 pay ck he ol ne b).1.2.1 ≤ 400 := by
  unfold hold2
  split
  · exact rput_le h
  · exact h
theorem dec2_le {pay : RS} {br es ck he ol ne b : Int32} (h : pay.2.1 ≤ 400) : (dec2 pay br es ck he ol ne b).1.2.1 ≤ 400 := by
  unfold dec2
  split
  · split
    · exact h
    · exact hold2_le h
  · split
    · exact h
    · exact hold2_le h
theorem finC_le {v : Int32} {pay kept : RS} {br bg hk : Int32} {ta : Nat → Int32} (h1 : pay.2.1 ≤ 400) (h2 : kept.2.1 ≤ 400) : (finC v (pay, kept, br, bg, hk, ta)).1.2.1 ≤ 400 ∧ (finC v (pay, kept, br, bg, hk, ta)).2.1.2.1 ≤ 400 := by
  unfold finC
  split
  · exact ⟨Nat.zero_le _, h2⟩
  · split
    · exact ⟨Nat.zero_le _, h1⟩
    · split
      · exact ⟨Nat.zero_le _, h2⟩
      · exact ⟨Nat.zero_le _, h2⟩
def by4 (x : Int32) : List Int32 := [ft_ushr x 24 &&& 255, ft_ushr x 16 &&& 255, ft_ushr x 8 &&& 255, ft_ushr x 0 &&& 255]
def feedX (t : RS) (a b c d e : Int32) : Int32 × RS := if 380 < t.2.1 then (0, t) else (1, rputs 400 (rputs 400 (rputs 400 (rputs 400 (rputs 400 t (by4 a)) (by4 b)) (by4 c)) (by4 d)) (by4 e))
def endX (t : RS) (n : Int32) : Int32 × RS := if n < 0 then (0, t) else if n ≤ nI t.2.1 then (1, rcut t n.toNatClampNeg) else (0, t)
def limX (most n : Int32) : Int32 × Int32 := if n < 1 then (0, most) else if n ≤ 400 then (1, n) else (0, most)
def mayT (emp : Int32) (t : RS) (most : Int32) : Int32 := if most < nI t.2.1 then 0 else (if t.2.1 = 0 then emp else 1)
def latV (hk : Int32) (kept : RS) : Int32 := if hk = 0 then (-1) else nI kept.2.1
def wfr (s : RS) (L : List Int32) : Int32 × RS := if (rputs 2000 s L).2.2 = 0 then (1, rputs 2000 s L) else (0, rcut (rputs 2000 s L) s.2.1)
def tellW (emp : Int32) (L : List Int32) (tape stream : RS) (most : Int32) : Int32 × RS × RS :=
  if mayT emp tape most = 0 then ((-1), rcut0 tape, stream) else if (wfr stream L).1 = 0 then ((-1), rcut0 tape, (wfr stream L).2) else (nI (wfr stream L).2.2.1, rcut0 tape, (wfr stream L).2)
def tellX (tape stream : RS) (most way : Int32) : Int32 × RS × RS :=
  if way = 0 then tellW 1 (e0 tape.1 tape.2.1 tape.2.1 0 0 0) tape stream most
  else if way = 1 then tellW 0 (e1 tape.1 tape.2.1 0) tape stream most
  else if way = 2 then tellW 0 (e2 tape.1 tape.2.1 0 65535) tape stream most
  else ((-1), rcut0 tape, stream)
def drn {σ : Type} (tk : Int32 → σ → Int32 × σ) (f : Nat → Int32) : Nat → Nat → Int32 → σ → Int32 × σ
  | 0, _, good, st => (good, st)
  | n + 1, i, good, st => drn tk f n (i + 1) (if (tk (f i) st).1 = 1 then good + 1 else good) (tk (f i) st).2
def ft_wv (g e c : Nat) : Nat → Option Nat := va_up (va_up (va_up (fun _ => none) 0 (some g)) 1 (some e)) 2 (some c)
def wayR (g e c : Nat) (i : Int32) (r : Option Nat) : Prop := (i = 0 ∧ r = some g) ∨ (i = 1 ∧ r = some e) ∨ (i = 2 ∧ r = some c) ∨ (¬ i = 0 ∧ ¬ i = 1 ∧ ¬ i = 2 ∧ r = none)
def wRow (h a : Nat) (cI : ClassId) (N : Nat) (r : RS) : va_W := [(h, .inr (3, [.ref a, .int (nI r.2.1), .int r.2.2])), (a, .inl (cI, N, .inl r.1))]
def wG (h qt : Nat) (cI : ClassId) (u : Nat × Nat × Nat × Nat × CS × Int32 × Int32) : va_W := match u with
  | (q1, q2, q3, q4, (pay, kept, br, bg, hk, ta), hd, mi) => [(h, .inr (2, [.int 0, .int 1, .ref q1, .ref q3, .int br, .int bg, .int hk, .ref qt, .int hd, .int mi])), (q1, .inr (3, [.ref q2, .int (nI pay.2.1), .int pay.2.2])), (q2, .inl (cI, 400, .inl pay.1)), (q3, .inr (3, [.ref q4, .int (nI kept.2.1), .int kept.2.2])), (q4, .inl (cI, 400, .inl kept.1)), (qt, .inl (cI, 4, .inl ta))]
def takeG (most b : Int32) (st : CS × Int32 × Int32) : Int32 × CS × Int32 × Int32 := match st with
  | ((pay, kept, br, bg, hk, ta), hd, mi) => if b = 0 then ((judge 1 br bg pay (whole0 hd mi) most), finC (judge 1 br bg pay (whole0 hd mi) most) (pay, kept, br, bg, hk, ta), 0, 0) else if br = 0 then (0, (((dec0 pay hd mi b).1, kept, br, 1, hk, ta), (dec0 pay hd mi b).2)) else (0, (pay, kept, br, 1, hk, ta), hd, mi)
def wE (h qt : Nat) (cI : ClassId) (u : Nat × Nat × Nat × Nat × CS × Int32) : va_W := match u with
  | (q1, q2, q3, q4, (pay, kept, br, bg, hk, ta), es) => [(h, .inr (1, [.int 192, .int 0, .ref q1, .ref q3, .int br, .int bg, .int hk, .ref qt, .int es])), (q1, .inr (3, [.ref q2, .int (nI pay.2.1), .int pay.2.2])), (q2, .inl (cI, 400, .inl pay.1)), (q3, .inr (3, [.ref q4, .int (nI kept.2.1), .int kept.2.2])), (q4, .inl (cI, 400, .inl kept.1)), (qt, .inl (cI, 4, .inl ta))]
def takeE (most b : Int32) (st : CS × Int32) : Int32 × CS × Int32 := match st with
  | ((pay, kept, br, bg, hk, ta), es) => if b = 192 then ((judge 0 br bg pay (whole1 es) most), finC (judge 0 br bg pay (whole1 es) most) (pay, kept, br, bg, hk, ta), 0) else if br = 0 then (0, (((dec1 pay br es b).1, kept, (dec1 pay br es b).2.1, 1, hk, ta), (dec1 pay br es b).2.2)) else (0, (pay, kept, br, 1, hk, ta), es)
def wC (h qt : Nat) (cI : ClassId) (u : Nat × Nat × Nat × Nat × CS × Int32 × Int32 × Int32 × Int32 × Int32) : va_W := match u with
  | (q1, q2, q3, q4, (pay, kept, br, bg, hk, ta), es, ck, he, ol, ne) => [(h, .inr (0, [.int 126, .int 0, .ref q1, .ref q3, .int br, .int bg, .int hk, .ref qt, .int es, .int ck, .int he, .int ol, .int ne])), (q1, .inr (3, [.ref q2, .int (nI pay.2.1), .int pay.2.2])), (q2, .inl (cI, 400, .inl pay.1)), (q3, .inr (3, [.ref q4, .int (nI kept.2.1), .int kept.2.2])), (q4, .inl (cI, 400, .inl kept.1)), (qt, .inl (cI, 4, .inl ta))]
def takeC (most b : Int32) (st : CS × Int32 × Int32 × Int32 × Int32 × Int32) : Int32 × CS × Int32 × Int32 × Int32 × Int32 × Int32 := match st with
  | ((pay, kept, br, bg, hk, ta), es, ck, he, ol, ne) => if b = 126 then ((judge 0 br bg pay (whole2 pay es ck ol ne) most), finC (judge 0 br bg pay (whole2 pay es ck ol ne) most) (pay, kept, br, bg, hk, ta), 0, 65535, 0, 0, 0) else if br = 0 then (0, (((dec2 pay br es ck he ol ne b).1, kept, (dec2 pay br es ck he ol ne b).2.1, 1, hk, ta), (dec2 pay br es ck he ol ne b).2.2)) else (0, (pay, kept, br, 1, hk, ta), es, ck, he, ol, ne)
def tal (ta : Nat → Int32) (k : Int32) : Int32 := if k < 1 then (-1) else if 3 < k then (-1) else ta k.toNatClampNeg
theorem tal_in {k : Int32} (h1 : ¬ k < 1) (h3 : ¬ 3 < k) : vp_in k 4 := by
  rw [vp_in_iff]
  rw [Int32.lt_iff_toInt_lt] at h1 h3
  have e1 : (1 : Int32).toInt = 1 := by decide
  have e3 : (3 : Int32).toInt = 3 := by decide
  omega
theorem takeG_le {most b : Int32} {st : CS × Int32 × Int32} (h1 : st.1.1.2.1 ≤ 400) (h2 : st.1.2.1.2.1 ≤ 400) : (takeG most b st).2.1.1.2.1 ≤ 400 ∧ (takeG most b st).2.1.2.1.2.1 ≤ 400 := by
  obtain ⟨⟨pay, kept, br, bg, hk, ta⟩, hd, mi⟩ := st
  simp only [takeG]
  split
  · exact finC_le h1 h2
  · split
    · exact ⟨dec0_le h1, h2⟩
    · exact ⟨h1, h2⟩
theorem takeE_le {most b : Int32} {st : CS × Int32} (h1 : st.1.1.2.1 ≤ 400) (h2 : st.1.2.1.2.1 ≤ 400) : (takeE most b st).2.1.1.2.1 ≤ 400 ∧ (takeE most b st).2.1.2.1.2.1 ≤ 400 := by
  obtain ⟨⟨pay, kept, br, bg, hk, ta⟩, es⟩ := st
  simp only [takeE]
  split
  · exact finC_le h1 h2
  · split
    · exact ⟨dec1_le h1, h2⟩
    · exact ⟨h1, h2⟩
theorem takeC_le {most b : Int32} {st : CS × Int32 × Int32 × Int32 × Int32 × Int32} (h1 : st.1.1.2.1 ≤ 400) (h2 : st.1.2.1.2.1 ≤ 400) : (takeC most b st).2.1.1.2.1 ≤ 400 ∧ (takeC most b st).2.1.2.1.2.1 ≤ 400 := by
  obtain ⟨⟨pay, kept, br, bg, hk, ta⟩, es, ck, he, ol, ne⟩ := st
  simp only [takeC]
  split
  · exact finC_le h1 h2
  · split
    · exact ⟨dec2_le h1, h2⟩
    · exact ⟨h1, h2⟩
def comeX (most way b : Int32) (g : CS × Int32 × Int32) (e : CS × Int32) (c : CS × Int32 × Int32 × Int32 × Int32 × Int32) : Int32 × (CS × Int32 × Int32) × (CS × Int32) × (CS × Int32 × Int32 × Int32 × Int32 × Int32) :=
  if way = 0 then ((takeG most (b &&& 255) g).1, (takeG most (b &&& 255) g).2, e, c)
  else if way = 1 then ((takeE most (b &&& 255) e).1, g, (takeE most (b &&& 255) e).2, c)
  else if way = 2 then ((takeC most (b &&& 255) c).1, g, e, (takeC most (b &&& 255) c).2)
  else ((-1), g, e, c)
def drX (z r : RS) (most way : Int32) (g : CS × Int32 × Int32) (e : CS × Int32) (c : CS × Int32 × Int32 × Int32 × Int32 × Int32) : Int32 × RS × (CS × Int32 × Int32) × (CS × Int32) × (CS × Int32 × Int32 × Int32 × Int32 × Int32) :=
  if way = 0 then ((drn (takeG most) r.1 r.2.1 0 0 g).1, rcut0 r, (drn (takeG most) r.1 r.2.1 0 0 g).2, e, c)
  else if way = 1 then ((drn (takeE most) r.1 r.2.1 0 0 e).1, rcut0 r, g, (drn (takeE most) r.1 r.2.1 0 0 e).2, c)
  else if way = 2 then ((drn (takeC most) r.1 r.2.1 0 0 c).1, rcut0 r, g, e, (drn (takeC most) r.1 r.2.1 0 0 c).2)
  else ((-1), z, g, e, c)
def pick3 (way a b c : Int32) : Int32 := if way = 0 then a else if way = 1 then b else if way = 2 then c else (-1)
theorem rhas_nar (n : Nat) (i : Int32) : narrow .boolean (.int (rhas n i)) = .int (rhas n i) := by
  unfold rhas
  split
  · split <;> decide
  · decide
theorem way_3 {i : Int32} (h0 : ¬ i < 0) (h3 : ¬ nI 3 ≤ i) : ∃ j : Nat, j < 3 ∧ i = nI j := by
  obtain ⟨j, hj, rfl⟩ := nI_of h0
  refine ⟨j, ?_, rfl⟩
  rcases Nat.lt_or_ge j 3 with q | q
  · exact q
  · exact absurd (nI_le q hj) h3
theorem way_inb {i : Int32} (h0 : ¬ i < 0) (h3 : ¬ nI 3 ≤ i) : vp_in i 3 := by
  obtain ⟨j, hj, rfl⟩ := way_3 h0 h3
  exact vp_in_nI hj (by omega)
theorem way_in {g e c : Nat} {i : Int32} (h0 : ¬ i < 0) (h3 : ¬ nI 3 ≤ i) : wayR g e c i (ft_wv g e c i.toNatClampNeg) := by
  obtain ⟨j, hj, rfl⟩ := way_3 h0 h3
  rw [nI_clamp (n := j) (by omega)]
  rcases (show j = 0 ∨ j = 1 ∨ j = 2 by omega) with rfl | rfl | rfl
  · exact Or.inl ⟨rfl, rfl⟩
  · exact Or.inr (Or.inl ⟨rfl, rfl⟩)
  · exact Or.inr (Or.inr (Or.inl ⟨rfl, rfl⟩))
theorem way_out1 {i : Int32} (h0 : i < 0) : ¬ i = 0 ∧ ¬ i = 1 ∧ ¬ i = 2 ∧ (none : Option Nat) = none :=
  ⟨fun q => by rw [q] at h0; exact absurd h0 (by decide), fun q => by rw [q] at h0; exact absurd h0 (by decide), fun q => by rw [q] at h0; exact absurd h0 (by decide), rfl⟩
theorem way_out2 {i : Int32} (_ : ¬ i < 0) (h3 : nI 3 ≤ i) : ¬ i = 0 ∧ ¬ i = 1 ∧ ¬ i = 2 ∧ (none : Option Nat) = none :=
  ⟨fun q => by rw [q] at h3; exact absurd h3 (by decide), fun q => by rw [q] at h3; exact absurd h3 (by decide), fun q => by rw [q] at h3; exact absurd h3 (by decide), rfl⟩
