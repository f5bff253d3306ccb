/-! The reference's own steps as functions. -/
abbrev AS : Type := (Nat → Int32) × Nat
def asay (a : AS) (b : Int32) : AS := (upd a.1 a.2 b, a.2 + 1)
def asays (a : AS) (bs : List Int32) : AS := bs.foldl asay a
theorem asays_app (a : AS) (x y : List Int32) : asays a (x ++ y) = asays (asays a x) y := List.foldl_append
theorem asays_n (bs : List Int32) : ∀ a : AS, (asays a bs).2 = a.2 + bs.length := by
  induction bs with
  | nil => intro a; rfl
  | cons b bs ih => intro a; show (asays (asay a b) bs).2 = _; rw [ih]; show a.2 + 1 + bs.length = a.2 + (bs.length + 1); omega
theorem upd_nI (c : Nat → Nat) (k v : Nat) : upd (fun j => nI (c j)) k (nI v) = fun j => nI (va_up c k v j) := by
  funext j
  unfold upd va_up
  split <;> rfl
def by4M (x : Int32) : List Int32 := [x >>> ((24 : Int32) &&& 31) &&& 255, x >>> ((16 : Int32) &&& 31) &&& 255, x >>> ((8 : Int32) &&& 31) &&& 255, x >>> ((0 : Int32) &&& 31) &&& 255]
def feedM (t : AS) (a b c d e : Int32) : Int32 × AS := if 380 < t.2 then (0, t) else (1, asays (asays (asays (asays (asays t (by4M a)) (by4M b)) (by4M c)) (by4M d)) (by4M e))
def endM (n : Nat) (k : Int32) : Int32 × Nat := if k < 0 then (0, n) else if k ≤ nI n then (1, k.toNatClampNeg) else (0, n)
def chk1 (x : Int32) : Int32 := if x &&& 1 = 1 then x >>> ((1 : Int32) &&& 31) ^^^ 33800 else x >>> ((1 : Int32) &&& 31)
def chkN : Nat → Int32 → Int32
  | 0, x => x
  | k + 1, x => chk1 (chkN k x)
def chkB (c b : Int32) : Int32 := chkN 8 (c ^^^ b)
/-- where a group that begins at i ends, of n bytes -/
def GE (f : Nat → Int32) (n i k : Nat) : Prop := i ≤ k ∧ k ≤ n ∧ k - i ≤ 254 ∧ (∀ j, i ≤ j → j < k → ¬ f j = 0) ∧ (k = n ∨ f k = 0 ∨ k - i = 254)
def keepM (w : Nat) (b : Int32) (mn : Nat → Nat) (kp : Nat → Int32) : (Nat → Nat) × (Nat → Int32) := (va_up mn w (mn w + 1), if mn w < 400 then upd kp (400 * w + mn w) b else kp)
def cgM (b : Int32) (cm mn : Nat → Nat) (kp : Nat → Int32) (lf fl : Int32) : (Nat → Nat) × (Nat → Int32) × Int32 × Int32 :=
  if lf ≤ 0 then
    ((if cm 0 = 0 then mn else if fl = 0 then (keepM 0 0 mn kp).1 else mn), (if cm 0 = 0 then kp else if fl = 0 then (keepM 0 0 mn kp).2 else kp), b - 1, if b = 255 then 1 else 0)
  else ((keepM 0 b mn kp).1, (keepM 0 b mn kp).2, lf - 1, fl)
def itT (w : Nat) (sg b : Int32) (tu : Nat → Int32) : Nat → Int32 := upd tu w (if tu w = 0 then (if b = sg then 1 else 0) else 0)
def itB1 (b : Int32) (bd tu : Nat → Int32) : Nat → Int32 := if tu 1 = 0 then bd else upd bd 1 (if bd 1 = 0 then (if b = 220 then 0 else if b = 221 then 0 else 1) else 1)
def itB2 (b : Int32) (bd tu : Nat → Int32) : Nat → Int32 := if tu 2 = 0 then bd else upd bd 2 (if bd 2 = 0 then (if b = 125 then 1 else 0) else 1)
def ctM1 (b : Int32) (mn : Nat → Nat) (kp bd tu : Nat → Int32) : (Nat → Nat) × (Nat → Int32) :=
  if itT 1 219 b tu 1 = 0 then keepM 1 (if tu 1 = 0 then b else if b = 220 then 192 else 219) mn kp else (mn, kp)
def ctM2 (b : Int32) (mn : Nat → Nat) (kp bd tu : Nat → Int32) (f1 f2 ck : Int32) : (Nat → Nat) × (Nat → Int32) × Int32 × Int32 × Int32 :=
  if itT 2 125 b tu 2 = 0 then
    (va_up mn 2 (mn 2 + 1), (if mn 2 < 2 then kp else if mn 2 - 2 < 400 then upd kp (800 + mn 2 - 2) f1 else kp), f2, (if tu 2 = 0 then b else b ^^^ 32), (if mn 2 < 2 then ck else chkB ck f1))
  else (mn, kp, f1, f2, ck)
def so0 (cm : Nat → Nat) (lf : Int32) : Int32 := if cm 0 = 0 then 0 else if lf = 0 then 1 else 0
def so1 (bd tu : Nat → Int32) : Int32 := if bd 1 = 0 then (if tu 1 = 0 then 1 else 0) else 0
def so2 (mn : Nat → Nat) (bd tu : Nat → Int32) (f1 f2 ck : Int32) : Int32 :=
  if bd 2 = 0 then (if tu 2 = 0 then (if 2 < mn 2 then (if (ck ^^^ (-1)) &&& 65535 = f1 ||| (f2 <<< ((8 : Int32) &&& 31)) then 1 else 0) else 0) else 0) else 0
theorem seg_len (f : Nat → Int32) : ∀ (n i : Nat), (seg f i n).length = n
  | 0, _ => rfl
  | n + 1, i => by show (seg f (i + 1) n).length + 1 = n + 1; rw [seg_len f n]
theorem grp_len (f : Nat → Int32) (i k : Nat) : (grp f i k).length = k - i + 1 := by
  show (seg f i (k - i)).length + 1 = _
  rw [seg_len]
theorem e0_scan (f : Nat → Int32) (len st : Nat) (bf : Int32) : ∀ (q i m : Nat), i + q = m → m ≤ len → st ≤ i → m - st < 254 → (∀ j, i ≤ j → j < m → ¬ f j = 0) → e0 f len (len - i) i st bf = e0 f len (len - m) m st bf := by
  intro q
  induction q with
  | zero => intro i m h _ _ _ _; rw [show i = m from by omega]
  | succ q ih =>
    intro i m h hm hs h254 hz
    rw [show len - i = (len - (i + 1)) + 1 from by omega]
    show (if f i = 0 then _ else if i + 1 - st = 254 then _ else e0 f len (len - (i + 1)) (i + 1) st bf) = _
    rw [if_neg (hz i (Nat.le_refl i) (by omega)), if_neg (by omega)]
    exact ih (i + 1) m (by omega) hm (by omega) h254 (fun j a b => hz j (by omega) b)
theorem e0_a {f : Nat → Int32} {n i k : Nat} (bf : Int32) (h : GE f n i k) (hk : k - i = 254) : e0 f n (n - i) i i bf = grp f i k ++ e0 f n (n - k) k k 1 := by
  obtain ⟨h1, h2, h3, h4, h5⟩ := h
  rw [e0_scan f n i bf (k - 1 - i) i (k - 1) (by omega) (by omega) (Nat.le_refl i) (by omega) (fun j a b => h4 j a (by omega))]
  rw [show n - (k - 1) = (n - k) + 1 from by omega]
  show (if f (k - 1) = 0 then _ else if k - 1 + 1 - i = 254 then grp f i (k - 1 + 1) ++ e0 f n (n - k) (k - 1 + 1) (k - 1 + 1) 1 else _) = _
  rw [if_neg (h4 (k - 1) (by omega) (by omega)), if_pos (by omega), show k - 1 + 1 = k from by omega]
theorem e0_a0 {f : Nat → Int32} {n i k : Nat} (bf : Int32) (h : GE f n i k) (hk : k - i = 254) (hn : n ≤ k) : e0 f n (n - i) i i bf = grp f i k ++ [0] := by
  rw [e0_a bf h hk]
  have e : k = n := by obtain ⟨h1, h2, -⟩ := h; omega
  rw [e, Nat.sub_self]
  show grp f i n ++ ((if n < n ∨ (1 : Int32) = 0 then grp f n n else []) ++ [0]) = _
  rw [if_neg (fun q => q.elim (fun q => Nat.lt_irrefl n q) (fun q => absurd q (by decide)))]
  rfl
theorem e0_b {f : Nat → Int32} {n i k : Nat} (bf : Int32) (h : GE f n i k) (hk : ¬ k - i = 254) (hn : k < n) : e0 f n (n - i) i i bf = grp f i k ++ e0 f n (n - (k + 1)) (k + 1) (k + 1) 0 := by
  obtain ⟨h1, h2, h3, h4, h5⟩ := h
  rw [e0_scan f n i bf (k - i) i k (by omega) (by omega) (Nat.le_refl i) (by omega) h4]
  rw [show n - k = (n - (k + 1)) + 1 from by omega]
  have hz : f k = 0 := by
    rcases h5 with q | q | q
    · omega
    · exact q
    · exact absurd q hk
  show (if f k = 0 then grp f i k ++ e0 f n (n - (k + 1)) (k + 1) (k + 1) 0 else _) = _
  rw [if_pos hz]
theorem e0_b0 {f : Nat → Int32} {n i k : Nat} (bf : Int32) (h : GE f n i k) (hk : ¬ k - i = 254) (hn : n ≤ k) (hb : i < n ∨ bf = 0) : e0 f n (n - i) i i bf = grp f i k ++ [0] := by
  obtain ⟨h1, h2, h3, h4, h5⟩ := h
  have e : k = n := by omega
  subst e
  rw [e0_scan f k i bf (k - i) i k (by omega) (by omega) (Nat.le_refl i) (by omega) h4, Nat.sub_self]
  show (if i < k ∨ bf = 0 then grp f i k else []) ++ [0] = _
  rw [if_pos hb]
def e2M (f : Nat → Int32) : Nat → Nat → Int32 → List Int32
  | 0, _, c => wb2 ((c ^^^ (-1)) &&& 255) ++ (wb2 ((c ^^^ (-1)) >>> ((8 : Int32) &&& 31) &&& 255) ++ [126])
  | k + 1, i, c => wb2 (f i) ++ e2M f k (i + 1) (chkB c (f i))
def AppTo (f : Nat → Int32) (n : Nat) (L : List Int32) (g : Nat → Int32) : Prop := (∀ i, i < n → g i = f i) ∧ ∀ k, k < L.length → g (n + k) = L.getD k 0
theorem asays_get : ∀ (L : List Int32) (f : Nat → Int32) (n : Nat), AppTo f n L (asays (f, n) L).1 := by
  intro L
  induction L with
  | nil => intro f n; exact ⟨fun _ _ => rfl, fun k h => absurd h (Nat.not_lt_zero k)⟩
  | cons b L ih =>
    intro f n
    obtain ⟨h1, h2⟩ := ih (upd f n b) (n + 1)
    refine ⟨fun i hi => ?_, fun k hk => ?_⟩
    · show (asays (upd f n b, n + 1) L).1 i = f i
      rw [h1 i (by omega)]
      exact pk_un (by omega)
    · show (asays (upd f n b, n + 1) L).1 (n + k) = _
      cases k with
      | zero => rw [h1 (n + 0) (by omega)]; exact pk_us
      | succ k =>
        rw [show n + (k + 1) = n + 1 + k from by omega, h2 k (Nat.lt_of_succ_lt_succ hk)]
        rfl
def tellC (way lim : Int32) (nT nO len : Nat) : Prop := (way = 0 ∨ way = 1 ∨ way = 2) ∧ ¬ lim < nI nT ∧ (way = 0 ∨ ¬ nT = 0) ∧ nO + len ≤ 2000
def encM (f : Nat → Int32) (n : Nat) (way : Int32) : List Int32 := if way = 0 then e0 f n n 0 0 0 else if way = 1 then e1 f n 0 else e2M f n 0 65535
/-- the reference's tell: what it answers, what is written behind it -/
def tellR (fT : Nat → Int32) (nT : Nat) (lim way : Int32) (fO : Nat → Int32) (nO : Nat) (v : Int32) (gO : Nat → Int32) (mO : Nat) : Prop :=
  (tellC way lim nT nO (encM fT nT way).length → v = nI (nO + (encM fT nT way).length) ∧ mO = nO + (encM fT nT way).length ∧ AppTo fO nO (encM fT nT way) gO) ∧
  (¬ tellC way lim nT nO (encM fT nT way).length → v = -1 ∧ gO = fO ∧ mO = nO)
theorem encM_0 (f : Nat → Int32) (n : Nat) : encM f n 0 = e0 f n n 0 0 0 := if_pos rfl
theorem encM_1 (f : Nat → Int32) (n : Nat) : encM f n 1 = e1 f n 0 := by unfold encM; rw [if_neg (by decide), if_pos rfl]
theorem encM_2 (f : Nat → Int32) (n : Nat) : encM f n 2 = e2M f n 0 65535 := by unfold encM; rw [if_neg (by decide), if_neg (by decide)]
theorem wb1_len (b : Int32) : (wb1 b).length ≤ 2 := by
  unfold wb1; split
  · exact Nat.le_refl 2
  · split
    · exact Nat.le_refl 2
    · exact Nat.le_succ 1
theorem wb2_len (b : Int32) : (wb2 b).length ≤ 2 := by
  unfold wb2; split
  · exact Nat.le_refl 2
  · split
    · exact Nat.le_refl 2
    · exact Nat.le_succ 1
theorem tell_w {fT fO : Nat → Int32} {nT nO : Nat} {lim way : Int32} (h0 : ¬ way = 0) (h1 : ¬ way = 1) (h2 : ¬ way = 2) : tellR fT nT lim way fO nO (-1) fO nO :=
  ⟨fun h => h.1.elim (fun q => absurd q h0) (fun q => q.elim (fun q => absurd q h1) (fun q => absurd q h2)), fun _ => ⟨rfl, rfl, rfl⟩⟩
theorem tell_l {fT fO : Nat → Int32} {nT nO : Nat} {lim way : Int32} (h : lim < nI nT) : tellR fT nT lim way fO nO (-1) fO nO :=
  ⟨fun q => absurd h q.2.1, fun _ => ⟨rfl, rfl, rfl⟩⟩
theorem tell_z {fT fO : Nat → Int32} {nT nO : Nat} {lim way : Int32} (hw : ¬ way = 0) (h : nT = 0) : tellR fT nT lim way fO nO (-1) fO nO :=
  ⟨fun q => q.2.2.1.elim (fun z => absurd z hw) (fun z => absurd h z), fun _ => ⟨rfl, rfl, rfl⟩⟩
theorem tell_x {fT fO fX : Nat → Int32} {nT nO nX : Nat} {lim way : Int32} {L : List Int32} {fF : Nat → Int32} (e : encM fT nT way = L) (eF : (fX, nX) = asays (fF, 0) L) (h : ¬ nO + nX ≤ 2000) : tellR fT nT lim way fO nO (-1) fO nO := by
  have q : nX = 0 + L.length := (congrArg Prod.snd eF).trans (asays_n L (fF, 0))
  refine ⟨fun z => absurd z.2.2.2 ?_, fun _ => ⟨rfl, rfl, rfl⟩⟩
  rw [e]; omega
theorem tell_k {fT fO fX g : Nat → Int32} {nT nO nX : Nat} {lim way : Int32} {L : List Int32} {fF : Nat → Int32} (e : encM fT nT way = L) (eF : (fX, nX) = asays (fF, 0) L) (hw : way = 0 ∨ way = 1 ∨ way = 2) (hl : ¬ lim < nI nT) (hz : way = 0 ∨ ¬ nT = 0) (h : nO + nX ≤ 2000)
    (h1 : ∀ i, i < nO → g i = fO i) (h2 : ∀ j, j < nX → g (nO + j) = fX j) : tellR fT nT lim way fO nO (nI (nO + nX)) g (nO + nX) := by
  have q : nX = L.length := by have q := (congrArg Prod.snd eF).trans (asays_n L (fF, 0)); simpa using q
  subst q
  have hx : fX = (asays (fF, 0) L).1 := congrArg Prod.fst eF
  have hg := (asays_get L fF 0).2
  refine ⟨fun _ => ?_, fun z => absurd ⟨hw, hl, hz, by rw [e]; exact h⟩ z⟩
  rw [e]
  refine ⟨rfl, rfl, h1, fun k hk => ?_⟩
  rw [h2 k hk, hx]
  have := hg k hk
  rwa [Nat.zero_add] at this
theorem e0_len (f : Nat → Int32) (len : Nat) : ∀ (k i st : Nat) (bf : Int32), i + k = len → st ≤ i → (e0 f len k i st bf).length ≤ 2 * k + (i - st) + 2 := by
  intro k
  induction k with
  | zero =>
    intro i st bf h hs
    show ((if st < len ∨ bf = 0 then grp f st len else []) ++ [0]).length ≤ _
    rw [List.length_append]
    split
    · rw [grp_len]; show len - st + 1 + 1 ≤ _; omega
    · show 0 + 1 ≤ _; omega
  | succ k ih =>
    intro i st bf h hs
    show (if f i = 0 then grp f st i ++ e0 f len k (i + 1) (i + 1) 0 else if i + 1 - st = 254 then grp f st (i + 1) ++ e0 f len k (i + 1) (i + 1) 1 else e0 f len k (i + 1) st bf).length ≤ _
    have h0 := ih (i + 1) (i + 1) 0 (by omega) (by omega)
    have h1 := ih (i + 1) (i + 1) 1 (by omega) (by omega)
    have h2 := ih (i + 1) st bf (by omega) (by omega)
    split
    · rw [List.length_append, grp_len]; omega
    · split
      · rw [List.length_append, grp_len]; omega
      · omega
def isw (v i : Int32) : Prop := (v = 1 ∧ (i = 0 ∨ i = 1 ∨ i = 2)) ∨ (v = 0 ∧ ¬ i = 0 ∧ ¬ i = 1 ∧ ¬ i = 2)
theorem isw_in {i : Int32} (h0 : ¬ i < 0) (h3 : ¬ 3 ≤ i) : i = 0 ∨ i = 1 ∨ i = 2 := by
  obtain ⟨j, hj, rfl⟩ := way_3 h0 h3
  rcases (show j = 0 ∨ j = 1 ∨ j = 2 by omega) with rfl | rfl | rfl
  · exact Or.inl rfl
  · exact Or.inr (Or.inl rfl)
  · exact Or.inr (Or.inr rfl)
theorem isw_out1 {i : Int32} (h0 : i < 0) : ¬ i = 0 ∧ ¬ i = 1 ∧ ¬ i = 2 := ⟨(way_out1 h0).1, (way_out1 h0).2.1, (way_out1 h0).2.2.1⟩
theorem isw_out2 {i : Int32} (h : ¬ i < 0) (h3 : 3 ≤ i) : ¬ i = 0 ∧ ¬ i = 1 ∧ ¬ i = 2 := ⟨(way_out2 h h3).1, (way_out2 h h3).2.1, (way_out2 h h3).2.2.1⟩
