/-! The reference's own steps as functions. -/
abbrev AS : Type := (Nat → Int32) × Nat
def asay (a : AS) (b : Int32) : AS := (upd a.1 a.2 b, a.2 + 1)
def asays (a : AS) (bs : List Int32) : AS := bs.foldl asay a
theorem asays_app (a : AS) (x y : List Int32) : asays a (x ++ y) = asays (asays a x) y := List.foldl_append
theorem asays_n (bs : List Int32) : ∀ a : AS, (asays a bs).2 = a.2 + bs.length := by
  induction bs with
  | nil => intro a; rfl
  | cons b bs ih => intro a; show (asays (asay a b) bs).2 = _; rw [ih]; show a.2 + 1 + bs.length = a.2 + (bs.length + 1); omega
theorem upd_nI (c : Nat → Nat) (k v : Nat) : upd (fun j => nI (c j)) k (nI v) = fun j => nI (va_up c k v j) := by
  funext j
  unfold upd va_up
  split <;> rfl
def by4M (x : Int32) : List Int32 := [x >>> ((24 : Int32) &&& 31) &&& 255, x >>> ((16 : Int32) &&& 31) &&& 255, x >>> ((8 : Int32) &&& 31) &&& 255, x >>> ((0 : Int32) &&& 31) &&& 255]
def feedM (t : AS) (a b c d e : Int32) : Int32 × AS := if 380 < t.2 then (0, t) else (1, asays (asays (asays (asays (asays t (by4M a)) (by4M b)) (by4M c)) (by4M d)) (by4M e))
def endM (n : Nat) (k : Int32) : Int32 × Nat := if k < 0 then (0, n) else if k ≤ nI n then (1, k.toNatClampNeg) else (0, n)
def chk1 (x : Int32) : Int32 := if x &&& 1 = 1 then x >>> ((1 : Int32) &&& 31) ^^^ 33800 else x >>> ((1 : Int32) &&& 31)
def chkN : Nat → Int32 → Int32
  | 0, x => x
  | k + 1, x => chk1 (chkN k x)
def chkB (c b : Int32) : Int32 := chkN 8 (c ^^^ b)
/-- where a group that begins at i ends, of n bytes -/
def GE (f : Nat → Int32) (n i k : Nat) : Prop := i ≤ k ∧ k ≤ n ∧ k - i ≤ 254 ∧ (∀ j, i ≤ j → j < k → ¬ f j = 0) ∧ (k = n ∨ f k = 0 ∨ k - i = 254)
def keepM (w : Nat) (b : Int32) (mn : Nat → Nat) (kp : Nat → Int32) : (Nat → Nat) × (Nat → Int32) := (va_up mn w (mn w + 1), if mn w < 400 then upd kp (400 * w + mn w) b else kp)
def cgM (b : Int32) (cm mn : Nat → Nat) (kp : Nat → Int32) (lf fl : Int32) : (Nat → Nat) × (Nat → Int32) × Int32 × Int32 :=
  if lf ≤ 0 then
    ((if cm 0 = 0 then mn else if fl = 0 then (keepM 0 0 mn kp).1 else mn), (if cm 0 = 0 then kp else if fl = 0 then (keepM 0 0 mn kp).2 else kp), b - 1, if b = 255 then 1 else 0)
  else ((keepM 0 b mn kp).1, (keepM 0 b mn kp).2, lf - 1, fl)
def itT (w : Nat) (sg b : Int32) (tu : Nat → Int32) : Nat → Int32 := upd tu w (if tu w = 0 then (if b = sg then 1 else 0) else 0)
def itB1 (b : Int32) (bd tu : Nat → Int32) : Nat → Int32 := if tu 1 = 0 then bd else upd bd 1 (if bd 1 = 0 then (if b = 220 then 0 else if b = 221 then 0 else 1) else 1)
def itB2 (b : Int32) (bd tu : Nat → Int32) : Nat → Int32 := if tu 2 = 0 then bd else upd bd 2 (if bd 2 = 0 then (if b = 125 then 1 else 0) else 1)
def ctM1 (b : Int32) (mn : Nat → Nat) (kp bd tu : Nat → Int32) : (Nat → Nat) × (Nat → Int32) :=
  if itT 1 219 b tu 1 = 0 then keepM 1 (if tu 1 = 0 then b else if b = 220 then 192 else 219) mn kp else (mn, kp)
def ctM2 (b : Int32) (mn : Nat → Nat) (kp bd tu : Nat → Int32) (f1 f2 ck : Int32) : (Nat → Nat) × (Nat → Int32) × Int32 × Int32 × Int32 :=
  if itT 2 125 b tu 2 = 0 then
    (va_up mn 2 (mn 2 + 1), (if mn 2 < 2 then kp else if mn 2 - 2 < 400 then upd kp (800 + mn 2 - 2) f1 else kp), f2, (if tu 2 = 0 then b else b ^^^ 32), (if mn 2 < 2 then ck else chkB ck f1))
  else (mn, kp, f1, f2, ck)
def so0 (cm : Nat → Nat) (lf : Int32) : Int32 := if cm 0 = 0 then 0 else if lf = 0 then 1 else 0
def so1 (bd tu : Nat → Int32) : Int32 := if bd 1 = 0 then (if tu 1 = 0 then 1 else 0) else 0
def so2 (mn : Nat → Nat) (bd tu : Nat → Int32) (f1 f2 ck : Int32) : Int32 :=
  if bd 2 = 0 then (if tu 2 = 0 then (if 2 < mn 2 then (if (ck ^^^ (-1)) &&& 65535 = f1 ||| (f2 <<< ((8 : Int32) &&& 31)) then 1 else 0) else 0) else 0) else 0
def isw (v i : Int32) : Prop := (v = 1 ∧ (i = 0 ∨ i = 1 ∨ i = 2)) ∨ (v = 0 ∧ ¬ i = 0 ∧ ¬ i = 1 ∧ ¬ i = 2)
theorem isw_in {i : Int32} (h0 : ¬ i < 0) (h3 : ¬ 3 ≤ i) : i = 0 ∨ i = 1 ∨ i = 2 := by
  obtain ⟨j, hj, rfl⟩ := way_3 h0 h3
  rcases (show j = 0 ∨ j = 1 ∨ j = 2 by omega) with rfl | rfl | rfl
  · exact Or.inl rfl
  · exact Or.inr (Or.inl rfl)
  · exact Or.inr (Or.inr rfl)
theorem isw_out1 {i : Int32} (h0 : i < 0) : ¬ i = 0 ∧ ¬ i = 1 ∧ ¬ i = 2 := ⟨(way_out1 h0).1, (way_out1 h0).2.1, (way_out1 h0).2.2.1⟩
theorem isw_out2 {i : Int32} (h : ¬ i < 0) (h3 : 3 ≤ i) : ¬ i = 0 ∧ ¬ i = 1 ∧ ¬ i = 2 := ⟨(way_out2 h h3).1, (way_out2 h h3).2.1, (way_out2 h h3).2.2.1⟩
