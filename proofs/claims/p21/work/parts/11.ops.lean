/-! what each call is owed: K its refusal (0: none), and its effect where it is not refused -/
abbrev inR (p : Int32) (n : Nat) : Prop := 0 ≤ p ∧ p < nI n
abbrev cIn (p lo hi : Int32) : Prop := lo ≤ p ∧ p ≤ hi
def XE (K : Nat) (a b c E : String) : Prop := (K = 1 ∧ E = a) ∨ (K = 2 ∧ E = b) ∨ (K = 3 ∧ E = c)
theorem inR_n {p : Int32} {n : Nat} (hn : n < 2 ^ 31) (h : inR p n) : ∃ i, i < n ∧ p = nI i := by
  obtain ⟨j, hj, e⟩ := nI_of (Int32.not_lt.mpr h.1)
  refine ⟨j, ?_, e⟩
  have := h.2
  rw [e] at this
  exact (nI_ltI hj hn).mp this
theorem cIn_n {p : Int32} (n : Nat) (hn : n < 2 ^ 31) (h : 0 ≤ p) (h2 : p ≤ nI n) : ∃ i, i ≤ n ∧ p = nI i := by
  obtain ⟨j, hj, e⟩ := nI_of (Int32.not_lt.mpr h)
  refine ⟨j, ?_, e⟩
  rw [e] at h2
  exact (nI_leI hj hn).mp h2
def kBring (what many : Int32) : Nat := if cIn what 0 3 then (if cIn many 1 300 then 0 else 2) else 1
def kHeat (day heat : Int32) : Nat := if cIn day 0 6 then (if cIn heat 0 40 then 0 else 2) else 1
def kChurn (nc : Nat) : Nat := if nI nc < 4 then 0 else 1
def kTub (nt : Nat) : Nat := if nI nt < 6 then 0 else 1
def kPack (nc : Nat) (f : Nat → Int32) (p ice salt : Int32) : Nat := if inR p nc then (if cIn ice 0 60 then (if cIn salt 0 60 then (if f 1 < ice then 3 else if f 2 < salt then 3 else 0) else 2) else 2) else 1
def kPour (nc : Nat) (f : Nat → Int32) (p m : Int32) : Nat := if inR p nc then (if cIn m 1 20 then (if f 3 < m then 3 else if 20 < f (8 + 3 * p.toNatClampNeg) + m then 3 else 0) else 2) else 1
def kScoop (nc nt : Nat) (f : Nat → Int32) (p t : Int32) : Nat := if inR p nc then (if inR t nt then (if f (8 + 3 * p.toNatClampNeg) = 0 then 2 else if f (9 + 3 * p.toNatClampNeg) < 50 then 2 else 0) else 1) else 1
def kTold (n : Nat) (p w : Int32) : Nat := if inR p n then (if cIn w 0 2 then 0 else 1) else 1
def kCount (w : Int32) : Nat := if cIn w 0 9 then 0 else 1
def kPass (n : Int32) : Nat := if cIn n 1 168 then 0 else 1
def kDone (nc : Nat) (p : Int32) : Nat := if inR p nc then 0 else 1
def kFore (n w : Int32) : Nat := if cIn n 1 168 then (if w = 2 then 0 else if cIn w 6 9 then 0 else 2) else 1
def kSalt (nc : Nat) (p ice : Int32) : Nat := if inR p nc then (if cIn ice 0 60 then 0 else 2) else 1
def bringF (f : Nat → Int32) (w : Nat) (m : Int32) : Nat → Int32 := upd f (w + 1) (imn (limF w) (f (w + 1) + m))
def packF (f : Nat → Int32) (i : Nat) (ice salt : Int32) : Nat → Int32 := set3 (upd (upd f 1 (f 1 - ice)) 2 (f 2 - salt)) (7 + 3 * i) (brine (f (7 + 3 * i)) ice salt) (f (8 + 3 * i)) (f (9 + 3 * i))
def pourF (f : Nat → Int32) (i : Nat) (m : Int32) : Nat → Int32 := set3 (upd f 3 (f 3 - m)) (7 + 3 * i) (f (7 + 3 * i)) (f (8 + 3 * i) + m) (addF (f (7 + 3 * i)) (f (8 + 3 * i)) (f (9 + 3 * i)) m)
def scoopF (f : Nat → Int32) (i t : Nat) : Nat → Int32 := set3 (set3 f (19 + 3 * t) (imn 60 (f (19 + 3 * t) + 2 * f (8 + 3 * i))) (imx (f (20 + 3 * t)) (100 - f (9 + 3 * i))) (f (21 + 3 * t))) (7 + 3 * i) (f (7 + 3 * i)) 0 0
def saltR (f : Nat → Int32) (i : Nat) (ice : Int32) : Int32 := imn (imx 0 (30 - f (7 + 3 * i) - ice / 4)) (2 * (ice / 4))
theorem stk_at {f : Nat → Int32} {w : Nat} (hw : w < 4) : stk (f 1) (f 2) (f 3) (f 4) w = f (w + 1) := by
  match w, hw with
  | 0, _ => rfl
  | 1, _ => rfl
  | 2, _ => rfl
  | 3, _ => rfl
/-! the class's own object x, and its cellar -/
def YW (cI cC cT : ClassId) (x : Nat) (A : Nat → Nat) (b0 nc nt : Nat) (f g : Nat → Int32) : va_W := (x, .inr (3, [.ref (A 0), .ref b0])) :: CW cI cC cT A nc nt f g
theorem Jn_yw {cI cC cT : ClassId} {x b0 : Nat} {A : Nat → Nat} {nc nt nc' nt' : Nat} {f g f' g' : Nat → Int32} : Jn (YW cI cC cT x A b0 nc nt f g) (CW cI cC cT A nc nt f g) (CW cI cC cT A nc' nt' f' g') (YW cI cC cT x A b0 nc' nt' f' g') := Jn_tail [(x, .inr (3, [.ref (A 0), .ref b0]))] _ _ rfl
theorem yw_gchurn {cI cC cT : ClassId} {x b0 : Nat} {A : Nat → Nat} {nc nt : Nat} {f g : Nat → Int32} (i : Nat) (hi : i < 4) : (YW cI cC cT x A b0 nc nt f g)[5 + i + 1]? = some (A (5 + i), .inr (1, [.int (f (7 + 3 * i)), .int (f (8 + 3 * i)), .int (f (9 + 3 * i))])) := cw_gchurn i hi
theorem yw_gtub {cI cC cT : ClassId} {x b0 : Nat} {A : Nat → Nat} {nc nt : Nat} {f g : Nat → Int32} (i : Nat) (hi : i < 6) : (YW cI cC cT x A b0 nc nt f g)[9 + i + 1]? = some (A (9 + i), .inr (2, [.int (f (19 + 3 * i)), .int (f (20 + 3 * i)), .int (f (21 + 3 * i))])) := cw_gtub i hi
theorem Jn_ychurn {cI cC cT : ClassId} {x b0 : Nat} {A : Nat → Nat} {nc nt : Nat} {f g : Nat → Int32} (i : Nat) (hi : i < 4) (a b c : Int32) : Jn (YW cI cC cT x A b0 nc nt f g) [(A (5 + i), .inr (1, [.int (f (7 + 3 * i)), .int (f (8 + 3 * i)), .int (f (9 + 3 * i))]))] [(A (5 + i), .inr (1, [.int a, .int b, .int c]))] (YW cI cC cT x A b0 nc nt (set3 f (7 + 3 * i) a b c) g) := by
  have h := Jn_set (5 + i + 1) (A (5 + i)) _ (.inr (1, [.int a, .int b, .int c])) (yw_gchurn (cI := cI) (cC := cC) (cT := cT) (x := x) (b0 := b0) (nc := nc) (nt := nt) (f := f) (g := g) i hi)
  have e : (YW cI cC cT x A b0 nc nt f g).set (5 + i + 1) (A (5 + i), .inr (1, [.int a, .int b, .int c])) = YW cI cC cT x A b0 nc nt (set3 f (7 + 3 * i) a b c) g := congrArg (List.cons _) (cw_churn i hi a b c)
  rw [e] at h
  exact h
theorem Jn_ytub {cI cC cT : ClassId} {x b0 : Nat} {A : Nat → Nat} {nc nt : Nat} {f g : Nat → Int32} (i : Nat) (hi : i < 6) (a b c : Int32) : Jn (YW cI cC cT x A b0 nc nt f g) [(A (9 + i), .inr (2, [.int (f (19 + 3 * i)), .int (f (20 + 3 * i)), .int (f (21 + 3 * i))]))] [(A (9 + i), .inr (2, [.int a, .int b, .int c]))] (YW cI cC cT x A b0 nc nt (set3 f (19 + 3 * i) a b c) g) := by
  have h := Jn_set (9 + i + 1) (A (9 + i)) _ (.inr (2, [.int a, .int b, .int c])) (yw_gtub (cI := cI) (cC := cC) (cT := cT) (x := x) (b0 := b0) (nc := nc) (nt := nt) (f := f) (g := g) i hi)
  have e : (YW cI cC cT x A b0 nc nt f g).set (9 + i + 1) (A (9 + i), .inr (2, [.int a, .int b, .int c])) = YW cI cC cT x A b0 nc nt (set3 f (19 + 3 * i) a b c) g := congrArg (List.cons _) (cw_tub i hi a b c)
  rw [e] at h
  exact h
theorem Jn_ychurn0 {cI cC cT : ClassId} {x b0 : Nat} {A : Nat → Nat} {nc nt : Nat} {f g : Nat → Int32} (i : Nat) (hi : i < 4) : Jn (YW cI cC cT x A b0 nc nt f g) [(A (5 + i), .inr (1, [.int (f (7 + 3 * i)), .int (f (8 + 3 * i)), .int (f (9 + 3 * i))]))] [(A (5 + i), .inr (1, [.int (f (7 + 3 * i)), .int (f (8 + 3 * i)), .int (f (9 + 3 * i))]))] (YW cI cC cT x A b0 nc nt f g) := by
  have h := Jn_ychurn (cI := cI) (cC := cC) (cT := cT) (x := x) (A := A) (b0 := b0) (nc := nc) (nt := nt) (f := f) (g := g) i hi (f (7 + 3 * i)) (f (8 + 3 * i)) (f (9 + 3 * i))
  rw [show 8 + 3 * i = 7 + 3 * i + 1 by omega, show 9 + 3 * i = 7 + 3 * i + 2 by omega, s3_self] at h
  rw [show 8 + 3 * i = 7 + 3 * i + 1 by omega, show 9 + 3 * i = 7 + 3 * i + 2 by omega]
  exact h
theorem Jn_ytub0 {cI cC cT : ClassId} {x b0 : Nat} {A : Nat → Nat} {nc nt : Nat} {f g : Nat → Int32} (i : Nat) (hi : i < 6) : Jn (YW cI cC cT x A b0 nc nt f g) [(A (9 + i), .inr (2, [.int (f (19 + 3 * i)), .int (f (20 + 3 * i)), .int (f (21 + 3 * i))]))] [(A (9 + i), .inr (2, [.int (f (19 + 3 * i)), .int (f (20 + 3 * i)), .int (f (21 + 3 * i))]))] (YW cI cC cT x A b0 nc nt f g) := by
  have h := Jn_ytub (cI := cI) (cC := cC) (cT := cT) (x := x) (A := A) (b0 := b0) (nc := nc) (nt := nt) (f := f) (g := g) i hi (f (19 + 3 * i)) (f (20 + 3 * i)) (f (21 + 3 * i))
  rw [show 20 + 3 * i = 19 + 3 * i + 1 by omega, show 21 + 3 * i = 19 + 3 * i + 2 by omega, s3_self] at h
  rw [show 20 + 3 * i = 19 + 3 * i + 1 by omega, show 21 + 3 * i = 19 + 3 * i + 2 by omega]
  exact h
