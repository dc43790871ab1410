/-! what an hour does, in words of f and g -/
def imn (x y : Int32) : Int32 := if y < x then y else x
def imx (x y : Int32) : Int32 := if x < y then y else x
def firmA (firm cold : Int32) : Int32 := imn 100 (firm + cold / 3)
def coldA (cold heat : Int32) : Int32 := imx 0 (cold - heat / 10 - 1)
def iceA (ice hour heat : Int32) : Int32 := if hour - hour / 4 * 4 = 0 then imx 0 (ice - heat / 5) else ice
def brine (cold ice salt : Int32) : Int32 := imn 30 (cold + ice / 4 + imn salt (2 * (ice / 4)))
def fmod (a b : Int32) : Int32 := if 0 ≤ a ^^^ b then a - a / b * b else if a - a / b * b = 0 then a - a / b * b else a - a / b * b + b
def pick3 (w : Nat) (a b d : Int32) : Int32 := if w = 0 then a else if w = 1 then b else d
def addF (a b d m : Int32) : Int32 := if b + m = 0 then 0 else d * b / (b + m)
def turnF (a b d : Int32) : Int32 := if 0 < b then firmA d a else d
def softB (b heat ice : Int32) : Int32 := if 20 < heat ∧ ice < 100 then imn 100 (b + (heat - 20) / 4 + 1) else imx 0 (b - 1)
def standA (a b heat ice : Int32) : Int32 := if a = 0 then a else if softB b heat ice = 100 then imx 0 (a - 2) else a
def standB (a b heat ice : Int32) : Int32 := if a = 0 then b else softB b heat ice
def payF (b : Int32) : Int32 := if b < 50 then 3 else 2
def forgB (a b : Int32) : Int32 := if a = 0 then 0 else b
theorem s3_0 {f : Nat → Int32} {k : Nat} {x y z : Int32} : set3 f k x y z k = x := by simp [set3]
theorem s3_1 {f : Nat → Int32} {k : Nat} {x y z : Int32} : set3 f k x y z (k + 1) = y := by simp [set3]
theorem s3_2 {f : Nat → Int32} {k : Nat} {x y z : Int32} : set3 f k x y z (k + 2) = z := by simp [set3]
theorem s3_o {f : Nat → Int32} {k j : Nat} {x y z : Int32} (h : j < k ∨ k + 3 ≤ j) : set3 f k x y z j = f j := by
  unfold set3
  rw [if_neg (by omega), if_neg (by omega), if_neg (by omega)]
theorem s3_self {f : Nat → Int32} {k : Nat} : set3 f k (f k) (f (k + 1)) (f (k + 2)) = f := by
  funext j
  unfold set3
  by_cases h0 : j = k
  · rw [if_pos h0, h0]
  · rw [if_neg h0]
    by_cases h1 : j = k + 1
    · rw [if_pos h1, h1]
    · rw [if_neg h1]
      by_cases h2 : j = k + 2
      · rw [if_pos h2, h2]
      · rw [if_neg h2]
theorem up_s {f : Nat → Int32} {k : Nat} {x : Int32} : upd f k x k = x := by simp [upd]
theorem up_o {f : Nat → Int32} {k j : Nat} {x : Int32} (h : j ≠ k) : upd f k x j = f j := by simp [upd, h]
def fo (F : Nat → (Nat → Int32) → Nat → Int32) : Nat → (Nat → Int32) → Nat → Int32
  | 0, f => f
  | n + 1, f => F n (fo F n f)
def rep (F : (Nat → Int32) → Nat → Int32) : Nat → (Nat → Int32) → Nat → Int32
  | 0, f => f
  | n + 1, f => F (rep F n f)
def hrN (f : Nat → Int32) : Nat := (f 0).toNatClampNeg
def hotOf (f g : Nat → Int32) : Int32 := g (hrN f / 24 % 7)
def sumS (f : Nat → Int32) : Nat → Int32
  | 0 => 0
  | n + 1 => sumS f n + f (19 + 3 * n)
def sumD (f : Nat → Int32) : Nat → Int32
  | 0 => 0
  | n + 1 => sumD f n + f (21 + 3 * n)
def nxt (f : Nat → Int32) : Nat → Int32
  | 0 => -1
  | n + 1 => if 0 < f (19 + 3 * n) ∧ (nxt f n = -1 ∨ f (20 + 3 * n) < f (20 + 3 * (nxt f n).toNatClampNeg)) then nI n else nxt f n
def bsf (f : Nat → Int32) (n : Nat) : Int32 := if nxt f n = -1 then 101 else f (20 + 3 * (nxt f n).toNatClampNeg)
def turn1 (hot : Int32) (i : Nat) (f : Nat → Int32) : Nat → Int32 := set3 f (7 + 3 * i) (coldA (f (7 + 3 * i)) hot) (f (8 + 3 * i)) (turnF (f (7 + 3 * i)) (f (8 + 3 * i)) (f (9 + 3 * i)))
def stand1 (hot : Int32) (i : Nat) (f : Nat → Int32) : Nat → Int32 := set3 f (19 + 3 * i) (standA (f (19 + 3 * i)) (f (20 + 3 * i)) hot (f 1)) (standB (f (19 + 3 * i)) (f (20 + 3 * i)) hot (f 1)) (f (21 + 3 * i))
def sellT (k : Nat) (f : Nat → Int32) : Nat → Int32 := upd (set3 (upd f 4 (f 4 - 1)) (19 + 3 * k) (f (19 + 3 * k) - 1) (f (20 + 3 * k)) (f (21 + 3 * k) + 1)) 5 (f 5 + payF (f (20 + 3 * k)))
def sell1 (nt : Nat) (f : Nat → Int32) : Nat → Int32 := if nxt f nt = -1 ∨ f 4 = 0 then upd f 6 (f 6 + 1) else sellT (nxt f nt).toNatClampNeg f
def ice1 (hot : Int32) (f : Nat → Int32) : Nat → Int32 := upd f 1 (iceA (f 1) (f 0) hot)
def forg1 (i : Nat) (f : Nat → Int32) : Nat → Int32 := set3 f (19 + 3 * i) (f (19 + 3 * i)) (forgB (f (19 + 3 * i)) (f (20 + 3 * i))) (f (21 + 3 * i))
def serveF (nt : Nat) (hot : Int32) (f : Nat → Int32) : Nat → Int32 := if 10 ≤ f 0 - f 0 / 24 * 24 ∧ f 0 - f 0 / 24 * 24 ≤ 18 then rep (sell1 nt) (hot / 4).toNatClampNeg f else f
def hourT (nc nt : Nat) (hot : Int32) (f : Nat → Int32) : Nat → Int32 := ice1 hot (serveF nt hot (fo (stand1 hot) nt (fo (turn1 hot) nc f)))
def tickF (f : Nat → Int32) : Nat → Int32 := upd f 0 (f 0 + 1)
def hourF (nc nt : Nat) (g f : Nat → Int32) : Nat → Int32 := fo forg1 nt (tickF (hourT nc nt (hotOf f g) f))
/-! what always holds -/
def Bd0 (x : Int32) (n : Int) : Prop := 0 ≤ x.toInt ∧ x.toInt ≤ n
def Inv (f : Nat → Int32) : Prop := (Bd0 (f 1) 900 ∧ Bd0 (f 2) 300 ∧ Bd0 (f 3) 300 ∧ Bd0 (f 4) 300) ∧ (∀ i, i < 4 → Bd0 (f (7 + 3 * i)) 30 ∧ Bd0 (f (8 + 3 * i)) 20 ∧ Bd0 (f (9 + 3 * i)) 100) ∧ (∀ i, i < 6 → Bd0 (f (19 + 3 * i)) 60 ∧ Bd0 (f (20 + 3 * i)) 100)
def Gd (g : Nat → Int32) : Prop := ∀ k, k < 7 → Bd0 (g k) 40
theorem Jn_tub {cI cC cT : ClassId} {A : Nat → Nat} {nc nt : Nat} {f g : Nat → Int32} (i : Nat) (hi : i < 6) (x y z : Int32) : Jn (CW cI cC cT A nc nt f g) [(A (9 + i), .inr (2, [.int (f (19 + 3 * i)), .int (f (20 + 3 * i)), .int (f (21 + 3 * i))]))] [(A (9 + i), .inr (2, [.int x, .int y, .int z]))] (CW cI cC cT A nc nt (set3 f (19 + 3 * i) x y z) g) := by
  rw [← cw_tub i hi x y z]
  exact Jn_set (9 + i) (A (9 + i)) _ _ (cw_gtub i hi)
theorem Jn_churn {cI cC cT : ClassId} {A : Nat → Nat} {nc nt : Nat} {f g : Nat → Int32} (i : Nat) (hi : i < 4) (x y z : Int32) : Jn (CW cI cC cT A nc nt f g) [(A (5 + i), .inr (1, [.int (f (7 + 3 * i)), .int (f (8 + 3 * i)), .int (f (9 + 3 * i))]))] [(A (5 + i), .inr (1, [.int x, .int y, .int z]))] (CW cI cC cT A nc nt (set3 f (7 + 3 * i) x y z) g) := by
  rw [← cw_churn i hi x y z]
  exact Jn_set (5 + i) (A (5 + i)) _ _ (cw_gchurn i hi)
/-! numbers -/
theorem i_lt (a b : Int32) : a < b ↔ a.toInt < b.toInt := Int32.lt_iff_toInt_lt
theorem i_le (a b : Int32) : a ≤ b ↔ a.toInt ≤ b.toInt := Int32.le_iff_toInt_le
theorem i_eq (a b : Int32) : a = b ↔ a.toInt = b.toInt := Int32.toInt_inj.symm
theorem t_n {n : Nat} (h : n < 2 ^ 31) : (nI n).toInt = (n : Int) := nI_toInt h
theorem of_bd {x : Int32} {n : Nat} (hn : n < 2 ^ 31) (h : Bd0 x (n : Int)) : ∃ j : Nat, j ≤ n ∧ x = nI j := by
  refine ⟨x.toInt.toNat, by have := h.2; have := h.1; omega, Int32.toInt_inj.mp ?_⟩
  rw [nI_toInt (by have := h.2; have := h.1; omega)]
  have := h.1
  omega
theorem sel_a {f : Nat → Int32} {j : Nat} (h : f (19 + 3 * j) ≤ 0) : nxt f (j + 1) = nxt f j ∧ bsf f (j + 1) = bsf f j := by
  have e : nxt f (j + 1) = nxt f j := if_neg (fun q => absurd h (Int32.not_le.mpr q.1))
  exact ⟨e, by rw [bsf, bsf, e]⟩
theorem sel_b {f : Nat → Int32} {j : Nat} (h : bsf f j ≤ f (20 + 3 * j)) (hs : f (20 + 3 * j) ≤ 100) : nxt f (j + 1) = nxt f j ∧ bsf f (j + 1) = bsf f j := by
  have e : nxt f (j + 1) = nxt f j := by
    refine if_neg (fun q => ?_)
    rcases q.2 with q | q
    · rw [bsf, if_pos q] at h
      exact absurd (Int32.le_trans h hs) (by decide)
    · by_cases h9 : nxt f j = -1
      · rw [bsf, if_pos h9] at h
        exact absurd (Int32.le_trans h hs) (by decide)
      · rw [bsf, if_neg h9] at h
        exact absurd h (Int32.not_le.mpr q)
  exact ⟨e, by rw [bsf, bsf, e]⟩
theorem nI_ne_m1 {j : Nat} (hj : j < 2 ^ 31) : ¬ nI j = -1 := fun h => by
  have h1 : (nI j).toInt = (-1 : Int32).toInt := by rw [h]
  rw [nI_toInt hj] at h1
  have h2 : (-1 : Int32).toInt = -1 := by decide
  omega
theorem sel_c {f : Nat → Int32} {j : Nat} (hj : j < 2 ^ 31) (h0 : 0 < f (19 + 3 * j)) (h : f (20 + 3 * j) < bsf f j) : nxt f (j + 1) = nI j ∧ bsf f (j + 1) = f (20 + 3 * j) := by
  have e : nxt f (j + 1) = nI j := by
    refine if_pos ⟨h0, ?_⟩
    by_cases h9 : nxt f j = -1
    · exact Or.inl h9
    · rw [bsf, if_neg h9] at h
      exact Or.inr h
  refine ⟨e, ?_⟩
  rw [bsf, e, if_neg (nI_ne_m1 hj), nI_clamp hj]
theorem nxt_in (f : Nat → Int32) : ∀ n, nxt f n = -1 ∨ ∃ k, k < n ∧ nxt f n = nI k ∧ 0 < f (19 + 3 * k) := by
  intro n
  induction n with
  | zero => exact Or.inl rfl
  | succ n ih =>
    by_cases h : 0 < f (19 + 3 * n) ∧ (nxt f n = -1 ∨ f (20 + 3 * n) < f (20 + 3 * (nxt f n).toNatClampNeg))
    · exact Or.inr ⟨n, by omega, if_pos h, h.1⟩
    · have e : nxt f (n + 1) = nxt f n := if_neg h
      rw [e]
      rcases ih with q | ⟨k, h1, h2⟩
      · exact Or.inl q
      · exact Or.inr ⟨k, by omega, h2⟩
theorem fmod_nI {h : Nat} (hh : h < 2 ^ 31) : fmod (nI h / 24) 7 = nI (h / 24 % 7) := by
  have e1 : nI h / 24 = nI (h / 24) := pk_div (d := 24) hh (by decide) (by decide)
  have hd : h / 24 < 2 ^ 31 := by omega
  have e2 : nI (h / 24) - nI (h / 24) / 7 * 7 = nI (h / 24 % 7) := pk_rem (d := 7) hd (by decide) (by decide)
  rw [e1]
  unfold fmod
  rw [e2]
  have hx : 0 ≤ nI (h / 24) ^^^ 7 := by
    rw [i_le]
    have : nI (h / 24) ^^^ 7 = nI ((h / 24) ^^^ 7) := by
      have hl : (7 : Int32) = nI 7 := rfl
      rw [hl]
      apply Int32.toBitVec_inj.mp
      simp [nI, Int32.toBitVec_xor, BitVec.ofNat_xor]
    rw [this, nI_toInt (Nat.xor_lt_two_pow (n := 31) (by omega) (by decide))]
    have h0 : (0 : Int32).toInt = 0 := by decide
    omega
  rw [if_pos hx]
