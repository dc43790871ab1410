/-! a quotient of two whole numbers, the lower not 0, is a number: share draws nothing -/
theorem fq_tails : FP.Core.b64.tails = 4503599627370496 := by decide
theorem fq_exps : FP.Core.b64.exps = 2048 := by decide
theorem fq_qmin : FP.Core.b64.qmin = -1074 := by decide
theorem fq_qmax : FP.Core.b64.qmax = 971 := by decide
theorem fq_p : 2 ^ FP.Core.b64.p = 9007199254740992 := by decide
theorem fq_pp : FP.Core.b64.p = 53 := rfl
def fqOk : FP.Core.Datum → Prop
  | .nan => False
  | .inf _ => True
  | .fin _ c q => c < 9007199254740992 ∧ q ≤ 971
theorem fq_enc {d : FP.Core.Datum} (h : fqOk d) : ∃ t E T : Nat, FP.Core.encode FP.Core.b64 d = (t * 2048 + E) * 4503599627370496 + T ∧ t ≤ 1 ∧ T < 4503599627370496 ∧ (E ≤ 2046 ∨ (E = 2047 ∧ T = 0)) ∧ (∀ b c q, d = .fin b c q → E ≤ 2046 ∧ (E = 0 → T = c)) := by
  have hb : ∀ b : Bool, b.toNat ≤ 1 := fun b => by cases b <;> decide
  cases d with
  | nan => exact h.elim
  | inf b =>
    refine ⟨b.toNat, 2047, 0, ?_, hb b, by decide, Or.inr ⟨rfl, rfl⟩, fun _ _ _ e => by cases e⟩
    unfold FP.Core.encode FP.Core.assemble
    rw [fq_exps, fq_tails]
  | fin b c q =>
    obtain ⟨h1, h2⟩ := h
    by_cases hc : c < 4503599627370496
    · refine ⟨b.toNat, 0, c, ?_, hb b, hc, Or.inl (by decide), fun _ _ _ e => ?_⟩
      · unfold FP.Core.encode FP.Core.assemble
        simp only [fq_tails, fq_exps]
        rw [if_pos hc]
      · cases e
        exact ⟨by decide, fun _ => rfl⟩
    · refine ⟨b.toNat, (q - (-1074)).toNat + 1, c - 4503599627370496, ?_, hb b, by omega, Or.inl (by omega), fun _ _ _ e => ?_⟩
      · unfold FP.Core.encode FP.Core.assemble
        simp only [fq_tails, fq_exps, fq_qmin]
        rw [if_neg hc]
      · cases e
        exact ⟨by omega, fun h => by omega⟩
theorem fq_n64 {d : FP.Core.Datum} (h : fqOk d) : vf_n64 (UInt64.ofNat (FP.Core.encode FP.Core.b64 d)) := by
  obtain ⟨t, E, T, e, h1, h2, h3, -⟩ := fq_enc h
  unfold vf_n64
  rw [e, UInt64.le_iff_toNat_le, UInt64.toNat_and, UInt64.toNat_ofNat']
  have e1 : (0x7fffffffffffffff : UInt64).toNat = 2 ^ 63 - 1 := by decide
  have e2 : (0x7ff0000000000000 : UInt64).toNat = 9218868437227405312 := by decide
  rw [e1, e2, Nat.and_two_pow_sub_one_eq_mod]
  omega
theorem fq_settle (b : Bool) (c : Nat) (q : Int) : fqOk (FP.Core.settle FP.Core.b64 b c q) := by
  unfold FP.Core.settle FP.Core.bound
  rw [fq_p, fq_qmax, fq_tails]
  split
  · split
    · exact ⟨by assumption, by assumption⟩
    · trivial
  · split
    · exact ⟨by decide, by assumption⟩
    · trivial
theorem fq_ratio (b : Bool) (num den : Nat) (e : Int) : fqOk (FP.Core.roundRatio FP.Core.b64 b num den e) := by
  unfold FP.Core.roundRatio
  split
  · exact ⟨by decide, by decide⟩
  · exact fq_settle _ _ _
theorem fq_dec {b : Bool} {c : Nat} {q : Int} (h : fqOk (.fin b c q)) : ∃ b' c' q', FP.Core.decode FP.Core.b64 (UInt64.ofNat (FP.Core.encode FP.Core.b64 (.fin b c q))).toNat = .fin b' c' q' ∧ (c ≠ 0 → c' ≠ 0) := by
  obtain ⟨t, E, T, e, h1, h2, -, h4⟩ := fq_enc h
  obtain ⟨h5, h6⟩ := h4 _ _ _ rfl
  rw [e, UInt64.toNat_ofNat']
  unfold FP.Core.decode FP.Core.fieldE FP.Core.fieldT
  rw [fq_exps, fq_tails]
  have eE : ((t * 2048 + E) * 4503599627370496 + T) % 2 ^ 64 / 4503599627370496 % 2048 = E := by omega
  have eT : ((t * 2048 + E) * 4503599627370496 + T) % 2 ^ 64 % 4503599627370496 = T := by omega
  rw [eE, eT, if_neg (by omega)]
  by_cases h0 : E = 0
  · rw [if_pos h0]
    exact ⟨_, _, _, rfl, fun hc => by rw [h6 h0]; exact hc⟩
  · rw [if_neg h0]
    exact ⟨_, _, _, rfl, fun _ => by omega⟩
theorem fq_int {x : Int32} : ∃ b c q, FP.Core.round FP.Core.b64 (FP.Core.ofInt x.toInt) = .fin b c q ∧ fqOk (.fin b c q) ∧ (x ≠ 0 → c ≠ 0) := by
  have hx1 := x.toInt_lt
  have hx2 := x.le_toInt
  unfold FP.Core.ofInt FP.Core.round
  generalize decide (x.toInt < 0) = b
  by_cases h0 : x.toInt = 0
  · refine ⟨b, 0, -1074, ?_, ⟨by decide, by decide⟩, fun h => absurd (Int32.toInt_inj.mp (h0.trans (by decide))) h⟩
    show FP.Core.roundRatio FP.Core.b64 b x.toInt.natAbs 1 0 = _
    unfold FP.Core.roundRatio
    rw [if_pos (by omega), fq_qmin]
  · obtain ⟨n, hn⟩ : ∃ n, n = x.toInt.natAbs := ⟨_, rfl⟩
    show ∃ b' c q, FP.Core.roundRatio FP.Core.b64 b x.toInt.natAbs 1 0 = .fin b' c q ∧ _
    rw [← hn]
    have hn0 : n ≠ 0 := by omega
    have hn1 : n < 2 ^ 32 := by omega
    have hl := (Nat.log2_lt hn0).mpr hn1
    have hq : FP.Core.quantum FP.Core.b64 n 1 0 ≤ -20 := by
      unfold FP.Core.quantum FP.Core.leading
      rw [fq_qmin, fq_pp]
      have e1 : Nat.log2 1 = 0 := by decide
      simp only [e1]
      split <;> omega
    unfold FP.Core.roundRatio FP.Core.roundAt
    rw [if_neg hn0]
    generalize FP.Core.quantum FP.Core.b64 n 1 0 = q at hq ⊢
    have e1 : FP.Core.unitsDen 1 0 q = 1 := by
      unfold FP.Core.unitsDen
      rw [show (q - 0).toNat = 0 by omega]
    have e2 : FP.Core.unitsNum n 0 q ≠ 0 := by
      unfold FP.Core.unitsNum
      exact Nat.mul_ne_zero hn0 (Nat.pos_iff_ne_zero.mp (Nat.two_pow_pos _))
    rw [e1]
    generalize FP.Core.unitsNum n 0 q = N at e2 ⊢
    have e3 : FP.Core.nearest N 1 = N := by
      unfold FP.Core.nearest
      rw [Nat.mod_one, if_pos (by decide), Nat.div_one]
    rw [e3]
    unfold FP.Core.settle FP.Core.bound
    rw [fq_p, fq_qmax, fq_tails]
    by_cases h9 : N < 9007199254740992
    · rw [if_pos h9, if_pos (by omega)]
      exact ⟨_, _, _, rfl, ⟨h9, by omega⟩, fun _ => e2⟩
    · rw [if_neg h9, if_pos (by omega)]
      exact ⟨_, _, _, rfl, ⟨by decide, by omega⟩, fun _ => by decide⟩
theorem fq_div (x y : Int32) (hy : ¬ y = 0) : vf_n64 (FP.ddiv (FP.i2d x) (FP.i2d y)) := by
  obtain ⟨b1, c1, q1, e1, k1, -⟩ := fq_int (x := x)
  obtain ⟨b2, c2, q2, e2, k2, n2⟩ := fq_int (x := y)
  obtain ⟨b3, c3, q3, e3, -⟩ := fq_dec k1
  obtain ⟨b4, c4, q4, e4, n4⟩ := fq_dec k2
  show vf_n64 (UInt64.ofNat (FP.Core.encode FP.Core.b64 (FP.Core.quotient FP.Core.b64 (FP.Core.decode FP.Core.b64 (UInt64.ofNat (FP.Core.encode FP.Core.b64 (FP.Core.round FP.Core.b64 (FP.Core.ofInt x.toInt)))).toNat) (FP.Core.decode FP.Core.b64 (UInt64.ofNat (FP.Core.encode FP.Core.b64 (FP.Core.round FP.Core.b64 (FP.Core.ofInt y.toInt)))).toNat))))
  rw [e1, e2, e3, e4]
  refine fq_n64 ?_
  show fqOk (if c4 = 0 then (if c3 = 0 then .nan else .inf (b3 != b4)) else FP.Core.roundRatio FP.Core.b64 (b3 != b4) c3 c4 (q3 - q4))
  rw [if_neg (n4 (n2 hy))]
  exact fq_ratio _ _ _ _
def shareF (nt : Nat) (f : Nat → Int32) : UInt64 := if sumD f nt + f 6 = 0 then FP.dconst0 else FP.ddiv (FP.i2d (sumD f nt)) (FP.i2d (sumD f nt + f 6))
section DR
variable {p : Program} {l : Launch} {e : Env} {R : Room} {s : State} {m : MethodId} {args : Array Value} {below : List Frame} {meth : Method} {c : Code} {H : Heap} {locs : List Loc} {cells slots mc ms : Nat} {cc : ByteArray} {pc : Nat} {ls : Array Slot} {A : Nat → Prop} {D : va_G} {w1 : va_W} {o : Option Value}
theorem e0_d {v : UInt64} (hx : p.tables.exec = Jvm.exec) (hb : c.code = cc) (hr : meth.sig.returnType = some .double) (hlocks : meth.locks = false) (hP : va_P D vwCl w1 H) (hS : va_S A s.heap H locs) (hdg : decode cc pc = .ok (.dreturn, 1)) (hc : cells ≤ mc) (hs : slots ≤ ms) (ho : o = some (.double v)) :
    W p l e R s m args below meth c H locs cells slots (Q0 below D o w1 A args s mc ms) (F0 m pc ls [.double v]) := by
  subst ho
  exact W.widen hc hs (W.dret hx hb hr (fun t ht _ => qd_end hP hS ht) hS.2.2 hdg)
end DR
