/-! the sim's numbers: an hour, told in its own words, is the class's hour -/
def bel (v n : Int32) : Int32 := (v &&& 2147483647) - (v &&& 2147483647) / n * n
theorem bel_n (v : Int32) (n : Nat) (h0 : 0 < n) (hn : n < 2 ^ 31) : ∃ r, r < n ∧ bel v (nI n) = nI r := by
  obtain ⟨q, hq, e⟩ := pk_andE v (m := 2147483647) 31 (by decide)
  unfold bel
  rw [e, pk_rem hq h0 hn]
  exact ⟨q % n, Nat.mod_lt _ h0, rfl⟩
theorem imn_a {k y : Int32} (h : y ≤ k) : imn k y = y := by
  unfold imn
  split
  · rfl
  · rename_i h2
    rw [i_le] at h
    rw [i_lt] at h2
    exact Int32.toInt_inj.mp (by omega)
theorem imn_b {k y : Int32} (h : ¬ y ≤ k) : imn k y = k := by
  unfold imn
  split
  · rename_i h2
    rw [i_le] at h
    rw [i_lt] at h2
    omega
  · rfl
theorem imx_lt {k y : Int32} (h : y < k) : imx k y = k := by
  unfold imx
  split
  · rename_i h2
    rw [i_lt] at h h2
    omega
  · rfl
theorem imx_ge {k y : Int32} (h : ¬ y < k) : imx k y = y := by
  unfold imx
  split
  · rfl
  · rename_i h2
    rw [i_lt] at h h2
    exact Int32.toInt_inj.mp (by omega)
theorem sub_sub' (a b c : Int32) : a - b - c = a - (b + c) := by
  apply Int32.toBitVec_inj.mp
  simp only [Int32.toBitVec_sub, Int32.toBitVec_add]
  rw [BitVec.sub_sub]
theorem add_a (a b c : Int32) : a + b + c = a + (c + b) := by rw [Int32.add_assoc, Int32.add_comm b c]
theorem co_lt {c q : Int32} (h : c - (q / 10 + 1) < 0) : coldA c q = 0 := by
  rw [coldA, sub_sub']
  exact imx_lt h
theorem co_ge {c q : Int32} (h : ¬ c - (q / 10 + 1) < 0) : coldA c q = c - (q / 10 + 1) := by
  rw [coldA, sub_sub']
  exact imx_ge h
theorem tu_a {a b d : Int32} (h : ¬ b ≤ 0) (h2 : d + a / 3 ≤ 100) : turnF a b d = d + a / 3 := by
  rw [turnF, if_pos (Int32.not_le.mp h), firmA]
  exact imn_a h2
theorem tu_b {a b d : Int32} (h : ¬ b ≤ 0) (h2 : ¬ d + a / 3 ≤ 100) : turnF a b d = 100 := by
  rw [turnF, if_pos (Int32.not_le.mp h), firmA]
  exact imn_b h2
theorem tu_c {a b d : Int32} (h : b ≤ 0) : turnF a b d = d := if_neg (Int32.not_lt.mpr h)
theorem tu_x {d : Int32} (h : Bd0 d 100) : d ≤ 100 := by
  rw [i_le]
  exact h.2
/-! a tub in the heat -/
theorem sf_1 {b q ice : Int32} (h : ¬ q ≤ 20) (hi : ¬ 100 ≤ ice) (hy : b + (1 + (q - 20) / 4) ≤ 100) : softB b q ice = b + (1 + (q - 20) / 4) := by
  rw [softB, if_pos ⟨Int32.not_le.mp h, Int32.not_le.mp hi⟩, add_a]
  exact imn_a hy
theorem sf_2 {b q ice : Int32} (h : ¬ q ≤ 20) (hi : ¬ 100 ≤ ice) (hy : ¬ b + (1 + (q - 20) / 4) ≤ 100) : softB b q ice = 100 := by
  rw [softB, if_pos ⟨Int32.not_le.mp h, Int32.not_le.mp hi⟩, add_a]
  exact imn_b hy
theorem sf_3 {b q ice : Int32} (h : q ≤ 20 ∨ 100 ≤ ice) (hy : b - 1 < 0) : softB b q ice = 0 := by
  rw [softB, if_neg (fun z => h.elim (fun g => absurd z.1 (Int32.not_lt.mpr g)) (fun g => absurd z.2 (Int32.not_lt.mpr g)))]
  exact imx_lt hy
theorem sf_4 {b q ice : Int32} (h : q ≤ 20 ∨ 100 ≤ ice) (hy : ¬ b - 1 < 0) : softB b q ice = b - 1 := by
  rw [softB, if_neg (fun z => h.elim (fun g => absurd z.1 (Int32.not_lt.mpr g)) (fun g => absurd z.2 (Int32.not_lt.mpr g)))]
  exact imx_ge hy
theorem sf_x1 {b : Int32} {q : Nat} (hb : Bd0 b 100) (hq : q ≤ 40) (h : ¬ nI q ≤ 20) : 0 ≤ b + (1 + (nI q - 20) / 4) := by
  obtain ⟨x, hx, rfl⟩ := of_bd (n := 100) (by decide) hb
  have e20 : (20 : Int32) = nI 20 := rfl
  have e4 : (4 : Int32) = nI 4 := rfl
  have e1 : (1 : Int32) = nI 1 := rfl
  have hq20 : 20 < q := by
    rw [e20, nI_leI (by omega) (by decide)] at h
    omega
  rw [e20, pk_sub (by omega), e4, pk_div (by omega) (by decide) (by decide), e1, nI_add, nI_add]
  exact nI_pos' (by omega)
theorem sf_x2 {b : Int32} (hb : Bd0 b 100) : b - 1 ≤ 100 := by
  obtain ⟨x, hx, rfl⟩ := of_bd (n := 100) (by decide) hb
  have e1 : (1 : Int32) = nI 1 := rfl
  have e100 : (100 : Int32) = nI 100 := rfl
  rw [i_le, e1, pk_sub_toInt (by omega) (by decide), e100, nI_toInt (by decide)]
  omega
theorem sa_0 {a b q ice : Int32} (h : a = 0) : standA a b q ice = a ∧ standB a b q ice = b := ⟨if_pos h, if_pos h⟩
theorem sa_1 {a b q ice y : Int32} (h : ¬ a = 0) (hs : softB b q ice = y) (hy : ¬ y = 100) : standA a b q ice = a ∧ standB a b q ice = y := by
  refine ⟨?_, ?_⟩
  · rw [standA, if_neg h, hs, if_neg hy]
  · rw [standB, if_neg h, hs]
theorem sa_2 {a b q ice y : Int32} (h : ¬ a = 0) (hs : softB b q ice = y) (hy : y = 100) (h2 : a ≤ 2) (hb : Bd0 a 60) : standA a b q ice = 0 ∧ standB a b q ice = y := by
  refine ⟨?_, ?_⟩
  · rw [standA, if_neg h, hs, if_pos hy]
    obtain ⟨x, hx, rfl⟩ := of_bd (n := 60) (by decide) hb
    have e2 : (2 : Int32) = nI 2 := rfl
    rw [e2, mx_sub (by omega) (by decide)]
    rw [e2, nI_leI (by omega) (by decide)] at h2
    rw [show x - 2 = 0 by omega]
    rfl
  · rw [standB, if_neg h, hs]
theorem sa_3 {a b q ice y : Int32} (h : ¬ a = 0) (hs : softB b q ice = y) (hy : y = 100) (h2 : ¬ a ≤ 2) (hb : Bd0 a 60) : standA a b q ice = a - 2 ∧ standB a b q ice = y := by
  refine ⟨?_, ?_⟩
  · rw [standA, if_neg h, hs, if_pos hy]
    obtain ⟨x, hx, rfl⟩ := of_bd (n := 60) (by decide) hb
    have e2 : (2 : Int32) = nI 2 := rfl
    rw [e2, nI_leI (by omega) (by decide)] at h2
    rw [e2, mx_sub (by omega) (by decide), pk_sub (by omega)]
  · rw [standB, if_neg h, hs]
theorem st_eq {F : Nat → Int32} {i : Nat} {q x y : Int32} (h : standA (F (19 + 3 * i)) (F (20 + 3 * i)) q (F 1) = x ∧ standB (F (19 + 3 * i)) (F (20 + 3 * i)) q (F 1) = y) : set3 F (19 + 3 * i) x y (F (21 + 3 * i)) = stand1 q i F := by
  rw [stand1, h.1, h.2]
theorem st_eq0 {F : Nat → Int32} {i : Nat} {q : Int32} (h : F (19 + 3 * i) = 0) : F = stand1 q i F := by
  rw [stand1, (sa_0 h).1, (sa_0 h).2, s19_id]
theorem tn_eq {F : Nat → Int32} {i : Nat} {q x y : Int32} (h : coldA (F (7 + 3 * i)) q = x) (h2 : turnF (F (7 + 3 * i)) (F (8 + 3 * i)) (F (9 + 3 * i)) = y) : set3 F (7 + 3 * i) x (F (8 + 3 * i)) y = turn1 q i F := by
  rw [turn1, h, h2]
theorem fg_eq {F : Nat → Int32} {i : Nat} (h : F (19 + 3 * i) = 0) : set3 F (19 + 3 * i) (F (19 + 3 * i)) 0 (F (21 + 3 * i)) = forg1 i F := by
  rw [forg1, forgB, if_pos h]
theorem fg_eq0 {F : Nat → Int32} {i : Nat} (h : ¬ F (19 + 3 * i) = 0) : F = forg1 i F := by
  rw [forg1, forgB, if_neg h, s19_id]
theorem se_1 {F : Nat → Int32} {nt : Nat} (h : nxt F nt = -1 ∨ F 4 = 0) : upd F 6 (F 6 + 1) = sell1 nt F := (if_pos h).symm
theorem pay_a {b : Int32} (h : b < 50) : payF b = 3 := if_pos h
theorem pay_b {b : Int32} (h : ¬ b < 50) : payF b = 2 := if_neg h
theorem se_2 {F : Nat → Int32} {nt k : Nat} {py : Int32} (hk : k < 2 ^ 31) (e : nxt F nt = nI k) (h4 : ¬ F 4 = 0) (hp : payF (F (20 + 3 * k)) = py) : upd (set3 (upd F 4 (F 4 - 1)) (19 + 3 * k) (F (19 + 3 * k) - 1) (F (20 + 3 * k)) (F (21 + 3 * k) + 1)) 5 (F 5 + py) = sell1 nt F := by
  rw [sell1, if_neg (fun z => z.elim (fun z => nI_ne_m1 hk (e.symm.trans z)) h4), e, nI_clamp hk, sellT, hp]
theorem lt1_0 {x : Int32} (h : Bd0 x 300) (hl : x < 1) : x = 0 := by
  obtain ⟨a, ha, rfl⟩ := of_bd (n := 300) (by decide) h
  have e1 : (1 : Int32) = nI 1 := rfl
  rw [e1, nI_ltI (by omega) (by decide)] at hl
  rw [show a = 0 by omega]
  rfl
theorem ge1_0 {x : Int32} (hl : ¬ x < 1) : ¬ x = 0 := fun h => hl (by rw [h]; decide)
/-- the tub that is sold from, sought from the last down to lo -/
def Sel (f : Nat → Int32) (lo n : Nat) (v : Int32) : Prop :=
  (v = -1 ∧ ∀ t, lo ≤ t → t < n → f (19 + 3 * t) ≤ 0) ∨ (∃ k, lo ≤ k ∧ k < n ∧ v = nI k ∧ 0 < f (19 + 3 * k) ∧ ∀ t, lo ≤ t → t < n → 0 < f (19 + 3 * t) → f (20 + 3 * k) ≤ f (20 + 3 * t) ∧ (t < k → f (20 + 3 * k) < f (20 + 3 * t)))
theorem sel_nxt (f : Nat → Int32) : ∀ n, n < 2 ^ 31 → Sel f 0 n (nxt f n) := by
  intro n
  induction n with
  | zero => exact fun _ => Or.inl ⟨rfl, fun t _ h => absurd h (Nat.not_lt_zero _)⟩
  | succ n ih =>
    intro hn
    have ih := ih (by omega)
    by_cases h : 0 < f (19 + 3 * n) ∧ (nxt f n = -1 ∨ f (20 + 3 * n) < f (20 + 3 * (nxt f n).toNatClampNeg))
    · have e : nxt f (n + 1) = nI n := if_pos h
      rw [e]
      refine Or.inr ⟨n, Nat.zero_le _, by omega, rfl, h.1, fun t _ ht h0 => ?_⟩
      by_cases htn : t = n
      · subst htn
        exact ⟨Int32.le_refl _, fun q => absurd q (Nat.lt_irrefl _)⟩
      · rcases ih with ⟨-, g⟩ | ⟨k, -, hk, ek, -, g⟩
        · exact absurd h0 (Int32.not_lt.mpr (g t (Nat.zero_le _) (by omega)))
        · have h2 : f (20 + 3 * n) < f (20 + 3 * k) := by
            rcases h.2 with q | q
            · exact absurd (ek.symm.trans q) (nI_ne_m1 (by omega))
            · rw [ek, nI_clamp (by omega)] at q
              exact q
          have h3 := (g t (Nat.zero_le _) (by omega) h0).1
          have h4 : f (20 + 3 * n) < f (20 + 3 * t) := by
            rw [i_lt] at h2 ⊢
            rw [i_le] at h3
            omega
          exact ⟨by rw [i_le]; rw [i_lt] at h4; omega, fun _ => h4⟩
    · have e : nxt f (n + 1) = nxt f n := if_neg h
      rw [e]
      rcases ih with ⟨e1, g⟩ | ⟨k, hk0, hk, ek, hp, g⟩
      · refine Or.inl ⟨e1, fun t _ ht => ?_⟩
        by_cases htn : t = n
        · subst htn
          exact Int32.not_lt.mp (fun q => h ⟨q, Or.inl e1⟩)
        · exact g t (Nat.zero_le _) (by omega)
      · refine Or.inr ⟨k, hk0, by omega, ek, hp, fun t _ ht h0 => ?_⟩
        by_cases htn : t = n
        · subst htn
          refine ⟨Int32.not_lt.mp (fun q => h ⟨h0, Or.inr (by rw [ek, nI_clamp (by omega)]; exact q)⟩), fun q => by omega⟩
        · exact g t (Nat.zero_le _) (by omega) h0
theorem sel_u {f : Nat → Int32} {n : Nat} {v : Int32} (hn : n < 2 ^ 31) (h : Sel f 0 n v) : v = nxt f n := by
  rcases h with ⟨e, g⟩ | ⟨k, -, hk, ek, hp, g⟩ <;> rcases sel_nxt f n hn with ⟨e', g'⟩ | ⟨k', -, hk', ek', hp', g'⟩
  · rw [e, e']
  · exact absurd hp' (Int32.not_lt.mpr (g k' (Nat.zero_le _) hk'))
  · exact absurd hp (Int32.not_lt.mpr (g' k (Nat.zero_le _) hk))
  · have a1 := g k' (Nat.zero_le _) hk' hp'
    have a2 := g' k (Nat.zero_le _) hk hp
    have : k = k' := by
      rcases Nat.lt_trichotomy k k' with q | q | q
      · have b := a2.2 q
        have c := a1.1
        rw [i_lt] at b
        rw [i_le] at c
        omega
      · exact q
      · have b := a1.2 q
        have c := a2.1
        rw [i_lt] at b
        rw [i_le] at c
        omega
    rw [ek, ek', this]
theorem sl_0 {f : Nat → Int32} {n : Nat} : Sel f n n (-1) := Or.inl ⟨rfl, fun t h1 h2 => by omega⟩
theorem sl_skip {f : Nat → Int32} {k n : Nat} {v : Int32} (h : Sel f (k + 1) n v) (h0 : f (19 + 3 * k) ≤ 0) : Sel f k n v := by
  rcases h with ⟨e, g⟩ | ⟨j, h1, h2, h3, h4, g⟩
  · refine Or.inl ⟨e, fun t ht1 ht2 => ?_⟩
    by_cases q : t = k
    · subst q; exact h0
    · exact g t (by omega) ht2
  · refine Or.inr ⟨j, by omega, h2, h3, h4, fun t ht1 ht2 hp => ?_⟩
    by_cases q : t = k
    · subst q; exact absurd hp (Int32.not_lt.mpr h0)
    · exact g t (by omega) ht2 hp
theorem sl_first {f : Nat → Int32} {k n : Nat} {v : Int32} (hn : n < 2 ^ 31) (hk : k < n) (h : Sel f (k + 1) n v) (h0 : ¬ f (19 + 3 * k) ≤ 0) (hv : v < 0) : Sel f k n (nI k) := by
  rcases h with ⟨e, g⟩ | ⟨j, h1, h2, h3, h4, g⟩
  · refine Or.inr ⟨k, Nat.le_refl _, hk, rfl, Int32.not_le.mp h0, fun t ht1 ht2 hp => ?_⟩
    by_cases q : t = k
    · subst q; exact ⟨Int32.le_refl _, fun q => absurd q (Nat.lt_irrefl _)⟩
    · exact absurd hp (Int32.not_lt.mpr (g t (by omega) ht2))
  · rw [h3] at hv
    exact absurd hv (nI_pos (by omega))
theorem sl_new {f : Nat → Int32} {k j n : Nat} (hn : n < 2 ^ 31) (hk : k < n) (hj : j < 2 ^ 31) (h : Sel f (k + 1) n (nI j)) (h0 : ¬ f (19 + 3 * k) ≤ 0) (hs : f (20 + 3 * k) ≤ f (20 + 3 * j)) : Sel f k n (nI k) := by
  rcases h with ⟨e, g⟩ | ⟨j', h1, h2, h3, h4, g⟩
  · exact absurd e (nI_ne_m1 hj)
  · have ej := (nI_eq hj (by omega)).mp h3
    subst ej
    refine Or.inr ⟨k, Nat.le_refl _, hk, rfl, Int32.not_le.mp h0, fun t ht1 ht2 hp => ?_⟩
    by_cases q : t = k
    · subst q; exact ⟨Int32.le_refl _, fun q => absurd q (Nat.lt_irrefl _)⟩
    · have a := (g t (by omega) ht2 hp).1
      exact ⟨Int32.le_trans hs a, fun q => by omega⟩
theorem sl_keep {f : Nat → Int32} {k j n : Nat} (hn9 : n < 2 ^ 31) (hj : j < 2 ^ 31) (h : Sel f (k + 1) n (nI j)) (hs : ¬ f (20 + 3 * k) ≤ f (20 + 3 * j)) : Sel f k n (nI j) := by
  rcases h with ⟨e, g⟩ | ⟨j', h1, h2, h3, h4, g⟩
  · exact absurd e (nI_ne_m1 hj)
  · have ej := (nI_eq hj (by omega)).mp h3
    subst ej
    refine Or.inr ⟨j, by omega, h2, rfl, h4, fun t ht1 ht2 hp => ?_⟩
    by_cases q : t = k
    · subst q
      have a := Int32.not_le.mp hs
      exact ⟨by rw [i_le]; rw [i_lt] at a; omega, fun _ => a⟩
    · exact g t (by omega) ht2 hp
theorem sl_of {f : Nat → Int32} {lo n : Nat} {v : Int32} (hn : n < 2 ^ 31) (h : Sel f lo n v) (hv : ¬ v < 0) : ∃ k, lo ≤ k ∧ k < n ∧ v = nI k := by
  rcases h with ⟨e, -⟩ | ⟨k, h1, h2, h3, -⟩
  · rw [e] at hv
    exact absurd (by decide) hv
  · exact ⟨k, h1, h2, h3⟩
