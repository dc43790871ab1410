/-! bounds that every hour keeps -/
theorem bd_n {j : Nat} {n : Nat} (h : j ≤ n) (hn : n < 2 ^ 31) : Bd0 (nI j) (n : Int) := by
  unfold Bd0
  rw [nI_toInt (by omega)]
  omega
theorem mx_sub {a b : Nat} (ha : a < 2 ^ 30) (hb : b < 2 ^ 30) : imx 0 (nI a - nI b) = nI (a - b) := by
  unfold imx
  have h0 : (0 : Int32).toInt = 0 := by decide
  by_cases h : b < a
  · rw [if_pos (by rw [i_lt, pk_sub_toInt ha hb, h0]; omega), pk_sub (by omega)]
  · rw [if_neg (by rw [i_lt, pk_sub_toInt ha hb, h0]; omega), show a - b = 0 by omega]; rfl
theorem mn_n {a b : Nat} (ha : a < 2 ^ 31) (hb : b < 2 ^ 31) : imn (nI a) (nI b) = nI (min a b) := by
  unfold imn
  by_cases h : b < a
  · rw [if_pos ((nI_ltI hb ha).mpr h), Nat.min_eq_right (by omega)]
  · rw [if_neg (fun q => h ((nI_ltI hb ha).mp q)), Nat.min_eq_left (by omega)]
theorem mx_n {a b : Nat} (ha : a < 2 ^ 31) (hb : b < 2 ^ 31) : imx (nI a) (nI b) = nI (max a b) := by
  unfold imx
  by_cases h : a < b
  · rw [if_pos ((nI_ltI ha hb).mpr h), Nat.max_eq_right (by omega)]
  · rw [if_neg (fun q => h ((nI_ltI ha hb).mp q)), Nat.max_eq_left (by omega)]
theorem dv {a d : Nat} (ha : a < 2 ^ 31) (h0 : 0 < d) (hd : d < 2 ^ 31) : nI a / nI d = nI (a / d) := pk_div ha h0 hd
theorem coldA_n {c q : Nat} (hc : c < 2 ^ 30) (hq : q < 2 ^ 30) : coldA (nI c) (nI q) = nI (c - (q / 10 + 1)) := by
  unfold coldA
  have e : nI q / 10 = nI (q / 10) := dv (d := 10) (by omega) (by decide) (by decide)
  have e2 : nI c - nI (q / 10) - 1 = nI c - nI (q / 10 + 1) := by
    rw [nI_succ]
    apply Int32.toBitVec_inj.mp
    simp only [Int32.toBitVec_sub, Int32.toBitVec_add]
    rw [BitVec.sub_sub]
  rw [e, e2, mx_sub hc (by omega)]
theorem firmA_n {d c : Nat} (hd : d < 2 ^ 29) (hc : c < 2 ^ 29) : firmA (nI d) (nI c) = nI (min 100 (d + c / 3)) := by
  unfold firmA
  have e : nI c / 3 = nI (c / 3) := dv (d := 3) (by omega) (by decide) (by decide)
  have e2 : (100 : Int32) = nI 100 := rfl
  rw [e, nI_add, e2, mn_n (by decide) (by omega)]
theorem hotb {q : Nat} (hq : q ≤ 40) : 20 < nI q ↔ 20 < q := by
  have e : (20 : Int32) = nI 20 := rfl
  rw [e]
  exact nI_ltI (by decide) (by omega)
theorem softB_b {b q : Nat} (hb : b ≤ 100) (hq : q ≤ 40) (ice : Int32) : ∃ j, j ≤ 100 ∧ softB (nI b) (nI q) ice = nI j := by
  unfold softB
  by_cases h : 20 < nI q ∧ ice < 100
  · rw [if_pos h]
    have hq2 := (hotb hq).mp h.1
    have e : (20 : Int32) = nI 20 := rfl
    have e4 : (nI (q - 20)) / 4 = nI ((q - 20) / 4) := dv (d := 4) (by omega) (by decide) (by decide)
    have e1 : (100 : Int32) = nI 100 := rfl
    rw [e, pk_sub (by omega), e4, nI_add, nI_1, e1, mn_n (by decide) (by omega)]
    exact ⟨_, Nat.min_le_left _ _, rfl⟩
  · rw [if_neg h]
    have e : (1 : Int32) = nI 1 := rfl
    rw [e, mx_sub (by omega) (by decide)]
    exact ⟨_, by omega, rfl⟩
theorem iceA_n {a h q : Nat} (ha : a < 2 ^ 30) (hh : h < 2 ^ 31) (hq : q < 2 ^ 30) : iceA (nI a) (nI h) (nI q) = nI (if h % 4 = 0 then a - q / 5 else a) := by
  unfold iceA
  have e : nI h - nI h / 4 * 4 = nI (h % 4) := pk_rem (d := 4) hh (by decide) (by decide)
  have e5 : nI q / 5 = nI (q / 5) := dv (d := 5) (by omega) (by decide) (by decide)
  have e0 : (nI (h % 4) = 0) ↔ h % 4 = 0 := by
    have z : (0 : Int32) = nI 0 := rfl
    rw [z]
    exact nI_eq (by omega) (by decide)
  rw [e, e5, mx_sub ha (by omega)]
  by_cases h4 : h % 4 = 0
  · rw [if_pos (e0.mpr h4), if_pos h4]
  · rw [if_neg (fun q => h4 (e0.mp q)), if_neg h4]
theorem Inv.churn {f : Nat → Int32} (hI : Inv f) {i : Nat} (hi : i < 4) {x y z : Int32} (hx : Bd0 x 30) (hy : Bd0 y 20) (hz : Bd0 z 100) : Inv (set3 f (7 + 3 * i) x y z) := by
  obtain ⟨⟨h1, h2, h3, h4⟩, hc, ht⟩ := hI
  refine ⟨⟨by rw [s3_o (by omega)]; exact h1, by rw [s3_o (by omega)]; exact h2, by rw [s3_o (by omega)]; exact h3, by rw [s3_o (by omega)]; exact h4⟩, fun j hj => ?_, fun j hj => ?_⟩
  · by_cases h : j = i
    · subst h
      refine ⟨by rw [s3_0]; exact hx, ?_, ?_⟩
      · rw [show 8 + 3 * j = 7 + 3 * j + 1 by omega, s3_1]; exact hy
      · rw [show 9 + 3 * j = 7 + 3 * j + 2 by omega, s3_2]; exact hz
    · rw [s3_o (by omega), s3_o (by omega), s3_o (by omega)]; exact hc j hj
  · rw [s3_o (by omega), s3_o (by omega)]; exact ht j hj
theorem Inv.tub {f : Nat → Int32} (hI : Inv f) {i : Nat} (hi : i < 6) {x y z : Int32} (hx : Bd0 x 60) (hy : Bd0 y 100) : Inv (set3 f (19 + 3 * i) x y z) := by
  obtain ⟨⟨h1, h2, h3, h4⟩, hc, ht⟩ := hI
  refine ⟨⟨by rw [s3_o (by omega)]; exact h1, by rw [s3_o (by omega)]; exact h2, by rw [s3_o (by omega)]; exact h3, by rw [s3_o (by omega)]; exact h4⟩, fun j hj => ?_, fun j hj => ?_⟩
  · rw [s3_o (by omega), s3_o (by omega), s3_o (by omega)]; exact hc j hj
  · by_cases h : j = i
    · subst h
      refine ⟨by rw [s3_0]; exact hx, ?_⟩
      rw [show 20 + 3 * j = 19 + 3 * j + 1 by omega, s3_1]; exact hy
    · rw [s3_o (by omega), s3_o (by omega)]; exact ht j hj
theorem Inv.up {f : Nat → Int32} (hI : Inv f) {k : Nat} {x : Int32} (hk : k = 0 ∨ k = 5 ∨ k = 6 ∨ (k = 1 ∧ Bd0 x 900) ∨ ((k = 2 ∨ k = 3 ∨ k = 4) ∧ Bd0 x 300)) : Inv (upd f k x) := by
  obtain ⟨⟨h1, h2, h3, h4⟩, hc, ht⟩ := hI
  have g : ∀ j, j ≠ k → upd f k x j = f j := fun j h => up_o h
  have hk7 : k < 7 := by omega
  refine ⟨⟨?_, ?_, ?_, ?_⟩, fun j hj => ?_, fun j hj => ?_⟩
  · by_cases h : 1 = k
    · subst h; rw [up_s]; rcases hk with h | h | h | h | h <;> first | omega | exact h.2
    · rw [g _ h]; exact h1
  · by_cases h : 2 = k
    · subst h; rw [up_s]; rcases hk with h | h | h | h | h <;> first | omega | exact h.2
    · rw [g _ h]; exact h2
  · by_cases h : 3 = k
    · subst h; rw [up_s]; rcases hk with h | h | h | h | h <;> first | omega | exact h.2
    · rw [g _ h]; exact h3
  · by_cases h : 4 = k
    · subst h; rw [up_s]; rcases hk with h | h | h | h | h <;> first | omega | exact h.2
    · rw [g _ h]; exact h4
  · rw [g _ (by omega), g _ (by omega), g _ (by omega)]; exact hc j hj
  · rw [g _ (by omega), g _ (by omega)]; exact ht j hj
theorem Inv.turn {f : Nat → Int32} (hI : Inv f) {hot : Int32} (hh : Bd0 hot 40) {i : Nat} (hi : i < 4) : Inv (turn1 hot i f) := by
  obtain ⟨q, hq, rfl⟩ := of_bd (n := 40) (by decide) hh
  obtain ⟨b1, b2, b3⟩ := hI.2.1 i hi
  obtain ⟨c, hc, ec⟩ := of_bd (n := 30) (by decide) b1
  obtain ⟨d, hd, ed⟩ := of_bd (n := 100) (by decide) b3
  refine hI.churn hi ?_ b2 ?_
  · rw [ec, coldA_n (by omega) (by omega)]; exact bd_n (n := 30) (by omega) (by decide)
  · unfold turnF
    by_cases h : 0 < f (8 + 3 * i)
    · rw [if_pos h, ec, ed, firmA_n (by omega) (by omega)]; exact bd_n (n := 100) (Nat.min_le_left _ _) (by decide)
    · rw [if_neg h]; exact b3
theorem Inv.stand {f : Nat → Int32} (hI : Inv f) {hot : Int32} (hh : Bd0 hot 40) {i : Nat} (hi : i < 6) : Inv (stand1 hot i f) := by
  obtain ⟨q, hq, rfl⟩ := of_bd (n := 40) (by decide) hh
  obtain ⟨b1, b2⟩ := hI.2.2 i hi
  obtain ⟨a, ha, ea⟩ := of_bd (n := 60) (by decide) b1
  obtain ⟨b, hb, eb⟩ := of_bd (n := 100) (by decide) b2
  obtain ⟨j, hj, ej⟩ := softB_b hb hq (f 1)
  refine hI.tub hi ?_ ?_
  · unfold standA
    by_cases h : f (19 + 3 * i) = 0
    · rw [if_pos h]; exact b1
    · rw [if_neg h]
      by_cases h2 : softB (f (20 + 3 * i)) (nI q) (f 1) = 100
      · have e2 : (2 : Int32) = nI 2 := rfl
        rw [if_pos h2, ea, e2, mx_sub (by omega) (by decide)]; exact bd_n (n := 60) (by omega) (by decide)
      · rw [if_neg h2]; exact b1
  · unfold standB
    by_cases h : f (19 + 3 * i) = 0
    · rw [if_pos h]; exact b2
    · rw [if_neg h, eb, ej]; exact bd_n (n := 100) hj (by decide)
theorem Inv.forg {f : Nat → Int32} (hI : Inv f) {i : Nat} (hi : i < 6) : Inv (forg1 i f) := by
  obtain ⟨b1, b2⟩ := hI.2.2 i hi
  refine hI.tub hi b1 ?_
  unfold forgB
  by_cases h : f (19 + 3 * i) = 0
  · rw [if_pos h]; exact ⟨by decide, by decide⟩
  · rw [if_neg h]; exact b2
theorem Inv.fo_ {F : Nat → (Nat → Int32) → Nat → Int32} {N : Nat} (hF : ∀ f i, i < N → Inv f → Inv (F i f)) {f : Nat → Int32} (hI : Inv f) : ∀ n, n ≤ N → Inv (fo F n f) := by
  intro n
  induction n with
  | zero => intro _; exact hI
  | succ n ih => intro h; exact hF _ n (by omega) (ih (by omega))
theorem Inv.sellT {f : Nat → Int32} (hI : Inv f) {k : Nat} (hk : k < 6) (h4 : ¬ f 4 = 0) (hs : 0 < f (19 + 3 * k)) : Inv (sellT k f) := by
  obtain ⟨⟨h1, h2, h3, hb4⟩, hc, ht⟩ := id hI
  obtain ⟨a, ha, ea⟩ := of_bd (n := 300) (by decide) hb4
  obtain ⟨b, hb, eb⟩ := of_bd (n := 60) (by decide) (ht k hk).1
  have e1 : (1 : Int32) = nI 1 := rfl
  have e0 : (0 : Int32) = nI 0 := rfl
  have ha0 : 0 < a := by
    rcases Nat.eq_zero_or_pos a with h | h
    · exact absurd (by rw [ea, h]; rfl) h4
    · exact h
  have hb0 : 0 < b := by
    rw [eb, e0] at hs
    exact (nI_ltI (by decide) (by omega)).mp hs
  refine Inv.up (k := 5) (Inv.tub (Inv.up (k := 4) hI ?_) hk ?_ (ht k hk).2) (by omega)
  · exact Or.inr (Or.inr (Or.inr (Or.inr ⟨by omega, by rw [ea, e1, pk_sub (by omega)]; exact bd_n (n := 300) (by omega) (by decide)⟩)))
  · rw [eb, e1, pk_sub (by omega)]; exact bd_n (n := 60) (by omega) (by decide)
theorem Inv.sell {f : Nat → Int32} (hI : Inv f) {nt : Nat} (hnt : nt ≤ 6) : Inv (sell1 nt f) := by
  unfold sell1
  by_cases h : nxt f nt = -1 ∨ f 4 = 0
  · rw [if_pos h]; exact hI.up (by omega)
  · rw [if_neg h]
    rcases nxt_in f nt with q | ⟨k, hk, e, hs⟩
    · exact absurd (Or.inl q) h
    · rw [e, nI_clamp (by omega)]
      exact hI.sellT (by omega) (fun q => h (Or.inr q)) hs
theorem Inv.rep_ {F : (Nat → Int32) → Nat → Int32} (hF : ∀ f, Inv f → Inv (F f)) {f : Nat → Int32} (hI : Inv f) : ∀ n, Inv (rep F n f) := by
  intro n
  induction n with
  | zero => exact hI
  | succ n ih => exact hF _ ih
theorem Inv.serve {f : Nat → Int32} (hI : Inv f) {nt : Nat} (hnt : nt ≤ 6) (hot : Int32) : Inv (serveF nt hot f) := by
  unfold serveF
  by_cases h : 10 ≤ f 0 - f 0 / 24 * 24 ∧ f 0 - f 0 / 24 * 24 ≤ 18
  · rw [if_pos h]; exact Inv.rep_ (fun f h => h.sell hnt) hI _
  · rw [if_neg h]; exact hI
theorem fo_at {F : Nat → (Nat → Int32) → Nat → Int32} {j : Nat} (hF : ∀ f i, F i f j = f j) (f : Nat → Int32) : ∀ n, fo F n f j = f j := by
  intro n
  induction n with
  | zero => rfl
  | succ n ih => show F n (fo F n f) j = f j; rw [hF, ih]
theorem rep_at {F : (Nat → Int32) → Nat → Int32} {j : Nat} (hF : ∀ f, F f j = f j) (f : Nat → Int32) : ∀ n, rep F n f j = f j := by
  intro n
  induction n with
  | zero => rfl
  | succ n ih => show F (rep F n f) j = f j; rw [hF, ih]
theorem turn_o {hot : Int32} {i j : Nat} {f : Nat → Int32} (h : j < 7 ∨ 19 ≤ j) (hi : i < 4) : turn1 hot i f j = f j := s3_o (by omega)
theorem sellT_0 {k : Nat} {f : Nat → Int32} {j : Nat} (h : j < 4) : sellT k f j = f j := by
  unfold sellT
  rw [up_o (by omega), s3_o (by omega), up_o (by omega)]
theorem sell_0 {nt : Nat} {f : Nat → Int32} {j : Nat} (h : j < 4) : sell1 nt f j = f j := by
  unfold sell1
  by_cases q : nxt f nt = -1 ∨ f 4 = 0
  · rw [if_pos q, up_o (by omega)]
  · rw [if_neg q, sellT_0 h]
theorem serve_0 {nt : Nat} {hot : Int32} {f : Nat → Int32} {j : Nat} (h : j < 4) : serveF nt hot f j = f j := by
  unfold serveF
  by_cases q : 10 ≤ f 0 - f 0 / 24 * 24 ∧ f 0 - f 0 / 24 * 24 ≤ 18
  · rw [if_pos q]; exact rep_at (fun f => sell_0 h) f _
  · rw [if_neg q]
theorem turn_0 {hot : Int32} {j : Nat} (h : j < 7) (f : Nat → Int32) (n : Nat) : fo (turn1 hot) n f j = f j := fo_at (fun f i => s3_o (by omega)) f n
theorem stand_0 {hot : Int32} {j : Nat} (h : j < 19) (f : Nat → Int32) (n : Nat) : fo (stand1 hot) n f j = f j := fo_at (fun f i => s3_o (by omega)) f n
theorem forg_0 {j : Nat} (h : j < 19) (f : Nat → Int32) (n : Nat) : fo forg1 n f j = f j := fo_at (fun f i => s3_o (by omega)) f n
theorem soft_ok {f : Nat → Int32} (hI : Inv f) {nt : Nat} (hnt : nt ≤ 6) : ∀ t, t < nt → f (20 + 3 * t) ≤ 100 := fun t ht => by
  rw [i_le]
  exact (hI.2.2 t (by omega)).2.2
theorem Inv.hourT {f : Nat → Int32} (hI : Inv f) {nc nt : Nat} (hnc : nc ≤ 4) (hnt : nt ≤ 6) {hot : Int32} (hh : Bd0 hot 40) {h : Nat} (hh0 : h < 2 ^ 30) (h0 : f 0 = nI h) : Inv (hourT nc nt hot f) := by
  have h1 : Inv (fo (turn1 hot) nc f) := Inv.fo_ (N := 4) (fun f i hi h => h.turn hh hi) hI nc hnc
  have h2 : Inv (fo (stand1 hot) nt (fo (turn1 hot) nc f)) := Inv.fo_ (N := 6) (fun f i hi h => h.stand hh hi) h1 nt hnt
  have h3 := h2.serve hnt hot
  refine h3.up (k := 1) (Or.inr (Or.inr (Or.inr (Or.inl ⟨rfl, ?_⟩))))
  obtain ⟨q, hq, rfl⟩ := of_bd (n := 40) (by decide) hh
  obtain ⟨a, ha, ea⟩ := of_bd (n := 900) (by decide) h3.1.1
  rw [ea, serve_0 (by omega), stand_0 (by omega), turn_0 (by omega), h0, iceA_n (by omega) (by omega) (by omega)]
  refine bd_n (n := 900) ?_ (by decide)
  split <;> omega
theorem hourT_0 {nc nt : Nat} {hot : Int32} {f : Nat → Int32} {j : Nat} (h : j < 4) (h1 : j ≠ 1) : hourT nc nt hot f j = f j := by
  unfold hourT ice1
  rw [up_o h1, serve_0 h, stand_0 (by omega), turn_0 (by omega)]
theorem Inv.hour {f g : Nat → Int32} (hI : Inv f) (hg : Gd g) {nc nt : Nat} (hnc : nc ≤ 4) (hnt : nt ≤ 6) {h : Nat} (hh0 : h < 2 ^ 30) (h0 : f 0 = nI h) : Inv (hourF nc nt g f) ∧ hourF nc nt g f 0 = nI (h + 1) := by
  have hb : Bd0 (hotOf f g) 40 := hg _ (Nat.mod_lt _ (by decide))
  have h1 := hI.hourT hnc hnt hb hh0 h0
  refine ⟨Inv.fo_ (N := 6) (fun f i hi h => h.forg hi) (h1.up (k := 0) (by omega)) nt hnt, ?_⟩
  unfold hourF
  rw [forg_0 (by omega), tickF, up_s, hourT_0 (by omega) (by omega), h0, nI_succ]
theorem Inv.hours {f g : Nat → Int32} (hI : Inv f) (hg : Gd g) {nc nt : Nat} (hnc : nc ≤ 4) (hnt : nt ≤ 6) {h : Nat} (h0 : f 0 = nI h) : ∀ n, h + n < 2 ^ 30 → Inv (rep (hourF nc nt g) n f) ∧ rep (hourF nc nt g) n f 0 = nI (h + n) := by
  intro n
  induction n with
  | zero => intro _; exact ⟨hI, h0⟩
  | succ n ih =>
    intro hn
    obtain ⟨q1, q2⟩ := ih (by omega)
    exact q1.hour hg hnc hnt (h := h + n) (by omega) q2
