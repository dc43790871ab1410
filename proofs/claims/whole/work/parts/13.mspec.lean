/-! the reference's side: what its own ways of saying come to -/
def sel {α : Type} (K : Nat) (a b : α) : α := if K = 0 then a else b
theorem sel_0 {α : Type} {a b : α} : sel 0 a b = a := rfl
def inB (v lo hi : Int32) : Int32 := if lo ≤ v ∧ v ≤ hi then 1 else 0
theorem inB_t {v lo hi : Int32} (h : ¬ inB v lo hi = 0) : cIn v lo hi := by
  by_cases q : lo ≤ v ∧ v ≤ hi
  · exact q
  · exact absurd (if_neg q) h
theorem inB_f {v lo hi : Int32} (h : inB v lo hi = 0) : ¬ cIn v lo hi := fun q => by
  rw [inB, if_pos q] at h
  exact absurd h (by decide)
theorem cR {u : Int32} {n : Nat} (hn : n ≤ 6) : cIn u 0 (nI n - 1) ↔ inR u n := by
  have e1 : (1 : Int32) = nI 1 := rfl
  have h0 : (0 : Int32).toInt = 0 := by decide
  have e : (nI n - 1).toInt = (n : Int) - 1 := by rw [e1, pk_sub_toInt (by omega) (by decide)]; rfl
  unfold cIn inR
  rw [i_le, i_le, i_lt, e, nI_toInt (by omega), h0]
  omega
theorem inB_Rt {u : Int32} {n : Nat} (hn : n ≤ 6) (h : ¬ inB u 0 (nI n - 1) = 0) : inR u n := (cR hn).mp (inB_t h)
theorem inB_Rf {u : Int32} {n : Nat} (hn : n ≤ 6) (h : inB u 0 (nI n - 1) = 0) : ¬ inR u n := fun q => inB_f h ((cR hn).mpr q)
theorem ix7 (b i w : Nat) : nI b + 3 * nI i + nI w = nI (b + 3 * i + w) := by
  have e3 : (3 : Int32) = nI 3 := rfl
  rw [e3, pk_mul, nI_add, nI_add]
theorem ix1 (w : Nat) : 1 + nI w = nI (w + 1) := by
  have e1 : (1 : Int32) = nI 1 := rfl
  rw [e1, nI_add, Nat.add_comm]
theorem most_lim {w : Nat} (hw : w < 4) : mostF (w + 1) = limF w := by
  match w, hw with
  | 0, _ => rfl
  | 1, _ => rfl
  | 2, _ => rfl
  | 3, _ => rfl
theorem bringm {f : Nat → Int32} {w : Nat} {m : Int32} (hw : w < 4) : upd f (w + 1) (imn (mostF (w + 1)) (f (w + 1) + m)) = bringF f w m := by rw [most_lim hw]; rfl
theorem kch_1 {nc : Nat} (h : nI nc = 4) : kChurn nc = 1 := by rw [kChurn, if_neg (by rw [h]; decide)]
theorem kch_0 {nc : Nat} (hn : nc ≤ 4) (h : ¬ nI nc = 4) : kChurn nc = 0 := by
  have e : (4 : Int32) = nI 4 := rfl
  rw [e, nI_eq (by omega) (by decide)] at h
  rw [kChurn, if_pos (by rw [e]; exact (nI_ltI (by omega) (by decide)).mpr (by omega))]
theorem ktu_1 {nt : Nat} (h : nI nt = 6) : kTub nt = 1 := by rw [kTub, if_neg (by rw [h]; decide)]
theorem ktu_0 {nt : Nat} (hn : nt ≤ 6) (h : ¬ nI nt = 6) : kTub nt = 0 := by
  have e : (6 : Int32) = nI 6 := rfl
  rw [e, nI_eq (by omega) (by decide)] at h
  rw [kTub, if_pos (by rw [e]; exact (nI_ltI (by omega) (by decide)).mpr (by omega))]
theorem brine_m {c i s : Int32} : imn 30 (c + i / 4 + imn s (i / 4 * 2)) = brine c i s := by rw [brine, Int32.mul_comm (i / 4) 2]
theorem up_s30 {f : Nat → Int32} {k : Nat} {x : Int32} : upd f k x = set3 f k x (f (k + 1)) (f (k + 2)) := by
  funext j
  unfold upd set3
  by_cases h0 : j = k
  · simp [h0]
  · by_cases h1 : j = k + 1
    · simp [h1]
    · by_cases h2 : j = k + 2
      · simp [h2]
      · simp [h0, h1, h2]
theorem up_s31 {f : Nat → Int32} {k : Nat} {y : Int32} : upd f (k + 1) y = set3 f k (f k) y (f (k + 2)) := by
  funext j
  unfold upd set3
  by_cases h0 : j = k
  · simp [h0]
  · by_cases h1 : j = k + 1
    · simp [h1]
    · by_cases h2 : j = k + 2
      · simp [h2]
      · simp [h0, h1, h2]
theorem up_s32 {f : Nat → Int32} {k : Nat} {z : Int32} : upd f (k + 2) z = set3 f k (f k) (f (k + 1)) z := by
  funext j
  unfold upd set3
  by_cases h0 : j = k
  · simp [h0]
  · by_cases h1 : j = k + 1
    · simp [h1]
    · by_cases h2 : j = k + 2
      · simp [h2]
      · simp [h0, h1, h2]
theorem packm {f : Nat → Int32} {i : Nat} {a b ice salt : Int32} (ha : a = f 1 - ice) (hb : b = f 2 - salt) : upd (upd (upd f 1 a) 2 b) (7 + 3 * i) (brine (upd (upd f 1 a) 2 b (7 + 3 * i)) ice salt) = packF f i ice salt := by
  rw [up_s30 (k := 7 + 3 * i), ← pack_eq ha hb, show 7 + 3 * i + 1 = 8 + 3 * i by omega, show 7 + 3 * i + 2 = 9 + 3 * i by omega]
theorem ne_hv {b m : Int32} (hb : Bd0 b 20) (hm : cIn m 1 20) : ¬ b + m = 0 := by
  obtain ⟨x, hx, rfl⟩ := of_bd (n := 20) (by decide) hb
  obtain ⟨y, hy, e⟩ := cIn_n 20 (by decide) (Int32.le_trans (by decide) hm.1) hm.2
  have h1 := hm.1
  rw [e] at h1 ⊢
  have e1 : (1 : Int32) = nI 1 := rfl
  have e0 : (0 : Int32) = nI 0 := rfl
  rw [e1, nI_leI (by decide) (by omega)] at h1
  rw [nI_add, e0, nI_eq (by omega) (by decide)]
  omega
theorem pourm {f : Nat → Int32} {i : Nat} {m : Int32} (hne : ¬ f (8 + 3 * i) + m = 0) : upd (upd (upd f 3 (f 3 - m)) (9 + 3 * i) (upd f 3 (f 3 - m) (9 + 3 * i) * f (8 + 3 * i) / (f (8 + 3 * i) + m))) (8 + 3 * i) (f (8 + 3 * i) + m) = pourF f i m := by
  rw [← pour_eq]
  rw [up_o (k := 3) (j := 7 + 3 * i) (by omega), up_o (k := 3) (j := 8 + 3 * i) (by omega), up_o (k := 3) (j := 9 + 3 * i) (by omega)]
  rw [show (9 + 3 * i) = 7 + 3 * i + 2 by omega, show (8 + 3 * i) = 7 + 3 * i + 1 by omega] at *
  rw [up_s32 (k := 7 + 3 * i), up_s31 (k := 7 + 3 * i), s3_s3, s3_0, s3_2, up_o (k := 3) (j := 7 + 3 * i) (by omega), addF, if_neg hne]
theorem scoopm {f : Nat → Int32} {i t : Nat} (hi : i < 4) : upd (upd (upd (upd f (19 + 3 * t) (imn 60 (f (19 + 3 * t) + 2 * f (8 + 3 * i)))) (20 + 3 * t) (imx (upd f (19 + 3 * t) (imn 60 (f (19 + 3 * t) + 2 * f (8 + 3 * i))) (20 + 3 * t)) (100 - upd f (19 + 3 * t) (imn 60 (f (19 + 3 * t) + 2 * f (8 + 3 * i))) (9 + 3 * i)))) (8 + 3 * i) 0) (9 + 3 * i) 0 = scoopF f i t := by
  rw [up_o (k := 19 + 3 * t) (j := 20 + 3 * t) (by omega), up_o (k := 19 + 3 * t) (j := 9 + 3 * i) (by omega)]
  rw [show 20 + 3 * t = 19 + 3 * t + 1 by omega, up_s30 (k := 19 + 3 * t), up_s31 (k := 19 + 3 * t), s3_s3, s3_0, s3_2]
  rw [show (9 + 3 * i) = 7 + 3 * i + 2 by omega, show (8 + 3 * i) = 7 + 3 * i + 1 by omega, up_s31 (k := 7 + 3 * i), up_s32 (k := 7 + 3 * i), s3_s3, s3_0, s3_1, s3_o (k := 19 + 3 * t) (j := 7 + 3 * i) (by omega)]
  unfold scoopF
  rw [show (9 + 3 * i) = 7 + 3 * i + 2 by omega, show (8 + 3 * i) = 7 + 3 * i + 1 by omega, show 20 + 3 * t = 19 + 3 * t + 1 by omega, show 21 + 3 * t = 19 + 3 * t + 2 by omega]
theorem pick_cm {f : Nat → Int32} {i w : Nat} (hw : w < 3) : f (7 + 3 * i + w) = pick3 w (f (7 + 3 * i)) (f (8 + 3 * i)) (f (9 + 3 * i)) := by rw [pick_c hw, Nat.add_assoc]
theorem pick_tm {f : Nat → Int32} {i w : Nat} (hw : w < 3) : f (19 + 3 * i + w) = pick3 w (f (19 + 3 * i)) (f (20 + 3 * i)) (f (21 + 3 * i)) := by rw [pick_t hw, Nat.add_assoc]
theorem turnm_t {f : Nat → Int32} {i : Nat} {hot : Int32} (h : ¬ f (8 + 3 * i) ≤ 0) : upd (upd f (9 + 3 * i) (imn 100 (f (9 + 3 * i) + f (7 + 3 * i) / 3))) (7 + 3 * i) (imx 0 (upd f (9 + 3 * i) (imn 100 (f (9 + 3 * i) + f (7 + 3 * i) / 3)) (7 + 3 * i) - hot / 10 - 1)) = turn1 hot i f := by
  rw [up_o (k := 9 + 3 * i) (j := 7 + 3 * i) (by omega)]
  unfold turn1
  rw [turnF, if_pos (Int32.not_le.mp h)]
  rw [show (9 + 3 * i) = 7 + 3 * i + 2 by omega, show (8 + 3 * i) = 7 + 3 * i + 1 by omega, up_s32 (k := 7 + 3 * i), up_s30 (k := 7 + 3 * i), s3_s3, s3_1, s3_2]
  rfl
theorem turnm_f {f : Nat → Int32} {i : Nat} {hot : Int32} (h : f (8 + 3 * i) ≤ 0) : upd f (7 + 3 * i) (imx 0 (f (7 + 3 * i) - hot / 10 - 1)) = turn1 hot i f := by
  unfold turn1
  rw [turnF, if_neg (fun q => absurd h (Int32.not_le.mpr q))]
  rw [show (9 + 3 * i) = 7 + 3 * i + 2 by omega, show (8 + 3 * i) = 7 + 3 * i + 1 by omega, up_s30 (k := 7 + 3 * i)]
  rfl
theorem clampS {b q : Nat} (hb : b ≤ 100) (hq : q ≤ 40) : ∀ (c : Prop) [Decidable c], imx 0 (imn 100 (nI b + (if c then (nI q - 20) / 4 + 1 else -1))) = if c then (if 20 < q then imn 100 (nI b + (nI q - 20) / 4 + 1) else imx 0 (imn 100 (nI b + (nI q - 20) / 4 + 1))) else imx 0 (nI b - 1) := by
  intro c _
  by_cases hc : c
  · rw [if_pos hc, if_pos hc]
    by_cases h20 : 20 < q
    · rw [if_pos h20, ← Int32.add_assoc]
      have e : (20 : Int32) = nI 20 := rfl
      have e4 : (nI (q - 20)) / 4 = nI ((q - 20) / 4) := dv (d := 4) (by omega) (by decide) (by decide)
      have e1 : (100 : Int32) = nI 100 := rfl
      have e0 : (0 : Int32) = nI 0 := rfl
      rw [e, pk_sub (by omega), e4, nI_add, nI_1, e1, mn_n (by decide) (by omega), e0, mx_n (by decide) (by omega), Nat.max_eq_right (Nat.zero_le _)]
    · rw [if_neg h20, ← Int32.add_assoc]
  · rw [if_neg hc, if_neg hc]
    have e1 : (1 : Int32) = nI 1 := rfl
    have e0 : (0 : Int32) = nI 0 := rfl
    have e100 : (100 : Int32) = nI 100 := rfl
    rcases Nat.eq_zero_or_pos b with h | h
    · subst h; decide
    · have e2 : nI b + -1 = nI (b - 1) := by
        obtain ⟨x, rfl⟩ : ∃ x, b = x + 1 := ⟨b - 1, by omega⟩
        rw [pk_m1]; rfl
      rw [e2, e1, mx_sub (by omega) (by decide), e100, mn_n (by decide) (by omega), e0, mx_n (by decide) (by omega), Nat.max_eq_right (Nat.zero_le _), Nat.min_eq_right (by omega)]
theorem softm {b q : Nat} (hb : b ≤ 100) (hq : q ≤ 40) (ice : Int32) (by9 : Int32) (h : by9 = if 20 < nI q ∧ ice < 100 then (nI q - 20) / 4 + 1 else -1) : imx 0 (imn 100 (nI b + by9)) = softB (nI b) (nI q) ice := by
  rw [h, clampS hb hq]
  unfold softB
  by_cases hc : 20 < nI q ∧ ice < 100
  · rw [if_pos hc, if_pos hc, if_pos ((hotb hq).mp hc.1)]
  · rw [if_neg hc, if_neg hc]
theorem standm {f : Nat → Int32} {i q : Nat} {S : Int32} (hI : Inv f) (hi : i < 6) (h0 : ¬ f (19 + 3 * i) = 0) (hS : S = softB (f (20 + 3 * i)) (nI q) (f 1)) :
    (¬ S = 100 → upd f (20 + 3 * i) S = stand1 (nI q) i f) ∧ (S = 100 → upd (upd f (20 + 3 * i) S) (19 + 3 * i) (imx 0 (upd f (20 + 3 * i) S (19 + 3 * i) - 2)) = stand1 (nI q) i f) := by
  unfold stand1 standA standB
  rw [if_neg h0, if_neg h0, ← hS]
  rw [show 20 + 3 * i = 19 + 3 * i + 1 by omega, show 21 + 3 * i = 19 + 3 * i + 2 by omega]
  refine ⟨fun h => ?_, fun h => ?_⟩
  · rw [if_neg h, up_s31 (k := 19 + 3 * i)]
  · rw [if_pos h, up_o (k := 19 + 3 * i + 1) (j := 19 + 3 * i) (by omega), up_s31 (k := 19 + 3 * i), up_s30 (k := 19 + 3 * i), s3_s3, s3_1, s3_2]
theorem sellm {f : Nat → Int32} {nt k : Nat} (hnt : nt ≤ 6) (hk : k < nt) (e : nxt f nt = nI k) (h4 : ¬ f 4 = 0) {pay : Int32} (hp : pay = payF (f (20 + 3 * k))) {F : Nat → Int32} (hF : F = upd (upd f 4 (f 4 - 1)) 5 (f 5 + pay)) :
    upd (upd F (19 + 3 * k) (F (19 + 3 * k) - 1)) (21 + 3 * k) (upd F (19 + 3 * k) (F (19 + 3 * k) - 1) (21 + 3 * k) + 1) = sell1 nt f := by
  rw [sell1, if_neg (by rw [e]; exact fun q => q.elim (nI_ne_m1 (by omega)) h4), e, nI_clamp (by omega), sellT]
  have g : ∀ j, 7 ≤ j → F j = f j := fun j hj => by rw [hF, up_o (by omega), up_o (by omega)]
  rw [up_o (k := 19 + 3 * k) (j := 21 + 3 * k) (by omega), g _ (by omega), g _ (by omega), hF, hp]
  funext j
  unfold upd set3
  by_cases h5 : j = 5
  · subst h5
    rw [if_neg (by omega), if_neg (by omega), if_pos rfl, if_pos rfl]
  · by_cases h19 : j = 19 + 3 * k
    · subst h19
      rw [if_neg (by omega), if_pos rfl, if_neg (by omega), if_pos rfl]
    · by_cases h20 : j = 19 + 3 * k + 1
      · subst h20
        rw [if_neg (by omega), if_neg (by omega), if_neg (by omega), if_neg (by omega), if_neg (by omega), if_neg (by omega), if_pos rfl, show 20 + 3 * k = 19 + 3 * k + 1 by omega]
      · by_cases h21 : j = 19 + 3 * k + 2
        · subst h21
          rw [if_pos (by omega), if_neg (by omega), if_neg (by omega), if_neg (by omega), if_pos rfl]
        · rw [if_neg (by omega), if_neg h19, if_neg h5, if_neg h5, if_neg h19, if_neg h20, if_neg h21]
theorem forgm_t {f : Nat → Int32} {i : Nat} (h : f (19 + 3 * i) = 0) : upd f (20 + 3 * i) 0 = forg1 i f := by
  unfold forg1
  rw [forgB, if_pos h, show 20 + 3 * i = 19 + 3 * i + 1 by omega, show 21 + 3 * i = 19 + 3 * i + 2 by omega, up_s31 (k := 19 + 3 * i)]
theorem forgm_f {f : Nat → Int32} {i : Nat} (h : ¬ f (19 + 3 * i) = 0) : f = forg1 i f := by
  unfold forg1
  rw [forgB, if_neg h, show 20 + 3 * i = 19 + 3 * i + 1 by omega, show 21 + 3 * i = 19 + 3 * i + 2 by omega, s3_self]
theorem icem_t {f : Nat → Int32} {hot : Int32} (h : f 0 - f 0 / 4 * 4 = 0) : upd f 1 (imx 0 (f 1 - hot / 5)) = ice1 hot f := by
  unfold ice1
  rw [iceA, if_pos h]
theorem icem_f {f : Nat → Int32} {hot : Int32} (h : ¬ f 0 - f 0 / 4 * 4 = 0) : f = ice1 hot f := by
  unfold ice1
  rw [iceA, if_neg h]
  funext j
  unfold upd
  by_cases q : j = 1
  · rw [if_pos q, q]
  · rw [if_neg q]
theorem kp {f k F : Nat → Int32} : ∀ j, j < 37 → va_cpy (va_cpy f k 0 0 37) F 0 0 37 j = f j := by
  intro j hj
  unfold va_cpy
  rw [if_pos (by omega), if_pos (by omega)]
  simp
theorem P_left {D : va_G} {a b : va_W} {H : Heap} (h : va_P D vwCl (a ++ b) H) : va_P D vwCl a H := fun k q hk => h k q (by rw [List.getElem?_append_left (List.getElem?_eq_some_iff.mp hk).1]; exact hk)
theorem D_left {A : Nat → Prop} {a b : va_W} (h : va_D A (a ++ b)) : va_D A a := by
  obtain ⟨h1, h2⟩ := dn_of h
  rw [List.map_append] at h1
  exact dn_to (List.nodup_append.mp h1).1 (fun q hq => h2 q (List.mem_append_left _ hq))
theorem hm {h d : Nat} (hh : h < 2 ^ 31) : nI h / 24 - nI h / 24 / 7 * 7 = nI (h / 24 % 7) := by
  have e1 : nI h / 24 = nI (h / 24) := dv (d := 24) hh (by decide) (by decide)
  rw [e1]
  exact pk_rem (d := 7) (by omega) (by decide) (by decide)
