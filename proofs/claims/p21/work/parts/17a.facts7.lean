/-! words; small facts -/
theorem Jf_nil (ws : va_W) : Jf ws [] [] ws := ⟨Jn_nil ws, rfl⟩
theorem pm_nil {ws : va_W} : ws.Perm (ws ++ []) := by rw [List.append_nil]
theorem dec1 (n : Nat) : nI n + Int32.ofInt (-1) = nI n - 1 := by
  rw [Int32.sub_eq_add_neg]
  rfl
theorem hm7 {h : Nat} (hh : h < 2 ^ 30) : nI h / 24 - nI h / 24 / 7 * 7 = nI (h / 24 % 7) := by
  have e1 : nI h / 24 = nI (h / 24) := pk_div (d := 24) (by omega) (by decide) (by decide)
  rw [e1]
  exact pk_rem (d := 7) (by omega) (by decide) (by decide)
theorem fX4_hot_13 : Cond.fieldLink RX4 13 "ColdCreameryLaw$Sim" "heat" "[I" ∈ wsX4_hot := by decide +kernel
theorem fX4_hot_24 : Cond.fieldLink RX4 24 "ColdCreameryLaw$Sim" "hour" "I" ∈ wsX4_hot := by decide +kernel
theorem fX4_next_21 : Cond.fieldLink RX4 21 "ColdCreameryLaw$Sim" "tubs" "[[I" ∈ wsX4_next := by decide +kernel
theorem fX4_sum_21 : Cond.fieldLink RX4 21 "ColdCreameryLaw$Sim" "tubs" "[[I" ∈ wsX4_sum := by decide +kernel
theorem iX4_hot_X4 : ∀ w ∈ u_ws RX4 TX4 7, w ∈ wsX4_hot := by decide +kernel
theorem iX4_next_X4 : ∀ w ∈ u_ws RX4 TX4 7, w ∈ wsX4_next := by decide +kernel
theorem iX4_sum_X4 : ∀ w ∈ u_ws RX4 TX4 7, w ∈ wsX4_sum := by decide +kernel
theorem kL_below_7 : Cond.constant RL 7 (2147483647) ∈ wsL_below := by decide +kernel
theorem kL_cell_8 : Cond.constant RL 8 (790386105) ∈ wsL_cell := by decide +kernel
