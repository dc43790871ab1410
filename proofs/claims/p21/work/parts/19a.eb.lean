/-! what build must know besides: the script, and that the law may make a sim -/
def EB (b L : Nat) (xs : Nat → Int32) : (Nat → Prop) → State → Prop := fun A U => ES b L xs A U ∧ va_Nw (.methodLinkNest RL 70 yX4_init RL) U
theorem px_blindB {D : va_G} {tys : List (ClassId × FieldType)} {av : List Value} {wc : va_W} {sz b9 L9 : Nat} {xs : Nat → Int32} : FrameBlind (Px (EB b9 L9 xs) D tys av wc sz) := fun a U g mk h => by
  obtain ⟨h1, ⟨h2, h3, h4, h5, h6⟩, h7⟩ := h
  refine ⟨h1, ⟨h2, h3, va_K.moved (u := U) (U := U.calling g mk a) (Vm.Alike.refl U.vm) h4, h5, ?_⟩, ?_⟩
  · exact h6
  · exact h7
theorem eb_at {A : Nat → Prop} {s : State} {H : Heap} {locs : List Loc} {L wc : va_W} {b9 L9 : Nat} {xs : Nat → Int32} (hN : va_Nw (.methodLinkNest RL 70 yX4_init RL) s) (hX : va_X b9 L9 xs s s.heap) (hbl : b9 < s.heap.size) (hbA : ¬ A b9) (hD : va_D A (L ++ wc)) (hS : va_S A s.heap H locs) (hA : ∀ q : Nat, s.heap.size ≤ q → A q) : ∀ U : State, U.heap = H → s.WarmedH U.vm → EB b9 L9 xs (va_A wc H.size) U := fun U hU hW => ⟨es_at hX hbl hbA hD hS hA U hU hW, va_Nw.warmM hW hN⟩
def buildB (cI cC cT cL : ClassId) (x : Nat) (A : Nat → Nat) (b0 : Nat) : Option Value → va_W → Prop := fun o w => ∃ (S C T : Nat → Nat) (nc nt : Nat) (f g : Nat → Int32) (h : Nat), o = some (.ref (S 0)) ∧ GS2 nc nt f g h ∧ h ≤ 60 ∧ w = YW cI cC cT x A b0 nc nt f g ++ SM cI cL S C T nc nt f g
theorem k_pass1 : kPass 1 = 0 := by decide
theorem shr_p (j : Nat) (hj : j < 2 ^ 31) : nI j - nI j / 16 * 16 = nI (j % 16) := pk_rem (d := 16) hj (by decide) (by decide)
