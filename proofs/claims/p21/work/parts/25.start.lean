/-! what every method takes, from the law's entry -/
theorem my_eq {t : Term} {x : Int32} {args : Array Value} {s : State} (h : (Cond.eq t (.int x)).before args s = true) : t.eval args s none [] s = some (.int x) := by
  have hu : (Term.int x).eval args s none [] s = some (.int x) := rfl
  simp only [Cond.before, Cond.holds, Cond.value, hu] at h
  cases ht : t.eval args s none [] s with
  | none => simp [ht] at h
  | some v =>
    simp only [ht] at h
    cases v <;> simp_all
abbrev FL : List Cond := flatC (Jvm.Cond.and given_1 narrow_1)
theorem in_nf : ∀ x ∈ NF, Cond.fieldLinkNest x.1 x.2.1 x.2.2.1 x.2.2.2.1 x.2.2.2.2 RX3 ∈ lw_tbl := by decide +kernel
theorem in_nm : ∀ x ∈ NM, Cond.methodLinkNest x.1 x.2.1 x.2.2 RX3 ∈ lw_tbl := by decide +kernel
theorem in_st : ∀ q ∈ STR, Cond.stringRef RX3 q.1 q.2 ∈ lw_tbl := by decide +kernel
theorem in_sx : ∀ q ∈ STR, Cond.exactly (.string RX3 q.1) "java/lang/String" ∈ FL := by decide +kernel
theorem in_nc : ∀ q ∈ NC, Cond.not (.castable q.1 q.2) ∈ FL := by decide +kernel
theorem in_ca : ∀ q ∈ CA, Cond.castable q q ∈ lw_tbl := by decide +kernel
theorem in_dc : ∀ x ∈ DC, Cond.declares x ∈ lw_tbl := by decide +kernel
theorem in_z1 : Cond.laysStatic Bundle.tN "UNASSIGNED_STACK" Bundle.steD ∈ lw_tbl ∧ Cond.laysStatic Bundle.tN "SUPPRESSED_SENTINEL" Bundle.listD ∈ lw_tbl ∧ Cond.initialized Bundle.tN ∈ lw_tbl ∧ Cond.laysStatic RX3 "STOCK_LIMITS" "[I" ∈ lw_tbl ∧ Cond.initialized RX3 ∈ lw_tbl ∧ Cond.arrayOver (.object RX1) ∈ lw_tbl ∧ Cond.arrayOver (.object RX2) ∈ lw_tbl ∧ Cond.arrayClass .int ∈ lw_tbl ∧ Cond.arrayOver (.array .int) ∈ lw_tbl ∧ Cond.methodLinkNest RL 70 yX4_init RL ∈ lw_tbl := by decide +kernel
theorem in_z2 : Cond.isRef (.static Bundle.tN "UNASSIGNED_STACK" Bundle.steD) ∈ FL ∧ Cond.isRef (.static Bundle.tN "SUPPRESSED_SENTINEL" Bundle.listD) ∈ FL ∧ Cond.arrayOf (.static RX3 "STOCK_LIMITS" "[I") .int ∈ FL ∧ Cond.eq (.length (.static RX3 "STOCK_LIMITS" "[I")) (.int 4) ∈ FL := by decide +kernel
theorem in_z3 : ∀ j, j < 4 → Cond.eq (.elem (.static RX3 "STOCK_LIMITS" "[I") (.int (Int32.ofNat j))) (.int (limF j)) ∈ FL := by decide +kernel
theorem st_start {s : State} {b : Nat} (hts : ∀ w ∈ lw_tbl, w.before #[Value.ref b] s = true) (hgv : (Jvm.Cond.and given_1 narrow_1).before #[Value.ref b] s = true) : ST (fun q : Nat => s.heap.size ≤ q) s := by
  have hf := flat_of_before _ hgv
  have hA : ∀ a : Nat, a < s.heap.size → ¬ (fun q : Nat => s.heap.size ≤ q) a := fun a ha => Nat.not_le.mpr ha
  obtain ⟨z1, z2, z3, z4, z6, z8, z9, -, z11, -⟩ := in_z1
  obtain ⟨y1, y2, y3, y5⟩ := in_z2
  refine ⟨fun x hx => va_Nw.of rfl (hts _ (in_nf x hx)), fun x hx => va_Nw.of rfl (hts _ (in_nm x hx)), fun q hq => ?_, fun q hq => va_Nc.of (hf _ (in_nc q hq)), fun q hq => va_Nw.of rfl (hts _ (in_ca q hq)), fun x hx => va_Nw.of rfl (hts _ (in_dc x hx)),
    vx_Zqof (hts _ z1) (hts _ z3) (hf _ y1) hA, vx_Zqof (hts _ z2) (hts _ z3) (hf _ y2) hA, ?_, va_AOA.of (hts _ z11), va_AO.of (hts _ z8), va_AO.of (hts _ z9)⟩
  · obtain ⟨a, -, -, -, ha, -⟩ := Cond.exactly_spec (hf _ (in_sx q hq))
    exact ⟨a, vk_R.of (hts _ (in_st q hq)) ha⟩
  · obtain ⟨t, h1, h2⟩ := va_Tof (N := 4) (f := fun j => .int (limF j)) (by decide) (hf _ y3) (my_eq (hf _ y5)) (fun j hj => my_eq (hf _ (in_z3 j hj))) hA
    exact ⟨t, va_Zof (hts _ z4) (hts _ z6) h1 hA, h2⟩
theorem k_prim {s : State} {args : Array Value} (h : (Cond.arrayClass .int).before args s = true) : ∃ cA, ArrOfT s cA .int ∧ va_RA s cA .int := by
  obtain ⟨cA, k, comp, h1, h2, h3⟩ := Cond.arrayClass_spec h
  exact ⟨cA, fun N z => ⟨(fun k h => by cases h), k, h2, comp, h3⟩, h1⟩
theorem k_rows {s : State} {args : Array Value} (h : (Cond.arrayOver (.array .int)).before args s = true) : ∃ cA, ArrOfT s cA (.array .int) ∧ va_RA s cA (.array .int) := by
  obtain ⟨comp, cA, k, h1, -, h3, h4, h5⟩ := arrayOverA_spec h
  exact ⟨cA, fun N z => ⟨(fun k h => by cases h), k, h3, comp, h4⟩, h5⟩
theorem k_obj {s : State} {args : Array Value} {C : String} (h : (Cond.arrayOver (.object C)).before args s = true) : ∃ cA, ArrOfT s cA (.object C) ∧ va_RA s cA (.object C) := by
  obtain ⟨comp, cA, k, h1, -, h3, h4, h5⟩ := Cond.arrayOver_spec h
  exact ⟨cA, fun N z => ⟨(fun k h => by cases h), k, h3, comp, h4⟩, k, comp, h3, h4, h1, h5⟩
theorem in_u : (∀ w ∈ u_ws RX0 TX0 9, w ∈ lw_tbl) ∧ (∀ w ∈ u_ws RX1 TX1 3, w ∈ lw_tbl) ∧ (∀ w ∈ u_ws RX2 TX2 3, w ∈ lw_tbl) ∧ (∀ w ∈ u_ws RX3 TX3 2, w ∈ lw_tbl) ∧ (∀ w ∈ u_ws RX4 TX4 7, w ∈ lw_tbl) := by decide +kernel
theorem in_i : Cond.instantiable RX0 9 ∈ lw_tbl ∧ Cond.instantiable RX1 3 ∈ lw_tbl ∧ Cond.instantiable RX2 3 ∈ lw_tbl ∧ Cond.instantiable RX3 2 ∈ lw_tbl ∧ Cond.instantiable RX4 7 ∈ lw_tbl := by decide +kernel
theorem k_start {s : State} {args : Array Value} (hts : ∀ w ∈ lw_tbl, w.before args s = true) : ∃ (D : va_G) (cI cC cT cL : ClassId), va_K D vwCl (TY cI cC cT cL) s := by
  obtain ⟨u0, u1, u2, u3, u4⟩ := in_u
  obtain ⟨i0, i1, i2, i3, i4⟩ := in_i
  obtain ⟨-, -, -, -, -, z8, z9, z10, z11, -⟩ := in_z1
  obtain ⟨c0, s0, k0⟩ := u_known (C := RX0) (T := TX0) (N := 9) hts u0 (hts _ i0)
  obtain ⟨c1, s1, k1⟩ := u_known (C := RX1) (T := TX1) (N := 3) hts u1 (hts _ i1)
  obtain ⟨c2, s2, k2⟩ := u_known (C := RX2) (T := TX2) (N := 3) hts u2 (hts _ i2)
  obtain ⟨c3, s3, k3⟩ := u_known (C := RX3) (T := TX3) (N := 2) hts u3 (hts _ i3)
  obtain ⟨c4, s4, k4⟩ := u_known (C := RX4) (T := TX4) (N := 7) hts u4 (hts _ i4)
  obtain ⟨cI, hI⟩ := k_prim (hts _ z10)
  obtain ⟨cL, hL⟩ := k_rows (hts _ z11)
  obtain ⟨cC, hC⟩ := k_obj (hts _ z8)
  obtain ⟨cT, hT⟩ := k_obj (hts _ z9)
  refine ⟨(fun k => if k = 0 then c0 else if k = 1 then c1 else if k = 2 then c2 else if k = 3 then c3 else c4, fun k => if k = 0 then s0 else if k = 1 then s1 else if k = 2 then s2 else if k = 3 then s3 else s4), cI, cC, cT, cL, ?_, ?_⟩
  · intro k q hq
    match k, hq with
    | 0, hq => cases hq; exact k0
    | 1, hq => cases hq; exact k1
    | 2, hq => cases hq; exact k2
    | 3, hq => cases hq; exact k3
    | 4, hq => cases hq; exact k4
    | k + 5, hq => simp [vwCl] at hq
  · intro k q hq
    match k, hq with
    | 0, hq => cases hq; exact hI
    | 1, hq => cases hq; exact hC
    | 2, hq => cases hq; exact hT
    | 3, hq => cases hq; exact hL
    | k + 4, hq => simp [TY] at hq
