theorem st_arr_byte {s : State} {args : Array Value} (h : (Cond.arrayClass .byte).before args s = true) : ∃ cA : ClassId, ArrOfT s cA .byte ∧ va_RA s cA .byte := by
  obtain ⟨c, k, comp, h1, h2, h3⟩ := Cond.arrayClass_spec h
  exact ⟨c, fun n z => ⟨fun k h => (by cases h), k, h2, comp, h3⟩, h1⟩
theorem st_arr_int {s : State} {args : Array Value} (h : (Cond.arrayClass .int).before args s = true) : ∃ cA : ClassId, ArrOfT s cA .int ∧ va_RA s cA .int := by
  obtain ⟨c, k, comp, h1, h2, h3⟩ := Cond.arrayClass_spec h
  exact ⟨c, fun n z => ⟨fun k h => (by cases h), k, h2, comp, h3⟩, h1⟩
theorem st_arr_long {s : State} {args : Array Value} (h : (Cond.arrayClass .long).before args s = true) : ∃ cA : ClassId, ArrOfT s cA .long ∧ va_RA s cA .long := by
  obtain ⟨c, k, comp, h1, h2, h3⟩ := Cond.arrayClass_spec h
  exact ⟨c, fun n z => ⟨fun k h => (by cases h), k, h2, comp, h3⟩, h1⟩
theorem nestW_on : nestW.all Cond.onTables = true := by decide +kernel
theorem nestW_in : ∀ w ∈ nestW, w ∈ lw_tbl := by decide +kernel
theorem st_NB {s : State} {args : Array Value} (hts : ∀ w ∈ lw_tbl, w.before args s = true) : NB s := fun w hw => va_Nw.of (List.all_eq_true.mp nestW_on w hw) (hts w (nestW_in w hw))
theorem xW_on : xW.all Cond.onTables = true := by decide +kernel
theorem xW_in : ∀ w ∈ xW, w ∈ lw_tbl := by decide +kernel
theorem st_str {s : State} {args : Array Value} (hts : ∀ w ∈ lw_tbl, w.before args s = true) : ∃ sa : Nat, vk_R RX3 143 "no such place in memory" sa s := by
  have h := hts (.stringRef RX3 143 "no such place in memory") (by decide +kernel)
  obtain ⟨cur, k, f, h1, -⟩ : ∃ (cur : ClassId) (k : Nat) (f : Nat), s.vm.findClass RX3 = some cur ∧ True := by
    obtain ⟨cC, iS, hk⟩ := u_known (C := RX3) (T := TX3) (N := 2) (n := 2) hts inX3 (hts (.instantiable RX3 2) (wsL_law_in _ (by decide +kernel)))
    exact ⟨cC, 0, 0, hk.2.1, trivial⟩
  obtain ⟨-, -, -, a, -, -, -, -, -, hev⟩ := Cond.stringRef_spec h1 h
  exact ⟨a, vk_R.of h hev⟩
theorem st_xPre {s : State} {args : Array Value} (hts : ∀ w ∈ lw_tbl, w.before args s = true) (hgv : (Jvm.Cond.and given_1 narrow_1).before args s = true) : ∃ sa : Nat, xPre sa (fun q : Nat => s.heap.size ≤ q) s := by
  obtain ⟨sa, hsa⟩ := st_str hts
  have hs := flat_of_before _ hgv
  exact ⟨sa, fun w hw => va_Nw.of (List.all_eq_true.mp xW_on w hw) (hts w (xW_in w hw)), hsa,
    vx_Zqof (hts (.laysStatic Bundle.tN "UNASSIGNED_STACK" Bundle.steD) (by decide +kernel)) (hts (.initialized Bundle.tN) (by decide +kernel)) (hs (.isRef (.static Bundle.tN "UNASSIGNED_STACK" Bundle.steD)) (by decide +kernel)) (fun a h => Nat.not_le.mpr h),
    vx_Zqof (hts (.laysStatic Bundle.tN "SUPPRESSED_SENTINEL" Bundle.listD) (by decide +kernel)) (hts (.initialized Bundle.tN) (by decide +kernel)) (hs (.isRef (.static Bundle.tN "SUPPRESSED_SENTINEL" Bundle.listD)) (by decide +kernel)) (fun a h => Nat.not_le.mpr h)⟩
theorem st_K {s : State} {args : Array Value} (hts : ∀ w ∈ lw_tbl, w.before args s = true) : ∃ (dC : Nat → ClassId) (dI : Nat → Nat → Nat) (cB cI cJ : ClassId), va_K (dC, dI) vwCl (tyL cB cI cJ) s := by
  have hL := fun w h => hts w (wsL_law_in w h)
  obtain ⟨c0, iS0, hK0⟩ := u_known (C := RX0) (T := TX0) (N := 10) (n := 10) hts inX0 (hL (.instantiable RX0 10) (by decide +kernel))
  obtain ⟨c1, iS1, hK1⟩ := u_known (C := RX1) (T := TX1) (N := 6) (n := 6) hts inX1 (hL (.instantiable RX1 6) (by decide +kernel))
  obtain ⟨c2, iS2, hK2⟩ := u_known (C := RX2) (T := TX2) (N := 2) (n := 2) hts inX2 (hL (.instantiable RX2 2) (by decide +kernel))
  obtain ⟨c3, iS3, hK3⟩ := u_known (C := RX3) (T := TX3) (N := 2) (n := 2) hts inX3 (hL (.instantiable RX3 2) (by decide +kernel))
  obtain ⟨c4, iS4, hK4⟩ := u_known (C := RX4) (T := TX4) (N := 21) (n := 21) hts inX4 (hL (.instantiable RX4 21) (by decide +kernel))
  obtain ⟨cB, hcB⟩ := st_arr_byte (hL (.arrayClass .byte) (by decide +kernel))
  obtain ⟨cI, hcI⟩ := st_arr_int (hL (.arrayClass .int) (by decide +kernel))
  obtain ⟨cJ, hcJ⟩ := st_arr_long (hL (.arrayClass .long) (by decide +kernel))
  refine ⟨fun k => match k with | 0 => c0 | 1 => c1 | 2 => c2 | 3 => c3 | _ => c4, fun k => match k with | 0 => iS0 | 1 => iS1 | 2 => iS2 | 3 => iS3 | _ => iS4, cB, cI, cJ, ?_, ?_⟩
  · intro k q hq
    match k, hq with
    | 0, hq => cases hq; exact hK0
    | 1, hq => cases hq; exact hK1
    | 2, hq => cases hq; exact hK2
    | 3, hq => cases hq; exact hK3
    | 4, hq => cases hq; exact hK4
    | k + 5, hq => exact absurd hq (by simp [vwCl])
  · intro k q hq
    match k, hq with
    | 0, hq => cases hq; exact hcB
    | 1, hq => cases hq; exact hcI
    | 2, hq => cases hq; exact hcJ
    | k + 3, hq => exact absurd hq (by simp [tyL])
