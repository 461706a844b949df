set_option maxHeartbeats 4000000 in
set_option maxRecDepth 100000 in
theorem c_X1_init (l : Launch) (dC : Nat → ClassId) (dI : Nat → Nat → Nat) (cB cI cJ : ClassId) (sz : Nat) (oS : Nat)  : Met l yX1_init wsX1_init ({ frames := 1, cells := 3, slots := 8224, locals := 20 }) (va_Pc [.ref oS] (wPre dC dI cB cI cJ sz [(oS, .inr (1, [.null, .int (nI 0), .null, .null, .int (nI 0), .int (nI 0)]))])) (va_Qv (fun (u : Nat × Nat × Nat) => True) (fun (u : Nat × Nat × Nat) => wPost dC dI (va_A [(oS, .inr (1, [.null, .int (nI 0), .null, .null, .int (nI 0), .int (nI 0)]))] sz) [(oS, .inr (1, [.ref u.1, .int (nI 0), .ref u.2.1, .ref u.2.2, .int (nI 0), .int (nI 0)])), (u.1, .inl (cB, 8192, .inl (fun _ => 0))), (u.2.1, .inl (cI, 16, .inl (fun _ => 0))), (u.2.2, .inl (cI, 16, .inl (fun _ => 0)))]) (va_A [(oS, .inr (1, [.null, .int (nI 0), .null, .null, .int (nI 0), .int (nI 0)]))] sz)) 3 8224 (va_A [(oS, .inr (1, [.null, .int (nI 0), .null, .null, .int (nI 0), .int (nI 0)]))] sz) := by
  refine Met.ofW (cc := cX1_init) (maxL := 1) (ret := none) (by decide) rfl ?_
  intro p e s m args below meth c s₁ B hml hv
  obtain ⟨rfl, hsz, hP, hK, hD0, hN⟩ := hv
  have hx := B.exec
  have hb := B.bytes
  have hr := B.returns
  have hts := atoms_spec (ws := wsX1_init) B.pre
  have hown : s.vm.findClass RX1 = some m.cls := findClass_of_methodNamed B.named
  have hlocks := B.notSynchronized
  have hin : meth.name = "<init>" := (name_of_methodNamed B.named B.method).1
  subst hsz
  have hD := hD0.self (sz := s.heap.size)
  generalize hAe : va_A [(oS, .inr (1, [.null, .int (nI 0), .null, .null, .int (nI 0), .int (nI 0)]))] s.heap.size = A at hD ⊢
  have hA : ∀ q : Nat, s.heap.size ≤ q → A q := fun q h => by rw [← hAe]; exact Or.inr h
  have hS : va_S A s.heap s.heap [] := va_S.rf
  have hP : va_P (dC, dI) vwCl [(oS, .inr (1, [.null, .int (nI 0), .null, .null, .int (nI 0), .int (nI 0)]))] s.heap := hP
  have hl := lv_entry ([.ref oS]) (n := 1) (Nat.le_of_ble_eq_true rfl)
  rw [lg_entry_eq]
  generalize (lg_sl ([.ref oS]) ++ List.replicate (1 - (lg_sl ([.ref oS])).length) Slot.unset).toArray = ls at hl ⊢
  have hl : lv_has ls 1 [(0, .ref oS)] := hl
  refine lv_aload_n hx hb dX1_init_0 rfl (lv_at hl 0 rfl) ?_
  refine W.objInit hx hb hown (hts (.methodLink RX1 3 objectInit) (by decide +kernel)) (hts (.instanceMethod objectInit) (by decide +kernel)) (hts (.code objectInit ⟨#[0xb1]⟩ 1 none) (List.mem_of_getElem? (i := 3) rfl)) rfl (by rw [hml]; exact hl.1) rfl dX1_init_1 (Nat.le_of_ble_eq_true rfl) (Nat.le_of_ble_eq_true rfl) ?_
  refine W.eq (g2 := F0 m 4 ls []) rfl ?_
  refine lv_aload_n hx hb dX1_init_4 rfl (lv_at hl 0 rfl) ?_
  refine lv_sipush (v := nI 8192) hx hb dX1_init_5 (by decide) ?_
  refine va_newa (a0 := (8192, .inl (fun _ => 0))) (ty := .byte) (atype := .byte) (n := nI 8192) (N' := 8192) hx hb (hts (.arrayClass .byte) (by decide +kernel)) rfl hK hP hD hS hA (wx_a0b 8192) (nI_pos (by decide)) (nI_clamp (by decide)) (by decide) (show 1 ≤ 3 by decide) (show 8192 ≤ 8224 by decide) dX1_init_8 (fun q_1 cA H hK hP hD hS => ?_)
  obtain rfl := wx_uni hK (i := 0) (j := 3) rfl rfl rfl
  have hK := hK.sub (tys' := tyL cB cI cJ) [0, 1, 2] rfl
  have hP : va_P (dC, dI) vwCl [(oS, .inr (1, [.null, .int (nI 0), .null, .null, .int (nI 0), .int (nI 0)])), (q_1, .inl (cB, 8192, .inl (fun _ => 0)))] H := hP
  have hD : va_D A [(oS, .inr (1, [.null, .int (nI 0), .null, .null, .int (nI 0), .int (nI 0)])), (q_1, .inl (cB, 8192, .inl (fun _ => 0)))] := hD
  refine va_putF (D := (dC, dI)) (ci := 1) (v := .ref q_1) (ty := (tyX1 0)) (C := RX1) (T := TX1) (N := 6) hx hb hts (by decide +kernel) tyX1 tyX1_ok nmX1 hown hK hP hD hS 0 rfl rfl 0 (by decide) (hts (.fieldLink RX1 9 "GlulxHeads$State" "bytes" "[B") (by decide +kernel)) (fun _ h9 => h9) rfl hin rfl (by decide +kernel) rfl rfl (Nat.le_of_ble_eq_true rfl) dX1_init_10 (fun H locs hP hD hS => ?_)
  have hP : va_P (dC, dI) vwCl [(oS, .inr (1, [.ref q_1, .int (nI 0), .null, .null, .int (nI 0), .int (nI 0)])), (q_1, .inl (cB, 8192, .inl (fun _ => 0)))] H := hP
  have hD : va_D A [(oS, .inr (1, [.ref q_1, .int (nI 0), .null, .null, .int (nI 0), .int (nI 0)])), (q_1, .inl (cB, 8192, .inl (fun _ => 0)))] := hD
  refine lv_aload_n hx hb dX1_init_13 rfl (lv_at hl 0 rfl) ?_
  refine lv_iconst (v := nI 0) hx hb dX1_init_14 (by decide) ?_
  refine va_put (D := (dC, dI)) (ci := 1) (v := .int (nI 0)) (ty := .int) (C := RX1) (T := TX1) (N := 6) hx hb hts (by decide +kernel) tyX1 tyX1_ok nmX1 hown hK hP hD hS 0 rfl rfl 1 (by decide) (hts (.fieldLink RX1 15 "GlulxHeads$State" "size" "I") (by decide +kernel)) (fun _ h9 => h9) rfl (by decide +kernel) rfl rfl (Nat.le_of_ble_eq_true rfl) dX1_init_15 (fun H locs hP hD hS => ?_)
  have hP : va_P (dC, dI) vwCl [(oS, .inr (1, [.ref q_1, .int (nI 0), .null, .null, .int (nI 0), .int (nI 0)])), (q_1, .inl (cB, 8192, .inl (fun _ => 0)))] H := hP
  have hD : va_D A [(oS, .inr (1, [.ref q_1, .int (nI 0), .null, .null, .int (nI 0), .int (nI 0)])), (q_1, .inl (cB, 8192, .inl (fun _ => 0)))] := hD
  refine lv_aload_n hx hb dX1_init_18 rfl (lv_at hl 0 rfl) ?_
  refine lv_bipush (v := nI 16) hx hb dX1_init_19 (by decide) ?_
  refine va_newa (a0 := (16, .inl (fun _ => 0))) (ty := .int) (atype := .int) (n := nI 16) (N' := 16) hx hb (hts (.arrayClass .int) (by decide +kernel)) rfl hK hP hD hS hA (wx_a0i 16) (nI_pos (by decide)) (nI_clamp (by decide)) (by decide) (show 2 ≤ 3 by decide) (show 8208 ≤ 8224 by decide) dX1_init_21 (fun q_2 cA H hK hP hD hS => ?_)
  obtain rfl := wx_uni hK (i := 1) (j := 3) rfl rfl rfl
  have hK := hK.sub (tys' := tyL cB cI cJ) [0, 1, 2] rfl
  have hP : va_P (dC, dI) vwCl [(oS, .inr (1, [.ref q_1, .int (nI 0), .null, .null, .int (nI 0), .int (nI 0)])), (q_1, .inl (cB, 8192, .inl (fun _ => 0))), (q_2, .inl (cI, 16, .inl (fun _ => 0)))] H := hP
  have hD : va_D A [(oS, .inr (1, [.ref q_1, .int (nI 0), .null, .null, .int (nI 0), .int (nI 0)])), (q_1, .inl (cB, 8192, .inl (fun _ => 0))), (q_2, .inl (cI, 16, .inl (fun _ => 0)))] := hD
  refine va_putF (D := (dC, dI)) (ci := 1) (v := .ref q_2) (ty := (tyX1 2)) (C := RX1) (T := TX1) (N := 6) hx hb hts (by decide +kernel) tyX1 tyX1_ok nmX1 hown hK hP hD hS 0 rfl rfl 2 (by decide) (hts (.fieldLink RX1 19 "GlulxHeads$State" "blockPlace" "[I") (by decide +kernel)) (fun _ h9 => h9) rfl hin rfl (by decide +kernel) rfl rfl (Nat.le_of_ble_eq_true rfl) dX1_init_23 (fun H locs hP hD hS => ?_)
  have hP : va_P (dC, dI) vwCl [(oS, .inr (1, [.ref q_1, .int (nI 0), .ref q_2, .null, .int (nI 0), .int (nI 0)])), (q_1, .inl (cB, 8192, .inl (fun _ => 0))), (q_2, .inl (cI, 16, .inl (fun _ => 0)))] H := hP
  have hD : va_D A [(oS, .inr (1, [.ref q_1, .int (nI 0), .ref q_2, .null, .int (nI 0), .int (nI 0)])), (q_1, .inl (cB, 8192, .inl (fun _ => 0))), (q_2, .inl (cI, 16, .inl (fun _ => 0)))] := hD
  refine lv_aload_n hx hb dX1_init_26 rfl (lv_at hl 0 rfl) ?_
  refine lv_bipush (v := nI 16) hx hb dX1_init_27 (by decide) ?_
  refine va_newa (a0 := (16, .inl (fun _ => 0))) (ty := .int) (atype := .int) (n := nI 16) (N' := 16) hx hb (hts (.arrayClass .int) (by decide +kernel)) rfl hK hP hD hS hA (wx_a0i 16) (nI_pos (by decide)) (nI_clamp (by decide)) (by decide) (show 3 ≤ 3 by decide) (show 8224 ≤ 8224 by decide) dX1_init_29 (fun q_3 cA H hK hP hD hS => ?_)
  obtain rfl := wx_uni hK (i := 1) (j := 3) rfl rfl rfl
  have hK := hK.sub (tys' := tyL cB cI cJ) [0, 1, 2] rfl
  have hP : va_P (dC, dI) vwCl [(oS, .inr (1, [.ref q_1, .int (nI 0), .ref q_2, .null, .int (nI 0), .int (nI 0)])), (q_1, .inl (cB, 8192, .inl (fun _ => 0))), (q_2, .inl (cI, 16, .inl (fun _ => 0))), (q_3, .inl (cI, 16, .inl (fun _ => 0)))] H := hP
  have hD : va_D A [(oS, .inr (1, [.ref q_1, .int (nI 0), .ref q_2, .null, .int (nI 0), .int (nI 0)])), (q_1, .inl (cB, 8192, .inl (fun _ => 0))), (q_2, .inl (cI, 16, .inl (fun _ => 0))), (q_3, .inl (cI, 16, .inl (fun _ => 0)))] := hD
  refine va_putF (D := (dC, dI)) (ci := 1) (v := .ref q_3) (ty := (tyX1 3)) (C := RX1) (T := TX1) (N := 6) hx hb hts (by decide +kernel) tyX1 tyX1_ok nmX1 hown hK hP hD hS 0 rfl rfl 3 (by decide) (hts (.fieldLink RX1 23 "GlulxHeads$State" "blockLength" "[I") (by decide +kernel)) (fun _ h9 => h9) rfl hin rfl (by decide +kernel) rfl rfl (Nat.le_of_ble_eq_true rfl) dX1_init_31 (fun H locs hP hD hS => ?_)
  have hP : va_P (dC, dI) vwCl [(oS, .inr (1, [.ref q_1, .int (nI 0), .ref q_2, .ref q_3, .int (nI 0), .int (nI 0)])), (q_1, .inl (cB, 8192, .inl (fun _ => 0))), (q_2, .inl (cI, 16, .inl (fun _ => 0))), (q_3, .inl (cI, 16, .inl (fun _ => 0)))] H := hP
  have hD : va_D A [(oS, .inr (1, [.ref q_1, .int (nI 0), .ref q_2, .ref q_3, .int (nI 0), .int (nI 0)])), (q_1, .inl (cB, 8192, .inl (fun _ => 0))), (q_2, .inl (cI, 16, .inl (fun _ => 0))), (q_3, .inl (cI, 16, .inl (fun _ => 0)))] := hD
  refine lv_aload_n hx hb dX1_init_34 rfl (lv_at hl 0 rfl) ?_
  refine lv_iconst (v := nI 0) hx hb dX1_init_35 (by decide) ?_
  refine va_put (D := (dC, dI)) (ci := 1) (v := .int (nI 0)) (ty := .int) (C := RX1) (T := TX1) (N := 6) hx hb hts (by decide +kernel) tyX1 tyX1_ok nmX1 hown hK hP hD hS 0 rfl rfl 4 (by decide) (hts (.fieldLink RX1 26 "GlulxHeads$State" "blockCount" "I") (by decide +kernel)) (fun _ h9 => h9) rfl (by decide +kernel) rfl rfl (Nat.le_of_ble_eq_true rfl) dX1_init_36 (fun H locs hP hD hS => ?_)
  have hP : va_P (dC, dI) vwCl [(oS, .inr (1, [.ref q_1, .int (nI 0), .ref q_2, .ref q_3, .int (nI 0), .int (nI 0)])), (q_1, .inl (cB, 8192, .inl (fun _ => 0))), (q_2, .inl (cI, 16, .inl (fun _ => 0))), (q_3, .inl (cI, 16, .inl (fun _ => 0)))] H := hP
  have hD : va_D A [(oS, .inr (1, [.ref q_1, .int (nI 0), .ref q_2, .ref q_3, .int (nI 0), .int (nI 0)])), (q_1, .inl (cB, 8192, .inl (fun _ => 0))), (q_2, .inl (cI, 16, .inl (fun _ => 0))), (q_3, .inl (cI, 16, .inl (fun _ => 0)))] := hD
  refine lv_aload_n hx hb dX1_init_39 rfl (lv_at hl 0 rfl) ?_
  refine lv_iconst (v := nI 0) hx hb dX1_init_40 (by decide) ?_
  refine va_put (D := (dC, dI)) (ci := 1) (v := .int (nI 0)) (ty := .int) (C := RX1) (T := TX1) (N := 6) hx hb hts (by decide +kernel) tyX1 tyX1_ok nmX1 hown hK hP hD hS 0 rfl rfl 5 (by decide) (hts (.fieldLink RX1 29 "GlulxHeads$State" "heapStart" "I") (by decide +kernel)) (fun _ h9 => h9) rfl (by decide +kernel) rfl rfl (Nat.le_of_ble_eq_true rfl) dX1_init_41 (fun H locs hP hD hS => ?_)
  have hP : va_P (dC, dI) vwCl [(oS, .inr (1, [.ref q_1, .int (nI 0), .ref q_2, .ref q_3, .int (nI 0), .int (nI 0)])), (q_1, .inl (cB, 8192, .inl (fun _ => 0))), (q_2, .inl (cI, 16, .inl (fun _ => 0))), (q_3, .inl (cI, 16, .inl (fun _ => 0)))] H := hP
  have hD : va_D A [(oS, .inr (1, [.ref q_1, .int (nI 0), .ref q_2, .ref q_3, .int (nI 0), .int (nI 0)])), (q_1, .inl (cB, 8192, .inl (fun _ => 0))), (q_2, .inl (cI, 16, .inl (fun _ => 0))), (q_3, .inl (cI, 16, .inl (fun _ => 0)))] := hD
  refine W.widen (k := 3) (n := 8224) (show 3 ≤ 3 by decide) (show 8224 ≤ 8224 by decide) ?_
  have hP9 := hP.sub (ws' := [(oS, .inr (1, [.ref q_1, .int (nI 0), .ref q_2, .ref q_3, .int (nI 0), .int (nI 0)])), (q_1, .inl (cB, 8192, .inl (fun _ => 0))), (q_2, .inl (cI, 16, .inl (fun _ => 0))), (q_3, .inl (cI, 16, .inl (fun _ => 0)))]) [0, 1, 2, 3] rfl
  have hD9 := hD.sub (ws' := [(oS, .inr (1, [.ref q_1, .int (nI 0), .ref q_2, .ref q_3, .int (nI 0), .int (nI 0)])), (q_1, .inl (cB, 8192, .inl (fun _ => 0))), (q_2, .inl (cI, 16, .inl (fun _ => 0))), (q_3, .inl (cI, 16, .inl (fun _ => 0)))]) [0, 1, 2, 3] (by decide) rfl
  exact W.vret hx hb hr (fun t ht hW => ⟨⟨(q_1, q_2, q_3), rfl, trivial, by rw [ht]; exact hP9, hD9⟩, hS.F ht⟩) hS.2.2 dX1_init_44
set_option maxHeartbeats 4000000 in
set_option maxRecDepth 100000 in
theorem c_X1_holds (l : Launch) (dC : Nat → ClassId) (dI : Nat → Nat → Nat) (cB cI cJ : ClassId) (sz : Nat) (oS : Nat) (aB : Nat) (aP : Nat) (aL : Nat) (mz : Nat) (cn : Nat) (hs : Nat) (g : Nat → Int32) (P : Nat → Int32) (L : Nat → Int32) (a : Int32) (k : Nat) (hm : mz ≤ 8192) (hk : k < 2147483648) : Met l yX1_holds wsX1_holds ({ frames := 0, cells := 0, slots := 0, locals := 0 }) (va_Pc [.ref oS, .int a, .int (nI k)] (wPre dC dI cB cI cJ sz [(oS, .inr (1, [.ref aB, .int (nI mz), .ref aP, .ref aL, .int (nI cn), .int (nI hs)])), (aB, .inl (cB, 8192, .inl g)), (aP, .inl (cI, 16, .inl P)), (aL, .inl (cI, 16, .inl L))])) (va_Qi (fun (r : Int32) (u : Unit) => r = nI (if 0 ≤ a.toInt ∧ a.toInt + (k : Int) ≤ (mz : Int) then 1 else 0)) (fun (u : Unit) => wPost dC dI (va_A [(oS, .inr (1, [.ref aB, .int (nI mz), .ref aP, .ref aL, .int (nI cn), .int (nI hs)])), (aB, .inl (cB, 8192, .inl g)), (aP, .inl (cI, 16, .inl P)), (aL, .inl (cI, 16, .inl L))] sz) [(oS, .inr (1, [.ref aB, .int (nI mz), .ref aP, .ref aL, .int (nI cn), .int (nI hs)])), (aB, .inl (cB, 8192, .inl g)), (aP, .inl (cI, 16, .inl P)), (aL, .inl (cI, 16, .inl L))]) (va_A [(oS, .inr (1, [.ref aB, .int (nI mz), .ref aP, .ref aL, .int (nI cn), .int (nI hs)])), (aB, .inl (cB, 8192, .inl g)), (aP, .inl (cI, 16, .inl P)), (aL, .inl (cI, 16, .inl L))] sz)) 0 0 (va_A [(oS, .inr (1, [.ref aB, .int (nI mz), .ref aP, .ref aL, .int (nI cn), .int (nI hs)])), (aB, .inl (cB, 8192, .inl g)), (aP, .inl (cI, 16, .inl P)), (aL, .inl (cI, 16, .inl L))] sz) := by
  refine Met.ofW (cc := cX1_holds) (maxL := 3) (ret := (some .boolean)) (by decide) rfl ?_
  intro p e s m args below meth c s₁ B hml hv
  obtain ⟨rfl, hsz, hP, hK, hD0, hN⟩ := hv
  have hx := B.exec
  have hb := B.bytes
  have hr := B.returns
  have hts := atoms_spec (ws := wsX1_holds) B.pre
  have hown : s.vm.findClass RX1 = some m.cls := findClass_of_methodNamed B.named
  have hlocks := B.notSynchronized
  subst hsz
  have hD := hD0.self (sz := s.heap.size)
  generalize hAe : va_A [(oS, .inr (1, [.ref aB, .int (nI mz), .ref aP, .ref aL, .int (nI cn), .int (nI hs)])), (aB, .inl (cB, 8192, .inl g)), (aP, .inl (cI, 16, .inl P)), (aL, .inl (cI, 16, .inl L))] s.heap.size = A at hD ⊢
  have hA : ∀ q : Nat, s.heap.size ≤ q → A q := fun q h => by rw [← hAe]; exact Or.inr h
  have hS : va_S A s.heap s.heap [] := va_S.rf
  have hP : va_P (dC, dI) vwCl [(oS, .inr (1, [.ref aB, .int (nI mz), .ref aP, .ref aL, .int (nI cn), .int (nI hs)])), (aB, .inl (cB, 8192, .inl g)), (aP, .inl (cI, 16, .inl P)), (aL, .inl (cI, 16, .inl L))] s.heap := hP
  have hl := lv_entry ([.ref oS, .int a, .int (nI k)]) (n := 3) (Nat.le_of_ble_eq_true rfl)
  rw [lg_entry_eq]
  generalize (lg_sl ([.ref oS, .int a, .int (nI k)]) ++ List.replicate (3 - (lg_sl ([.ref oS, .int a, .int (nI k)])).length) Slot.unset).toArray = ls at hl ⊢
  have hl : lv_has ls 3 [(0, .ref oS), (1, .int a), (2, .int (nI k))] := hl
  refine lv_iload_n hx hb dX1_holds_0 rfl (lv_at hl 1 rfl) ?_
  refine lv_if_lt (tgt := 30) hx hb dX1_holds_1 (by decide) (fun c_1 => ?_) (fun c_1 => ?_)
  · skip
    rw [Int32.lt_iff_toInt_lt, show (0 : Int32).toInt = 0 by decide] at c_1
    refine lv_iconst (v := nI 0) hx hb dX1_holds_30 (by decide) ?_
    have hP9 := hP.sub (ws' := [(oS, .inr (1, [.ref aB, .int (nI mz), .ref aP, .ref aL, .int (nI cn), .int (nI hs)])), (aB, .inl (cB, 8192, .inl g)), (aP, .inl (cI, 16, .inl P)), (aL, .inl (cI, 16, .inl L))]) [0, 1, 2, 3] rfl
    have hD9 := hD.sub (ws' := [(oS, .inr (1, [.ref aB, .int (nI mz), .ref aP, .ref aL, .int (nI cn), .int (nI hs)])), (aB, .inl (cB, 8192, .inl g)), (aP, .inl (cI, 16, .inl P)), (aL, .inl (cI, 16, .inl L))]) [0, 1, 2, 3] (by decide) rfl
    exact W.zret (v := nI 0) hx hb hr (by first | rfl | decide) (fun t ht hW => ⟨⟨(nI 0), (), rfl, by rw [if_neg (by omega)], by rw [ht]; exact hP9, hD9⟩, hS.F ht⟩) hS.2.2 dX1_holds_31
  · skip
    rw [Int32.lt_iff_toInt_lt, show (0 : Int32).toInt = 0 by decide] at c_1
    refine lv_iload_n hx hb dX1_holds_4 rfl (lv_at hl 2 rfl) ?_
    refine wx_if_lt (tgt := 30) hx hb dX1_holds_5 (by decide) (by omega) ?_
    refine lv_iload_n hx hb dX1_holds_8 rfl (lv_at hl 2 rfl) ?_
    refine lv_aload_n hx hb dX1_holds_9 rfl (lv_at hl 0 rfl) ?_
    refine va_get (D := (dC, dI)) (ci := 1) (v := .int (nI mz)) (C := RX1) (T := TX1) (N := 6) hx hb hts (by decide +kernel) hown hK hP 0 rfl rfl 1 (by decide) (hts (.fieldLink RX1 15 "GlulxHeads$State" "size" "I") (by decide +kernel)) (fun _ h9 => h9) rfl dX1_holds_10 ?_
    refine wx_icmp_gt (tgt := 30) hx hb dX1_holds_13 (by decide) (by omega) (by omega) (fun c_3 => ?_) (fun c_3 => ?_)
    · skip
      refine lv_iconst (v := nI 0) hx hb dX1_holds_30 (by decide) ?_
      have hP9 := hP.sub (ws' := [(oS, .inr (1, [.ref aB, .int (nI mz), .ref aP, .ref aL, .int (nI cn), .int (nI hs)])), (aB, .inl (cB, 8192, .inl g)), (aP, .inl (cI, 16, .inl P)), (aL, .inl (cI, 16, .inl L))]) [0, 1, 2, 3] rfl
      have hD9 := hD.sub (ws' := [(oS, .inr (1, [.ref aB, .int (nI mz), .ref aP, .ref aL, .int (nI cn), .int (nI hs)])), (aB, .inl (cB, 8192, .inl g)), (aP, .inl (cI, 16, .inl P)), (aL, .inl (cI, 16, .inl L))]) [0, 1, 2, 3] (by decide) rfl
      exact W.zret (v := nI 0) hx hb hr (by first | rfl | decide) (fun t ht hW => ⟨⟨(nI 0), (), rfl, by rw [if_neg (by omega)], by rw [ht]; exact hP9, hD9⟩, hS.F ht⟩) hS.2.2 dX1_holds_31
    · skip
      refine lv_iload_n hx hb dX1_holds_16 rfl (lv_at hl 1 rfl) ?_
      refine lv_aload_n hx hb dX1_holds_17 rfl (lv_at hl 0 rfl) ?_
      refine va_get (D := (dC, dI)) (ci := 1) (v := .int (nI mz)) (C := RX1) (T := TX1) (N := 6) hx hb hts (by decide +kernel) hown hK hP 0 rfl rfl 1 (by decide) (hts (.fieldLink RX1 15 "GlulxHeads$State" "size" "I") (by decide +kernel)) (fun _ h9 => h9) rfl dX1_holds_18 ?_
      refine lv_iload_n hx hb dX1_holds_21 rfl (lv_at hl 2 rfl) ?_
      refine lv_isub hx hb dX1_holds_22 ?_
      refine lv_icmp_gt (tgt := 30) hx hb dX1_holds_23 (by decide) (fun c_4 => ?_) (fun c_4 => ?_)
      · skip
        rw [Int32.lt_iff_toInt_lt, pk_sub_toInt (a := mz) (b := k) (by omega) (by omega)] at c_4
        refine lv_iconst (v := nI 0) hx hb dX1_holds_30 (by decide) ?_
        have hP9 := hP.sub (ws' := [(oS, .inr (1, [.ref aB, .int (nI mz), .ref aP, .ref aL, .int (nI cn), .int (nI hs)])), (aB, .inl (cB, 8192, .inl g)), (aP, .inl (cI, 16, .inl P)), (aL, .inl (cI, 16, .inl L))]) [0, 1, 2, 3] rfl
        have hD9 := hD.sub (ws' := [(oS, .inr (1, [.ref aB, .int (nI mz), .ref aP, .ref aL, .int (nI cn), .int (nI hs)])), (aB, .inl (cB, 8192, .inl g)), (aP, .inl (cI, 16, .inl P)), (aL, .inl (cI, 16, .inl L))]) [0, 1, 2, 3] (by decide) rfl
        exact W.zret (v := nI 0) hx hb hr (by first | rfl | decide) (fun t ht hW => ⟨⟨(nI 0), (), rfl, by rw [if_neg (by omega)], by rw [ht]; exact hP9, hD9⟩, hS.F ht⟩) hS.2.2 dX1_holds_31
      · skip
        rw [Int32.lt_iff_toInt_lt, pk_sub_toInt (a := mz) (b := k) (by omega) (by omega)] at c_4
        refine lv_iconst (v := nI 1) hx hb dX1_holds_26 (by decide) ?_
        refine lv_goto (tgt := 31) hx hb dX1_holds_27 (by decide) ?_
        have hP9 := hP.sub (ws' := [(oS, .inr (1, [.ref aB, .int (nI mz), .ref aP, .ref aL, .int (nI cn), .int (nI hs)])), (aB, .inl (cB, 8192, .inl g)), (aP, .inl (cI, 16, .inl P)), (aL, .inl (cI, 16, .inl L))]) [0, 1, 2, 3] rfl
        have hD9 := hD.sub (ws' := [(oS, .inr (1, [.ref aB, .int (nI mz), .ref aP, .ref aL, .int (nI cn), .int (nI hs)])), (aB, .inl (cB, 8192, .inl g)), (aP, .inl (cI, 16, .inl P)), (aL, .inl (cI, 16, .inl L))]) [0, 1, 2, 3] (by decide) rfl
        exact W.zret (v := nI 1) hx hb hr (by first | rfl | decide) (fun t ht hW => ⟨⟨(nI 1), (), rfl, by rw [if_pos (by omega)], by rw [ht]; exact hP9, hD9⟩, hS.F ht⟩) hS.2.2 dX1_holds_31
set_option maxHeartbeats 4000000 in
set_option maxRecDepth 100000 in
theorem c_X1_byteAt (l : Launch) (dC : Nat → ClassId) (dI : Nat → Nat → Nat) (cB cI cJ : ClassId) (sz : Nat) (oS : Nat) (aB : Nat) (aP : Nat) (aL : Nat) (mz : Nat) (cn : Nat) (hs : Nat) (g : Nat → Int32) (P : Nat → Int32) (L : Nat → Int32) (mem : Nat → Nat) (j : Nat) (hM : mOk g mz mem) (hj : j < 1000000) : Met l yX1_byteAt wsX1_byteAt ({ frames := 0, cells := 0, slots := 0, locals := 0 }) (va_Pc [.ref oS, .int (nI j)] (wPre dC dI cB cI cJ sz [(oS, .inr (1, [.ref aB, .int (nI mz), .ref aP, .ref aL, .int (nI cn), .int (nI hs)])), (aB, .inl (cB, 8192, .inl g)), (aP, .inl (cI, 16, .inl P)), (aL, .inl (cI, 16, .inl L))])) (va_Qi (fun (r : Int32) (u : Unit) => r = nI (mem j)) (fun (u : Unit) => wPost dC dI (va_A [(oS, .inr (1, [.ref aB, .int (nI mz), .ref aP, .ref aL, .int (nI cn), .int (nI hs)])), (aB, .inl (cB, 8192, .inl g)), (aP, .inl (cI, 16, .inl P)), (aL, .inl (cI, 16, .inl L))] sz) [(oS, .inr (1, [.ref aB, .int (nI mz), .ref aP, .ref aL, .int (nI cn), .int (nI hs)])), (aB, .inl (cB, 8192, .inl g)), (aP, .inl (cI, 16, .inl P)), (aL, .inl (cI, 16, .inl L))]) (va_A [(oS, .inr (1, [.ref aB, .int (nI mz), .ref aP, .ref aL, .int (nI cn), .int (nI hs)])), (aB, .inl (cB, 8192, .inl g)), (aP, .inl (cI, 16, .inl P)), (aL, .inl (cI, 16, .inl L))] sz)) 0 0 (va_A [(oS, .inr (1, [.ref aB, .int (nI mz), .ref aP, .ref aL, .int (nI cn), .int (nI hs)])), (aB, .inl (cB, 8192, .inl g)), (aP, .inl (cI, 16, .inl P)), (aL, .inl (cI, 16, .inl L))] sz) := by
  refine Met.ofW (cc := cX1_byteAt) (maxL := 2) (ret := (some .int)) (by decide) rfl ?_
  intro p e s m args below meth c s₁ B hml hv
  obtain ⟨rfl, hsz, hP, hK, hD0, hN⟩ := hv
  have hx := B.exec
  have hb := B.bytes
  have hr := B.returns
  have hts := atoms_spec (ws := wsX1_byteAt) B.pre
  have hown : s.vm.findClass RX1 = some m.cls := findClass_of_methodNamed B.named
  have hlocks := B.notSynchronized
  subst hsz
  have hD := hD0.self (sz := s.heap.size)
  generalize hAe : va_A [(oS, .inr (1, [.ref aB, .int (nI mz), .ref aP, .ref aL, .int (nI cn), .int (nI hs)])), (aB, .inl (cB, 8192, .inl g)), (aP, .inl (cI, 16, .inl P)), (aL, .inl (cI, 16, .inl L))] s.heap.size = A at hD ⊢
  have hA : ∀ q : Nat, s.heap.size ≤ q → A q := fun q h => by rw [← hAe]; exact Or.inr h
  have hS : va_S A s.heap s.heap [] := va_S.rf
  have hP : va_P (dC, dI) vwCl [(oS, .inr (1, [.ref aB, .int (nI mz), .ref aP, .ref aL, .int (nI cn), .int (nI hs)])), (aB, .inl (cB, 8192, .inl g)), (aP, .inl (cI, 16, .inl P)), (aL, .inl (cI, 16, .inl L))] s.heap := hP
  have hl := lv_entry ([.ref oS, .int (nI j)]) (n := 2) (Nat.le_of_ble_eq_true rfl)
  rw [lg_entry_eq]
  generalize (lg_sl ([.ref oS, .int (nI j)]) ++ List.replicate (2 - (lg_sl ([.ref oS, .int (nI j)])).length) Slot.unset).toArray = ls at hl ⊢
  have hl : lv_has ls 2 [(0, .ref oS), (1, .int (nI j))] := hl
  have hM1 := hM.1
  have hM2 := hM.2.1
  refine lv_iload_n hx hb dX1_byteAt_0 rfl (lv_at hl 1 rfl) ?_
  refine wx_if_lt (tgt := 32) hx hb dX1_byteAt_1 (by decide) (by omega) ?_
  refine lv_iload_n hx hb dX1_byteAt_4 rfl (lv_at hl 1 rfl) ?_
  refine lv_aload_n hx hb dX1_byteAt_5 rfl (lv_at hl 0 rfl) ?_
  refine va_get (D := (dC, dI)) (ci := 1) (v := .int (nI mz)) (C := RX1) (T := TX1) (N := 6) hx hb hts (by decide +kernel) hown hK hP 0 rfl rfl 1 (by decide) (hts (.fieldLink RX1 15 "GlulxHeads$State" "size" "I") (by decide +kernel)) (fun _ h9 => h9) rfl dX1_byteAt_6 ?_
  refine wx_icmp_ge (tgt := 32) hx hb dX1_byteAt_9 (by decide) (by omega) (by omega) (fun c_2 => ?_) (fun c_2 => ?_)
  · skip
    refine lv_iconst (v := nI 0) hx hb dX1_byteAt_32 (by decide) ?_
    have hP9 := hP.sub (ws' := [(oS, .inr (1, [.ref aB, .int (nI mz), .ref aP, .ref aL, .int (nI cn), .int (nI hs)])), (aB, .inl (cB, 8192, .inl g)), (aP, .inl (cI, 16, .inl P)), (aL, .inl (cI, 16, .inl L))]) [0, 1, 2, 3] rfl
    have hD9 := hD.sub (ws' := [(oS, .inr (1, [.ref aB, .int (nI mz), .ref aP, .ref aL, .int (nI cn), .int (nI hs)])), (aB, .inl (cB, 8192, .inl g)), (aP, .inl (cI, 16, .inl P)), (aL, .inl (cI, 16, .inl L))]) [0, 1, 2, 3] (by decide) rfl
    exact W.iret (v := nI 0) hx hb hr (fun t ht hW => ⟨⟨(nI 0), (), rfl, by rw [hM.2.2.1 j (by omega)], by rw [ht]; exact hP9, hD9⟩, hS.F ht⟩) hS.2.2 dX1_byteAt_33
  · skip
    refine lv_iload_n hx hb dX1_byteAt_12 rfl (lv_at hl 1 rfl) ?_
    refine lv_sipush (v := nI 8192) hx hb dX1_byteAt_13 (by decide) ?_
    refine wx_icmp_ge (tgt := 32) hx hb dX1_byteAt_16 (by decide) (by omega) (by omega) (fun c_3 => ?_) (fun c_3 => ?_)
    · skip
      refine lv_iconst (v := nI 0) hx hb dX1_byteAt_32 (by decide) ?_
      have hP9 := hP.sub (ws' := [(oS, .inr (1, [.ref aB, .int (nI mz), .ref aP, .ref aL, .int (nI cn), .int (nI hs)])), (aB, .inl (cB, 8192, .inl g)), (aP, .inl (cI, 16, .inl P)), (aL, .inl (cI, 16, .inl L))]) [0, 1, 2, 3] rfl
      have hD9 := hD.sub (ws' := [(oS, .inr (1, [.ref aB, .int (nI mz), .ref aP, .ref aL, .int (nI cn), .int (nI hs)])), (aB, .inl (cB, 8192, .inl g)), (aP, .inl (cI, 16, .inl P)), (aL, .inl (cI, 16, .inl L))]) [0, 1, 2, 3] (by decide) rfl
      exact W.iret (v := nI 0) hx hb hr (fun t ht hW => ⟨⟨(nI 0), (), rfl, by rw [hM.2.2.1 j (by omega)], by rw [ht]; exact hP9, hD9⟩, hS.F ht⟩) hS.2.2 dX1_byteAt_33
    · skip
      refine lv_aload_n hx hb dX1_byteAt_19 rfl (lv_at hl 0 rfl) ?_
      refine va_get (D := (dC, dI)) (ci := 1) (v := .ref aB) (C := RX1) (T := TX1) (N := 6) hx hb hts (by decide +kernel) hown hK hP 0 rfl rfl 0 (by decide) (hts (.fieldLink RX1 9 "GlulxHeads$State" "bytes" "[B") (by decide +kernel)) (fun _ h9 => h9) rfl dX1_byteAt_20 ?_
      refine lv_iload_n hx hb dX1_byteAt_23 rfl (lv_at hl 1 rfl) ?_
      refine wx_bald hx hb hK hP 1 0 rfl rfl (by omega) (by decide) dX1_byteAt_24 ?_
      refine lv_sipush (v := nI 255) hx hb dX1_byteAt_25 (by decide) ?_
      refine lv_iand hx hb dX1_byteAt_28 ?_
      refine lv_goto (tgt := 33) hx hb dX1_byteAt_29 (by decide) ?_
      have hP9 := hP.sub (ws' := [(oS, .inr (1, [.ref aB, .int (nI mz), .ref aP, .ref aL, .int (nI cn), .int (nI hs)])), (aB, .inl (cB, 8192, .inl g)), (aP, .inl (cI, 16, .inl P)), (aL, .inl (cI, 16, .inl L))]) [0, 1, 2, 3] rfl
      have hD9 := hD.sub (ws' := [(oS, .inr (1, [.ref aB, .int (nI mz), .ref aP, .ref aL, .int (nI cn), .int (nI hs)])), (aB, .inl (cB, 8192, .inl g)), (aP, .inl (cI, 16, .inl P)), (aL, .inl (cI, 16, .inl L))]) [0, 1, 2, 3] (by decide) rfl
      exact W.iret (v := (g j) &&& (nI 255)) hx hb hr (fun t ht hW => ⟨⟨((g j) &&& (nI 255)), (), rfl, by rw [hM.2.2.2 j (by omega)]; exact sb_and (hM.2.1 j), by rw [ht]; exact hP9, hD9⟩, hS.F ht⟩) hS.2.2 dX1_byteAt_33
set_option maxHeartbeats 4000000 in
set_option maxRecDepth 100000 in
theorem c_X1_putByte (l : Launch) (dC : Nat → ClassId) (dI : Nat → Nat → Nat) (cB cI cJ : ClassId) (sz : Nat) (oS : Nat) (aB : Nat) (aP : Nat) (aL : Nat) (mz : Nat) (cn : Nat) (hs : Nat) (g : Nat → Int32) (P : Nat → Int32) (L : Nat → Int32) (mem : Nat → Nat) (j : Nat) (v : Int32) (hM : mOk g mz mem) (hj : j < mz) : Met l yX1_putByte wsX1_putByte ({ frames := 0, cells := 0, slots := 0, locals := 0 }) (va_Pc [.ref oS, .int (nI j), .int v] (wPre dC dI cB cI cJ sz [(oS, .inr (1, [.ref aB, .int (nI mz), .ref aP, .ref aL, .int (nI cn), .int (nI hs)])), (aB, .inl (cB, 8192, .inl g)), (aP, .inl (cI, 16, .inl P)), (aL, .inl (cI, 16, .inl L))])) (va_Qv (fun (u : (Nat → Int32)) => mOk u mz (va_up mem j (uB v % 256))) (fun (u : (Nat → Int32)) => wPost dC dI (va_A [(oS, .inr (1, [.ref aB, .int (nI mz), .ref aP, .ref aL, .int (nI cn), .int (nI hs)])), (aB, .inl (cB, 8192, .inl g)), (aP, .inl (cI, 16, .inl P)), (aL, .inl (cI, 16, .inl L))] sz) [(oS, .inr (1, [.ref aB, .int (nI mz), .ref aP, .ref aL, .int (nI cn), .int (nI hs)])), (aB, .inl (cB, 8192, .inl u)), (aP, .inl (cI, 16, .inl P)), (aL, .inl (cI, 16, .inl L))]) (va_A [(oS, .inr (1, [.ref aB, .int (nI mz), .ref aP, .ref aL, .int (nI cn), .int (nI hs)])), (aB, .inl (cB, 8192, .inl g)), (aP, .inl (cI, 16, .inl P)), (aL, .inl (cI, 16, .inl L))] sz)) 0 0 (va_A [(oS, .inr (1, [.ref aB, .int (nI mz), .ref aP, .ref aL, .int (nI cn), .int (nI hs)])), (aB, .inl (cB, 8192, .inl g)), (aP, .inl (cI, 16, .inl P)), (aL, .inl (cI, 16, .inl L))] sz) := by
  refine Met.ofW (cc := cX1_putByte) (maxL := 3) (ret := none) (by decide) rfl ?_
  intro p e s m args below meth c s₁ B hml hv
  obtain ⟨rfl, hsz, hP, hK, hD0, hN⟩ := hv
  have hx := B.exec
  have hb := B.bytes
  have hr := B.returns
  have hts := atoms_spec (ws := wsX1_putByte) B.pre
  have hown : s.vm.findClass RX1 = some m.cls := findClass_of_methodNamed B.named
  have hlocks := B.notSynchronized
  subst hsz
  have hD := hD0.self (sz := s.heap.size)
  generalize hAe : va_A [(oS, .inr (1, [.ref aB, .int (nI mz), .ref aP, .ref aL, .int (nI cn), .int (nI hs)])), (aB, .inl (cB, 8192, .inl g)), (aP, .inl (cI, 16, .inl P)), (aL, .inl (cI, 16, .inl L))] s.heap.size = A at hD ⊢
  have hA : ∀ q : Nat, s.heap.size ≤ q → A q := fun q h => by rw [← hAe]; exact Or.inr h
  have hS : va_S A s.heap s.heap [] := va_S.rf
  have hP : va_P (dC, dI) vwCl [(oS, .inr (1, [.ref aB, .int (nI mz), .ref aP, .ref aL, .int (nI cn), .int (nI hs)])), (aB, .inl (cB, 8192, .inl g)), (aP, .inl (cI, 16, .inl P)), (aL, .inl (cI, 16, .inl L))] s.heap := hP
  have hl := lv_entry ([.ref oS, .int (nI j), .int v]) (n := 3) (Nat.le_of_ble_eq_true rfl)
  rw [lg_entry_eq]
  generalize (lg_sl ([.ref oS, .int (nI j), .int v]) ++ List.replicate (3 - (lg_sl ([.ref oS, .int (nI j), .int v])).length) Slot.unset).toArray = ls at hl ⊢
  have hl : lv_has ls 3 [(0, .ref oS), (1, .int (nI j)), (2, .int v)] := hl
  have hM1 := hM.1
  have hM2 := hM.2.1
  refine lv_iload_n hx hb dX1_putByte_0 rfl (lv_at hl 1 rfl) ?_
  refine wx_if_lt (tgt := 27) hx hb dX1_putByte_1 (by decide) (by omega) ?_
  refine lv_iload_n hx hb dX1_putByte_4 rfl (lv_at hl 1 rfl) ?_
  refine lv_aload_n hx hb dX1_putByte_5 rfl (lv_at hl 0 rfl) ?_
  refine va_get (D := (dC, dI)) (ci := 1) (v := .int (nI mz)) (C := RX1) (T := TX1) (N := 6) hx hb hts (by decide +kernel) hown hK hP 0 rfl rfl 1 (by decide) (hts (.fieldLink RX1 15 "GlulxHeads$State" "size" "I") (by decide +kernel)) (fun _ h9 => h9) rfl dX1_putByte_6 ?_
  refine wx_icmp_ge (tgt := 27) hx hb dX1_putByte_9 (by decide) (by omega) (by omega) (fun c_2 => absurd c_2 (by omega)) (fun c_2 => ?_)
  refine lv_iload_n hx hb dX1_putByte_12 rfl (lv_at hl 1 rfl) ?_
  refine lv_sipush (v := nI 8192) hx hb dX1_putByte_13 (by decide) ?_
  refine wx_icmp_ge (tgt := 27) hx hb dX1_putByte_16 (by decide) (by omega) (by omega) (fun c_3 => absurd c_3 (by omega)) (fun c_3 => ?_)
  refine lv_aload_n hx hb dX1_putByte_19 rfl (lv_at hl 0 rfl) ?_
  refine va_get (D := (dC, dI)) (ci := 1) (v := .ref aB) (C := RX1) (T := TX1) (N := 6) hx hb hts (by decide +kernel) hown hK hP 0 rfl rfl 0 (by decide) (hts (.fieldLink RX1 9 "GlulxHeads$State" "bytes" "[B") (by decide +kernel)) (fun _ h9 => h9) rfl dX1_putByte_20 ?_
  refine lv_iload_n hx hb dX1_putByte_23 rfl (lv_at hl 1 rfl) ?_
  refine lv_iload_n hx hb dX1_putByte_24 rfl (lv_at hl 2 rfl) ?_
  refine lv_i2b (v := v.toInt8.toInt32) hx hb dX1_putByte_25 rfl ?_
  refine wx_bastc hx hb hK hP hD hS 1 0 rfl rfl (by omega) (by decide) dX1_putByte_26 (fun H locs hP hD hS => ?_)
  have hP : va_P (dC, dI) vwCl [(oS, .inr (1, [.ref aB, .int (nI mz), .ref aP, .ref aL, .int (nI cn), .int (nI hs)])), (aB, .inl (cB, 8192, .inl (upd g j v.toInt8.toInt32))), (aP, .inl (cI, 16, .inl P)), (aL, .inl (cI, 16, .inl L))] H := hP
  have hD : va_D A [(oS, .inr (1, [.ref aB, .int (nI mz), .ref aP, .ref aL, .int (nI cn), .int (nI hs)])), (aB, .inl (cB, 8192, .inl (upd g j v.toInt8.toInt32))), (aP, .inl (cI, 16, .inl P)), (aL, .inl (cI, 16, .inl L))] := hD
  have hP9 := hP.sub (ws' := [(oS, .inr (1, [.ref aB, .int (nI mz), .ref aP, .ref aL, .int (nI cn), .int (nI hs)])), (aB, .inl (cB, 8192, .inl (upd g j v.toInt8.toInt32))), (aP, .inl (cI, 16, .inl P)), (aL, .inl (cI, 16, .inl L))]) [0, 1, 2, 3] rfl
  have hD9 := hD.sub (ws' := [(oS, .inr (1, [.ref aB, .int (nI mz), .ref aP, .ref aL, .int (nI cn), .int (nI hs)])), (aB, .inl (cB, 8192, .inl (upd g j v.toInt8.toInt32))), (aP, .inl (cI, 16, .inl P)), (aL, .inl (cI, 16, .inl L))]) [0, 1, 2, 3] (by decide) rfl
  exact W.vret hx hb hr (fun t ht hW => ⟨⟨((upd g j v.toInt8.toInt32)), rfl, mOk_put hM hj, by rw [ht]; exact hP9, hD9⟩, hS.F ht⟩) hS.2.2 dX1_putByte_27
set_option maxHeartbeats 4000000 in
set_option maxRecDepth 100000 in
theorem c_X1_valueAt (l : Launch) (dC : Nat → ClassId) (dI : Nat → Nat → Nat) (cB cI cJ : ClassId) (sz : Nat) (oS : Nat) (aB : Nat) (aP : Nat) (aL : Nat) (mz : Nat) (cn : Nat) (hs : Nat) (g : Nat → Int32) (P : Nat → Int32) (L : Nat → Int32) (mem : Nat → Nat) (w : Nat) (j : Nat) (hM : mOk g mz mem) (hw : w ≤ 4) (hj : j < 900000) : Met l yX1_valueAt wsX1_valueAt ({ frames := 1, cells := 0, slots := 0, locals := 21 }) (va_Pc [.ref oS, .int (nI w), .int (nI j)] (wPre dC dI cB cI cJ sz [(oS, .inr (1, [.ref aB, .int (nI mz), .ref aP, .ref aL, .int (nI cn), .int (nI hs)])), (aB, .inl (cB, 8192, .inl g)), (aP, .inl (cI, 16, .inl P)), (aL, .inl (cI, 16, .inl L))])) (va_Ql (fun (r : Int64) (u : Unit) => r = lN (vAt mem w j)) (fun (u : Unit) => wPost dC dI (va_A [(oS, .inr (1, [.ref aB, .int (nI mz), .ref aP, .ref aL, .int (nI cn), .int (nI hs)])), (aB, .inl (cB, 8192, .inl g)), (aP, .inl (cI, 16, .inl P)), (aL, .inl (cI, 16, .inl L))] sz) [(oS, .inr (1, [.ref aB, .int (nI mz), .ref aP, .ref aL, .int (nI cn), .int (nI hs)])), (aB, .inl (cB, 8192, .inl g)), (aP, .inl (cI, 16, .inl P)), (aL, .inl (cI, 16, .inl L))]) (va_A [(oS, .inr (1, [.ref aB, .int (nI mz), .ref aP, .ref aL, .int (nI cn), .int (nI hs)])), (aB, .inl (cB, 8192, .inl g)), (aP, .inl (cI, 16, .inl P)), (aL, .inl (cI, 16, .inl L))] sz)) 0 0 (va_A [(oS, .inr (1, [.ref aB, .int (nI mz), .ref aP, .ref aL, .int (nI cn), .int (nI hs)])), (aB, .inl (cB, 8192, .inl g)), (aP, .inl (cI, 16, .inl P)), (aL, .inl (cI, 16, .inl L))] sz) := by
  refine Met.ofW (cc := cX1_valueAt) (maxL := 6) (ret := (some .long)) (by decide) rfl ?_
  intro p e s m args below meth c s₁ B hml hv
  obtain ⟨rfl, hsz, hP, hK, hD0, hN⟩ := hv
  have hx := B.exec
  have hb := B.bytes
  have hr := B.returns
  have hts := atoms_spec (ws := wsX1_valueAt) B.pre
  have hown : s.vm.findClass RX1 = some m.cls := findClass_of_methodNamed B.named
  have hlocks := B.notSynchronized
  subst hsz
  have hD := hD0.self (sz := s.heap.size)
  generalize hAe : va_A [(oS, .inr (1, [.ref aB, .int (nI mz), .ref aP, .ref aL, .int (nI cn), .int (nI hs)])), (aB, .inl (cB, 8192, .inl g)), (aP, .inl (cI, 16, .inl P)), (aL, .inl (cI, 16, .inl L))] s.heap.size = A at hD ⊢
  have hA : ∀ q : Nat, s.heap.size ≤ q → A q := fun q h => by rw [← hAe]; exact Or.inr h
  have hS : va_S A s.heap s.heap [] := va_S.rf
  have hP : va_P (dC, dI) vwCl [(oS, .inr (1, [.ref aB, .int (nI mz), .ref aP, .ref aL, .int (nI cn), .int (nI hs)])), (aB, .inl (cB, 8192, .inl g)), (aP, .inl (cI, 16, .inl P)), (aL, .inl (cI, 16, .inl L))] s.heap := hP
  have hl := lv_entry ([.ref oS, .int (nI w), .int (nI j)]) (n := 6) (Nat.le_of_ble_eq_true rfl)
  rw [lg_entry_eq]
  generalize (lg_sl ([.ref oS, .int (nI w), .int (nI j)]) ++ List.replicate (6 - (lg_sl ([.ref oS, .int (nI w), .int (nI j)])).length) Slot.unset).toArray = ls at hl ⊢
  have hl : lv_has ls 6 [(0, .ref oS), (1, .int (nI w)), (2, .int (nI j))] := hl
  have hM1 := hM.1
  have hM2 := hM.2.1
  refine lv_lconst (v := lN 0) hx hb dX1_valueAt_0 (by decide) ?_
  refine lv_lstore_n (lv' := [(3, .long (lN 0)), (0, .ref oS), (1, .int (nI w)), (2, .int (nI j))]) hx hb dX1_valueAt_1 rfl hl (by decide) rfl (fun ls hl => ?_)
  refine lv_iconst (v := nI 0) hx hb dX1_valueAt_2 (by decide) ?_
  refine lv_istore (lv' := [(5, .int (nI 0)), (3, .long (lN 0)), (0, .ref oS), (1, .int (nI w)), (2, .int (nI j))]) hx hb dX1_valueAt_3 hl (by decide) rfl (fun ls hl => ?_)
  refine wx_loop (σ := Nat) (fun x => w - x) (fun x H locs ls => (x ≤ w) ∧ va_P (dC, dI) vwCl [(oS, .inr (1, [.ref aB, .int (nI mz), .ref aP, .ref aL, .int (nI cn), .int (nI hs)])), (aB, .inl (cB, 8192, .inl g)), (aP, .inl (cI, 16, .inl P)), (aL, .inl (cI, 16, .inl L))] H ∧ va_D A [(oS, .inr (1, [.ref aB, .int (nI mz), .ref aP, .ref aL, .int (nI cn), .int (nI hs)])), (aB, .inl (cB, 8192, .inl g)), (aP, .inl (cI, 16, .inl P)), (aL, .inl (cI, 16, .inl L))] ∧ va_S A s.heap H locs ∧ lv_has ls 6 [(0, .ref oS), (1, .int (nI w)), (2, .int (nI j)), (3, .long (lN (vAt mem x j))), (5, .int (nI x))]) ?_ (0) _ _ _ ⟨by omega, hP.sub [0, 1, 2, 3] rfl, hD.sub [0, 1, 2, 3] (by decide) rfl, hS, lv_sub hl [2, 3, 4, 1, 0] rfl⟩
  rintro i H locs ls ⟨hi, hP, hD, hS, hl⟩ ih
  have hi : i ≤ w := hi
  have hP : va_P (dC, dI) vwCl [(oS, .inr (1, [.ref aB, .int (nI mz), .ref aP, .ref aL, .int (nI cn), .int (nI hs)])), (aB, .inl (cB, 8192, .inl g)), (aP, .inl (cI, 16, .inl P)), (aL, .inl (cI, 16, .inl L))] H := hP
  have hD : va_D A [(oS, .inr (1, [.ref aB, .int (nI mz), .ref aP, .ref aL, .int (nI cn), .int (nI hs)])), (aB, .inl (cB, 8192, .inl g)), (aP, .inl (cI, 16, .inl P)), (aL, .inl (cI, 16, .inl L))] := hD
  have hl : lv_has ls 6 [(0, .ref oS), (1, .int (nI w)), (2, .int (nI j)), (3, .long (lN (vAt mem i j))), (5, .int (nI i))] := hl
  refine lv_iload hx hb dX1_valueAt_5 (lv_at hl 4 rfl) ?_
  refine lv_iload_n hx hb dX1_valueAt_7 rfl (lv_at hl 1 rfl) ?_
  refine wx_icmp_ge (tgt := 32) hx hb dX1_valueAt_8 (by decide) (by omega) (by omega) (fun c_1 => ?_) (fun c_1 => ?_)
  · skip
    refine lv_lload_n hx hb dX1_valueAt_32 rfl (lv_at hl 3 rfl) ?_
    have hP9 := hP.sub (ws' := [(oS, .inr (1, [.ref aB, .int (nI mz), .ref aP, .ref aL, .int (nI cn), .int (nI hs)])), (aB, .inl (cB, 8192, .inl g)), (aP, .inl (cI, 16, .inl P)), (aL, .inl (cI, 16, .inl L))]) [0, 1, 2, 3] rfl
    have hD9 := hD.sub (ws' := [(oS, .inr (1, [.ref aB, .int (nI mz), .ref aP, .ref aL, .int (nI cn), .int (nI hs)])), (aB, .inl (cB, 8192, .inl g)), (aP, .inl (cI, 16, .inl P)), (aL, .inl (cI, 16, .inl L))]) [0, 1, 2, 3] (by decide) rfl
    exact W.lret (v := lN (vAt mem i j)) hx hb hr (fun t ht hW => ⟨⟨(lN (vAt mem i j)), (), rfl, (by rw [show w = i by omega]), by rw [ht]; exact hP9, hD9⟩, hS.F ht⟩) hS.2.2 dX1_valueAt_33
  · skip
    refine lv_lload_n hx hb dX1_valueAt_11 rfl (lv_at hl 3 rfl) ?_
    refine lv_bipush (v := nI 8) hx hb dX1_valueAt_12 (by decide) ?_
    refine lv_lshl hx hb dX1_valueAt_14 rfl ?_
    refine lv_aload_n hx hb dX1_valueAt_15 rfl (lv_at hl 0 rfl) ?_
    refine lv_iload_n hx hb dX1_valueAt_16 rfl (lv_at hl 2 rfl) ?_
    refine lv_iload hx hb dX1_valueAt_17 (lv_at hl 4 rfl) ?_
    refine wx_iadd hx hb dX1_valueAt_19 ?_
    have hPc := hP.sub (ws' := [(oS, .inr (1, [.ref aB, .int (nI mz), .ref aP, .ref aL, .int (nI cn), .int (nI hs)])), (aB, .inl (cB, 8192, .inl g)), (aP, .inl (cI, 16, .inl P)), (aL, .inl (cI, 16, .inl L))]) [0, 1, 2, 3] rfl
    have hDc := hD.sub (ws' := [(oS, .inr (1, [.ref aB, .int (nI mz), .ref aP, .ref aL, .int (nI cn), .int (nI hs)])), (aB, .inl (cB, 8192, .inl g)), (aP, .inl (cI, 16, .inl P)), (aL, .inl (cI, 16, .inl L))]) [0, 1, 2, 3] (by decide) rfl
    have hFc := va_free (wc := [(oS, .inr (1, [.ref aB, .int (nI mz), .ref aP, .ref aL, .int (nI cn), .int (nI hs)])), (aB, .inl (cB, 8192, .inl g)), (aP, .inl (cI, 16, .inl P)), (aL, .inl (cI, 16, .inl L))]) hD hS hA [0, 1, 2, 3] rfl
    refine va_calli (va_runV (As := [.int (nI (j + i))]) (rest := [.long ((lN (vAt mem i j)) <<< ((nI 8).toInt64 &&& 63))]) ⟨hx, hb, hml, hown, hts⟩ (c_X1_byteAt l dC dI cB cI cJ H.size oS aB aP aL mz cn hs g P L mem (j + i) hM (by omega)) (cwV 1 hts gX1_valueAt_X1_byteAt rfl rfl rfl (by decide +kernel) ⟨Nat.le_of_ble_eq_true rfl, Nat.le_of_ble_eq_true rfl⟩) ⟨wBlind, va_recv hK hPc (ci := 1) (q0 := 0) rfl rfl, wGo hK hPc hDc hN⟩ rfl rfl hl.1 rfl (lv_room (Nat.le_of_ble_eq_true rfl)) dX1_valueAt_20 ⟨show 0 ≤ 0 by decide, show 0 ≤ 0 by decide⟩) hS (fun q _ h => hFc q h) hFc (fun r_3 u t H1 locs ht hvm w_4 hB hz1 hk1 hS => ?_)
    clear u
    obtain ⟨hP1, hD1⟩ := hB
    rw [ht] at hP1
    try dsimp only at w_4
    obtain ⟨hP, hD⟩ := va_join (wr := []) (w1 := [(oS, .inr (1, [.ref aB, .int (nI mz), .ref aP, .ref aL, .int (nI cn), .int (nI hs)])), (aB, .inl (cB, 8192, .inl g)), (aP, .inl (cI, 16, .inl P)), (aL, .inl (cI, 16, .inl L))]) hP hD [0, 1, 2, 3] [] rfl rfl (by decide) (by decide) hk1 hFc hP1 hD1
    clear hPc hDc hFc hP1 hD1 hz1 hk1 hvm
    generalize H1 = H at hP hS ⊢
    have hP : va_P (dC, dI) vwCl [(oS, .inr (1, [.ref aB, .int (nI mz), .ref aP, .ref aL, .int (nI cn), .int (nI hs)])), (aB, .inl (cB, 8192, .inl g)), (aP, .inl (cI, 16, .inl P)), (aL, .inl (cI, 16, .inl L))] H := hP
    have hD : va_D A [(oS, .inr (1, [.ref aB, .int (nI mz), .ref aP, .ref aL, .int (nI cn), .int (nI hs)])), (aB, .inl (cB, 8192, .inl g)), (aP, .inl (cI, 16, .inl P)), (aL, .inl (cI, 16, .inl L))] := hD
    subst w_4
    have hmb := hM2 (j + i)
    refine lv_i2l (v := lN (mem (j + i))) hx hb dX1_valueAt_23 (nI_l (by omega)) ?_
    refine lv_lor hx hb dX1_valueAt_24 ?_
    refine wx_topl (vAt_s hmb) ?_
    refine lv_lstore_n (lv' := [(3, .long (lN (vAt mem (i + 1) j))), (0, .ref oS), (1, .int (nI w)), (2, .int (nI j)), (5, .int (nI i))]) hx hb dX1_valueAt_25 rfl hl (by decide) rfl (fun ls hl => ?_)
    refine lv_iinc (v := nI (i + 1)) (lv' := [(5, .int (nI (i + 1))), (3, .long (lN (vAt mem (i + 1) j))), (0, .ref oS), (1, .int (nI w)), (2, .int (nI j))]) hx hb dX1_valueAt_26 hl (k := 4) rfl (by rw [show Int32.ofInt 1 = nI 1 by decide]; exact nI_add _ _) (by decide) rfl (fun ls hl => ?_)
    refine lv_goto (tgt := 5) hx hb dX1_valueAt_29 (by decide) ?_
    exact ih ((i + 1)) _ _ _ (by omega) ⟨by omega, hP.sub [0, 1, 2, 3] rfl, hD.sub [0, 1, 2, 3] (by decide) rfl, hS, lv_sub hl [2, 3, 4, 1, 0] rfl⟩
set_option maxHeartbeats 4000000 in
set_option maxRecDepth 100000 in
theorem c_X1_setSize (l : Launch) (dC : Nat → ClassId) (dI : Nat → Nat → Nat) (cB cI cJ : ClassId) (sz : Nat) (oS : Nat) (aB : Nat) (aP : Nat) (aL : Nat) (mz : Nat) (cn : Nat) (hs : Nat) (g : Nat → Int32) (P : Nat → Int32) (L : Nat → Int32) (mem : Nat → Nat) (n : Nat) (hM : mOk g mz mem) (hn : n ≤ 8192) : Met l yX1_setSize wsX1_setSize ({ frames := 0, cells := 0, slots := 0, locals := 0 }) (va_Pc [.ref oS, .int (nI n)] (wPre dC dI cB cI cJ sz [(oS, .inr (1, [.ref aB, .int (nI mz), .ref aP, .ref aL, .int (nI cn), .int (nI hs)])), (aB, .inl (cB, 8192, .inl g)), (aP, .inl (cI, 16, .inl P)), (aL, .inl (cI, 16, .inl L))])) (va_Qv (fun (u : (Nat → Int32)) => mOk u n (cutM mem n)) (fun (u : (Nat → Int32)) => wPost dC dI (va_A [(oS, .inr (1, [.ref aB, .int (nI mz), .ref aP, .ref aL, .int (nI cn), .int (nI hs)])), (aB, .inl (cB, 8192, .inl g)), (aP, .inl (cI, 16, .inl P)), (aL, .inl (cI, 16, .inl L))] sz) [(oS, .inr (1, [.ref aB, .int (nI n), .ref aP, .ref aL, .int (nI cn), .int (nI hs)])), (aB, .inl (cB, 8192, .inl u)), (aP, .inl (cI, 16, .inl P)), (aL, .inl (cI, 16, .inl L))]) (va_A [(oS, .inr (1, [.ref aB, .int (nI mz), .ref aP, .ref aL, .int (nI cn), .int (nI hs)])), (aB, .inl (cB, 8192, .inl g)), (aP, .inl (cI, 16, .inl P)), (aL, .inl (cI, 16, .inl L))] sz)) 0 0 (va_A [(oS, .inr (1, [.ref aB, .int (nI mz), .ref aP, .ref aL, .int (nI cn), .int (nI hs)])), (aB, .inl (cB, 8192, .inl g)), (aP, .inl (cI, 16, .inl P)), (aL, .inl (cI, 16, .inl L))] sz) := by
  refine Met.ofW (cc := cX1_setSize) (maxL := 3) (ret := none) (by decide) rfl ?_
  intro p e s m args below meth c s₁ B hml hv
  obtain ⟨rfl, hsz, hP, hK, hD0, hN⟩ := hv
  have hx := B.exec
  have hb := B.bytes
  have hr := B.returns
  have hts := atoms_spec (ws := wsX1_setSize) B.pre
  have hown : s.vm.findClass RX1 = some m.cls := findClass_of_methodNamed B.named
  have hlocks := B.notSynchronized
  subst hsz
  have hD := hD0.self (sz := s.heap.size)
  generalize hAe : va_A [(oS, .inr (1, [.ref aB, .int (nI mz), .ref aP, .ref aL, .int (nI cn), .int (nI hs)])), (aB, .inl (cB, 8192, .inl g)), (aP, .inl (cI, 16, .inl P)), (aL, .inl (cI, 16, .inl L))] s.heap.size = A at hD ⊢
  have hA : ∀ q : Nat, s.heap.size ≤ q → A q := fun q h => by rw [← hAe]; exact Or.inr h
  have hS : va_S A s.heap s.heap [] := va_S.rf
  have hP : va_P (dC, dI) vwCl [(oS, .inr (1, [.ref aB, .int (nI mz), .ref aP, .ref aL, .int (nI cn), .int (nI hs)])), (aB, .inl (cB, 8192, .inl g)), (aP, .inl (cI, 16, .inl P)), (aL, .inl (cI, 16, .inl L))] s.heap := hP
  have hl := lv_entry ([.ref oS, .int (nI n)]) (n := 3) (Nat.le_of_ble_eq_true rfl)
  rw [lg_entry_eq]
  generalize (lg_sl ([.ref oS, .int (nI n)]) ++ List.replicate (3 - (lg_sl ([.ref oS, .int (nI n)])).length) Slot.unset).toArray = ls at hl ⊢
  have hl : lv_has ls 3 [(0, .ref oS), (1, .int (nI n))] := hl
  have hM1 := hM.1
  have hM2 := hM.2.1
  refine lv_iload_n hx hb dX1_setSize_0 rfl (lv_at hl 1 rfl) ?_
  refine wx_if_lt (tgt := 11) hx hb dX1_setSize_1 (by decide) (by omega) ?_
  refine lv_iload_n hx hb dX1_setSize_4 rfl (lv_at hl 1 rfl) ?_
  refine lv_sipush (v := nI 8192) hx hb dX1_setSize_5 (by decide) ?_
  refine wx_icmp_le (tgt := 12) hx hb dX1_setSize_8 (by decide) (by omega) (by omega) (fun c_2 => ?_) (fun c_2 => absurd c_2 (by omega))
  refine lv_iload_n hx hb dX1_setSize_12 rfl (lv_at hl 1 rfl) ?_
  refine lv_istore_n (lv' := [(2, .int (nI n)), (0, .ref oS), (1, .int (nI n))]) hx hb dX1_setSize_13 rfl hl (by decide) rfl (fun ls hl => ?_)
  refine wx_loop (σ := Nat × (Nat → Int32)) (fun x => mz - x.1) (fun x H locs ls => (n ≤ x.1) ∧ (x.1 < 20000) ∧ (∀ q, q < 8192 → x.2 q = sb_b (if n ≤ q ∧ q < x.1 then 0 else mem q)) ∧ va_P (dC, dI) vwCl [(oS, .inr (1, [.ref aB, .int (nI mz), .ref aP, .ref aL, .int (nI cn), .int (nI hs)])), (aB, .inl (cB, 8192, .inl x.2)), (aP, .inl (cI, 16, .inl P)), (aL, .inl (cI, 16, .inl L))] H ∧ va_D A [(oS, .inr (1, [.ref aB, .int (nI mz), .ref aP, .ref aL, .int (nI cn), .int (nI hs)])), (aB, .inl (cB, 8192, .inl x.2)), (aP, .inl (cI, 16, .inl P)), (aL, .inl (cI, 16, .inl L))] ∧ va_S A s.heap H locs ∧ lv_has ls 3 [(0, .ref oS), (1, .int (nI n)), (2, .int (nI x.1))]) ?_ (n, g) _ _ _ ⟨by omega, by omega, fun q hq => by rw [if_neg (by omega)]; exact hM.2.2.2 q hq, hP.sub [0, 1, 2, 3] rfl, hD.sub [0, 1, 2, 3] (by decide) rfl, hS, lv_sub hl [1, 2, 0] rfl⟩
  rintro ⟨i, g3⟩ H locs ls ⟨hi, hi2, hg, hP, hD, hS, hl⟩ ih
  have hi : n ≤ i := hi
  have hi2 : i < 20000 := hi2
  have hg : ∀ q, q < 8192 → g3 q = sb_b (if n ≤ q ∧ q < i then 0 else mem q) := hg
  have hP : va_P (dC, dI) vwCl [(oS, .inr (1, [.ref aB, .int (nI mz), .ref aP, .ref aL, .int (nI cn), .int (nI hs)])), (aB, .inl (cB, 8192, .inl g3)), (aP, .inl (cI, 16, .inl P)), (aL, .inl (cI, 16, .inl L))] H := hP
  have hD : va_D A [(oS, .inr (1, [.ref aB, .int (nI mz), .ref aP, .ref aL, .int (nI cn), .int (nI hs)])), (aB, .inl (cB, 8192, .inl g3)), (aP, .inl (cI, 16, .inl P)), (aL, .inl (cI, 16, .inl L))] := hD
  have hl : lv_has ls 3 [(0, .ref oS), (1, .int (nI n)), (2, .int (nI i))] := hl
  refine lv_iload_n hx hb dX1_setSize_14 rfl (lv_at hl 2 rfl) ?_
  refine lv_aload_n hx hb dX1_setSize_15 rfl (lv_at hl 0 rfl) ?_
  refine va_get (D := (dC, dI)) (ci := 1) (v := .int (nI mz)) (C := RX1) (T := TX1) (N := 6) hx hb hts (by decide +kernel) hown hK hP 0 rfl rfl 1 (by decide) (hts (.fieldLink RX1 15 "GlulxHeads$State" "size" "I") (by decide +kernel)) (fun _ h9 => h9) rfl dX1_setSize_16 ?_
  refine wx_icmp_ge (tgt := 35) hx hb dX1_setSize_19 (by decide) (by omega) (by omega) (fun c_3 => ?_) (fun c_3 => ?_)
  · skip
    refine lv_aload_n hx hb dX1_setSize_35 rfl (lv_at hl 0 rfl) ?_
    refine lv_iload_n hx hb dX1_setSize_36 rfl (lv_at hl 1 rfl) ?_
    refine va_put (D := (dC, dI)) (ci := 1) (v := .int (nI n)) (ty := .int) (C := RX1) (T := TX1) (N := 6) hx hb hts (by decide +kernel) tyX1 tyX1_ok nmX1 hown hK hP hD hS 0 rfl rfl 1 (by decide) (hts (.fieldLink RX1 15 "GlulxHeads$State" "size" "I") (by decide +kernel)) (fun _ h9 => h9) rfl (by decide +kernel) rfl rfl (Nat.le_of_ble_eq_true rfl) dX1_setSize_37 (fun H locs hP hD hS => ?_)
    have hP : va_P (dC, dI) vwCl [(oS, .inr (1, [.ref aB, .int (nI n), .ref aP, .ref aL, .int (nI cn), .int (nI hs)])), (aB, .inl (cB, 8192, .inl g3)), (aP, .inl (cI, 16, .inl P)), (aL, .inl (cI, 16, .inl L))] H := hP
    have hD : va_D A [(oS, .inr (1, [.ref aB, .int (nI n), .ref aP, .ref aL, .int (nI cn), .int (nI hs)])), (aB, .inl (cB, 8192, .inl g3)), (aP, .inl (cI, 16, .inl P)), (aL, .inl (cI, 16, .inl L))] := hD
    have hP9 := hP.sub (ws' := [(oS, .inr (1, [.ref aB, .int (nI n), .ref aP, .ref aL, .int (nI cn), .int (nI hs)])), (aB, .inl (cB, 8192, .inl g3)), (aP, .inl (cI, 16, .inl P)), (aL, .inl (cI, 16, .inl L))]) [0, 1, 2, 3] rfl
    have hD9 := hD.sub (ws' := [(oS, .inr (1, [.ref aB, .int (nI n), .ref aP, .ref aL, .int (nI cn), .int (nI hs)])), (aB, .inl (cB, 8192, .inl g3)), (aP, .inl (cI, 16, .inl P)), (aL, .inl (cI, 16, .inl L))]) [0, 1, 2, 3] (by decide) rfl
    exact W.vret hx hb hr (fun t ht hW => ⟨⟨(g3), rfl, mOk_size hM hn (by omega) hg, by rw [ht]; exact hP9, hD9⟩, hS.F ht⟩) hS.2.2 dX1_setSize_40
  · skip
    refine lv_aload_n hx hb dX1_setSize_22 rfl (lv_at hl 0 rfl) ?_
    refine va_get (D := (dC, dI)) (ci := 1) (v := .ref aB) (C := RX1) (T := TX1) (N := 6) hx hb hts (by decide +kernel) hown hK hP 0 rfl rfl 0 (by decide) (hts (.fieldLink RX1 9 "GlulxHeads$State" "bytes" "[B") (by decide +kernel)) (fun _ h9 => h9) rfl dX1_setSize_23 ?_
    refine lv_iload_n hx hb dX1_setSize_26 rfl (lv_at hl 2 rfl) ?_
    refine lv_iconst (v := nI 0) hx hb dX1_setSize_27 (by decide) ?_
    refine wx_bast hx hb hK hP hD hS 1 0 rfl rfl (by omega) (by decide) dX1_setSize_28 (fun H locs hP hD hS => ?_)
    have hP : va_P (dC, dI) vwCl [(oS, .inr (1, [.ref aB, .int (nI mz), .ref aP, .ref aL, .int (nI cn), .int (nI hs)])), (aB, .inl (cB, 8192, .inl (upd g3 i ((nI 0).toInt8.toInt32)))), (aP, .inl (cI, 16, .inl P)), (aL, .inl (cI, 16, .inl L))] H := hP
    have hD : va_D A [(oS, .inr (1, [.ref aB, .int (nI mz), .ref aP, .ref aL, .int (nI cn), .int (nI hs)])), (aB, .inl (cB, 8192, .inl (upd g3 i ((nI 0).toInt8.toInt32)))), (aP, .inl (cI, 16, .inl P)), (aL, .inl (cI, 16, .inl L))] := hD
    refine lv_iinc (v := nI (i + 1)) (lv' := [(2, .int (nI (i + 1))), (0, .ref oS), (1, .int (nI n))]) hx hb dX1_setSize_29 hl (k := 2) rfl (by rw [show Int32.ofInt 1 = nI 1 by decide]; exact nI_add _ _) (by decide) rfl (fun ls hl => ?_)
    refine lv_goto (tgt := 14) hx hb dX1_setSize_32 (by decide) ?_
    exact ih ((i + 1), (upd g3 i ((nI 0).toInt8.toInt32))) _ _ _ (by omega) ⟨by omega, by omega, size_step hi hg, hP.sub [0, 1, 2, 3] rfl, hD.sub [0, 1, 2, 3] (by decide) rfl, hS, lv_sub hl [1, 2, 0] rfl⟩
set_option maxHeartbeats 4000000 in
set_option maxRecDepth 100000 in
theorem c_X1_blockEnd (l : Launch) (dC : Nat → ClassId) (dI : Nat → Nat → Nat) (cB cI cJ : ClassId) (sz : Nat) (oS : Nat) (aB : Nat) (aP : Nat) (aL : Nat) (mz : Nat) (cn : Nat) (hs : Nat) (g : Nat → Int32) (P : Nat → Int32) (L : Nat → Int32) (i : Nat) (hi : i < 16) : Met l yX1_blockEnd wsX1_blockEnd ({ frames := 0, cells := 0, slots := 0, locals := 0 }) (va_Pc [.ref oS, .int (nI i)] (wPre dC dI cB cI cJ sz [(oS, .inr (1, [.ref aB, .int (nI mz), .ref aP, .ref aL, .int (nI cn), .int (nI hs)])), (aB, .inl (cB, 8192, .inl g)), (aP, .inl (cI, 16, .inl P)), (aL, .inl (cI, 16, .inl L))])) (va_Qi (fun (r : Int32) (u : Unit) => r = P i + L i) (fun (u : Unit) => wPost dC dI (va_A [(oS, .inr (1, [.ref aB, .int (nI mz), .ref aP, .ref aL, .int (nI cn), .int (nI hs)])), (aB, .inl (cB, 8192, .inl g)), (aP, .inl (cI, 16, .inl P)), (aL, .inl (cI, 16, .inl L))] sz) [(oS, .inr (1, [.ref aB, .int (nI mz), .ref aP, .ref aL, .int (nI cn), .int (nI hs)])), (aB, .inl (cB, 8192, .inl g)), (aP, .inl (cI, 16, .inl P)), (aL, .inl (cI, 16, .inl L))]) (va_A [(oS, .inr (1, [.ref aB, .int (nI mz), .ref aP, .ref aL, .int (nI cn), .int (nI hs)])), (aB, .inl (cB, 8192, .inl g)), (aP, .inl (cI, 16, .inl P)), (aL, .inl (cI, 16, .inl L))] sz)) 0 0 (va_A [(oS, .inr (1, [.ref aB, .int (nI mz), .ref aP, .ref aL, .int (nI cn), .int (nI hs)])), (aB, .inl (cB, 8192, .inl g)), (aP, .inl (cI, 16, .inl P)), (aL, .inl (cI, 16, .inl L))] sz) := by
  refine Met.ofW (cc := cX1_blockEnd) (maxL := 2) (ret := (some .int)) (by decide) rfl ?_
  intro p e s m args below meth c s₁ B hml hv
  obtain ⟨rfl, hsz, hP, hK, hD0, hN⟩ := hv
  have hx := B.exec
  have hb := B.bytes
  have hr := B.returns
  have hts := atoms_spec (ws := wsX1_blockEnd) B.pre
  have hown : s.vm.findClass RX1 = some m.cls := findClass_of_methodNamed B.named
  have hlocks := B.notSynchronized
  subst hsz
  have hD := hD0.self (sz := s.heap.size)
  generalize hAe : va_A [(oS, .inr (1, [.ref aB, .int (nI mz), .ref aP, .ref aL, .int (nI cn), .int (nI hs)])), (aB, .inl (cB, 8192, .inl g)), (aP, .inl (cI, 16, .inl P)), (aL, .inl (cI, 16, .inl L))] s.heap.size = A at hD ⊢
  have hA : ∀ q : Nat, s.heap.size ≤ q → A q := fun q h => by rw [← hAe]; exact Or.inr h
  have hS : va_S A s.heap s.heap [] := va_S.rf
  have hP : va_P (dC, dI) vwCl [(oS, .inr (1, [.ref aB, .int (nI mz), .ref aP, .ref aL, .int (nI cn), .int (nI hs)])), (aB, .inl (cB, 8192, .inl g)), (aP, .inl (cI, 16, .inl P)), (aL, .inl (cI, 16, .inl L))] s.heap := hP
  have hl := lv_entry ([.ref oS, .int (nI i)]) (n := 2) (Nat.le_of_ble_eq_true rfl)
  rw [lg_entry_eq]
  generalize (lg_sl ([.ref oS, .int (nI i)]) ++ List.replicate (2 - (lg_sl ([.ref oS, .int (nI i)])).length) Slot.unset).toArray = ls at hl ⊢
  have hl : lv_has ls 2 [(0, .ref oS), (1, .int (nI i))] := hl
  refine lv_aload_n hx hb dX1_blockEnd_0 rfl (lv_at hl 0 rfl) ?_
  refine va_get (D := (dC, dI)) (ci := 1) (v := .ref aP) (C := RX1) (T := TX1) (N := 6) hx hb hts (by decide +kernel) hown hK hP 0 rfl rfl 2 (by decide) (hts (.fieldLink RX1 19 "GlulxHeads$State" "blockPlace" "[I") (by decide +kernel)) (fun _ h9 => h9) rfl dX1_blockEnd_1 ?_
  refine lv_iload_n hx hb dX1_blockEnd_4 rfl (lv_at hl 1 rfl) ?_
  refine wx_iald hx hb hK hP 2 1 rfl rfl (by omega) (by decide) dX1_blockEnd_5 ?_
  refine lv_aload_n hx hb dX1_blockEnd_6 rfl (lv_at hl 0 rfl) ?_
  refine va_get (D := (dC, dI)) (ci := 1) (v := .ref aL) (C := RX1) (T := TX1) (N := 6) hx hb hts (by decide +kernel) hown hK hP 0 rfl rfl 3 (by decide) (hts (.fieldLink RX1 23 "GlulxHeads$State" "blockLength" "[I") (by decide +kernel)) (fun _ h9 => h9) rfl dX1_blockEnd_7 ?_
  refine lv_iload_n hx hb dX1_blockEnd_10 rfl (lv_at hl 1 rfl) ?_
  refine wx_iald hx hb hK hP 3 1 rfl rfl (by omega) (by decide) dX1_blockEnd_11 ?_
  refine lv_iadd hx hb dX1_blockEnd_12 ?_
  have hP9 := hP.sub (ws' := [(oS, .inr (1, [.ref aB, .int (nI mz), .ref aP, .ref aL, .int (nI cn), .int (nI hs)])), (aB, .inl (cB, 8192, .inl g)), (aP, .inl (cI, 16, .inl P)), (aL, .inl (cI, 16, .inl L))]) [0, 1, 2, 3] rfl
  have hD9 := hD.sub (ws' := [(oS, .inr (1, [.ref aB, .int (nI mz), .ref aP, .ref aL, .int (nI cn), .int (nI hs)])), (aB, .inl (cB, 8192, .inl g)), (aP, .inl (cI, 16, .inl P)), (aL, .inl (cI, 16, .inl L))]) [0, 1, 2, 3] (by decide) rfl
  exact W.iret (v := (P i) + (L i)) hx hb hr (fun t ht hW => ⟨⟨((P i) + (L i)), (), rfl, rfl, by rw [ht]; exact hP9, hD9⟩, hS.F ht⟩) hS.2.2 dX1_blockEnd_13
set_option maxHeartbeats 4000000 in
set_option maxRecDepth 100000 in
theorem c_X1_roundUp (l : Launch) (dC : Nat → ClassId) (dI : Nat → Nat → Nat) (cB cI cJ : ClassId) (sz : Nat) (k : Nat) (hk : k < 1000000) : Met l yX1_roundUp wsX1_roundUp ({ frames := 0, cells := 0, slots := 0, locals := 0 }) (va_Pc [.int (nI k)] (wPre dC dI cB cI cJ sz [])) (va_Qi (fun (r : Int32) (u : Unit) => r = nI ((k + 256 - 1) / 256 * 256)) (fun (u : Unit) => wPost dC dI (va_A [] sz) []) (va_A [] sz)) 0 0 (va_A [] sz) := by
  refine Met.ofW (cc := cX1_roundUp) (maxL := 1) (ret := (some .int)) (by decide) rfl ?_
  intro p e s m args below meth c s₁ B hml hv
  obtain ⟨rfl, hsz, hP, hK, hD0, hN⟩ := hv
  have hx := B.exec
  have hb := B.bytes
  have hr := B.returns
  have hts := atoms_spec (ws := wsX1_roundUp) B.pre
  have hown : s.vm.findClass RX1 = some m.cls := findClass_of_methodNamed B.named
  have hlocks := B.notSynchronized
  subst hsz
  have hD := hD0.self (sz := s.heap.size)
  generalize hAe : va_A [] s.heap.size = A at hD ⊢
  have hA : ∀ q : Nat, s.heap.size ≤ q → A q := fun q h => by rw [← hAe]; exact Or.inr h
  have hS : va_S A s.heap s.heap [] := va_S.rf
  have hP : va_P (dC, dI) vwCl [] s.heap := hP
  have hl := lv_entry ([.int (nI k)]) (n := 1) (Nat.le_of_ble_eq_true rfl)
  rw [lg_entry_eq]
  generalize (lg_sl ([.int (nI k)]) ++ List.replicate (1 - (lg_sl ([.int (nI k)])).length) Slot.unset).toArray = ls at hl ⊢
  have hl : lv_has ls 1 [(0, .int (nI k))] := hl
  refine lv_iload_n hx hb dX1_roundUp_0 rfl (lv_at hl 0 rfl) ?_
  refine lv_sipush (v := nI 256) hx hb dX1_roundUp_1 (by decide) ?_
  refine wx_iadd hx hb dX1_roundUp_4 ?_
  refine lv_iconst (v := nI 1) hx hb dX1_roundUp_5 (by decide) ?_
  refine wx_isub hx hb dX1_roundUp_6 (by omega) ?_
  refine lv_sipush (v := nI 256) hx hb dX1_roundUp_7 (by decide) ?_
  refine wx_idiv hx hb dX1_roundUp_10 (by omega) (by omega) (by omega) ?_
  refine lv_sipush (v := nI 256) hx hb dX1_roundUp_11 (by decide) ?_
  refine wx_imul hx hb dX1_roundUp_14 ?_
  have hP9 := hP.sub (ws' := []) [] rfl
  have hD9 := hD.sub (ws' := []) [] (by decide) rfl
  exact W.iret (v := nI ((((k + 256) - 1) / 256) * 256)) hx hb hr (fun t ht hW => ⟨⟨(nI ((((k + 256) - 1) / 256) * 256)), (), rfl, rfl, by rw [ht]; exact hP9, hD9⟩, hS.F ht⟩) hS.2.2 dX1_roundUp_15
set_option maxHeartbeats 4000000 in
set_option maxRecDepth 100000 in
theorem c_X1_copyAround (l : Launch) (dC : Nat → ClassId) (dI : Nat → Nat → Nat) (cB cI cJ : ClassId) (sz : Nat) (oS : Nat) (aB : Nat) (aP : Nat) (aL : Nat) (mz : Nat) (cn : Nat) (hs : Nat) (g : Nat → Int32) (P : Nat → Int32) (L : Nat → Int32) (oSo : Nat) (aBo : Nat) (aPo : Nat) (aLo : Nat) (mzo : Nat) (cno : Nat) (hso : Nat) (go : Nat → Int32) (Po : Nat → Int32) (Lo : Nat → Int32) (mem : Nat → Nat) (memo : Nat → Nat) (kf : Nat) (kt : Nat) (hM : mOk g mz mem) (hO : mOk go mzo memo) (hkf : kf < 1000000) (hkt : kt < 1000000) : Met l yX1_copyAround wsX1_copyAround ({ frames := 1, cells := 0, slots := 0, locals := 26 }) (va_Pc [.ref oS, .ref oSo, .int (nI kf), .int (nI kt)] (wPre dC dI cB cI cJ sz [(oS, .inr (1, [.ref aB, .int (nI mz), .ref aP, .ref aL, .int (nI cn), .int (nI hs)])), (aB, .inl (cB, 8192, .inl g)), (aP, .inl (cI, 16, .inl P)), (aL, .inl (cI, 16, .inl L)), (oSo, .inr (1, [.ref aBo, .int (nI mzo), .ref aPo, .ref aLo, .int (nI cno), .int (nI hso)])), (aBo, .inl (cB, 8192, .inl go)), (aPo, .inl (cI, 16, .inl Po)), (aLo, .inl (cI, 16, .inl Lo))])) (va_Qv (fun (u : (Nat → Int32) × (Nat → Int32) × (Nat → Int32)) => mOk u.1 mzo (keepM mem mz memo mzo kf kt) ∧ (∀ i, i < 16 → u.2.1 i = Po i) ∧ (∀ i, i < 16 → u.2.2 i = Lo i)) (fun (u : (Nat → Int32) × (Nat → Int32) × (Nat → Int32)) => wPost dC dI (va_A [(oS, .inr (1, [.ref aB, .int (nI mz), .ref aP, .ref aL, .int (nI cn), .int (nI hs)])), (aB, .inl (cB, 8192, .inl g)), (aP, .inl (cI, 16, .inl P)), (aL, .inl (cI, 16, .inl L)), (oSo, .inr (1, [.ref aBo, .int (nI mzo), .ref aPo, .ref aLo, .int (nI cno), .int (nI hso)])), (aBo, .inl (cB, 8192, .inl go)), (aPo, .inl (cI, 16, .inl Po)), (aLo, .inl (cI, 16, .inl Lo))] sz) [(oS, .inr (1, [.ref aB, .int (nI mzo), .ref aP, .ref aL, .int (nI cno), .int (nI hso)])), (aB, .inl (cB, 8192, .inl u.1)), (aP, .inl (cI, 16, .inl u.2.1)), (aL, .inl (cI, 16, .inl u.2.2)), (oSo, .inr (1, [.ref aBo, .int (nI mzo), .ref aPo, .ref aLo, .int (nI cno), .int (nI hso)])), (aBo, .inl (cB, 8192, .inl go)), (aPo, .inl (cI, 16, .inl Po)), (aLo, .inl (cI, 16, .inl Lo))]) (va_A [(oS, .inr (1, [.ref aB, .int (nI mz), .ref aP, .ref aL, .int (nI cn), .int (nI hs)])), (aB, .inl (cB, 8192, .inl g)), (aP, .inl (cI, 16, .inl P)), (aL, .inl (cI, 16, .inl L)), (oSo, .inr (1, [.ref aBo, .int (nI mzo), .ref aPo, .ref aLo, .int (nI cno), .int (nI hso)])), (aBo, .inl (cB, 8192, .inl go)), (aPo, .inl (cI, 16, .inl Po)), (aLo, .inl (cI, 16, .inl Lo))] sz)) 0 0 (va_A [(oS, .inr (1, [.ref aB, .int (nI mz), .ref aP, .ref aL, .int (nI cn), .int (nI hs)])), (aB, .inl (cB, 8192, .inl g)), (aP, .inl (cI, 16, .inl P)), (aL, .inl (cI, 16, .inl L)), (oSo, .inr (1, [.ref aBo, .int (nI mzo), .ref aPo, .ref aLo, .int (nI cno), .int (nI hso)])), (aBo, .inl (cB, 8192, .inl go)), (aPo, .inl (cI, 16, .inl Po)), (aLo, .inl (cI, 16, .inl Lo))] sz) := by
  refine Met.ofW (cc := cX1_copyAround) (maxL := 6) (ret := none) (by decide) rfl ?_
  intro p e s m args below meth c s₁ B hml hv
  obtain ⟨rfl, hsz, hP, hK, hD0, hN⟩ := hv
  have hx := B.exec
  have hb := B.bytes
  have hr := B.returns
  have hts := atoms_spec (ws := wsX1_copyAround) B.pre
  have hown : s.vm.findClass RX1 = some m.cls := findClass_of_methodNamed B.named
  have hlocks := B.notSynchronized
  subst hsz
  have hD := hD0.self (sz := s.heap.size)
  generalize hAe : va_A [(oS, .inr (1, [.ref aB, .int (nI mz), .ref aP, .ref aL, .int (nI cn), .int (nI hs)])), (aB, .inl (cB, 8192, .inl g)), (aP, .inl (cI, 16, .inl P)), (aL, .inl (cI, 16, .inl L)), (oSo, .inr (1, [.ref aBo, .int (nI mzo), .ref aPo, .ref aLo, .int (nI cno), .int (nI hso)])), (aBo, .inl (cB, 8192, .inl go)), (aPo, .inl (cI, 16, .inl Po)), (aLo, .inl (cI, 16, .inl Lo))] s.heap.size = A at hD ⊢
  have hA : ∀ q : Nat, s.heap.size ≤ q → A q := fun q h => by rw [← hAe]; exact Or.inr h
  have hS : va_S A s.heap s.heap [] := va_S.rf
  have hP : va_P (dC, dI) vwCl [(oS, .inr (1, [.ref aB, .int (nI mz), .ref aP, .ref aL, .int (nI cn), .int (nI hs)])), (aB, .inl (cB, 8192, .inl g)), (aP, .inl (cI, 16, .inl P)), (aL, .inl (cI, 16, .inl L)), (oSo, .inr (1, [.ref aBo, .int (nI mzo), .ref aPo, .ref aLo, .int (nI cno), .int (nI hso)])), (aBo, .inl (cB, 8192, .inl go)), (aPo, .inl (cI, 16, .inl Po)), (aLo, .inl (cI, 16, .inl Lo))] s.heap := hP
  have hl := lv_entry ([.ref oS, .ref oSo, .int (nI kf), .int (nI kt)]) (n := 6) (Nat.le_of_ble_eq_true rfl)
  rw [lg_entry_eq]
  generalize (lg_sl ([.ref oS, .ref oSo, .int (nI kf), .int (nI kt)]) ++ List.replicate (6 - (lg_sl ([.ref oS, .ref oSo, .int (nI kf), .int (nI kt)])).length) Slot.unset).toArray = ls at hl ⊢
  have hl : lv_has ls 6 [(0, .ref oS), (1, .ref oSo), (2, .int (nI kf)), (3, .int (nI kt))] := hl
  have hM1 := hM.1
  have hM2 := hM.2.1
  have hO1 := hO.1
  refine lv_iconst (v := nI 0) hx hb dX1_copyAround_0 (by decide) ?_
  refine lv_iload_n hx hb dX1_copyAround_1 rfl (lv_at hl 3 rfl) ?_
  refine lv_aload_n hx hb dX1_copyAround_2 rfl (lv_at hl 0 rfl) ?_
  refine va_get (D := (dC, dI)) (ci := 1) (v := .int (nI mz)) (C := RX1) (T := TX1) (N := 6) hx hb hts (by decide +kernel) hown hK hP 0 rfl rfl 1 (by decide) (hts (.fieldLink RX1 15 "GlulxHeads$State" "size" "I") (by decide +kernel)) (fun _ h9 => h9) rfl dX1_copyAround_3 ?_
  refine lv_aload_n hx hb dX1_copyAround_6 rfl (lv_at hl 1 rfl) ?_
  refine va_get (D := (dC, dI)) (ci := 1) (v := .int (nI mzo)) (C := RX1) (T := TX1) (N := 6) hx hb hts (by decide +kernel) hown hK hP 4 rfl rfl 1 (by decide) (hts (.fieldLink RX1 15 "GlulxHeads$State" "size" "I") (by decide +kernel)) (fun _ h9 => h9) rfl dX1_copyAround_7 ?_
  refine va_mmin hx hb (by rw [hml]; exact hl.1.symm) hown (hts (.methodLink RX1 54 Lib.Math.min.name) (by decide +kernel)) (hts (.static Lib.Math.min.name) (by decide +kernel)) (hts (.initialized "java/lang/Math") (by decide +kernel)) (hts (.code Lib.Math.min.name Lib.Math.min.code 2 (some .int)) (List.mem_of_getElem? (i := 5) rfl)) (Nat.le_of_ble_eq_true rfl) (Nat.le_of_ble_eq_true rfl) (Nat.le_of_ble_eq_true rfl) (Nat.le_of_ble_eq_true rfl) dX1_copyAround_10 ?_
  refine wx_top (wm_min (by omega) (by omega)) ?_
  refine va_mmin hx hb (by rw [hml]; exact hl.1.symm) hown (hts (.methodLink RX1 54 Lib.Math.min.name) (by decide +kernel)) (hts (.static Lib.Math.min.name) (by decide +kernel)) (hts (.initialized "java/lang/Math") (by decide +kernel)) (hts (.code Lib.Math.min.name Lib.Math.min.code 2 (some .int)) (List.mem_of_getElem? (i := 5) rfl)) (Nat.le_of_ble_eq_true rfl) (Nat.le_of_ble_eq_true rfl) (Nat.le_of_ble_eq_true rfl) (Nat.le_of_ble_eq_true rfl) dX1_copyAround_13 ?_
  refine wx_top (wm_min (by omega) (by omega)) ?_
  refine va_mmax hx hb (by rw [hml]; exact hl.1.symm) hown (hts (.methodLink RX1 60 Lib.Math.max.name) (by decide +kernel)) (hts (.static Lib.Math.max.name) (by decide +kernel)) (hts (.initialized "java/lang/Math") (by decide +kernel)) (hts (.code Lib.Math.max.name Lib.Math.max.code 2 (some .int)) (List.mem_of_getElem? (i := 8) rfl)) (Nat.le_of_ble_eq_true rfl) (Nat.le_of_ble_eq_true rfl) (Nat.le_of_ble_eq_true rfl) (Nat.le_of_ble_eq_true rfl) dX1_copyAround_16 ?_
  refine wx_top (wm_max (by omega) (by omega)) ?_
  refine lv_istore (lv' := [(4, .int (nI (max 0 (min kt (min mz mzo))))), (0, .ref oS), (1, .ref oSo), (2, .int (nI kf)), (3, .int (nI kt))]) hx hb dX1_copyAround_19 hl (by decide) rfl (fun ls hl => ?_)
  refine lv_iconst (v := nI 0) hx hb dX1_copyAround_21 (by decide) ?_
  refine lv_iload_n hx hb dX1_copyAround_22 rfl (lv_at hl 3 rfl) ?_
  refine lv_iload hx hb dX1_copyAround_23 (lv_at hl 0 rfl) ?_
  refine va_mmin hx hb (by rw [hml]; exact hl.1.symm) hown (hts (.methodLink RX1 54 Lib.Math.min.name) (by decide +kernel)) (hts (.static Lib.Math.min.name) (by decide +kernel)) (hts (.initialized "java/lang/Math") (by decide +kernel)) (hts (.code Lib.Math.min.name Lib.Math.min.code 2 (some .int)) (List.mem_of_getElem? (i := 5) rfl)) (Nat.le_of_ble_eq_true rfl) (Nat.le_of_ble_eq_true rfl) (Nat.le_of_ble_eq_true rfl) (Nat.le_of_ble_eq_true rfl) dX1_copyAround_25 ?_
  refine wx_top (wm_min (by omega) (by omega)) ?_
  refine va_mmax hx hb (by rw [hml]; exact hl.1.symm) hown (hts (.methodLink RX1 60 Lib.Math.max.name) (by decide +kernel)) (hts (.static Lib.Math.max.name) (by decide +kernel)) (hts (.initialized "java/lang/Math") (by decide +kernel)) (hts (.code Lib.Math.max.name Lib.Math.max.code 2 (some .int)) (List.mem_of_getElem? (i := 8) rfl)) (Nat.le_of_ble_eq_true rfl) (Nat.le_of_ble_eq_true rfl) (Nat.le_of_ble_eq_true rfl) (Nat.le_of_ble_eq_true rfl) dX1_copyAround_28 ?_
  refine wx_top (wm_max (by omega) (by omega)) ?_
  refine lv_istore (lv' := [(5, .int (nI (max 0 (min kf (max 0 (min kt (min mz mzo))))))), (4, .int (nI (max 0 (min kt (min mz mzo))))), (0, .ref oS), (1, .ref oSo), (2, .int (nI kf)), (3, .int (nI kt))]) hx hb dX1_copyAround_31 hl (by decide) rfl (fun ls hl => ?_)
  refine lv_aload_n hx hb dX1_copyAround_33 rfl (lv_at hl 3 rfl) ?_
  refine va_get (D := (dC, dI)) (ci := 1) (v := .ref aBo) (C := RX1) (T := TX1) (N := 6) hx hb hts (by decide +kernel) hown hK hP 4 rfl rfl 0 (by decide) (hts (.fieldLink RX1 9 "GlulxHeads$State" "bytes" "[B") (by decide +kernel)) (fun _ h9 => h9) rfl dX1_copyAround_34 ?_
  refine lv_iconst (v := nI 0) hx hb dX1_copyAround_37 (by decide) ?_
  refine lv_aload_n hx hb dX1_copyAround_38 rfl (lv_at hl 2 rfl) ?_
  refine va_get (D := (dC, dI)) (ci := 1) (v := .ref aB) (C := RX1) (T := TX1) (N := 6) hx hb hts (by decide +kernel) hown hK hP 0 rfl rfl 0 (by decide) (hts (.fieldLink RX1 9 "GlulxHeads$State" "bytes" "[B") (by decide +kernel)) (fun _ h9 => h9) rfl dX1_copyAround_39 ?_
  refine lv_iconst (v := nI 0) hx hb dX1_copyAround_42 (by decide) ?_
  refine lv_iload hx hb dX1_copyAround_43 (lv_at hl 0 rfl) ?_
  refine wx_copy hx hb (by rw [hml]; exact hl.1.symm) hown (hts (.methodLink RX1 63 arraycopyName) (by decide +kernel)) (hts (.native arraycopyName) (by decide +kernel)) (hts (.static arraycopyName) (by decide +kernel)) (hts (.initialized "java/lang/System") (by decide +kernel)) hK hP hD hS 5 1 0 0 rfl rfl rfl rfl rfl (by omega) (by omega) (fun i hi => by rw [hO.2.2.2 _ (by omega)]; exact sb_fitB _) (Nat.le_of_ble_eq_true rfl) (Nat.le_of_ble_eq_true rfl) (by decide) (by decide) dX1_copyAround_45 (fun H locs hP hD hS => ?_)
  have hP : va_P (dC, dI) vwCl [(oS, .inr (1, [.ref aB, .int (nI mz), .ref aP, .ref aL, .int (nI cn), .int (nI hs)])), (aB, .inl (cB, 8192, .inl (va_cpy go g 0 0 (max 0 (min kf (max 0 (min kt (min mz mzo)))))))), (aP, .inl (cI, 16, .inl P)), (aL, .inl (cI, 16, .inl L)), (oSo, .inr (1, [.ref aBo, .int (nI mzo), .ref aPo, .ref aLo, .int (nI cno), .int (nI hso)])), (aBo, .inl (cB, 8192, .inl go)), (aPo, .inl (cI, 16, .inl Po)), (aLo, .inl (cI, 16, .inl Lo))] H := hP
  have hD : va_D A [(oS, .inr (1, [.ref aB, .int (nI mz), .ref aP, .ref aL, .int (nI cn), .int (nI hs)])), (aB, .inl (cB, 8192, .inl (va_cpy go g 0 0 (max 0 (min kf (max 0 (min kt (min mz mzo)))))))), (aP, .inl (cI, 16, .inl P)), (aL, .inl (cI, 16, .inl L)), (oSo, .inr (1, [.ref aBo, .int (nI mzo), .ref aPo, .ref aLo, .int (nI cno), .int (nI hso)])), (aBo, .inl (cB, 8192, .inl go)), (aPo, .inl (cI, 16, .inl Po)), (aLo, .inl (cI, 16, .inl Lo))] := hD
  refine lv_aload_n hx hb dX1_copyAround_48 rfl (lv_at hl 3 rfl) ?_
  refine va_get (D := (dC, dI)) (ci := 1) (v := .ref aBo) (C := RX1) (T := TX1) (N := 6) hx hb hts (by decide +kernel) hown hK hP 4 rfl rfl 0 (by decide) (hts (.fieldLink RX1 9 "GlulxHeads$State" "bytes" "[B") (by decide +kernel)) (fun _ h9 => h9) rfl dX1_copyAround_49 ?_
  refine lv_iload hx hb dX1_copyAround_52 (lv_at hl 1 rfl) ?_
  refine lv_aload_n hx hb dX1_copyAround_54 rfl (lv_at hl 2 rfl) ?_
  refine va_get (D := (dC, dI)) (ci := 1) (v := .ref aB) (C := RX1) (T := TX1) (N := 6) hx hb hts (by decide +kernel) hown hK hP 0 rfl rfl 0 (by decide) (hts (.fieldLink RX1 9 "GlulxHeads$State" "bytes" "[B") (by decide +kernel)) (fun _ h9 => h9) rfl dX1_copyAround_55 ?_
  refine lv_iload hx hb dX1_copyAround_58 (lv_at hl 1 rfl) ?_
  refine lv_sipush (v := nI 8192) hx hb dX1_copyAround_60 (by decide) ?_
  refine lv_iload hx hb dX1_copyAround_63 (lv_at hl 1 rfl) ?_
  refine wx_isub hx hb dX1_copyAround_65 (by omega) ?_
  refine wx_copy hx hb (by rw [hml]; exact hl.1.symm) hown (hts (.methodLink RX1 63 arraycopyName) (by decide +kernel)) (hts (.native arraycopyName) (by decide +kernel)) (hts (.static arraycopyName) (by decide +kernel)) (hts (.initialized "java/lang/System") (by decide +kernel)) hK hP hD hS 5 1 0 0 rfl rfl rfl rfl rfl (by omega) (by omega) (fun i hi => by rw [hO.2.2.2 _ (by omega)]; exact sb_fitB _) (Nat.le_of_ble_eq_true rfl) (Nat.le_of_ble_eq_true rfl) (by decide) (by decide) dX1_copyAround_66 (fun H locs hP hD hS => ?_)
  have hP : va_P (dC, dI) vwCl [(oS, .inr (1, [.ref aB, .int (nI mz), .ref aP, .ref aL, .int (nI cn), .int (nI hs)])), (aB, .inl (cB, 8192, .inl (va_cpy go (va_cpy go g 0 0 (max 0 (min kf (max 0 (min kt (min mz mzo)))))) (max 0 (min kt (min mz mzo))) (max 0 (min kt (min mz mzo))) (8192 - (max 0 (min kt (min mz mzo))))))), (aP, .inl (cI, 16, .inl P)), (aL, .inl (cI, 16, .inl L)), (oSo, .inr (1, [.ref aBo, .int (nI mzo), .ref aPo, .ref aLo, .int (nI cno), .int (nI hso)])), (aBo, .inl (cB, 8192, .inl go)), (aPo, .inl (cI, 16, .inl Po)), (aLo, .inl (cI, 16, .inl Lo))] H := hP
  have hD : va_D A [(oS, .inr (1, [.ref aB, .int (nI mz), .ref aP, .ref aL, .int (nI cn), .int (nI hs)])), (aB, .inl (cB, 8192, .inl (va_cpy go (va_cpy go g 0 0 (max 0 (min kf (max 0 (min kt (min mz mzo)))))) (max 0 (min kt (min mz mzo))) (max 0 (min kt (min mz mzo))) (8192 - (max 0 (min kt (min mz mzo))))))), (aP, .inl (cI, 16, .inl P)), (aL, .inl (cI, 16, .inl L)), (oSo, .inr (1, [.ref aBo, .int (nI mzo), .ref aPo, .ref aLo, .int (nI cno), .int (nI hso)])), (aBo, .inl (cB, 8192, .inl go)), (aPo, .inl (cI, 16, .inl Po)), (aLo, .inl (cI, 16, .inl Lo))] := hD
  refine lv_aload_n hx hb dX1_copyAround_69 rfl (lv_at hl 2 rfl) ?_
  refine lv_aload_n hx hb dX1_copyAround_70 rfl (lv_at hl 3 rfl) ?_
  refine va_get (D := (dC, dI)) (ci := 1) (v := .int (nI mzo)) (C := RX1) (T := TX1) (N := 6) hx hb hts (by decide +kernel) hown hK hP 4 rfl rfl 1 (by decide) (hts (.fieldLink RX1 15 "GlulxHeads$State" "size" "I") (by decide +kernel)) (fun _ h9 => h9) rfl dX1_copyAround_71 ?_
  refine va_put (D := (dC, dI)) (ci := 1) (v := .int (nI mzo)) (ty := .int) (C := RX1) (T := TX1) (N := 6) hx hb hts (by decide +kernel) tyX1 tyX1_ok nmX1 hown hK hP hD hS 0 rfl rfl 1 (by decide) (hts (.fieldLink RX1 15 "GlulxHeads$State" "size" "I") (by decide +kernel)) (fun _ h9 => h9) rfl (by decide +kernel) rfl rfl (Nat.le_of_ble_eq_true rfl) dX1_copyAround_74 (fun H locs hP hD hS => ?_)
  have hP : va_P (dC, dI) vwCl [(oS, .inr (1, [.ref aB, .int (nI mzo), .ref aP, .ref aL, .int (nI cn), .int (nI hs)])), (aB, .inl (cB, 8192, .inl (va_cpy go (va_cpy go g 0 0 (max 0 (min kf (max 0 (min kt (min mz mzo)))))) (max 0 (min kt (min mz mzo))) (max 0 (min kt (min mz mzo))) (8192 - (max 0 (min kt (min mz mzo))))))), (aP, .inl (cI, 16, .inl P)), (aL, .inl (cI, 16, .inl L)), (oSo, .inr (1, [.ref aBo, .int (nI mzo), .ref aPo, .ref aLo, .int (nI cno), .int (nI hso)])), (aBo, .inl (cB, 8192, .inl go)), (aPo, .inl (cI, 16, .inl Po)), (aLo, .inl (cI, 16, .inl Lo))] H := hP
  have hD : va_D A [(oS, .inr (1, [.ref aB, .int (nI mzo), .ref aP, .ref aL, .int (nI cn), .int (nI hs)])), (aB, .inl (cB, 8192, .inl (va_cpy go (va_cpy go g 0 0 (max 0 (min kf (max 0 (min kt (min mz mzo)))))) (max 0 (min kt (min mz mzo))) (max 0 (min kt (min mz mzo))) (8192 - (max 0 (min kt (min mz mzo))))))), (aP, .inl (cI, 16, .inl P)), (aL, .inl (cI, 16, .inl L)), (oSo, .inr (1, [.ref aBo, .int (nI mzo), .ref aPo, .ref aLo, .int (nI cno), .int (nI hso)])), (aBo, .inl (cB, 8192, .inl go)), (aPo, .inl (cI, 16, .inl Po)), (aLo, .inl (cI, 16, .inl Lo))] := hD
  refine lv_aload_n hx hb dX1_copyAround_77 rfl (lv_at hl 3 rfl) ?_
  refine va_get (D := (dC, dI)) (ci := 1) (v := .ref aPo) (C := RX1) (T := TX1) (N := 6) hx hb hts (by decide +kernel) hown hK hP 4 rfl rfl 2 (by decide) (hts (.fieldLink RX1 19 "GlulxHeads$State" "blockPlace" "[I") (by decide +kernel)) (fun _ h9 => h9) rfl dX1_copyAround_78 ?_
  refine lv_iconst (v := nI 0) hx hb dX1_copyAround_81 (by decide) ?_
  refine lv_aload_n hx hb dX1_copyAround_82 rfl (lv_at hl 2 rfl) ?_
  refine va_get (D := (dC, dI)) (ci := 1) (v := .ref aP) (C := RX1) (T := TX1) (N := 6) hx hb hts (by decide +kernel) hown hK hP 0 rfl rfl 2 (by decide) (hts (.fieldLink RX1 19 "GlulxHeads$State" "blockPlace" "[I") (by decide +kernel)) (fun _ h9 => h9) rfl dX1_copyAround_83 ?_
  refine lv_iconst (v := nI 0) hx hb dX1_copyAround_86 (by decide) ?_
  refine lv_bipush (v := nI 16) hx hb dX1_copyAround_87 (by decide) ?_
  refine wx_copy hx hb (by rw [hml]; exact hl.1.symm) hown (hts (.methodLink RX1 63 arraycopyName) (by decide +kernel)) (hts (.native arraycopyName) (by decide +kernel)) (hts (.static arraycopyName) (by decide +kernel)) (hts (.initialized "java/lang/System") (by decide +kernel)) hK hP hD hS 6 2 1 1 rfl rfl rfl rfl rfl (by omega) (by omega) (fun _ _ => rfl) (Nat.le_of_ble_eq_true rfl) (Nat.le_of_ble_eq_true rfl) (by decide) (by decide) dX1_copyAround_89 (fun H locs hP hD hS => ?_)
  have hP : va_P (dC, dI) vwCl [(oS, .inr (1, [.ref aB, .int (nI mzo), .ref aP, .ref aL, .int (nI cn), .int (nI hs)])), (aB, .inl (cB, 8192, .inl (va_cpy go (va_cpy go g 0 0 (max 0 (min kf (max 0 (min kt (min mz mzo)))))) (max 0 (min kt (min mz mzo))) (max 0 (min kt (min mz mzo))) (8192 - (max 0 (min kt (min mz mzo))))))), (aP, .inl (cI, 16, .inl (va_cpy Po P 0 0 16))), (aL, .inl (cI, 16, .inl L)), (oSo, .inr (1, [.ref aBo, .int (nI mzo), .ref aPo, .ref aLo, .int (nI cno), .int (nI hso)])), (aBo, .inl (cB, 8192, .inl go)), (aPo, .inl (cI, 16, .inl Po)), (aLo, .inl (cI, 16, .inl Lo))] H := hP
  have hD : va_D A [(oS, .inr (1, [.ref aB, .int (nI mzo), .ref aP, .ref aL, .int (nI cn), .int (nI hs)])), (aB, .inl (cB, 8192, .inl (va_cpy go (va_cpy go g 0 0 (max 0 (min kf (max 0 (min kt (min mz mzo)))))) (max 0 (min kt (min mz mzo))) (max 0 (min kt (min mz mzo))) (8192 - (max 0 (min kt (min mz mzo))))))), (aP, .inl (cI, 16, .inl (va_cpy Po P 0 0 16))), (aL, .inl (cI, 16, .inl L)), (oSo, .inr (1, [.ref aBo, .int (nI mzo), .ref aPo, .ref aLo, .int (nI cno), .int (nI hso)])), (aBo, .inl (cB, 8192, .inl go)), (aPo, .inl (cI, 16, .inl Po)), (aLo, .inl (cI, 16, .inl Lo))] := hD
  refine lv_aload_n hx hb dX1_copyAround_92 rfl (lv_at hl 3 rfl) ?_
  refine va_get (D := (dC, dI)) (ci := 1) (v := .ref aLo) (C := RX1) (T := TX1) (N := 6) hx hb hts (by decide +kernel) hown hK hP 4 rfl rfl 3 (by decide) (hts (.fieldLink RX1 23 "GlulxHeads$State" "blockLength" "[I") (by decide +kernel)) (fun _ h9 => h9) rfl dX1_copyAround_93 ?_
  refine lv_iconst (v := nI 0) hx hb dX1_copyAround_96 (by decide) ?_
  refine lv_aload_n hx hb dX1_copyAround_97 rfl (lv_at hl 2 rfl) ?_
  refine va_get (D := (dC, dI)) (ci := 1) (v := .ref aL) (C := RX1) (T := TX1) (N := 6) hx hb hts (by decide +kernel) hown hK hP 0 rfl rfl 3 (by decide) (hts (.fieldLink RX1 23 "GlulxHeads$State" "blockLength" "[I") (by decide +kernel)) (fun _ h9 => h9) rfl dX1_copyAround_98 ?_
  refine lv_iconst (v := nI 0) hx hb dX1_copyAround_101 (by decide) ?_
  refine lv_bipush (v := nI 16) hx hb dX1_copyAround_102 (by decide) ?_
  refine wx_copy hx hb (by rw [hml]; exact hl.1.symm) hown (hts (.methodLink RX1 63 arraycopyName) (by decide +kernel)) (hts (.native arraycopyName) (by decide +kernel)) (hts (.static arraycopyName) (by decide +kernel)) (hts (.initialized "java/lang/System") (by decide +kernel)) hK hP hD hS 7 3 1 1 rfl rfl rfl rfl rfl (by omega) (by omega) (fun _ _ => rfl) (Nat.le_of_ble_eq_true rfl) (Nat.le_of_ble_eq_true rfl) (by decide) (by decide) dX1_copyAround_104 (fun H locs hP hD hS => ?_)
  have hP : va_P (dC, dI) vwCl [(oS, .inr (1, [.ref aB, .int (nI mzo), .ref aP, .ref aL, .int (nI cn), .int (nI hs)])), (aB, .inl (cB, 8192, .inl (va_cpy go (va_cpy go g 0 0 (max 0 (min kf (max 0 (min kt (min mz mzo)))))) (max 0 (min kt (min mz mzo))) (max 0 (min kt (min mz mzo))) (8192 - (max 0 (min kt (min mz mzo))))))), (aP, .inl (cI, 16, .inl (va_cpy Po P 0 0 16))), (aL, .inl (cI, 16, .inl (va_cpy Lo L 0 0 16))), (oSo, .inr (1, [.ref aBo, .int (nI mzo), .ref aPo, .ref aLo, .int (nI cno), .int (nI hso)])), (aBo, .inl (cB, 8192, .inl go)), (aPo, .inl (cI, 16, .inl Po)), (aLo, .inl (cI, 16, .inl Lo))] H := hP
  have hD : va_D A [(oS, .inr (1, [.ref aB, .int (nI mzo), .ref aP, .ref aL, .int (nI cn), .int (nI hs)])), (aB, .inl (cB, 8192, .inl (va_cpy go (va_cpy go g 0 0 (max 0 (min kf (max 0 (min kt (min mz mzo)))))) (max 0 (min kt (min mz mzo))) (max 0 (min kt (min mz mzo))) (8192 - (max 0 (min kt (min mz mzo))))))), (aP, .inl (cI, 16, .inl (va_cpy Po P 0 0 16))), (aL, .inl (cI, 16, .inl (va_cpy Lo L 0 0 16))), (oSo, .inr (1, [.ref aBo, .int (nI mzo), .ref aPo, .ref aLo, .int (nI cno), .int (nI hso)])), (aBo, .inl (cB, 8192, .inl go)), (aPo, .inl (cI, 16, .inl Po)), (aLo, .inl (cI, 16, .inl Lo))] := hD
  refine lv_aload_n hx hb dX1_copyAround_107 rfl (lv_at hl 2 rfl) ?_
  refine lv_aload_n hx hb dX1_copyAround_108 rfl (lv_at hl 3 rfl) ?_
  refine va_get (D := (dC, dI)) (ci := 1) (v := .int (nI cno)) (C := RX1) (T := TX1) (N := 6) hx hb hts (by decide +kernel) hown hK hP 4 rfl rfl 4 (by decide) (hts (.fieldLink RX1 26 "GlulxHeads$State" "blockCount" "I") (by decide +kernel)) (fun _ h9 => h9) rfl dX1_copyAround_109 ?_
  refine va_put (D := (dC, dI)) (ci := 1) (v := .int (nI cno)) (ty := .int) (C := RX1) (T := TX1) (N := 6) hx hb hts (by decide +kernel) tyX1 tyX1_ok nmX1 hown hK hP hD hS 0 rfl rfl 4 (by decide) (hts (.fieldLink RX1 26 "GlulxHeads$State" "blockCount" "I") (by decide +kernel)) (fun _ h9 => h9) rfl (by decide +kernel) rfl rfl (Nat.le_of_ble_eq_true rfl) dX1_copyAround_112 (fun H locs hP hD hS => ?_)
  have hP : va_P (dC, dI) vwCl [(oS, .inr (1, [.ref aB, .int (nI mzo), .ref aP, .ref aL, .int (nI cno), .int (nI hs)])), (aB, .inl (cB, 8192, .inl (va_cpy go (va_cpy go g 0 0 (max 0 (min kf (max 0 (min kt (min mz mzo)))))) (max 0 (min kt (min mz mzo))) (max 0 (min kt (min mz mzo))) (8192 - (max 0 (min kt (min mz mzo))))))), (aP, .inl (cI, 16, .inl (va_cpy Po P 0 0 16))), (aL, .inl (cI, 16, .inl (va_cpy Lo L 0 0 16))), (oSo, .inr (1, [.ref aBo, .int (nI mzo), .ref aPo, .ref aLo, .int (nI cno), .int (nI hso)])), (aBo, .inl (cB, 8192, .inl go)), (aPo, .inl (cI, 16, .inl Po)), (aLo, .inl (cI, 16, .inl Lo))] H := hP
  have hD : va_D A [(oS, .inr (1, [.ref aB, .int (nI mzo), .ref aP, .ref aL, .int (nI cno), .int (nI hs)])), (aB, .inl (cB, 8192, .inl (va_cpy go (va_cpy go g 0 0 (max 0 (min kf (max 0 (min kt (min mz mzo)))))) (max 0 (min kt (min mz mzo))) (max 0 (min kt (min mz mzo))) (8192 - (max 0 (min kt (min mz mzo))))))), (aP, .inl (cI, 16, .inl (va_cpy Po P 0 0 16))), (aL, .inl (cI, 16, .inl (va_cpy Lo L 0 0 16))), (oSo, .inr (1, [.ref aBo, .int (nI mzo), .ref aPo, .ref aLo, .int (nI cno), .int (nI hso)])), (aBo, .inl (cB, 8192, .inl go)), (aPo, .inl (cI, 16, .inl Po)), (aLo, .inl (cI, 16, .inl Lo))] := hD
  refine lv_aload_n hx hb dX1_copyAround_115 rfl (lv_at hl 2 rfl) ?_
  refine lv_aload_n hx hb dX1_copyAround_116 rfl (lv_at hl 3 rfl) ?_
  refine va_get (D := (dC, dI)) (ci := 1) (v := .int (nI hso)) (C := RX1) (T := TX1) (N := 6) hx hb hts (by decide +kernel) hown hK hP 4 rfl rfl 5 (by decide) (hts (.fieldLink RX1 29 "GlulxHeads$State" "heapStart" "I") (by decide +kernel)) (fun _ h9 => h9) rfl dX1_copyAround_117 ?_
  refine va_put (D := (dC, dI)) (ci := 1) (v := .int (nI hso)) (ty := .int) (C := RX1) (T := TX1) (N := 6) hx hb hts (by decide +kernel) tyX1 tyX1_ok nmX1 hown hK hP hD hS 0 rfl rfl 5 (by decide) (hts (.fieldLink RX1 29 "GlulxHeads$State" "heapStart" "I") (by decide +kernel)) (fun _ h9 => h9) rfl (by decide +kernel) rfl rfl (Nat.le_of_ble_eq_true rfl) dX1_copyAround_120 (fun H locs hP hD hS => ?_)
  have hP : va_P (dC, dI) vwCl [(oS, .inr (1, [.ref aB, .int (nI mzo), .ref aP, .ref aL, .int (nI cno), .int (nI hso)])), (aB, .inl (cB, 8192, .inl (va_cpy go (va_cpy go g 0 0 (max 0 (min kf (max 0 (min kt (min mz mzo)))))) (max 0 (min kt (min mz mzo))) (max 0 (min kt (min mz mzo))) (8192 - (max 0 (min kt (min mz mzo))))))), (aP, .inl (cI, 16, .inl (va_cpy Po P 0 0 16))), (aL, .inl (cI, 16, .inl (va_cpy Lo L 0 0 16))), (oSo, .inr (1, [.ref aBo, .int (nI mzo), .ref aPo, .ref aLo, .int (nI cno), .int (nI hso)])), (aBo, .inl (cB, 8192, .inl go)), (aPo, .inl (cI, 16, .inl Po)), (aLo, .inl (cI, 16, .inl Lo))] H := hP
  have hD : va_D A [(oS, .inr (1, [.ref aB, .int (nI mzo), .ref aP, .ref aL, .int (nI cno), .int (nI hso)])), (aB, .inl (cB, 8192, .inl (va_cpy go (va_cpy go g 0 0 (max 0 (min kf (max 0 (min kt (min mz mzo)))))) (max 0 (min kt (min mz mzo))) (max 0 (min kt (min mz mzo))) (8192 - (max 0 (min kt (min mz mzo))))))), (aP, .inl (cI, 16, .inl (va_cpy Po P 0 0 16))), (aL, .inl (cI, 16, .inl (va_cpy Lo L 0 0 16))), (oSo, .inr (1, [.ref aBo, .int (nI mzo), .ref aPo, .ref aLo, .int (nI cno), .int (nI hso)])), (aBo, .inl (cB, 8192, .inl go)), (aPo, .inl (cI, 16, .inl Po)), (aLo, .inl (cI, 16, .inl Lo))] := hD
  have hP9 := hP.sub (ws' := [(oS, .inr (1, [.ref aB, .int (nI mzo), .ref aP, .ref aL, .int (nI cno), .int (nI hso)])), (aB, .inl (cB, 8192, .inl (va_cpy go (va_cpy go g 0 0 (max 0 (min kf (max 0 (min kt (min mz mzo)))))) (max 0 (min kt (min mz mzo))) (max 0 (min kt (min mz mzo))) (8192 - (max 0 (min kt (min mz mzo))))))), (aP, .inl (cI, 16, .inl (va_cpy Po P 0 0 16))), (aL, .inl (cI, 16, .inl (va_cpy Lo L 0 0 16))), (oSo, .inr (1, [.ref aBo, .int (nI mzo), .ref aPo, .ref aLo, .int (nI cno), .int (nI hso)])), (aBo, .inl (cB, 8192, .inl go)), (aPo, .inl (cI, 16, .inl Po)), (aLo, .inl (cI, 16, .inl Lo))]) [0, 1, 2, 3, 4, 5, 6, 7] rfl
  have hD9 := hD.sub (ws' := [(oS, .inr (1, [.ref aB, .int (nI mzo), .ref aP, .ref aL, .int (nI cno), .int (nI hso)])), (aB, .inl (cB, 8192, .inl (va_cpy go (va_cpy go g 0 0 (max 0 (min kf (max 0 (min kt (min mz mzo)))))) (max 0 (min kt (min mz mzo))) (max 0 (min kt (min mz mzo))) (8192 - (max 0 (min kt (min mz mzo))))))), (aP, .inl (cI, 16, .inl (va_cpy Po P 0 0 16))), (aL, .inl (cI, 16, .inl (va_cpy Lo L 0 0 16))), (oSo, .inr (1, [.ref aBo, .int (nI mzo), .ref aPo, .ref aLo, .int (nI cno), .int (nI hso)])), (aBo, .inl (cB, 8192, .inl go)), (aPo, .inl (cI, 16, .inl Po)), (aLo, .inl (cI, 16, .inl Lo))]) [0, 1, 2, 3, 4, 5, 6, 7] (by decide) rfl
  exact W.vret hx hb hr (fun t ht hW => ⟨⟨((va_cpy go (va_cpy go g 0 0 (max 0 (min kf (max 0 (min kt (min mz mzo)))))) (max 0 (min kt (min mz mzo))) (max 0 (min kt (min mz mzo))) (8192 - (max 0 (min kt (min mz mzo))))), (va_cpy Po P 0 0 16), (va_cpy Lo L 0 0 16)), rfl, ⟨mOk_cpy hM hO, cpy16, cpy16⟩, by rw [ht]; exact hP9, hD9⟩, hS.F ht⟩) hS.2.2 dX1_copyAround_123
set_option maxHeartbeats 4000000 in
set_option maxRecDepth 100000 in
theorem c_X1_copyFrom (l : Launch) (dC : Nat → ClassId) (dI : Nat → Nat → Nat) (cB cI cJ : ClassId) (sz : Nat) (oS : Nat) (aB : Nat) (aP : Nat) (aL : Nat) (mz : Nat) (cn : Nat) (hs : Nat) (g : Nat → Int32) (P : Nat → Int32) (L : Nat → Int32) (oSo : Nat) (aBo : Nat) (aPo : Nat) (aLo : Nat) (mzo : Nat) (cno : Nat) (hso : Nat) (go : Nat → Int32) (Po : Nat → Int32) (Lo : Nat → Int32) (mem : Nat → Nat) (memo : Nat → Nat) (hM : mOk g mz mem) (hO : mOk go mzo memo) : Met l yX1_copyFrom wsX1_copyFrom ({ frames := 2, cells := 0, slots := 0, locals := 51 }) (va_Pc [.ref oS, .ref oSo] (wPre dC dI cB cI cJ sz [(oS, .inr (1, [.ref aB, .int (nI mz), .ref aP, .ref aL, .int (nI cn), .int (nI hs)])), (aB, .inl (cB, 8192, .inl g)), (aP, .inl (cI, 16, .inl P)), (aL, .inl (cI, 16, .inl L)), (oSo, .inr (1, [.ref aBo, .int (nI mzo), .ref aPo, .ref aLo, .int (nI cno), .int (nI hso)])), (aBo, .inl (cB, 8192, .inl go)), (aPo, .inl (cI, 16, .inl Po)), (aLo, .inl (cI, 16, .inl Lo))])) (va_Qv (fun (u : (Nat → Int32) × (Nat → Int32) × (Nat → Int32)) => mOk u.1 mzo memo ∧ (∀ i, i < 16 → u.2.1 i = Po i) ∧ (∀ i, i < 16 → u.2.2 i = Lo i)) (fun (u : (Nat → Int32) × (Nat → Int32) × (Nat → Int32)) => wPost dC dI (va_A [(oS, .inr (1, [.ref aB, .int (nI mz), .ref aP, .ref aL, .int (nI cn), .int (nI hs)])), (aB, .inl (cB, 8192, .inl g)), (aP, .inl (cI, 16, .inl P)), (aL, .inl (cI, 16, .inl L)), (oSo, .inr (1, [.ref aBo, .int (nI mzo), .ref aPo, .ref aLo, .int (nI cno), .int (nI hso)])), (aBo, .inl (cB, 8192, .inl go)), (aPo, .inl (cI, 16, .inl Po)), (aLo, .inl (cI, 16, .inl Lo))] sz) [(oS, .inr (1, [.ref aB, .int (nI mzo), .ref aP, .ref aL, .int (nI cno), .int (nI hso)])), (aB, .inl (cB, 8192, .inl u.1)), (aP, .inl (cI, 16, .inl u.2.1)), (aL, .inl (cI, 16, .inl u.2.2)), (oSo, .inr (1, [.ref aBo, .int (nI mzo), .ref aPo, .ref aLo, .int (nI cno), .int (nI hso)])), (aBo, .inl (cB, 8192, .inl go)), (aPo, .inl (cI, 16, .inl Po)), (aLo, .inl (cI, 16, .inl Lo))]) (va_A [(oS, .inr (1, [.ref aB, .int (nI mz), .ref aP, .ref aL, .int (nI cn), .int (nI hs)])), (aB, .inl (cB, 8192, .inl g)), (aP, .inl (cI, 16, .inl P)), (aL, .inl (cI, 16, .inl L)), (oSo, .inr (1, [.ref aBo, .int (nI mzo), .ref aPo, .ref aLo, .int (nI cno), .int (nI hso)])), (aBo, .inl (cB, 8192, .inl go)), (aPo, .inl (cI, 16, .inl Po)), (aLo, .inl (cI, 16, .inl Lo))] sz)) 0 0 (va_A [(oS, .inr (1, [.ref aB, .int (nI mz), .ref aP, .ref aL, .int (nI cn), .int (nI hs)])), (aB, .inl (cB, 8192, .inl g)), (aP, .inl (cI, 16, .inl P)), (aL, .inl (cI, 16, .inl L)), (oSo, .inr (1, [.ref aBo, .int (nI mzo), .ref aPo, .ref aLo, .int (nI cno), .int (nI hso)])), (aBo, .inl (cB, 8192, .inl go)), (aPo, .inl (cI, 16, .inl Po)), (aLo, .inl (cI, 16, .inl Lo))] sz) := by
  refine Met.ofW (cc := cX1_copyFrom) (maxL := 2) (ret := none) (by decide) rfl ?_
  intro p e s m args below meth c s₁ B hml hv
  obtain ⟨rfl, hsz, hP, hK, hD0, hN⟩ := hv
  have hx := B.exec
  have hb := B.bytes
  have hr := B.returns
  have hts := atoms_spec (ws := wsX1_copyFrom) B.pre
  have hown : s.vm.findClass RX1 = some m.cls := findClass_of_methodNamed B.named
  have hlocks := B.notSynchronized
  subst hsz
  have hD := hD0.self (sz := s.heap.size)
  generalize hAe : va_A [(oS, .inr (1, [.ref aB, .int (nI mz), .ref aP, .ref aL, .int (nI cn), .int (nI hs)])), (aB, .inl (cB, 8192, .inl g)), (aP, .inl (cI, 16, .inl P)), (aL, .inl (cI, 16, .inl L)), (oSo, .inr (1, [.ref aBo, .int (nI mzo), .ref aPo, .ref aLo, .int (nI cno), .int (nI hso)])), (aBo, .inl (cB, 8192, .inl go)), (aPo, .inl (cI, 16, .inl Po)), (aLo, .inl (cI, 16, .inl Lo))] s.heap.size = A at hD ⊢
  have hA : ∀ q : Nat, s.heap.size ≤ q → A q := fun q h => by rw [← hAe]; exact Or.inr h
  have hS : va_S A s.heap s.heap [] := va_S.rf
  have hP : va_P (dC, dI) vwCl [(oS, .inr (1, [.ref aB, .int (nI mz), .ref aP, .ref aL, .int (nI cn), .int (nI hs)])), (aB, .inl (cB, 8192, .inl g)), (aP, .inl (cI, 16, .inl P)), (aL, .inl (cI, 16, .inl L)), (oSo, .inr (1, [.ref aBo, .int (nI mzo), .ref aPo, .ref aLo, .int (nI cno), .int (nI hso)])), (aBo, .inl (cB, 8192, .inl go)), (aPo, .inl (cI, 16, .inl Po)), (aLo, .inl (cI, 16, .inl Lo))] s.heap := hP
  have hl := lv_entry ([.ref oS, .ref oSo]) (n := 2) (Nat.le_of_ble_eq_true rfl)
  rw [lg_entry_eq]
  generalize (lg_sl ([.ref oS, .ref oSo]) ++ List.replicate (2 - (lg_sl ([.ref oS, .ref oSo])).length) Slot.unset).toArray = ls at hl ⊢
  have hl : lv_has ls 2 [(0, .ref oS), (1, .ref oSo)] := hl
  refine lv_aload_n hx hb dX1_copyFrom_0 rfl (lv_at hl 0 rfl) ?_
  refine lv_aload_n hx hb dX1_copyFrom_1 rfl (lv_at hl 1 rfl) ?_
  refine lv_iconst (v := nI 0) hx hb dX1_copyFrom_2 (by decide) ?_
  refine lv_iconst (v := nI 0) hx hb dX1_copyFrom_3 (by decide) ?_
  have hPc := hP.sub (ws' := [(oS, .inr (1, [.ref aB, .int (nI mz), .ref aP, .ref aL, .int (nI cn), .int (nI hs)])), (aB, .inl (cB, 8192, .inl g)), (aP, .inl (cI, 16, .inl P)), (aL, .inl (cI, 16, .inl L)), (oSo, .inr (1, [.ref aBo, .int (nI mzo), .ref aPo, .ref aLo, .int (nI cno), .int (nI hso)])), (aBo, .inl (cB, 8192, .inl go)), (aPo, .inl (cI, 16, .inl Po)), (aLo, .inl (cI, 16, .inl Lo))]) [0, 1, 2, 3, 4, 5, 6, 7] rfl
  have hDc := hD.sub (ws' := [(oS, .inr (1, [.ref aB, .int (nI mz), .ref aP, .ref aL, .int (nI cn), .int (nI hs)])), (aB, .inl (cB, 8192, .inl g)), (aP, .inl (cI, 16, .inl P)), (aL, .inl (cI, 16, .inl L)), (oSo, .inr (1, [.ref aBo, .int (nI mzo), .ref aPo, .ref aLo, .int (nI cno), .int (nI hso)])), (aBo, .inl (cB, 8192, .inl go)), (aPo, .inl (cI, 16, .inl Po)), (aLo, .inl (cI, 16, .inl Lo))]) [0, 1, 2, 3, 4, 5, 6, 7] (by decide) rfl
  have hFc := va_free (wc := [(oS, .inr (1, [.ref aB, .int (nI mz), .ref aP, .ref aL, .int (nI cn), .int (nI hs)])), (aB, .inl (cB, 8192, .inl g)), (aP, .inl (cI, 16, .inl P)), (aL, .inl (cI, 16, .inl L)), (oSo, .inr (1, [.ref aBo, .int (nI mzo), .ref aPo, .ref aLo, .int (nI cno), .int (nI hso)])), (aBo, .inl (cB, 8192, .inl go)), (aPo, .inl (cI, 16, .inl Po)), (aLo, .inl (cI, 16, .inl Lo))]) hD hS hA [0, 1, 2, 3, 4, 5, 6, 7] rfl
  refine va_callv (va_runV (As := [.ref oSo, .int (nI 0), .int (nI 0)]) (rest := []) ⟨hx, hb, hml, hown, hts⟩ (c_X1_copyAround l dC dI cB cI cJ s.heap.size oS aB aP aL mz cn hs g P L oSo aBo aPo aLo mzo cno hso go Po Lo mem memo 0 0 hM hO (by omega) (by omega)) (cwV 3 hts gX1_copyFrom_X1_copyAround rfl rfl rfl (by decide +kernel) ⟨Nat.le_of_ble_eq_true rfl, Nat.le_of_ble_eq_true rfl⟩) ⟨wBlind, va_recv hK hPc (ci := 1) (q0 := 0) rfl rfl, wGo hK hPc hDc hN⟩ rfl rfl hl.1 rfl (lv_room (Nat.le_of_ble_eq_true rfl)) dX1_copyFrom_4 ⟨show 0 ≤ 0 by decide, show 0 ≤ 0 by decide⟩) hS (fun q _ h => hFc q h) hFc (fun u t H1 locs ht hvm w_3 hB hz1 hk1 hS => ?_)
  obtain ⟨g2_4, P2_5, L2_6⟩ := u
  obtain ⟨hP1, hD1⟩ := hB
  rw [ht] at hP1
  try dsimp only at w_3
  obtain ⟨hP, hD⟩ := va_join (wr := []) (w1 := [(oS, .inr (1, [.ref aB, .int (nI mzo), .ref aP, .ref aL, .int (nI cno), .int (nI hso)])), (aB, .inl (cB, 8192, .inl g2_4)), (aP, .inl (cI, 16, .inl P2_5)), (aL, .inl (cI, 16, .inl L2_6)), (oSo, .inr (1, [.ref aBo, .int (nI mzo), .ref aPo, .ref aLo, .int (nI cno), .int (nI hso)])), (aBo, .inl (cB, 8192, .inl go)), (aPo, .inl (cI, 16, .inl Po)), (aLo, .inl (cI, 16, .inl Lo))]) hP hD [0, 1, 2, 3, 4, 5, 6, 7] [] rfl rfl (by decide) (by decide) hk1 hFc hP1 hD1
  clear hPc hDc hFc hP1 hD1 hz1 hk1 hvm
  generalize H1 = H at hP hS ⊢
  have hP : va_P (dC, dI) vwCl [(oS, .inr (1, [.ref aB, .int (nI mzo), .ref aP, .ref aL, .int (nI cno), .int (nI hso)])), (aB, .inl (cB, 8192, .inl g2_4)), (aP, .inl (cI, 16, .inl P2_5)), (aL, .inl (cI, 16, .inl L2_6)), (oSo, .inr (1, [.ref aBo, .int (nI mzo), .ref aPo, .ref aLo, .int (nI cno), .int (nI hso)])), (aBo, .inl (cB, 8192, .inl go)), (aPo, .inl (cI, 16, .inl Po)), (aLo, .inl (cI, 16, .inl Lo))] H := hP
  have hD : va_D A [(oS, .inr (1, [.ref aB, .int (nI mzo), .ref aP, .ref aL, .int (nI cno), .int (nI hso)])), (aB, .inl (cB, 8192, .inl g2_4)), (aP, .inl (cI, 16, .inl P2_5)), (aL, .inl (cI, 16, .inl L2_6)), (oSo, .inr (1, [.ref aBo, .int (nI mzo), .ref aPo, .ref aLo, .int (nI cno), .int (nI hso)])), (aBo, .inl (cB, 8192, .inl go)), (aPo, .inl (cI, 16, .inl Po)), (aLo, .inl (cI, 16, .inl Lo))] := hD
  have hP9 := hP.sub (ws' := [(oS, .inr (1, [.ref aB, .int (nI mzo), .ref aP, .ref aL, .int (nI cno), .int (nI hso)])), (aB, .inl (cB, 8192, .inl g2_4)), (aP, .inl (cI, 16, .inl P2_5)), (aL, .inl (cI, 16, .inl L2_6)), (oSo, .inr (1, [.ref aBo, .int (nI mzo), .ref aPo, .ref aLo, .int (nI cno), .int (nI hso)])), (aBo, .inl (cB, 8192, .inl go)), (aPo, .inl (cI, 16, .inl Po)), (aLo, .inl (cI, 16, .inl Lo))]) [0, 1, 2, 3, 4, 5, 6, 7] rfl
  have hD9 := hD.sub (ws' := [(oS, .inr (1, [.ref aB, .int (nI mzo), .ref aP, .ref aL, .int (nI cno), .int (nI hso)])), (aB, .inl (cB, 8192, .inl g2_4)), (aP, .inl (cI, 16, .inl P2_5)), (aL, .inl (cI, 16, .inl L2_6)), (oSo, .inr (1, [.ref aBo, .int (nI mzo), .ref aPo, .ref aLo, .int (nI cno), .int (nI hso)])), (aBo, .inl (cB, 8192, .inl go)), (aPo, .inl (cI, 16, .inl Po)), (aLo, .inl (cI, 16, .inl Lo))]) [0, 1, 2, 3, 4, 5, 6, 7] (by decide) rfl
  exact W.vret hx hb hr (fun t ht hW => ⟨⟨(g2_4, P2_5, L2_6), rfl, ⟨by rw [← keepM_0 (mem := mem) (m := mz) (memo := memo) (mo := mzo)]; exact w_3.1, w_3.2.1, w_3.2.2⟩, by rw [ht]; exact hP9, hD9⟩, hS.F ht⟩) hS.2.2 dX1_copyFrom_7
