theorem word_s {df : Nat → Int32} {len j i : Nat} {fb : Nat → Nat} {v x : Int32} (h : ∀ q, q < len → df q = nI (if j ≤ q ∧ q < j + i then uB v / 2 ^ (24 - 8 * (q - j)) % 256 else fb q)) (hi : i < 4) (hx : x = nI (uB v / 2 ^ (24 - 8 * (j + i - j)) % 256)) : ∀ q, q < len → upd df (j + i) x q = nI (if j ≤ q ∧ q < j + (i + 1) then uB v / 2 ^ (24 - 8 * (q - j)) % 256 else fb q) := by
  intro q hq
  by_cases z : q = j + i
  · subst z; rw [pk_us, if_pos (by omega)]; exact hx
  · rw [pk_un z, h q hq]
    by_cases y : j ≤ q ∧ q < j + i
    · rw [if_pos y, if_pos (by omega)]
    · rw [if_neg y, if_neg (by omega)]
set_option maxHeartbeats 4000000 in
set_option maxRecDepth 100000 in
theorem c_X4_in (l : Launch) (dC : Nat → ClassId) (dI : Nat → Nat → Nat) (cB cI cJ : ClassId) (sz : Nat) (v : Int64) (lo : Int64) (hi : Int64)  : Met l yX4_in wsX4_in ({ frames := 0, cells := 0, slots := 0, locals := 0 }) (va_Pc [.long v, .long lo, .long hi] (wPre dC dI cB cI cJ sz [])) (va_Qi (fun (r : Int32) (u : Unit) => r = nI (if lo.toInt ≤ v.toInt ∧ v.toInt ≤ hi.toInt then 1 else 0)) (fun (u : Unit) => wPost dC dI (va_A [] sz) []) (va_A [] sz)) 0 0 (va_A [] sz) := by
  refine Met.ofW (cc := cX4_in) (maxL := 6) (ret := (some .boolean)) (by decide) rfl ?_
  intro p e s m args below meth c s₁ B hml hv
  obtain ⟨rfl, hsz, hP, hK, hD0, hN⟩ := hv
  have hx := B.exec
  have hb := B.bytes
  have hr := B.returns
  have hts := atoms_spec (ws := wsX4_in) B.pre
  have hown : s.vm.findClass RX4 = some m.cls := findClass_of_methodNamed B.named
  have hlocks := B.notSynchronized
  subst hsz
  have hD := hD0.self (sz := s.heap.size)
  generalize hAe : va_A [] s.heap.size = A at hD ⊢
  have hA : ∀ q : Nat, s.heap.size ≤ q → A q := fun q h => by rw [← hAe]; exact Or.inr h
  have hS : va_S A s.heap s.heap [] := va_S.rf
  have hP : va_P (dC, dI) vwCl [] s.heap := hP
  have hl := lv_entry ([.long v, .long lo, .long hi]) (n := 6) (Nat.le_of_ble_eq_true rfl)
  rw [lg_entry_eq]
  generalize (lg_sl ([.long v, .long lo, .long hi]) ++ List.replicate (6 - (lg_sl ([.long v, .long lo, .long hi])).length) Slot.unset).toArray = ls at hl ⊢
  have hl : lv_has ls 6 [(0, .long v), (2, .long lo), (4, .long hi)] := hl
  refine lv_lload_n hx hb dX4_in_0 rfl (lv_at hl 0 rfl) ?_
  refine lv_lload_n hx hb dX4_in_1 rfl (lv_at hl 1 rfl) ?_
  refine wx_l_lt (tgt := 17) hx hb dX4_in_2 dX4_in_3 (by decide) (fun c_1 => ?_) (fun c_1 => ?_)
  · skip
    rw [Int64.lt_iff_toInt_lt] at c_1
    refine lv_iconst (v := nI 0) hx hb dX4_in_17 (by decide) ?_
    have hP9 := hP.sub (ws' := []) [] rfl
    have hD9 := hD.sub (ws' := []) [] (by decide) rfl
    exact W.zret (v := nI 0) hx hb hr (by first | rfl | decide) (fun t ht hW => ⟨⟨(nI 0), (), rfl, by rw [if_neg (by omega)], by rw [ht]; exact hP9, hD9⟩, hS.F ht⟩) hS.2.2 dX4_in_18
  · skip
    rw [Int64.lt_iff_toInt_lt] at c_1
    refine lv_lload_n hx hb dX4_in_6 rfl (lv_at hl 0 rfl) ?_
    refine lv_lload hx hb dX4_in_7 (lv_at hl 2 rfl) ?_
    refine wx_l_gt (tgt := 17) hx hb dX4_in_9 dX4_in_10 (by decide) (fun c_2 => ?_) (fun c_2 => ?_)
    · skip
      rw [Int64.lt_iff_toInt_lt] at c_2
      refine lv_iconst (v := nI 0) hx hb dX4_in_17 (by decide) ?_
      have hP9 := hP.sub (ws' := []) [] rfl
      have hD9 := hD.sub (ws' := []) [] (by decide) rfl
      exact W.zret (v := nI 0) hx hb hr (by first | rfl | decide) (fun t ht hW => ⟨⟨(nI 0), (), rfl, by rw [if_neg (by omega)], by rw [ht]; exact hP9, hD9⟩, hS.F ht⟩) hS.2.2 dX4_in_18
    · skip
      rw [Int64.lt_iff_toInt_lt] at c_2
      refine lv_iconst (v := nI 1) hx hb dX4_in_13 (by decide) ?_
      refine lv_goto (tgt := 18) hx hb dX4_in_14 (by decide) ?_
      have hP9 := hP.sub (ws' := []) [] rfl
      have hD9 := hD.sub (ws' := []) [] (by decide) rfl
      exact W.zret (v := nI 1) hx hb hr (by first | rfl | decide) (fun t ht hW => ⟨⟨(nI 1), (), rfl, by rw [if_pos (by omega)], by rw [ht]; exact hP9, hD9⟩, hS.F ht⟩) hS.2.2 dX4_in_18
set_option maxHeartbeats 4000000 in
set_option maxRecDepth 100000 in
theorem c_X4_init (l : Launch) (dC : Nat → ClassId) (dI : Nat → Nat → Nat) (cB cI cJ : ClassId) (sz : Nat) (oD : Nat)  : Met l yX4_init wsX4_init ({ frames := 1, cells := 7, slots := 31793, locals := 20 }) (va_Pc [.ref oD] (wPre dC dI cB cI cJ sz [(oD, .inr (4, [.int (nI 0), .null, .int (nI 0), .int (nI 0), .null, .int (nI 0), .null, .int (nI 0), .int (nI 0), .int (nI 0), .null, .int (nI 0), .int (nI 0), .null, .null, .int (nI 0), .int (nI 0), .int (nI 0), .int (nI 0), .int (nI 0), .null]))])) (va_Qv (fun (u : Nat × Nat × Nat × Nat × Nat × Nat × Nat) => True) (fun (u : Nat × Nat × Nat × Nat × Nat × Nat × Nat) => wPost dC dI (va_A [(oD, .inr (4, [.int (nI 0), .null, .int (nI 0), .int (nI 0), .null, .int (nI 0), .null, .int (nI 0), .int (nI 0), .int (nI 0), .null, .int (nI 0), .int (nI 0), .null, .null, .int (nI 0), .int (nI 0), .int (nI 0), .int (nI 0), .int (nI 0), .null]))] sz) [(oD, .inr (4, [.int (nI 0), .ref u.1, .int (nI 0), .int (nI 0), .ref u.2.1, .int (nI 0), .ref u.2.2.1, .int (nI 0), .int (nI 0), .int (nI 0), .ref u.2.2.2.1, .int (nI 0), .int (nI 0), .ref u.2.2.2.2.1, .ref u.2.2.2.2.2.1, .int (nI 0), .int (nI 0), .int (nI 0), .int (nI 0), .int (nI 0), .ref u.2.2.2.2.2.2])), (u.1, .inl (cI, 3000, .inl (fun _ => 0))), (u.2.1, .inl (cJ, 9, .inr (.inl (fun _ => 0)))), (u.2.2.1, .inl (cI, 4096, .inl (fun _ => 0))), (u.2.2.2.1, .inl (cI, 8192, .inl (fun _ => 0))), (u.2.2.2.2.1, .inl (cI, 16, .inl (fun _ => 0))), (u.2.2.2.2.2.1, .inl (cI, 16, .inl (fun _ => 0))), (u.2.2.2.2.2.2, .inl (cI, 16464, .inl (fun _ => 0)))]) (va_A [(oD, .inr (4, [.int (nI 0), .null, .int (nI 0), .int (nI 0), .null, .int (nI 0), .null, .int (nI 0), .int (nI 0), .int (nI 0), .null, .int (nI 0), .int (nI 0), .null, .null, .int (nI 0), .int (nI 0), .int (nI 0), .int (nI 0), .int (nI 0), .null]))] sz)) 7 31793 (va_A [(oD, .inr (4, [.int (nI 0), .null, .int (nI 0), .int (nI 0), .null, .int (nI 0), .null, .int (nI 0), .int (nI 0), .int (nI 0), .null, .int (nI 0), .int (nI 0), .null, .null, .int (nI 0), .int (nI 0), .int (nI 0), .int (nI 0), .int (nI 0), .null]))] sz) := by
  refine Met.ofW (cc := cX4_init) (maxL := 1) (ret := none) (by decide) rfl ?_
  intro p e s m args below meth c s₁ B hml hv
  obtain ⟨rfl, hsz, hP, hK, hD0, hN⟩ := hv
  have hx := B.exec
  have hb := B.bytes
  have hr := B.returns
  have hts := atoms_spec (ws := wsX4_init) B.pre
  have hown : s.vm.findClass RX4 = some m.cls := findClass_of_methodNamed B.named
  have hlocks := B.notSynchronized
  have hin : meth.name = "<init>" := (name_of_methodNamed B.named B.method).1
  subst hsz
  have hD := hD0.self (sz := s.heap.size)
  generalize hAe : va_A [(oD, .inr (4, [.int (nI 0), .null, .int (nI 0), .int (nI 0), .null, .int (nI 0), .null, .int (nI 0), .int (nI 0), .int (nI 0), .null, .int (nI 0), .int (nI 0), .null, .null, .int (nI 0), .int (nI 0), .int (nI 0), .int (nI 0), .int (nI 0), .null]))] s.heap.size = A at hD ⊢
  have hA : ∀ q : Nat, s.heap.size ≤ q → A q := fun q h => by rw [← hAe]; exact Or.inr h
  have hS : va_S A s.heap s.heap [] := va_S.rf
  have hP : va_P (dC, dI) vwCl [(oD, .inr (4, [.int (nI 0), .null, .int (nI 0), .int (nI 0), .null, .int (nI 0), .null, .int (nI 0), .int (nI 0), .int (nI 0), .null, .int (nI 0), .int (nI 0), .null, .null, .int (nI 0), .int (nI 0), .int (nI 0), .int (nI 0), .int (nI 0), .null]))] s.heap := hP
  have hl := lv_entry ([.ref oD]) (n := 1) (Nat.le_of_ble_eq_true rfl)
  rw [lg_entry_eq]
  generalize (lg_sl ([.ref oD]) ++ List.replicate (1 - (lg_sl ([.ref oD])).length) Slot.unset).toArray = ls at hl ⊢
  have hl : lv_has ls 1 [(0, .ref oD)] := hl
  refine lv_aload_n hx hb dX4_init_0 rfl (lv_at hl 0 rfl) ?_
  refine W.objInit hx hb hown (hts (.methodLink RX4 1 objectInit) (by decide +kernel)) (hts (.instanceMethod objectInit) (by decide +kernel)) (hts (.code objectInit ⟨#[0xb1]⟩ 1 none) (List.mem_of_getElem? (i := 3) rfl)) rfl (by rw [hml]; exact hl.1) rfl dX4_init_1 (Nat.le_of_ble_eq_true rfl) (Nat.le_of_ble_eq_true rfl) ?_
  refine W.eq (g2 := F0 m 4 ls []) rfl ?_
  refine lv_aload_n hx hb dX4_init_4 rfl (lv_at hl 0 rfl) ?_
  refine lv_sipush (v := nI 3000) hx hb dX4_init_5 (by decide) ?_
  refine va_newa (a0 := (3000, .inl (fun _ => 0))) (ty := .int) (atype := .int) (n := nI 3000) (N' := 3000) hx hb (hts (.arrayClass .int) (by decide +kernel)) rfl hK hP hD hS hA (wx_a0i 3000) (nI_pos (by decide)) (nI_clamp (by decide)) (by decide) (show 1 ≤ 7 by decide) (show 3000 ≤ 31793 by decide) dX4_init_8 (fun q_1 cA H hK hP hD hS => ?_)
  obtain rfl := wx_uni hK (i := 1) (j := 3) rfl rfl rfl
  have hK := hK.sub (tys' := tyL cB cI cJ) [0, 1, 2] rfl
  have hP : va_P (dC, dI) vwCl [(oD, .inr (4, [.int (nI 0), .null, .int (nI 0), .int (nI 0), .null, .int (nI 0), .null, .int (nI 0), .int (nI 0), .int (nI 0), .null, .int (nI 0), .int (nI 0), .null, .null, .int (nI 0), .int (nI 0), .int (nI 0), .int (nI 0), .int (nI 0), .null])), (q_1, .inl (cI, 3000, .inl (fun _ => 0)))] H := hP
  have hD : va_D A [(oD, .inr (4, [.int (nI 0), .null, .int (nI 0), .int (nI 0), .null, .int (nI 0), .null, .int (nI 0), .int (nI 0), .int (nI 0), .null, .int (nI 0), .int (nI 0), .null, .null, .int (nI 0), .int (nI 0), .int (nI 0), .int (nI 0), .int (nI 0), .null])), (q_1, .inl (cI, 3000, .inl (fun _ => 0)))] := hD
  refine va_putF (D := (dC, dI)) (ci := 4) (v := .ref q_1) (ty := (tyX4 1)) (C := RX4) (T := TX4) (N := 21) hx hb hts (by decide +kernel) tyX4 tyX4_ok nmX4 hown hK hP hD hS 0 rfl rfl 1 (by decide) (hts (.fieldLink RX4 7 "GlulxHeadsModel" "file" "[I") (by decide +kernel)) (fun _ h9 => h9) rfl hin rfl (by decide +kernel) rfl rfl (Nat.le_of_ble_eq_true rfl) dX4_init_10 (fun H locs hP hD hS => ?_)
  have hP : va_P (dC, dI) vwCl [(oD, .inr (4, [.int (nI 0), .ref q_1, .int (nI 0), .int (nI 0), .null, .int (nI 0), .null, .int (nI 0), .int (nI 0), .int (nI 0), .null, .int (nI 0), .int (nI 0), .null, .null, .int (nI 0), .int (nI 0), .int (nI 0), .int (nI 0), .int (nI 0), .null])), (q_1, .inl (cI, 3000, .inl (fun _ => 0)))] H := hP
  have hD : va_D A [(oD, .inr (4, [.int (nI 0), .ref q_1, .int (nI 0), .int (nI 0), .null, .int (nI 0), .null, .int (nI 0), .int (nI 0), .int (nI 0), .null, .int (nI 0), .int (nI 0), .null, .null, .int (nI 0), .int (nI 0), .int (nI 0), .int (nI 0), .int (nI 0), .null])), (q_1, .inl (cI, 3000, .inl (fun _ => 0)))] := hD
  refine lv_aload_n hx hb dX4_init_13 rfl (lv_at hl 0 rfl) ?_
  refine lv_bipush (v := nI 9) hx hb dX4_init_14 (by decide) ?_
  refine va_newa (a0 := (9, .inr (.inl (fun _ => 0)))) (ty := .long) (atype := .long) (n := nI 9) (N' := 9) hx hb (hts (.arrayClass .long) (by decide +kernel)) rfl hK hP hD hS hA (wx_a0l 9) (nI_pos (by decide)) (nI_clamp (by decide)) (by decide) (show 2 ≤ 7 by decide) (show 3009 ≤ 31793 by decide) dX4_init_16 (fun q_2 cA H hK hP hD hS => ?_)
  obtain rfl := wx_uni hK (i := 2) (j := 3) rfl rfl rfl
  have hK := hK.sub (tys' := tyL cB cI cJ) [0, 1, 2] rfl
  have hP : va_P (dC, dI) vwCl [(oD, .inr (4, [.int (nI 0), .ref q_1, .int (nI 0), .int (nI 0), .null, .int (nI 0), .null, .int (nI 0), .int (nI 0), .int (nI 0), .null, .int (nI 0), .int (nI 0), .null, .null, .int (nI 0), .int (nI 0), .int (nI 0), .int (nI 0), .int (nI 0), .null])), (q_1, .inl (cI, 3000, .inl (fun _ => 0))), (q_2, .inl (cJ, 9, .inr (.inl (fun _ => 0))))] H := hP
  have hD : va_D A [(oD, .inr (4, [.int (nI 0), .ref q_1, .int (nI 0), .int (nI 0), .null, .int (nI 0), .null, .int (nI 0), .int (nI 0), .int (nI 0), .null, .int (nI 0), .int (nI 0), .null, .null, .int (nI 0), .int (nI 0), .int (nI 0), .int (nI 0), .int (nI 0), .null])), (q_1, .inl (cI, 3000, .inl (fun _ => 0))), (q_2, .inl (cJ, 9, .inr (.inl (fun _ => 0))))] := hD
  refine va_putF (D := (dC, dI)) (ci := 4) (v := .ref q_2) (ty := (tyX4 4)) (C := RX4) (T := TX4) (N := 21) hx hb hts (by decide +kernel) tyX4 tyX4_ok nmX4 hown hK hP hD hS 0 rfl rfl 4 (by decide) (hts (.fieldLink RX4 13 "GlulxHeadsModel" "head" "[J") (by decide +kernel)) (fun _ h9 => h9) rfl hin rfl (by decide +kernel) rfl rfl (Nat.le_of_ble_eq_true rfl) dX4_init_18 (fun H locs hP hD hS => ?_)
  have hP : va_P (dC, dI) vwCl [(oD, .inr (4, [.int (nI 0), .ref q_1, .int (nI 0), .int (nI 0), .ref q_2, .int (nI 0), .null, .int (nI 0), .int (nI 0), .int (nI 0), .null, .int (nI 0), .int (nI 0), .null, .null, .int (nI 0), .int (nI 0), .int (nI 0), .int (nI 0), .int (nI 0), .null])), (q_1, .inl (cI, 3000, .inl (fun _ => 0))), (q_2, .inl (cJ, 9, .inr (.inl (fun _ => 0))))] H := hP
  have hD : va_D A [(oD, .inr (4, [.int (nI 0), .ref q_1, .int (nI 0), .int (nI 0), .ref q_2, .int (nI 0), .null, .int (nI 0), .int (nI 0), .int (nI 0), .null, .int (nI 0), .int (nI 0), .null, .null, .int (nI 0), .int (nI 0), .int (nI 0), .int (nI 0), .int (nI 0), .null])), (q_1, .inl (cI, 3000, .inl (fun _ => 0))), (q_2, .inl (cJ, 9, .inr (.inl (fun _ => 0))))] := hD
  refine lv_aload_n hx hb dX4_init_21 rfl (lv_at hl 0 rfl) ?_
  refine lv_sipush (v := nI 4096) hx hb dX4_init_22 (by decide) ?_
  refine va_newa (a0 := (4096, .inl (fun _ => 0))) (ty := .int) (atype := .int) (n := nI 4096) (N' := 4096) hx hb (hts (.arrayClass .int) (by decide +kernel)) rfl hK hP hD hS hA (wx_a0i 4096) (nI_pos (by decide)) (nI_clamp (by decide)) (by decide) (show 3 ≤ 7 by decide) (show 7105 ≤ 31793 by decide) dX4_init_25 (fun q_3 cA H hK hP hD hS => ?_)
  obtain rfl := wx_uni hK (i := 1) (j := 3) rfl rfl rfl
  have hK := hK.sub (tys' := tyL cB cI cJ) [0, 1, 2] rfl
  have hP : va_P (dC, dI) vwCl [(oD, .inr (4, [.int (nI 0), .ref q_1, .int (nI 0), .int (nI 0), .ref q_2, .int (nI 0), .null, .int (nI 0), .int (nI 0), .int (nI 0), .null, .int (nI 0), .int (nI 0), .null, .null, .int (nI 0), .int (nI 0), .int (nI 0), .int (nI 0), .int (nI 0), .null])), (q_1, .inl (cI, 3000, .inl (fun _ => 0))), (q_2, .inl (cJ, 9, .inr (.inl (fun _ => 0)))), (q_3, .inl (cI, 4096, .inl (fun _ => 0)))] H := hP
  have hD : va_D A [(oD, .inr (4, [.int (nI 0), .ref q_1, .int (nI 0), .int (nI 0), .ref q_2, .int (nI 0), .null, .int (nI 0), .int (nI 0), .int (nI 0), .null, .int (nI 0), .int (nI 0), .null, .null, .int (nI 0), .int (nI 0), .int (nI 0), .int (nI 0), .int (nI 0), .null])), (q_1, .inl (cI, 3000, .inl (fun _ => 0))), (q_2, .inl (cJ, 9, .inr (.inl (fun _ => 0)))), (q_3, .inl (cI, 4096, .inl (fun _ => 0)))] := hD
  refine va_putF (D := (dC, dI)) (ci := 4) (v := .ref q_3) (ty := (tyX4 6)) (C := RX4) (T := TX4) (N := 21) hx hb hts (by decide +kernel) tyX4 tyX4_ok nmX4 hown hK hP hD hS 0 rfl rfl 6 (by decide) (hts (.fieldLink RX4 17 "GlulxHeadsModel" "loaded" "[I") (by decide +kernel)) (fun _ h9 => h9) rfl hin rfl (by decide +kernel) rfl rfl (Nat.le_of_ble_eq_true rfl) dX4_init_27 (fun H locs hP hD hS => ?_)
  have hP : va_P (dC, dI) vwCl [(oD, .inr (4, [.int (nI 0), .ref q_1, .int (nI 0), .int (nI 0), .ref q_2, .int (nI 0), .ref q_3, .int (nI 0), .int (nI 0), .int (nI 0), .null, .int (nI 0), .int (nI 0), .null, .null, .int (nI 0), .int (nI 0), .int (nI 0), .int (nI 0), .int (nI 0), .null])), (q_1, .inl (cI, 3000, .inl (fun _ => 0))), (q_2, .inl (cJ, 9, .inr (.inl (fun _ => 0)))), (q_3, .inl (cI, 4096, .inl (fun _ => 0)))] H := hP
  have hD : va_D A [(oD, .inr (4, [.int (nI 0), .ref q_1, .int (nI 0), .int (nI 0), .ref q_2, .int (nI 0), .ref q_3, .int (nI 0), .int (nI 0), .int (nI 0), .null, .int (nI 0), .int (nI 0), .null, .null, .int (nI 0), .int (nI 0), .int (nI 0), .int (nI 0), .int (nI 0), .null])), (q_1, .inl (cI, 3000, .inl (fun _ => 0))), (q_2, .inl (cJ, 9, .inr (.inl (fun _ => 0)))), (q_3, .inl (cI, 4096, .inl (fun _ => 0)))] := hD
  refine lv_aload_n hx hb dX4_init_30 rfl (lv_at hl 0 rfl) ?_
  refine lv_sipush (v := nI 8192) hx hb dX4_init_31 (by decide) ?_
  refine va_newa (a0 := (8192, .inl (fun _ => 0))) (ty := .int) (atype := .int) (n := nI 8192) (N' := 8192) hx hb (hts (.arrayClass .int) (by decide +kernel)) rfl hK hP hD hS hA (wx_a0i 8192) (nI_pos (by decide)) (nI_clamp (by decide)) (by decide) (show 4 ≤ 7 by decide) (show 15297 ≤ 31793 by decide) dX4_init_34 (fun q_4 cA H hK hP hD hS => ?_)
  obtain rfl := wx_uni hK (i := 1) (j := 3) rfl rfl rfl
  have hK := hK.sub (tys' := tyL cB cI cJ) [0, 1, 2] rfl
  have hP : va_P (dC, dI) vwCl [(oD, .inr (4, [.int (nI 0), .ref q_1, .int (nI 0), .int (nI 0), .ref q_2, .int (nI 0), .ref q_3, .int (nI 0), .int (nI 0), .int (nI 0), .null, .int (nI 0), .int (nI 0), .null, .null, .int (nI 0), .int (nI 0), .int (nI 0), .int (nI 0), .int (nI 0), .null])), (q_1, .inl (cI, 3000, .inl (fun _ => 0))), (q_2, .inl (cJ, 9, .inr (.inl (fun _ => 0)))), (q_3, .inl (cI, 4096, .inl (fun _ => 0))), (q_4, .inl (cI, 8192, .inl (fun _ => 0)))] H := hP
  have hD : va_D A [(oD, .inr (4, [.int (nI 0), .ref q_1, .int (nI 0), .int (nI 0), .ref q_2, .int (nI 0), .ref q_3, .int (nI 0), .int (nI 0), .int (nI 0), .null, .int (nI 0), .int (nI 0), .null, .null, .int (nI 0), .int (nI 0), .int (nI 0), .int (nI 0), .int (nI 0), .null])), (q_1, .inl (cI, 3000, .inl (fun _ => 0))), (q_2, .inl (cJ, 9, .inr (.inl (fun _ => 0)))), (q_3, .inl (cI, 4096, .inl (fun _ => 0))), (q_4, .inl (cI, 8192, .inl (fun _ => 0)))] := hD
  refine va_putF (D := (dC, dI)) (ci := 4) (v := .ref q_4) (ty := (tyX4 10)) (C := RX4) (T := TX4) (N := 21) hx hb hts (by decide +kernel) tyX4 tyX4_ok nmX4 hown hK hP hD hS 0 rfl rfl 10 (by decide) (hts (.fieldLink RX4 20 "GlulxHeadsModel" "memory" "[I") (by decide +kernel)) (fun _ h9 => h9) rfl hin rfl (by decide +kernel) rfl rfl (Nat.le_of_ble_eq_true rfl) dX4_init_36 (fun H locs hP hD hS => ?_)
  have hP : va_P (dC, dI) vwCl [(oD, .inr (4, [.int (nI 0), .ref q_1, .int (nI 0), .int (nI 0), .ref q_2, .int (nI 0), .ref q_3, .int (nI 0), .int (nI 0), .int (nI 0), .ref q_4, .int (nI 0), .int (nI 0), .null, .null, .int (nI 0), .int (nI 0), .int (nI 0), .int (nI 0), .int (nI 0), .null])), (q_1, .inl (cI, 3000, .inl (fun _ => 0))), (q_2, .inl (cJ, 9, .inr (.inl (fun _ => 0)))), (q_3, .inl (cI, 4096, .inl (fun _ => 0))), (q_4, .inl (cI, 8192, .inl (fun _ => 0)))] H := hP
  have hD : va_D A [(oD, .inr (4, [.int (nI 0), .ref q_1, .int (nI 0), .int (nI 0), .ref q_2, .int (nI 0), .ref q_3, .int (nI 0), .int (nI 0), .int (nI 0), .ref q_4, .int (nI 0), .int (nI 0), .null, .null, .int (nI 0), .int (nI 0), .int (nI 0), .int (nI 0), .int (nI 0), .null])), (q_1, .inl (cI, 3000, .inl (fun _ => 0))), (q_2, .inl (cJ, 9, .inr (.inl (fun _ => 0)))), (q_3, .inl (cI, 4096, .inl (fun _ => 0))), (q_4, .inl (cI, 8192, .inl (fun _ => 0)))] := hD
  refine lv_aload_n hx hb dX4_init_39 rfl (lv_at hl 0 rfl) ?_
  refine lv_bipush (v := nI 16) hx hb dX4_init_40 (by decide) ?_
  refine va_newa (a0 := (16, .inl (fun _ => 0))) (ty := .int) (atype := .int) (n := nI 16) (N' := 16) hx hb (hts (.arrayClass .int) (by decide +kernel)) rfl hK hP hD hS hA (wx_a0i 16) (nI_pos (by decide)) (nI_clamp (by decide)) (by decide) (show 5 ≤ 7 by decide) (show 15313 ≤ 31793 by decide) dX4_init_42 (fun q_5 cA H hK hP hD hS => ?_)
  obtain rfl := wx_uni hK (i := 1) (j := 3) rfl rfl rfl
  have hK := hK.sub (tys' := tyL cB cI cJ) [0, 1, 2] rfl
  have hP : va_P (dC, dI) vwCl [(oD, .inr (4, [.int (nI 0), .ref q_1, .int (nI 0), .int (nI 0), .ref q_2, .int (nI 0), .ref q_3, .int (nI 0), .int (nI 0), .int (nI 0), .ref q_4, .int (nI 0), .int (nI 0), .null, .null, .int (nI 0), .int (nI 0), .int (nI 0), .int (nI 0), .int (nI 0), .null])), (q_1, .inl (cI, 3000, .inl (fun _ => 0))), (q_2, .inl (cJ, 9, .inr (.inl (fun _ => 0)))), (q_3, .inl (cI, 4096, .inl (fun _ => 0))), (q_4, .inl (cI, 8192, .inl (fun _ => 0))), (q_5, .inl (cI, 16, .inl (fun _ => 0)))] H := hP
  have hD : va_D A [(oD, .inr (4, [.int (nI 0), .ref q_1, .int (nI 0), .int (nI 0), .ref q_2, .int (nI 0), .ref q_3, .int (nI 0), .int (nI 0), .int (nI 0), .ref q_4, .int (nI 0), .int (nI 0), .null, .null, .int (nI 0), .int (nI 0), .int (nI 0), .int (nI 0), .int (nI 0), .null])), (q_1, .inl (cI, 3000, .inl (fun _ => 0))), (q_2, .inl (cJ, 9, .inr (.inl (fun _ => 0)))), (q_3, .inl (cI, 4096, .inl (fun _ => 0))), (q_4, .inl (cI, 8192, .inl (fun _ => 0))), (q_5, .inl (cI, 16, .inl (fun _ => 0)))] := hD
  refine va_putF (D := (dC, dI)) (ci := 4) (v := .ref q_5) (ty := (tyX4 13)) (C := RX4) (T := TX4) (N := 21) hx hb hts (by decide +kernel) tyX4 tyX4_ok nmX4 hown hK hP hD hS 0 rfl rfl 13 (by decide) (hts (.fieldLink RX4 23 "GlulxHeadsModel" "blockAt" "[I") (by decide +kernel)) (fun _ h9 => h9) rfl hin rfl (by decide +kernel) rfl rfl (Nat.le_of_ble_eq_true rfl) dX4_init_44 (fun H locs hP hD hS => ?_)
  have hP : va_P (dC, dI) vwCl [(oD, .inr (4, [.int (nI 0), .ref q_1, .int (nI 0), .int (nI 0), .ref q_2, .int (nI 0), .ref q_3, .int (nI 0), .int (nI 0), .int (nI 0), .ref q_4, .int (nI 0), .int (nI 0), .ref q_5, .null, .int (nI 0), .int (nI 0), .int (nI 0), .int (nI 0), .int (nI 0), .null])), (q_1, .inl (cI, 3000, .inl (fun _ => 0))), (q_2, .inl (cJ, 9, .inr (.inl (fun _ => 0)))), (q_3, .inl (cI, 4096, .inl (fun _ => 0))), (q_4, .inl (cI, 8192, .inl (fun _ => 0))), (q_5, .inl (cI, 16, .inl (fun _ => 0)))] H := hP
  have hD : va_D A [(oD, .inr (4, [.int (nI 0), .ref q_1, .int (nI 0), .int (nI 0), .ref q_2, .int (nI 0), .ref q_3, .int (nI 0), .int (nI 0), .int (nI 0), .ref q_4, .int (nI 0), .int (nI 0), .ref q_5, .null, .int (nI 0), .int (nI 0), .int (nI 0), .int (nI 0), .int (nI 0), .null])), (q_1, .inl (cI, 3000, .inl (fun _ => 0))), (q_2, .inl (cJ, 9, .inr (.inl (fun _ => 0)))), (q_3, .inl (cI, 4096, .inl (fun _ => 0))), (q_4, .inl (cI, 8192, .inl (fun _ => 0))), (q_5, .inl (cI, 16, .inl (fun _ => 0)))] := hD
  refine lv_aload_n hx hb dX4_init_47 rfl (lv_at hl 0 rfl) ?_
  refine lv_bipush (v := nI 16) hx hb dX4_init_48 (by decide) ?_
  refine va_newa (a0 := (16, .inl (fun _ => 0))) (ty := .int) (atype := .int) (n := nI 16) (N' := 16) hx hb (hts (.arrayClass .int) (by decide +kernel)) rfl hK hP hD hS hA (wx_a0i 16) (nI_pos (by decide)) (nI_clamp (by decide)) (by decide) (show 6 ≤ 7 by decide) (show 15329 ≤ 31793 by decide) dX4_init_50 (fun q_6 cA H hK hP hD hS => ?_)
  obtain rfl := wx_uni hK (i := 1) (j := 3) rfl rfl rfl
  have hK := hK.sub (tys' := tyL cB cI cJ) [0, 1, 2] rfl
  have hP : va_P (dC, dI) vwCl [(oD, .inr (4, [.int (nI 0), .ref q_1, .int (nI 0), .int (nI 0), .ref q_2, .int (nI 0), .ref q_3, .int (nI 0), .int (nI 0), .int (nI 0), .ref q_4, .int (nI 0), .int (nI 0), .ref q_5, .null, .int (nI 0), .int (nI 0), .int (nI 0), .int (nI 0), .int (nI 0), .null])), (q_1, .inl (cI, 3000, .inl (fun _ => 0))), (q_2, .inl (cJ, 9, .inr (.inl (fun _ => 0)))), (q_3, .inl (cI, 4096, .inl (fun _ => 0))), (q_4, .inl (cI, 8192, .inl (fun _ => 0))), (q_5, .inl (cI, 16, .inl (fun _ => 0))), (q_6, .inl (cI, 16, .inl (fun _ => 0)))] H := hP
  have hD : va_D A [(oD, .inr (4, [.int (nI 0), .ref q_1, .int (nI 0), .int (nI 0), .ref q_2, .int (nI 0), .ref q_3, .int (nI 0), .int (nI 0), .int (nI 0), .ref q_4, .int (nI 0), .int (nI 0), .ref q_5, .null, .int (nI 0), .int (nI 0), .int (nI 0), .int (nI 0), .int (nI 0), .null])), (q_1, .inl (cI, 3000, .inl (fun _ => 0))), (q_2, .inl (cJ, 9, .inr (.inl (fun _ => 0)))), (q_3, .inl (cI, 4096, .inl (fun _ => 0))), (q_4, .inl (cI, 8192, .inl (fun _ => 0))), (q_5, .inl (cI, 16, .inl (fun _ => 0))), (q_6, .inl (cI, 16, .inl (fun _ => 0)))] := hD
  refine va_putF (D := (dC, dI)) (ci := 4) (v := .ref q_6) (ty := (tyX4 14)) (C := RX4) (T := TX4) (N := 21) hx hb hts (by decide +kernel) tyX4 tyX4_ok nmX4 hown hK hP hD hS 0 rfl rfl 14 (by decide) (hts (.fieldLink RX4 26 "GlulxHeadsModel" "blockSize" "[I") (by decide +kernel)) (fun _ h9 => h9) rfl hin rfl (by decide +kernel) rfl rfl (Nat.le_of_ble_eq_true rfl) dX4_init_52 (fun H locs hP hD hS => ?_)
  have hP : va_P (dC, dI) vwCl [(oD, .inr (4, [.int (nI 0), .ref q_1, .int (nI 0), .int (nI 0), .ref q_2, .int (nI 0), .ref q_3, .int (nI 0), .int (nI 0), .int (nI 0), .ref q_4, .int (nI 0), .int (nI 0), .ref q_5, .ref q_6, .int (nI 0), .int (nI 0), .int (nI 0), .int (nI 0), .int (nI 0), .null])), (q_1, .inl (cI, 3000, .inl (fun _ => 0))), (q_2, .inl (cJ, 9, .inr (.inl (fun _ => 0)))), (q_3, .inl (cI, 4096, .inl (fun _ => 0))), (q_4, .inl (cI, 8192, .inl (fun _ => 0))), (q_5, .inl (cI, 16, .inl (fun _ => 0))), (q_6, .inl (cI, 16, .inl (fun _ => 0)))] H := hP
  have hD : va_D A [(oD, .inr (4, [.int (nI 0), .ref q_1, .int (nI 0), .int (nI 0), .ref q_2, .int (nI 0), .ref q_3, .int (nI 0), .int (nI 0), .int (nI 0), .ref q_4, .int (nI 0), .int (nI 0), .ref q_5, .ref q_6, .int (nI 0), .int (nI 0), .int (nI 0), .int (nI 0), .int (nI 0), .null])), (q_1, .inl (cI, 3000, .inl (fun _ => 0))), (q_2, .inl (cJ, 9, .inr (.inl (fun _ => 0)))), (q_3, .inl (cI, 4096, .inl (fun _ => 0))), (q_4, .inl (cI, 8192, .inl (fun _ => 0))), (q_5, .inl (cI, 16, .inl (fun _ => 0))), (q_6, .inl (cI, 16, .inl (fun _ => 0)))] := hD
  refine lv_aload_n hx hb dX4_init_55 rfl (lv_at hl 0 rfl) ?_
  refine lv_sipush (v := nI 16464) hx hb dX4_init_56 (by decide) ?_
  refine va_newa (a0 := (16464, .inl (fun _ => 0))) (ty := .int) (atype := .int) (n := nI 16464) (N' := 16464) hx hb (hts (.arrayClass .int) (by decide +kernel)) rfl hK hP hD hS hA (wx_a0i 16464) (nI_pos (by decide)) (nI_clamp (by decide)) (by decide) (show 7 ≤ 7 by decide) (show 31793 ≤ 31793 by decide) dX4_init_59 (fun q_7 cA H hK hP hD hS => ?_)
  obtain rfl := wx_uni hK (i := 1) (j := 3) rfl rfl rfl
  have hK := hK.sub (tys' := tyL cB cI cJ) [0, 1, 2] rfl
  have hP : va_P (dC, dI) vwCl [(oD, .inr (4, [.int (nI 0), .ref q_1, .int (nI 0), .int (nI 0), .ref q_2, .int (nI 0), .ref q_3, .int (nI 0), .int (nI 0), .int (nI 0), .ref q_4, .int (nI 0), .int (nI 0), .ref q_5, .ref q_6, .int (nI 0), .int (nI 0), .int (nI 0), .int (nI 0), .int (nI 0), .null])), (q_1, .inl (cI, 3000, .inl (fun _ => 0))), (q_2, .inl (cJ, 9, .inr (.inl (fun _ => 0)))), (q_3, .inl (cI, 4096, .inl (fun _ => 0))), (q_4, .inl (cI, 8192, .inl (fun _ => 0))), (q_5, .inl (cI, 16, .inl (fun _ => 0))), (q_6, .inl (cI, 16, .inl (fun _ => 0))), (q_7, .inl (cI, 16464, .inl (fun _ => 0)))] H := hP
  have hD : va_D A [(oD, .inr (4, [.int (nI 0), .ref q_1, .int (nI 0), .int (nI 0), .ref q_2, .int (nI 0), .ref q_3, .int (nI 0), .int (nI 0), .int (nI 0), .ref q_4, .int (nI 0), .int (nI 0), .ref q_5, .ref q_6, .int (nI 0), .int (nI 0), .int (nI 0), .int (nI 0), .int (nI 0), .null])), (q_1, .inl (cI, 3000, .inl (fun _ => 0))), (q_2, .inl (cJ, 9, .inr (.inl (fun _ => 0)))), (q_3, .inl (cI, 4096, .inl (fun _ => 0))), (q_4, .inl (cI, 8192, .inl (fun _ => 0))), (q_5, .inl (cI, 16, .inl (fun _ => 0))), (q_6, .inl (cI, 16, .inl (fun _ => 0))), (q_7, .inl (cI, 16464, .inl (fun _ => 0)))] := hD
  refine va_putF (D := (dC, dI)) (ci := 4) (v := .ref q_7) (ty := (tyX4 20)) (C := RX4) (T := TX4) (N := 21) hx hb hts (by decide +kernel) tyX4 tyX4_ok nmX4 hown hK hP hD hS 0 rfl rfl 20 (by decide) (hts (.fieldLink RX4 29 "GlulxHeadsModel" "kept" "[I") (by decide +kernel)) (fun _ h9 => h9) rfl hin rfl (by decide +kernel) rfl rfl (Nat.le_of_ble_eq_true rfl) dX4_init_61 (fun H locs hP hD hS => ?_)
  have hP : va_P (dC, dI) vwCl [(oD, .inr (4, [.int (nI 0), .ref q_1, .int (nI 0), .int (nI 0), .ref q_2, .int (nI 0), .ref q_3, .int (nI 0), .int (nI 0), .int (nI 0), .ref q_4, .int (nI 0), .int (nI 0), .ref q_5, .ref q_6, .int (nI 0), .int (nI 0), .int (nI 0), .int (nI 0), .int (nI 0), .ref q_7])), (q_1, .inl (cI, 3000, .inl (fun _ => 0))), (q_2, .inl (cJ, 9, .inr (.inl (fun _ => 0)))), (q_3, .inl (cI, 4096, .inl (fun _ => 0))), (q_4, .inl (cI, 8192, .inl (fun _ => 0))), (q_5, .inl (cI, 16, .inl (fun _ => 0))), (q_6, .inl (cI, 16, .inl (fun _ => 0))), (q_7, .inl (cI, 16464, .inl (fun _ => 0)))] H := hP
  have hD : va_D A [(oD, .inr (4, [.int (nI 0), .ref q_1, .int (nI 0), .int (nI 0), .ref q_2, .int (nI 0), .ref q_3, .int (nI 0), .int (nI 0), .int (nI 0), .ref q_4, .int (nI 0), .int (nI 0), .ref q_5, .ref q_6, .int (nI 0), .int (nI 0), .int (nI 0), .int (nI 0), .int (nI 0), .ref q_7])), (q_1, .inl (cI, 3000, .inl (fun _ => 0))), (q_2, .inl (cJ, 9, .inr (.inl (fun _ => 0)))), (q_3, .inl (cI, 4096, .inl (fun _ => 0))), (q_4, .inl (cI, 8192, .inl (fun _ => 0))), (q_5, .inl (cI, 16, .inl (fun _ => 0))), (q_6, .inl (cI, 16, .inl (fun _ => 0))), (q_7, .inl (cI, 16464, .inl (fun _ => 0)))] := hD
  refine W.widen (k := 7) (n := 31793) (show 7 ≤ 7 by decide) (show 31793 ≤ 31793 by decide) ?_
  have hP9 := hP.sub (ws' := [(oD, .inr (4, [.int (nI 0), .ref q_1, .int (nI 0), .int (nI 0), .ref q_2, .int (nI 0), .ref q_3, .int (nI 0), .int (nI 0), .int (nI 0), .ref q_4, .int (nI 0), .int (nI 0), .ref q_5, .ref q_6, .int (nI 0), .int (nI 0), .int (nI 0), .int (nI 0), .int (nI 0), .ref q_7])), (q_1, .inl (cI, 3000, .inl (fun _ => 0))), (q_2, .inl (cJ, 9, .inr (.inl (fun _ => 0)))), (q_3, .inl (cI, 4096, .inl (fun _ => 0))), (q_4, .inl (cI, 8192, .inl (fun _ => 0))), (q_5, .inl (cI, 16, .inl (fun _ => 0))), (q_6, .inl (cI, 16, .inl (fun _ => 0))), (q_7, .inl (cI, 16464, .inl (fun _ => 0)))]) [0, 1, 2, 3, 4, 5, 6, 7] rfl
  have hD9 := hD.sub (ws' := [(oD, .inr (4, [.int (nI 0), .ref q_1, .int (nI 0), .int (nI 0), .ref q_2, .int (nI 0), .ref q_3, .int (nI 0), .int (nI 0), .int (nI 0), .ref q_4, .int (nI 0), .int (nI 0), .ref q_5, .ref q_6, .int (nI 0), .int (nI 0), .int (nI 0), .int (nI 0), .int (nI 0), .ref q_7])), (q_1, .inl (cI, 3000, .inl (fun _ => 0))), (q_2, .inl (cJ, 9, .inr (.inl (fun _ => 0)))), (q_3, .inl (cI, 4096, .inl (fun _ => 0))), (q_4, .inl (cI, 8192, .inl (fun _ => 0))), (q_5, .inl (cI, 16, .inl (fun _ => 0))), (q_6, .inl (cI, 16, .inl (fun _ => 0))), (q_7, .inl (cI, 16464, .inl (fun _ => 0)))]) [0, 1, 2, 3, 4, 5, 6, 7] (by decide) rfl
  exact W.vret hx hb hr (fun t ht hW => ⟨⟨(q_1, q_2, q_3, q_4, q_5, q_6, q_7), rfl, trivial, by rw [ht]; exact hP9, hD9⟩, hS.F ht⟩) hS.2.2 dX4_init_64
set_option maxHeartbeats 4000000 in
set_option maxRecDepth 100000 in
theorem c_X4_thrown (l : Launch) (dC : Nat → ClassId) (dI : Nat → Nat → Nat) (cB cI cJ : ClassId) (sz : Nat) (oD : Nat) (th : Nat) (dF : Nat) (len : Nat) (ha : Nat) (dH : Nat) (sr : Nat) (dL : Nat) (en : Nat) (ram : Nat) (mz : Nat) (dM : Nat) (hp : Nat) (cn : Nat) (dP : Nat) (dS : Nat) (fk : Nat) (fp : Int32) (ka : Nat) (kn : Nat) (sv : Nat) (dK : Nat)  : Met l yX4_thrown wsX4_thrown ({ frames := 0, cells := 0, slots := 0, locals := 0 }) (va_Pc [.ref oD] (wPre dC dI cB cI cJ sz [(oD, .inr (4, [.int (nI th), .ref dF, .int (nI len), .int (nI ha), .ref dH, .int (nI sr), .ref dL, .int (nI en), .int (nI ram), .int (nI mz), .ref dM, .int (nI hp), .int (nI cn), .ref dP, .ref dS, .int (nI fk), .int fp, .int (nI ka), .int (nI kn), .int (nI sv), .ref dK]))])) (va_Qi (fun (r : Int32) (u : Unit) => r = nI th) (fun (u : Unit) => wPost dC dI (va_A [(oD, .inr (4, [.int (nI th), .ref dF, .int (nI len), .int (nI ha), .ref dH, .int (nI sr), .ref dL, .int (nI en), .int (nI ram), .int (nI mz), .ref dM, .int (nI hp), .int (nI cn), .ref dP, .ref dS, .int (nI fk), .int fp, .int (nI ka), .int (nI kn), .int (nI sv), .ref dK]))] sz) [(oD, .inr (4, [.int (nI th), .ref dF, .int (nI len), .int (nI ha), .ref dH, .int (nI sr), .ref dL, .int (nI en), .int (nI ram), .int (nI mz), .ref dM, .int (nI hp), .int (nI cn), .ref dP, .ref dS, .int (nI fk), .int fp, .int (nI ka), .int (nI kn), .int (nI sv), .ref dK]))]) (va_A [(oD, .inr (4, [.int (nI th), .ref dF, .int (nI len), .int (nI ha), .ref dH, .int (nI sr), .ref dL, .int (nI en), .int (nI ram), .int (nI mz), .ref dM, .int (nI hp), .int (nI cn), .ref dP, .ref dS, .int (nI fk), .int fp, .int (nI ka), .int (nI kn), .int (nI sv), .ref dK]))] sz)) 0 0 (va_A [(oD, .inr (4, [.int (nI th), .ref dF, .int (nI len), .int (nI ha), .ref dH, .int (nI sr), .ref dL, .int (nI en), .int (nI ram), .int (nI mz), .ref dM, .int (nI hp), .int (nI cn), .ref dP, .ref dS, .int (nI fk), .int fp, .int (nI ka), .int (nI kn), .int (nI sv), .ref dK]))] sz) := by
  refine Met.ofW (cc := cX4_thrown) (maxL := 1) (ret := (some .int)) (by decide) rfl ?_
  intro p e s m args below meth c s₁ B hml hv
  obtain ⟨rfl, hsz, hP, hK, hD0, hN⟩ := hv
  have hx := B.exec
  have hb := B.bytes
  have hr := B.returns
  have hts := atoms_spec (ws := wsX4_thrown) B.pre
  have hown : s.vm.findClass RX4 = some m.cls := findClass_of_methodNamed B.named
  have hlocks := B.notSynchronized
  subst hsz
  have hD := hD0.self (sz := s.heap.size)
  generalize hAe : va_A [(oD, .inr (4, [.int (nI th), .ref dF, .int (nI len), .int (nI ha), .ref dH, .int (nI sr), .ref dL, .int (nI en), .int (nI ram), .int (nI mz), .ref dM, .int (nI hp), .int (nI cn), .ref dP, .ref dS, .int (nI fk), .int fp, .int (nI ka), .int (nI kn), .int (nI sv), .ref dK]))] s.heap.size = A at hD ⊢
  have hA : ∀ q : Nat, s.heap.size ≤ q → A q := fun q h => by rw [← hAe]; exact Or.inr h
  have hS : va_S A s.heap s.heap [] := va_S.rf
  have hP : va_P (dC, dI) vwCl [(oD, .inr (4, [.int (nI th), .ref dF, .int (nI len), .int (nI ha), .ref dH, .int (nI sr), .ref dL, .int (nI en), .int (nI ram), .int (nI mz), .ref dM, .int (nI hp), .int (nI cn), .ref dP, .ref dS, .int (nI fk), .int fp, .int (nI ka), .int (nI kn), .int (nI sv), .ref dK]))] s.heap := hP
  have hl := lv_entry ([.ref oD]) (n := 1) (Nat.le_of_ble_eq_true rfl)
  rw [lg_entry_eq]
  generalize (lg_sl ([.ref oD]) ++ List.replicate (1 - (lg_sl ([.ref oD])).length) Slot.unset).toArray = ls at hl ⊢
  have hl : lv_has ls 1 [(0, .ref oD)] := hl
  refine lv_aload_n hx hb dX4_thrown_0 rfl (lv_at hl 0 rfl) ?_
  refine va_get (D := (dC, dI)) (ci := 4) (v := .int (nI th)) (C := RX4) (T := TX4) (N := 21) hx hb hts (by decide +kernel) hown hK hP 0 rfl rfl 0 (by decide) (hts (.fieldLink RX4 32 "GlulxHeadsModel" "thrown" "I") (by decide +kernel)) (fun _ h9 => h9) rfl dX4_thrown_1 ?_
  have hP9 := hP.sub (ws' := [(oD, .inr (4, [.int (nI th), .ref dF, .int (nI len), .int (nI ha), .ref dH, .int (nI sr), .ref dL, .int (nI en), .int (nI ram), .int (nI mz), .ref dM, .int (nI hp), .int (nI cn), .ref dP, .ref dS, .int (nI fk), .int fp, .int (nI ka), .int (nI kn), .int (nI sv), .ref dK]))]) [0] rfl
  have hD9 := hD.sub (ws' := [(oD, .inr (4, [.int (nI th), .ref dF, .int (nI len), .int (nI ha), .ref dH, .int (nI sr), .ref dL, .int (nI en), .int (nI ram), .int (nI mz), .ref dM, .int (nI hp), .int (nI cn), .ref dP, .ref dS, .int (nI fk), .int fp, .int (nI ka), .int (nI kn), .int (nI sv), .ref dK]))]) [0] (by decide) rfl
  exact W.iret (v := nI th) hx hb hr (fun t ht hW => ⟨⟨(nI th), (), rfl, rfl, by rw [ht]; exact hP9, hD9⟩, hS.F ht⟩) hS.2.2 dX4_thrown_4
set_option maxHeartbeats 4000000 in
set_option maxRecDepth 100000 in
theorem c_X4_feed (l : Launch) (dC : Nat → ClassId) (dI : Nat → Nat → Nat) (cB cI cJ : ClassId) (sz : Nat) (oD : Nat) (th : Nat) (dF : Nat) (len : Nat) (ha : Nat) (dH : Nat) (sr : Nat) (dL : Nat) (en : Nat) (ram : Nat) (mz : Nat) (dM : Nat) (hp : Nat) (cn : Nat) (dP : Nat) (dS : Nat) (fk : Nat) (fp : Int32) (ka : Nat) (kn : Nat) (sv : Nat) (dK : Nat) (df : Nat → Int32) (fb : Nat → Nat) (a1 : Int32) (a2 : Int32) (a3 : Int32) (a4 : Int32) (a5 : Int32) (hlen : len ≤ 3000) (hf : gOk df len fb) : Met l yX4_feed wsX4_feed ({ frames := 0, cells := 0, slots := 0, locals := 0 }) (va_Pc [.ref oD, .int a1, .int a2, .int a3, .int a4, .int a5] (wPre dC dI cB cI cJ sz [(oD, .inr (4, [.int (nI th), .ref dF, .int (nI len), .int (nI ha), .ref dH, .int (nI sr), .ref dL, .int (nI en), .int (nI ram), .int (nI mz), .ref dM, .int (nI hp), .int (nI cn), .ref dP, .ref dS, .int (nI fk), .int fp, .int (nI ka), .int (nI kn), .int (nI sv), .ref dK])), (dF, .inl (cI, 3000, .inl df))])) (va_Qi (fun (r : Int32) (u : (Nat → Int32) × Nat) => r = feedR len ∧ u.2 = feedL len ∧ gOk u.1 u.2 (feedB fb len a1 a2 a3 a4 a5)) (fun (u : (Nat → Int32) × Nat) => wPost dC dI (va_A [(oD, .inr (4, [.int (nI th), .ref dF, .int (nI len), .int (nI ha), .ref dH, .int (nI sr), .ref dL, .int (nI en), .int (nI ram), .int (nI mz), .ref dM, .int (nI hp), .int (nI cn), .ref dP, .ref dS, .int (nI fk), .int fp, .int (nI ka), .int (nI kn), .int (nI sv), .ref dK])), (dF, .inl (cI, 3000, .inl df))] sz) [(oD, .inr (4, [.int (nI 0), .ref dF, .int (nI u.2), .int (nI ha), .ref dH, .int (nI sr), .ref dL, .int (nI en), .int (nI ram), .int (nI mz), .ref dM, .int (nI hp), .int (nI cn), .ref dP, .ref dS, .int (nI fk), .int fp, .int (nI ka), .int (nI kn), .int (nI sv), .ref dK])), (dF, .inl (cI, 3000, .inl u.1))]) (va_A [(oD, .inr (4, [.int (nI th), .ref dF, .int (nI len), .int (nI ha), .ref dH, .int (nI sr), .ref dL, .int (nI en), .int (nI ram), .int (nI mz), .ref dM, .int (nI hp), .int (nI cn), .ref dP, .ref dS, .int (nI fk), .int fp, .int (nI ka), .int (nI kn), .int (nI sv), .ref dK])), (dF, .inl (cI, 3000, .inl df))] sz)) 0 0 (va_A [(oD, .inr (4, [.int (nI th), .ref dF, .int (nI len), .int (nI ha), .ref dH, .int (nI sr), .ref dL, .int (nI en), .int (nI ram), .int (nI mz), .ref dM, .int (nI hp), .int (nI cn), .ref dP, .ref dS, .int (nI fk), .int fp, .int (nI ka), .int (nI kn), .int (nI sv), .ref dK])), (dF, .inl (cI, 3000, .inl df))] sz) := by
  refine Met.ofW (cc := cX4_feed) (maxL := 8) (ret := (some .int)) (by decide) rfl ?_
  intro p e s m args below meth c s₁ B hml hv
  obtain ⟨rfl, hsz, hP, hK, hD0, hN⟩ := hv
  have hx := B.exec
  have hb := B.bytes
  have hr := B.returns
  have hts := atoms_spec (ws := wsX4_feed) B.pre
  have hown : s.vm.findClass RX4 = some m.cls := findClass_of_methodNamed B.named
  have hlocks := B.notSynchronized
  subst hsz
  have hD := hD0.self (sz := s.heap.size)
  generalize hAe : va_A [(oD, .inr (4, [.int (nI th), .ref dF, .int (nI len), .int (nI ha), .ref dH, .int (nI sr), .ref dL, .int (nI en), .int (nI ram), .int (nI mz), .ref dM, .int (nI hp), .int (nI cn), .ref dP, .ref dS, .int (nI fk), .int fp, .int (nI ka), .int (nI kn), .int (nI sv), .ref dK])), (dF, .inl (cI, 3000, .inl df))] s.heap.size = A at hD ⊢
  have hA : ∀ q : Nat, s.heap.size ≤ q → A q := fun q h => by rw [← hAe]; exact Or.inr h
  have hS : va_S A s.heap s.heap [] := va_S.rf
  have hP : va_P (dC, dI) vwCl [(oD, .inr (4, [.int (nI th), .ref dF, .int (nI len), .int (nI ha), .ref dH, .int (nI sr), .ref dL, .int (nI en), .int (nI ram), .int (nI mz), .ref dM, .int (nI hp), .int (nI cn), .ref dP, .ref dS, .int (nI fk), .int fp, .int (nI ka), .int (nI kn), .int (nI sv), .ref dK])), (dF, .inl (cI, 3000, .inl df))] s.heap := hP
  have hl := lv_entry ([.ref oD, .int a1, .int a2, .int a3, .int a4, .int a5]) (n := 8) (Nat.le_of_ble_eq_true rfl)
  rw [lg_entry_eq]
  generalize (lg_sl ([.ref oD, .int a1, .int a2, .int a3, .int a4, .int a5]) ++ List.replicate (8 - (lg_sl ([.ref oD, .int a1, .int a2, .int a3, .int a4, .int a5])).length) Slot.unset).toArray = ls at hl ⊢
  have hl : lv_has ls 8 [(0, .ref oD), (1, .int a1), (2, .int a2), (3, .int a3), (4, .int a4), (5, .int a5)] := hl
  refine lv_aload_n hx hb dX4_feed_0 rfl (lv_at hl 0 rfl) ?_
  refine lv_iconst (v := nI 0) hx hb dX4_feed_1 (by decide) ?_
  refine va_put (D := (dC, dI)) (ci := 4) (v := .int (nI 0)) (ty := .int) (C := RX4) (T := TX4) (N := 21) hx hb hts (by decide +kernel) tyX4 tyX4_ok nmX4 hown hK hP hD hS 0 rfl rfl 0 (by decide) (hts (.fieldLink RX4 32 "GlulxHeadsModel" "thrown" "I") (by decide +kernel)) (fun _ h9 => h9) rfl (by decide +kernel) rfl rfl (Nat.le_of_ble_eq_true rfl) dX4_feed_2 (fun H locs hP hD hS => ?_)
  have hP : va_P (dC, dI) vwCl [(oD, .inr (4, [.int (nI 0), .ref dF, .int (nI len), .int (nI ha), .ref dH, .int (nI sr), .ref dL, .int (nI en), .int (nI ram), .int (nI mz), .ref dM, .int (nI hp), .int (nI cn), .ref dP, .ref dS, .int (nI fk), .int fp, .int (nI ka), .int (nI kn), .int (nI sv), .ref dK])), (dF, .inl (cI, 3000, .inl df))] H := hP
  have hD : va_D A [(oD, .inr (4, [.int (nI 0), .ref dF, .int (nI len), .int (nI ha), .ref dH, .int (nI sr), .ref dL, .int (nI en), .int (nI ram), .int (nI mz), .ref dM, .int (nI hp), .int (nI cn), .ref dP, .ref dS, .int (nI fk), .int fp, .int (nI ka), .int (nI kn), .int (nI sv), .ref dK])), (dF, .inl (cI, 3000, .inl df))] := hD
  refine lv_aload_n hx hb dX4_feed_5 rfl (lv_at hl 0 rfl) ?_
  refine va_get (D := (dC, dI)) (ci := 4) (v := .int (nI len)) (C := RX4) (T := TX4) (N := 21) hx hb hts (by decide +kernel) hown hK hP 0 rfl rfl 2 (by decide) (hts (.fieldLink RX4 36 "GlulxHeadsModel" "size" "I") (by decide +kernel)) (fun _ h9 => h9) rfl dX4_feed_6 ?_
  refine lv_bipush (v := nI 20) hx hb dX4_feed_9 (by decide) ?_
  refine wx_iadd hx hb dX4_feed_11 ?_
  refine lv_sipush (v := nI 3000) hx hb dX4_feed_12 (by decide) ?_
  refine wx_icmp_le (tgt := 21) hx hb dX4_feed_15 (by decide) (by omega) (by omega) (fun c_1 => ?_) (fun c_1 => ?_)
  · skip
    refine lv_iconst (v := nI 0) hx hb dX4_feed_21 (by decide) ?_
    refine lv_istore (lv' := [(6, .int (nI 0)), (0, .ref oD), (1, .int a1), (2, .int a2), (3, .int a3), (4, .int a4), (5, .int a5)]) hx hb dX4_feed_22 hl (by decide) rfl (fun ls hl => ?_)
    refine wx_loop (σ := Nat × (Nat → Int32)) (fun xq9 => 20 - xq9.1) (fun xq9 H locs ls => (xq9.1 ≤ 20) ∧ (gOk xq9.2 (len + xq9.1) (feedX fb len a1 a2 a3 a4 a5)) ∧ va_P (dC, dI) vwCl [(oD, .inr (4, [.int (nI 0), .ref dF, .int (nI len), .int (nI ha), .ref dH, .int (nI sr), .ref dL, .int (nI en), .int (nI ram), .int (nI mz), .ref dM, .int (nI hp), .int (nI cn), .ref dP, .ref dS, .int (nI fk), .int fp, .int (nI ka), .int (nI kn), .int (nI sv), .ref dK])), (dF, .inl (cI, 3000, .inl xq9.2))] H ∧ va_D A [(oD, .inr (4, [.int (nI 0), .ref dF, .int (nI len), .int (nI ha), .ref dH, .int (nI sr), .ref dL, .int (nI en), .int (nI ram), .int (nI mz), .ref dM, .int (nI hp), .int (nI cn), .ref dP, .ref dS, .int (nI fk), .int fp, .int (nI ka), .int (nI kn), .int (nI sv), .ref dK])), (dF, .inl (cI, 3000, .inl xq9.2))] ∧ va_S A s.heap H locs ∧ lv_has ls 8 [(0, .ref oD), (1, .int a1), (2, .int a2), (3, .int a3), (4, .int a4), (5, .int a5), (6, .int (nI xq9.1))]) ?_ (0, df) _ _ _ ⟨by omega, gOk_eq hf (fun j hj => by unfold feedX; rw [if_neg (by omega)]), hP.sub [0, 1] rfl, hD.sub [0, 1] (by decide) rfl, hS, lv_sub hl [1, 2, 3, 4, 5, 6, 0] rfl⟩
    rintro ⟨i, df3⟩ H locs ls ⟨hi, hg, hP, hD, hS, hl⟩ ih
    have hi : i ≤ 20 := hi
    have hg : gOk df3 (len + i) (feedX fb len a1 a2 a3 a4 a5) := hg
    have hP : va_P (dC, dI) vwCl [(oD, .inr (4, [.int (nI 0), .ref dF, .int (nI len), .int (nI ha), .ref dH, .int (nI sr), .ref dL, .int (nI en), .int (nI ram), .int (nI mz), .ref dM, .int (nI hp), .int (nI cn), .ref dP, .ref dS, .int (nI fk), .int fp, .int (nI ka), .int (nI kn), .int (nI sv), .ref dK])), (dF, .inl (cI, 3000, .inl df3))] H := hP
    have hD : va_D A [(oD, .inr (4, [.int (nI 0), .ref dF, .int (nI len), .int (nI ha), .ref dH, .int (nI sr), .ref dL, .int (nI en), .int (nI ram), .int (nI mz), .ref dM, .int (nI hp), .int (nI cn), .ref dP, .ref dS, .int (nI fk), .int fp, .int (nI ka), .int (nI kn), .int (nI sv), .ref dK])), (dF, .inl (cI, 3000, .inl df3))] := hD
    have hl : lv_has ls 8 [(0, .ref oD), (1, .int a1), (2, .int a2), (3, .int a3), (4, .int a4), (5, .int a5), (6, .int (nI i))] := hl
    refine lv_iload hx hb dX4_feed_24 (lv_at hl 6 rfl) ?_
    refine lv_bipush (v := nI 20) hx hb dX4_feed_26 (by decide) ?_
    refine wx_icmp_ge (tgt := 114) hx hb dX4_feed_28 (by decide) (by omega) (by omega) (fun c_2 => ?_) (fun c_2 => ?_)
    · skip
      refine lv_aload_n hx hb dX4_feed_114 rfl (lv_at hl 0 rfl) ?_
      refine lv_dup hx hb dX4_feed_115 rfl ?_
      refine va_get (D := (dC, dI)) (ci := 4) (v := .int (nI len)) (C := RX4) (T := TX4) (N := 21) hx hb hts (by decide +kernel) hown hK hP 0 rfl rfl 2 (by decide) (hts (.fieldLink RX4 36 "GlulxHeadsModel" "size" "I") (by decide +kernel)) (fun _ h9 => h9) rfl dX4_feed_116 ?_
      refine lv_bipush (v := nI 20) hx hb dX4_feed_119 (by decide) ?_
      refine wx_iadd hx hb dX4_feed_121 ?_
      refine va_put (D := (dC, dI)) (ci := 4) (v := .int (nI (len + 20))) (ty := .int) (C := RX4) (T := TX4) (N := 21) hx hb hts (by decide +kernel) tyX4 tyX4_ok nmX4 hown hK hP hD hS 0 rfl rfl 2 (by decide) (hts (.fieldLink RX4 36 "GlulxHeadsModel" "size" "I") (by decide +kernel)) (fun _ h9 => h9) rfl (by decide +kernel) rfl rfl (Nat.le_of_ble_eq_true rfl) dX4_feed_122 (fun H locs hP hD hS => ?_)
      have hP : va_P (dC, dI) vwCl [(oD, .inr (4, [.int (nI 0), .ref dF, .int (nI (len + 20)), .int (nI ha), .ref dH, .int (nI sr), .ref dL, .int (nI en), .int (nI ram), .int (nI mz), .ref dM, .int (nI hp), .int (nI cn), .ref dP, .ref dS, .int (nI fk), .int fp, .int (nI ka), .int (nI kn), .int (nI sv), .ref dK])), (dF, .inl (cI, 3000, .inl df3))] H := hP
      have hD : va_D A [(oD, .inr (4, [.int (nI 0), .ref dF, .int (nI (len + 20)), .int (nI ha), .ref dH, .int (nI sr), .ref dL, .int (nI en), .int (nI ram), .int (nI mz), .ref dM, .int (nI hp), .int (nI cn), .ref dP, .ref dS, .int (nI fk), .int fp, .int (nI ka), .int (nI kn), .int (nI sv), .ref dK])), (dF, .inl (cI, 3000, .inl df3))] := hD
      refine lv_aload_n hx hb dX4_feed_125 rfl (lv_at hl 0 rfl) ?_
      refine va_get (D := (dC, dI)) (ci := 4) (v := .int (nI (len + 20))) (C := RX4) (T := TX4) (N := 21) hx hb hts (by decide +kernel) hown hK hP 0 rfl rfl 2 (by decide) (hts (.fieldLink RX4 36 "GlulxHeadsModel" "size" "I") (by decide +kernel)) (fun _ h9 => h9) rfl dX4_feed_126 ?_
      have hP9 := hP.sub (ws' := [(oD, .inr (4, [.int (nI 0), .ref dF, .int (nI (len + 20)), .int (nI ha), .ref dH, .int (nI sr), .ref dL, .int (nI en), .int (nI ram), .int (nI mz), .ref dM, .int (nI hp), .int (nI cn), .ref dP, .ref dS, .int (nI fk), .int fp, .int (nI ka), .int (nI kn), .int (nI sv), .ref dK])), (dF, .inl (cI, 3000, .inl df3))]) [0, 1] rfl
      have hD9 := hD.sub (ws' := [(oD, .inr (4, [.int (nI 0), .ref dF, .int (nI (len + 20)), .int (nI ha), .ref dH, .int (nI sr), .ref dL, .int (nI en), .int (nI ram), .int (nI mz), .ref dM, .int (nI hp), .int (nI cn), .ref dP, .ref dS, .int (nI fk), .int fp, .int (nI ka), .int (nI kn), .int (nI sv), .ref dK])), (dF, .inl (cI, 3000, .inl df3))]) [0, 1] (by decide) rfl
      exact W.iret (v := nI (len + 20)) hx hb hr (fun t ht hW => ⟨⟨(nI (len + 20)), (df3, (len + 20)), rfl, ⟨by unfold feedR; rw [if_pos (by omega)], by unfold feedL; rw [if_pos (by omega)], by rw [feed_eq (by omega), show len + 20 = len + i by omega]; exact hg⟩, by rw [ht]; exact hP9, hD9⟩, hS.F ht⟩) hS.2.2 dX4_feed_129
    · skip
      refine lv_iload hx hb dX4_feed_31 (lv_at hl 6 rfl) ?_
      refine lv_iconst (v := nI 4) hx hb dX4_feed_33 (by decide) ?_
      refine wx_icmp_ge (tgt := 41) hx hb dX4_feed_34 (by decide) (by omega) (by omega) (fun c_3 => ?_) (fun c_3 => ?_)
      · skip
        refine lv_iload hx hb dX4_feed_41 (lv_at hl 6 rfl) ?_
        refine lv_bipush (v := nI 8) hx hb dX4_feed_43 (by decide) ?_
        refine wx_icmp_ge (tgt := 52) hx hb dX4_feed_45 (by decide) (by omega) (by omega) (fun c_4 => ?_) (fun c_4 => ?_)
        · skip
          refine lv_iload hx hb dX4_feed_52 (lv_at hl 6 rfl) ?_
          refine lv_bipush (v := nI 12) hx hb dX4_feed_54 (by decide) ?_
          refine wx_icmp_ge (tgt := 63) hx hb dX4_feed_56 (by decide) (by omega) (by omega) (fun c_5 => ?_) (fun c_5 => ?_)
          · skip
            refine lv_iload hx hb dX4_feed_63 (lv_at hl 6 rfl) ?_
            refine lv_bipush (v := nI 16) hx hb dX4_feed_65 (by decide) ?_
            refine wx_icmp_ge (tgt := 75) hx hb dX4_feed_67 (by decide) (by omega) (by omega) (fun c_6 => ?_) (fun c_6 => ?_)
            · skip
              refine lv_iload hx hb dX4_feed_75 (lv_at hl 5 rfl) ?_
              refine lv_istore (lv' := [(7, .int a5), (0, .ref oD), (1, .int a1), (2, .int a2), (3, .int a3), (4, .int a4), (5, .int a5), (6, .int (nI i))]) hx hb dX4_feed_77 hl (by decide) rfl (fun ls hl => ?_)
              refine lv_aload_n hx hb dX4_feed_79 rfl (lv_at hl 1 rfl) ?_
              refine va_get (D := (dC, dI)) (ci := 4) (v := .ref dF) (C := RX4) (T := TX4) (N := 21) hx hb hts (by decide +kernel) hown hK hP 0 rfl rfl 1 (by decide) (hts (.fieldLink RX4 7 "GlulxHeadsModel" "file" "[I") (by decide +kernel)) (fun _ h9 => h9) rfl dX4_feed_80 ?_
              refine lv_aload_n hx hb dX4_feed_83 rfl (lv_at hl 1 rfl) ?_
              refine va_get (D := (dC, dI)) (ci := 4) (v := .int (nI len)) (C := RX4) (T := TX4) (N := 21) hx hb hts (by decide +kernel) hown hK hP 0 rfl rfl 2 (by decide) (hts (.fieldLink RX4 36 "GlulxHeadsModel" "size" "I") (by decide +kernel)) (fun _ h9 => h9) rfl dX4_feed_84 ?_
              refine lv_iload hx hb dX4_feed_87 (lv_at hl 7 rfl) ?_
              refine wx_iadd hx hb dX4_feed_89 ?_
              refine lv_iload hx hb dX4_feed_90 (lv_at hl 0 rfl) ?_
              refine lv_bipush (v := nI 24) hx hb dX4_feed_92 (by decide) ?_
              refine lv_bipush (v := nI 8) hx hb dX4_feed_94 (by decide) ?_
              refine lv_iload hx hb dX4_feed_96 (lv_at hl 7 rfl) ?_
              refine lv_iconst (v := nI 4) hx hb dX4_feed_98 (by decide) ?_
              refine wx_irem hx hb dX4_feed_99 (by omega) (by omega) (by omega) ?_
              refine wx_imul hx hb dX4_feed_100 ?_
              refine wx_isub hx hb dX4_feed_101 (by omega) ?_
              refine lv_ishr hx hb dX4_feed_102 ?_
              refine lv_sipush (v := nI 255) hx hb dX4_feed_103 (by decide) ?_
              refine lv_iand hx hb dX4_feed_106 ?_
              refine wx_iast hx hb hK hP hD hS 1 1 rfl rfl (by omega) (by decide) dX4_feed_107 (fun H locs hP hD hS => ?_)
              have hP : va_P (dC, dI) vwCl [(oD, .inr (4, [.int (nI 0), .ref dF, .int (nI len), .int (nI ha), .ref dH, .int (nI sr), .ref dL, .int (nI en), .int (nI ram), .int (nI mz), .ref dM, .int (nI hp), .int (nI cn), .ref dP, .ref dS, .int (nI fk), .int fp, .int (nI ka), .int (nI kn), .int (nI sv), .ref dK])), (dF, .inl (cI, 3000, .inl (upd df3 (len + i) ((a5 >>> ((nI (24 - (8 * (i % 4)))) &&& 31)) &&& (nI 255)))))] H := hP
              have hD : va_D A [(oD, .inr (4, [.int (nI 0), .ref dF, .int (nI len), .int (nI ha), .ref dH, .int (nI sr), .ref dL, .int (nI en), .int (nI ram), .int (nI mz), .ref dM, .int (nI hp), .int (nI cn), .ref dP, .ref dS, .int (nI fk), .int fp, .int (nI ka), .int (nI kn), .int (nI sv), .ref dK])), (dF, .inl (cI, 3000, .inl (upd df3 (len + i) ((a5 >>> ((nI (24 - (8 * (i % 4)))) &&& 31)) &&& (nI 255)))))] := hD
              refine lv_iinc (v := nI (i + 1)) (lv' := [(6, .int (nI (i + 1))), (7, .int a5), (0, .ref oD), (1, .int a1), (2, .int a2), (3, .int a3), (4, .int a4), (5, .int a5)]) hx hb dX4_feed_108 hl (k := 7) rfl (by rw [show Int32.ofInt 1 = nI 1 by decide]; exact nI_add _ _) (by decide) rfl (fun ls hl => ?_)
              refine lv_goto (tgt := 24) hx hb dX4_feed_111 (by decide) ?_
              exact ih ((i + 1), (upd df3 (len + i) ((a5 >>> ((nI (24 - (8 * (i % 4)))) &&& 31)) &&& (nI 255)))) _ _ _ (by omega) ⟨by omega, gOk_s hg (by rw [sshr_b (by omega)]; unfold feedX sel5; (repeat' split) <;> first | (exfalso; omega) | (rw [Nat.add_sub_cancel_left]) | rfl), hP.sub [0, 1] rfl, hD.sub [0, 1] (by decide) rfl, hS, lv_sub hl [2, 3, 4, 5, 6, 7, 0] rfl⟩
            · skip
              refine lv_iload hx hb dX4_feed_70 (lv_at hl 4 rfl) ?_
              refine lv_goto (tgt := 77) hx hb dX4_feed_72 (by decide) ?_
              refine lv_istore (lv' := [(7, .int a4), (0, .ref oD), (1, .int a1), (2, .int a2), (3, .int a3), (4, .int a4), (5, .int a5), (6, .int (nI i))]) hx hb dX4_feed_77 hl (by decide) rfl (fun ls hl => ?_)
              refine lv_aload_n hx hb dX4_feed_79 rfl (lv_at hl 1 rfl) ?_
              refine va_get (D := (dC, dI)) (ci := 4) (v := .ref dF) (C := RX4) (T := TX4) (N := 21) hx hb hts (by decide +kernel) hown hK hP 0 rfl rfl 1 (by decide) (hts (.fieldLink RX4 7 "GlulxHeadsModel" "file" "[I") (by decide +kernel)) (fun _ h9 => h9) rfl dX4_feed_80 ?_
              refine lv_aload_n hx hb dX4_feed_83 rfl (lv_at hl 1 rfl) ?_
              refine va_get (D := (dC, dI)) (ci := 4) (v := .int (nI len)) (C := RX4) (T := TX4) (N := 21) hx hb hts (by decide +kernel) hown hK hP 0 rfl rfl 2 (by decide) (hts (.fieldLink RX4 36 "GlulxHeadsModel" "size" "I") (by decide +kernel)) (fun _ h9 => h9) rfl dX4_feed_84 ?_
              refine lv_iload hx hb dX4_feed_87 (lv_at hl 7 rfl) ?_
              refine wx_iadd hx hb dX4_feed_89 ?_
              refine lv_iload hx hb dX4_feed_90 (lv_at hl 0 rfl) ?_
              refine lv_bipush (v := nI 24) hx hb dX4_feed_92 (by decide) ?_
              refine lv_bipush (v := nI 8) hx hb dX4_feed_94 (by decide) ?_
              refine lv_iload hx hb dX4_feed_96 (lv_at hl 7 rfl) ?_
              refine lv_iconst (v := nI 4) hx hb dX4_feed_98 (by decide) ?_
              refine wx_irem hx hb dX4_feed_99 (by omega) (by omega) (by omega) ?_
              refine wx_imul hx hb dX4_feed_100 ?_
              refine wx_isub hx hb dX4_feed_101 (by omega) ?_
              refine lv_ishr hx hb dX4_feed_102 ?_
              refine lv_sipush (v := nI 255) hx hb dX4_feed_103 (by decide) ?_
              refine lv_iand hx hb dX4_feed_106 ?_
              refine wx_iast hx hb hK hP hD hS 1 1 rfl rfl (by omega) (by decide) dX4_feed_107 (fun H locs hP hD hS => ?_)
              have hP : va_P (dC, dI) vwCl [(oD, .inr (4, [.int (nI 0), .ref dF, .int (nI len), .int (nI ha), .ref dH, .int (nI sr), .ref dL, .int (nI en), .int (nI ram), .int (nI mz), .ref dM, .int (nI hp), .int (nI cn), .ref dP, .ref dS, .int (nI fk), .int fp, .int (nI ka), .int (nI kn), .int (nI sv), .ref dK])), (dF, .inl (cI, 3000, .inl (upd df3 (len + i) ((a4 >>> ((nI (24 - (8 * (i % 4)))) &&& 31)) &&& (nI 255)))))] H := hP
              have hD : va_D A [(oD, .inr (4, [.int (nI 0), .ref dF, .int (nI len), .int (nI ha), .ref dH, .int (nI sr), .ref dL, .int (nI en), .int (nI ram), .int (nI mz), .ref dM, .int (nI hp), .int (nI cn), .ref dP, .ref dS, .int (nI fk), .int fp, .int (nI ka), .int (nI kn), .int (nI sv), .ref dK])), (dF, .inl (cI, 3000, .inl (upd df3 (len + i) ((a4 >>> ((nI (24 - (8 * (i % 4)))) &&& 31)) &&& (nI 255)))))] := hD
              refine lv_iinc (v := nI (i + 1)) (lv' := [(6, .int (nI (i + 1))), (7, .int a4), (0, .ref oD), (1, .int a1), (2, .int a2), (3, .int a3), (4, .int a4), (5, .int a5)]) hx hb dX4_feed_108 hl (k := 7) rfl (by rw [show Int32.ofInt 1 = nI 1 by decide]; exact nI_add _ _) (by decide) rfl (fun ls hl => ?_)
              refine lv_goto (tgt := 24) hx hb dX4_feed_111 (by decide) ?_
              exact ih ((i + 1), (upd df3 (len + i) ((a4 >>> ((nI (24 - (8 * (i % 4)))) &&& 31)) &&& (nI 255)))) _ _ _ (by omega) ⟨by omega, gOk_s hg (by rw [sshr_b (by omega)]; unfold feedX sel5; (repeat' split) <;> first | (exfalso; omega) | (rw [Nat.add_sub_cancel_left]) | rfl), hP.sub [0, 1] rfl, hD.sub [0, 1] (by decide) rfl, hS, lv_sub hl [2, 3, 4, 5, 6, 7, 0] rfl⟩
          · skip
            refine lv_iload_n hx hb dX4_feed_59 rfl (lv_at hl 3 rfl) ?_
            refine lv_goto (tgt := 77) hx hb dX4_feed_60 (by decide) ?_
            refine lv_istore (lv' := [(7, .int a3), (0, .ref oD), (1, .int a1), (2, .int a2), (3, .int a3), (4, .int a4), (5, .int a5), (6, .int (nI i))]) hx hb dX4_feed_77 hl (by decide) rfl (fun ls hl => ?_)
            refine lv_aload_n hx hb dX4_feed_79 rfl (lv_at hl 1 rfl) ?_
            refine va_get (D := (dC, dI)) (ci := 4) (v := .ref dF) (C := RX4) (T := TX4) (N := 21) hx hb hts (by decide +kernel) hown hK hP 0 rfl rfl 1 (by decide) (hts (.fieldLink RX4 7 "GlulxHeadsModel" "file" "[I") (by decide +kernel)) (fun _ h9 => h9) rfl dX4_feed_80 ?_
            refine lv_aload_n hx hb dX4_feed_83 rfl (lv_at hl 1 rfl) ?_
            refine va_get (D := (dC, dI)) (ci := 4) (v := .int (nI len)) (C := RX4) (T := TX4) (N := 21) hx hb hts (by decide +kernel) hown hK hP 0 rfl rfl 2 (by decide) (hts (.fieldLink RX4 36 "GlulxHeadsModel" "size" "I") (by decide +kernel)) (fun _ h9 => h9) rfl dX4_feed_84 ?_
            refine lv_iload hx hb dX4_feed_87 (lv_at hl 7 rfl) ?_
            refine wx_iadd hx hb dX4_feed_89 ?_
            refine lv_iload hx hb dX4_feed_90 (lv_at hl 0 rfl) ?_
            refine lv_bipush (v := nI 24) hx hb dX4_feed_92 (by decide) ?_
            refine lv_bipush (v := nI 8) hx hb dX4_feed_94 (by decide) ?_
            refine lv_iload hx hb dX4_feed_96 (lv_at hl 7 rfl) ?_
            refine lv_iconst (v := nI 4) hx hb dX4_feed_98 (by decide) ?_
            refine wx_irem hx hb dX4_feed_99 (by omega) (by omega) (by omega) ?_
            refine wx_imul hx hb dX4_feed_100 ?_
            refine wx_isub hx hb dX4_feed_101 (by omega) ?_
            refine lv_ishr hx hb dX4_feed_102 ?_
            refine lv_sipush (v := nI 255) hx hb dX4_feed_103 (by decide) ?_
            refine lv_iand hx hb dX4_feed_106 ?_
            refine wx_iast hx hb hK hP hD hS 1 1 rfl rfl (by omega) (by decide) dX4_feed_107 (fun H locs hP hD hS => ?_)
            have hP : va_P (dC, dI) vwCl [(oD, .inr (4, [.int (nI 0), .ref dF, .int (nI len), .int (nI ha), .ref dH, .int (nI sr), .ref dL, .int (nI en), .int (nI ram), .int (nI mz), .ref dM, .int (nI hp), .int (nI cn), .ref dP, .ref dS, .int (nI fk), .int fp, .int (nI ka), .int (nI kn), .int (nI sv), .ref dK])), (dF, .inl (cI, 3000, .inl (upd df3 (len + i) ((a3 >>> ((nI (24 - (8 * (i % 4)))) &&& 31)) &&& (nI 255)))))] H := hP
            have hD : va_D A [(oD, .inr (4, [.int (nI 0), .ref dF, .int (nI len), .int (nI ha), .ref dH, .int (nI sr), .ref dL, .int (nI en), .int (nI ram), .int (nI mz), .ref dM, .int (nI hp), .int (nI cn), .ref dP, .ref dS, .int (nI fk), .int fp, .int (nI ka), .int (nI kn), .int (nI sv), .ref dK])), (dF, .inl (cI, 3000, .inl (upd df3 (len + i) ((a3 >>> ((nI (24 - (8 * (i % 4)))) &&& 31)) &&& (nI 255)))))] := hD
            refine lv_iinc (v := nI (i + 1)) (lv' := [(6, .int (nI (i + 1))), (7, .int a3), (0, .ref oD), (1, .int a1), (2, .int a2), (3, .int a3), (4, .int a4), (5, .int a5)]) hx hb dX4_feed_108 hl (k := 7) rfl (by rw [show Int32.ofInt 1 = nI 1 by decide]; exact nI_add _ _) (by decide) rfl (fun ls hl => ?_)
            refine lv_goto (tgt := 24) hx hb dX4_feed_111 (by decide) ?_
            exact ih ((i + 1), (upd df3 (len + i) ((a3 >>> ((nI (24 - (8 * (i % 4)))) &&& 31)) &&& (nI 255)))) _ _ _ (by omega) ⟨by omega, gOk_s hg (by rw [sshr_b (by omega)]; unfold feedX sel5; (repeat' split) <;> first | (exfalso; omega) | (rw [Nat.add_sub_cancel_left]) | rfl), hP.sub [0, 1] rfl, hD.sub [0, 1] (by decide) rfl, hS, lv_sub hl [2, 3, 4, 5, 6, 7, 0] rfl⟩
        · skip
          refine lv_iload_n hx hb dX4_feed_48 rfl (lv_at hl 2 rfl) ?_
          refine lv_goto (tgt := 77) hx hb dX4_feed_49 (by decide) ?_
          refine lv_istore (lv' := [(7, .int a2), (0, .ref oD), (1, .int a1), (2, .int a2), (3, .int a3), (4, .int a4), (5, .int a5), (6, .int (nI i))]) hx hb dX4_feed_77 hl (by decide) rfl (fun ls hl => ?_)
          refine lv_aload_n hx hb dX4_feed_79 rfl (lv_at hl 1 rfl) ?_
          refine va_get (D := (dC, dI)) (ci := 4) (v := .ref dF) (C := RX4) (T := TX4) (N := 21) hx hb hts (by decide +kernel) hown hK hP 0 rfl rfl 1 (by decide) (hts (.fieldLink RX4 7 "GlulxHeadsModel" "file" "[I") (by decide +kernel)) (fun _ h9 => h9) rfl dX4_feed_80 ?_
          refine lv_aload_n hx hb dX4_feed_83 rfl (lv_at hl 1 rfl) ?_
          refine va_get (D := (dC, dI)) (ci := 4) (v := .int (nI len)) (C := RX4) (T := TX4) (N := 21) hx hb hts (by decide +kernel) hown hK hP 0 rfl rfl 2 (by decide) (hts (.fieldLink RX4 36 "GlulxHeadsModel" "size" "I") (by decide +kernel)) (fun _ h9 => h9) rfl dX4_feed_84 ?_
          refine lv_iload hx hb dX4_feed_87 (lv_at hl 7 rfl) ?_
          refine wx_iadd hx hb dX4_feed_89 ?_
          refine lv_iload hx hb dX4_feed_90 (lv_at hl 0 rfl) ?_
          refine lv_bipush (v := nI 24) hx hb dX4_feed_92 (by decide) ?_
          refine lv_bipush (v := nI 8) hx hb dX4_feed_94 (by decide) ?_
          refine lv_iload hx hb dX4_feed_96 (lv_at hl 7 rfl) ?_
          refine lv_iconst (v := nI 4) hx hb dX4_feed_98 (by decide) ?_
          refine wx_irem hx hb dX4_feed_99 (by omega) (by omega) (by omega) ?_
          refine wx_imul hx hb dX4_feed_100 ?_
          refine wx_isub hx hb dX4_feed_101 (by omega) ?_
          refine lv_ishr hx hb dX4_feed_102 ?_
          refine lv_sipush (v := nI 255) hx hb dX4_feed_103 (by decide) ?_
          refine lv_iand hx hb dX4_feed_106 ?_
          refine wx_iast hx hb hK hP hD hS 1 1 rfl rfl (by omega) (by decide) dX4_feed_107 (fun H locs hP hD hS => ?_)
          have hP : va_P (dC, dI) vwCl [(oD, .inr (4, [.int (nI 0), .ref dF, .int (nI len), .int (nI ha), .ref dH, .int (nI sr), .ref dL, .int (nI en), .int (nI ram), .int (nI mz), .ref dM, .int (nI hp), .int (nI cn), .ref dP, .ref dS, .int (nI fk), .int fp, .int (nI ka), .int (nI kn), .int (nI sv), .ref dK])), (dF, .inl (cI, 3000, .inl (upd df3 (len + i) ((a2 >>> ((nI (24 - (8 * (i % 4)))) &&& 31)) &&& (nI 255)))))] H := hP
          have hD : va_D A [(oD, .inr (4, [.int (nI 0), .ref dF, .int (nI len), .int (nI ha), .ref dH, .int (nI sr), .ref dL, .int (nI en), .int (nI ram), .int (nI mz), .ref dM, .int (nI hp), .int (nI cn), .ref dP, .ref dS, .int (nI fk), .int fp, .int (nI ka), .int (nI kn), .int (nI sv), .ref dK])), (dF, .inl (cI, 3000, .inl (upd df3 (len + i) ((a2 >>> ((nI (24 - (8 * (i % 4)))) &&& 31)) &&& (nI 255)))))] := hD
          refine lv_iinc (v := nI (i + 1)) (lv' := [(6, .int (nI (i + 1))), (7, .int a2), (0, .ref oD), (1, .int a1), (2, .int a2), (3, .int a3), (4, .int a4), (5, .int a5)]) hx hb dX4_feed_108 hl (k := 7) rfl (by rw [show Int32.ofInt 1 = nI 1 by decide]; exact nI_add _ _) (by decide) rfl (fun ls hl => ?_)
          refine lv_goto (tgt := 24) hx hb dX4_feed_111 (by decide) ?_
          exact ih ((i + 1), (upd df3 (len + i) ((a2 >>> ((nI (24 - (8 * (i % 4)))) &&& 31)) &&& (nI 255)))) _ _ _ (by omega) ⟨by omega, gOk_s hg (by rw [sshr_b (by omega)]; unfold feedX sel5; (repeat' split) <;> first | (exfalso; omega) | (rw [Nat.add_sub_cancel_left]) | rfl), hP.sub [0, 1] rfl, hD.sub [0, 1] (by decide) rfl, hS, lv_sub hl [2, 3, 4, 5, 6, 7, 0] rfl⟩
      · skip
        refine lv_iload_n hx hb dX4_feed_37 rfl (lv_at hl 1 rfl) ?_
        refine lv_goto (tgt := 77) hx hb dX4_feed_38 (by decide) ?_
        refine lv_istore (lv' := [(7, .int a1), (0, .ref oD), (1, .int a1), (2, .int a2), (3, .int a3), (4, .int a4), (5, .int a5), (6, .int (nI i))]) hx hb dX4_feed_77 hl (by decide) rfl (fun ls hl => ?_)
        refine lv_aload_n hx hb dX4_feed_79 rfl (lv_at hl 1 rfl) ?_
        refine va_get (D := (dC, dI)) (ci := 4) (v := .ref dF) (C := RX4) (T := TX4) (N := 21) hx hb hts (by decide +kernel) hown hK hP 0 rfl rfl 1 (by decide) (hts (.fieldLink RX4 7 "GlulxHeadsModel" "file" "[I") (by decide +kernel)) (fun _ h9 => h9) rfl dX4_feed_80 ?_
        refine lv_aload_n hx hb dX4_feed_83 rfl (lv_at hl 1 rfl) ?_
        refine va_get (D := (dC, dI)) (ci := 4) (v := .int (nI len)) (C := RX4) (T := TX4) (N := 21) hx hb hts (by decide +kernel) hown hK hP 0 rfl rfl 2 (by decide) (hts (.fieldLink RX4 36 "GlulxHeadsModel" "size" "I") (by decide +kernel)) (fun _ h9 => h9) rfl dX4_feed_84 ?_
        refine lv_iload hx hb dX4_feed_87 (lv_at hl 7 rfl) ?_
        refine wx_iadd hx hb dX4_feed_89 ?_
        refine lv_iload hx hb dX4_feed_90 (lv_at hl 0 rfl) ?_
        refine lv_bipush (v := nI 24) hx hb dX4_feed_92 (by decide) ?_
        refine lv_bipush (v := nI 8) hx hb dX4_feed_94 (by decide) ?_
        refine lv_iload hx hb dX4_feed_96 (lv_at hl 7 rfl) ?_
        refine lv_iconst (v := nI 4) hx hb dX4_feed_98 (by decide) ?_
        refine wx_irem hx hb dX4_feed_99 (by omega) (by omega) (by omega) ?_
        refine wx_imul hx hb dX4_feed_100 ?_
        refine wx_isub hx hb dX4_feed_101 (by omega) ?_
        refine lv_ishr hx hb dX4_feed_102 ?_
        refine lv_sipush (v := nI 255) hx hb dX4_feed_103 (by decide) ?_
        refine lv_iand hx hb dX4_feed_106 ?_
        refine wx_iast hx hb hK hP hD hS 1 1 rfl rfl (by omega) (by decide) dX4_feed_107 (fun H locs hP hD hS => ?_)
        have hP : va_P (dC, dI) vwCl [(oD, .inr (4, [.int (nI 0), .ref dF, .int (nI len), .int (nI ha), .ref dH, .int (nI sr), .ref dL, .int (nI en), .int (nI ram), .int (nI mz), .ref dM, .int (nI hp), .int (nI cn), .ref dP, .ref dS, .int (nI fk), .int fp, .int (nI ka), .int (nI kn), .int (nI sv), .ref dK])), (dF, .inl (cI, 3000, .inl (upd df3 (len + i) ((a1 >>> ((nI (24 - (8 * (i % 4)))) &&& 31)) &&& (nI 255)))))] H := hP
        have hD : va_D A [(oD, .inr (4, [.int (nI 0), .ref dF, .int (nI len), .int (nI ha), .ref dH, .int (nI sr), .ref dL, .int (nI en), .int (nI ram), .int (nI mz), .ref dM, .int (nI hp), .int (nI cn), .ref dP, .ref dS, .int (nI fk), .int fp, .int (nI ka), .int (nI kn), .int (nI sv), .ref dK])), (dF, .inl (cI, 3000, .inl (upd df3 (len + i) ((a1 >>> ((nI (24 - (8 * (i % 4)))) &&& 31)) &&& (nI 255)))))] := hD
        refine lv_iinc (v := nI (i + 1)) (lv' := [(6, .int (nI (i + 1))), (7, .int a1), (0, .ref oD), (1, .int a1), (2, .int a2), (3, .int a3), (4, .int a4), (5, .int a5)]) hx hb dX4_feed_108 hl (k := 7) rfl (by rw [show Int32.ofInt 1 = nI 1 by decide]; exact nI_add _ _) (by decide) rfl (fun ls hl => ?_)
        refine lv_goto (tgt := 24) hx hb dX4_feed_111 (by decide) ?_
        exact ih ((i + 1), (upd df3 (len + i) ((a1 >>> ((nI (24 - (8 * (i % 4)))) &&& 31)) &&& (nI 255)))) _ _ _ (by omega) ⟨by omega, gOk_s hg (by rw [sshr_b (by omega)]; unfold feedX sel5; (repeat' split) <;> first | (exfalso; omega) | (rw [Nat.add_sub_cancel_left]) | rfl), hP.sub [0, 1] rfl, hD.sub [0, 1] (by decide) rfl, hS, lv_sub hl [2, 3, 4, 5, 6, 7, 0] rfl⟩
  · skip
    refine lv_bipush (v := (-4)) hx hb dX4_feed_18 (by decide) ?_
    have hP9 := hP.sub (ws' := [(oD, .inr (4, [.int (nI 0), .ref dF, .int (nI len), .int (nI ha), .ref dH, .int (nI sr), .ref dL, .int (nI en), .int (nI ram), .int (nI mz), .ref dM, .int (nI hp), .int (nI cn), .ref dP, .ref dS, .int (nI fk), .int fp, .int (nI ka), .int (nI kn), .int (nI sv), .ref dK])), (dF, .inl (cI, 3000, .inl df))]) [0, 1] rfl
    have hD9 := hD.sub (ws' := [(oD, .inr (4, [.int (nI 0), .ref dF, .int (nI len), .int (nI ha), .ref dH, .int (nI sr), .ref dL, .int (nI en), .int (nI ram), .int (nI mz), .ref dM, .int (nI hp), .int (nI cn), .ref dP, .ref dS, .int (nI fk), .int fp, .int (nI ka), .int (nI kn), .int (nI sv), .ref dK])), (dF, .inl (cI, 3000, .inl df))]) [0, 1] (by decide) rfl
    exact W.iret (v := (-4)) hx hb hr (fun t ht hW => ⟨⟨(-4), (df, len), rfl, ⟨by unfold feedR; rw [if_neg (by omega)], by unfold feedL; rw [if_neg (by omega)], by unfold feedB; rw [if_neg (by omega)]; exact hf⟩, by rw [ht]; exact hP9, hD9⟩, hS.F ht⟩) hS.2.2 dX4_feed_20
set_option maxHeartbeats 4000000 in
set_option maxRecDepth 100000 in
theorem c_X4_fill (l : Launch) (dC : Nat → ClassId) (dI : Nat → Nat → Nat) (cB cI cJ : ClassId) (sz : Nat) (oD : Nat) (th : Nat) (dF : Nat) (len : Nat) (ha : Nat) (dH : Nat) (sr : Nat) (dL : Nat) (en : Nat) (ram : Nat) (mz : Nat) (dM : Nat) (hp : Nat) (cn : Nat) (dP : Nat) (dS : Nat) (fk : Nat) (fp : Int32) (ka : Nat) (kn : Nat) (sv : Nat) (dK : Nat) (df : Nat → Int32) (fb : Nat → Nat) (nv : Int32) (seed : Int32) (hlen : len ≤ 3000) (hf : gOk df len fb) : Met l yX4_fill wsX4_fill ({ frames := 1, cells := 0, slots := 0, locals := 25 }) (va_Pc [.ref oD, .int nv, .int seed] (wPre dC dI cB cI cJ sz [(oD, .inr (4, [.int (nI th), .ref dF, .int (nI len), .int (nI ha), .ref dH, .int (nI sr), .ref dL, .int (nI en), .int (nI ram), .int (nI mz), .ref dM, .int (nI hp), .int (nI cn), .ref dP, .ref dS, .int (nI fk), .int fp, .int (nI ka), .int (nI kn), .int (nI sv), .ref dK])), (dF, .inl (cI, 3000, .inl df))])) (va_Qi (fun (r : Int32) (u : (Nat → Int32) × Nat) => r = fillR len nv ∧ u.2 = fillL len nv ∧ gOk u.1 u.2 (fillB fb len nv seed)) (fun (u : (Nat → Int32) × Nat) => wPost dC dI (va_A [(oD, .inr (4, [.int (nI th), .ref dF, .int (nI len), .int (nI ha), .ref dH, .int (nI sr), .ref dL, .int (nI en), .int (nI ram), .int (nI mz), .ref dM, .int (nI hp), .int (nI cn), .ref dP, .ref dS, .int (nI fk), .int fp, .int (nI ka), .int (nI kn), .int (nI sv), .ref dK])), (dF, .inl (cI, 3000, .inl df))] sz) [(oD, .inr (4, [.int (nI 0), .ref dF, .int (nI u.2), .int (nI ha), .ref dH, .int (nI sr), .ref dL, .int (nI en), .int (nI ram), .int (nI mz), .ref dM, .int (nI hp), .int (nI cn), .ref dP, .ref dS, .int (nI fk), .int fp, .int (nI ka), .int (nI kn), .int (nI sv), .ref dK])), (dF, .inl (cI, 3000, .inl u.1))]) (va_A [(oD, .inr (4, [.int (nI th), .ref dF, .int (nI len), .int (nI ha), .ref dH, .int (nI sr), .ref dL, .int (nI en), .int (nI ram), .int (nI mz), .ref dM, .int (nI hp), .int (nI cn), .ref dP, .ref dS, .int (nI fk), .int fp, .int (nI ka), .int (nI kn), .int (nI sv), .ref dK])), (dF, .inl (cI, 3000, .inl df))] sz)) 0 0 (va_A [(oD, .inr (4, [.int (nI th), .ref dF, .int (nI len), .int (nI ha), .ref dH, .int (nI sr), .ref dL, .int (nI en), .int (nI ram), .int (nI mz), .ref dM, .int (nI hp), .int (nI cn), .ref dP, .ref dS, .int (nI fk), .int fp, .int (nI ka), .int (nI kn), .int (nI sv), .ref dK])), (dF, .inl (cI, 3000, .inl df))] sz) := by
  refine Met.ofW (cc := cX4_fill) (maxL := 5) (ret := (some .int)) (by decide) rfl ?_
  intro p e s m args below meth c s₁ B hml hv
  obtain ⟨rfl, hsz, hP, hK, hD0, hN⟩ := hv
  have hx := B.exec
  have hb := B.bytes
  have hr := B.returns
  have hts := atoms_spec (ws := wsX4_fill) B.pre
  have hown : s.vm.findClass RX4 = some m.cls := findClass_of_methodNamed B.named
  have hlocks := B.notSynchronized
  subst hsz
  have hD := hD0.self (sz := s.heap.size)
  generalize hAe : va_A [(oD, .inr (4, [.int (nI th), .ref dF, .int (nI len), .int (nI ha), .ref dH, .int (nI sr), .ref dL, .int (nI en), .int (nI ram), .int (nI mz), .ref dM, .int (nI hp), .int (nI cn), .ref dP, .ref dS, .int (nI fk), .int fp, .int (nI ka), .int (nI kn), .int (nI sv), .ref dK])), (dF, .inl (cI, 3000, .inl df))] s.heap.size = A at hD ⊢
  have hA : ∀ q : Nat, s.heap.size ≤ q → A q := fun q h => by rw [← hAe]; exact Or.inr h
  have hS : va_S A s.heap s.heap [] := va_S.rf
  have hP : va_P (dC, dI) vwCl [(oD, .inr (4, [.int (nI th), .ref dF, .int (nI len), .int (nI ha), .ref dH, .int (nI sr), .ref dL, .int (nI en), .int (nI ram), .int (nI mz), .ref dM, .int (nI hp), .int (nI cn), .ref dP, .ref dS, .int (nI fk), .int fp, .int (nI ka), .int (nI kn), .int (nI sv), .ref dK])), (dF, .inl (cI, 3000, .inl df))] s.heap := hP
  have hl := lv_entry ([.ref oD, .int nv, .int seed]) (n := 5) (Nat.le_of_ble_eq_true rfl)
  rw [lg_entry_eq]
  generalize (lg_sl ([.ref oD, .int nv, .int seed]) ++ List.replicate (5 - (lg_sl ([.ref oD, .int nv, .int seed])).length) Slot.unset).toArray = ls at hl ⊢
  have hl : lv_has ls 5 [(0, .ref oD), (1, .int nv), (2, .int seed)] := hl
  refine lv_aload_n hx hb dX4_fill_0 rfl (lv_at hl 0 rfl) ?_
  refine lv_iconst (v := nI 0) hx hb dX4_fill_1 (by decide) ?_
  refine va_put (D := (dC, dI)) (ci := 4) (v := .int (nI 0)) (ty := .int) (C := RX4) (T := TX4) (N := 21) hx hb hts (by decide +kernel) tyX4 tyX4_ok nmX4 hown hK hP hD hS 0 rfl rfl 0 (by decide) (hts (.fieldLink RX4 32 "GlulxHeadsModel" "thrown" "I") (by decide +kernel)) (fun _ h9 => h9) rfl (by decide +kernel) rfl rfl (Nat.le_of_ble_eq_true rfl) dX4_fill_2 (fun H locs hP hD hS => ?_)
  have hP : va_P (dC, dI) vwCl [(oD, .inr (4, [.int (nI 0), .ref dF, .int (nI len), .int (nI ha), .ref dH, .int (nI sr), .ref dL, .int (nI en), .int (nI ram), .int (nI mz), .ref dM, .int (nI hp), .int (nI cn), .ref dP, .ref dS, .int (nI fk), .int fp, .int (nI ka), .int (nI kn), .int (nI sv), .ref dK])), (dF, .inl (cI, 3000, .inl df))] H := hP
  have hD : va_D A [(oD, .inr (4, [.int (nI 0), .ref dF, .int (nI len), .int (nI ha), .ref dH, .int (nI sr), .ref dL, .int (nI en), .int (nI ram), .int (nI mz), .ref dM, .int (nI hp), .int (nI cn), .ref dP, .ref dS, .int (nI fk), .int fp, .int (nI ka), .int (nI kn), .int (nI sv), .ref dK])), (dF, .inl (cI, 3000, .inl df))] := hD
  refine lv_iload_n hx hb dX4_fill_5 rfl (lv_at hl 1 rfl) ?_
  refine lv_i2l (v := nv.toInt64) hx hb dX4_fill_6 rfl ?_
  refine lv_lconst (v := lN 1) hx hb dX4_fill_7 (by decide) ?_
  refine lv_ldc2 (v := lN 3000) hx hb hown (hts (.constantLong RX4 39 (3000)) (by decide +kernel)) dX4_fill_8 ?_
  have hPc := hP.sub (ws' := []) [] rfl
  have hDc := hD.sub (ws' := []) [] (by decide) rfl
  have hFc := va_free (wc := []) hD hS hA [] rfl
  refine va_calli (va_runS (As := [.long nv.toInt64, .long (lN 1), .long (lN 3000)]) (rest := []) ⟨hx, hb, hml, hown, hts⟩ (c_X4_in l dC dI cB cI cJ H.size nv.toInt64 (lN 1) (lN 3000) ) (va_cwS 3 hts gX4_fill_X4_in rfl rfl rfl (by decide +kernel) ⟨Nat.le_of_ble_eq_true rfl, Nat.le_of_ble_eq_true rfl⟩) ⟨wBlind, wGo hK hPc hDc hN⟩ rfl rfl hl.1 rfl (lv_room (Nat.le_of_ble_eq_true rfl)) dX4_fill_11 ⟨show 0 ≤ 0 by decide, show 0 ≤ 0 by decide⟩) hS (fun q _ h => hFc q h) hFc (fun r_2 u t H1 locs ht hvm w_3 hB hz1 hk1 hS => ?_)
  clear u
  obtain ⟨hP1, hD1⟩ := hB
  rw [ht] at hP1
  try dsimp only at w_3
  obtain ⟨hP, hD⟩ := va_join (wr := [(oD, .inr (4, [.int (nI 0), .ref dF, .int (nI len), .int (nI ha), .ref dH, .int (nI sr), .ref dL, .int (nI en), .int (nI ram), .int (nI mz), .ref dM, .int (nI hp), .int (nI cn), .ref dP, .ref dS, .int (nI fk), .int fp, .int (nI ka), .int (nI kn), .int (nI sv), .ref dK])), (dF, .inl (cI, 3000, .inl df))]) (w1 := []) hP hD [] [0, 1] rfl rfl (by decide) (by decide) hk1 hFc hP1 hD1
  clear hPc hDc hFc hP1 hD1 hz1 hk1 hvm
  generalize H1 = H at hP hS ⊢
  have hP : va_P (dC, dI) vwCl [(oD, .inr (4, [.int (nI 0), .ref dF, .int (nI len), .int (nI ha), .ref dH, .int (nI sr), .ref dL, .int (nI en), .int (nI ram), .int (nI mz), .ref dM, .int (nI hp), .int (nI cn), .ref dP, .ref dS, .int (nI fk), .int fp, .int (nI ka), .int (nI kn), .int (nI sv), .ref dK])), (dF, .inl (cI, 3000, .inl df))] H := hP
  have hD : va_D A [(oD, .inr (4, [.int (nI 0), .ref dF, .int (nI len), .int (nI ha), .ref dH, .int (nI sr), .ref dL, .int (nI en), .int (nI ram), .int (nI mz), .ref dM, .int (nI hp), .int (nI cn), .ref dP, .ref dS, .int (nI fk), .int fp, .int (nI ka), .int (nI kn), .int (nI sv), .ref dK])), (dF, .inl (cI, 3000, .inl df))] := hD
  have hz0 : (nv.toInt64).toInt = nv.toInt := Int32.toInt_toInt64 _
  have hz1 : (lN 1).toInt = ((1 : Nat) : Int) := pk_lT (by first | omega | (split <;> omega))
  have hz2 : (lN 3000).toInt = ((3000 : Nat) : Int) := pk_lT (by first | omega | (split <;> omega))
  have hwi : r_2 = nI (if 1 ≤ nv.toInt ∧ nv.toInt ≤ 3000 then 1 else 0) := by rw [w_3]; exact wif (by constructor <;> (intro z; omega))
  clear w_3
  subst hwi
  refine wx_if_ne (tgt := 20) hx hb dX4_fill_14 (by decide) (by first | omega | (split <;> omega)) (fun c_4 => ?_) (fun c_4 => ?_)
  · skip
    have c_4 := wz_pos c_4
    obtain ⟨n, hn, rfl⟩ : ∃ n : Nat, n < 2147483648 ∧ nv = nI n := nI_of (by intro z; rw [Int32.lt_iff_toInt_lt, show (0 : Int32).toInt = 0 by decide] at z; omega)
    have hnE : (nI n).toInt = (n : Int) := nI_toInt hn
    have hnT : (nI n).toInt.toNat = n := by rw [hnE]; exact Int.toNat_natCast _
    refine lv_aload_n hx hb dX4_fill_20 rfl (lv_at hl 0 rfl) ?_
    refine va_get (D := (dC, dI)) (ci := 4) (v := .int (nI len)) (C := RX4) (T := TX4) (N := 21) hx hb hts (by decide +kernel) hown hK hP 0 rfl rfl 2 (by decide) (hts (.fieldLink RX4 36 "GlulxHeadsModel" "size" "I") (by decide +kernel)) (fun _ h9 => h9) rfl dX4_fill_21 ?_
    refine lv_iload_n hx hb dX4_fill_24 rfl (lv_at hl 1 rfl) ?_
    refine wx_iadd hx hb dX4_fill_25 ?_
    refine lv_sipush (v := nI 3000) hx hb dX4_fill_26 (by decide) ?_
    refine wx_icmp_le (tgt := 35) hx hb dX4_fill_29 (by decide) (by first | omega | (split <;> omega)) (by first | omega | (split <;> omega)) (fun c_5 => ?_) (fun c_5 => ?_)
    · skip
      refine lv_iload_n hx hb dX4_fill_35 rfl (lv_at hl 2 rfl) ?_
      refine lv_istore_n (lv' := [(3, .int seed), (0, .ref oD), (1, .int (nI n)), (2, .int seed)]) hx hb dX4_fill_36 rfl hl (by decide) rfl (fun ls hl => ?_)
      refine lv_iconst (v := nI 0) hx hb dX4_fill_37 (by decide) ?_
      refine lv_istore (lv' := [(4, .int (nI 0)), (3, .int seed), (0, .ref oD), (1, .int (nI n)), (2, .int seed)]) hx hb dX4_fill_38 hl (by decide) rfl (fun ls hl => ?_)
      refine wx_loop (σ := Nat × (Nat → Int32)) (fun xq9 => n - xq9.1) (fun xq9 H locs ls => (xq9.1 ≤ n) ∧ (gOk xq9.2 (len + xq9.1) (fillX fb len n seed)) ∧ va_P (dC, dI) vwCl [(oD, .inr (4, [.int (nI 0), .ref dF, .int (nI len), .int (nI ha), .ref dH, .int (nI sr), .ref dL, .int (nI en), .int (nI ram), .int (nI mz), .ref dM, .int (nI hp), .int (nI cn), .ref dP, .ref dS, .int (nI fk), .int fp, .int (nI ka), .int (nI kn), .int (nI sv), .ref dK])), (dF, .inl (cI, 3000, .inl xq9.2))] H ∧ va_D A [(oD, .inr (4, [.int (nI 0), .ref dF, .int (nI len), .int (nI ha), .ref dH, .int (nI sr), .ref dL, .int (nI en), .int (nI ram), .int (nI mz), .ref dM, .int (nI hp), .int (nI cn), .ref dP, .ref dS, .int (nI fk), .int fp, .int (nI ka), .int (nI kn), .int (nI sv), .ref dK])), (dF, .inl (cI, 3000, .inl xq9.2))] ∧ va_S A s.heap H locs ∧ lv_has ls 5 [(0, .ref oD), (1, .int (nI n)), (2, .int seed), (3, .int (fx seed xq9.1)), (4, .int (nI xq9.1))]) ?_ (0, df) _ _ _ ⟨by first | omega | (split <;> omega), gOk_eq hf (fun j hj => by unfold fillX; rw [if_neg (by omega)]), hP.sub [0, 1] rfl, hD.sub [0, 1] (by decide) rfl, hS, lv_sub hl [2, 3, 4, 1, 0] rfl⟩
      rintro ⟨i, df3⟩ H locs ls ⟨hi, hg, hP, hD, hS, hl⟩ ih
      have hi : i ≤ n := hi
      have hg : gOk df3 (len + i) (fillX fb len n seed) := hg
      have hP : va_P (dC, dI) vwCl [(oD, .inr (4, [.int (nI 0), .ref dF, .int (nI len), .int (nI ha), .ref dH, .int (nI sr), .ref dL, .int (nI en), .int (nI ram), .int (nI mz), .ref dM, .int (nI hp), .int (nI cn), .ref dP, .ref dS, .int (nI fk), .int fp, .int (nI ka), .int (nI kn), .int (nI sv), .ref dK])), (dF, .inl (cI, 3000, .inl df3))] H := hP
      have hD : va_D A [(oD, .inr (4, [.int (nI 0), .ref dF, .int (nI len), .int (nI ha), .ref dH, .int (nI sr), .ref dL, .int (nI en), .int (nI ram), .int (nI mz), .ref dM, .int (nI hp), .int (nI cn), .ref dP, .ref dS, .int (nI fk), .int fp, .int (nI ka), .int (nI kn), .int (nI sv), .ref dK])), (dF, .inl (cI, 3000, .inl df3))] := hD
      have hl : lv_has ls 5 [(0, .ref oD), (1, .int (nI n)), (2, .int seed), (3, .int (fx seed i)), (4, .int (nI i))] := hl
      refine lv_iload hx hb dX4_fill_40 (lv_at hl 4 rfl) ?_
      refine lv_iload_n hx hb dX4_fill_42 rfl (lv_at hl 1 rfl) ?_
      refine wx_icmp_ge (tgt := 81) hx hb dX4_fill_43 (by decide) (by first | omega | (split <;> omega)) (by first | omega | (split <;> omega)) (fun c_6 => ?_) (fun c_6 => ?_)
      · skip
        refine lv_aload_n hx hb dX4_fill_81 rfl (lv_at hl 0 rfl) ?_
        refine lv_dup hx hb dX4_fill_82 rfl ?_
        refine va_get (D := (dC, dI)) (ci := 4) (v := .int (nI len)) (C := RX4) (T := TX4) (N := 21) hx hb hts (by decide +kernel) hown hK hP 0 rfl rfl 2 (by decide) (hts (.fieldLink RX4 36 "GlulxHeadsModel" "size" "I") (by decide +kernel)) (fun _ h9 => h9) rfl dX4_fill_83 ?_
        refine lv_iload_n hx hb dX4_fill_86 rfl (lv_at hl 1 rfl) ?_
        refine wx_iadd hx hb dX4_fill_87 ?_
        refine va_put (D := (dC, dI)) (ci := 4) (v := .int (nI (len + n))) (ty := .int) (C := RX4) (T := TX4) (N := 21) hx hb hts (by decide +kernel) tyX4 tyX4_ok nmX4 hown hK hP hD hS 0 rfl rfl 2 (by decide) (hts (.fieldLink RX4 36 "GlulxHeadsModel" "size" "I") (by decide +kernel)) (fun _ h9 => h9) rfl (by decide +kernel) rfl rfl (Nat.le_of_ble_eq_true rfl) dX4_fill_88 (fun H locs hP hD hS => ?_)
        have hP : va_P (dC, dI) vwCl [(oD, .inr (4, [.int (nI 0), .ref dF, .int (nI (len + n)), .int (nI ha), .ref dH, .int (nI sr), .ref dL, .int (nI en), .int (nI ram), .int (nI mz), .ref dM, .int (nI hp), .int (nI cn), .ref dP, .ref dS, .int (nI fk), .int fp, .int (nI ka), .int (nI kn), .int (nI sv), .ref dK])), (dF, .inl (cI, 3000, .inl df3))] H := hP
        have hD : va_D A [(oD, .inr (4, [.int (nI 0), .ref dF, .int (nI (len + n)), .int (nI ha), .ref dH, .int (nI sr), .ref dL, .int (nI en), .int (nI ram), .int (nI mz), .ref dM, .int (nI hp), .int (nI cn), .ref dP, .ref dS, .int (nI fk), .int fp, .int (nI ka), .int (nI kn), .int (nI sv), .ref dK])), (dF, .inl (cI, 3000, .inl df3))] := hD
        refine lv_aload_n hx hb dX4_fill_91 rfl (lv_at hl 0 rfl) ?_
        refine va_get (D := (dC, dI)) (ci := 4) (v := .int (nI (len + n))) (C := RX4) (T := TX4) (N := 21) hx hb hts (by decide +kernel) hown hK hP 0 rfl rfl 2 (by decide) (hts (.fieldLink RX4 36 "GlulxHeadsModel" "size" "I") (by decide +kernel)) (fun _ h9 => h9) rfl dX4_fill_92 ?_
        have hP9 := hP.sub (ws' := [(oD, .inr (4, [.int (nI 0), .ref dF, .int (nI (len + n)), .int (nI ha), .ref dH, .int (nI sr), .ref dL, .int (nI en), .int (nI ram), .int (nI mz), .ref dM, .int (nI hp), .int (nI cn), .ref dP, .ref dS, .int (nI fk), .int fp, .int (nI ka), .int (nI kn), .int (nI sv), .ref dK])), (dF, .inl (cI, 3000, .inl df3))]) [0, 1] rfl
        have hD9 := hD.sub (ws' := [(oD, .inr (4, [.int (nI 0), .ref dF, .int (nI (len + n)), .int (nI ha), .ref dH, .int (nI sr), .ref dL, .int (nI en), .int (nI ram), .int (nI mz), .ref dM, .int (nI hp), .int (nI cn), .ref dP, .ref dS, .int (nI fk), .int fp, .int (nI ka), .int (nI kn), .int (nI sv), .ref dK])), (dF, .inl (cI, 3000, .inl df3))]) [0, 1] (by decide) rfl
        exact W.iret (v := nI (len + n)) hx hb hr (fun t ht hW => ⟨⟨(nI (len + n)), (df3, (len + n)), rfl, ⟨by unfold fillR; rw [if_neg (by omega), if_pos (by omega), hnT], by unfold fillL; rw [if_pos (by omega), hnT], by unfold fillB; rw [if_pos (by omega), hnT, show len + n = len + i by omega]; exact hg⟩, by rw [ht]; exact hP9, hD9⟩, hS.F ht⟩) hS.2.2 dX4_fill_95
      · skip
        refine lv_iload_n hx hb dX4_fill_46 rfl (lv_at hl 3 rfl) ?_
        refine lv_ldc (v := nI 1103515245) hx hb hown (hts (.constant RX4 45 (1103515245)) (by decide +kernel)) dX4_fill_47 ?_
        refine lv_imul hx hb dX4_fill_49 ?_
        refine lv_sipush (v := nI 12345) hx hb dX4_fill_50 (by decide) ?_
        refine lv_iadd hx hb dX4_fill_53 ?_
        refine wx_top (show _ = fx seed (i + 1) from rfl) ?_
        refine lv_istore_n (lv' := [(3, .int (fx seed (i + 1))), (0, .ref oD), (1, .int (nI n)), (2, .int seed), (4, .int (nI i))]) hx hb dX4_fill_54 rfl hl (by decide) rfl (fun ls hl => ?_)
        refine lv_aload_n hx hb dX4_fill_55 rfl (lv_at hl 1 rfl) ?_
        refine va_get (D := (dC, dI)) (ci := 4) (v := .ref dF) (C := RX4) (T := TX4) (N := 21) hx hb hts (by decide +kernel) hown hK hP 0 rfl rfl 1 (by decide) (hts (.fieldLink RX4 7 "GlulxHeadsModel" "file" "[I") (by decide +kernel)) (fun _ h9 => h9) rfl dX4_fill_56 ?_
        refine lv_aload_n hx hb dX4_fill_59 rfl (lv_at hl 1 rfl) ?_
        refine va_get (D := (dC, dI)) (ci := 4) (v := .int (nI len)) (C := RX4) (T := TX4) (N := 21) hx hb hts (by decide +kernel) hown hK hP 0 rfl rfl 2 (by decide) (hts (.fieldLink RX4 36 "GlulxHeadsModel" "size" "I") (by decide +kernel)) (fun _ h9 => h9) rfl dX4_fill_60 ?_
        refine lv_iload hx hb dX4_fill_63 (lv_at hl 4 rfl) ?_
        refine wx_iadd hx hb dX4_fill_65 ?_
        refine lv_iload_n hx hb dX4_fill_66 rfl (lv_at hl 0 rfl) ?_
        refine lv_bipush (v := nI 16) hx hb dX4_fill_67 (by decide) ?_
        refine lv_ishr hx hb dX4_fill_69 ?_
        refine lv_sipush (v := nI 255) hx hb dX4_fill_70 (by decide) ?_
        refine lv_iand hx hb dX4_fill_73 ?_
        refine wx_iast hx hb hK hP hD hS 1 1 rfl rfl (by first | omega | (split <;> omega)) (by decide) dX4_fill_74 (fun H locs hP hD hS => ?_)
        have hP : va_P (dC, dI) vwCl [(oD, .inr (4, [.int (nI 0), .ref dF, .int (nI len), .int (nI ha), .ref dH, .int (nI sr), .ref dL, .int (nI en), .int (nI ram), .int (nI mz), .ref dM, .int (nI hp), .int (nI cn), .ref dP, .ref dS, .int (nI fk), .int fp, .int (nI ka), .int (nI kn), .int (nI sv), .ref dK])), (dF, .inl (cI, 3000, .inl (upd df3 (len + i) (((fx seed (i + 1)) >>> ((nI 16) &&& 31)) &&& (nI 255)))))] H := hP
        have hD : va_D A [(oD, .inr (4, [.int (nI 0), .ref dF, .int (nI len), .int (nI ha), .ref dH, .int (nI sr), .ref dL, .int (nI en), .int (nI ram), .int (nI mz), .ref dM, .int (nI hp), .int (nI cn), .ref dP, .ref dS, .int (nI fk), .int fp, .int (nI ka), .int (nI kn), .int (nI sv), .ref dK])), (dF, .inl (cI, 3000, .inl (upd df3 (len + i) (((fx seed (i + 1)) >>> ((nI 16) &&& 31)) &&& (nI 255)))))] := hD
        refine lv_iinc (v := nI (i + 1)) (lv' := [(4, .int (nI (i + 1))), (3, .int (fx seed (i + 1))), (0, .ref oD), (1, .int (nI n)), (2, .int seed)]) hx hb dX4_fill_75 hl (k := 4) rfl (by rw [show Int32.ofInt 1 = nI 1 by decide]; exact nI_add _ _) (by decide) rfl (fun ls hl => ?_)
        refine lv_goto (tgt := 40) hx hb dX4_fill_78 (by decide) ?_
        exact ih ((i + 1), (upd df3 (len + i) (((fx seed (i + 1)) >>> ((nI 16) &&& 31)) &&& (nI 255)))) _ _ _ (by omega) ⟨by first | omega | (split <;> omega), gOk_s hg (by rw [sshr_b (by omega)]; unfold fillX; rw [if_pos (by omega), Nat.add_sub_cancel_left]), hP.sub [0, 1] rfl, hD.sub [0, 1] (by decide) rfl, hS, lv_sub hl [2, 3, 4, 1, 0] rfl⟩
    · skip
      refine lv_bipush (v := (-4)) hx hb dX4_fill_32 (by decide) ?_
      have hP9 := hP.sub (ws' := [(oD, .inr (4, [.int (nI 0), .ref dF, .int (nI len), .int (nI ha), .ref dH, .int (nI sr), .ref dL, .int (nI en), .int (nI ram), .int (nI mz), .ref dM, .int (nI hp), .int (nI cn), .ref dP, .ref dS, .int (nI fk), .int fp, .int (nI ka), .int (nI kn), .int (nI sv), .ref dK])), (dF, .inl (cI, 3000, .inl df))]) [0, 1] rfl
      have hD9 := hD.sub (ws' := [(oD, .inr (4, [.int (nI 0), .ref dF, .int (nI len), .int (nI ha), .ref dH, .int (nI sr), .ref dL, .int (nI en), .int (nI ram), .int (nI mz), .ref dM, .int (nI hp), .int (nI cn), .ref dP, .ref dS, .int (nI fk), .int fp, .int (nI ka), .int (nI kn), .int (nI sv), .ref dK])), (dF, .inl (cI, 3000, .inl df))]) [0, 1] (by decide) rfl
      exact W.iret (v := (-4)) hx hb hr (fun t ht hW => ⟨⟨(-4), (df, len), rfl, ⟨by unfold fillR; rw [if_neg (by omega), if_neg (by omega)], by unfold fillL; rw [if_neg (by omega)], by unfold fillB; rw [if_neg (by omega)]; exact hf⟩, by rw [ht]; exact hP9, hD9⟩, hS.F ht⟩) hS.2.2 dX4_fill_34
  · skip
    have c_4 := wz_zero c_4
    refine lv_bipush (v := (-2)) hx hb dX4_fill_17 (by decide) ?_
    have hP9 := hP.sub (ws' := [(oD, .inr (4, [.int (nI 0), .ref dF, .int (nI len), .int (nI ha), .ref dH, .int (nI sr), .ref dL, .int (nI en), .int (nI ram), .int (nI mz), .ref dM, .int (nI hp), .int (nI cn), .ref dP, .ref dS, .int (nI fk), .int fp, .int (nI ka), .int (nI kn), .int (nI sv), .ref dK])), (dF, .inl (cI, 3000, .inl df))]) [0, 1] rfl
    have hD9 := hD.sub (ws' := [(oD, .inr (4, [.int (nI 0), .ref dF, .int (nI len), .int (nI ha), .ref dH, .int (nI sr), .ref dL, .int (nI en), .int (nI ram), .int (nI mz), .ref dM, .int (nI hp), .int (nI cn), .ref dP, .ref dS, .int (nI fk), .int fp, .int (nI ka), .int (nI kn), .int (nI sv), .ref dK])), (dF, .inl (cI, 3000, .inl df))]) [0, 1] (by decide) rfl
    exact W.iret (v := (-2)) hx hb hr (fun t ht hW => ⟨⟨(-2), (df, len), rfl, ⟨by unfold fillR; rw [if_pos (by omega)], by unfold fillL; rw [if_neg (by omega)], by unfold fillB; rw [if_neg (by omega)]; exact hf⟩, by rw [ht]; exact hP9, hD9⟩, hS.F ht⟩) hS.2.2 dX4_fill_19
set_option maxHeartbeats 4000000 in
set_option maxRecDepth 100000 in
theorem c_X4_word (l : Launch) (dC : Nat → ClassId) (dI : Nat → Nat → Nat) (cB cI cJ : ClassId) (sz : Nat) (oD : Nat) (th : Nat) (dF : Nat) (len : Nat) (ha : Nat) (dH : Nat) (sr : Nat) (dL : Nat) (en : Nat) (ram : Nat) (mz : Nat) (dM : Nat) (hp : Nat) (cn : Nat) (dP : Nat) (dS : Nat) (fk : Nat) (fp : Int32) (ka : Nat) (kn : Nat) (sv : Nat) (dK : Nat) (df : Nat → Int32) (fb : Nat → Nat) (a : Int32) (v : Int32) (hlen : len ≤ 3000) (hf : gOk df len fb) : Met l yX4_word wsX4_word ({ frames := 1, cells := 0, slots := 0, locals := 25 }) (va_Pc [.ref oD, .int a, .int v] (wPre dC dI cB cI cJ sz [(oD, .inr (4, [.int (nI th), .ref dF, .int (nI len), .int (nI ha), .ref dH, .int (nI sr), .ref dL, .int (nI en), .int (nI ram), .int (nI mz), .ref dM, .int (nI hp), .int (nI cn), .ref dP, .ref dS, .int (nI fk), .int fp, .int (nI ka), .int (nI kn), .int (nI sv), .ref dK])), (dF, .inl (cI, 3000, .inl df))])) (va_Qi (fun (r : Int32) (u : (Nat → Int32)) => r = wordR len a ∧ gOk u len (wordB fb len a v)) (fun (u : (Nat → Int32)) => wPost dC dI (va_A [(oD, .inr (4, [.int (nI th), .ref dF, .int (nI len), .int (nI ha), .ref dH, .int (nI sr), .ref dL, .int (nI en), .int (nI ram), .int (nI mz), .ref dM, .int (nI hp), .int (nI cn), .ref dP, .ref dS, .int (nI fk), .int fp, .int (nI ka), .int (nI kn), .int (nI sv), .ref dK])), (dF, .inl (cI, 3000, .inl df))] sz) [(oD, .inr (4, [.int (nI 0), .ref dF, .int (nI len), .int (nI ha), .ref dH, .int (nI sr), .ref dL, .int (nI en), .int (nI ram), .int (nI mz), .ref dM, .int (nI hp), .int (nI cn), .ref dP, .ref dS, .int (nI fk), .int fp, .int (nI ka), .int (nI kn), .int (nI sv), .ref dK])), (dF, .inl (cI, 3000, .inl u))]) (va_A [(oD, .inr (4, [.int (nI th), .ref dF, .int (nI len), .int (nI ha), .ref dH, .int (nI sr), .ref dL, .int (nI en), .int (nI ram), .int (nI mz), .ref dM, .int (nI hp), .int (nI cn), .ref dP, .ref dS, .int (nI fk), .int fp, .int (nI ka), .int (nI kn), .int (nI sv), .ref dK])), (dF, .inl (cI, 3000, .inl df))] sz)) 0 0 (va_A [(oD, .inr (4, [.int (nI th), .ref dF, .int (nI len), .int (nI ha), .ref dH, .int (nI sr), .ref dL, .int (nI en), .int (nI ram), .int (nI mz), .ref dM, .int (nI hp), .int (nI cn), .ref dP, .ref dS, .int (nI fk), .int fp, .int (nI ka), .int (nI kn), .int (nI sv), .ref dK])), (dF, .inl (cI, 3000, .inl df))] sz) := by
  refine Met.ofW (cc := cX4_word) (maxL := 4) (ret := (some .int)) (by decide) rfl ?_
  intro p e s m args below meth c s₁ B hml hv
  obtain ⟨rfl, hsz, hP, hK, hD0, hN⟩ := hv
  have hx := B.exec
  have hb := B.bytes
  have hr := B.returns
  have hts := atoms_spec (ws := wsX4_word) B.pre
  have hown : s.vm.findClass RX4 = some m.cls := findClass_of_methodNamed B.named
  have hlocks := B.notSynchronized
  subst hsz
  have hD := hD0.self (sz := s.heap.size)
  generalize hAe : va_A [(oD, .inr (4, [.int (nI th), .ref dF, .int (nI len), .int (nI ha), .ref dH, .int (nI sr), .ref dL, .int (nI en), .int (nI ram), .int (nI mz), .ref dM, .int (nI hp), .int (nI cn), .ref dP, .ref dS, .int (nI fk), .int fp, .int (nI ka), .int (nI kn), .int (nI sv), .ref dK])), (dF, .inl (cI, 3000, .inl df))] s.heap.size = A at hD ⊢
  have hA : ∀ q : Nat, s.heap.size ≤ q → A q := fun q h => by rw [← hAe]; exact Or.inr h
  have hS : va_S A s.heap s.heap [] := va_S.rf
  have hP : va_P (dC, dI) vwCl [(oD, .inr (4, [.int (nI th), .ref dF, .int (nI len), .int (nI ha), .ref dH, .int (nI sr), .ref dL, .int (nI en), .int (nI ram), .int (nI mz), .ref dM, .int (nI hp), .int (nI cn), .ref dP, .ref dS, .int (nI fk), .int fp, .int (nI ka), .int (nI kn), .int (nI sv), .ref dK])), (dF, .inl (cI, 3000, .inl df))] s.heap := hP
  have hl := lv_entry ([.ref oD, .int a, .int v]) (n := 4) (Nat.le_of_ble_eq_true rfl)
  rw [lg_entry_eq]
  generalize (lg_sl ([.ref oD, .int a, .int v]) ++ List.replicate (4 - (lg_sl ([.ref oD, .int a, .int v])).length) Slot.unset).toArray = ls at hl ⊢
  have hl : lv_has ls 4 [(0, .ref oD), (1, .int a), (2, .int v)] := hl
  refine lv_aload_n hx hb dX4_word_0 rfl (lv_at hl 0 rfl) ?_
  refine lv_iconst (v := nI 0) hx hb dX4_word_1 (by decide) ?_
  refine va_put (D := (dC, dI)) (ci := 4) (v := .int (nI 0)) (ty := .int) (C := RX4) (T := TX4) (N := 21) hx hb hts (by decide +kernel) tyX4 tyX4_ok nmX4 hown hK hP hD hS 0 rfl rfl 0 (by decide) (hts (.fieldLink RX4 32 "GlulxHeadsModel" "thrown" "I") (by decide +kernel)) (fun _ h9 => h9) rfl (by decide +kernel) rfl rfl (Nat.le_of_ble_eq_true rfl) dX4_word_2 (fun H locs hP hD hS => ?_)
  have hP : va_P (dC, dI) vwCl [(oD, .inr (4, [.int (nI 0), .ref dF, .int (nI len), .int (nI ha), .ref dH, .int (nI sr), .ref dL, .int (nI en), .int (nI ram), .int (nI mz), .ref dM, .int (nI hp), .int (nI cn), .ref dP, .ref dS, .int (nI fk), .int fp, .int (nI ka), .int (nI kn), .int (nI sv), .ref dK])), (dF, .inl (cI, 3000, .inl df))] H := hP
  have hD : va_D A [(oD, .inr (4, [.int (nI 0), .ref dF, .int (nI len), .int (nI ha), .ref dH, .int (nI sr), .ref dL, .int (nI en), .int (nI ram), .int (nI mz), .ref dM, .int (nI hp), .int (nI cn), .ref dP, .ref dS, .int (nI fk), .int fp, .int (nI ka), .int (nI kn), .int (nI sv), .ref dK])), (dF, .inl (cI, 3000, .inl df))] := hD
  refine lv_iload_n hx hb dX4_word_5 rfl (lv_at hl 1 rfl) ?_
  refine lv_i2l (v := a.toInt64) hx hb dX4_word_6 rfl ?_
  refine lv_lconst (v := lN 0) hx hb dX4_word_7 (by decide) ?_
  refine lv_aload_n hx hb dX4_word_8 rfl (lv_at hl 0 rfl) ?_
  refine va_get (D := (dC, dI)) (ci := 4) (v := .int (nI len)) (C := RX4) (T := TX4) (N := 21) hx hb hts (by decide +kernel) hown hK hP 0 rfl rfl 2 (by decide) (hts (.fieldLink RX4 36 "GlulxHeadsModel" "size" "I") (by decide +kernel)) (fun _ h9 => h9) rfl dX4_word_9 ?_
  refine lv_iconst (v := nI 4) hx hb dX4_word_12 (by decide) ?_
  refine lv_isub hx hb dX4_word_13 ?_
  refine lv_i2l (v := ((nI len) - (nI 4)).toInt64) hx hb dX4_word_14 rfl ?_
  have hPc := hP.sub (ws' := []) [] rfl
  have hDc := hD.sub (ws' := []) [] (by decide) rfl
  have hFc := va_free (wc := []) hD hS hA [] rfl
  refine va_calli (va_runS (As := [.long a.toInt64, .long (lN 0), .long (((nI len) - (nI 4)).toInt64)]) (rest := []) ⟨hx, hb, hml, hown, hts⟩ (c_X4_in l dC dI cB cI cJ H.size a.toInt64 (lN 0) (((nI len) - (nI 4)).toInt64) ) (va_cwS 3 hts gX4_word_X4_in rfl rfl rfl (by decide +kernel) ⟨Nat.le_of_ble_eq_true rfl, Nat.le_of_ble_eq_true rfl⟩) ⟨wBlind, wGo hK hPc hDc hN⟩ rfl rfl hl.1 rfl (lv_room (Nat.le_of_ble_eq_true rfl)) dX4_word_15 ⟨show 0 ≤ 0 by decide, show 0 ≤ 0 by decide⟩) hS (fun q _ h => hFc q h) hFc (fun r_2 u t H1 locs ht hvm w_3 hB hz1 hk1 hS => ?_)
  clear u
  obtain ⟨hP1, hD1⟩ := hB
  rw [ht] at hP1
  try dsimp only at w_3
  obtain ⟨hP, hD⟩ := va_join (wr := [(oD, .inr (4, [.int (nI 0), .ref dF, .int (nI len), .int (nI ha), .ref dH, .int (nI sr), .ref dL, .int (nI en), .int (nI ram), .int (nI mz), .ref dM, .int (nI hp), .int (nI cn), .ref dP, .ref dS, .int (nI fk), .int fp, .int (nI ka), .int (nI kn), .int (nI sv), .ref dK])), (dF, .inl (cI, 3000, .inl df))]) (w1 := []) hP hD [] [0, 1] rfl rfl (by decide) (by decide) hk1 hFc hP1 hD1
  clear hPc hDc hFc hP1 hD1 hz1 hk1 hvm
  generalize H1 = H at hP hS ⊢
  have hP : va_P (dC, dI) vwCl [(oD, .inr (4, [.int (nI 0), .ref dF, .int (nI len), .int (nI ha), .ref dH, .int (nI sr), .ref dL, .int (nI en), .int (nI ram), .int (nI mz), .ref dM, .int (nI hp), .int (nI cn), .ref dP, .ref dS, .int (nI fk), .int fp, .int (nI ka), .int (nI kn), .int (nI sv), .ref dK])), (dF, .inl (cI, 3000, .inl df))] H := hP
  have hD : va_D A [(oD, .inr (4, [.int (nI 0), .ref dF, .int (nI len), .int (nI ha), .ref dH, .int (nI sr), .ref dL, .int (nI en), .int (nI ram), .int (nI mz), .ref dM, .int (nI hp), .int (nI cn), .ref dP, .ref dS, .int (nI fk), .int fp, .int (nI ka), .int (nI kn), .int (nI sv), .ref dK])), (dF, .inl (cI, 3000, .inl df))] := hD
  have hz0 : (a.toInt64).toInt = a.toInt := Int32.toInt_toInt64 _
  have hz1 : (lN 0).toInt = ((0 : Nat) : Int) := pk_lT (by first | omega | (split <;> omega))
  have hz2 : (((nI len) - (nI 4)).toInt64).toInt = ((nI len) - (nI 4)).toInt := Int32.toInt_toInt64 _
  have hy2 : ((nI len) - (nI 4)).toInt = ((len : Nat) : Int) - ((4 : Nat) : Int) := pk_sub_toInt (by first | omega | (split <;> omega)) (by first | omega | (split <;> omega))
  have hwi : r_2 = nI (if 0 ≤ a.toInt ∧ a.toInt + 4 ≤ (len : Int) then 1 else 0) := by rw [w_3]; exact wif (by constructor <;> (intro z; omega))
  clear w_3
  subst hwi
  refine wx_if_eq (tgt := 27) hx hb dX4_word_18 (by decide) (by first | omega | (split <;> omega)) (fun c_4 => ?_) (fun c_4 => ?_)
  · skip
    have c_4 := wz_zero c_4
    refine lv_iconst (v := (-1)) hx hb dX4_word_27 (by decide) ?_
    have hP9 := hP.sub (ws' := [(oD, .inr (4, [.int (nI 0), .ref dF, .int (nI len), .int (nI ha), .ref dH, .int (nI sr), .ref dL, .int (nI en), .int (nI ram), .int (nI mz), .ref dM, .int (nI hp), .int (nI cn), .ref dP, .ref dS, .int (nI fk), .int fp, .int (nI ka), .int (nI kn), .int (nI sv), .ref dK])), (dF, .inl (cI, 3000, .inl df))]) [0, 1] rfl
    have hD9 := hD.sub (ws' := [(oD, .inr (4, [.int (nI 0), .ref dF, .int (nI len), .int (nI ha), .ref dH, .int (nI sr), .ref dL, .int (nI en), .int (nI ram), .int (nI mz), .ref dM, .int (nI hp), .int (nI cn), .ref dP, .ref dS, .int (nI fk), .int fp, .int (nI ka), .int (nI kn), .int (nI sv), .ref dK])), (dF, .inl (cI, 3000, .inl df))]) [0, 1] (by decide) rfl
    exact W.iret (v := (-1)) hx hb hr (fun t ht hW => ⟨⟨(-1), (df), rfl, ⟨by unfold wordR; rw [if_neg (by omega)], by unfold wordB; rw [if_neg (by omega)]; exact hf⟩, by rw [ht]; exact hP9, hD9⟩, hS.F ht⟩) hS.2.2 dX4_word_28
  · skip
    have c_4 := wz_pos c_4
    obtain ⟨j, hj, rfl⟩ : ∃ j : Nat, j < 2147483648 ∧ a = nI j := nI_of (by intro z; rw [Int32.lt_iff_toInt_lt, show (0 : Int32).toInt = 0 by decide] at z; omega)
    have hjE : (nI j).toInt = (j : Int) := nI_toInt hj
    have hjT : (nI j).toInt.toNat = j := by rw [hjE]; exact Int.toNat_natCast _
    refine lv_iload_n hx hb dX4_word_21 rfl (lv_at hl 1 rfl) ?_
    refine lv_iconst (v := nI 4) hx hb dX4_word_22 (by decide) ?_
    refine wx_irem hx hb dX4_word_23 (by first | omega | (split <;> omega)) (by first | omega | (split <;> omega)) (by first | omega | (split <;> omega)) ?_
    refine wx_if_eq (tgt := 29) hx hb dX4_word_24 (by decide) (by first | omega | (split <;> omega)) (fun c_5 => ?_) (fun c_5 => ?_)
    · skip
      refine lv_iconst (v := nI 0) hx hb dX4_word_29 (by decide) ?_
      refine lv_istore_n (lv' := [(3, .int (nI 0)), (0, .ref oD), (1, .int (nI j)), (2, .int v)]) hx hb dX4_word_30 rfl hl (by decide) rfl (fun ls hl => ?_)
      refine wx_loop (σ := Nat × (Nat → Int32)) (fun xq9 => 4 - xq9.1) (fun xq9 H locs ls => (xq9.1 ≤ 4) ∧ (∀ q, q < len → xq9.2 q = nI (if j ≤ q ∧ q < j + xq9.1 then uB v / 2 ^ (24 - 8 * (q - j)) % 256 else fb q)) ∧ va_P (dC, dI) vwCl [(oD, .inr (4, [.int (nI 0), .ref dF, .int (nI len), .int (nI ha), .ref dH, .int (nI sr), .ref dL, .int (nI en), .int (nI ram), .int (nI mz), .ref dM, .int (nI hp), .int (nI cn), .ref dP, .ref dS, .int (nI fk), .int fp, .int (nI ka), .int (nI kn), .int (nI sv), .ref dK])), (dF, .inl (cI, 3000, .inl xq9.2))] H ∧ va_D A [(oD, .inr (4, [.int (nI 0), .ref dF, .int (nI len), .int (nI ha), .ref dH, .int (nI sr), .ref dL, .int (nI en), .int (nI ram), .int (nI mz), .ref dM, .int (nI hp), .int (nI cn), .ref dP, .ref dS, .int (nI fk), .int fp, .int (nI ka), .int (nI kn), .int (nI sv), .ref dK])), (dF, .inl (cI, 3000, .inl xq9.2))] ∧ va_S A s.heap H locs ∧ lv_has ls 4 [(0, .ref oD), (1, .int (nI j)), (2, .int v), (3, .int (nI xq9.1))]) ?_ (0, df) _ _ _ ⟨by first | omega | (split <;> omega), fun q hq => by rw [if_neg (by omega)]; exact hf q hq, hP.sub [0, 1] rfl, hD.sub [0, 1] (by decide) rfl, hS, lv_sub hl [1, 2, 3, 0] rfl⟩
      rintro ⟨i, df3⟩ H locs ls ⟨hi, hg, hP, hD, hS, hl⟩ ih
      have hi : i ≤ 4 := hi
      have hg : ∀ q, q < len → df3 q = nI (if j ≤ q ∧ q < j + i then uB v / 2 ^ (24 - 8 * (q - j)) % 256 else fb q) := hg
      have hP : va_P (dC, dI) vwCl [(oD, .inr (4, [.int (nI 0), .ref dF, .int (nI len), .int (nI ha), .ref dH, .int (nI sr), .ref dL, .int (nI en), .int (nI ram), .int (nI mz), .ref dM, .int (nI hp), .int (nI cn), .ref dP, .ref dS, .int (nI fk), .int fp, .int (nI ka), .int (nI kn), .int (nI sv), .ref dK])), (dF, .inl (cI, 3000, .inl df3))] H := hP
      have hD : va_D A [(oD, .inr (4, [.int (nI 0), .ref dF, .int (nI len), .int (nI ha), .ref dH, .int (nI sr), .ref dL, .int (nI en), .int (nI ram), .int (nI mz), .ref dM, .int (nI hp), .int (nI cn), .ref dP, .ref dS, .int (nI fk), .int fp, .int (nI ka), .int (nI kn), .int (nI sv), .ref dK])), (dF, .inl (cI, 3000, .inl df3))] := hD
      have hl : lv_has ls 4 [(0, .ref oD), (1, .int (nI j)), (2, .int v), (3, .int (nI i))] := hl
      refine lv_iload_n hx hb dX4_word_31 rfl (lv_at hl 3 rfl) ?_
      refine lv_iconst (v := nI 4) hx hb dX4_word_32 (by decide) ?_
      refine wx_icmp_ge (tgt := 63) hx hb dX4_word_33 (by decide) (by first | omega | (split <;> omega)) (by first | omega | (split <;> omega)) (fun c_6 => ?_) (fun c_6 => ?_)
      · skip
        refine lv_iconst (v := nI 1) hx hb dX4_word_63 (by decide) ?_
        have hP9 := hP.sub (ws' := [(oD, .inr (4, [.int (nI 0), .ref dF, .int (nI len), .int (nI ha), .ref dH, .int (nI sr), .ref dL, .int (nI en), .int (nI ram), .int (nI mz), .ref dM, .int (nI hp), .int (nI cn), .ref dP, .ref dS, .int (nI fk), .int fp, .int (nI ka), .int (nI kn), .int (nI sv), .ref dK])), (dF, .inl (cI, 3000, .inl df3))]) [0, 1] rfl
        have hD9 := hD.sub (ws' := [(oD, .inr (4, [.int (nI 0), .ref dF, .int (nI len), .int (nI ha), .ref dH, .int (nI sr), .ref dL, .int (nI en), .int (nI ram), .int (nI mz), .ref dM, .int (nI hp), .int (nI cn), .ref dP, .ref dS, .int (nI fk), .int fp, .int (nI ka), .int (nI kn), .int (nI sv), .ref dK])), (dF, .inl (cI, 3000, .inl df3))]) [0, 1] (by decide) rfl
        exact W.iret (v := nI 1) hx hb hr (fun t ht hW => ⟨⟨(nI 1), (df3), rfl, ⟨by unfold wordR; rw [if_pos (by omega)]; rfl, by unfold wordB; rw [if_pos (by omega), hjT, up4_at]; intro q hq; rw [hg q hq, show i = 4 by omega]⟩, by rw [ht]; exact hP9, hD9⟩, hS.F ht⟩) hS.2.2 dX4_word_64
      · skip
        refine lv_aload_n hx hb dX4_word_36 rfl (lv_at hl 0 rfl) ?_
        refine va_get (D := (dC, dI)) (ci := 4) (v := .ref dF) (C := RX4) (T := TX4) (N := 21) hx hb hts (by decide +kernel) hown hK hP 0 rfl rfl 1 (by decide) (hts (.fieldLink RX4 7 "GlulxHeadsModel" "file" "[I") (by decide +kernel)) (fun _ h9 => h9) rfl dX4_word_37 ?_
        refine lv_iload_n hx hb dX4_word_40 rfl (lv_at hl 1 rfl) ?_
        refine lv_iload_n hx hb dX4_word_41 rfl (lv_at hl 3 rfl) ?_
        refine wx_iadd hx hb dX4_word_42 ?_
        refine lv_iload_n hx hb dX4_word_43 rfl (lv_at hl 2 rfl) ?_
        refine lv_bipush (v := nI 24) hx hb dX4_word_44 (by decide) ?_
        refine lv_bipush (v := nI 8) hx hb dX4_word_46 (by decide) ?_
        refine lv_iload_n hx hb dX4_word_48 rfl (lv_at hl 3 rfl) ?_
        refine wx_imul hx hb dX4_word_49 ?_
        refine wx_isub hx hb dX4_word_50 (by first | omega | (split <;> omega)) ?_
        refine lv_ishr hx hb dX4_word_51 ?_
        refine lv_sipush (v := nI 255) hx hb dX4_word_52 (by decide) ?_
        refine lv_iand hx hb dX4_word_55 ?_
        refine wx_iast hx hb hK hP hD hS 1 1 rfl rfl (by first | omega | (split <;> omega)) (by decide) dX4_word_56 (fun H locs hP hD hS => ?_)
        have hP : va_P (dC, dI) vwCl [(oD, .inr (4, [.int (nI 0), .ref dF, .int (nI len), .int (nI ha), .ref dH, .int (nI sr), .ref dL, .int (nI en), .int (nI ram), .int (nI mz), .ref dM, .int (nI hp), .int (nI cn), .ref dP, .ref dS, .int (nI fk), .int fp, .int (nI ka), .int (nI kn), .int (nI sv), .ref dK])), (dF, .inl (cI, 3000, .inl (upd df3 (j + i) ((v >>> ((nI (24 - (8 * i))) &&& 31)) &&& (nI 255)))))] H := hP
        have hD : va_D A [(oD, .inr (4, [.int (nI 0), .ref dF, .int (nI len), .int (nI ha), .ref dH, .int (nI sr), .ref dL, .int (nI en), .int (nI ram), .int (nI mz), .ref dM, .int (nI hp), .int (nI cn), .ref dP, .ref dS, .int (nI fk), .int fp, .int (nI ka), .int (nI kn), .int (nI sv), .ref dK])), (dF, .inl (cI, 3000, .inl (upd df3 (j + i) ((v >>> ((nI (24 - (8 * i))) &&& 31)) &&& (nI 255)))))] := hD
        refine lv_iinc (v := nI (i + 1)) (lv' := [(3, .int (nI (i + 1))), (0, .ref oD), (1, .int (nI j)), (2, .int v)]) hx hb dX4_word_57 hl (k := 3) rfl (by rw [show Int32.ofInt 1 = nI 1 by decide]; exact nI_add _ _) (by decide) rfl (fun ls hl => ?_)
        refine lv_goto (tgt := 31) hx hb dX4_word_60 (by decide) ?_
        exact ih ((i + 1), (upd df3 (j + i) ((v >>> ((nI (24 - (8 * i))) &&& 31)) &&& (nI 255)))) _ _ _ (by omega) ⟨by first | omega | (split <;> omega), word_s hg (by omega) (by rw [sshr_b (by omega), Nat.add_sub_cancel_left]), hP.sub [0, 1] rfl, hD.sub [0, 1] (by decide) rfl, hS, lv_sub hl [1, 2, 3, 0] rfl⟩
    · skip
      refine lv_iconst (v := (-1)) hx hb dX4_word_27 (by decide) ?_
      have hP9 := hP.sub (ws' := [(oD, .inr (4, [.int (nI 0), .ref dF, .int (nI len), .int (nI ha), .ref dH, .int (nI sr), .ref dL, .int (nI en), .int (nI ram), .int (nI mz), .ref dM, .int (nI hp), .int (nI cn), .ref dP, .ref dS, .int (nI fk), .int fp, .int (nI ka), .int (nI kn), .int (nI sv), .ref dK])), (dF, .inl (cI, 3000, .inl df))]) [0, 1] rfl
      have hD9 := hD.sub (ws' := [(oD, .inr (4, [.int (nI 0), .ref dF, .int (nI len), .int (nI ha), .ref dH, .int (nI sr), .ref dL, .int (nI en), .int (nI ram), .int (nI mz), .ref dM, .int (nI hp), .int (nI cn), .ref dP, .ref dS, .int (nI fk), .int fp, .int (nI ka), .int (nI kn), .int (nI sv), .ref dK])), (dF, .inl (cI, 3000, .inl df))]) [0, 1] (by decide) rfl
      exact W.iret (v := (-1)) hx hb hr (fun t ht hW => ⟨⟨(-1), (df), rfl, ⟨by unfold wordR; rw [if_neg (by omega)], by unfold wordB; rw [if_neg (by omega)]; exact hf⟩, by rw [ht]; exact hP9, hD9⟩, hS.F ht⟩) hS.2.2 dX4_word_28
set_option maxHeartbeats 4000000 in
set_option maxRecDepth 100000 in
theorem c_X4_cut (l : Launch) (dC : Nat → ClassId) (dI : Nat → Nat → Nat) (cB cI cJ : ClassId) (sz : Nat) (oD : Nat) (th : Nat) (dF : Nat) (len : Nat) (ha : Nat) (dH : Nat) (sr : Nat) (dL : Nat) (en : Nat) (ram : Nat) (mz : Nat) (dM : Nat) (hp : Nat) (cn : Nat) (dP : Nat) (dS : Nat) (fk : Nat) (fp : Int32) (ka : Nat) (kn : Nat) (sv : Nat) (dK : Nat) (df : Nat → Int32) (fb : Nat → Nat) (nv : Int32) (hlen : len ≤ 3000) (hf : gOk df len fb) : Met l yX4_cut wsX4_cut ({ frames := 1, cells := 0, slots := 0, locals := 25 }) (va_Pc [.ref oD, .int nv] (wPre dC dI cB cI cJ sz [(oD, .inr (4, [.int (nI th), .ref dF, .int (nI len), .int (nI ha), .ref dH, .int (nI sr), .ref dL, .int (nI en), .int (nI ram), .int (nI mz), .ref dM, .int (nI hp), .int (nI cn), .ref dP, .ref dS, .int (nI fk), .int fp, .int (nI ka), .int (nI kn), .int (nI sv), .ref dK])), (dF, .inl (cI, 3000, .inl df))])) (va_Qi (fun (r : Int32) (u : Nat) => r = cutR len nv ∧ u = cutL len nv ∧ gOk df u (cutB fb len nv)) (fun (u : Nat) => wPost dC dI (va_A [(oD, .inr (4, [.int (nI th), .ref dF, .int (nI len), .int (nI ha), .ref dH, .int (nI sr), .ref dL, .int (nI en), .int (nI ram), .int (nI mz), .ref dM, .int (nI hp), .int (nI cn), .ref dP, .ref dS, .int (nI fk), .int fp, .int (nI ka), .int (nI kn), .int (nI sv), .ref dK])), (dF, .inl (cI, 3000, .inl df))] sz) [(oD, .inr (4, [.int (nI 0), .ref dF, .int (nI u), .int (nI ha), .ref dH, .int (nI sr), .ref dL, .int (nI en), .int (nI ram), .int (nI mz), .ref dM, .int (nI hp), .int (nI cn), .ref dP, .ref dS, .int (nI fk), .int fp, .int (nI ka), .int (nI kn), .int (nI sv), .ref dK])), (dF, .inl (cI, 3000, .inl df))]) (va_A [(oD, .inr (4, [.int (nI th), .ref dF, .int (nI len), .int (nI ha), .ref dH, .int (nI sr), .ref dL, .int (nI en), .int (nI ram), .int (nI mz), .ref dM, .int (nI hp), .int (nI cn), .ref dP, .ref dS, .int (nI fk), .int fp, .int (nI ka), .int (nI kn), .int (nI sv), .ref dK])), (dF, .inl (cI, 3000, .inl df))] sz)) 0 0 (va_A [(oD, .inr (4, [.int (nI th), .ref dF, .int (nI len), .int (nI ha), .ref dH, .int (nI sr), .ref dL, .int (nI en), .int (nI ram), .int (nI mz), .ref dM, .int (nI hp), .int (nI cn), .ref dP, .ref dS, .int (nI fk), .int fp, .int (nI ka), .int (nI kn), .int (nI sv), .ref dK])), (dF, .inl (cI, 3000, .inl df))] sz) := by
  refine Met.ofW (cc := cX4_cut) (maxL := 3) (ret := (some .int)) (by decide) rfl ?_
  intro p e s m args below meth c s₁ B hml hv
  obtain ⟨rfl, hsz, hP, hK, hD0, hN⟩ := hv
  have hx := B.exec
  have hb := B.bytes
  have hr := B.returns
  have hts := atoms_spec (ws := wsX4_cut) B.pre
  have hown : s.vm.findClass RX4 = some m.cls := findClass_of_methodNamed B.named
  have hlocks := B.notSynchronized
  subst hsz
  have hD := hD0.self (sz := s.heap.size)
  generalize hAe : va_A [(oD, .inr (4, [.int (nI th), .ref dF, .int (nI len), .int (nI ha), .ref dH, .int (nI sr), .ref dL, .int (nI en), .int (nI ram), .int (nI mz), .ref dM, .int (nI hp), .int (nI cn), .ref dP, .ref dS, .int (nI fk), .int fp, .int (nI ka), .int (nI kn), .int (nI sv), .ref dK])), (dF, .inl (cI, 3000, .inl df))] s.heap.size = A at hD ⊢
  have hA : ∀ q : Nat, s.heap.size ≤ q → A q := fun q h => by rw [← hAe]; exact Or.inr h
  have hS : va_S A s.heap s.heap [] := va_S.rf
  have hP : va_P (dC, dI) vwCl [(oD, .inr (4, [.int (nI th), .ref dF, .int (nI len), .int (nI ha), .ref dH, .int (nI sr), .ref dL, .int (nI en), .int (nI ram), .int (nI mz), .ref dM, .int (nI hp), .int (nI cn), .ref dP, .ref dS, .int (nI fk), .int fp, .int (nI ka), .int (nI kn), .int (nI sv), .ref dK])), (dF, .inl (cI, 3000, .inl df))] s.heap := hP
  have hl := lv_entry ([.ref oD, .int nv]) (n := 3) (Nat.le_of_ble_eq_true rfl)
  rw [lg_entry_eq]
  generalize (lg_sl ([.ref oD, .int nv]) ++ List.replicate (3 - (lg_sl ([.ref oD, .int nv])).length) Slot.unset).toArray = ls at hl ⊢
  have hl : lv_has ls 3 [(0, .ref oD), (1, .int nv)] := hl
  refine lv_aload_n hx hb dX4_cut_0 rfl (lv_at hl 0 rfl) ?_
  refine lv_iconst (v := nI 0) hx hb dX4_cut_1 (by decide) ?_
  refine va_put (D := (dC, dI)) (ci := 4) (v := .int (nI 0)) (ty := .int) (C := RX4) (T := TX4) (N := 21) hx hb hts (by decide +kernel) tyX4 tyX4_ok nmX4 hown hK hP hD hS 0 rfl rfl 0 (by decide) (hts (.fieldLink RX4 32 "GlulxHeadsModel" "thrown" "I") (by decide +kernel)) (fun _ h9 => h9) rfl (by decide +kernel) rfl rfl (Nat.le_of_ble_eq_true rfl) dX4_cut_2 (fun H locs hP hD hS => ?_)
  have hP : va_P (dC, dI) vwCl [(oD, .inr (4, [.int (nI 0), .ref dF, .int (nI len), .int (nI ha), .ref dH, .int (nI sr), .ref dL, .int (nI en), .int (nI ram), .int (nI mz), .ref dM, .int (nI hp), .int (nI cn), .ref dP, .ref dS, .int (nI fk), .int fp, .int (nI ka), .int (nI kn), .int (nI sv), .ref dK])), (dF, .inl (cI, 3000, .inl df))] H := hP
  have hD : va_D A [(oD, .inr (4, [.int (nI 0), .ref dF, .int (nI len), .int (nI ha), .ref dH, .int (nI sr), .ref dL, .int (nI en), .int (nI ram), .int (nI mz), .ref dM, .int (nI hp), .int (nI cn), .ref dP, .ref dS, .int (nI fk), .int fp, .int (nI ka), .int (nI kn), .int (nI sv), .ref dK])), (dF, .inl (cI, 3000, .inl df))] := hD
  refine lv_iload_n hx hb dX4_cut_5 rfl (lv_at hl 1 rfl) ?_
  refine lv_i2l (v := nv.toInt64) hx hb dX4_cut_6 rfl ?_
  refine lv_lconst (v := lN 0) hx hb dX4_cut_7 (by decide) ?_
  refine lv_aload_n hx hb dX4_cut_8 rfl (lv_at hl 0 rfl) ?_
  refine va_get (D := (dC, dI)) (ci := 4) (v := .int (nI len)) (C := RX4) (T := TX4) (N := 21) hx hb hts (by decide +kernel) hown hK hP 0 rfl rfl 2 (by decide) (hts (.fieldLink RX4 36 "GlulxHeadsModel" "size" "I") (by decide +kernel)) (fun _ h9 => h9) rfl dX4_cut_9 ?_
  refine lv_i2l (v := lN len) hx hb dX4_cut_12 (nI_l (by first | omega | (split <;> omega))) ?_
  have hPc := hP.sub (ws' := []) [] rfl
  have hDc := hD.sub (ws' := []) [] (by decide) rfl
  have hFc := va_free (wc := []) hD hS hA [] rfl
  refine va_calli (va_runS (As := [.long nv.toInt64, .long (lN 0), .long (lN len)]) (rest := []) ⟨hx, hb, hml, hown, hts⟩ (c_X4_in l dC dI cB cI cJ H.size nv.toInt64 (lN 0) (lN len) ) (va_cwS 3 hts gX4_cut_X4_in rfl rfl rfl (by decide +kernel) ⟨Nat.le_of_ble_eq_true rfl, Nat.le_of_ble_eq_true rfl⟩) ⟨wBlind, wGo hK hPc hDc hN⟩ rfl rfl hl.1 rfl (lv_room (Nat.le_of_ble_eq_true rfl)) dX4_cut_13 ⟨show 0 ≤ 0 by decide, show 0 ≤ 0 by decide⟩) hS (fun q _ h => hFc q h) hFc (fun r_2 u t H1 locs ht hvm w_3 hB hz1 hk1 hS => ?_)
  clear u
  obtain ⟨hP1, hD1⟩ := hB
  rw [ht] at hP1
  try dsimp only at w_3
  obtain ⟨hP, hD⟩ := va_join (wr := [(oD, .inr (4, [.int (nI 0), .ref dF, .int (nI len), .int (nI ha), .ref dH, .int (nI sr), .ref dL, .int (nI en), .int (nI ram), .int (nI mz), .ref dM, .int (nI hp), .int (nI cn), .ref dP, .ref dS, .int (nI fk), .int fp, .int (nI ka), .int (nI kn), .int (nI sv), .ref dK])), (dF, .inl (cI, 3000, .inl df))]) (w1 := []) hP hD [] [0, 1] rfl rfl (by decide) (by decide) hk1 hFc hP1 hD1
  clear hPc hDc hFc hP1 hD1 hz1 hk1 hvm
  generalize H1 = H at hP hS ⊢
  have hP : va_P (dC, dI) vwCl [(oD, .inr (4, [.int (nI 0), .ref dF, .int (nI len), .int (nI ha), .ref dH, .int (nI sr), .ref dL, .int (nI en), .int (nI ram), .int (nI mz), .ref dM, .int (nI hp), .int (nI cn), .ref dP, .ref dS, .int (nI fk), .int fp, .int (nI ka), .int (nI kn), .int (nI sv), .ref dK])), (dF, .inl (cI, 3000, .inl df))] H := hP
  have hD : va_D A [(oD, .inr (4, [.int (nI 0), .ref dF, .int (nI len), .int (nI ha), .ref dH, .int (nI sr), .ref dL, .int (nI en), .int (nI ram), .int (nI mz), .ref dM, .int (nI hp), .int (nI cn), .ref dP, .ref dS, .int (nI fk), .int fp, .int (nI ka), .int (nI kn), .int (nI sv), .ref dK])), (dF, .inl (cI, 3000, .inl df))] := hD
  have hz0 : (nv.toInt64).toInt = nv.toInt := Int32.toInt_toInt64 _
  have hz1 : (lN 0).toInt = ((0 : Nat) : Int) := pk_lT (by first | omega | (split <;> omega))
  have hz2 : (lN len).toInt = ((len : Nat) : Int) := pk_lT (by first | omega | (split <;> omega))
  have hwi : r_2 = nI (if 0 ≤ nv.toInt ∧ nv.toInt ≤ (len : Int) then 1 else 0) := by rw [w_3]; exact wif (by constructor <;> (intro z; omega))
  clear w_3
  subst hwi
  refine wx_if_ne (tgt := 21) hx hb dX4_cut_16 (by decide) (by first | omega | (split <;> omega)) (fun c_4 => ?_) (fun c_4 => ?_)
  · skip
    have c_4 := wz_pos c_4
    obtain ⟨n, hn, rfl⟩ : ∃ n : Nat, n < 2147483648 ∧ nv = nI n := nI_of (by intro z; rw [Int32.lt_iff_toInt_lt, show (0 : Int32).toInt = 0 by decide] at z; omega)
    have hnE : (nI n).toInt = (n : Int) := nI_toInt hn
    have hnT : (nI n).toInt.toNat = n := by rw [hnE]; exact Int.toNat_natCast _
    refine lv_aload_n hx hb dX4_cut_21 rfl (lv_at hl 0 rfl) ?_
    refine va_get (D := (dC, dI)) (ci := 4) (v := .int (nI len)) (C := RX4) (T := TX4) (N := 21) hx hb hts (by decide +kernel) hown hK hP 0 rfl rfl 2 (by decide) (hts (.fieldLink RX4 36 "GlulxHeadsModel" "size" "I") (by decide +kernel)) (fun _ h9 => h9) rfl dX4_cut_22 ?_
    refine lv_iload_n hx hb dX4_cut_25 rfl (lv_at hl 1 rfl) ?_
    refine wx_isub hx hb dX4_cut_26 (by first | omega | (split <;> omega)) ?_
    refine lv_istore_n (lv' := [(2, .int (nI (len - n))), (0, .ref oD), (1, .int (nI n))]) hx hb dX4_cut_27 rfl hl (by decide) rfl (fun ls hl => ?_)
    refine lv_aload_n hx hb dX4_cut_28 rfl (lv_at hl 1 rfl) ?_
    refine lv_iload_n hx hb dX4_cut_29 rfl (lv_at hl 2 rfl) ?_
    refine va_put (D := (dC, dI)) (ci := 4) (v := .int (nI n)) (ty := .int) (C := RX4) (T := TX4) (N := 21) hx hb hts (by decide +kernel) tyX4 tyX4_ok nmX4 hown hK hP hD hS 0 rfl rfl 2 (by decide) (hts (.fieldLink RX4 36 "GlulxHeadsModel" "size" "I") (by decide +kernel)) (fun _ h9 => h9) rfl (by decide +kernel) rfl rfl (Nat.le_of_ble_eq_true rfl) dX4_cut_30 (fun H locs hP hD hS => ?_)
    have hP : va_P (dC, dI) vwCl [(oD, .inr (4, [.int (nI 0), .ref dF, .int (nI n), .int (nI ha), .ref dH, .int (nI sr), .ref dL, .int (nI en), .int (nI ram), .int (nI mz), .ref dM, .int (nI hp), .int (nI cn), .ref dP, .ref dS, .int (nI fk), .int fp, .int (nI ka), .int (nI kn), .int (nI sv), .ref dK])), (dF, .inl (cI, 3000, .inl df))] H := hP
    have hD : va_D A [(oD, .inr (4, [.int (nI 0), .ref dF, .int (nI n), .int (nI ha), .ref dH, .int (nI sr), .ref dL, .int (nI en), .int (nI ram), .int (nI mz), .ref dM, .int (nI hp), .int (nI cn), .ref dP, .ref dS, .int (nI fk), .int fp, .int (nI ka), .int (nI kn), .int (nI sv), .ref dK])), (dF, .inl (cI, 3000, .inl df))] := hD
    refine lv_iload_n hx hb dX4_cut_33 rfl (lv_at hl 0 rfl) ?_
    have hP9 := hP.sub (ws' := [(oD, .inr (4, [.int (nI 0), .ref dF, .int (nI n), .int (nI ha), .ref dH, .int (nI sr), .ref dL, .int (nI en), .int (nI ram), .int (nI mz), .ref dM, .int (nI hp), .int (nI cn), .ref dP, .ref dS, .int (nI fk), .int fp, .int (nI ka), .int (nI kn), .int (nI sv), .ref dK])), (dF, .inl (cI, 3000, .inl df))]) [0, 1] rfl
    have hD9 := hD.sub (ws' := [(oD, .inr (4, [.int (nI 0), .ref dF, .int (nI n), .int (nI ha), .ref dH, .int (nI sr), .ref dL, .int (nI en), .int (nI ram), .int (nI mz), .ref dM, .int (nI hp), .int (nI cn), .ref dP, .ref dS, .int (nI fk), .int fp, .int (nI ka), .int (nI kn), .int (nI sv), .ref dK])), (dF, .inl (cI, 3000, .inl df))]) [0, 1] (by decide) rfl
    exact W.iret (v := nI (len - n)) hx hb hr (fun t ht hW => ⟨⟨(nI (len - n)), (n), rfl, ⟨by unfold cutR; rw [if_pos (by omega), hnT], by unfold cutL; rw [if_pos (by omega), hnT], by unfold cutB; rw [if_pos (by omega), hnT]; exact gOk_eq (gOk_le hf (by omega)) (fun j hj => by unfold part; rw [if_pos hj])⟩, by rw [ht]; exact hP9, hD9⟩, hS.F ht⟩) hS.2.2 dX4_cut_34
  · skip
    have c_4 := wz_zero c_4
    refine lv_iconst (v := (-1)) hx hb dX4_cut_19 (by decide) ?_
    have hP9 := hP.sub (ws' := [(oD, .inr (4, [.int (nI 0), .ref dF, .int (nI len), .int (nI ha), .ref dH, .int (nI sr), .ref dL, .int (nI en), .int (nI ram), .int (nI mz), .ref dM, .int (nI hp), .int (nI cn), .ref dP, .ref dS, .int (nI fk), .int fp, .int (nI ka), .int (nI kn), .int (nI sv), .ref dK])), (dF, .inl (cI, 3000, .inl df))]) [0, 1] rfl
    have hD9 := hD.sub (ws' := [(oD, .inr (4, [.int (nI 0), .ref dF, .int (nI len), .int (nI ha), .ref dH, .int (nI sr), .ref dL, .int (nI en), .int (nI ram), .int (nI mz), .ref dM, .int (nI hp), .int (nI cn), .ref dP, .ref dS, .int (nI fk), .int fp, .int (nI ka), .int (nI kn), .int (nI sv), .ref dK])), (dF, .inl (cI, 3000, .inl df))]) [0, 1] (by decide) rfl
    exact W.iret (v := (-1)) hx hb hr (fun t ht hW => ⟨⟨(-1), (len), rfl, ⟨by unfold cutR; rw [if_neg (by omega)], by unfold cutL; rw [if_neg (by omega)], by unfold cutB; rw [if_neg (by omega)]; exact hf⟩, by rw [ht]; exact hP9, hD9⟩, hS.F ht⟩) hS.2.2 dX4_cut_20
set_option maxHeartbeats 4000000 in
set_option maxRecDepth 100000 in
theorem c_X4_wordAt (l : Launch) (dC : Nat → ClassId) (dI : Nat → Nat → Nat) (cB cI cJ : ClassId) (sz : Nat) (oD : Nat) (th : Nat) (dF : Nat) (len : Nat) (ha : Nat) (dH : Nat) (sr : Nat) (dL : Nat) (en : Nat) (ram : Nat) (mz : Nat) (dM : Nat) (hp : Nat) (cn : Nat) (dP : Nat) (dS : Nat) (fk : Nat) (fp : Int32) (ka : Nat) (kn : Nat) (sv : Nat) (dK : Nat) (df : Nat → Int32) (fb : Nat → Nat) (j : Nat) (hlen : len ≤ 3000) (hf : gOk df len fb) (hfb : ∀ j, fb j < 256) (hz : ∀ j, len ≤ j → fb j = 0) (hj : j < 900000) : Met l yX4_wordAt wsX4_wordAt ({ frames := 0, cells := 0, slots := 0, locals := 0 }) (va_Pc [.ref oD, .int (nI j)] (wPre dC dI cB cI cJ sz [(oD, .inr (4, [.int (nI th), .ref dF, .int (nI len), .int (nI ha), .ref dH, .int (nI sr), .ref dL, .int (nI en), .int (nI ram), .int (nI mz), .ref dM, .int (nI hp), .int (nI cn), .ref dP, .ref dS, .int (nI fk), .int fp, .int (nI ka), .int (nI kn), .int (nI sv), .ref dK])), (dF, .inl (cI, 3000, .inl df))])) (va_Ql (fun (r : Int64) (u : Unit) => r = lN (fw fb j)) (fun (u : Unit) => wPost dC dI (va_A [(oD, .inr (4, [.int (nI th), .ref dF, .int (nI len), .int (nI ha), .ref dH, .int (nI sr), .ref dL, .int (nI en), .int (nI ram), .int (nI mz), .ref dM, .int (nI hp), .int (nI cn), .ref dP, .ref dS, .int (nI fk), .int fp, .int (nI ka), .int (nI kn), .int (nI sv), .ref dK])), (dF, .inl (cI, 3000, .inl df))] sz) [(oD, .inr (4, [.int (nI th), .ref dF, .int (nI len), .int (nI ha), .ref dH, .int (nI sr), .ref dL, .int (nI en), .int (nI ram), .int (nI mz), .ref dM, .int (nI hp), .int (nI cn), .ref dP, .ref dS, .int (nI fk), .int fp, .int (nI ka), .int (nI kn), .int (nI sv), .ref dK])), (dF, .inl (cI, 3000, .inl df))]) (va_A [(oD, .inr (4, [.int (nI th), .ref dF, .int (nI len), .int (nI ha), .ref dH, .int (nI sr), .ref dL, .int (nI en), .int (nI ram), .int (nI mz), .ref dM, .int (nI hp), .int (nI cn), .ref dP, .ref dS, .int (nI fk), .int fp, .int (nI ka), .int (nI kn), .int (nI sv), .ref dK])), (dF, .inl (cI, 3000, .inl df))] sz)) 0 0 (va_A [(oD, .inr (4, [.int (nI th), .ref dF, .int (nI len), .int (nI ha), .ref dH, .int (nI sr), .ref dL, .int (nI en), .int (nI ram), .int (nI mz), .ref dM, .int (nI hp), .int (nI cn), .ref dP, .ref dS, .int (nI fk), .int fp, .int (nI ka), .int (nI kn), .int (nI sv), .ref dK])), (dF, .inl (cI, 3000, .inl df))] sz) := by
  refine Met.ofW (cc := cX4_wordAt) (maxL := 5) (ret := (some .long)) (by decide) rfl ?_
  intro p e s m args below meth c s₁ B hml hv
  obtain ⟨rfl, hsz, hP, hK, hD0, hN⟩ := hv
  have hx := B.exec
  have hb := B.bytes
  have hr := B.returns
  have hts := atoms_spec (ws := wsX4_wordAt) B.pre
  have hown : s.vm.findClass RX4 = some m.cls := findClass_of_methodNamed B.named
  have hlocks := B.notSynchronized
  subst hsz
  have hD := hD0.self (sz := s.heap.size)
  generalize hAe : va_A [(oD, .inr (4, [.int (nI th), .ref dF, .int (nI len), .int (nI ha), .ref dH, .int (nI sr), .ref dL, .int (nI en), .int (nI ram), .int (nI mz), .ref dM, .int (nI hp), .int (nI cn), .ref dP, .ref dS, .int (nI fk), .int fp, .int (nI ka), .int (nI kn), .int (nI sv), .ref dK])), (dF, .inl (cI, 3000, .inl df))] s.heap.size = A at hD ⊢
  have hA : ∀ q : Nat, s.heap.size ≤ q → A q := fun q h => by rw [← hAe]; exact Or.inr h
  have hS : va_S A s.heap s.heap [] := va_S.rf
  have hP : va_P (dC, dI) vwCl [(oD, .inr (4, [.int (nI th), .ref dF, .int (nI len), .int (nI ha), .ref dH, .int (nI sr), .ref dL, .int (nI en), .int (nI ram), .int (nI mz), .ref dM, .int (nI hp), .int (nI cn), .ref dP, .ref dS, .int (nI fk), .int fp, .int (nI ka), .int (nI kn), .int (nI sv), .ref dK])), (dF, .inl (cI, 3000, .inl df))] s.heap := hP
  have hl := lv_entry ([.ref oD, .int (nI j)]) (n := 5) (Nat.le_of_ble_eq_true rfl)
  rw [lg_entry_eq]
  generalize (lg_sl ([.ref oD, .int (nI j)]) ++ List.replicate (5 - (lg_sl ([.ref oD, .int (nI j)])).length) Slot.unset).toArray = ls at hl ⊢
  have hl : lv_has ls 5 [(0, .ref oD), (1, .int (nI j))] := hl
  refine lv_lconst (v := lN 0) hx hb dX4_wordAt_0 (by decide) ?_
  refine lv_lstore_n (lv' := [(2, .long (lN 0)), (0, .ref oD), (1, .int (nI j))]) hx hb dX4_wordAt_1 rfl hl (by decide) rfl (fun ls hl => ?_)
  refine lv_iconst (v := nI 0) hx hb dX4_wordAt_2 (by decide) ?_
  refine lv_istore (lv' := [(4, .int (nI 0)), (2, .long (lN 0)), (0, .ref oD), (1, .int (nI j))]) hx hb dX4_wordAt_3 hl (by decide) rfl (fun ls hl => ?_)
  refine wx_loop (σ := Nat) (fun xq9 => 4 - xq9) (fun xq9 H locs ls => (xq9 ≤ 4) ∧ va_P (dC, dI) vwCl [(oD, .inr (4, [.int (nI th), .ref dF, .int (nI len), .int (nI ha), .ref dH, .int (nI sr), .ref dL, .int (nI en), .int (nI ram), .int (nI mz), .ref dM, .int (nI hp), .int (nI cn), .ref dP, .ref dS, .int (nI fk), .int fp, .int (nI ka), .int (nI kn), .int (nI sv), .ref dK])), (dF, .inl (cI, 3000, .inl df))] H ∧ va_D A [(oD, .inr (4, [.int (nI th), .ref dF, .int (nI len), .int (nI ha), .ref dH, .int (nI sr), .ref dL, .int (nI en), .int (nI ram), .int (nI mz), .ref dM, .int (nI hp), .int (nI cn), .ref dP, .ref dS, .int (nI fk), .int fp, .int (nI ka), .int (nI kn), .int (nI sv), .ref dK])), (dF, .inl (cI, 3000, .inl df))] ∧ va_S A s.heap H locs ∧ lv_has ls 5 [(0, .ref oD), (1, .int (nI j)), (2, .long (lN (vAt fb xq9 j))), (4, .int (nI xq9))]) ?_ (0) _ _ _ ⟨by omega, hP.sub [0, 1] rfl, hD.sub [0, 1] (by decide) rfl, hS, lv_sub hl [2, 3, 1, 0] rfl⟩
  rintro i H locs ls ⟨hi, hP, hD, hS, hl⟩ ih
  have hi : i ≤ 4 := hi
  have hP : va_P (dC, dI) vwCl [(oD, .inr (4, [.int (nI th), .ref dF, .int (nI len), .int (nI ha), .ref dH, .int (nI sr), .ref dL, .int (nI en), .int (nI ram), .int (nI mz), .ref dM, .int (nI hp), .int (nI cn), .ref dP, .ref dS, .int (nI fk), .int fp, .int (nI ka), .int (nI kn), .int (nI sv), .ref dK])), (dF, .inl (cI, 3000, .inl df))] H := hP
  have hD : va_D A [(oD, .inr (4, [.int (nI th), .ref dF, .int (nI len), .int (nI ha), .ref dH, .int (nI sr), .ref dL, .int (nI en), .int (nI ram), .int (nI mz), .ref dM, .int (nI hp), .int (nI cn), .ref dP, .ref dS, .int (nI fk), .int fp, .int (nI ka), .int (nI kn), .int (nI sv), .ref dK])), (dF, .inl (cI, 3000, .inl df))] := hD
  have hl : lv_has ls 5 [(0, .ref oD), (1, .int (nI j)), (2, .long (lN (vAt fb i j))), (4, .int (nI i))] := hl
  refine lv_iload hx hb dX4_wordAt_5 (lv_at hl 3 rfl) ?_
  refine lv_iconst (v := nI 4) hx hb dX4_wordAt_7 (by decide) ?_
  refine wx_icmp_ge (tgt := 49) hx hb dX4_wordAt_8 (by decide) (by omega) (by omega) (fun c_1 => ?_) (fun c_1 => ?_)
  · skip
    refine lv_lload_n hx hb dX4_wordAt_49 rfl (lv_at hl 2 rfl) ?_
    have hP9 := hP.sub (ws' := [(oD, .inr (4, [.int (nI th), .ref dF, .int (nI len), .int (nI ha), .ref dH, .int (nI sr), .ref dL, .int (nI en), .int (nI ram), .int (nI mz), .ref dM, .int (nI hp), .int (nI cn), .ref dP, .ref dS, .int (nI fk), .int fp, .int (nI ka), .int (nI kn), .int (nI sv), .ref dK])), (dF, .inl (cI, 3000, .inl df))]) [0, 1] rfl
    have hD9 := hD.sub (ws' := [(oD, .inr (4, [.int (nI th), .ref dF, .int (nI len), .int (nI ha), .ref dH, .int (nI sr), .ref dL, .int (nI en), .int (nI ram), .int (nI mz), .ref dM, .int (nI hp), .int (nI cn), .ref dP, .ref dS, .int (nI fk), .int fp, .int (nI ka), .int (nI kn), .int (nI sv), .ref dK])), (dF, .inl (cI, 3000, .inl df))]) [0, 1] (by decide) rfl
    exact W.lret (v := lN (vAt fb i j)) hx hb hr (fun t ht hW => ⟨⟨(lN (vAt fb i j)), (), rfl, (by rw [← vAt_4, show 4 = i by omega]), by rw [ht]; exact hP9, hD9⟩, hS.F ht⟩) hS.2.2 dX4_wordAt_50
  · skip
    refine lv_lload_n hx hb dX4_wordAt_11 rfl (lv_at hl 2 rfl) ?_
    refine lv_ldc2 (v := lN 256) hx hb hown (hts (.constantLong RX4 46 (256)) (by decide +kernel)) dX4_wordAt_12 ?_
    refine lv_lmul hx hb dX4_wordAt_15 ?_
    refine wx_topl (lN_mul _ _) ?_
    refine lv_iload_n hx hb dX4_wordAt_16 rfl (lv_at hl 1 rfl) ?_
    refine lv_iload hx hb dX4_wordAt_17 (lv_at hl 3 rfl) ?_
    refine wx_iadd hx hb dX4_wordAt_19 ?_
    refine lv_aload_n hx hb dX4_wordAt_20 rfl (lv_at hl 0 rfl) ?_
    refine va_get (D := (dC, dI)) (ci := 4) (v := .int (nI len)) (C := RX4) (T := TX4) (N := 21) hx hb hts (by decide +kernel) hown hK hP 0 rfl rfl 2 (by decide) (hts (.fieldLink RX4 36 "GlulxHeadsModel" "size" "I") (by decide +kernel)) (fun _ h9 => h9) rfl dX4_wordAt_21 ?_
    refine wx_icmp_ge (tgt := 39) hx hb dX4_wordAt_24 (by decide) (by omega) (by omega) (fun c_2 => ?_) (fun c_2 => ?_)
    · skip
      refine lv_iconst (v := nI 0) hx hb dX4_wordAt_39 (by decide) ?_
      refine lv_i2l (v := lN 0) hx hb dX4_wordAt_40 (nI_l (by omega)) ?_
      refine lv_ladd hx hb dX4_wordAt_41 ?_
      refine wx_topl (lN_add _ _) ?_
      refine wx_topl (congrArg lN (show ((vAt fb i j) * 256) + 0 = vAt fb (i + 1) j from (by show _ = vAt fb i j * 256 + fb (j + i); rw [hz (j + i) (by omega)]))) ?_
      refine lv_lstore_n (lv' := [(2, .long (lN (vAt fb (i + 1) j))), (0, .ref oD), (1, .int (nI j)), (4, .int (nI i))]) hx hb dX4_wordAt_42 rfl hl (by decide) rfl (fun ls hl => ?_)
      refine lv_iinc (v := nI (i + 1)) (lv' := [(4, .int (nI (i + 1))), (2, .long (lN (vAt fb (i + 1) j))), (0, .ref oD), (1, .int (nI j))]) hx hb dX4_wordAt_43 hl (k := 3) rfl (by rw [show Int32.ofInt 1 = nI 1 by decide]; exact nI_add _ _) (by decide) rfl (fun ls hl => ?_)
      refine lv_goto (tgt := 5) hx hb dX4_wordAt_46 (by decide) ?_
      exact ih ((i + 1)) _ _ _ (by omega) ⟨by omega, hP.sub [0, 1] rfl, hD.sub [0, 1] (by decide) rfl, hS, lv_sub hl [2, 3, 1, 0] rfl⟩
    · skip
      refine lv_aload_n hx hb dX4_wordAt_27 rfl (lv_at hl 0 rfl) ?_
      refine va_get (D := (dC, dI)) (ci := 4) (v := .ref dF) (C := RX4) (T := TX4) (N := 21) hx hb hts (by decide +kernel) hown hK hP 0 rfl rfl 1 (by decide) (hts (.fieldLink RX4 7 "GlulxHeadsModel" "file" "[I") (by decide +kernel)) (fun _ h9 => h9) rfl dX4_wordAt_28 ?_
      refine lv_iload_n hx hb dX4_wordAt_31 rfl (lv_at hl 1 rfl) ?_
      refine lv_iload hx hb dX4_wordAt_32 (lv_at hl 3 rfl) ?_
      refine wx_iadd hx hb dX4_wordAt_34 ?_
      refine wx_iald hx hb hK hP 1 1 rfl rfl (by omega) (by decide) dX4_wordAt_35 ?_
      refine wx_top (hf (j + i) (by omega)) ?_
      have hfj := hfb (j + i)
      refine lv_goto (tgt := 40) hx hb dX4_wordAt_36 (by decide) ?_
      refine lv_i2l (v := lN (fb (j + i))) hx hb dX4_wordAt_40 (nI_l (by omega)) ?_
      refine lv_ladd hx hb dX4_wordAt_41 ?_
      refine wx_topl (lN_add _ _) ?_
      refine wx_topl (congrArg lN (show ((vAt fb i j) * 256) + (fb (j + i)) = vAt fb (i + 1) j from rfl)) ?_
      refine lv_lstore_n (lv' := [(2, .long (lN (vAt fb (i + 1) j))), (0, .ref oD), (1, .int (nI j)), (4, .int (nI i))]) hx hb dX4_wordAt_42 rfl hl (by decide) rfl (fun ls hl => ?_)
      refine lv_iinc (v := nI (i + 1)) (lv' := [(4, .int (nI (i + 1))), (2, .long (lN (vAt fb (i + 1) j))), (0, .ref oD), (1, .int (nI j))]) hx hb dX4_wordAt_43 hl (k := 3) rfl (by rw [show Int32.ofInt 1 = nI 1 by decide]; exact nI_add _ _) (by decide) rfl (fun ls hl => ?_)
      refine lv_goto (tgt := 5) hx hb dX4_wordAt_46 (by decide) ?_
      exact ih ((i + 1)) _ _ _ (by omega) ⟨by omega, hP.sub [0, 1] rfl, hD.sub [0, 1] (by decide) rfl, hS, lv_sub hl [2, 3, 1, 0] rfl⟩
