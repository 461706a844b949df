def fOk (f : Nat → Int32) (len : Nat) (fb : Nat → Nat) : Prop := len ≤ 3000 ∧ (∀ j, fb j < 256) ∧ (∀ j, len ≤ j → fb j = 0) ∧ ∀ j, j < len → f j = sb_b (fb j)
set_option maxHeartbeats 4000000 in
set_option maxRecDepth 100000 in
theorem c_X2_byteAt (l : Launch) (dC : Nat → ClassId) (dI : Nat → Nat → Nat) (cB cI cJ : ClassId) (sz : Nat) (h0 : Nat) (b0 : Nat) (f : Nat → Int32) (len : Nat) (fb : Nat → Nat) (j : Nat) (hF : fOk f len fb) (hj : j < 1000000) : Met l yX2_byteAt wsX2_byteAt ({ frames := 0, cells := 0, slots := 0, locals := 0 }) (va_Pc [.ref h0, .int (nI j)] (wPre dC dI cB cI cJ sz [(h0, .inr (2, [.ref b0, .int (nI len)])), (b0, .inl (cB, 3000, .inl f))])) (va_Qi (fun (r : Int32) (u : Unit) => r = nI (fb j)) (fun (u : Unit) => wPost dC dI (va_A [(h0, .inr (2, [.ref b0, .int (nI len)])), (b0, .inl (cB, 3000, .inl f))] sz) [(h0, .inr (2, [.ref b0, .int (nI len)])), (b0, .inl (cB, 3000, .inl f))]) (va_A [(h0, .inr (2, [.ref b0, .int (nI len)])), (b0, .inl (cB, 3000, .inl f))] sz)) 0 0 (va_A [(h0, .inr (2, [.ref b0, .int (nI len)])), (b0, .inl (cB, 3000, .inl f))] sz) := by
  refine Met.ofW (cc := cX2_byteAt) (maxL := 2) (ret := (some .int)) (by decide) rfl ?_
  intro p e s m args below meth c s₁ B hml hv
  obtain ⟨rfl, hsz, hP, hK, hD0, hN⟩ := hv
  have hx := B.exec
  have hb := B.bytes
  have hr := B.returns
  have hts := atoms_spec (ws := wsX2_byteAt) B.pre
  have hown : s.vm.findClass RX2 = some m.cls := findClass_of_methodNamed B.named
  have hlocks := B.notSynchronized
  subst hsz
  have hD := hD0.self (sz := s.heap.size)
  generalize hAe : va_A [(h0, .inr (2, [.ref b0, .int (nI len)])), (b0, .inl (cB, 3000, .inl f))] s.heap.size = A at hD ⊢
  have hA : ∀ q : Nat, s.heap.size ≤ q → A q := fun q h => by rw [← hAe]; exact Or.inr h
  have hS : va_S A s.heap s.heap [] := va_S.rf
  have hP : va_P (dC, dI) vwCl [(h0, .inr (2, [.ref b0, .int (nI len)])), (b0, .inl (cB, 3000, .inl f))] s.heap := hP
  have hl := lv_entry ([.ref h0, .int (nI j)]) (n := 2) (Nat.le_of_ble_eq_true rfl)
  rw [lg_entry_eq]
  generalize (lg_sl ([.ref h0, .int (nI j)]) ++ List.replicate (2 - (lg_sl ([.ref h0, .int (nI j)])).length) Slot.unset).toArray = ls at hl ⊢
  have hl : lv_has ls 2 [(0, .ref h0), (1, .int (nI j))] := hl
  refine lv_iload_n hx hb dX2_byteAt_0 rfl (lv_at hl 1 rfl) ?_
  refine wx_if_lt (tgt := 32) hx hb dX2_byteAt_1 (by decide) (by first | omega | (have := hF.1; omega)) ?_
  refine lv_iload_n hx hb dX2_byteAt_4 rfl (lv_at hl 1 rfl) ?_
  refine lv_aload_n hx hb dX2_byteAt_5 rfl (lv_at hl 0 rfl) ?_
  refine va_get (D := (dC, dI)) (ci := 2) (v := .int (nI len)) (C := RX2) (T := TX2) (N := 2) hx hb hts (by decide +kernel) hown hK hP 0 rfl rfl 1 (by decide) (hts (.fieldLink RX2 15 "GlulxHeads$StoryFile" "length" "I") (by decide +kernel)) (fun _ h9 => h9) rfl dX2_byteAt_6 ?_
  refine wx_icmp_ge (tgt := 32) hx hb dX2_byteAt_9 (by decide) (by first | omega | (have := hF.1; omega)) (by first | omega | (have := hF.1; omega)) (fun c_2 => ?_) (fun c_2 => ?_)
  · skip
    refine lv_iconst (v := nI 0) hx hb dX2_byteAt_32 (by decide) ?_
    have hP9 := hP.sub (ws' := [(h0, .inr (2, [.ref b0, .int (nI len)])), (b0, .inl (cB, 3000, .inl f))]) [0, 1] rfl
    have hD9 := hD.sub (ws' := [(h0, .inr (2, [.ref b0, .int (nI len)])), (b0, .inl (cB, 3000, .inl f))]) [0, 1] (by decide) rfl
    exact W.iret (v := nI 0) hx hb hr (fun t ht hW => ⟨⟨(nI 0), (), rfl, by rw [hF.2.2.1 j (by omega)], by rw [ht]; exact hP9, hD9⟩, hS.F ht⟩) hS.2.2 dX2_byteAt_33
  · skip
    refine lv_iload_n hx hb dX2_byteAt_12 rfl (lv_at hl 1 rfl) ?_
    refine lv_sipush (v := nI 3000) hx hb dX2_byteAt_13 (by decide) ?_
    refine wx_icmp_ge (tgt := 32) hx hb dX2_byteAt_16 (by decide) (by first | omega | (have := hF.1; omega)) (by first | omega | (have := hF.1; omega)) (fun c_3 => ?_) (fun c_3 => ?_)
    · skip
      refine lv_iconst (v := nI 0) hx hb dX2_byteAt_32 (by decide) ?_
      have hP9 := hP.sub (ws' := [(h0, .inr (2, [.ref b0, .int (nI len)])), (b0, .inl (cB, 3000, .inl f))]) [0, 1] rfl
      have hD9 := hD.sub (ws' := [(h0, .inr (2, [.ref b0, .int (nI len)])), (b0, .inl (cB, 3000, .inl f))]) [0, 1] (by decide) rfl
      exact W.iret (v := nI 0) hx hb hr (fun t ht hW => ⟨⟨(nI 0), (), rfl, by rw [hF.2.2.1 j (by omega)], by rw [ht]; exact hP9, hD9⟩, hS.F ht⟩) hS.2.2 dX2_byteAt_33
    · skip
      refine lv_aload_n hx hb dX2_byteAt_19 rfl (lv_at hl 0 rfl) ?_
      refine va_get (D := (dC, dI)) (ci := 2) (v := .ref b0) (C := RX2) (T := TX2) (N := 2) hx hb hts (by decide +kernel) hown hK hP 0 rfl rfl 0 (by decide) (hts (.fieldLink RX2 9 "GlulxHeads$StoryFile" "bytes" "[B") (by decide +kernel)) (fun _ h9 => h9) rfl dX2_byteAt_20 ?_
      refine lv_iload_n hx hb dX2_byteAt_23 rfl (lv_at hl 1 rfl) ?_
      refine wx_bald hx hb hK hP 1 0 rfl rfl (by first | omega | (have := hF.1; omega)) (by decide) dX2_byteAt_24 ?_
      refine lv_sipush (v := nI 255) hx hb dX2_byteAt_25 (by decide) ?_
      refine lv_iand hx hb dX2_byteAt_28 ?_
      refine lv_goto (tgt := 33) hx hb dX2_byteAt_29 (by decide) ?_
      have hP9 := hP.sub (ws' := [(h0, .inr (2, [.ref b0, .int (nI len)])), (b0, .inl (cB, 3000, .inl f))]) [0, 1] rfl
      have hD9 := hD.sub (ws' := [(h0, .inr (2, [.ref b0, .int (nI len)])), (b0, .inl (cB, 3000, .inl f))]) [0, 1] (by decide) rfl
      exact W.iret (v := (f j) &&& (nI 255)) hx hb hr (fun t ht hW => ⟨⟨((f j) &&& (nI 255)), (), rfl, by rw [hF.2.2.2 j (by omega)]; exact sb_and (hF.2.1 j), by rw [ht]; exact hP9, hD9⟩, hS.F ht⟩) hS.2.2 dX2_byteAt_33
