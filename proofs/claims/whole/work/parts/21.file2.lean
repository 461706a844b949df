/-- the sum of the first i words, that at 32 taken as 0 -/
def sumW (fb : Nat → Nat) : Nat → Nat
  | 0 => 0
  | i + 1 => sumW fb i + (if 4 * i = 32 then 0 else fw fb (4 * i))
theorem sumW_s {fb : Nat → Nat} {i : Nat} (h : ¬ 4 * i = 32) : sumW fb (i + 1) = sumW fb i + fw fb (4 * i) := by
  show sumW fb i + _ = _
  rw [if_neg h]
theorem sumW_t {fb : Nat → Nat} {i : Nat} (h : 4 * i = 32) : sumW fb (i + 1) = sumW fb i := by
  show sumW fb i + _ = _
  rw [if_pos h]; rfl
def vMarks (len r x e : Nat) : Nat := if ¬ r % 256 = 0 ∨ ¬ x % 256 = 0 ∨ ¬ e % 256 = 0 then 4 else if r < 256 ∨ x < r ∨ e < x then 5 else if ¬ x = len then 6 else 0
def vUse (fb : Nat → Nat) (e s : Nat) : Nat := if s = 0 ∨ ¬ s % 256 = 0 then 7 else if fw fb 24 < 36 ∨ e ≤ fw fb 24 then 8 else if ¬ fw fb 28 = 0 ∧ (fw fb 28 < 36 ∨ e ≤ fw fb 28) then 9 else if 4096 < e ∨ 65536 < s then 10 else 0
/-- the verdict -/
def verd (fb : Nat → Nat) (len : Nat) : Nat := if len < 36 then 1 else if ¬ fw fb 0 = 1198290284 then 2 else if fw fb 4 < 131072 ∨ 197119 < fw fb 4 then 3 else if ¬ vMarks len (fw fb 8) (fw fb 12) (fw fb 16) = 0 then vMarks len (fw fb 8) (fw fb 12) (fw fb 16) else vUse fb (fw fb 16) (fw fb 20)
theorem vMarks_lt (len r x e : Nat) : vMarks len r x e < 11 := by unfold vMarks; (repeat' split) <;> omega
theorem vUse_lt (fb : Nat → Nat) (e s : Nat) : vUse fb e s < 11 := by unfold vUse; (repeat' split) <;> omega
theorem verd_lt (fb : Nat → Nat) (len : Nat) : verd fb len < 11 := by unfold verd; (repeat' split) <;> first | omega | exact vMarks_lt _ _ _ _ | exact vUse_lt _ _ _
set_option maxHeartbeats 4000000 in
set_option maxRecDepth 100000 in
theorem c_X2_rightSum (l : Launch) (dC : Nat → ClassId) (dI : Nat → Nat → Nat) (cB cI cJ : ClassId) (sz : Nat) (h0 : Nat) (b0 : Nat) (f : Nat → Int32) (len : Nat) (fb : Nat → Nat) (hF : fOk f len fb) : Met l yX2_rightSum wsX2_rightSum ({ frames := 2, cells := 0, slots := 0, locals := 43 }) (va_Pc [.ref h0] (wPre dC dI cB cI cJ sz [(h0, .inr (2, [.ref b0, .int (nI len)])), (b0, .inl (cB, 3000, .inl f))])) (va_Ql (fun (r : Int64) (u : Unit) => r = lN (sumW fb ((len + 3) / 4) % 4294967296)) (fun (u : Unit) => wPost dC dI (va_A [(h0, .inr (2, [.ref b0, .int (nI len)])), (b0, .inl (cB, 3000, .inl f))] sz) [(h0, .inr (2, [.ref b0, .int (nI len)])), (b0, .inl (cB, 3000, .inl f))]) (va_A [(h0, .inr (2, [.ref b0, .int (nI len)])), (b0, .inl (cB, 3000, .inl f))] sz)) 0 0 (va_A [(h0, .inr (2, [.ref b0, .int (nI len)])), (b0, .inl (cB, 3000, .inl f))] sz) := by
  refine Met.ofW (cc := cX2_rightSum) (maxL := 4) (ret := (some .long)) (by decide) rfl ?_
  intro p e s m args below meth c s₁ B hml hv
  obtain ⟨rfl, hsz, hP, hK, hD0, hN⟩ := hv
  have hx := B.exec
  have hb := B.bytes
  have hr := B.returns
  have hts := atoms_spec (ws := wsX2_rightSum) B.pre
  have hown : s.vm.findClass RX2 = some m.cls := findClass_of_methodNamed B.named
  have hlocks := B.notSynchronized
  subst hsz
  have hD := hD0.self (sz := s.heap.size)
  generalize hAe : va_A [(h0, .inr (2, [.ref b0, .int (nI len)])), (b0, .inl (cB, 3000, .inl f))] s.heap.size = A at hD ⊢
  have hA : ∀ q : Nat, s.heap.size ≤ q → A q := fun q h => by rw [← hAe]; exact Or.inr h
  have hS : va_S A s.heap s.heap [] := va_S.rf
  have hP : va_P (dC, dI) vwCl [(h0, .inr (2, [.ref b0, .int (nI len)])), (b0, .inl (cB, 3000, .inl f))] s.heap := hP
  have hl := lv_entry ([.ref h0]) (n := 4) (Nat.le_of_ble_eq_true rfl)
  rw [lg_entry_eq]
  generalize (lg_sl ([.ref h0]) ++ List.replicate (4 - (lg_sl ([.ref h0])).length) Slot.unset).toArray = ls at hl ⊢
  have hl : lv_has ls 4 [(0, .ref h0)] := hl
  have hF1 := hF.1
  have hF2 := hF.2.1
  refine lv_lconst (v := lN 0) hx hb dX2_rightSum_0 (by decide) ?_
  refine lv_lstore_n (lv' := [(1, .long (lN 0)), (0, .ref h0)]) hx hb dX2_rightSum_1 rfl hl (by decide) rfl (fun ls hl => ?_)
  refine lv_iconst (v := nI 0) hx hb dX2_rightSum_2 (by decide) ?_
  refine lv_istore_n (lv' := [(3, .int (nI 0)), (1, .long (lN 0)), (0, .ref h0)]) hx hb dX2_rightSum_3 rfl hl (by decide) rfl (fun ls hl => ?_)
  refine wx_loop (σ := Nat) (fun x => len + 4 - 4 * x) (fun x H locs ls => (4 * x < len + 4) ∧ va_P (dC, dI) vwCl [(h0, .inr (2, [.ref b0, .int (nI len)])), (b0, .inl (cB, 3000, .inl f))] H ∧ va_D A [(h0, .inr (2, [.ref b0, .int (nI len)])), (b0, .inl (cB, 3000, .inl f))] ∧ va_S A s.heap H locs ∧ lv_has ls 4 [(0, .ref h0), (1, .long (lN (sumW fb x))), (3, .int (nI (4 * x)))]) ?_ (0) _ _ _ ⟨by omega, hP.sub [0, 1] rfl, hD.sub [0, 1] (by decide) rfl, hS, lv_sub hl [2, 1, 0] rfl⟩
  rintro i H locs ls ⟨hi, hP, hD, hS, hl⟩ ih
  have hi : 4 * i < len + 4 := hi
  have hP : va_P (dC, dI) vwCl [(h0, .inr (2, [.ref b0, .int (nI len)])), (b0, .inl (cB, 3000, .inl f))] H := hP
  have hD : va_D A [(h0, .inr (2, [.ref b0, .int (nI len)])), (b0, .inl (cB, 3000, .inl f))] := hD
  have hl : lv_has ls 4 [(0, .ref h0), (1, .long (lN (sumW fb i))), (3, .int (nI (4 * i)))] := hl
  refine lv_iload_n hx hb dX2_rightSum_4 rfl (lv_at hl 2 rfl) ?_
  refine lv_aload_n hx hb dX2_rightSum_5 rfl (lv_at hl 0 rfl) ?_
  refine va_get (D := (dC, dI)) (ci := 2) (v := .int (nI len)) (C := RX2) (T := TX2) (N := 2) hx hb hts (by decide +kernel) hown hK hP 0 rfl rfl 1 (by decide) (hts (.fieldLink RX2 15 "GlulxHeads$StoryFile" "length" "I") (by decide +kernel)) (fun _ h9 => h9) rfl dX2_rightSum_6 ?_
  refine wx_icmp_ge (tgt := 32) hx hb dX2_rightSum_9 (by decide) (by omega) (by omega) (fun c_1 => ?_) (fun c_1 => ?_)
  · skip
    refine lv_lload_n hx hb dX2_rightSum_32 rfl (lv_at hl 1 rfl) ?_
    refine lv_ldc2 (v := lN 4294967295) hx hb hown (hts (.constantLong RX2 31 (4294967295)) (by decide +kernel)) dX2_rightSum_33 ?_
    refine lv_land hx hb dX2_rightSum_36 ?_
    have hP9 := hP.sub (ws' := [(h0, .inr (2, [.ref b0, .int (nI len)])), (b0, .inl (cB, 3000, .inl f))]) [0, 1] rfl
    have hD9 := hD.sub (ws' := [(h0, .inr (2, [.ref b0, .int (nI len)])), (b0, .inl (cB, 3000, .inl f))]) [0, 1] (by decide) rfl
    exact W.lret (v := (lN (sumW fb i)) &&& (lN 4294967295)) hx hb hr (fun t ht hW => ⟨⟨((lN (sumW fb i)) &&& (lN 4294967295)), (), rfl, (by rw [lb_mask, show (len + 3) / 4 = i by omega]), by rw [ht]; exact hP9, hD9⟩, hS.F ht⟩) hS.2.2 dX2_rightSum_37
  · skip
    refine lv_iload_n hx hb dX2_rightSum_12 rfl (lv_at hl 2 rfl) ?_
    refine lv_bipush (v := nI 32) hx hb dX2_rightSum_13 (by decide) ?_
    refine wx_icmp_eq (tgt := 26) hx hb dX2_rightSum_15 (by decide) (by omega) (by omega) (fun c_2 => ?_) (fun c_2 => ?_)
    · skip
      have hl : lv_has ls 4 [(0, .ref h0), (1, .long (lN (sumW fb (i + 1)))), (3, .int (nI (4 * i)))] := by
        have e1 : sumW fb (i + 1) = sumW fb i := by first | exact sumW_s (by omega) | exact sumW_t (by omega)
        rw [e1]; exact lv_sub hl [0, 1, 2] rfl
      refine lv_iinc (v := nI (4 * i + 4)) (lv' := [(3, .int (nI (4 * i + 4))), (0, .ref h0), (1, .long (lN (sumW fb (i + 1))))]) hx hb dX2_rightSum_26 hl (k := 2) rfl (by rw [show Int32.ofInt 4 = nI 4 by decide]; exact nI_add _ _) (by decide) rfl (fun ls hl => ?_)
      refine lv_goto (tgt := 4) hx hb dX2_rightSum_29 (by decide) ?_
      exact ih ((i + 1)) _ _ _ (by omega) ⟨by omega, hP.sub [0, 1] rfl, hD.sub [0, 1] (by decide) rfl, hS, lv_sub hl [1, 2, 0] rfl⟩
    · skip
      refine lv_lload_n hx hb dX2_rightSum_18 rfl (lv_at hl 1 rfl) ?_
      refine lv_aload_n hx hb dX2_rightSum_19 rfl (lv_at hl 0 rfl) ?_
      refine lv_iload_n hx hb dX2_rightSum_20 rfl (lv_at hl 2 rfl) ?_
      have hPc := hP.sub (ws' := [(h0, .inr (2, [.ref b0, .int (nI len)])), (b0, .inl (cB, 3000, .inl f))]) [0, 1] rfl
      have hDc := hD.sub (ws' := [(h0, .inr (2, [.ref b0, .int (nI len)])), (b0, .inl (cB, 3000, .inl f))]) [0, 1] (by decide) rfl
      have hFc := va_free (wc := [(h0, .inr (2, [.ref b0, .int (nI len)])), (b0, .inl (cB, 3000, .inl f))]) hD hS hA [0, 1] rfl
      refine va_calll (va_runV (As := [.int (nI (4 * i))]) (rest := [.long (lN (sumW fb i))]) ⟨hx, hb, hml, hown, hts⟩ (c_X2_wordAt l dC dI cB cI cJ H.size h0 b0 f len fb (4 * i) hF (by omega)) (cwV 1 hts gX2_rightSum_X2_wordAt rfl rfl rfl (by decide +kernel) ⟨Nat.le_of_ble_eq_true rfl, Nat.le_of_ble_eq_true rfl⟩) ⟨wBlind, va_recv hK hPc (ci := 2) (q0 := 0) rfl rfl, wGo hK hPc hDc hN⟩ rfl rfl hl.1 rfl (lv_room (Nat.le_of_ble_eq_true rfl)) dX2_rightSum_21 ⟨show 0 ≤ 0 by decide, show 0 ≤ 0 by decide⟩) hS (fun q _ h => hFc q h) hFc (fun r_4 u t H1 locs ht hvm w_5 hB hz1 hk1 hS => ?_)
      clear u
      obtain ⟨hP1, hD1⟩ := hB
      rw [ht] at hP1
      try dsimp only at w_5
      obtain ⟨hP, hD⟩ := va_join (wr := []) (w1 := [(h0, .inr (2, [.ref b0, .int (nI len)])), (b0, .inl (cB, 3000, .inl f))]) hP hD [0, 1] [] rfl rfl (by decide) (by decide) hk1 hFc hP1 hD1
      clear hPc hDc hFc hP1 hD1 hz1 hk1 hvm
      generalize H1 = H at hP hS ⊢
      have hP : va_P (dC, dI) vwCl [(h0, .inr (2, [.ref b0, .int (nI len)])), (b0, .inl (cB, 3000, .inl f))] H := hP
      have hD : va_D A [(h0, .inr (2, [.ref b0, .int (nI len)])), (b0, .inl (cB, 3000, .inl f))] := hD
      subst w_5
      refine lv_ladd hx hb dX2_rightSum_24 ?_
      refine wx_topl (lN_add _ _) ?_
      refine lv_lstore_n (lv' := [(1, .long (lN ((sumW fb i) + (fw fb (4 * i))))), (0, .ref h0), (3, .int (nI (4 * i)))]) hx hb dX2_rightSum_25 rfl hl (by decide) rfl (fun ls hl => ?_)
      have hl : lv_has ls 4 [(0, .ref h0), (1, .long (lN (sumW fb (i + 1)))), (3, .int (nI (4 * i)))] := by
        have e1 : sumW fb (i + 1) = (sumW fb i) + (fw fb (4 * i)) := by first | exact sumW_s (by omega) | exact sumW_t (by omega)
        rw [e1]; exact lv_sub hl [1, 0, 2] rfl
      refine lv_iinc (v := nI (4 * i + 4)) (lv' := [(3, .int (nI (4 * i + 4))), (0, .ref h0), (1, .long (lN (sumW fb (i + 1))))]) hx hb dX2_rightSum_26 hl (k := 2) rfl (by rw [show Int32.ofInt 4 = nI 4 by decide]; exact nI_add _ _) (by decide) rfl (fun ls hl => ?_)
      refine lv_goto (tgt := 4) hx hb dX2_rightSum_29 (by decide) ?_
      exact ih ((i + 1)) _ _ _ (by omega) ⟨by omega, hP.sub [0, 1] rfl, hD.sub [0, 1] (by decide) rfl, hS, lv_sub hl [1, 2, 0] rfl⟩
set_option maxHeartbeats 4000000 in
set_option maxRecDepth 100000 in
theorem c_X2_isBehindHead (l : Launch) (dC : Nat → ClassId) (dI : Nat → Nat → Nat) (cB cI cJ : ClassId) (sz : Nat) (pl : Nat) (en : Nat) (hpl : pl < 4294967296) (hen : en < 4294967296) : Met l yX2_isBehindHead wsX2_isBehindHead ({ frames := 0, cells := 0, slots := 0, locals := 0 }) (va_Pc [.long (lN pl), .long (lN en)] (wPre dC dI cB cI cJ sz [])) (va_Qi (fun (r : Int32) (u : Unit) => r = nI (if 36 ≤ pl ∧ pl < en then 1 else 0)) (fun (u : Unit) => wPost dC dI (va_A [] sz) []) (va_A [] sz)) 0 0 (va_A [] sz) := by
  refine Met.ofW (cc := cX2_isBehindHead) (maxL := 4) (ret := (some .boolean)) (by decide) rfl ?_
  intro p e s m args below meth c s₁ B hml hv
  obtain ⟨rfl, hsz, hP, hK, hD0, hN⟩ := hv
  have hx := B.exec
  have hb := B.bytes
  have hr := B.returns
  have hts := atoms_spec (ws := wsX2_isBehindHead) B.pre
  have hown : s.vm.findClass RX2 = some m.cls := findClass_of_methodNamed B.named
  have hlocks := B.notSynchronized
  subst hsz
  have hD := hD0.self (sz := s.heap.size)
  generalize hAe : va_A [] s.heap.size = A at hD ⊢
  have hA : ∀ q : Nat, s.heap.size ≤ q → A q := fun q h => by rw [← hAe]; exact Or.inr h
  have hS : va_S A s.heap s.heap [] := va_S.rf
  have hP : va_P (dC, dI) vwCl [] s.heap := hP
  have hl := lv_entry ([.long (lN pl), .long (lN en)]) (n := 4) (Nat.le_of_ble_eq_true rfl)
  rw [lg_entry_eq]
  generalize (lg_sl ([.long (lN pl), .long (lN en)]) ++ List.replicate (4 - (lg_sl ([.long (lN pl), .long (lN en)])).length) Slot.unset).toArray = ls at hl ⊢
  have hl : lv_has ls 4 [(0, .long (lN pl)), (2, .long (lN en))] := hl
  refine lv_lload_n hx hb dX2_isBehindHead_0 rfl (lv_at hl 0 rfl) ?_
  refine lv_ldc2 (v := lN 36) hx hb hown (hts (.constantLong RX2 61 (36)) (by decide +kernel)) dX2_isBehindHead_1 ?_
  refine wx_ln_lt (tgt := 18) hx hb dX2_isBehindHead_4 dX2_isBehindHead_5 (by decide) (by omega) (by omega) (fun c_1 => ?_) (fun c_1 => ?_)
  · skip
    refine lv_iconst (v := nI 0) hx hb dX2_isBehindHead_18 (by decide) ?_
    have hP9 := hP.sub (ws' := []) [] rfl
    have hD9 := hD.sub (ws' := []) [] (by decide) rfl
    exact W.zret (v := nI 0) hx hb hr (by first | rfl | decide) (fun t ht hW => ⟨⟨(nI 0), (), rfl, by rw [if_neg (by omega)], by rw [ht]; exact hP9, hD9⟩, hS.F ht⟩) hS.2.2 dX2_isBehindHead_19
  · skip
    refine lv_lload_n hx hb dX2_isBehindHead_8 rfl (lv_at hl 0 rfl) ?_
    refine lv_lload_n hx hb dX2_isBehindHead_9 rfl (lv_at hl 1 rfl) ?_
    refine wx_ln_ge (tgt := 18) hx hb dX2_isBehindHead_10 dX2_isBehindHead_11 (by decide) (by omega) (by omega) (fun c_2 => ?_) (fun c_2 => ?_)
    · skip
      refine lv_iconst (v := nI 0) hx hb dX2_isBehindHead_18 (by decide) ?_
      have hP9 := hP.sub (ws' := []) [] rfl
      have hD9 := hD.sub (ws' := []) [] (by decide) rfl
      exact W.zret (v := nI 0) hx hb hr (by first | rfl | decide) (fun t ht hW => ⟨⟨(nI 0), (), rfl, by rw [if_neg (by omega)], by rw [ht]; exact hP9, hD9⟩, hS.F ht⟩) hS.2.2 dX2_isBehindHead_19
    · skip
      refine lv_iconst (v := nI 1) hx hb dX2_isBehindHead_14 (by decide) ?_
      refine lv_goto (tgt := 19) hx hb dX2_isBehindHead_15 (by decide) ?_
      have hP9 := hP.sub (ws' := []) [] rfl
      have hD9 := hD.sub (ws' := []) [] (by decide) rfl
      exact W.zret (v := nI 1) hx hb hr (by first | rfl | decide) (fun t ht hW => ⟨⟨(nI 1), (), rfl, by rw [if_pos (by omega)], by rw [ht]; exact hP9, hD9⟩, hS.F ht⟩) hS.2.2 dX2_isBehindHead_19
set_option maxHeartbeats 4000000 in
set_option maxRecDepth 100000 in
theorem c_X2_judgeMarks (l : Launch) (dC : Nat → ClassId) (dI : Nat → Nat → Nat) (cB cI cJ : ClassId) (sz : Nat) (h0 : Nat) (b0 : Nat) (f : Nat → Int32) (len : Nat) (fb : Nat → Nat) (x1 : Nat) (x2 : Nat) (x3 : Nat) (hF : fOk f len fb) (h1 : x1 < 4294967296) (h2 : x2 < 4294967296) (h3 : x3 < 4294967296) : Met l yX2_judgeMarks wsX2_judgeMarks ({ frames := 0, cells := 0, slots := 0, locals := 0 }) (va_Pc [.ref h0, .long (lN x1), .long (lN x2), .long (lN x3)] (wPre dC dI cB cI cJ sz [(h0, .inr (2, [.ref b0, .int (nI len)])), (b0, .inl (cB, 3000, .inl f))])) (va_Qi (fun (r : Int32) (u : Unit) => r = nI (vMarks len x1 x2 x3)) (fun (u : Unit) => wPost dC dI (va_A [(h0, .inr (2, [.ref b0, .int (nI len)])), (b0, .inl (cB, 3000, .inl f))] sz) [(h0, .inr (2, [.ref b0, .int (nI len)])), (b0, .inl (cB, 3000, .inl f))]) (va_A [(h0, .inr (2, [.ref b0, .int (nI len)])), (b0, .inl (cB, 3000, .inl f))] sz)) 0 0 (va_A [(h0, .inr (2, [.ref b0, .int (nI len)])), (b0, .inl (cB, 3000, .inl f))] sz) := by
  refine Met.ofW (cc := cX2_judgeMarks) (maxL := 7) (ret := (some .int)) (by decide) rfl ?_
  intro p e s m args below meth c s₁ B hml hv
  obtain ⟨rfl, hsz, hP, hK, hD0, hN⟩ := hv
  have hx := B.exec
  have hb := B.bytes
  have hr := B.returns
  have hts := atoms_spec (ws := wsX2_judgeMarks) B.pre
  have hown : s.vm.findClass RX2 = some m.cls := findClass_of_methodNamed B.named
  have hlocks := B.notSynchronized
  subst hsz
  have hD := hD0.self (sz := s.heap.size)
  generalize hAe : va_A [(h0, .inr (2, [.ref b0, .int (nI len)])), (b0, .inl (cB, 3000, .inl f))] s.heap.size = A at hD ⊢
  have hA : ∀ q : Nat, s.heap.size ≤ q → A q := fun q h => by rw [← hAe]; exact Or.inr h
  have hS : va_S A s.heap s.heap [] := va_S.rf
  have hP : va_P (dC, dI) vwCl [(h0, .inr (2, [.ref b0, .int (nI len)])), (b0, .inl (cB, 3000, .inl f))] s.heap := hP
  have hl := lv_entry ([.ref h0, .long (lN x1), .long (lN x2), .long (lN x3)]) (n := 7) (Nat.le_of_ble_eq_true rfl)
  rw [lg_entry_eq]
  generalize (lg_sl ([.ref h0, .long (lN x1), .long (lN x2), .long (lN x3)]) ++ List.replicate (7 - (lg_sl ([.ref h0, .long (lN x1), .long (lN x2), .long (lN x3)])).length) Slot.unset).toArray = ls at hl ⊢
  have hl : lv_has ls 7 [(0, .ref h0), (1, .long (lN x1)), (3, .long (lN x2)), (5, .long (lN x3))] := hl
  have hF1 := hF.1
  have hF2 := hF.2.1
  refine lv_lload_n hx hb dX2_judgeMarks_0 rfl (lv_at hl 1 rfl) ?_
  refine lv_ldc2 (v := lN 256) hx hb hown (hts (.constantLong RX2 51 (256)) (by decide +kernel)) dX2_judgeMarks_1 ?_
  refine lv_lrem hx hb dX2_judgeMarks_4 (by decide) ?_
  refine wx_topl (pk_lRem (by omega) (by omega) (by omega)) ?_
  refine lv_lconst (v := lN 0) hx hb dX2_judgeMarks_5 (by decide) ?_
  refine wx_ln_ne (tgt := 31) hx hb dX2_judgeMarks_6 dX2_judgeMarks_7 (by decide) (by omega) (by omega) (fun c_1 => ?_) (fun c_1 => ?_)
  · skip
    refine lv_iconst (v := nI 4) hx hb dX2_judgeMarks_31 (by decide) ?_
    have hP9 := hP.sub (ws' := [(h0, .inr (2, [.ref b0, .int (nI len)])), (b0, .inl (cB, 3000, .inl f))]) [0, 1] rfl
    have hD9 := hD.sub (ws' := [(h0, .inr (2, [.ref b0, .int (nI len)])), (b0, .inl (cB, 3000, .inl f))]) [0, 1] (by decide) rfl
    exact W.iret (v := nI 4) hx hb hr (fun t ht hW => ⟨⟨(nI 4), (), rfl, (by unfold vMarks; (repeat' split) <;> first | rfl | (exfalso; omega)), by rw [ht]; exact hP9, hD9⟩, hS.F ht⟩) hS.2.2 dX2_judgeMarks_32
  · skip
    refine lv_lload_n hx hb dX2_judgeMarks_10 rfl (lv_at hl 2 rfl) ?_
    refine lv_ldc2 (v := lN 256) hx hb hown (hts (.constantLong RX2 51 (256)) (by decide +kernel)) dX2_judgeMarks_11 ?_
    refine lv_lrem hx hb dX2_judgeMarks_14 (by decide) ?_
    refine wx_topl (pk_lRem (by omega) (by omega) (by omega)) ?_
    refine lv_lconst (v := lN 0) hx hb dX2_judgeMarks_15 (by decide) ?_
    refine wx_ln_ne (tgt := 31) hx hb dX2_judgeMarks_16 dX2_judgeMarks_17 (by decide) (by omega) (by omega) (fun c_2 => ?_) (fun c_2 => ?_)
    · skip
      refine lv_iconst (v := nI 4) hx hb dX2_judgeMarks_31 (by decide) ?_
      have hP9 := hP.sub (ws' := [(h0, .inr (2, [.ref b0, .int (nI len)])), (b0, .inl (cB, 3000, .inl f))]) [0, 1] rfl
      have hD9 := hD.sub (ws' := [(h0, .inr (2, [.ref b0, .int (nI len)])), (b0, .inl (cB, 3000, .inl f))]) [0, 1] (by decide) rfl
      exact W.iret (v := nI 4) hx hb hr (fun t ht hW => ⟨⟨(nI 4), (), rfl, (by unfold vMarks; (repeat' split) <;> first | rfl | (exfalso; omega)), by rw [ht]; exact hP9, hD9⟩, hS.F ht⟩) hS.2.2 dX2_judgeMarks_32
    · skip
      refine lv_lload hx hb dX2_judgeMarks_20 (lv_at hl 3 rfl) ?_
      refine lv_ldc2 (v := lN 256) hx hb hown (hts (.constantLong RX2 51 (256)) (by decide +kernel)) dX2_judgeMarks_22 ?_
      refine lv_lrem hx hb dX2_judgeMarks_25 (by decide) ?_
      refine wx_topl (pk_lRem (by omega) (by omega) (by omega)) ?_
      refine lv_lconst (v := lN 0) hx hb dX2_judgeMarks_26 (by decide) ?_
      refine wx_ln_eq (tgt := 33) hx hb dX2_judgeMarks_27 dX2_judgeMarks_28 (by decide) (by omega) (by omega) (fun c_3 => ?_) (fun c_3 => ?_)
      · skip
        refine lv_lload_n hx hb dX2_judgeMarks_33 rfl (lv_at hl 1 rfl) ?_
        refine lv_ldc2 (v := lN 256) hx hb hown (hts (.constantLong RX2 51 (256)) (by decide +kernel)) dX2_judgeMarks_34 ?_
        refine wx_ln_lt (tgt := 54) hx hb dX2_judgeMarks_37 dX2_judgeMarks_38 (by decide) (by omega) (by omega) (fun c_4 => ?_) (fun c_4 => ?_)
        · skip
          refine lv_iconst (v := nI 5) hx hb dX2_judgeMarks_54 (by decide) ?_
          have hP9 := hP.sub (ws' := [(h0, .inr (2, [.ref b0, .int (nI len)])), (b0, .inl (cB, 3000, .inl f))]) [0, 1] rfl
          have hD9 := hD.sub (ws' := [(h0, .inr (2, [.ref b0, .int (nI len)])), (b0, .inl (cB, 3000, .inl f))]) [0, 1] (by decide) rfl
          exact W.iret (v := nI 5) hx hb hr (fun t ht hW => ⟨⟨(nI 5), (), rfl, (by unfold vMarks; (repeat' split) <;> first | rfl | (exfalso; omega)), by rw [ht]; exact hP9, hD9⟩, hS.F ht⟩) hS.2.2 dX2_judgeMarks_55
        · skip
          refine lv_lload_n hx hb dX2_judgeMarks_41 rfl (lv_at hl 1 rfl) ?_
          refine lv_lload_n hx hb dX2_judgeMarks_42 rfl (lv_at hl 2 rfl) ?_
          refine wx_ln_gt (tgt := 54) hx hb dX2_judgeMarks_43 dX2_judgeMarks_44 (by decide) (by omega) (by omega) (fun c_5 => ?_) (fun c_5 => ?_)
          · skip
            refine lv_iconst (v := nI 5) hx hb dX2_judgeMarks_54 (by decide) ?_
            have hP9 := hP.sub (ws' := [(h0, .inr (2, [.ref b0, .int (nI len)])), (b0, .inl (cB, 3000, .inl f))]) [0, 1] rfl
            have hD9 := hD.sub (ws' := [(h0, .inr (2, [.ref b0, .int (nI len)])), (b0, .inl (cB, 3000, .inl f))]) [0, 1] (by decide) rfl
            exact W.iret (v := nI 5) hx hb hr (fun t ht hW => ⟨⟨(nI 5), (), rfl, (by unfold vMarks; (repeat' split) <;> first | rfl | (exfalso; omega)), by rw [ht]; exact hP9, hD9⟩, hS.F ht⟩) hS.2.2 dX2_judgeMarks_55
          · skip
            refine lv_lload_n hx hb dX2_judgeMarks_47 rfl (lv_at hl 2 rfl) ?_
            refine lv_lload hx hb dX2_judgeMarks_48 (lv_at hl 3 rfl) ?_
            refine wx_ln_le (tgt := 56) hx hb dX2_judgeMarks_50 dX2_judgeMarks_51 (by decide) (by omega) (by omega) (fun c_6 => ?_) (fun c_6 => ?_)
            · skip
              refine lv_lload_n hx hb dX2_judgeMarks_56 rfl (lv_at hl 2 rfl) ?_
              refine lv_aload_n hx hb dX2_judgeMarks_57 rfl (lv_at hl 0 rfl) ?_
              refine va_get (D := (dC, dI)) (ci := 2) (v := .int (nI len)) (C := RX2) (T := TX2) (N := 2) hx hb hts (by decide +kernel) hown hK hP 0 rfl rfl 1 (by decide) (hts (.fieldLink RX2 15 "GlulxHeads$StoryFile" "length" "I") (by decide +kernel)) (fun _ h9 => h9) rfl dX2_judgeMarks_58 ?_
              refine lv_i2l (v := lN len) hx hb dX2_judgeMarks_61 (nI_l (by omega)) ?_
              refine wx_ln_eq (tgt := 71) hx hb dX2_judgeMarks_62 dX2_judgeMarks_63 (by decide) (by omega) (by omega) (fun c_7 => ?_) (fun c_7 => ?_)
              · skip
                refine lv_iconst (v := nI 0) hx hb dX2_judgeMarks_71 (by decide) ?_
                have hP9 := hP.sub (ws' := [(h0, .inr (2, [.ref b0, .int (nI len)])), (b0, .inl (cB, 3000, .inl f))]) [0, 1] rfl
                have hD9 := hD.sub (ws' := [(h0, .inr (2, [.ref b0, .int (nI len)])), (b0, .inl (cB, 3000, .inl f))]) [0, 1] (by decide) rfl
                exact W.iret (v := nI 0) hx hb hr (fun t ht hW => ⟨⟨(nI 0), (), rfl, (by unfold vMarks; (repeat' split) <;> first | rfl | (exfalso; omega)), by rw [ht]; exact hP9, hD9⟩, hS.F ht⟩) hS.2.2 dX2_judgeMarks_72
              · skip
                refine lv_bipush (v := nI 6) hx hb dX2_judgeMarks_66 (by decide) ?_
                refine lv_goto (tgt := 72) hx hb dX2_judgeMarks_68 (by decide) ?_
                have hP9 := hP.sub (ws' := [(h0, .inr (2, [.ref b0, .int (nI len)])), (b0, .inl (cB, 3000, .inl f))]) [0, 1] rfl
                have hD9 := hD.sub (ws' := [(h0, .inr (2, [.ref b0, .int (nI len)])), (b0, .inl (cB, 3000, .inl f))]) [0, 1] (by decide) rfl
                exact W.iret (v := nI 6) hx hb hr (fun t ht hW => ⟨⟨(nI 6), (), rfl, (by unfold vMarks; (repeat' split) <;> first | rfl | (exfalso; omega)), by rw [ht]; exact hP9, hD9⟩, hS.F ht⟩) hS.2.2 dX2_judgeMarks_72
            · skip
              refine lv_iconst (v := nI 5) hx hb dX2_judgeMarks_54 (by decide) ?_
              have hP9 := hP.sub (ws' := [(h0, .inr (2, [.ref b0, .int (nI len)])), (b0, .inl (cB, 3000, .inl f))]) [0, 1] rfl
              have hD9 := hD.sub (ws' := [(h0, .inr (2, [.ref b0, .int (nI len)])), (b0, .inl (cB, 3000, .inl f))]) [0, 1] (by decide) rfl
              exact W.iret (v := nI 5) hx hb hr (fun t ht hW => ⟨⟨(nI 5), (), rfl, (by unfold vMarks; (repeat' split) <;> first | rfl | (exfalso; omega)), by rw [ht]; exact hP9, hD9⟩, hS.F ht⟩) hS.2.2 dX2_judgeMarks_55
      · skip
        refine lv_iconst (v := nI 4) hx hb dX2_judgeMarks_31 (by decide) ?_
        have hP9 := hP.sub (ws' := [(h0, .inr (2, [.ref b0, .int (nI len)])), (b0, .inl (cB, 3000, .inl f))]) [0, 1] rfl
        have hD9 := hD.sub (ws' := [(h0, .inr (2, [.ref b0, .int (nI len)])), (b0, .inl (cB, 3000, .inl f))]) [0, 1] (by decide) rfl
        exact W.iret (v := nI 4) hx hb hr (fun t ht hW => ⟨⟨(nI 4), (), rfl, (by unfold vMarks; (repeat' split) <;> first | rfl | (exfalso; omega)), by rw [ht]; exact hP9, hD9⟩, hS.F ht⟩) hS.2.2 dX2_judgeMarks_32
set_option maxHeartbeats 4000000 in
set_option maxRecDepth 100000 in
theorem c_X2_judgeUse (l : Launch) (dC : Nat → ClassId) (dI : Nat → Nat → Nat) (cB cI cJ : ClassId) (sz : Nat) (h0 : Nat) (b0 : Nat) (f : Nat → Int32) (len : Nat) (fb : Nat → Nat) (x1 : Nat) (x2 : Nat) (hF : fOk f len fb) (h1 : x1 < 4294967296) (h2 : x2 < 4294967296) : Met l yX2_judgeUse wsX2_judgeUse ({ frames := 2, cells := 0, slots := 0, locals := 43 }) (va_Pc [.ref h0, .long (lN x1), .long (lN x2)] (wPre dC dI cB cI cJ sz [(h0, .inr (2, [.ref b0, .int (nI len)])), (b0, .inl (cB, 3000, .inl f))])) (va_Qi (fun (r : Int32) (u : Unit) => r = nI (vUse fb x1 x2)) (fun (u : Unit) => wPost dC dI (va_A [(h0, .inr (2, [.ref b0, .int (nI len)])), (b0, .inl (cB, 3000, .inl f))] sz) [(h0, .inr (2, [.ref b0, .int (nI len)])), (b0, .inl (cB, 3000, .inl f))]) (va_A [(h0, .inr (2, [.ref b0, .int (nI len)])), (b0, .inl (cB, 3000, .inl f))] sz)) 0 0 (va_A [(h0, .inr (2, [.ref b0, .int (nI len)])), (b0, .inl (cB, 3000, .inl f))] sz) := by
  refine Met.ofW (cc := cX2_judgeUse) (maxL := 7) (ret := (some .int)) (by decide) rfl ?_
  intro p e s m args below meth c s₁ B hml hv
  obtain ⟨rfl, hsz, hP, hK, hD0, hN⟩ := hv
  have hx := B.exec
  have hb := B.bytes
  have hr := B.returns
  have hts := atoms_spec (ws := wsX2_judgeUse) B.pre
  have hown : s.vm.findClass RX2 = some m.cls := findClass_of_methodNamed B.named
  have hlocks := B.notSynchronized
  subst hsz
  have hD := hD0.self (sz := s.heap.size)
  generalize hAe : va_A [(h0, .inr (2, [.ref b0, .int (nI len)])), (b0, .inl (cB, 3000, .inl f))] s.heap.size = A at hD ⊢
  have hA : ∀ q : Nat, s.heap.size ≤ q → A q := fun q h => by rw [← hAe]; exact Or.inr h
  have hS : va_S A s.heap s.heap [] := va_S.rf
  have hP : va_P (dC, dI) vwCl [(h0, .inr (2, [.ref b0, .int (nI len)])), (b0, .inl (cB, 3000, .inl f))] s.heap := hP
  have hl := lv_entry ([.ref h0, .long (lN x1), .long (lN x2)]) (n := 7) (Nat.le_of_ble_eq_true rfl)
  rw [lg_entry_eq]
  generalize (lg_sl ([.ref h0, .long (lN x1), .long (lN x2)]) ++ List.replicate (7 - (lg_sl ([.ref h0, .long (lN x1), .long (lN x2)])).length) Slot.unset).toArray = ls at hl ⊢
  have hl : lv_has ls 7 [(0, .ref h0), (1, .long (lN x1)), (3, .long (lN x2))] := hl
  have hF1 := hF.1
  have hF2 := hF.2.1
  have hw0 := fw_lt hF2 0
  have hw4 := fw_lt hF2 4
  have hw8 := fw_lt hF2 8
  have hw12 := fw_lt hF2 12
  have hw16 := fw_lt hF2 16
  have hw20 := fw_lt hF2 20
  have hw24 := fw_lt hF2 24
  have hw28 := fw_lt hF2 28
  refine lv_lload_n hx hb dX2_judgeUse_0 rfl (lv_at hl 2 rfl) ?_
  refine lv_lconst (v := lN 0) hx hb dX2_judgeUse_1 (by decide) ?_
  refine wx_ln_eq (tgt := 16) hx hb dX2_judgeUse_2 dX2_judgeUse_3 (by decide) (by first | omega | (split <;> omega)) (by first | omega | (split <;> omega)) (fun c_1 => ?_) (fun c_1 => ?_)
  · skip
    refine lv_bipush (v := nI 7) hx hb dX2_judgeUse_16 (by decide) ?_
    have hP9 := hP.sub (ws' := [(h0, .inr (2, [.ref b0, .int (nI len)])), (b0, .inl (cB, 3000, .inl f))]) [0, 1] rfl
    have hD9 := hD.sub (ws' := [(h0, .inr (2, [.ref b0, .int (nI len)])), (b0, .inl (cB, 3000, .inl f))]) [0, 1] (by decide) rfl
    exact W.iret (v := nI 7) hx hb hr (fun t ht hW => ⟨⟨(nI 7), (), rfl, (by unfold vUse; (repeat' split) <;> first | rfl | (exfalso; omega)), by rw [ht]; exact hP9, hD9⟩, hS.F ht⟩) hS.2.2 dX2_judgeUse_18
  · skip
    refine lv_lload_n hx hb dX2_judgeUse_6 rfl (lv_at hl 2 rfl) ?_
    refine lv_ldc2 (v := lN 256) hx hb hown (hts (.constantLong RX2 51 (256)) (by decide +kernel)) dX2_judgeUse_7 ?_
    refine lv_lrem hx hb dX2_judgeUse_10 (by decide) ?_
    refine wx_topl (pk_lRem (by first | omega | (split <;> omega)) (by first | omega | (split <;> omega)) (by first | omega | (split <;> omega))) ?_
    refine lv_lconst (v := lN 0) hx hb dX2_judgeUse_11 (by decide) ?_
    refine wx_ln_eq (tgt := 19) hx hb dX2_judgeUse_12 dX2_judgeUse_13 (by decide) (by first | omega | (split <;> omega)) (by first | omega | (split <;> omega)) (fun c_2 => ?_) (fun c_2 => ?_)
    · skip
      refine lv_aload_n hx hb dX2_judgeUse_19 rfl (lv_at hl 0 rfl) ?_
      refine lv_bipush (v := nI 24) hx hb dX2_judgeUse_20 (by decide) ?_
      have hPc := hP.sub (ws' := [(h0, .inr (2, [.ref b0, .int (nI len)])), (b0, .inl (cB, 3000, .inl f))]) [0, 1] rfl
      have hDc := hD.sub (ws' := [(h0, .inr (2, [.ref b0, .int (nI len)])), (b0, .inl (cB, 3000, .inl f))]) [0, 1] (by decide) rfl
      have hFc := va_free (wc := [(h0, .inr (2, [.ref b0, .int (nI len)])), (b0, .inl (cB, 3000, .inl f))]) hD hS hA [0, 1] rfl
      refine va_calll (va_runV (As := [.int (nI 24)]) (rest := []) ⟨hx, hb, hml, hown, hts⟩ (c_X2_wordAt l dC dI cB cI cJ s.heap.size h0 b0 f len fb 24 hF (by first | omega | (split <;> omega))) (cwV 1 hts gX2_judgeUse_X2_wordAt rfl rfl rfl (by decide +kernel) ⟨Nat.le_of_ble_eq_true rfl, Nat.le_of_ble_eq_true rfl⟩) ⟨wBlind, va_recv hK hPc (ci := 2) (q0 := 0) rfl rfl, wGo hK hPc hDc hN⟩ rfl rfl hl.1 rfl (lv_room (Nat.le_of_ble_eq_true rfl)) dX2_judgeUse_22 ⟨show 0 ≤ 0 by decide, show 0 ≤ 0 by decide⟩) hS (fun q _ h => hFc q h) hFc (fun r_4 u t H1 locs ht hvm w_5 hB hz1 hk1 hS => ?_)
      clear u
      obtain ⟨hP1, hD1⟩ := hB
      rw [ht] at hP1
      try dsimp only at w_5
      obtain ⟨hP, hD⟩ := va_join (wr := []) (w1 := [(h0, .inr (2, [.ref b0, .int (nI len)])), (b0, .inl (cB, 3000, .inl f))]) hP hD [0, 1] [] rfl rfl (by decide) (by decide) hk1 hFc hP1 hD1
      clear hPc hDc hFc hP1 hD1 hz1 hk1 hvm
      generalize H1 = H at hP hS ⊢
      have hP : va_P (dC, dI) vwCl [(h0, .inr (2, [.ref b0, .int (nI len)])), (b0, .inl (cB, 3000, .inl f))] H := hP
      have hD : va_D A [(h0, .inr (2, [.ref b0, .int (nI len)])), (b0, .inl (cB, 3000, .inl f))] := hD
      subst w_5
      refine lv_lload_n hx hb dX2_judgeUse_25 rfl (lv_at hl 1 rfl) ?_
      have hPc := hP.sub (ws' := []) [] rfl
      have hDc := hD.sub (ws' := []) [] (by decide) rfl
      have hFc := va_free (wc := []) hD hS hA [] rfl
      refine va_calli (va_runS (As := [.long (lN (fw fb 24)), .long (lN x1)]) (rest := []) ⟨hx, hb, hml, hown, hts⟩ (c_X2_isBehindHead l dC dI cB cI cJ H.size (fw fb 24) x1 (by first | omega | (split <;> omega)) (by first | omega | (split <;> omega))) (va_cwS 2 hts gX2_judgeUse_X2_isBehindHead rfl rfl rfl (by decide +kernel) ⟨Nat.le_of_ble_eq_true rfl, Nat.le_of_ble_eq_true rfl⟩) ⟨wBlind, wGo hK hPc hDc hN⟩ rfl rfl hl.1 rfl (lv_room (Nat.le_of_ble_eq_true rfl)) dX2_judgeUse_26 ⟨show 0 ≤ 0 by decide, show 0 ≤ 0 by decide⟩) hS (fun q _ h => hFc q h) hFc (fun r_7 u t H1 locs ht hvm w_8 hB hz1 hk1 hS => ?_)
      clear u
      obtain ⟨hP1, hD1⟩ := hB
      rw [ht] at hP1
      try dsimp only at w_8
      obtain ⟨hP, hD⟩ := va_join (wr := [(h0, .inr (2, [.ref b0, .int (nI len)])), (b0, .inl (cB, 3000, .inl f))]) (w1 := []) hP hD [] [0, 1] rfl rfl (by decide) (by decide) hk1 hFc hP1 hD1
      clear hPc hDc hFc hP1 hD1 hz1 hk1 hvm
      generalize H1 = H at hP hS ⊢
      have hP : va_P (dC, dI) vwCl [(h0, .inr (2, [.ref b0, .int (nI len)])), (b0, .inl (cB, 3000, .inl f))] H := hP
      have hD : va_D A [(h0, .inr (2, [.ref b0, .int (nI len)])), (b0, .inl (cB, 3000, .inl f))] := hD
      subst w_8
      refine wx_if_ne (tgt := 35) hx hb dX2_judgeUse_29 (by decide) (by first | omega | (split <;> omega)) (fun c_9 => ?_) (fun c_9 => ?_)
      · skip
        have c_9 := wz_pos c_9
        refine lv_aload_n hx hb dX2_judgeUse_35 rfl (lv_at hl 0 rfl) ?_
        refine lv_bipush (v := nI 28) hx hb dX2_judgeUse_36 (by decide) ?_
        have hPc := hP.sub (ws' := [(h0, .inr (2, [.ref b0, .int (nI len)])), (b0, .inl (cB, 3000, .inl f))]) [0, 1] rfl
        have hDc := hD.sub (ws' := [(h0, .inr (2, [.ref b0, .int (nI len)])), (b0, .inl (cB, 3000, .inl f))]) [0, 1] (by decide) rfl
        have hFc := va_free (wc := [(h0, .inr (2, [.ref b0, .int (nI len)])), (b0, .inl (cB, 3000, .inl f))]) hD hS hA [0, 1] rfl
        refine va_calll (va_runV (As := [.int (nI 28)]) (rest := []) ⟨hx, hb, hml, hown, hts⟩ (c_X2_wordAt l dC dI cB cI cJ H.size h0 b0 f len fb 28 hF (by first | omega | (split <;> omega))) (cwV 1 hts gX2_judgeUse_X2_wordAt rfl rfl rfl (by decide +kernel) ⟨Nat.le_of_ble_eq_true rfl, Nat.le_of_ble_eq_true rfl⟩) ⟨wBlind, va_recv hK hPc (ci := 2) (q0 := 0) rfl rfl, wGo hK hPc hDc hN⟩ rfl rfl hl.1 rfl (lv_room (Nat.le_of_ble_eq_true rfl)) dX2_judgeUse_38 ⟨show 0 ≤ 0 by decide, show 0 ≤ 0 by decide⟩) hS (fun q _ h => hFc q h) hFc (fun r_11 u t H1 locs ht hvm w_12 hB hz1 hk1 hS => ?_)
        clear u
        obtain ⟨hP1, hD1⟩ := hB
        rw [ht] at hP1
        try dsimp only at w_12
        obtain ⟨hP, hD⟩ := va_join (wr := []) (w1 := [(h0, .inr (2, [.ref b0, .int (nI len)])), (b0, .inl (cB, 3000, .inl f))]) hP hD [0, 1] [] rfl rfl (by decide) (by decide) hk1 hFc hP1 hD1
        clear hPc hDc hFc hP1 hD1 hz1 hk1 hvm
        generalize H1 = H at hP hS ⊢
        have hP : va_P (dC, dI) vwCl [(h0, .inr (2, [.ref b0, .int (nI len)])), (b0, .inl (cB, 3000, .inl f))] H := hP
        have hD : va_D A [(h0, .inr (2, [.ref b0, .int (nI len)])), (b0, .inl (cB, 3000, .inl f))] := hD
        subst w_12
        refine lv_lstore (lv' := [(5, .long (lN (fw fb 28))), (0, .ref h0), (1, .long (lN x1)), (3, .long (lN x2))]) hx hb dX2_judgeUse_41 hl (by decide) rfl (fun ls hl => ?_)
        refine lv_lload hx hb dX2_judgeUse_43 (lv_at hl 0 rfl) ?_
        refine lv_lconst (v := lN 0) hx hb dX2_judgeUse_45 (by decide) ?_
        refine wx_ln_eq (tgt := 62) hx hb dX2_judgeUse_46 dX2_judgeUse_47 (by decide) (by first | omega | (split <;> omega)) (by first | omega | (split <;> omega)) (fun c_13 => ?_) (fun c_13 => ?_)
        · skip
          refine lv_lload_n hx hb dX2_judgeUse_62 rfl (lv_at hl 2 rfl) ?_
          refine lv_ldc2 (v := lN 4096) hx hb hown (hts (.constantLong RX2 57 (4096)) (by decide +kernel)) dX2_judgeUse_63 ?_
          refine wx_ln_gt (tgt := 78) hx hb dX2_judgeUse_66 dX2_judgeUse_67 (by decide) (by first | omega | (split <;> omega)) (by first | omega | (split <;> omega)) (fun c_14 => ?_) (fun c_14 => ?_)
          · skip
            refine lv_bipush (v := nI 10) hx hb dX2_judgeUse_78 (by decide) ?_
            refine lv_goto (tgt := 84) hx hb dX2_judgeUse_80 (by decide) ?_
            have hP9 := hP.sub (ws' := [(h0, .inr (2, [.ref b0, .int (nI len)])), (b0, .inl (cB, 3000, .inl f))]) [0, 1] rfl
            have hD9 := hD.sub (ws' := [(h0, .inr (2, [.ref b0, .int (nI len)])), (b0, .inl (cB, 3000, .inl f))]) [0, 1] (by decide) rfl
            exact W.iret (v := nI 10) hx hb hr (fun t ht hW => ⟨⟨(nI 10), (), rfl, (by unfold vUse; (repeat' split) <;> first | rfl | (exfalso; omega)), by rw [ht]; exact hP9, hD9⟩, hS.F ht⟩) hS.2.2 dX2_judgeUse_84
          · skip
            refine lv_lload_n hx hb dX2_judgeUse_70 rfl (lv_at hl 3 rfl) ?_
            refine lv_ldc2 (v := lN 65536) hx hb hown (hts (.constantLong RX2 59 (65536)) (by decide +kernel)) dX2_judgeUse_71 ?_
            refine wx_ln_le (tgt := 83) hx hb dX2_judgeUse_74 dX2_judgeUse_75 (by decide) (by first | omega | (split <;> omega)) (by first | omega | (split <;> omega)) (fun c_15 => ?_) (fun c_15 => ?_)
            · skip
              refine lv_iconst (v := nI 0) hx hb dX2_judgeUse_83 (by decide) ?_
              have hP9 := hP.sub (ws' := [(h0, .inr (2, [.ref b0, .int (nI len)])), (b0, .inl (cB, 3000, .inl f))]) [0, 1] rfl
              have hD9 := hD.sub (ws' := [(h0, .inr (2, [.ref b0, .int (nI len)])), (b0, .inl (cB, 3000, .inl f))]) [0, 1] (by decide) rfl
              exact W.iret (v := nI 0) hx hb hr (fun t ht hW => ⟨⟨(nI 0), (), rfl, (by unfold vUse; (repeat' split) <;> first | rfl | (exfalso; omega)), by rw [ht]; exact hP9, hD9⟩, hS.F ht⟩) hS.2.2 dX2_judgeUse_84
            · skip
              refine lv_bipush (v := nI 10) hx hb dX2_judgeUse_78 (by decide) ?_
              refine lv_goto (tgt := 84) hx hb dX2_judgeUse_80 (by decide) ?_
              have hP9 := hP.sub (ws' := [(h0, .inr (2, [.ref b0, .int (nI len)])), (b0, .inl (cB, 3000, .inl f))]) [0, 1] rfl
              have hD9 := hD.sub (ws' := [(h0, .inr (2, [.ref b0, .int (nI len)])), (b0, .inl (cB, 3000, .inl f))]) [0, 1] (by decide) rfl
              exact W.iret (v := nI 10) hx hb hr (fun t ht hW => ⟨⟨(nI 10), (), rfl, (by unfold vUse; (repeat' split) <;> first | rfl | (exfalso; omega)), by rw [ht]; exact hP9, hD9⟩, hS.F ht⟩) hS.2.2 dX2_judgeUse_84
        · skip
          refine lv_lload hx hb dX2_judgeUse_50 (lv_at hl 0 rfl) ?_
          refine lv_lload_n hx hb dX2_judgeUse_52 rfl (lv_at hl 2 rfl) ?_
          have hPc := hP.sub (ws' := []) [] rfl
          have hDc := hD.sub (ws' := []) [] (by decide) rfl
          have hFc := va_free (wc := []) hD hS hA [] rfl
          refine va_calli (va_runS (As := [.long (lN (fw fb 28)), .long (lN x1)]) (rest := []) ⟨hx, hb, hml, hown, hts⟩ (c_X2_isBehindHead l dC dI cB cI cJ H.size (fw fb 28) x1 (by first | omega | (split <;> omega)) (by first | omega | (split <;> omega))) (va_cwS 2 hts gX2_judgeUse_X2_isBehindHead rfl rfl rfl (by decide +kernel) ⟨Nat.le_of_ble_eq_true rfl, Nat.le_of_ble_eq_true rfl⟩) ⟨wBlind, wGo hK hPc hDc hN⟩ rfl rfl hl.1 rfl (lv_room (Nat.le_of_ble_eq_true rfl)) dX2_judgeUse_53 ⟨show 0 ≤ 0 by decide, show 0 ≤ 0 by decide⟩) hS (fun q _ h => hFc q h) hFc (fun r_17 u t H1 locs ht hvm w_18 hB hz1 hk1 hS => ?_)
          clear u
          obtain ⟨hP1, hD1⟩ := hB
          rw [ht] at hP1
          try dsimp only at w_18
          obtain ⟨hP, hD⟩ := va_join (wr := [(h0, .inr (2, [.ref b0, .int (nI len)])), (b0, .inl (cB, 3000, .inl f))]) (w1 := []) hP hD [] [0, 1] rfl rfl (by decide) (by decide) hk1 hFc hP1 hD1
          clear hPc hDc hFc hP1 hD1 hz1 hk1 hvm
          generalize H1 = H at hP hS ⊢
          have hP : va_P (dC, dI) vwCl [(h0, .inr (2, [.ref b0, .int (nI len)])), (b0, .inl (cB, 3000, .inl f))] H := hP
          have hD : va_D A [(h0, .inr (2, [.ref b0, .int (nI len)])), (b0, .inl (cB, 3000, .inl f))] := hD
          subst w_18
          refine wx_if_ne (tgt := 62) hx hb dX2_judgeUse_56 (by decide) (by first | omega | (split <;> omega)) (fun c_19 => ?_) (fun c_19 => ?_)
          · skip
            have c_19 := wz_pos c_19
            refine lv_lload_n hx hb dX2_judgeUse_62 rfl (lv_at hl 2 rfl) ?_
            refine lv_ldc2 (v := lN 4096) hx hb hown (hts (.constantLong RX2 57 (4096)) (by decide +kernel)) dX2_judgeUse_63 ?_
            refine wx_ln_gt (tgt := 78) hx hb dX2_judgeUse_66 dX2_judgeUse_67 (by decide) (by first | omega | (split <;> omega)) (by first | omega | (split <;> omega)) (fun c_20 => ?_) (fun c_20 => ?_)
            · skip
              refine lv_bipush (v := nI 10) hx hb dX2_judgeUse_78 (by decide) ?_
              refine lv_goto (tgt := 84) hx hb dX2_judgeUse_80 (by decide) ?_
              have hP9 := hP.sub (ws' := [(h0, .inr (2, [.ref b0, .int (nI len)])), (b0, .inl (cB, 3000, .inl f))]) [0, 1] rfl
              have hD9 := hD.sub (ws' := [(h0, .inr (2, [.ref b0, .int (nI len)])), (b0, .inl (cB, 3000, .inl f))]) [0, 1] (by decide) rfl
              exact W.iret (v := nI 10) hx hb hr (fun t ht hW => ⟨⟨(nI 10), (), rfl, (by unfold vUse; (repeat' split) <;> first | rfl | (exfalso; omega)), by rw [ht]; exact hP9, hD9⟩, hS.F ht⟩) hS.2.2 dX2_judgeUse_84
            · skip
              refine lv_lload_n hx hb dX2_judgeUse_70 rfl (lv_at hl 3 rfl) ?_
              refine lv_ldc2 (v := lN 65536) hx hb hown (hts (.constantLong RX2 59 (65536)) (by decide +kernel)) dX2_judgeUse_71 ?_
              refine wx_ln_le (tgt := 83) hx hb dX2_judgeUse_74 dX2_judgeUse_75 (by decide) (by first | omega | (split <;> omega)) (by first | omega | (split <;> omega)) (fun c_21 => ?_) (fun c_21 => ?_)
              · skip
                refine lv_iconst (v := nI 0) hx hb dX2_judgeUse_83 (by decide) ?_
                have hP9 := hP.sub (ws' := [(h0, .inr (2, [.ref b0, .int (nI len)])), (b0, .inl (cB, 3000, .inl f))]) [0, 1] rfl
                have hD9 := hD.sub (ws' := [(h0, .inr (2, [.ref b0, .int (nI len)])), (b0, .inl (cB, 3000, .inl f))]) [0, 1] (by decide) rfl
                exact W.iret (v := nI 0) hx hb hr (fun t ht hW => ⟨⟨(nI 0), (), rfl, (by unfold vUse; (repeat' split) <;> first | rfl | (exfalso; omega)), by rw [ht]; exact hP9, hD9⟩, hS.F ht⟩) hS.2.2 dX2_judgeUse_84
              · skip
                refine lv_bipush (v := nI 10) hx hb dX2_judgeUse_78 (by decide) ?_
                refine lv_goto (tgt := 84) hx hb dX2_judgeUse_80 (by decide) ?_
                have hP9 := hP.sub (ws' := [(h0, .inr (2, [.ref b0, .int (nI len)])), (b0, .inl (cB, 3000, .inl f))]) [0, 1] rfl
                have hD9 := hD.sub (ws' := [(h0, .inr (2, [.ref b0, .int (nI len)])), (b0, .inl (cB, 3000, .inl f))]) [0, 1] (by decide) rfl
                exact W.iret (v := nI 10) hx hb hr (fun t ht hW => ⟨⟨(nI 10), (), rfl, (by unfold vUse; (repeat' split) <;> first | rfl | (exfalso; omega)), by rw [ht]; exact hP9, hD9⟩, hS.F ht⟩) hS.2.2 dX2_judgeUse_84
          · skip
            have c_19 := wz_zero c_19
            refine lv_bipush (v := nI 9) hx hb dX2_judgeUse_59 (by decide) ?_
            have hP9 := hP.sub (ws' := [(h0, .inr (2, [.ref b0, .int (nI len)])), (b0, .inl (cB, 3000, .inl f))]) [0, 1] rfl
            have hD9 := hD.sub (ws' := [(h0, .inr (2, [.ref b0, .int (nI len)])), (b0, .inl (cB, 3000, .inl f))]) [0, 1] (by decide) rfl
            exact W.iret (v := nI 9) hx hb hr (fun t ht hW => ⟨⟨(nI 9), (), rfl, (by unfold vUse; (repeat' split) <;> first | rfl | (exfalso; omega)), by rw [ht]; exact hP9, hD9⟩, hS.F ht⟩) hS.2.2 dX2_judgeUse_61
      · skip
        have c_9 := wz_zero c_9
        refine lv_bipush (v := nI 8) hx hb dX2_judgeUse_32 (by decide) ?_
        have hP9 := hP.sub (ws' := [(h0, .inr (2, [.ref b0, .int (nI len)])), (b0, .inl (cB, 3000, .inl f))]) [0, 1] rfl
        have hD9 := hD.sub (ws' := [(h0, .inr (2, [.ref b0, .int (nI len)])), (b0, .inl (cB, 3000, .inl f))]) [0, 1] (by decide) rfl
        exact W.iret (v := nI 8) hx hb hr (fun t ht hW => ⟨⟨(nI 8), (), rfl, (by unfold vUse; (repeat' split) <;> first | rfl | (exfalso; omega)), by rw [ht]; exact hP9, hD9⟩, hS.F ht⟩) hS.2.2 dX2_judgeUse_34
    · skip
      refine lv_bipush (v := nI 7) hx hb dX2_judgeUse_16 (by decide) ?_
      have hP9 := hP.sub (ws' := [(h0, .inr (2, [.ref b0, .int (nI len)])), (b0, .inl (cB, 3000, .inl f))]) [0, 1] rfl
      have hD9 := hD.sub (ws' := [(h0, .inr (2, [.ref b0, .int (nI len)])), (b0, .inl (cB, 3000, .inl f))]) [0, 1] (by decide) rfl
      exact W.iret (v := nI 7) hx hb hr (fun t ht hW => ⟨⟨(nI 7), (), rfl, (by unfold vUse; (repeat' split) <;> first | rfl | (exfalso; omega)), by rw [ht]; exact hP9, hD9⟩, hS.F ht⟩) hS.2.2 dX2_judgeUse_18
set_option maxHeartbeats 4000000 in
set_option maxRecDepth 100000 in
theorem c_X2_judge (l : Launch) (dC : Nat → ClassId) (dI : Nat → Nat → Nat) (cB cI cJ : ClassId) (sz : Nat) (h0 : Nat) (b0 : Nat) (f : Nat → Int32) (len : Nat) (fb : Nat → Nat) (hF : fOk f len fb) : Met l yX2_judge wsX2_judge ({ frames := 3, cells := 0, slots := 0, locals := 69 }) (va_Pc [.ref h0] (wPre dC dI cB cI cJ sz [(h0, .inr (2, [.ref b0, .int (nI len)])), (b0, .inl (cB, 3000, .inl f))])) (va_Qi (fun (r : Int32) (u : Unit) => r = nI (verd fb len)) (fun (u : Unit) => wPost dC dI (va_A [(h0, .inr (2, [.ref b0, .int (nI len)])), (b0, .inl (cB, 3000, .inl f))] sz) [(h0, .inr (2, [.ref b0, .int (nI len)])), (b0, .inl (cB, 3000, .inl f))]) (va_A [(h0, .inr (2, [.ref b0, .int (nI len)])), (b0, .inl (cB, 3000, .inl f))] sz)) 0 0 (va_A [(h0, .inr (2, [.ref b0, .int (nI len)])), (b0, .inl (cB, 3000, .inl f))] sz) := by
  refine Met.ofW (cc := cX2_judge) (maxL := 4) (ret := (some .int)) (by decide) rfl ?_
  intro p e s m args below meth c s₁ B hml hv
  obtain ⟨rfl, hsz, hP, hK, hD0, hN⟩ := hv
  have hx := B.exec
  have hb := B.bytes
  have hr := B.returns
  have hts := atoms_spec (ws := wsX2_judge) B.pre
  have hown : s.vm.findClass RX2 = some m.cls := findClass_of_methodNamed B.named
  have hlocks := B.notSynchronized
  subst hsz
  have hD := hD0.self (sz := s.heap.size)
  generalize hAe : va_A [(h0, .inr (2, [.ref b0, .int (nI len)])), (b0, .inl (cB, 3000, .inl f))] s.heap.size = A at hD ⊢
  have hA : ∀ q : Nat, s.heap.size ≤ q → A q := fun q h => by rw [← hAe]; exact Or.inr h
  have hS : va_S A s.heap s.heap [] := va_S.rf
  have hP : va_P (dC, dI) vwCl [(h0, .inr (2, [.ref b0, .int (nI len)])), (b0, .inl (cB, 3000, .inl f))] s.heap := hP
  have hl := lv_entry ([.ref h0]) (n := 4) (Nat.le_of_ble_eq_true rfl)
  rw [lg_entry_eq]
  generalize (lg_sl ([.ref h0]) ++ List.replicate (4 - (lg_sl ([.ref h0])).length) Slot.unset).toArray = ls at hl ⊢
  have hl : lv_has ls 4 [(0, .ref h0)] := hl
  have hF1 := hF.1
  have hF2 := hF.2.1
  have hw0 := fw_lt hF2 0
  have hw4 := fw_lt hF2 4
  have hw8 := fw_lt hF2 8
  have hw12 := fw_lt hF2 12
  have hw16 := fw_lt hF2 16
  have hw20 := fw_lt hF2 20
  have hw24 := fw_lt hF2 24
  have hw28 := fw_lt hF2 28
  refine lv_aload_n hx hb dX2_judge_0 rfl (lv_at hl 0 rfl) ?_
  refine va_get (D := (dC, dI)) (ci := 2) (v := .int (nI len)) (C := RX2) (T := TX2) (N := 2) hx hb hts (by decide +kernel) hown hK hP 0 rfl rfl 1 (by decide) (hts (.fieldLink RX2 15 "GlulxHeads$StoryFile" "length" "I") (by decide +kernel)) (fun _ h9 => h9) rfl dX2_judge_1 ?_
  refine lv_bipush (v := nI 36) hx hb dX2_judge_4 (by decide) ?_
  refine wx_icmp_ge (tgt := 11) hx hb dX2_judge_6 (by decide) (by omega) (by omega) (fun c_1 => ?_) (fun c_1 => ?_)
  · skip
    refine lv_aload_n hx hb dX2_judge_11 rfl (lv_at hl 0 rfl) ?_
    refine lv_iconst (v := nI 0) hx hb dX2_judge_12 (by decide) ?_
    have hPc := hP.sub (ws' := [(h0, .inr (2, [.ref b0, .int (nI len)])), (b0, .inl (cB, 3000, .inl f))]) [0, 1] rfl
    have hDc := hD.sub (ws' := [(h0, .inr (2, [.ref b0, .int (nI len)])), (b0, .inl (cB, 3000, .inl f))]) [0, 1] (by decide) rfl
    have hFc := va_free (wc := [(h0, .inr (2, [.ref b0, .int (nI len)])), (b0, .inl (cB, 3000, .inl f))]) hD hS hA [0, 1] rfl
    refine va_calll (va_runV (As := [.int (nI 0)]) (rest := []) ⟨hx, hb, hml, hown, hts⟩ (c_X2_wordAt l dC dI cB cI cJ s.heap.size h0 b0 f len fb 0 hF (by omega)) (cwV 1 hts gX2_judge_X2_wordAt rfl rfl rfl (by decide +kernel) ⟨Nat.le_of_ble_eq_true rfl, Nat.le_of_ble_eq_true rfl⟩) ⟨wBlind, va_recv hK hPc (ci := 2) (q0 := 0) rfl rfl, wGo hK hPc hDc hN⟩ rfl rfl hl.1 rfl (lv_room (Nat.le_of_ble_eq_true rfl)) dX2_judge_13 ⟨show 0 ≤ 0 by decide, show 0 ≤ 0 by decide⟩) hS (fun q _ h => hFc q h) hFc (fun r_3 u t H1 locs ht hvm w_4 hB hz1 hk1 hS => ?_)
    clear u
    obtain ⟨hP1, hD1⟩ := hB
    rw [ht] at hP1
    try dsimp only at w_4
    obtain ⟨hP, hD⟩ := va_join (wr := []) (w1 := [(h0, .inr (2, [.ref b0, .int (nI len)])), (b0, .inl (cB, 3000, .inl f))]) hP hD [0, 1] [] rfl rfl (by decide) (by decide) hk1 hFc hP1 hD1
    clear hPc hDc hFc hP1 hD1 hz1 hk1 hvm
    generalize H1 = H at hP hS ⊢
    have hP : va_P (dC, dI) vwCl [(h0, .inr (2, [.ref b0, .int (nI len)])), (b0, .inl (cB, 3000, .inl f))] H := hP
    have hD : va_D A [(h0, .inr (2, [.ref b0, .int (nI len)])), (b0, .inl (cB, 3000, .inl f))] := hD
    subst w_4
    refine lv_ldc2 (v := lN 1198290284) hx hb hown (hts (.constantLong RX2 37 (1198290284)) (by decide +kernel)) dX2_judge_16 ?_
    refine wx_ln_eq (tgt := 25) hx hb dX2_judge_19 dX2_judge_20 (by decide) (by omega) (by omega) (fun c_5 => ?_) (fun c_5 => ?_)
    · skip
      refine lv_aload_n hx hb dX2_judge_25 rfl (lv_at hl 0 rfl) ?_
      refine lv_iconst (v := nI 4) hx hb dX2_judge_26 (by decide) ?_
      have hPc := hP.sub (ws' := [(h0, .inr (2, [.ref b0, .int (nI len)])), (b0, .inl (cB, 3000, .inl f))]) [0, 1] rfl
      have hDc := hD.sub (ws' := [(h0, .inr (2, [.ref b0, .int (nI len)])), (b0, .inl (cB, 3000, .inl f))]) [0, 1] (by decide) rfl
      have hFc := va_free (wc := [(h0, .inr (2, [.ref b0, .int (nI len)])), (b0, .inl (cB, 3000, .inl f))]) hD hS hA [0, 1] rfl
      refine va_calll (va_runV (As := [.int (nI 4)]) (rest := []) ⟨hx, hb, hml, hown, hts⟩ (c_X2_wordAt l dC dI cB cI cJ H.size h0 b0 f len fb 4 hF (by omega)) (cwV 1 hts gX2_judge_X2_wordAt rfl rfl rfl (by decide +kernel) ⟨Nat.le_of_ble_eq_true rfl, Nat.le_of_ble_eq_true rfl⟩) ⟨wBlind, va_recv hK hPc (ci := 2) (q0 := 0) rfl rfl, wGo hK hPc hDc hN⟩ rfl rfl hl.1 rfl (lv_room (Nat.le_of_ble_eq_true rfl)) dX2_judge_27 ⟨show 0 ≤ 0 by decide, show 0 ≤ 0 by decide⟩) hS (fun q _ h => hFc q h) hFc (fun r_7 u t H1 locs ht hvm w_8 hB hz1 hk1 hS => ?_)
      clear u
      obtain ⟨hP1, hD1⟩ := hB
      rw [ht] at hP1
      try dsimp only at w_8
      obtain ⟨hP, hD⟩ := va_join (wr := []) (w1 := [(h0, .inr (2, [.ref b0, .int (nI len)])), (b0, .inl (cB, 3000, .inl f))]) hP hD [0, 1] [] rfl rfl (by decide) (by decide) hk1 hFc hP1 hD1
      clear hPc hDc hFc hP1 hD1 hz1 hk1 hvm
      generalize H1 = H at hP hS ⊢
      have hP : va_P (dC, dI) vwCl [(h0, .inr (2, [.ref b0, .int (nI len)])), (b0, .inl (cB, 3000, .inl f))] H := hP
      have hD : va_D A [(h0, .inr (2, [.ref b0, .int (nI len)])), (b0, .inl (cB, 3000, .inl f))] := hD
      subst w_8
      refine lv_lstore_n (lv' := [(1, .long (lN (fw fb 4))), (0, .ref h0)]) hx hb dX2_judge_30 rfl hl (by decide) rfl (fun ls hl => ?_)
      refine lv_lload_n hx hb dX2_judge_31 rfl (lv_at hl 0 rfl) ?_
      refine lv_ldc2 (v := lN 131072) hx hb hown (hts (.constantLong RX2 39 (131072)) (by decide +kernel)) dX2_judge_32 ?_
      refine wx_ln_lt (tgt := 47) hx hb dX2_judge_35 dX2_judge_36 (by decide) (by omega) (by omega) (fun c_9 => ?_) (fun c_9 => ?_)
      · skip
        refine lv_iconst (v := nI 3) hx hb dX2_judge_47 (by decide) ?_
        have hP9 := hP.sub (ws' := [(h0, .inr (2, [.ref b0, .int (nI len)])), (b0, .inl (cB, 3000, .inl f))]) [0, 1] rfl
        have hD9 := hD.sub (ws' := [(h0, .inr (2, [.ref b0, .int (nI len)])), (b0, .inl (cB, 3000, .inl f))]) [0, 1] (by decide) rfl
        exact W.iret (v := nI 3) hx hb hr (fun t ht hW => ⟨⟨(nI 3), (), rfl, (by unfold verd; (repeat' split) <;> first | rfl | (exfalso; omega)), by rw [ht]; exact hP9, hD9⟩, hS.F ht⟩) hS.2.2 dX2_judge_48
      · skip
        refine lv_lload_n hx hb dX2_judge_39 rfl (lv_at hl 0 rfl) ?_
        refine lv_ldc2 (v := lN 197119) hx hb hown (hts (.constantLong RX2 41 (197119)) (by decide +kernel)) dX2_judge_40 ?_
        refine wx_ln_le (tgt := 49) hx hb dX2_judge_43 dX2_judge_44 (by decide) (by omega) (by omega) (fun c_10 => ?_) (fun c_10 => ?_)
        · skip
          refine lv_aload_n hx hb dX2_judge_49 rfl (lv_at hl 1 rfl) ?_
          refine lv_aload_n hx hb dX2_judge_50 rfl (lv_at hl 1 rfl) ?_
          refine lv_bipush (v := nI 8) hx hb dX2_judge_51 (by decide) ?_
          have hPc := hP.sub (ws' := [(h0, .inr (2, [.ref b0, .int (nI len)])), (b0, .inl (cB, 3000, .inl f))]) [0, 1] rfl
          have hDc := hD.sub (ws' := [(h0, .inr (2, [.ref b0, .int (nI len)])), (b0, .inl (cB, 3000, .inl f))]) [0, 1] (by decide) rfl
          have hFc := va_free (wc := [(h0, .inr (2, [.ref b0, .int (nI len)])), (b0, .inl (cB, 3000, .inl f))]) hD hS hA [0, 1] rfl
          refine va_calll (va_runV (As := [.int (nI 8)]) (rest := [.ref h0]) ⟨hx, hb, hml, hown, hts⟩ (c_X2_wordAt l dC dI cB cI cJ H.size h0 b0 f len fb 8 hF (by omega)) (cwV 1 hts gX2_judge_X2_wordAt rfl rfl rfl (by decide +kernel) ⟨Nat.le_of_ble_eq_true rfl, Nat.le_of_ble_eq_true rfl⟩) ⟨wBlind, va_recv hK hPc (ci := 2) (q0 := 0) rfl rfl, wGo hK hPc hDc hN⟩ rfl rfl hl.1 rfl (lv_room (Nat.le_of_ble_eq_true rfl)) dX2_judge_53 ⟨show 0 ≤ 0 by decide, show 0 ≤ 0 by decide⟩) hS (fun q _ h => hFc q h) hFc (fun r_12 u t H1 locs ht hvm w_13 hB hz1 hk1 hS => ?_)
          clear u
          obtain ⟨hP1, hD1⟩ := hB
          rw [ht] at hP1
          try dsimp only at w_13
          obtain ⟨hP, hD⟩ := va_join (wr := []) (w1 := [(h0, .inr (2, [.ref b0, .int (nI len)])), (b0, .inl (cB, 3000, .inl f))]) hP hD [0, 1] [] rfl rfl (by decide) (by decide) hk1 hFc hP1 hD1
          clear hPc hDc hFc hP1 hD1 hz1 hk1 hvm
          generalize H1 = H at hP hS ⊢
          have hP : va_P (dC, dI) vwCl [(h0, .inr (2, [.ref b0, .int (nI len)])), (b0, .inl (cB, 3000, .inl f))] H := hP
          have hD : va_D A [(h0, .inr (2, [.ref b0, .int (nI len)])), (b0, .inl (cB, 3000, .inl f))] := hD
          subst w_13
          refine lv_aload_n hx hb dX2_judge_56 rfl (lv_at hl 1 rfl) ?_
          refine lv_bipush (v := nI 12) hx hb dX2_judge_57 (by decide) ?_
          have hPc := hP.sub (ws' := [(h0, .inr (2, [.ref b0, .int (nI len)])), (b0, .inl (cB, 3000, .inl f))]) [0, 1] rfl
          have hDc := hD.sub (ws' := [(h0, .inr (2, [.ref b0, .int (nI len)])), (b0, .inl (cB, 3000, .inl f))]) [0, 1] (by decide) rfl
          have hFc := va_free (wc := [(h0, .inr (2, [.ref b0, .int (nI len)])), (b0, .inl (cB, 3000, .inl f))]) hD hS hA [0, 1] rfl
          refine va_calll (va_runV (As := [.int (nI 12)]) (rest := [.long (lN (fw fb 8)), .ref h0]) ⟨hx, hb, hml, hown, hts⟩ (c_X2_wordAt l dC dI cB cI cJ H.size h0 b0 f len fb 12 hF (by omega)) (cwV 1 hts gX2_judge_X2_wordAt rfl rfl rfl (by decide +kernel) ⟨Nat.le_of_ble_eq_true rfl, Nat.le_of_ble_eq_true rfl⟩) ⟨wBlind, va_recv hK hPc (ci := 2) (q0 := 0) rfl rfl, wGo hK hPc hDc hN⟩ rfl rfl hl.1 rfl (lv_room (Nat.le_of_ble_eq_true rfl)) dX2_judge_59 ⟨show 0 ≤ 0 by decide, show 0 ≤ 0 by decide⟩) hS (fun q _ h => hFc q h) hFc (fun r_15 u t H1 locs ht hvm w_16 hB hz1 hk1 hS => ?_)
          clear u
          obtain ⟨hP1, hD1⟩ := hB
          rw [ht] at hP1
          try dsimp only at w_16
          obtain ⟨hP, hD⟩ := va_join (wr := []) (w1 := [(h0, .inr (2, [.ref b0, .int (nI len)])), (b0, .inl (cB, 3000, .inl f))]) hP hD [0, 1] [] rfl rfl (by decide) (by decide) hk1 hFc hP1 hD1
          clear hPc hDc hFc hP1 hD1 hz1 hk1 hvm
          generalize H1 = H at hP hS ⊢
          have hP : va_P (dC, dI) vwCl [(h0, .inr (2, [.ref b0, .int (nI len)])), (b0, .inl (cB, 3000, .inl f))] H := hP
          have hD : va_D A [(h0, .inr (2, [.ref b0, .int (nI len)])), (b0, .inl (cB, 3000, .inl f))] := hD
          subst w_16
          refine lv_aload_n hx hb dX2_judge_62 rfl (lv_at hl 1 rfl) ?_
          refine lv_bipush (v := nI 16) hx hb dX2_judge_63 (by decide) ?_
          have hPc := hP.sub (ws' := [(h0, .inr (2, [.ref b0, .int (nI len)])), (b0, .inl (cB, 3000, .inl f))]) [0, 1] rfl
          have hDc := hD.sub (ws' := [(h0, .inr (2, [.ref b0, .int (nI len)])), (b0, .inl (cB, 3000, .inl f))]) [0, 1] (by decide) rfl
          have hFc := va_free (wc := [(h0, .inr (2, [.ref b0, .int (nI len)])), (b0, .inl (cB, 3000, .inl f))]) hD hS hA [0, 1] rfl
          refine va_calll (va_runV (As := [.int (nI 16)]) (rest := [.long (lN (fw fb 12)), .long (lN (fw fb 8)), .ref h0]) ⟨hx, hb, hml, hown, hts⟩ (c_X2_wordAt l dC dI cB cI cJ H.size h0 b0 f len fb 16 hF (by omega)) (cwV 1 hts gX2_judge_X2_wordAt rfl rfl rfl (by decide +kernel) ⟨Nat.le_of_ble_eq_true rfl, Nat.le_of_ble_eq_true rfl⟩) ⟨wBlind, va_recv hK hPc (ci := 2) (q0 := 0) rfl rfl, wGo hK hPc hDc hN⟩ rfl rfl hl.1 rfl (lv_room (Nat.le_of_ble_eq_true rfl)) dX2_judge_65 ⟨show 0 ≤ 0 by decide, show 0 ≤ 0 by decide⟩) hS (fun q _ h => hFc q h) hFc (fun r_18 u t H1 locs ht hvm w_19 hB hz1 hk1 hS => ?_)
          clear u
          obtain ⟨hP1, hD1⟩ := hB
          rw [ht] at hP1
          try dsimp only at w_19
          obtain ⟨hP, hD⟩ := va_join (wr := []) (w1 := [(h0, .inr (2, [.ref b0, .int (nI len)])), (b0, .inl (cB, 3000, .inl f))]) hP hD [0, 1] [] rfl rfl (by decide) (by decide) hk1 hFc hP1 hD1
          clear hPc hDc hFc hP1 hD1 hz1 hk1 hvm
          generalize H1 = H at hP hS ⊢
          have hP : va_P (dC, dI) vwCl [(h0, .inr (2, [.ref b0, .int (nI len)])), (b0, .inl (cB, 3000, .inl f))] H := hP
          have hD : va_D A [(h0, .inr (2, [.ref b0, .int (nI len)])), (b0, .inl (cB, 3000, .inl f))] := hD
          subst w_19
          have hPc := hP.sub (ws' := [(h0, .inr (2, [.ref b0, .int (nI len)])), (b0, .inl (cB, 3000, .inl f))]) [0, 1] rfl
          have hDc := hD.sub (ws' := [(h0, .inr (2, [.ref b0, .int (nI len)])), (b0, .inl (cB, 3000, .inl f))]) [0, 1] (by decide) rfl
          have hFc := va_free (wc := [(h0, .inr (2, [.ref b0, .int (nI len)])), (b0, .inl (cB, 3000, .inl f))]) hD hS hA [0, 1] rfl
          refine va_calli (va_runV (As := [.long (lN (fw fb 8)), .long (lN (fw fb 12)), .long (lN (fw fb 16))]) (rest := []) ⟨hx, hb, hml, hown, hts⟩ (c_X2_judgeMarks l dC dI cB cI cJ H.size h0 b0 f len fb (fw fb 8) (fw fb 12) (fw fb 16) hF (by omega) (by omega) (by omega)) (cwV 3 hts gX2_judge_X2_judgeMarks rfl rfl rfl (by decide +kernel) ⟨Nat.le_of_ble_eq_true rfl, Nat.le_of_ble_eq_true rfl⟩) ⟨wBlind, va_recv hK hPc (ci := 2) (q0 := 0) rfl rfl, wGo hK hPc hDc hN⟩ rfl rfl hl.1 rfl (lv_room (Nat.le_of_ble_eq_true rfl)) dX2_judge_68 ⟨show 0 ≤ 0 by decide, show 0 ≤ 0 by decide⟩) hS (fun q _ h => hFc q h) hFc (fun r_21 u t H1 locs ht hvm w_22 hB hz1 hk1 hS => ?_)
          clear u
          obtain ⟨hP1, hD1⟩ := hB
          rw [ht] at hP1
          try dsimp only at w_22
          obtain ⟨hP, hD⟩ := va_join (wr := []) (w1 := [(h0, .inr (2, [.ref b0, .int (nI len)])), (b0, .inl (cB, 3000, .inl f))]) hP hD [0, 1] [] rfl rfl (by decide) (by decide) hk1 hFc hP1 hD1
          clear hPc hDc hFc hP1 hD1 hz1 hk1 hvm
          generalize H1 = H at hP hS ⊢
          have hP : va_P (dC, dI) vwCl [(h0, .inr (2, [.ref b0, .int (nI len)])), (b0, .inl (cB, 3000, .inl f))] H := hP
          have hD : va_D A [(h0, .inr (2, [.ref b0, .int (nI len)])), (b0, .inl (cB, 3000, .inl f))] := hD
          subst w_22
          have hvm := vMarks_lt len (fw fb 8) (fw fb 12) (fw fb 16)
          refine lv_istore_n (lv' := [(3, .int (nI (vMarks len (fw fb 8) (fw fb 12) (fw fb 16)))), (1, .long (lN (fw fb 4))), (0, .ref h0)]) hx hb dX2_judge_71 rfl hl (by decide) rfl (fun ls hl => ?_)
          refine lv_iload_n hx hb dX2_judge_72 rfl (lv_at hl 0 rfl) ?_
          refine wx_if_eq (tgt := 80) hx hb dX2_judge_73 (by decide) (by omega) (fun c_23 => ?_) (fun c_23 => ?_)
          · skip
            refine lv_aload_n hx hb dX2_judge_80 rfl (lv_at hl 2 rfl) ?_
            refine lv_aload_n hx hb dX2_judge_81 rfl (lv_at hl 2 rfl) ?_
            refine lv_bipush (v := nI 16) hx hb dX2_judge_82 (by decide) ?_
            have hPc := hP.sub (ws' := [(h0, .inr (2, [.ref b0, .int (nI len)])), (b0, .inl (cB, 3000, .inl f))]) [0, 1] rfl
            have hDc := hD.sub (ws' := [(h0, .inr (2, [.ref b0, .int (nI len)])), (b0, .inl (cB, 3000, .inl f))]) [0, 1] (by decide) rfl
            have hFc := va_free (wc := [(h0, .inr (2, [.ref b0, .int (nI len)])), (b0, .inl (cB, 3000, .inl f))]) hD hS hA [0, 1] rfl
            refine va_calll (va_runV (As := [.int (nI 16)]) (rest := [.ref h0]) ⟨hx, hb, hml, hown, hts⟩ (c_X2_wordAt l dC dI cB cI cJ H.size h0 b0 f len fb 16 hF (by omega)) (cwV 1 hts gX2_judge_X2_wordAt rfl rfl rfl (by decide +kernel) ⟨Nat.le_of_ble_eq_true rfl, Nat.le_of_ble_eq_true rfl⟩) ⟨wBlind, va_recv hK hPc (ci := 2) (q0 := 0) rfl rfl, wGo hK hPc hDc hN⟩ rfl rfl hl.1 rfl (lv_room (Nat.le_of_ble_eq_true rfl)) dX2_judge_84 ⟨show 0 ≤ 0 by decide, show 0 ≤ 0 by decide⟩) hS (fun q _ h => hFc q h) hFc (fun r_25 u t H1 locs ht hvm w_26 hB hz1 hk1 hS => ?_)
            clear u
            obtain ⟨hP1, hD1⟩ := hB
            rw [ht] at hP1
            try dsimp only at w_26
            obtain ⟨hP, hD⟩ := va_join (wr := []) (w1 := [(h0, .inr (2, [.ref b0, .int (nI len)])), (b0, .inl (cB, 3000, .inl f))]) hP hD [0, 1] [] rfl rfl (by decide) (by decide) hk1 hFc hP1 hD1
            clear hPc hDc hFc hP1 hD1 hz1 hk1 hvm
            generalize H1 = H at hP hS ⊢
            have hP : va_P (dC, dI) vwCl [(h0, .inr (2, [.ref b0, .int (nI len)])), (b0, .inl (cB, 3000, .inl f))] H := hP
            have hD : va_D A [(h0, .inr (2, [.ref b0, .int (nI len)])), (b0, .inl (cB, 3000, .inl f))] := hD
            subst w_26
            refine lv_aload_n hx hb dX2_judge_87 rfl (lv_at hl 2 rfl) ?_
            refine lv_bipush (v := nI 20) hx hb dX2_judge_88 (by decide) ?_
            have hPc := hP.sub (ws' := [(h0, .inr (2, [.ref b0, .int (nI len)])), (b0, .inl (cB, 3000, .inl f))]) [0, 1] rfl
            have hDc := hD.sub (ws' := [(h0, .inr (2, [.ref b0, .int (nI len)])), (b0, .inl (cB, 3000, .inl f))]) [0, 1] (by decide) rfl
            have hFc := va_free (wc := [(h0, .inr (2, [.ref b0, .int (nI len)])), (b0, .inl (cB, 3000, .inl f))]) hD hS hA [0, 1] rfl
            refine va_calll (va_runV (As := [.int (nI 20)]) (rest := [.long (lN (fw fb 16)), .ref h0]) ⟨hx, hb, hml, hown, hts⟩ (c_X2_wordAt l dC dI cB cI cJ H.size h0 b0 f len fb 20 hF (by omega)) (cwV 1 hts gX2_judge_X2_wordAt rfl rfl rfl (by decide +kernel) ⟨Nat.le_of_ble_eq_true rfl, Nat.le_of_ble_eq_true rfl⟩) ⟨wBlind, va_recv hK hPc (ci := 2) (q0 := 0) rfl rfl, wGo hK hPc hDc hN⟩ rfl rfl hl.1 rfl (lv_room (Nat.le_of_ble_eq_true rfl)) dX2_judge_90 ⟨show 0 ≤ 0 by decide, show 0 ≤ 0 by decide⟩) hS (fun q _ h => hFc q h) hFc (fun r_28 u t H1 locs ht hvm w_29 hB hz1 hk1 hS => ?_)
            clear u
            obtain ⟨hP1, hD1⟩ := hB
            rw [ht] at hP1
            try dsimp only at w_29
            obtain ⟨hP, hD⟩ := va_join (wr := []) (w1 := [(h0, .inr (2, [.ref b0, .int (nI len)])), (b0, .inl (cB, 3000, .inl f))]) hP hD [0, 1] [] rfl rfl (by decide) (by decide) hk1 hFc hP1 hD1
            clear hPc hDc hFc hP1 hD1 hz1 hk1 hvm
            generalize H1 = H at hP hS ⊢
            have hP : va_P (dC, dI) vwCl [(h0, .inr (2, [.ref b0, .int (nI len)])), (b0, .inl (cB, 3000, .inl f))] H := hP
            have hD : va_D A [(h0, .inr (2, [.ref b0, .int (nI len)])), (b0, .inl (cB, 3000, .inl f))] := hD
            subst w_29
            have hPc := hP.sub (ws' := [(h0, .inr (2, [.ref b0, .int (nI len)])), (b0, .inl (cB, 3000, .inl f))]) [0, 1] rfl
            have hDc := hD.sub (ws' := [(h0, .inr (2, [.ref b0, .int (nI len)])), (b0, .inl (cB, 3000, .inl f))]) [0, 1] (by decide) rfl
            have hFc := va_free (wc := [(h0, .inr (2, [.ref b0, .int (nI len)])), (b0, .inl (cB, 3000, .inl f))]) hD hS hA [0, 1] rfl
            refine va_calli (va_runV (As := [.long (lN (fw fb 16)), .long (lN (fw fb 20))]) (rest := []) ⟨hx, hb, hml, hown, hts⟩ (c_X2_judgeUse l dC dI cB cI cJ H.size h0 b0 f len fb (fw fb 16) (fw fb 20) hF (by omega) (by omega)) (cwV 2 hts gX2_judge_X2_judgeUse rfl rfl rfl (by decide +kernel) ⟨Nat.le_of_ble_eq_true rfl, Nat.le_of_ble_eq_true rfl⟩) ⟨wBlind, va_recv hK hPc (ci := 2) (q0 := 0) rfl rfl, wGo hK hPc hDc hN⟩ rfl rfl hl.1 rfl (lv_room (Nat.le_of_ble_eq_true rfl)) dX2_judge_93 ⟨show 0 ≤ 0 by decide, show 0 ≤ 0 by decide⟩) hS (fun q _ h => hFc q h) hFc (fun r_31 u t H1 locs ht hvm w_32 hB hz1 hk1 hS => ?_)
            clear u
            obtain ⟨hP1, hD1⟩ := hB
            rw [ht] at hP1
            try dsimp only at w_32
            obtain ⟨hP, hD⟩ := va_join (wr := []) (w1 := [(h0, .inr (2, [.ref b0, .int (nI len)])), (b0, .inl (cB, 3000, .inl f))]) hP hD [0, 1] [] rfl rfl (by decide) (by decide) hk1 hFc hP1 hD1
            clear hPc hDc hFc hP1 hD1 hz1 hk1 hvm
            generalize H1 = H at hP hS ⊢
            have hP : va_P (dC, dI) vwCl [(h0, .inr (2, [.ref b0, .int (nI len)])), (b0, .inl (cB, 3000, .inl f))] H := hP
            have hD : va_D A [(h0, .inr (2, [.ref b0, .int (nI len)])), (b0, .inl (cB, 3000, .inl f))] := hD
            subst w_32
            have hP9 := hP.sub (ws' := [(h0, .inr (2, [.ref b0, .int (nI len)])), (b0, .inl (cB, 3000, .inl f))]) [0, 1] rfl
            have hD9 := hD.sub (ws' := [(h0, .inr (2, [.ref b0, .int (nI len)])), (b0, .inl (cB, 3000, .inl f))]) [0, 1] (by decide) rfl
            exact W.iret (v := nI (vUse fb (fw fb 16) (fw fb 20))) hx hb hr (fun t ht hW => ⟨⟨(nI (vUse fb (fw fb 16) (fw fb 20))), (), rfl, (by unfold verd; (repeat' split) <;> first | rfl | (exfalso; omega)), by rw [ht]; exact hP9, hD9⟩, hS.F ht⟩) hS.2.2 dX2_judge_96
          · skip
            refine lv_iload_n hx hb dX2_judge_76 rfl (lv_at hl 0 rfl) ?_
            refine lv_goto (tgt := 96) hx hb dX2_judge_77 (by decide) ?_
            have hP9 := hP.sub (ws' := [(h0, .inr (2, [.ref b0, .int (nI len)])), (b0, .inl (cB, 3000, .inl f))]) [0, 1] rfl
            have hD9 := hD.sub (ws' := [(h0, .inr (2, [.ref b0, .int (nI len)])), (b0, .inl (cB, 3000, .inl f))]) [0, 1] (by decide) rfl
            exact W.iret (v := nI (vMarks len (fw fb 8) (fw fb 12) (fw fb 16))) hx hb hr (fun t ht hW => ⟨⟨(nI (vMarks len (fw fb 8) (fw fb 12) (fw fb 16))), (), rfl, (by unfold verd; (repeat' split) <;> first | rfl | (exfalso; omega)), by rw [ht]; exact hP9, hD9⟩, hS.F ht⟩) hS.2.2 dX2_judge_96
        · skip
          refine lv_iconst (v := nI 3) hx hb dX2_judge_47 (by decide) ?_
          have hP9 := hP.sub (ws' := [(h0, .inr (2, [.ref b0, .int (nI len)])), (b0, .inl (cB, 3000, .inl f))]) [0, 1] rfl
          have hD9 := hD.sub (ws' := [(h0, .inr (2, [.ref b0, .int (nI len)])), (b0, .inl (cB, 3000, .inl f))]) [0, 1] (by decide) rfl
          exact W.iret (v := nI 3) hx hb hr (fun t ht hW => ⟨⟨(nI 3), (), rfl, (by unfold verd; (repeat' split) <;> first | rfl | (exfalso; omega)), by rw [ht]; exact hP9, hD9⟩, hS.F ht⟩) hS.2.2 dX2_judge_48
    · skip
      refine lv_iconst (v := nI 2) hx hb dX2_judge_23 (by decide) ?_
      have hP9 := hP.sub (ws' := [(h0, .inr (2, [.ref b0, .int (nI len)])), (b0, .inl (cB, 3000, .inl f))]) [0, 1] rfl
      have hD9 := hD.sub (ws' := [(h0, .inr (2, [.ref b0, .int (nI len)])), (b0, .inl (cB, 3000, .inl f))]) [0, 1] (by decide) rfl
      exact W.iret (v := nI 2) hx hb hr (fun t ht hW => ⟨⟨(nI 2), (), rfl, (by unfold verd; (repeat' split) <;> first | rfl | (exfalso; omega)), by rw [ht]; exact hP9, hD9⟩, hS.F ht⟩) hS.2.2 dX2_judge_24
  · skip
    refine lv_iconst (v := nI 1) hx hb dX2_judge_9 (by decide) ?_
    have hP9 := hP.sub (ws' := [(h0, .inr (2, [.ref b0, .int (nI len)])), (b0, .inl (cB, 3000, .inl f))]) [0, 1] rfl
    have hD9 := hD.sub (ws' := [(h0, .inr (2, [.ref b0, .int (nI len)])), (b0, .inl (cB, 3000, .inl f))]) [0, 1] (by decide) rfl
    exact W.iret (v := nI 1) hx hb hr (fun t ht hW => ⟨⟨(nI 1), (), rfl, (by unfold verd; (repeat' split) <;> first | rfl | (exfalso; omega)), by rw [ht]; exact hP9, hD9⟩, hS.F ht⟩) hS.2.2 dX2_judge_10
