set_option maxHeartbeats 4000000 in
set_option maxRecDepth 100000 in
theorem c_X4_verdict (l : Launch) (dC : Nat → ClassId) (dI : Nat → Nat → Nat) (cB cI cJ : ClassId) (sz : Nat) (oD : Nat) (th : Nat) (dF : Nat) (len : Nat) (ha : Nat) (dH : Nat) (sr : Nat) (dL : Nat) (en : Nat) (ram : Nat) (mz : Nat) (dM : Nat) (hp : Nat) (cn : Nat) (dP : Nat) (dS : Nat) (fk : Nat) (fp : Int32) (ka : Nat) (kn : Nat) (sv : Nat) (dK : Nat) (df : Nat → Int32) (fb : Nat → Nat) (hlen : len ≤ 3000) (hf : gOk df len fb) (hfb : ∀ j, fb j < 256) (hz : ∀ j, len ≤ j → fb j = 0) : Met l yX4_verdict wsX4_verdict ({ frames := 2, cells := 0, slots := 0, locals := 57 }) (va_Pc [.ref oD] (wPre dC dI cB cI cJ sz [(oD, .inr (4, [.int (nI th), .ref dF, .int (nI len), .int (nI ha), .ref dH, .int (nI sr), .ref dL, .int (nI en), .int (nI ram), .int (nI mz), .ref dM, .int (nI hp), .int (nI cn), .ref dP, .ref dS, .int (nI fk), .int fp, .int (nI ka), .int (nI kn), .int (nI sv), .ref dK])), (dF, .inl (cI, 3000, .inl df))])) (va_Qi (fun (r : Int32) (u : Unit) => r = nI (verd fb len)) (fun (u : Unit) => wPost dC dI (va_A [(oD, .inr (4, [.int (nI th), .ref dF, .int (nI len), .int (nI ha), .ref dH, .int (nI sr), .ref dL, .int (nI en), .int (nI ram), .int (nI mz), .ref dM, .int (nI hp), .int (nI cn), .ref dP, .ref dS, .int (nI fk), .int fp, .int (nI ka), .int (nI kn), .int (nI sv), .ref dK])), (dF, .inl (cI, 3000, .inl df))] sz) [(oD, .inr (4, [.int (nI 0), .ref dF, .int (nI len), .int (nI ha), .ref dH, .int (nI sr), .ref dL, .int (nI en), .int (nI ram), .int (nI mz), .ref dM, .int (nI hp), .int (nI cn), .ref dP, .ref dS, .int (nI fk), .int fp, .int (nI ka), .int (nI kn), .int (nI sv), .ref dK])), (dF, .inl (cI, 3000, .inl df))]) (va_A [(oD, .inr (4, [.int (nI th), .ref dF, .int (nI len), .int (nI ha), .ref dH, .int (nI sr), .ref dL, .int (nI en), .int (nI ram), .int (nI mz), .ref dM, .int (nI hp), .int (nI cn), .ref dP, .ref dS, .int (nI fk), .int fp, .int (nI ka), .int (nI kn), .int (nI sv), .ref dK])), (dF, .inl (cI, 3000, .inl df))] sz)) 0 0 (va_A [(oD, .inr (4, [.int (nI th), .ref dF, .int (nI len), .int (nI ha), .ref dH, .int (nI sr), .ref dL, .int (nI en), .int (nI ram), .int (nI mz), .ref dM, .int (nI hp), .int (nI cn), .ref dP, .ref dS, .int (nI fk), .int fp, .int (nI ka), .int (nI kn), .int (nI sv), .ref dK])), (dF, .inl (cI, 3000, .inl df))] sz) := by
  refine Met.ofW (cc := cX4_verdict) (maxL := 1) (ret := (some .int)) (by decide) rfl ?_
  intro p e s m args below meth c s₁ B hml hv
  obtain ⟨rfl, hsz, hP, hK, hD0, hN⟩ := hv
  have hx := B.exec
  have hb := B.bytes
  have hr := B.returns
  have hts := atoms_spec (ws := wsX4_verdict) B.pre
  have hown : s.vm.findClass RX4 = some m.cls := findClass_of_methodNamed B.named
  have hlocks := B.notSynchronized
  subst hsz
  have hD := hD0.self (sz := s.heap.size)
  generalize hAe : va_A [(oD, .inr (4, [.int (nI th), .ref dF, .int (nI len), .int (nI ha), .ref dH, .int (nI sr), .ref dL, .int (nI en), .int (nI ram), .int (nI mz), .ref dM, .int (nI hp), .int (nI cn), .ref dP, .ref dS, .int (nI fk), .int fp, .int (nI ka), .int (nI kn), .int (nI sv), .ref dK])), (dF, .inl (cI, 3000, .inl df))] s.heap.size = A at hD ⊢
  have hA : ∀ q : Nat, s.heap.size ≤ q → A q := fun q h => by rw [← hAe]; exact Or.inr h
  have hS : va_S A s.heap s.heap [] := va_S.rf
  have hP : va_P (dC, dI) vwCl [(oD, .inr (4, [.int (nI th), .ref dF, .int (nI len), .int (nI ha), .ref dH, .int (nI sr), .ref dL, .int (nI en), .int (nI ram), .int (nI mz), .ref dM, .int (nI hp), .int (nI cn), .ref dP, .ref dS, .int (nI fk), .int fp, .int (nI ka), .int (nI kn), .int (nI sv), .ref dK])), (dF, .inl (cI, 3000, .inl df))] s.heap := hP
  have hl := lv_entry ([.ref oD]) (n := 1) (Nat.le_of_ble_eq_true rfl)
  rw [lg_entry_eq]
  generalize (lg_sl ([.ref oD]) ++ List.replicate (1 - (lg_sl ([.ref oD])).length) Slot.unset).toArray = ls at hl ⊢
  have hl : lv_has ls 1 [(0, .ref oD)] := hl
  refine lv_aload_n hx hb dX4_verdict_0 rfl (lv_at hl 0 rfl) ?_
  refine lv_iconst (v := nI 0) hx hb dX4_verdict_1 (by decide) ?_
  refine va_put (D := (dC, dI)) (ci := 4) (v := .int (nI 0)) (ty := .int) (C := RX4) (T := TX4) (N := 21) hx hb hts (by decide +kernel) tyX4 tyX4_ok nmX4 hown hK hP hD hS 0 rfl rfl 0 (by decide) (hts (.fieldLink RX4 32 "GlulxHeadsModel" "thrown" "I") (by decide +kernel)) (fun _ h9 => h9) rfl (by decide +kernel) rfl rfl (Nat.le_of_ble_eq_true rfl) dX4_verdict_2 (fun H locs hP hD hS => ?_)
  have hP : va_P (dC, dI) vwCl [(oD, .inr (4, [.int (nI 0), .ref dF, .int (nI len), .int (nI ha), .ref dH, .int (nI sr), .ref dL, .int (nI en), .int (nI ram), .int (nI mz), .ref dM, .int (nI hp), .int (nI cn), .ref dP, .ref dS, .int (nI fk), .int fp, .int (nI ka), .int (nI kn), .int (nI sv), .ref dK])), (dF, .inl (cI, 3000, .inl df))] H := hP
  have hD : va_D A [(oD, .inr (4, [.int (nI 0), .ref dF, .int (nI len), .int (nI ha), .ref dH, .int (nI sr), .ref dL, .int (nI en), .int (nI ram), .int (nI mz), .ref dM, .int (nI hp), .int (nI cn), .ref dP, .ref dS, .int (nI fk), .int fp, .int (nI ka), .int (nI kn), .int (nI sv), .ref dK])), (dF, .inl (cI, 3000, .inl df))] := hD
  refine lv_aload_n hx hb dX4_verdict_5 rfl (lv_at hl 0 rfl) ?_
  have hPc := hP.sub (ws' := [(oD, .inr (4, [.int (nI 0), .ref dF, .int (nI len), .int (nI ha), .ref dH, .int (nI sr), .ref dL, .int (nI en), .int (nI ram), .int (nI mz), .ref dM, .int (nI hp), .int (nI cn), .ref dP, .ref dS, .int (nI fk), .int fp, .int (nI ka), .int (nI kn), .int (nI sv), .ref dK])), (dF, .inl (cI, 3000, .inl df))]) [0, 1] rfl
  have hDc := hD.sub (ws' := [(oD, .inr (4, [.int (nI 0), .ref dF, .int (nI len), .int (nI ha), .ref dH, .int (nI sr), .ref dL, .int (nI en), .int (nI ram), .int (nI mz), .ref dM, .int (nI hp), .int (nI cn), .ref dP, .ref dS, .int (nI fk), .int fp, .int (nI ka), .int (nI kn), .int (nI sv), .ref dK])), (dF, .inl (cI, 3000, .inl df))]) [0, 1] (by decide) rfl
  have hFc := va_free (wc := [(oD, .inr (4, [.int (nI 0), .ref dF, .int (nI len), .int (nI ha), .ref dH, .int (nI sr), .ref dL, .int (nI en), .int (nI ram), .int (nI mz), .ref dM, .int (nI hp), .int (nI cn), .ref dP, .ref dS, .int (nI fk), .int fp, .int (nI ka), .int (nI kn), .int (nI sv), .ref dK])), (dF, .inl (cI, 3000, .inl df))]) hD hS hA [0, 1] rfl
  refine va_calli (va_runV (As := []) (rest := []) ⟨hx, hb, hml, hown, hts⟩ (c_X4_judge l dC dI cB cI cJ H.size oD 0 dF len ha dH sr dL en ram mz dM hp cn dP dS fk fp ka kn sv dK df fb (by omega) hf hfb hz) (cwV 0 hts gX4_verdict_X4_judge rfl rfl rfl (by decide +kernel) ⟨Nat.le_of_ble_eq_true rfl, Nat.le_of_ble_eq_true rfl⟩) ⟨wBlind, va_recv hK hPc (ci := 4) (q0 := 0) rfl rfl, wGo hK hPc hDc hN⟩ rfl rfl hl.1 rfl (lv_room (Nat.le_of_ble_eq_true rfl)) dX4_verdict_6 ⟨show 0 ≤ 0 by decide, show 0 ≤ 0 by decide⟩) hS (fun q _ h => hFc q h) hFc (fun r_2 u t H1 locs ht hvm w_3 hB hz1 hk1 hS => ?_)
  clear u
  obtain ⟨hP1, hD1⟩ := hB
  rw [ht] at hP1
  try dsimp only at w_3
  obtain ⟨hP, hD⟩ := va_join (wr := []) (w1 := [(oD, .inr (4, [.int (nI 0), .ref dF, .int (nI len), .int (nI ha), .ref dH, .int (nI sr), .ref dL, .int (nI en), .int (nI ram), .int (nI mz), .ref dM, .int (nI hp), .int (nI cn), .ref dP, .ref dS, .int (nI fk), .int fp, .int (nI ka), .int (nI kn), .int (nI sv), .ref dK])), (dF, .inl (cI, 3000, .inl df))]) hP hD [0, 1] [] rfl rfl (by decide) (by decide) hk1 hFc hP1 hD1
  clear hPc hDc hFc hP1 hD1 hz1 hk1 hvm
  generalize H1 = H at hP hS ⊢
  have hP : va_P (dC, dI) vwCl [(oD, .inr (4, [.int (nI 0), .ref dF, .int (nI len), .int (nI ha), .ref dH, .int (nI sr), .ref dL, .int (nI en), .int (nI ram), .int (nI mz), .ref dM, .int (nI hp), .int (nI cn), .ref dP, .ref dS, .int (nI fk), .int fp, .int (nI ka), .int (nI kn), .int (nI sv), .ref dK])), (dF, .inl (cI, 3000, .inl df))] H := hP
  have hD : va_D A [(oD, .inr (4, [.int (nI 0), .ref dF, .int (nI len), .int (nI ha), .ref dH, .int (nI sr), .ref dL, .int (nI en), .int (nI ram), .int (nI mz), .ref dM, .int (nI hp), .int (nI cn), .ref dP, .ref dS, .int (nI fk), .int fp, .int (nI ka), .int (nI kn), .int (nI sv), .ref dK])), (dF, .inl (cI, 3000, .inl df))] := hD
  have hP9 := hP.sub (ws' := [(oD, .inr (4, [.int (nI 0), .ref dF, .int (nI len), .int (nI ha), .ref dH, .int (nI sr), .ref dL, .int (nI en), .int (nI ram), .int (nI mz), .ref dM, .int (nI hp), .int (nI cn), .ref dP, .ref dS, .int (nI fk), .int fp, .int (nI ka), .int (nI kn), .int (nI sv), .ref dK])), (dF, .inl (cI, 3000, .inl df))]) [0, 1] rfl
  have hD9 := hD.sub (ws' := [(oD, .inr (4, [.int (nI 0), .ref dF, .int (nI len), .int (nI ha), .ref dH, .int (nI sr), .ref dL, .int (nI en), .int (nI ram), .int (nI mz), .ref dM, .int (nI hp), .int (nI cn), .ref dP, .ref dS, .int (nI fk), .int fp, .int (nI ka), .int (nI kn), .int (nI sv), .ref dK])), (dF, .inl (cI, 3000, .inl df))]) [0, 1] (by decide) rfl
  exact W.iret (v := r_2) hx hb hr (fun t ht hW => ⟨⟨r_2, (), rfl, w_3, by rw [ht]; exact hP9, hD9⟩, hS.F ht⟩) hS.2.2 dX4_verdict_9
set_option maxHeartbeats 4000000 in
set_option maxRecDepth 100000 in
theorem c_X4_sumOf (l : Launch) (dC : Nat → ClassId) (dI : Nat → Nat → Nat) (cB cI cJ : ClassId) (sz : Nat) (oD : Nat) (th : Nat) (dF : Nat) (len : Nat) (ha : Nat) (dH : Nat) (sr : Nat) (dL : Nat) (en : Nat) (ram : Nat) (mz : Nat) (dM : Nat) (hp : Nat) (cn : Nat) (dP : Nat) (dS : Nat) (fk : Nat) (fp : Int32) (ka : Nat) (kn : Nat) (sv : Nat) (dK : Nat) (df : Nat → Int32) (fb : Nat → Nat) (hlen : len ≤ 3000) (hf : gOk df len fb) (hfb : ∀ j, fb j < 256) (hz : ∀ j, len ≤ j → fb j = 0) : Met l yX4_sumOf wsX4_sumOf ({ frames := 1, cells := 0, slots := 0, locals := 24 }) (va_Pc [.ref oD] (wPre dC dI cB cI cJ sz [(oD, .inr (4, [.int (nI th), .ref dF, .int (nI len), .int (nI ha), .ref dH, .int (nI sr), .ref dL, .int (nI en), .int (nI ram), .int (nI mz), .ref dM, .int (nI hp), .int (nI cn), .ref dP, .ref dS, .int (nI fk), .int fp, .int (nI ka), .int (nI kn), .int (nI sv), .ref dK])), (dF, .inl (cI, 3000, .inl df))])) (va_Ql (fun (r : Int64) (u : Unit) => r = lN (sumW fb ((len + 3) / 4) % 4294967296)) (fun (u : Unit) => wPost dC dI (va_A [(oD, .inr (4, [.int (nI th), .ref dF, .int (nI len), .int (nI ha), .ref dH, .int (nI sr), .ref dL, .int (nI en), .int (nI ram), .int (nI mz), .ref dM, .int (nI hp), .int (nI cn), .ref dP, .ref dS, .int (nI fk), .int fp, .int (nI ka), .int (nI kn), .int (nI sv), .ref dK])), (dF, .inl (cI, 3000, .inl df))] sz) [(oD, .inr (4, [.int (nI th), .ref dF, .int (nI len), .int (nI ha), .ref dH, .int (nI sr), .ref dL, .int (nI en), .int (nI ram), .int (nI mz), .ref dM, .int (nI hp), .int (nI cn), .ref dP, .ref dS, .int (nI fk), .int fp, .int (nI ka), .int (nI kn), .int (nI sv), .ref dK])), (dF, .inl (cI, 3000, .inl df))]) (va_A [(oD, .inr (4, [.int (nI th), .ref dF, .int (nI len), .int (nI ha), .ref dH, .int (nI sr), .ref dL, .int (nI en), .int (nI ram), .int (nI mz), .ref dM, .int (nI hp), .int (nI cn), .ref dP, .ref dS, .int (nI fk), .int fp, .int (nI ka), .int (nI kn), .int (nI sv), .ref dK])), (dF, .inl (cI, 3000, .inl df))] sz)) 0 0 (va_A [(oD, .inr (4, [.int (nI th), .ref dF, .int (nI len), .int (nI ha), .ref dH, .int (nI sr), .ref dL, .int (nI en), .int (nI ram), .int (nI mz), .ref dM, .int (nI hp), .int (nI cn), .ref dP, .ref dS, .int (nI fk), .int fp, .int (nI ka), .int (nI kn), .int (nI sv), .ref dK])), (dF, .inl (cI, 3000, .inl df))] sz) := by
  refine Met.ofW (cc := cX4_sumOf) (maxL := 4) (ret := (some .long)) (by decide) rfl ?_
  intro p e s m args below meth c s₁ B hml hv
  obtain ⟨rfl, hsz, hP, hK, hD0, hN⟩ := hv
  have hx := B.exec
  have hb := B.bytes
  have hr := B.returns
  have hts := atoms_spec (ws := wsX4_sumOf) B.pre
  have hown : s.vm.findClass RX4 = some m.cls := findClass_of_methodNamed B.named
  have hlocks := B.notSynchronized
  subst hsz
  have hD := hD0.self (sz := s.heap.size)
  generalize hAe : va_A [(oD, .inr (4, [.int (nI th), .ref dF, .int (nI len), .int (nI ha), .ref dH, .int (nI sr), .ref dL, .int (nI en), .int (nI ram), .int (nI mz), .ref dM, .int (nI hp), .int (nI cn), .ref dP, .ref dS, .int (nI fk), .int fp, .int (nI ka), .int (nI kn), .int (nI sv), .ref dK])), (dF, .inl (cI, 3000, .inl df))] s.heap.size = A at hD ⊢
  have hA : ∀ q : Nat, s.heap.size ≤ q → A q := fun q h => by rw [← hAe]; exact Or.inr h
  have hS : va_S A s.heap s.heap [] := va_S.rf
  have hP : va_P (dC, dI) vwCl [(oD, .inr (4, [.int (nI th), .ref dF, .int (nI len), .int (nI ha), .ref dH, .int (nI sr), .ref dL, .int (nI en), .int (nI ram), .int (nI mz), .ref dM, .int (nI hp), .int (nI cn), .ref dP, .ref dS, .int (nI fk), .int fp, .int (nI ka), .int (nI kn), .int (nI sv), .ref dK])), (dF, .inl (cI, 3000, .inl df))] s.heap := hP
  have hl := lv_entry ([.ref oD]) (n := 4) (Nat.le_of_ble_eq_true rfl)
  rw [lg_entry_eq]
  generalize (lg_sl ([.ref oD]) ++ List.replicate (4 - (lg_sl ([.ref oD])).length) Slot.unset).toArray = ls at hl ⊢
  have hl : lv_has ls 4 [(0, .ref oD)] := hl
  refine lv_lconst (v := lN 0) hx hb dX4_sumOf_0 (by decide) ?_
  refine lv_lstore_n (lv' := [(1, .long (lN 0)), (0, .ref oD)]) hx hb dX4_sumOf_1 rfl hl (by decide) rfl (fun ls hl => ?_)
  refine lv_iconst (v := nI 0) hx hb dX4_sumOf_2 (by decide) ?_
  refine lv_istore_n (lv' := [(3, .int (nI 0)), (1, .long (lN 0)), (0, .ref oD)]) hx hb dX4_sumOf_3 rfl hl (by decide) rfl (fun ls hl => ?_)
  refine wx_loop (σ := Nat) (fun xq9 => len + 4 - 4 * xq9) (fun xq9 H locs ls => (4 * xq9 < len + 4) ∧ va_P (dC, dI) vwCl [(oD, .inr (4, [.int (nI th), .ref dF, .int (nI len), .int (nI ha), .ref dH, .int (nI sr), .ref dL, .int (nI en), .int (nI ram), .int (nI mz), .ref dM, .int (nI hp), .int (nI cn), .ref dP, .ref dS, .int (nI fk), .int fp, .int (nI ka), .int (nI kn), .int (nI sv), .ref dK])), (dF, .inl (cI, 3000, .inl df))] H ∧ va_D A [(oD, .inr (4, [.int (nI th), .ref dF, .int (nI len), .int (nI ha), .ref dH, .int (nI sr), .ref dL, .int (nI en), .int (nI ram), .int (nI mz), .ref dM, .int (nI hp), .int (nI cn), .ref dP, .ref dS, .int (nI fk), .int fp, .int (nI ka), .int (nI kn), .int (nI sv), .ref dK])), (dF, .inl (cI, 3000, .inl df))] ∧ va_S A s.heap H locs ∧ lv_has ls 4 [(0, .ref oD), (1, .long (lN (sumW fb xq9))), (3, .int (nI (4 * xq9)))]) ?_ (0) _ _ _ ⟨by omega, hP.sub [0, 1] rfl, hD.sub [0, 1] (by decide) rfl, hS, lv_sub hl [2, 1, 0] rfl⟩
  rintro i H locs ls ⟨hi, hP, hD, hS, hl⟩ ih
  have hi : 4 * i < len + 4 := hi
  have hP : va_P (dC, dI) vwCl [(oD, .inr (4, [.int (nI th), .ref dF, .int (nI len), .int (nI ha), .ref dH, .int (nI sr), .ref dL, .int (nI en), .int (nI ram), .int (nI mz), .ref dM, .int (nI hp), .int (nI cn), .ref dP, .ref dS, .int (nI fk), .int fp, .int (nI ka), .int (nI kn), .int (nI sv), .ref dK])), (dF, .inl (cI, 3000, .inl df))] H := hP
  have hD : va_D A [(oD, .inr (4, [.int (nI th), .ref dF, .int (nI len), .int (nI ha), .ref dH, .int (nI sr), .ref dL, .int (nI en), .int (nI ram), .int (nI mz), .ref dM, .int (nI hp), .int (nI cn), .ref dP, .ref dS, .int (nI fk), .int fp, .int (nI ka), .int (nI kn), .int (nI sv), .ref dK])), (dF, .inl (cI, 3000, .inl df))] := hD
  have hl : lv_has ls 4 [(0, .ref oD), (1, .long (lN (sumW fb i))), (3, .int (nI (4 * i)))] := hl
  refine lv_iload_n hx hb dX4_sumOf_4 rfl (lv_at hl 2 rfl) ?_
  refine lv_aload_n hx hb dX4_sumOf_5 rfl (lv_at hl 0 rfl) ?_
  refine va_get (D := (dC, dI)) (ci := 4) (v := .int (nI len)) (C := RX4) (T := TX4) (N := 21) hx hb hts (by decide +kernel) hown hK hP 0 rfl rfl 2 (by decide) (hts (.fieldLink RX4 36 "GlulxHeadsModel" "size" "I") (by decide +kernel)) (fun _ h9 => h9) rfl dX4_sumOf_6 ?_
  refine wx_icmp_ge (tgt := 36) hx hb dX4_sumOf_9 (by decide) (by omega) (by omega) (fun c_1 => ?_) (fun c_1 => ?_)
  · skip
    refine lv_lload_n hx hb dX4_sumOf_36 rfl (lv_at hl 1 rfl) ?_
    refine lv_ldc2 (v := lN 4294967295) hx hb hown (hts (.constantLong RX4 68 (4294967295)) (by decide +kernel)) dX4_sumOf_37 ?_
    refine lv_land hx hb dX4_sumOf_40 ?_
    have hP9 := hP.sub (ws' := [(oD, .inr (4, [.int (nI th), .ref dF, .int (nI len), .int (nI ha), .ref dH, .int (nI sr), .ref dL, .int (nI en), .int (nI ram), .int (nI mz), .ref dM, .int (nI hp), .int (nI cn), .ref dP, .ref dS, .int (nI fk), .int fp, .int (nI ka), .int (nI kn), .int (nI sv), .ref dK])), (dF, .inl (cI, 3000, .inl df))]) [0, 1] rfl
    have hD9 := hD.sub (ws' := [(oD, .inr (4, [.int (nI th), .ref dF, .int (nI len), .int (nI ha), .ref dH, .int (nI sr), .ref dL, .int (nI en), .int (nI ram), .int (nI mz), .ref dM, .int (nI hp), .int (nI cn), .ref dP, .ref dS, .int (nI fk), .int fp, .int (nI ka), .int (nI kn), .int (nI sv), .ref dK])), (dF, .inl (cI, 3000, .inl df))]) [0, 1] (by decide) rfl
    exact W.lret (v := (lN (sumW fb i)) &&& (lN 4294967295)) hx hb hr (fun t ht hW => ⟨⟨((lN (sumW fb i)) &&& (lN 4294967295)), (), rfl, (by rw [lb_mask, show (len + 3) / 4 = i by omega]), by rw [ht]; exact hP9, hD9⟩, hS.F ht⟩) hS.2.2 dX4_sumOf_41
  · skip
    refine lv_lload_n hx hb dX4_sumOf_12 rfl (lv_at hl 1 rfl) ?_
    refine lv_iload_n hx hb dX4_sumOf_13 rfl (lv_at hl 2 rfl) ?_
    refine lv_bipush (v := nI 32) hx hb dX4_sumOf_14 (by decide) ?_
    refine wx_icmp_ne (tgt := 23) hx hb dX4_sumOf_16 (by decide) (by omega) (by omega) (fun c_2 => ?_) (fun c_2 => ?_)
    · skip
      refine lv_aload_n hx hb dX4_sumOf_23 rfl (lv_at hl 0 rfl) ?_
      refine lv_iload_n hx hb dX4_sumOf_24 rfl (lv_at hl 2 rfl) ?_
      have hPc := hP.sub (ws' := [(oD, .inr (4, [.int (nI th), .ref dF, .int (nI len), .int (nI ha), .ref dH, .int (nI sr), .ref dL, .int (nI en), .int (nI ram), .int (nI mz), .ref dM, .int (nI hp), .int (nI cn), .ref dP, .ref dS, .int (nI fk), .int fp, .int (nI ka), .int (nI kn), .int (nI sv), .ref dK])), (dF, .inl (cI, 3000, .inl df))]) [0, 1] rfl
      have hDc := hD.sub (ws' := [(oD, .inr (4, [.int (nI th), .ref dF, .int (nI len), .int (nI ha), .ref dH, .int (nI sr), .ref dL, .int (nI en), .int (nI ram), .int (nI mz), .ref dM, .int (nI hp), .int (nI cn), .ref dP, .ref dS, .int (nI fk), .int fp, .int (nI ka), .int (nI kn), .int (nI sv), .ref dK])), (dF, .inl (cI, 3000, .inl df))]) [0, 1] (by decide) rfl
      have hFc := va_free (wc := [(oD, .inr (4, [.int (nI th), .ref dF, .int (nI len), .int (nI ha), .ref dH, .int (nI sr), .ref dL, .int (nI en), .int (nI ram), .int (nI mz), .ref dM, .int (nI hp), .int (nI cn), .ref dP, .ref dS, .int (nI fk), .int fp, .int (nI ka), .int (nI kn), .int (nI sv), .ref dK])), (dF, .inl (cI, 3000, .inl df))]) hD hS hA [0, 1] rfl
      refine va_calll (va_runV (As := [.int (nI (4 * i))]) (rest := [.long (lN (sumW fb i))]) ⟨hx, hb, hml, hown, hts⟩ (c_X4_wordAt l dC dI cB cI cJ H.size oD th dF len ha dH sr dL en ram mz dM hp cn dP dS fk fp ka kn sv dK df fb (4 * i) (by omega) hf hfb hz (by omega)) (cwV 1 hts gX4_sumOf_X4_wordAt rfl rfl rfl (by decide +kernel) ⟨Nat.le_of_ble_eq_true rfl, Nat.le_of_ble_eq_true rfl⟩) ⟨wBlind, va_recv hK hPc (ci := 4) (q0 := 0) rfl rfl, wGo hK hPc hDc hN⟩ rfl rfl hl.1 rfl (lv_room (Nat.le_of_ble_eq_true rfl)) dX4_sumOf_25 ⟨show 0 ≤ 0 by decide, show 0 ≤ 0 by decide⟩) hS (fun q _ h => hFc q h) hFc (fun r_4 u t H1 locs ht hvm w_5 hB hz1 hk1 hS => ?_)
      clear u
      obtain ⟨hP1, hD1⟩ := hB
      rw [ht] at hP1
      try dsimp only at w_5
      obtain ⟨hP, hD⟩ := va_join (wr := []) (w1 := [(oD, .inr (4, [.int (nI th), .ref dF, .int (nI len), .int (nI ha), .ref dH, .int (nI sr), .ref dL, .int (nI en), .int (nI ram), .int (nI mz), .ref dM, .int (nI hp), .int (nI cn), .ref dP, .ref dS, .int (nI fk), .int fp, .int (nI ka), .int (nI kn), .int (nI sv), .ref dK])), (dF, .inl (cI, 3000, .inl df))]) hP hD [0, 1] [] rfl rfl (by decide) (by decide) hk1 hFc hP1 hD1
      clear hPc hDc hFc hP1 hD1 hz1 hk1 hvm
      generalize H1 = H at hP hS ⊢
      have hP : va_P (dC, dI) vwCl [(oD, .inr (4, [.int (nI th), .ref dF, .int (nI len), .int (nI ha), .ref dH, .int (nI sr), .ref dL, .int (nI en), .int (nI ram), .int (nI mz), .ref dM, .int (nI hp), .int (nI cn), .ref dP, .ref dS, .int (nI fk), .int fp, .int (nI ka), .int (nI kn), .int (nI sv), .ref dK])), (dF, .inl (cI, 3000, .inl df))] H := hP
      have hD : va_D A [(oD, .inr (4, [.int (nI th), .ref dF, .int (nI len), .int (nI ha), .ref dH, .int (nI sr), .ref dL, .int (nI en), .int (nI ram), .int (nI mz), .ref dM, .int (nI hp), .int (nI cn), .ref dP, .ref dS, .int (nI fk), .int fp, .int (nI ka), .int (nI kn), .int (nI sv), .ref dK])), (dF, .inl (cI, 3000, .inl df))] := hD
      subst w_5
      refine lv_ladd hx hb dX4_sumOf_28 ?_
      refine wx_topl (lN_add _ _) ?_
      refine wx_topl (congrArg lN (show (sumW fb i) + (fw fb (4 * i)) = sumW fb (i + 1) from (sumW_s (by omega)).symm)) ?_
      refine lv_lstore_n (lv' := [(1, .long (lN (sumW fb (i + 1)))), (0, .ref oD), (3, .int (nI (4 * i)))]) hx hb dX4_sumOf_29 rfl hl (by decide) rfl (fun ls hl => ?_)
      refine lv_iinc (v := nI (4 * i + 4)) (lv' := [(3, .int (nI (4 * i + 4))), (1, .long (lN (sumW fb (i + 1)))), (0, .ref oD)]) hx hb dX4_sumOf_30 hl (k := 2) rfl (by rw [show Int32.ofInt 4 = nI 4 by decide]; exact nI_add _ _) (by decide) rfl (fun ls hl => ?_)
      refine lv_goto (tgt := 4) hx hb dX4_sumOf_33 (by decide) ?_
      exact ih ((i + 1)) _ _ _ (by omega) ⟨by omega, hP.sub [0, 1] rfl, hD.sub [0, 1] (by decide) rfl, hS, lv_sub hl [2, 1, 0] rfl⟩
    · skip
      refine lv_lconst (v := lN 0) hx hb dX4_sumOf_19 (by decide) ?_
      refine lv_goto (tgt := 28) hx hb dX4_sumOf_20 (by decide) ?_
      refine lv_ladd hx hb dX4_sumOf_28 ?_
      refine wx_topl (lN_add _ _) ?_
      refine wx_topl (congrArg lN (show (sumW fb i) + 0 = sumW fb (i + 1) from (sumW_t (by omega)).symm)) ?_
      refine lv_lstore_n (lv' := [(1, .long (lN (sumW fb (i + 1)))), (0, .ref oD), (3, .int (nI (4 * i)))]) hx hb dX4_sumOf_29 rfl hl (by decide) rfl (fun ls hl => ?_)
      refine lv_iinc (v := nI (4 * i + 4)) (lv' := [(3, .int (nI (4 * i + 4))), (1, .long (lN (sumW fb (i + 1)))), (0, .ref oD)]) hx hb dX4_sumOf_30 hl (k := 2) rfl (by rw [show Int32.ofInt 4 = nI 4 by decide]; exact nI_add _ _) (by decide) rfl (fun ls hl => ?_)
      refine lv_goto (tgt := 4) hx hb dX4_sumOf_33 (by decide) ?_
      exact ih ((i + 1)) _ _ _ (by omega) ⟨by omega, hP.sub [0, 1] rfl, hD.sub [0, 1] (by decide) rfl, hS, lv_sub hl [2, 1, 0] rfl⟩
set_option maxHeartbeats 4000000 in
set_option maxRecDepth 100000 in
theorem c_X4_sum (l : Launch) (dC : Nat → ClassId) (dI : Nat → Nat → Nat) (cB cI cJ : ClassId) (sz : Nat) (oD : Nat) (th : Nat) (dF : Nat) (len : Nat) (ha : Nat) (dH : Nat) (sr : Nat) (dL : Nat) (en : Nat) (ram : Nat) (mz : Nat) (dM : Nat) (hp : Nat) (cn : Nat) (dP : Nat) (dS : Nat) (fk : Nat) (fp : Int32) (ka : Nat) (kn : Nat) (sv : Nat) (dK : Nat) (df : Nat → Int32) (fb : Nat → Nat) (hlen : len ≤ 3000) (hf : gOk df len fb) (hfb : ∀ j, fb j < 256) (hz : ∀ j, len ≤ j → fb j = 0) : Met l yX4_sum wsX4_sum ({ frames := 2, cells := 0, slots := 0, locals := 47 }) (va_Pc [.ref oD] (wPre dC dI cB cI cJ sz [(oD, .inr (4, [.int (nI th), .ref dF, .int (nI len), .int (nI ha), .ref dH, .int (nI sr), .ref dL, .int (nI en), .int (nI ram), .int (nI mz), .ref dM, .int (nI hp), .int (nI cn), .ref dP, .ref dS, .int (nI fk), .int fp, .int (nI ka), .int (nI kn), .int (nI sv), .ref dK])), (dF, .inl (cI, 3000, .inl df))])) (va_Ql (fun (r : Int64) (u : Unit) => r = sumR fb len) (fun (u : Unit) => wPost dC dI (va_A [(oD, .inr (4, [.int (nI th), .ref dF, .int (nI len), .int (nI ha), .ref dH, .int (nI sr), .ref dL, .int (nI en), .int (nI ram), .int (nI mz), .ref dM, .int (nI hp), .int (nI cn), .ref dP, .ref dS, .int (nI fk), .int fp, .int (nI ka), .int (nI kn), .int (nI sv), .ref dK])), (dF, .inl (cI, 3000, .inl df))] sz) [(oD, .inr (4, [.int (nI 0), .ref dF, .int (nI len), .int (nI ha), .ref dH, .int (nI sr), .ref dL, .int (nI en), .int (nI ram), .int (nI mz), .ref dM, .int (nI hp), .int (nI cn), .ref dP, .ref dS, .int (nI fk), .int fp, .int (nI ka), .int (nI kn), .int (nI sv), .ref dK])), (dF, .inl (cI, 3000, .inl df))]) (va_A [(oD, .inr (4, [.int (nI th), .ref dF, .int (nI len), .int (nI ha), .ref dH, .int (nI sr), .ref dL, .int (nI en), .int (nI ram), .int (nI mz), .ref dM, .int (nI hp), .int (nI cn), .ref dP, .ref dS, .int (nI fk), .int fp, .int (nI ka), .int (nI kn), .int (nI sv), .ref dK])), (dF, .inl (cI, 3000, .inl df))] sz)) 0 0 (va_A [(oD, .inr (4, [.int (nI th), .ref dF, .int (nI len), .int (nI ha), .ref dH, .int (nI sr), .ref dL, .int (nI en), .int (nI ram), .int (nI mz), .ref dM, .int (nI hp), .int (nI cn), .ref dP, .ref dS, .int (nI fk), .int fp, .int (nI ka), .int (nI kn), .int (nI sv), .ref dK])), (dF, .inl (cI, 3000, .inl df))] sz) := by
  refine Met.ofW (cc := cX4_sum) (maxL := 1) (ret := (some .long)) (by decide) rfl ?_
  intro p e s m args below meth c s₁ B hml hv
  obtain ⟨rfl, hsz, hP, hK, hD0, hN⟩ := hv
  have hx := B.exec
  have hb := B.bytes
  have hr := B.returns
  have hts := atoms_spec (ws := wsX4_sum) B.pre
  have hown : s.vm.findClass RX4 = some m.cls := findClass_of_methodNamed B.named
  have hlocks := B.notSynchronized
  subst hsz
  have hD := hD0.self (sz := s.heap.size)
  generalize hAe : va_A [(oD, .inr (4, [.int (nI th), .ref dF, .int (nI len), .int (nI ha), .ref dH, .int (nI sr), .ref dL, .int (nI en), .int (nI ram), .int (nI mz), .ref dM, .int (nI hp), .int (nI cn), .ref dP, .ref dS, .int (nI fk), .int fp, .int (nI ka), .int (nI kn), .int (nI sv), .ref dK])), (dF, .inl (cI, 3000, .inl df))] s.heap.size = A at hD ⊢
  have hA : ∀ q : Nat, s.heap.size ≤ q → A q := fun q h => by rw [← hAe]; exact Or.inr h
  have hS : va_S A s.heap s.heap [] := va_S.rf
  have hP : va_P (dC, dI) vwCl [(oD, .inr (4, [.int (nI th), .ref dF, .int (nI len), .int (nI ha), .ref dH, .int (nI sr), .ref dL, .int (nI en), .int (nI ram), .int (nI mz), .ref dM, .int (nI hp), .int (nI cn), .ref dP, .ref dS, .int (nI fk), .int fp, .int (nI ka), .int (nI kn), .int (nI sv), .ref dK])), (dF, .inl (cI, 3000, .inl df))] s.heap := hP
  have hl := lv_entry ([.ref oD]) (n := 1) (Nat.le_of_ble_eq_true rfl)
  rw [lg_entry_eq]
  generalize (lg_sl ([.ref oD]) ++ List.replicate (1 - (lg_sl ([.ref oD])).length) Slot.unset).toArray = ls at hl ⊢
  have hl : lv_has ls 1 [(0, .ref oD)] := hl
  refine lv_aload_n hx hb dX4_sum_0 rfl (lv_at hl 0 rfl) ?_
  refine lv_iconst (v := nI 0) hx hb dX4_sum_1 (by decide) ?_
  refine va_put (D := (dC, dI)) (ci := 4) (v := .int (nI 0)) (ty := .int) (C := RX4) (T := TX4) (N := 21) hx hb hts (by decide +kernel) tyX4 tyX4_ok nmX4 hown hK hP hD hS 0 rfl rfl 0 (by decide) (hts (.fieldLink RX4 32 "GlulxHeadsModel" "thrown" "I") (by decide +kernel)) (fun _ h9 => h9) rfl (by decide +kernel) rfl rfl (Nat.le_of_ble_eq_true rfl) dX4_sum_2 (fun H locs hP hD hS => ?_)
  have hP : va_P (dC, dI) vwCl [(oD, .inr (4, [.int (nI 0), .ref dF, .int (nI len), .int (nI ha), .ref dH, .int (nI sr), .ref dL, .int (nI en), .int (nI ram), .int (nI mz), .ref dM, .int (nI hp), .int (nI cn), .ref dP, .ref dS, .int (nI fk), .int fp, .int (nI ka), .int (nI kn), .int (nI sv), .ref dK])), (dF, .inl (cI, 3000, .inl df))] H := hP
  have hD : va_D A [(oD, .inr (4, [.int (nI 0), .ref dF, .int (nI len), .int (nI ha), .ref dH, .int (nI sr), .ref dL, .int (nI en), .int (nI ram), .int (nI mz), .ref dM, .int (nI hp), .int (nI cn), .ref dP, .ref dS, .int (nI fk), .int fp, .int (nI ka), .int (nI kn), .int (nI sv), .ref dK])), (dF, .inl (cI, 3000, .inl df))] := hD
  refine lv_aload_n hx hb dX4_sum_5 rfl (lv_at hl 0 rfl) ?_
  refine va_get (D := (dC, dI)) (ci := 4) (v := .int (nI len)) (C := RX4) (T := TX4) (N := 21) hx hb hts (by decide +kernel) hown hK hP 0 rfl rfl 2 (by decide) (hts (.fieldLink RX4 36 "GlulxHeadsModel" "size" "I") (by decide +kernel)) (fun _ h9 => h9) rfl dX4_sum_6 ?_
  refine lv_bipush (v := nI 36) hx hb dX4_sum_9 (by decide) ?_
  refine wx_icmp_ge (tgt := 20) hx hb dX4_sum_11 (by decide) (by omega) (by omega) (fun c_1 => ?_) (fun c_1 => ?_)
  · skip
    refine lv_aload_n hx hb dX4_sum_20 rfl (lv_at hl 0 rfl) ?_
    have hPc := hP.sub (ws' := [(oD, .inr (4, [.int (nI 0), .ref dF, .int (nI len), .int (nI ha), .ref dH, .int (nI sr), .ref dL, .int (nI en), .int (nI ram), .int (nI mz), .ref dM, .int (nI hp), .int (nI cn), .ref dP, .ref dS, .int (nI fk), .int fp, .int (nI ka), .int (nI kn), .int (nI sv), .ref dK])), (dF, .inl (cI, 3000, .inl df))]) [0, 1] rfl
    have hDc := hD.sub (ws' := [(oD, .inr (4, [.int (nI 0), .ref dF, .int (nI len), .int (nI ha), .ref dH, .int (nI sr), .ref dL, .int (nI en), .int (nI ram), .int (nI mz), .ref dM, .int (nI hp), .int (nI cn), .ref dP, .ref dS, .int (nI fk), .int fp, .int (nI ka), .int (nI kn), .int (nI sv), .ref dK])), (dF, .inl (cI, 3000, .inl df))]) [0, 1] (by decide) rfl
    have hFc := va_free (wc := [(oD, .inr (4, [.int (nI 0), .ref dF, .int (nI len), .int (nI ha), .ref dH, .int (nI sr), .ref dL, .int (nI en), .int (nI ram), .int (nI mz), .ref dM, .int (nI hp), .int (nI cn), .ref dP, .ref dS, .int (nI fk), .int fp, .int (nI ka), .int (nI kn), .int (nI sv), .ref dK])), (dF, .inl (cI, 3000, .inl df))]) hD hS hA [0, 1] rfl
    refine va_calll (va_runV (As := []) (rest := []) ⟨hx, hb, hml, hown, hts⟩ (c_X4_sumOf l dC dI cB cI cJ H.size oD 0 dF len ha dH sr dL en ram mz dM hp cn dP dS fk fp ka kn sv dK df fb (by omega) hf hfb hz) (cwV 0 hts gX4_sum_X4_sumOf rfl rfl rfl (by decide +kernel) ⟨Nat.le_of_ble_eq_true rfl, Nat.le_of_ble_eq_true rfl⟩) ⟨wBlind, va_recv hK hPc (ci := 4) (q0 := 0) rfl rfl, wGo hK hPc hDc hN⟩ rfl rfl hl.1 rfl (lv_room (Nat.le_of_ble_eq_true rfl)) dX4_sum_21 ⟨show 0 ≤ 0 by decide, show 0 ≤ 0 by decide⟩) hS (fun q _ h => hFc q h) hFc (fun r_3 u t H1 locs ht hvm w_4 hB hz1 hk1 hS => ?_)
    clear u
    obtain ⟨hP1, hD1⟩ := hB
    rw [ht] at hP1
    try dsimp only at w_4
    obtain ⟨hP, hD⟩ := va_join (wr := []) (w1 := [(oD, .inr (4, [.int (nI 0), .ref dF, .int (nI len), .int (nI ha), .ref dH, .int (nI sr), .ref dL, .int (nI en), .int (nI ram), .int (nI mz), .ref dM, .int (nI hp), .int (nI cn), .ref dP, .ref dS, .int (nI fk), .int fp, .int (nI ka), .int (nI kn), .int (nI sv), .ref dK])), (dF, .inl (cI, 3000, .inl df))]) hP hD [0, 1] [] rfl rfl (by decide) (by decide) hk1 hFc hP1 hD1
    clear hPc hDc hFc hP1 hD1 hz1 hk1 hvm
    generalize H1 = H at hP hS ⊢
    have hP : va_P (dC, dI) vwCl [(oD, .inr (4, [.int (nI 0), .ref dF, .int (nI len), .int (nI ha), .ref dH, .int (nI sr), .ref dL, .int (nI en), .int (nI ram), .int (nI mz), .ref dM, .int (nI hp), .int (nI cn), .ref dP, .ref dS, .int (nI fk), .int fp, .int (nI ka), .int (nI kn), .int (nI sv), .ref dK])), (dF, .inl (cI, 3000, .inl df))] H := hP
    have hD : va_D A [(oD, .inr (4, [.int (nI 0), .ref dF, .int (nI len), .int (nI ha), .ref dH, .int (nI sr), .ref dL, .int (nI en), .int (nI ram), .int (nI mz), .ref dM, .int (nI hp), .int (nI cn), .ref dP, .ref dS, .int (nI fk), .int fp, .int (nI ka), .int (nI kn), .int (nI sv), .ref dK])), (dF, .inl (cI, 3000, .inl df))] := hD
    have hP9 := hP.sub (ws' := [(oD, .inr (4, [.int (nI 0), .ref dF, .int (nI len), .int (nI ha), .ref dH, .int (nI sr), .ref dL, .int (nI en), .int (nI ram), .int (nI mz), .ref dM, .int (nI hp), .int (nI cn), .ref dP, .ref dS, .int (nI fk), .int fp, .int (nI ka), .int (nI kn), .int (nI sv), .ref dK])), (dF, .inl (cI, 3000, .inl df))]) [0, 1] rfl
    have hD9 := hD.sub (ws' := [(oD, .inr (4, [.int (nI 0), .ref dF, .int (nI len), .int (nI ha), .ref dH, .int (nI sr), .ref dL, .int (nI en), .int (nI ram), .int (nI mz), .ref dM, .int (nI hp), .int (nI cn), .ref dP, .ref dS, .int (nI fk), .int fp, .int (nI ka), .int (nI kn), .int (nI sv), .ref dK])), (dF, .inl (cI, 3000, .inl df))]) [0, 1] (by decide) rfl
    exact W.lret (v := r_3) hx hb hr (fun t ht hW => ⟨⟨r_3, (), rfl, (by unfold sumR; rw [if_neg (by omega)]; exact w_4), by rw [ht]; exact hP9, hD9⟩, hS.F ht⟩) hS.2.2 dX4_sum_24
  · skip
    refine lv_ldc2 (v := (-9223372036854775808)) hx hb hown (hts (.constantLong RX4 70 (-9223372036854775808)) (by decide +kernel)) dX4_sum_14 ?_
    refine lv_goto (tgt := 24) hx hb dX4_sum_17 (by decide) ?_
    have hP9 := hP.sub (ws' := [(oD, .inr (4, [.int (nI 0), .ref dF, .int (nI len), .int (nI ha), .ref dH, .int (nI sr), .ref dL, .int (nI en), .int (nI ram), .int (nI mz), .ref dM, .int (nI hp), .int (nI cn), .ref dP, .ref dS, .int (nI fk), .int fp, .int (nI ka), .int (nI kn), .int (nI sv), .ref dK])), (dF, .inl (cI, 3000, .inl df))]) [0, 1] rfl
    have hD9 := hD.sub (ws' := [(oD, .inr (4, [.int (nI 0), .ref dF, .int (nI len), .int (nI ha), .ref dH, .int (nI sr), .ref dL, .int (nI en), .int (nI ram), .int (nI mz), .ref dM, .int (nI hp), .int (nI cn), .ref dP, .ref dS, .int (nI fk), .int fp, .int (nI ka), .int (nI kn), .int (nI sv), .ref dK])), (dF, .inl (cI, 3000, .inl df))]) [0, 1] (by decide) rfl
    exact W.lret (v := (-9223372036854775808)) hx hb hr (fun t ht hW => ⟨⟨(-9223372036854775808), (), rfl, (by unfold sumR; rw [if_pos (by omega)]), by rw [ht]; exact hP9, hD9⟩, hS.F ht⟩) hS.2.2 dX4_sum_24
set_option maxHeartbeats 4000000 in
set_option maxRecDepth 100000 in
theorem c_X4_load_X (l : Launch) (dC : Nat → ClassId) (dI : Nat → Nat → Nat) (cB cI cJ : ClassId) (sz : Nat) (oD : Nat) (th : Nat) (dF : Nat) (len : Nat) (ha : Nat) (dH : Nat) (sr : Nat) (dL : Nat) (en : Nat) (ram : Nat) (mz : Nat) (dM : Nat) (hp : Nat) (cn : Nat) (dP : Nat) (dS : Nat) (fk : Nat) (fp : Int32) (ka : Nat) (kn : Nat) (sv : Nat) (dK : Nat) (df : Nat → Int32) (fb : Nat → Nat) (hlen : len ≤ 3000) (hf : gOk df len fb) (hfb : ∀ j, fb j < 256) (hz : ∀ j, len ≤ j → fb j = 0) (hv : ¬ verd fb len = 0) : Met l yX4_load wsX4_load ({ frames := 2, cells := 0, slots := 0, locals := 57 }) (va_Pc [.ref oD] (wPre dC dI cB cI cJ sz [(oD, .inr (4, [.int (nI th), .ref dF, .int (nI len), .int (nI ha), .ref dH, .int (nI sr), .ref dL, .int (nI en), .int (nI ram), .int (nI mz), .ref dM, .int (nI hp), .int (nI cn), .ref dP, .ref dS, .int (nI fk), .int fp, .int (nI ka), .int (nI kn), .int (nI sv), .ref dK])), (dF, .inl (cI, 3000, .inl df))])) (va_Qi (fun (r : Int32) (u : Unit) => r = nI (verd fb len)) (fun (u : Unit) => wPost dC dI (va_A [(oD, .inr (4, [.int (nI th), .ref dF, .int (nI len), .int (nI ha), .ref dH, .int (nI sr), .ref dL, .int (nI en), .int (nI ram), .int (nI mz), .ref dM, .int (nI hp), .int (nI cn), .ref dP, .ref dS, .int (nI fk), .int fp, .int (nI ka), .int (nI kn), .int (nI sv), .ref dK])), (dF, .inl (cI, 3000, .inl df))] sz) [(oD, .inr (4, [.int (nI 0), .ref dF, .int (nI len), .int (nI ha), .ref dH, .int (nI sr), .ref dL, .int (nI en), .int (nI ram), .int (nI mz), .ref dM, .int (nI hp), .int (nI cn), .ref dP, .ref dS, .int (nI fk), .int fp, .int (nI ka), .int (nI kn), .int (nI sv), .ref dK])), (dF, .inl (cI, 3000, .inl df))]) (va_A [(oD, .inr (4, [.int (nI th), .ref dF, .int (nI len), .int (nI ha), .ref dH, .int (nI sr), .ref dL, .int (nI en), .int (nI ram), .int (nI mz), .ref dM, .int (nI hp), .int (nI cn), .ref dP, .ref dS, .int (nI fk), .int fp, .int (nI ka), .int (nI kn), .int (nI sv), .ref dK])), (dF, .inl (cI, 3000, .inl df))] sz)) 0 0 (va_A [(oD, .inr (4, [.int (nI th), .ref dF, .int (nI len), .int (nI ha), .ref dH, .int (nI sr), .ref dL, .int (nI en), .int (nI ram), .int (nI mz), .ref dM, .int (nI hp), .int (nI cn), .ref dP, .ref dS, .int (nI fk), .int fp, .int (nI ka), .int (nI kn), .int (nI sv), .ref dK])), (dF, .inl (cI, 3000, .inl df))] sz) := by
  refine Met.ofW (cc := cX4_load) (maxL := 3) (ret := (some .int)) (by decide) rfl ?_
  intro p e s m args below meth c s₁ B hml hv
  obtain ⟨rfl, hsz, hP, hK, hD0, hN⟩ := hv
  have hx := B.exec
  have hb := B.bytes
  have hr := B.returns
  have hts := atoms_spec (ws := wsX4_load) B.pre
  have hown : s.vm.findClass RX4 = some m.cls := findClass_of_methodNamed B.named
  have hlocks := B.notSynchronized
  subst hsz
  have hD := hD0.self (sz := s.heap.size)
  generalize hAe : va_A [(oD, .inr (4, [.int (nI th), .ref dF, .int (nI len), .int (nI ha), .ref dH, .int (nI sr), .ref dL, .int (nI en), .int (nI ram), .int (nI mz), .ref dM, .int (nI hp), .int (nI cn), .ref dP, .ref dS, .int (nI fk), .int fp, .int (nI ka), .int (nI kn), .int (nI sv), .ref dK])), (dF, .inl (cI, 3000, .inl df))] s.heap.size = A at hD ⊢
  have hA : ∀ q : Nat, s.heap.size ≤ q → A q := fun q h => by rw [← hAe]; exact Or.inr h
  have hS : va_S A s.heap s.heap [] := va_S.rf
  have hP : va_P (dC, dI) vwCl [(oD, .inr (4, [.int (nI th), .ref dF, .int (nI len), .int (nI ha), .ref dH, .int (nI sr), .ref dL, .int (nI en), .int (nI ram), .int (nI mz), .ref dM, .int (nI hp), .int (nI cn), .ref dP, .ref dS, .int (nI fk), .int fp, .int (nI ka), .int (nI kn), .int (nI sv), .ref dK])), (dF, .inl (cI, 3000, .inl df))] s.heap := hP
  have hl := lv_entry ([.ref oD]) (n := 3) (Nat.le_of_ble_eq_true rfl)
  rw [lg_entry_eq]
  generalize (lg_sl ([.ref oD]) ++ List.replicate (3 - (lg_sl ([.ref oD])).length) Slot.unset).toArray = ls at hl ⊢
  have hl : lv_has ls 3 [(0, .ref oD)] := hl
  refine lv_aload_n hx hb dX4_load_0 rfl (lv_at hl 0 rfl) ?_
  refine lv_iconst (v := nI 0) hx hb dX4_load_1 (by decide) ?_
  refine va_put (D := (dC, dI)) (ci := 4) (v := .int (nI 0)) (ty := .int) (C := RX4) (T := TX4) (N := 21) hx hb hts (by decide +kernel) tyX4 tyX4_ok nmX4 hown hK hP hD hS 0 rfl rfl 0 (by decide) (hts (.fieldLink RX4 32 "GlulxHeadsModel" "thrown" "I") (by decide +kernel)) (fun _ h9 => h9) rfl (by decide +kernel) rfl rfl (Nat.le_of_ble_eq_true rfl) dX4_load_2 (fun H locs hP hD hS => ?_)
  have hP : va_P (dC, dI) vwCl [(oD, .inr (4, [.int (nI 0), .ref dF, .int (nI len), .int (nI ha), .ref dH, .int (nI sr), .ref dL, .int (nI en), .int (nI ram), .int (nI mz), .ref dM, .int (nI hp), .int (nI cn), .ref dP, .ref dS, .int (nI fk), .int fp, .int (nI ka), .int (nI kn), .int (nI sv), .ref dK])), (dF, .inl (cI, 3000, .inl df))] H := hP
  have hD : va_D A [(oD, .inr (4, [.int (nI 0), .ref dF, .int (nI len), .int (nI ha), .ref dH, .int (nI sr), .ref dL, .int (nI en), .int (nI ram), .int (nI mz), .ref dM, .int (nI hp), .int (nI cn), .ref dP, .ref dS, .int (nI fk), .int fp, .int (nI ka), .int (nI kn), .int (nI sv), .ref dK])), (dF, .inl (cI, 3000, .inl df))] := hD
  refine lv_aload_n hx hb dX4_load_5 rfl (lv_at hl 0 rfl) ?_
  have hPc := hP.sub (ws' := [(oD, .inr (4, [.int (nI 0), .ref dF, .int (nI len), .int (nI ha), .ref dH, .int (nI sr), .ref dL, .int (nI en), .int (nI ram), .int (nI mz), .ref dM, .int (nI hp), .int (nI cn), .ref dP, .ref dS, .int (nI fk), .int fp, .int (nI ka), .int (nI kn), .int (nI sv), .ref dK])), (dF, .inl (cI, 3000, .inl df))]) [0, 1] rfl
  have hDc := hD.sub (ws' := [(oD, .inr (4, [.int (nI 0), .ref dF, .int (nI len), .int (nI ha), .ref dH, .int (nI sr), .ref dL, .int (nI en), .int (nI ram), .int (nI mz), .ref dM, .int (nI hp), .int (nI cn), .ref dP, .ref dS, .int (nI fk), .int fp, .int (nI ka), .int (nI kn), .int (nI sv), .ref dK])), (dF, .inl (cI, 3000, .inl df))]) [0, 1] (by decide) rfl
  have hFc := va_free (wc := [(oD, .inr (4, [.int (nI 0), .ref dF, .int (nI len), .int (nI ha), .ref dH, .int (nI sr), .ref dL, .int (nI en), .int (nI ram), .int (nI mz), .ref dM, .int (nI hp), .int (nI cn), .ref dP, .ref dS, .int (nI fk), .int fp, .int (nI ka), .int (nI kn), .int (nI sv), .ref dK])), (dF, .inl (cI, 3000, .inl df))]) hD hS hA [0, 1] rfl
  refine va_calli (va_runV (As := []) (rest := []) ⟨hx, hb, hml, hown, hts⟩ (c_X4_judge l dC dI cB cI cJ H.size oD 0 dF len ha dH sr dL en ram mz dM hp cn dP dS fk fp ka kn sv dK df fb (by omega) hf hfb hz) (cwV 0 hts gX4_load_X4_judge rfl rfl rfl (by decide +kernel) ⟨Nat.le_of_ble_eq_true rfl, Nat.le_of_ble_eq_true rfl⟩) ⟨wBlind, va_recv hK hPc (ci := 4) (q0 := 0) rfl rfl, wGo hK hPc hDc hN⟩ rfl rfl hl.1 rfl (lv_room (Nat.le_of_ble_eq_true rfl)) dX4_load_6 ⟨show 0 ≤ 0 by decide, show 0 ≤ 0 by decide⟩) hS (fun q _ h => hFc q h) hFc (fun r_2 u t H1 locs ht hvm w_3 hB hz1 hk1 hS => ?_)
  clear u
  obtain ⟨hP1, hD1⟩ := hB
  rw [ht] at hP1
  try dsimp only at w_3
  obtain ⟨hP, hD⟩ := va_join (wr := []) (w1 := [(oD, .inr (4, [.int (nI 0), .ref dF, .int (nI len), .int (nI ha), .ref dH, .int (nI sr), .ref dL, .int (nI en), .int (nI ram), .int (nI mz), .ref dM, .int (nI hp), .int (nI cn), .ref dP, .ref dS, .int (nI fk), .int fp, .int (nI ka), .int (nI kn), .int (nI sv), .ref dK])), (dF, .inl (cI, 3000, .inl df))]) hP hD [0, 1] [] rfl rfl (by decide) (by decide) hk1 hFc hP1 hD1
  clear hPc hDc hFc hP1 hD1 hz1 hk1 hvm
  generalize H1 = H at hP hS ⊢
  have hP : va_P (dC, dI) vwCl [(oD, .inr (4, [.int (nI 0), .ref dF, .int (nI len), .int (nI ha), .ref dH, .int (nI sr), .ref dL, .int (nI en), .int (nI ram), .int (nI mz), .ref dM, .int (nI hp), .int (nI cn), .ref dP, .ref dS, .int (nI fk), .int fp, .int (nI ka), .int (nI kn), .int (nI sv), .ref dK])), (dF, .inl (cI, 3000, .inl df))] H := hP
  have hD : va_D A [(oD, .inr (4, [.int (nI 0), .ref dF, .int (nI len), .int (nI ha), .ref dH, .int (nI sr), .ref dL, .int (nI en), .int (nI ram), .int (nI mz), .ref dM, .int (nI hp), .int (nI cn), .ref dP, .ref dS, .int (nI fk), .int fp, .int (nI ka), .int (nI kn), .int (nI sv), .ref dK])), (dF, .inl (cI, 3000, .inl df))] := hD
  subst w_3
  have hvl := verd_lt fb len
  refine lv_istore_n (lv' := [(1, .int (nI (verd fb len))), (0, .ref oD)]) hx hb dX4_load_9 rfl hl (by decide) rfl (fun ls hl => ?_)
  refine lv_iload_n hx hb dX4_load_10 rfl (lv_at hl 0 rfl) ?_
  refine wx_if_eq (tgt := 16) hx hb dX4_load_11 (by decide) (by omega) (fun c_4 => absurd c_4 (by omega)) (fun c_4 => ?_)
  refine lv_iload_n hx hb dX4_load_14 rfl (lv_at hl 0 rfl) ?_
  have hP9 := hP.sub (ws' := [(oD, .inr (4, [.int (nI 0), .ref dF, .int (nI len), .int (nI ha), .ref dH, .int (nI sr), .ref dL, .int (nI en), .int (nI ram), .int (nI mz), .ref dM, .int (nI hp), .int (nI cn), .ref dP, .ref dS, .int (nI fk), .int fp, .int (nI ka), .int (nI kn), .int (nI sv), .ref dK])), (dF, .inl (cI, 3000, .inl df))]) [0, 1] rfl
  have hD9 := hD.sub (ws' := [(oD, .inr (4, [.int (nI 0), .ref dF, .int (nI len), .int (nI ha), .ref dH, .int (nI sr), .ref dL, .int (nI en), .int (nI ram), .int (nI mz), .ref dM, .int (nI hp), .int (nI cn), .ref dP, .ref dS, .int (nI fk), .int fp, .int (nI ka), .int (nI kn), .int (nI sv), .ref dK])), (dF, .inl (cI, 3000, .inl df))]) [0, 1] (by decide) rfl
  exact W.iret (v := nI (verd fb len)) hx hb hr (fun t ht hW => ⟨⟨(nI (verd fb len)), (), rfl, rfl, by rw [ht]; exact hP9, hD9⟩, hS.F ht⟩) hS.2.2 dX4_load_15
set_option maxHeartbeats 4000000 in
set_option maxRecDepth 100000 in
theorem c_X4_load_0 (l : Launch) (dC : Nat → ClassId) (dI : Nat → Nat → Nat) (cB cI cJ : ClassId) (sz : Nat) (oD : Nat) (th : Nat) (dF : Nat) (len : Nat) (ha : Nat) (dH : Nat) (sr : Nat) (dL : Nat) (en : Nat) (ram : Nat) (mz : Nat) (dM : Nat) (hp : Nat) (cn : Nat) (dP : Nat) (dS : Nat) (fk : Nat) (fp : Int32) (ka : Nat) (kn : Nat) (sv : Nat) (dK : Nat) (df : Nat → Int32) (dh : Nat → Int64) (dl : Nat → Int32) (dm : Nat → Int32) (fb : Nat → Nat) (hlen : len ≤ 3000) (hf : gOk df len fb) (hfb : ∀ j, fb j < 256) (hz : ∀ j, len ≤ j → fb j = 0) (hv : verd fb len = 0) : Met l yX4_load wsX4_load ({ frames := 2, cells := 0, slots := 0, locals := 57 }) (va_Pc [.ref oD] (wPre dC dI cB cI cJ sz [(oD, .inr (4, [.int (nI th), .ref dF, .int (nI len), .int (nI ha), .ref dH, .int (nI sr), .ref dL, .int (nI en), .int (nI ram), .int (nI mz), .ref dM, .int (nI hp), .int (nI cn), .ref dP, .ref dS, .int (nI fk), .int fp, .int (nI ka), .int (nI kn), .int (nI sv), .ref dK])), (dF, .inl (cI, 3000, .inl df)), (dH, .inl (cJ, 9, .inr (.inl dh))), (dL, .inl (cI, 4096, .inl dl)), (dM, .inl (cI, 8192, .inl dm))])) (va_Qi (fun (r : Int32) (u : (Nat → Int64) × (Nat → Int32) × (Nat → Int32) × Nat) => r = nI (verd fb len) ∧ (∀ k, k < 9 → u.1 k = lN (fw fb (4 * k))) ∧ u.2.2.2 = (if sumW fb ((len + 3) / 4) % 4294967296 = fw fb 32 then 1 else 0) ∧ gOk u.2.1 (fw fb 16) fb ∧ gOk u.2.2.1 (fw fb 16) fb) (fun (u : (Nat → Int64) × (Nat → Int32) × (Nat → Int32) × Nat) => wPost dC dI (va_A [(oD, .inr (4, [.int (nI th), .ref dF, .int (nI len), .int (nI ha), .ref dH, .int (nI sr), .ref dL, .int (nI en), .int (nI ram), .int (nI mz), .ref dM, .int (nI hp), .int (nI cn), .ref dP, .ref dS, .int (nI fk), .int fp, .int (nI ka), .int (nI kn), .int (nI sv), .ref dK])), (dF, .inl (cI, 3000, .inl df)), (dH, .inl (cJ, 9, .inr (.inl dh))), (dL, .inl (cI, 4096, .inl dl)), (dM, .inl (cI, 8192, .inl dm))] sz) [(oD, .inr (4, [.int (nI 0), .ref dF, .int (nI len), .int (nI 1), .ref dH, .int (nI u.2.2.2), .ref dL, .int (nI (fw fb 16)), .int (nI (fw fb 8)), .int (nI (fw fb 16)), .ref dM, .int (nI 0), .int (nI 0), .ref dP, .ref dS, .int (nI 0), .int (nI 0), .int (nI 0), .int (nI 0), .int (nI 0), .ref dK])), (dF, .inl (cI, 3000, .inl df)), (dH, .inl (cJ, 9, .inr (.inl u.1))), (dL, .inl (cI, 4096, .inl u.2.1)), (dM, .inl (cI, 8192, .inl u.2.2.1))]) (va_A [(oD, .inr (4, [.int (nI th), .ref dF, .int (nI len), .int (nI ha), .ref dH, .int (nI sr), .ref dL, .int (nI en), .int (nI ram), .int (nI mz), .ref dM, .int (nI hp), .int (nI cn), .ref dP, .ref dS, .int (nI fk), .int fp, .int (nI ka), .int (nI kn), .int (nI sv), .ref dK])), (dF, .inl (cI, 3000, .inl df)), (dH, .inl (cJ, 9, .inr (.inl dh))), (dL, .inl (cI, 4096, .inl dl)), (dM, .inl (cI, 8192, .inl dm))] sz)) 0 0 (va_A [(oD, .inr (4, [.int (nI th), .ref dF, .int (nI len), .int (nI ha), .ref dH, .int (nI sr), .ref dL, .int (nI en), .int (nI ram), .int (nI mz), .ref dM, .int (nI hp), .int (nI cn), .ref dP, .ref dS, .int (nI fk), .int fp, .int (nI ka), .int (nI kn), .int (nI sv), .ref dK])), (dF, .inl (cI, 3000, .inl df)), (dH, .inl (cJ, 9, .inr (.inl dh))), (dL, .inl (cI, 4096, .inl dl)), (dM, .inl (cI, 8192, .inl dm))] sz) := by
  refine Met.ofW (cc := cX4_load) (maxL := 3) (ret := (some .int)) (by decide) rfl ?_
  intro p e s m args below meth c s₁ B hml hv
  obtain ⟨rfl, hsz, hP, hK, hD0, hN⟩ := hv
  have hx := B.exec
  have hb := B.bytes
  have hr := B.returns
  have hts := atoms_spec (ws := wsX4_load) B.pre
  have hown : s.vm.findClass RX4 = some m.cls := findClass_of_methodNamed B.named
  have hlocks := B.notSynchronized
  subst hsz
  have hD := hD0.self (sz := s.heap.size)
  generalize hAe : va_A [(oD, .inr (4, [.int (nI th), .ref dF, .int (nI len), .int (nI ha), .ref dH, .int (nI sr), .ref dL, .int (nI en), .int (nI ram), .int (nI mz), .ref dM, .int (nI hp), .int (nI cn), .ref dP, .ref dS, .int (nI fk), .int fp, .int (nI ka), .int (nI kn), .int (nI sv), .ref dK])), (dF, .inl (cI, 3000, .inl df)), (dH, .inl (cJ, 9, .inr (.inl dh))), (dL, .inl (cI, 4096, .inl dl)), (dM, .inl (cI, 8192, .inl dm))] s.heap.size = A at hD ⊢
  have hA : ∀ q : Nat, s.heap.size ≤ q → A q := fun q h => by rw [← hAe]; exact Or.inr h
  have hS : va_S A s.heap s.heap [] := va_S.rf
  have hP : va_P (dC, dI) vwCl [(oD, .inr (4, [.int (nI th), .ref dF, .int (nI len), .int (nI ha), .ref dH, .int (nI sr), .ref dL, .int (nI en), .int (nI ram), .int (nI mz), .ref dM, .int (nI hp), .int (nI cn), .ref dP, .ref dS, .int (nI fk), .int fp, .int (nI ka), .int (nI kn), .int (nI sv), .ref dK])), (dF, .inl (cI, 3000, .inl df)), (dH, .inl (cJ, 9, .inr (.inl dh))), (dL, .inl (cI, 4096, .inl dl)), (dM, .inl (cI, 8192, .inl dm))] s.heap := hP
  have hl := lv_entry ([.ref oD]) (n := 3) (Nat.le_of_ble_eq_true rfl)
  rw [lg_entry_eq]
  generalize (lg_sl ([.ref oD]) ++ List.replicate (3 - (lg_sl ([.ref oD])).length) Slot.unset).toArray = ls at hl ⊢
  have hl : lv_has ls 3 [(0, .ref oD)] := hl
  have hw0 := fw_lt hfb 0
  have hw4 := fw_lt hfb 4
  have hw8 := fw_lt hfb 8
  have hw12 := fw_lt hfb 12
  have hw16 := fw_lt hfb 16
  have hw20 := fw_lt hfb 20
  have hw24 := fw_lt hfb 24
  have hw28 := fw_lt hfb 28
  have hw32 := fw_lt hfb 32
  have hv0 := verd_0 hv
  refine lv_aload_n hx hb dX4_load_0 rfl (lv_at hl 0 rfl) ?_
  refine lv_iconst (v := nI 0) hx hb dX4_load_1 (by decide) ?_
  refine va_put (D := (dC, dI)) (ci := 4) (v := .int (nI 0)) (ty := .int) (C := RX4) (T := TX4) (N := 21) hx hb hts (by decide +kernel) tyX4 tyX4_ok nmX4 hown hK hP hD hS 0 rfl rfl 0 (by decide) (hts (.fieldLink RX4 32 "GlulxHeadsModel" "thrown" "I") (by decide +kernel)) (fun _ h9 => h9) rfl (by decide +kernel) rfl rfl (Nat.le_of_ble_eq_true rfl) dX4_load_2 (fun H locs hP hD hS => ?_)
  have hP : va_P (dC, dI) vwCl [(oD, .inr (4, [.int (nI 0), .ref dF, .int (nI len), .int (nI ha), .ref dH, .int (nI sr), .ref dL, .int (nI en), .int (nI ram), .int (nI mz), .ref dM, .int (nI hp), .int (nI cn), .ref dP, .ref dS, .int (nI fk), .int fp, .int (nI ka), .int (nI kn), .int (nI sv), .ref dK])), (dF, .inl (cI, 3000, .inl df)), (dH, .inl (cJ, 9, .inr (.inl dh))), (dL, .inl (cI, 4096, .inl dl)), (dM, .inl (cI, 8192, .inl dm))] H := hP
  have hD : va_D A [(oD, .inr (4, [.int (nI 0), .ref dF, .int (nI len), .int (nI ha), .ref dH, .int (nI sr), .ref dL, .int (nI en), .int (nI ram), .int (nI mz), .ref dM, .int (nI hp), .int (nI cn), .ref dP, .ref dS, .int (nI fk), .int fp, .int (nI ka), .int (nI kn), .int (nI sv), .ref dK])), (dF, .inl (cI, 3000, .inl df)), (dH, .inl (cJ, 9, .inr (.inl dh))), (dL, .inl (cI, 4096, .inl dl)), (dM, .inl (cI, 8192, .inl dm))] := hD
  refine lv_aload_n hx hb dX4_load_5 rfl (lv_at hl 0 rfl) ?_
  have hPc := hP.sub (ws' := [(oD, .inr (4, [.int (nI 0), .ref dF, .int (nI len), .int (nI ha), .ref dH, .int (nI sr), .ref dL, .int (nI en), .int (nI ram), .int (nI mz), .ref dM, .int (nI hp), .int (nI cn), .ref dP, .ref dS, .int (nI fk), .int fp, .int (nI ka), .int (nI kn), .int (nI sv), .ref dK])), (dF, .inl (cI, 3000, .inl df))]) [0, 1] rfl
  have hDc := hD.sub (ws' := [(oD, .inr (4, [.int (nI 0), .ref dF, .int (nI len), .int (nI ha), .ref dH, .int (nI sr), .ref dL, .int (nI en), .int (nI ram), .int (nI mz), .ref dM, .int (nI hp), .int (nI cn), .ref dP, .ref dS, .int (nI fk), .int fp, .int (nI ka), .int (nI kn), .int (nI sv), .ref dK])), (dF, .inl (cI, 3000, .inl df))]) [0, 1] (by decide) rfl
  have hFc := va_free (wc := [(oD, .inr (4, [.int (nI 0), .ref dF, .int (nI len), .int (nI ha), .ref dH, .int (nI sr), .ref dL, .int (nI en), .int (nI ram), .int (nI mz), .ref dM, .int (nI hp), .int (nI cn), .ref dP, .ref dS, .int (nI fk), .int fp, .int (nI ka), .int (nI kn), .int (nI sv), .ref dK])), (dF, .inl (cI, 3000, .inl df))]) hD hS hA [0, 1] rfl
  refine va_calli (va_runV (As := []) (rest := []) ⟨hx, hb, hml, hown, hts⟩ (c_X4_judge l dC dI cB cI cJ H.size oD 0 dF len ha dH sr dL en ram mz dM hp cn dP dS fk fp ka kn sv dK df fb (by omega) hf hfb hz) (cwV 0 hts gX4_load_X4_judge rfl rfl rfl (by decide +kernel) ⟨Nat.le_of_ble_eq_true rfl, Nat.le_of_ble_eq_true rfl⟩) ⟨wBlind, va_recv hK hPc (ci := 4) (q0 := 0) rfl rfl, wGo hK hPc hDc hN⟩ rfl rfl hl.1 rfl (lv_room (Nat.le_of_ble_eq_true rfl)) dX4_load_6 ⟨show 0 ≤ 0 by decide, show 0 ≤ 0 by decide⟩) hS (fun q _ h => hFc q h) hFc (fun r_2 u t H1 locs ht hvm w_3 hB hz1 hk1 hS => ?_)
  clear u
  obtain ⟨hP1, hD1⟩ := hB
  rw [ht] at hP1
  try dsimp only at w_3
  obtain ⟨hP, hD⟩ := va_join (wr := [(dH, .inl (cJ, 9, .inr (.inl dh))), (dL, .inl (cI, 4096, .inl dl)), (dM, .inl (cI, 8192, .inl dm))]) (w1 := [(oD, .inr (4, [.int (nI 0), .ref dF, .int (nI len), .int (nI ha), .ref dH, .int (nI sr), .ref dL, .int (nI en), .int (nI ram), .int (nI mz), .ref dM, .int (nI hp), .int (nI cn), .ref dP, .ref dS, .int (nI fk), .int fp, .int (nI ka), .int (nI kn), .int (nI sv), .ref dK])), (dF, .inl (cI, 3000, .inl df))]) hP hD [0, 1] [2, 3, 4] rfl rfl (by decide) (by decide) hk1 hFc hP1 hD1
  clear hPc hDc hFc hP1 hD1 hz1 hk1 hvm
  generalize H1 = H at hP hS ⊢
  have hP : va_P (dC, dI) vwCl [(dH, .inl (cJ, 9, .inr (.inl dh))), (dL, .inl (cI, 4096, .inl dl)), (dM, .inl (cI, 8192, .inl dm)), (oD, .inr (4, [.int (nI 0), .ref dF, .int (nI len), .int (nI ha), .ref dH, .int (nI sr), .ref dL, .int (nI en), .int (nI ram), .int (nI mz), .ref dM, .int (nI hp), .int (nI cn), .ref dP, .ref dS, .int (nI fk), .int fp, .int (nI ka), .int (nI kn), .int (nI sv), .ref dK])), (dF, .inl (cI, 3000, .inl df))] H := hP
  have hD : va_D A [(dH, .inl (cJ, 9, .inr (.inl dh))), (dL, .inl (cI, 4096, .inl dl)), (dM, .inl (cI, 8192, .inl dm)), (oD, .inr (4, [.int (nI 0), .ref dF, .int (nI len), .int (nI ha), .ref dH, .int (nI sr), .ref dL, .int (nI en), .int (nI ram), .int (nI mz), .ref dM, .int (nI hp), .int (nI cn), .ref dP, .ref dS, .int (nI fk), .int fp, .int (nI ka), .int (nI kn), .int (nI sv), .ref dK])), (dF, .inl (cI, 3000, .inl df))] := hD
  subst w_3
  have hvl := verd_lt fb len
  refine lv_istore_n (lv' := [(1, .int (nI (verd fb len))), (0, .ref oD)]) hx hb dX4_load_9 rfl hl (by decide) rfl (fun ls hl => ?_)
  refine lv_iload_n hx hb dX4_load_10 rfl (lv_at hl 0 rfl) ?_
  refine wx_if_eq (tgt := 16) hx hb dX4_load_11 (by decide) (by omega) (fun c_4 => ?_) (fun c_4 => absurd c_4 (by omega))
  refine lv_aload_n hx hb dX4_load_16 rfl (lv_at hl 1 rfl) ?_
  refine lv_iconst (v := nI 1) hx hb dX4_load_17 (by decide) ?_
  refine va_put (D := (dC, dI)) (ci := 4) (v := .int (nI 1)) (ty := .boolean) (C := RX4) (T := TX4) (N := 21) hx hb hts (by decide +kernel) tyX4 tyX4_ok nmX4 hown hK hP hD hS 3 rfl rfl 3 (by decide) (hts (.fieldLink RX4 76 "GlulxHeadsModel" "has" "Z") (by decide +kernel)) (fun _ h9 => h9) rfl (by decide +kernel) rfl rfl (Nat.le_of_ble_eq_true rfl) dX4_load_18 (fun H locs hP hD hS => ?_)
  have hP : va_P (dC, dI) vwCl [(dH, .inl (cJ, 9, .inr (.inl dh))), (dL, .inl (cI, 4096, .inl dl)), (dM, .inl (cI, 8192, .inl dm)), (oD, .inr (4, [.int (nI 0), .ref dF, .int (nI len), .int (nI 1), .ref dH, .int (nI sr), .ref dL, .int (nI en), .int (nI ram), .int (nI mz), .ref dM, .int (nI hp), .int (nI cn), .ref dP, .ref dS, .int (nI fk), .int fp, .int (nI ka), .int (nI kn), .int (nI sv), .ref dK])), (dF, .inl (cI, 3000, .inl df))] H := hP
  have hD : va_D A [(dH, .inl (cJ, 9, .inr (.inl dh))), (dL, .inl (cI, 4096, .inl dl)), (dM, .inl (cI, 8192, .inl dm)), (oD, .inr (4, [.int (nI 0), .ref dF, .int (nI len), .int (nI 1), .ref dH, .int (nI sr), .ref dL, .int (nI en), .int (nI ram), .int (nI mz), .ref dM, .int (nI hp), .int (nI cn), .ref dP, .ref dS, .int (nI fk), .int fp, .int (nI ka), .int (nI kn), .int (nI sv), .ref dK])), (dF, .inl (cI, 3000, .inl df))] := hD
  refine lv_iconst (v := nI 0) hx hb dX4_load_21 (by decide) ?_
  refine lv_istore_n (lv' := [(2, .int (nI 0)), (1, .int (nI (verd fb len))), (0, .ref oD)]) hx hb dX4_load_22 rfl hl (by decide) rfl (fun ls hl => ?_)
  refine wx_loop (σ := Nat × (Nat → Int64)) (fun xq9 => 9 - xq9.1) (fun xq9 H locs ls => (xq9.1 ≤ 9) ∧ (∀ k, k < xq9.1 → xq9.2 k = lN (fw fb (4 * k))) ∧ va_P (dC, dI) vwCl [(oD, .inr (4, [.int (nI 0), .ref dF, .int (nI len), .int (nI 1), .ref dH, .int (nI sr), .ref dL, .int (nI en), .int (nI ram), .int (nI mz), .ref dM, .int (nI hp), .int (nI cn), .ref dP, .ref dS, .int (nI fk), .int fp, .int (nI ka), .int (nI kn), .int (nI sv), .ref dK])), (dF, .inl (cI, 3000, .inl df)), (dH, .inl (cJ, 9, .inr (.inl xq9.2))), (dL, .inl (cI, 4096, .inl dl)), (dM, .inl (cI, 8192, .inl dm))] H ∧ va_D A [(oD, .inr (4, [.int (nI 0), .ref dF, .int (nI len), .int (nI 1), .ref dH, .int (nI sr), .ref dL, .int (nI en), .int (nI ram), .int (nI mz), .ref dM, .int (nI hp), .int (nI cn), .ref dP, .ref dS, .int (nI fk), .int fp, .int (nI ka), .int (nI kn), .int (nI sv), .ref dK])), (dF, .inl (cI, 3000, .inl df)), (dH, .inl (cJ, 9, .inr (.inl xq9.2))), (dL, .inl (cI, 4096, .inl dl)), (dM, .inl (cI, 8192, .inl dm))] ∧ va_S A s.heap H locs ∧ lv_has ls 3 [(0, .ref oD), (1, .int (nI (verd fb len))), (2, .int (nI xq9.1))]) ?_ (0, dh) _ _ _ ⟨by omega, fun k hk => absurd hk (Nat.not_lt_zero _), hP.sub [3, 4, 0, 1, 2] rfl, hD.sub [3, 4, 0, 1, 2] (by decide) rfl, hS, lv_sub hl [2, 1, 0] rfl⟩
  rintro ⟨i, dh3⟩ H locs ls ⟨hi, hh, hP, hD, hS, hl⟩ ih
  have hi : i ≤ 9 := hi
  have hh : ∀ k, k < i → dh3 k = lN (fw fb (4 * k)) := hh
  have hP : va_P (dC, dI) vwCl [(oD, .inr (4, [.int (nI 0), .ref dF, .int (nI len), .int (nI 1), .ref dH, .int (nI sr), .ref dL, .int (nI en), .int (nI ram), .int (nI mz), .ref dM, .int (nI hp), .int (nI cn), .ref dP, .ref dS, .int (nI fk), .int fp, .int (nI ka), .int (nI kn), .int (nI sv), .ref dK])), (dF, .inl (cI, 3000, .inl df)), (dH, .inl (cJ, 9, .inr (.inl dh3))), (dL, .inl (cI, 4096, .inl dl)), (dM, .inl (cI, 8192, .inl dm))] H := hP
  have hD : va_D A [(oD, .inr (4, [.int (nI 0), .ref dF, .int (nI len), .int (nI 1), .ref dH, .int (nI sr), .ref dL, .int (nI en), .int (nI ram), .int (nI mz), .ref dM, .int (nI hp), .int (nI cn), .ref dP, .ref dS, .int (nI fk), .int fp, .int (nI ka), .int (nI kn), .int (nI sv), .ref dK])), (dF, .inl (cI, 3000, .inl df)), (dH, .inl (cJ, 9, .inr (.inl dh3))), (dL, .inl (cI, 4096, .inl dl)), (dM, .inl (cI, 8192, .inl dm))] := hD
  have hl : lv_has ls 3 [(0, .ref oD), (1, .int (nI (verd fb len))), (2, .int (nI i))] := hl
  refine lv_iload_n hx hb dX4_load_23 rfl (lv_at hl 2 rfl) ?_
  refine lv_bipush (v := nI 9) hx hb dX4_load_24 (by decide) ?_
  refine wx_icmp_ge (tgt := 48) hx hb dX4_load_26 (by decide) (by omega) (by omega) (fun c_5 => ?_) (fun c_5 => ?_)
  · skip
    refine lv_aload_n hx hb dX4_load_48 rfl (lv_at hl 0 rfl) ?_
    refine lv_aload_n hx hb dX4_load_49 rfl (lv_at hl 0 rfl) ?_
    have hPc := hP.sub (ws' := [(oD, .inr (4, [.int (nI 0), .ref dF, .int (nI len), .int (nI 1), .ref dH, .int (nI sr), .ref dL, .int (nI en), .int (nI ram), .int (nI mz), .ref dM, .int (nI hp), .int (nI cn), .ref dP, .ref dS, .int (nI fk), .int fp, .int (nI ka), .int (nI kn), .int (nI sv), .ref dK])), (dF, .inl (cI, 3000, .inl df))]) [0, 1] rfl
    have hDc := hD.sub (ws' := [(oD, .inr (4, [.int (nI 0), .ref dF, .int (nI len), .int (nI 1), .ref dH, .int (nI sr), .ref dL, .int (nI en), .int (nI ram), .int (nI mz), .ref dM, .int (nI hp), .int (nI cn), .ref dP, .ref dS, .int (nI fk), .int fp, .int (nI ka), .int (nI kn), .int (nI sv), .ref dK])), (dF, .inl (cI, 3000, .inl df))]) [0, 1] (by decide) rfl
    have hFc := va_free (wc := [(oD, .inr (4, [.int (nI 0), .ref dF, .int (nI len), .int (nI 1), .ref dH, .int (nI sr), .ref dL, .int (nI en), .int (nI ram), .int (nI mz), .ref dM, .int (nI hp), .int (nI cn), .ref dP, .ref dS, .int (nI fk), .int fp, .int (nI ka), .int (nI kn), .int (nI sv), .ref dK])), (dF, .inl (cI, 3000, .inl df))]) hD hS hA [0, 1] rfl
    refine va_calll (va_runV (As := []) (rest := [.ref oD]) ⟨hx, hb, hml, hown, hts⟩ (c_X4_sumOf l dC dI cB cI cJ H.size oD 0 dF len 1 dH sr dL en ram mz dM hp cn dP dS fk fp ka kn sv dK df fb (by omega) hf hfb hz) (cwV 0 hts gX4_load_X4_sumOf rfl rfl rfl (by decide +kernel) ⟨Nat.le_of_ble_eq_true rfl, Nat.le_of_ble_eq_true rfl⟩) ⟨wBlind, va_recv hK hPc (ci := 4) (q0 := 0) rfl rfl, wGo hK hPc hDc hN⟩ rfl rfl hl.1 rfl (lv_room (Nat.le_of_ble_eq_true rfl)) dX4_load_50 ⟨show 0 ≤ 0 by decide, show 0 ≤ 0 by decide⟩) hS (fun q _ h => hFc q h) hFc (fun r_7 u t H1 locs ht hvm w_8 hB hz1 hk1 hS => ?_)
    clear u
    obtain ⟨hP1, hD1⟩ := hB
    rw [ht] at hP1
    try dsimp only at w_8
    obtain ⟨hP, hD⟩ := va_join (wr := [(dH, .inl (cJ, 9, .inr (.inl dh3))), (dL, .inl (cI, 4096, .inl dl)), (dM, .inl (cI, 8192, .inl dm))]) (w1 := [(oD, .inr (4, [.int (nI 0), .ref dF, .int (nI len), .int (nI 1), .ref dH, .int (nI sr), .ref dL, .int (nI en), .int (nI ram), .int (nI mz), .ref dM, .int (nI hp), .int (nI cn), .ref dP, .ref dS, .int (nI fk), .int fp, .int (nI ka), .int (nI kn), .int (nI sv), .ref dK])), (dF, .inl (cI, 3000, .inl df))]) hP hD [0, 1] [2, 3, 4] rfl rfl (by decide) (by decide) hk1 hFc hP1 hD1
    clear hPc hDc hFc hP1 hD1 hz1 hk1 hvm
    generalize H1 = H at hP hS ⊢
    have hP : va_P (dC, dI) vwCl [(dH, .inl (cJ, 9, .inr (.inl dh3))), (dL, .inl (cI, 4096, .inl dl)), (dM, .inl (cI, 8192, .inl dm)), (oD, .inr (4, [.int (nI 0), .ref dF, .int (nI len), .int (nI 1), .ref dH, .int (nI sr), .ref dL, .int (nI en), .int (nI ram), .int (nI mz), .ref dM, .int (nI hp), .int (nI cn), .ref dP, .ref dS, .int (nI fk), .int fp, .int (nI ka), .int (nI kn), .int (nI sv), .ref dK])), (dF, .inl (cI, 3000, .inl df))] H := hP
    have hD : va_D A [(dH, .inl (cJ, 9, .inr (.inl dh3))), (dL, .inl (cI, 4096, .inl dl)), (dM, .inl (cI, 8192, .inl dm)), (oD, .inr (4, [.int (nI 0), .ref dF, .int (nI len), .int (nI 1), .ref dH, .int (nI sr), .ref dL, .int (nI en), .int (nI ram), .int (nI mz), .ref dM, .int (nI hp), .int (nI cn), .ref dP, .ref dS, .int (nI fk), .int fp, .int (nI ka), .int (nI kn), .int (nI sv), .ref dK])), (dF, .inl (cI, 3000, .inl df))] := hD
    subst w_8
    refine lv_aload_n hx hb dX4_load_53 rfl (lv_at hl 0 rfl) ?_
    refine va_get (D := (dC, dI)) (ci := 4) (v := .ref dH) (C := RX4) (T := TX4) (N := 21) hx hb hts (by decide +kernel) hown hK hP 3 rfl rfl 4 (by decide) (hts (.fieldLink RX4 13 "GlulxHeadsModel" "head" "[J") (by decide +kernel)) (fun _ h9 => h9) rfl dX4_load_54 ?_
    refine lv_bipush (v := nI 8) hx hb dX4_load_57 (by decide) ?_
    refine wx_lald hx hb hK hP 0 2 rfl rfl (by omega) (by decide) dX4_load_59 ?_
    refine wx_topl (show dh3 8 = lN (fw fb 32) from hh 8 (by omega)) ?_
    refine wx_ln_ne (tgt := 68) hx hb dX4_load_60 dX4_load_61 (by decide) (by omega) (by omega) (fun c_9 => ?_) (fun c_9 => ?_)
    · skip
      refine lv_iconst (v := nI 0) hx hb dX4_load_68 (by decide) ?_
      refine va_put (D := (dC, dI)) (ci := 4) (v := .int (nI 0)) (ty := .boolean) (C := RX4) (T := TX4) (N := 21) hx hb hts (by decide +kernel) tyX4 tyX4_ok nmX4 hown hK hP hD hS 3 rfl rfl 5 (by decide) (hts (.fieldLink RX4 80 "GlulxHeadsModel" "sumRight" "Z") (by decide +kernel)) (fun _ h9 => h9) rfl (by decide +kernel) rfl rfl (Nat.le_of_ble_eq_true rfl) dX4_load_69 (fun H locs hP hD hS => ?_)
      have hP : va_P (dC, dI) vwCl [(dH, .inl (cJ, 9, .inr (.inl dh3))), (dL, .inl (cI, 4096, .inl dl)), (dM, .inl (cI, 8192, .inl dm)), (oD, .inr (4, [.int (nI 0), .ref dF, .int (nI len), .int (nI 1), .ref dH, .int (nI 0), .ref dL, .int (nI en), .int (nI ram), .int (nI mz), .ref dM, .int (nI hp), .int (nI cn), .ref dP, .ref dS, .int (nI fk), .int fp, .int (nI ka), .int (nI kn), .int (nI sv), .ref dK])), (dF, .inl (cI, 3000, .inl df))] H := hP
      have hD : va_D A [(dH, .inl (cJ, 9, .inr (.inl dh3))), (dL, .inl (cI, 4096, .inl dl)), (dM, .inl (cI, 8192, .inl dm)), (oD, .inr (4, [.int (nI 0), .ref dF, .int (nI len), .int (nI 1), .ref dH, .int (nI 0), .ref dL, .int (nI en), .int (nI ram), .int (nI mz), .ref dM, .int (nI hp), .int (nI cn), .ref dP, .ref dS, .int (nI fk), .int fp, .int (nI ka), .int (nI kn), .int (nI sv), .ref dK])), (dF, .inl (cI, 3000, .inl df))] := hD
      refine lv_aload_n hx hb dX4_load_72 rfl (lv_at hl 0 rfl) ?_
      refine lv_aload_n hx hb dX4_load_73 rfl (lv_at hl 0 rfl) ?_
      refine va_get (D := (dC, dI)) (ci := 4) (v := .ref dH) (C := RX4) (T := TX4) (N := 21) hx hb hts (by decide +kernel) hown hK hP 3 rfl rfl 4 (by decide) (hts (.fieldLink RX4 13 "GlulxHeadsModel" "head" "[J") (by decide +kernel)) (fun _ h9 => h9) rfl dX4_load_74 ?_
      refine lv_iconst (v := nI 2) hx hb dX4_load_77 (by decide) ?_
      refine wx_lald hx hb hK hP 0 2 rfl rfl (by omega) (by decide) dX4_load_78 ?_
      refine wx_topl (show dh3 2 = lN (fw fb 8) from hh 2 (by omega)) ?_
      refine lv_l2i (v := nI (fw fb 8)) hx hb dX4_load_79 (lN_i _) ?_
      refine va_put (D := (dC, dI)) (ci := 4) (v := .int (nI (fw fb 8))) (ty := .int) (C := RX4) (T := TX4) (N := 21) hx hb hts (by decide +kernel) tyX4 tyX4_ok nmX4 hown hK hP hD hS 3 rfl rfl 8 (by decide) (hts (.fieldLink RX4 83 "GlulxHeadsModel" "ram" "I") (by decide +kernel)) (fun _ h9 => h9) rfl (by decide +kernel) rfl rfl (Nat.le_of_ble_eq_true rfl) dX4_load_80 (fun H locs hP hD hS => ?_)
      have hP : va_P (dC, dI) vwCl [(dH, .inl (cJ, 9, .inr (.inl dh3))), (dL, .inl (cI, 4096, .inl dl)), (dM, .inl (cI, 8192, .inl dm)), (oD, .inr (4, [.int (nI 0), .ref dF, .int (nI len), .int (nI 1), .ref dH, .int (nI 0), .ref dL, .int (nI en), .int (nI (fw fb 8)), .int (nI mz), .ref dM, .int (nI hp), .int (nI cn), .ref dP, .ref dS, .int (nI fk), .int fp, .int (nI ka), .int (nI kn), .int (nI sv), .ref dK])), (dF, .inl (cI, 3000, .inl df))] H := hP
      have hD : va_D A [(dH, .inl (cJ, 9, .inr (.inl dh3))), (dL, .inl (cI, 4096, .inl dl)), (dM, .inl (cI, 8192, .inl dm)), (oD, .inr (4, [.int (nI 0), .ref dF, .int (nI len), .int (nI 1), .ref dH, .int (nI 0), .ref dL, .int (nI en), .int (nI (fw fb 8)), .int (nI mz), .ref dM, .int (nI hp), .int (nI cn), .ref dP, .ref dS, .int (nI fk), .int fp, .int (nI ka), .int (nI kn), .int (nI sv), .ref dK])), (dF, .inl (cI, 3000, .inl df))] := hD
      refine lv_aload_n hx hb dX4_load_83 rfl (lv_at hl 0 rfl) ?_
      refine lv_aload_n hx hb dX4_load_84 rfl (lv_at hl 0 rfl) ?_
      refine va_get (D := (dC, dI)) (ci := 4) (v := .ref dH) (C := RX4) (T := TX4) (N := 21) hx hb hts (by decide +kernel) hown hK hP 3 rfl rfl 4 (by decide) (hts (.fieldLink RX4 13 "GlulxHeadsModel" "head" "[J") (by decide +kernel)) (fun _ h9 => h9) rfl dX4_load_85 ?_
      refine lv_iconst (v := nI 4) hx hb dX4_load_88 (by decide) ?_
      refine wx_lald hx hb hK hP 0 2 rfl rfl (by omega) (by decide) dX4_load_89 ?_
      refine wx_topl (show dh3 4 = lN (fw fb 16) from hh 4 (by omega)) ?_
      refine lv_l2i (v := nI (fw fb 16)) hx hb dX4_load_90 (lN_i _) ?_
      refine va_put (D := (dC, dI)) (ci := 4) (v := .int (nI (fw fb 16))) (ty := .int) (C := RX4) (T := TX4) (N := 21) hx hb hts (by decide +kernel) tyX4 tyX4_ok nmX4 hown hK hP hD hS 3 rfl rfl 7 (by decide) (hts (.fieldLink RX4 86 "GlulxHeadsModel" "end" "I") (by decide +kernel)) (fun _ h9 => h9) rfl (by decide +kernel) rfl rfl (Nat.le_of_ble_eq_true rfl) dX4_load_91 (fun H locs hP hD hS => ?_)
      have hP : va_P (dC, dI) vwCl [(dH, .inl (cJ, 9, .inr (.inl dh3))), (dL, .inl (cI, 4096, .inl dl)), (dM, .inl (cI, 8192, .inl dm)), (oD, .inr (4, [.int (nI 0), .ref dF, .int (nI len), .int (nI 1), .ref dH, .int (nI 0), .ref dL, .int (nI (fw fb 16)), .int (nI (fw fb 8)), .int (nI mz), .ref dM, .int (nI hp), .int (nI cn), .ref dP, .ref dS, .int (nI fk), .int fp, .int (nI ka), .int (nI kn), .int (nI sv), .ref dK])), (dF, .inl (cI, 3000, .inl df))] H := hP
      have hD : va_D A [(dH, .inl (cJ, 9, .inr (.inl dh3))), (dL, .inl (cI, 4096, .inl dl)), (dM, .inl (cI, 8192, .inl dm)), (oD, .inr (4, [.int (nI 0), .ref dF, .int (nI len), .int (nI 1), .ref dH, .int (nI 0), .ref dL, .int (nI (fw fb 16)), .int (nI (fw fb 8)), .int (nI mz), .ref dM, .int (nI hp), .int (nI cn), .ref dP, .ref dS, .int (nI fk), .int fp, .int (nI ka), .int (nI kn), .int (nI sv), .ref dK])), (dF, .inl (cI, 3000, .inl df))] := hD
      refine lv_aload_n hx hb dX4_load_94 rfl (lv_at hl 0 rfl) ?_
      refine lv_aload_n hx hb dX4_load_95 rfl (lv_at hl 0 rfl) ?_
      refine va_get (D := (dC, dI)) (ci := 4) (v := .int (nI (fw fb 16))) (C := RX4) (T := TX4) (N := 21) hx hb hts (by decide +kernel) hown hK hP 3 rfl rfl 7 (by decide) (hts (.fieldLink RX4 86 "GlulxHeadsModel" "end" "I") (by decide +kernel)) (fun _ h9 => h9) rfl dX4_load_96 ?_
      refine va_put (D := (dC, dI)) (ci := 4) (v := .int (nI (fw fb 16))) (ty := .int) (C := RX4) (T := TX4) (N := 21) hx hb hts (by decide +kernel) tyX4 tyX4_ok nmX4 hown hK hP hD hS 3 rfl rfl 9 (by decide) (hts (.fieldLink RX4 89 "GlulxHeadsModel" "m" "I") (by decide +kernel)) (fun _ h9 => h9) rfl (by decide +kernel) rfl rfl (Nat.le_of_ble_eq_true rfl) dX4_load_99 (fun H locs hP hD hS => ?_)
      have hP : va_P (dC, dI) vwCl [(dH, .inl (cJ, 9, .inr (.inl dh3))), (dL, .inl (cI, 4096, .inl dl)), (dM, .inl (cI, 8192, .inl dm)), (oD, .inr (4, [.int (nI 0), .ref dF, .int (nI len), .int (nI 1), .ref dH, .int (nI 0), .ref dL, .int (nI (fw fb 16)), .int (nI (fw fb 8)), .int (nI (fw fb 16)), .ref dM, .int (nI hp), .int (nI cn), .ref dP, .ref dS, .int (nI fk), .int fp, .int (nI ka), .int (nI kn), .int (nI sv), .ref dK])), (dF, .inl (cI, 3000, .inl df))] H := hP
      have hD : va_D A [(dH, .inl (cJ, 9, .inr (.inl dh3))), (dL, .inl (cI, 4096, .inl dl)), (dM, .inl (cI, 8192, .inl dm)), (oD, .inr (4, [.int (nI 0), .ref dF, .int (nI len), .int (nI 1), .ref dH, .int (nI 0), .ref dL, .int (nI (fw fb 16)), .int (nI (fw fb 8)), .int (nI (fw fb 16)), .ref dM, .int (nI hp), .int (nI cn), .ref dP, .ref dS, .int (nI fk), .int fp, .int (nI ka), .int (nI kn), .int (nI sv), .ref dK])), (dF, .inl (cI, 3000, .inl df))] := hD
      refine lv_iconst (v := nI 0) hx hb dX4_load_102 (by decide) ?_
      refine lv_istore_n (lv' := [(2, .int (nI 0)), (0, .ref oD), (1, .int (nI (verd fb len)))]) hx hb dX4_load_103 rfl hl (by decide) rfl (fun ls hl => ?_)
      refine wx_loop (σ := Nat × (Nat → Int32) × (Nat → Int32)) (fun xq9 => fw fb 16 - xq9.1) (fun xq9 H locs ls => (xq9.1 ≤ fw fb 16) ∧ (gOk xq9.2.1 xq9.1 fb) ∧ (gOk xq9.2.2 xq9.1 fb) ∧ va_P (dC, dI) vwCl [(oD, .inr (4, [.int (nI 0), .ref dF, .int (nI len), .int (nI 1), .ref dH, .int (nI 0), .ref dL, .int (nI (fw fb 16)), .int (nI (fw fb 8)), .int (nI (fw fb 16)), .ref dM, .int (nI hp), .int (nI cn), .ref dP, .ref dS, .int (nI fk), .int fp, .int (nI ka), .int (nI kn), .int (nI sv), .ref dK])), (dF, .inl (cI, 3000, .inl df)), (dH, .inl (cJ, 9, .inr (.inl dh3))), (dL, .inl (cI, 4096, .inl xq9.2.1)), (dM, .inl (cI, 8192, .inl xq9.2.2))] H ∧ va_D A [(oD, .inr (4, [.int (nI 0), .ref dF, .int (nI len), .int (nI 1), .ref dH, .int (nI 0), .ref dL, .int (nI (fw fb 16)), .int (nI (fw fb 8)), .int (nI (fw fb 16)), .ref dM, .int (nI hp), .int (nI cn), .ref dP, .ref dS, .int (nI fk), .int fp, .int (nI ka), .int (nI kn), .int (nI sv), .ref dK])), (dF, .inl (cI, 3000, .inl df)), (dH, .inl (cJ, 9, .inr (.inl dh3))), (dL, .inl (cI, 4096, .inl xq9.2.1)), (dM, .inl (cI, 8192, .inl xq9.2.2))] ∧ va_S A s.heap H locs ∧ lv_has ls 3 [(0, .ref oD), (2, .int (nI xq9.1))]) ?_ (0, dl, dm) _ _ _ ⟨by omega, fun j hj => absurd hj (Nat.not_lt_zero _), fun j hj => absurd hj (Nat.not_lt_zero _), hP.sub [3, 4, 0, 1, 2] rfl, hD.sub [3, 4, 0, 1, 2] (by decide) rfl, hS, lv_sub hl [1, 0] rfl⟩
      rintro ⟨q, dl3, dm3⟩ H locs ls ⟨hq, hgl, hgm, hP, hD, hS, hl⟩ ih
      have hq : q ≤ fw fb 16 := hq
      have hgl : gOk dl3 q fb := hgl
      have hgm : gOk dm3 q fb := hgm
      have hP : va_P (dC, dI) vwCl [(oD, .inr (4, [.int (nI 0), .ref dF, .int (nI len), .int (nI 1), .ref dH, .int (nI 0), .ref dL, .int (nI (fw fb 16)), .int (nI (fw fb 8)), .int (nI (fw fb 16)), .ref dM, .int (nI hp), .int (nI cn), .ref dP, .ref dS, .int (nI fk), .int fp, .int (nI ka), .int (nI kn), .int (nI sv), .ref dK])), (dF, .inl (cI, 3000, .inl df)), (dH, .inl (cJ, 9, .inr (.inl dh3))), (dL, .inl (cI, 4096, .inl dl3)), (dM, .inl (cI, 8192, .inl dm3))] H := hP
      have hD : va_D A [(oD, .inr (4, [.int (nI 0), .ref dF, .int (nI len), .int (nI 1), .ref dH, .int (nI 0), .ref dL, .int (nI (fw fb 16)), .int (nI (fw fb 8)), .int (nI (fw fb 16)), .ref dM, .int (nI hp), .int (nI cn), .ref dP, .ref dS, .int (nI fk), .int fp, .int (nI ka), .int (nI kn), .int (nI sv), .ref dK])), (dF, .inl (cI, 3000, .inl df)), (dH, .inl (cJ, 9, .inr (.inl dh3))), (dL, .inl (cI, 4096, .inl dl3)), (dM, .inl (cI, 8192, .inl dm3))] := hD
      have hl : lv_has ls 3 [(0, .ref oD), (2, .int (nI q))] := hl
      refine lv_iload_n hx hb dX4_load_104 rfl (lv_at hl 1 rfl) ?_
      refine lv_aload_n hx hb dX4_load_105 rfl (lv_at hl 0 rfl) ?_
      refine va_get (D := (dC, dI)) (ci := 4) (v := .int (nI (fw fb 16))) (C := RX4) (T := TX4) (N := 21) hx hb hts (by decide +kernel) hown hK hP 0 rfl rfl 7 (by decide) (hts (.fieldLink RX4 86 "GlulxHeadsModel" "end" "I") (by decide +kernel)) (fun _ h9 => h9) rfl dX4_load_106 ?_
      refine wx_icmp_ge (tgt := 154) hx hb dX4_load_109 (by decide) (by omega) (by omega) (fun c_10 => ?_) (fun c_10 => ?_)
      · skip
        refine lv_aload_n hx hb dX4_load_154 rfl (lv_at hl 0 rfl) ?_
        refine lv_iconst (v := nI 0) hx hb dX4_load_155 (by decide) ?_
        refine va_put (D := (dC, dI)) (ci := 4) (v := .int (nI 0)) (ty := .int) (C := RX4) (T := TX4) (N := 21) hx hb hts (by decide +kernel) tyX4 tyX4_ok nmX4 hown hK hP hD hS 0 rfl rfl 11 (by decide) (hts (.fieldLink RX4 92 "GlulxHeadsModel" "heap" "I") (by decide +kernel)) (fun _ h9 => h9) rfl (by decide +kernel) rfl rfl (Nat.le_of_ble_eq_true rfl) dX4_load_156 (fun H locs hP hD hS => ?_)
        have hP : va_P (dC, dI) vwCl [(oD, .inr (4, [.int (nI 0), .ref dF, .int (nI len), .int (nI 1), .ref dH, .int (nI 0), .ref dL, .int (nI (fw fb 16)), .int (nI (fw fb 8)), .int (nI (fw fb 16)), .ref dM, .int (nI 0), .int (nI cn), .ref dP, .ref dS, .int (nI fk), .int fp, .int (nI ka), .int (nI kn), .int (nI sv), .ref dK])), (dF, .inl (cI, 3000, .inl df)), (dH, .inl (cJ, 9, .inr (.inl dh3))), (dL, .inl (cI, 4096, .inl dl3)), (dM, .inl (cI, 8192, .inl dm3))] H := hP
        have hD : va_D A [(oD, .inr (4, [.int (nI 0), .ref dF, .int (nI len), .int (nI 1), .ref dH, .int (nI 0), .ref dL, .int (nI (fw fb 16)), .int (nI (fw fb 8)), .int (nI (fw fb 16)), .ref dM, .int (nI 0), .int (nI cn), .ref dP, .ref dS, .int (nI fk), .int fp, .int (nI ka), .int (nI kn), .int (nI sv), .ref dK])), (dF, .inl (cI, 3000, .inl df)), (dH, .inl (cJ, 9, .inr (.inl dh3))), (dL, .inl (cI, 4096, .inl dl3)), (dM, .inl (cI, 8192, .inl dm3))] := hD
        refine lv_aload_n hx hb dX4_load_159 rfl (lv_at hl 0 rfl) ?_
        refine lv_iconst (v := nI 0) hx hb dX4_load_160 (by decide) ?_
        refine va_put (D := (dC, dI)) (ci := 4) (v := .int (nI 0)) (ty := .int) (C := RX4) (T := TX4) (N := 21) hx hb hts (by decide +kernel) tyX4 tyX4_ok nmX4 hown hK hP hD hS 0 rfl rfl 12 (by decide) (hts (.fieldLink RX4 95 "GlulxHeadsModel" "blocks" "I") (by decide +kernel)) (fun _ h9 => h9) rfl (by decide +kernel) rfl rfl (Nat.le_of_ble_eq_true rfl) dX4_load_161 (fun H locs hP hD hS => ?_)
        have hP : va_P (dC, dI) vwCl [(oD, .inr (4, [.int (nI 0), .ref dF, .int (nI len), .int (nI 1), .ref dH, .int (nI 0), .ref dL, .int (nI (fw fb 16)), .int (nI (fw fb 8)), .int (nI (fw fb 16)), .ref dM, .int (nI 0), .int (nI 0), .ref dP, .ref dS, .int (nI fk), .int fp, .int (nI ka), .int (nI kn), .int (nI sv), .ref dK])), (dF, .inl (cI, 3000, .inl df)), (dH, .inl (cJ, 9, .inr (.inl dh3))), (dL, .inl (cI, 4096, .inl dl3)), (dM, .inl (cI, 8192, .inl dm3))] H := hP
        have hD : va_D A [(oD, .inr (4, [.int (nI 0), .ref dF, .int (nI len), .int (nI 1), .ref dH, .int (nI 0), .ref dL, .int (nI (fw fb 16)), .int (nI (fw fb 8)), .int (nI (fw fb 16)), .ref dM, .int (nI 0), .int (nI 0), .ref dP, .ref dS, .int (nI fk), .int fp, .int (nI ka), .int (nI kn), .int (nI sv), .ref dK])), (dF, .inl (cI, 3000, .inl df)), (dH, .inl (cJ, 9, .inr (.inl dh3))), (dL, .inl (cI, 4096, .inl dl3)), (dM, .inl (cI, 8192, .inl dm3))] := hD
        refine lv_aload_n hx hb dX4_load_164 rfl (lv_at hl 0 rfl) ?_
        refine lv_iconst (v := nI 0) hx hb dX4_load_165 (by decide) ?_
        refine va_put (D := (dC, dI)) (ci := 4) (v := .int (nI 0)) (ty := .int) (C := RX4) (T := TX4) (N := 21) hx hb hts (by decide +kernel) tyX4 tyX4_ok nmX4 hown hK hP hD hS 0 rfl rfl 15 (by decide) (hts (.fieldLink RX4 98 "GlulxHeadsModel" "fault" "I") (by decide +kernel)) (fun _ h9 => h9) rfl (by decide +kernel) rfl rfl (Nat.le_of_ble_eq_true rfl) dX4_load_166 (fun H locs hP hD hS => ?_)
        have hP : va_P (dC, dI) vwCl [(oD, .inr (4, [.int (nI 0), .ref dF, .int (nI len), .int (nI 1), .ref dH, .int (nI 0), .ref dL, .int (nI (fw fb 16)), .int (nI (fw fb 8)), .int (nI (fw fb 16)), .ref dM, .int (nI 0), .int (nI 0), .ref dP, .ref dS, .int (nI 0), .int fp, .int (nI ka), .int (nI kn), .int (nI sv), .ref dK])), (dF, .inl (cI, 3000, .inl df)), (dH, .inl (cJ, 9, .inr (.inl dh3))), (dL, .inl (cI, 4096, .inl dl3)), (dM, .inl (cI, 8192, .inl dm3))] H := hP
        have hD : va_D A [(oD, .inr (4, [.int (nI 0), .ref dF, .int (nI len), .int (nI 1), .ref dH, .int (nI 0), .ref dL, .int (nI (fw fb 16)), .int (nI (fw fb 8)), .int (nI (fw fb 16)), .ref dM, .int (nI 0), .int (nI 0), .ref dP, .ref dS, .int (nI 0), .int fp, .int (nI ka), .int (nI kn), .int (nI sv), .ref dK])), (dF, .inl (cI, 3000, .inl df)), (dH, .inl (cJ, 9, .inr (.inl dh3))), (dL, .inl (cI, 4096, .inl dl3)), (dM, .inl (cI, 8192, .inl dm3))] := hD
        refine lv_aload_n hx hb dX4_load_169 rfl (lv_at hl 0 rfl) ?_
        refine lv_iconst (v := nI 0) hx hb dX4_load_170 (by decide) ?_
        refine va_put (D := (dC, dI)) (ci := 4) (v := .int (nI 0)) (ty := .int) (C := RX4) (T := TX4) (N := 21) hx hb hts (by decide +kernel) tyX4 tyX4_ok nmX4 hown hK hP hD hS 0 rfl rfl 16 (by decide) (hts (.fieldLink RX4 101 "GlulxHeadsModel" "faultAt" "I") (by decide +kernel)) (fun _ h9 => h9) rfl (by decide +kernel) rfl rfl (Nat.le_of_ble_eq_true rfl) dX4_load_171 (fun H locs hP hD hS => ?_)
        have hP : va_P (dC, dI) vwCl [(oD, .inr (4, [.int (nI 0), .ref dF, .int (nI len), .int (nI 1), .ref dH, .int (nI 0), .ref dL, .int (nI (fw fb 16)), .int (nI (fw fb 8)), .int (nI (fw fb 16)), .ref dM, .int (nI 0), .int (nI 0), .ref dP, .ref dS, .int (nI 0), .int (nI 0), .int (nI ka), .int (nI kn), .int (nI sv), .ref dK])), (dF, .inl (cI, 3000, .inl df)), (dH, .inl (cJ, 9, .inr (.inl dh3))), (dL, .inl (cI, 4096, .inl dl3)), (dM, .inl (cI, 8192, .inl dm3))] H := hP
        have hD : va_D A [(oD, .inr (4, [.int (nI 0), .ref dF, .int (nI len), .int (nI 1), .ref dH, .int (nI 0), .ref dL, .int (nI (fw fb 16)), .int (nI (fw fb 8)), .int (nI (fw fb 16)), .ref dM, .int (nI 0), .int (nI 0), .ref dP, .ref dS, .int (nI 0), .int (nI 0), .int (nI ka), .int (nI kn), .int (nI sv), .ref dK])), (dF, .inl (cI, 3000, .inl df)), (dH, .inl (cJ, 9, .inr (.inl dh3))), (dL, .inl (cI, 4096, .inl dl3)), (dM, .inl (cI, 8192, .inl dm3))] := hD
        refine lv_aload_n hx hb dX4_load_174 rfl (lv_at hl 0 rfl) ?_
        refine lv_iconst (v := nI 0) hx hb dX4_load_175 (by decide) ?_
        refine va_put (D := (dC, dI)) (ci := 4) (v := .int (nI 0)) (ty := .int) (C := RX4) (T := TX4) (N := 21) hx hb hts (by decide +kernel) tyX4 tyX4_ok nmX4 hown hK hP hD hS 0 rfl rfl 17 (by decide) (hts (.fieldLink RX4 104 "GlulxHeadsModel" "safeAt" "I") (by decide +kernel)) (fun _ h9 => h9) rfl (by decide +kernel) rfl rfl (Nat.le_of_ble_eq_true rfl) dX4_load_176 (fun H locs hP hD hS => ?_)
        have hP : va_P (dC, dI) vwCl [(oD, .inr (4, [.int (nI 0), .ref dF, .int (nI len), .int (nI 1), .ref dH, .int (nI 0), .ref dL, .int (nI (fw fb 16)), .int (nI (fw fb 8)), .int (nI (fw fb 16)), .ref dM, .int (nI 0), .int (nI 0), .ref dP, .ref dS, .int (nI 0), .int (nI 0), .int (nI 0), .int (nI kn), .int (nI sv), .ref dK])), (dF, .inl (cI, 3000, .inl df)), (dH, .inl (cJ, 9, .inr (.inl dh3))), (dL, .inl (cI, 4096, .inl dl3)), (dM, .inl (cI, 8192, .inl dm3))] H := hP
        have hD : va_D A [(oD, .inr (4, [.int (nI 0), .ref dF, .int (nI len), .int (nI 1), .ref dH, .int (nI 0), .ref dL, .int (nI (fw fb 16)), .int (nI (fw fb 8)), .int (nI (fw fb 16)), .ref dM, .int (nI 0), .int (nI 0), .ref dP, .ref dS, .int (nI 0), .int (nI 0), .int (nI 0), .int (nI kn), .int (nI sv), .ref dK])), (dF, .inl (cI, 3000, .inl df)), (dH, .inl (cJ, 9, .inr (.inl dh3))), (dL, .inl (cI, 4096, .inl dl3)), (dM, .inl (cI, 8192, .inl dm3))] := hD
        refine lv_aload_n hx hb dX4_load_179 rfl (lv_at hl 0 rfl) ?_
        refine lv_iconst (v := nI 0) hx hb dX4_load_180 (by decide) ?_
        refine va_put (D := (dC, dI)) (ci := 4) (v := .int (nI 0)) (ty := .int) (C := RX4) (T := TX4) (N := 21) hx hb hts (by decide +kernel) tyX4 tyX4_ok nmX4 hown hK hP hD hS 0 rfl rfl 18 (by decide) (hts (.fieldLink RX4 107 "GlulxHeadsModel" "safeMany" "I") (by decide +kernel)) (fun _ h9 => h9) rfl (by decide +kernel) rfl rfl (Nat.le_of_ble_eq_true rfl) dX4_load_181 (fun H locs hP hD hS => ?_)
        have hP : va_P (dC, dI) vwCl [(oD, .inr (4, [.int (nI 0), .ref dF, .int (nI len), .int (nI 1), .ref dH, .int (nI 0), .ref dL, .int (nI (fw fb 16)), .int (nI (fw fb 8)), .int (nI (fw fb 16)), .ref dM, .int (nI 0), .int (nI 0), .ref dP, .ref dS, .int (nI 0), .int (nI 0), .int (nI 0), .int (nI 0), .int (nI sv), .ref dK])), (dF, .inl (cI, 3000, .inl df)), (dH, .inl (cJ, 9, .inr (.inl dh3))), (dL, .inl (cI, 4096, .inl dl3)), (dM, .inl (cI, 8192, .inl dm3))] H := hP
        have hD : va_D A [(oD, .inr (4, [.int (nI 0), .ref dF, .int (nI len), .int (nI 1), .ref dH, .int (nI 0), .ref dL, .int (nI (fw fb 16)), .int (nI (fw fb 8)), .int (nI (fw fb 16)), .ref dM, .int (nI 0), .int (nI 0), .ref dP, .ref dS, .int (nI 0), .int (nI 0), .int (nI 0), .int (nI 0), .int (nI sv), .ref dK])), (dF, .inl (cI, 3000, .inl df)), (dH, .inl (cJ, 9, .inr (.inl dh3))), (dL, .inl (cI, 4096, .inl dl3)), (dM, .inl (cI, 8192, .inl dm3))] := hD
        refine lv_aload_n hx hb dX4_load_184 rfl (lv_at hl 0 rfl) ?_
        refine lv_iconst (v := nI 0) hx hb dX4_load_185 (by decide) ?_
        refine va_put (D := (dC, dI)) (ci := 4) (v := .int (nI 0)) (ty := .int) (C := RX4) (T := TX4) (N := 21) hx hb hts (by decide +kernel) tyX4 tyX4_ok nmX4 hown hK hP hD hS 0 rfl rfl 19 (by decide) (hts (.fieldLink RX4 110 "GlulxHeadsModel" "states" "I") (by decide +kernel)) (fun _ h9 => h9) rfl (by decide +kernel) rfl rfl (Nat.le_of_ble_eq_true rfl) dX4_load_186 (fun H locs hP hD hS => ?_)
        have hP : va_P (dC, dI) vwCl [(oD, .inr (4, [.int (nI 0), .ref dF, .int (nI len), .int (nI 1), .ref dH, .int (nI 0), .ref dL, .int (nI (fw fb 16)), .int (nI (fw fb 8)), .int (nI (fw fb 16)), .ref dM, .int (nI 0), .int (nI 0), .ref dP, .ref dS, .int (nI 0), .int (nI 0), .int (nI 0), .int (nI 0), .int (nI 0), .ref dK])), (dF, .inl (cI, 3000, .inl df)), (dH, .inl (cJ, 9, .inr (.inl dh3))), (dL, .inl (cI, 4096, .inl dl3)), (dM, .inl (cI, 8192, .inl dm3))] H := hP
        have hD : va_D A [(oD, .inr (4, [.int (nI 0), .ref dF, .int (nI len), .int (nI 1), .ref dH, .int (nI 0), .ref dL, .int (nI (fw fb 16)), .int (nI (fw fb 8)), .int (nI (fw fb 16)), .ref dM, .int (nI 0), .int (nI 0), .ref dP, .ref dS, .int (nI 0), .int (nI 0), .int (nI 0), .int (nI 0), .int (nI 0), .ref dK])), (dF, .inl (cI, 3000, .inl df)), (dH, .inl (cJ, 9, .inr (.inl dh3))), (dL, .inl (cI, 4096, .inl dl3)), (dM, .inl (cI, 8192, .inl dm3))] := hD
        refine lv_iconst (v := nI 0) hx hb dX4_load_189 (by decide) ?_
        have hP9 := hP.sub (ws' := [(oD, .inr (4, [.int (nI 0), .ref dF, .int (nI len), .int (nI 1), .ref dH, .int (nI 0), .ref dL, .int (nI (fw fb 16)), .int (nI (fw fb 8)), .int (nI (fw fb 16)), .ref dM, .int (nI 0), .int (nI 0), .ref dP, .ref dS, .int (nI 0), .int (nI 0), .int (nI 0), .int (nI 0), .int (nI 0), .ref dK])), (dF, .inl (cI, 3000, .inl df)), (dH, .inl (cJ, 9, .inr (.inl dh3))), (dL, .inl (cI, 4096, .inl dl3)), (dM, .inl (cI, 8192, .inl dm3))]) [0, 1, 2, 3, 4] rfl
        have hD9 := hD.sub (ws' := [(oD, .inr (4, [.int (nI 0), .ref dF, .int (nI len), .int (nI 1), .ref dH, .int (nI 0), .ref dL, .int (nI (fw fb 16)), .int (nI (fw fb 8)), .int (nI (fw fb 16)), .ref dM, .int (nI 0), .int (nI 0), .ref dP, .ref dS, .int (nI 0), .int (nI 0), .int (nI 0), .int (nI 0), .int (nI 0), .ref dK])), (dF, .inl (cI, 3000, .inl df)), (dH, .inl (cJ, 9, .inr (.inl dh3))), (dL, .inl (cI, 4096, .inl dl3)), (dM, .inl (cI, 8192, .inl dm3))]) [0, 1, 2, 3, 4] (by decide) rfl
        exact W.iret (v := nI 0) hx hb hr (fun t ht hW => ⟨⟨(nI 0), (dh3, dl3, dm3, 0), rfl, ⟨by rw [hv], fun k hk => hh k (by omega), by rw [if_neg (by assumption)], by rw [show fw fb 16 = q by omega]; exact hgl, by rw [show fw fb 16 = q by omega]; exact hgm⟩, by rw [ht]; exact hP9, hD9⟩, hS.F ht⟩) hS.2.2 dX4_load_190
      · skip
        refine lv_aload_n hx hb dX4_load_112 rfl (lv_at hl 0 rfl) ?_
        refine va_get (D := (dC, dI)) (ci := 4) (v := .ref dL) (C := RX4) (T := TX4) (N := 21) hx hb hts (by decide +kernel) hown hK hP 0 rfl rfl 6 (by decide) (hts (.fieldLink RX4 17 "GlulxHeadsModel" "loaded" "[I") (by decide +kernel)) (fun _ h9 => h9) rfl dX4_load_113 ?_
        refine lv_iload_n hx hb dX4_load_116 rfl (lv_at hl 1 rfl) ?_
        refine lv_iload_n hx hb dX4_load_117 rfl (lv_at hl 1 rfl) ?_
        refine lv_aload_n hx hb dX4_load_118 rfl (lv_at hl 0 rfl) ?_
        refine va_get (D := (dC, dI)) (ci := 4) (v := .int (nI len)) (C := RX4) (T := TX4) (N := 21) hx hb hts (by decide +kernel) hown hK hP 0 rfl rfl 2 (by decide) (hts (.fieldLink RX4 36 "GlulxHeadsModel" "size" "I") (by decide +kernel)) (fun _ h9 => h9) rfl dX4_load_119 ?_
        refine wx_icmp_ge (tgt := 134) hx hb dX4_load_122 (by decide) (by omega) (by omega) (fun c_11 => ?_) (fun c_11 => ?_)
        · skip
          refine lv_iconst (v := nI 0) hx hb dX4_load_134 (by decide) ?_
          refine wx_iast hx hb hK hP hD hS 3 1 rfl rfl (by omega) (by decide) dX4_load_135 (fun H locs hP hD hS => ?_)
          have hP : va_P (dC, dI) vwCl [(oD, .inr (4, [.int (nI 0), .ref dF, .int (nI len), .int (nI 1), .ref dH, .int (nI 0), .ref dL, .int (nI (fw fb 16)), .int (nI (fw fb 8)), .int (nI (fw fb 16)), .ref dM, .int (nI hp), .int (nI cn), .ref dP, .ref dS, .int (nI fk), .int fp, .int (nI ka), .int (nI kn), .int (nI sv), .ref dK])), (dF, .inl (cI, 3000, .inl df)), (dH, .inl (cJ, 9, .inr (.inl dh3))), (dL, .inl (cI, 4096, .inl (upd dl3 q (nI 0)))), (dM, .inl (cI, 8192, .inl dm3))] H := hP
          have hD : va_D A [(oD, .inr (4, [.int (nI 0), .ref dF, .int (nI len), .int (nI 1), .ref dH, .int (nI 0), .ref dL, .int (nI (fw fb 16)), .int (nI (fw fb 8)), .int (nI (fw fb 16)), .ref dM, .int (nI hp), .int (nI cn), .ref dP, .ref dS, .int (nI fk), .int fp, .int (nI ka), .int (nI kn), .int (nI sv), .ref dK])), (dF, .inl (cI, 3000, .inl df)), (dH, .inl (cJ, 9, .inr (.inl dh3))), (dL, .inl (cI, 4096, .inl (upd dl3 q (nI 0)))), (dM, .inl (cI, 8192, .inl dm3))] := hD
          refine lv_aload_n hx hb dX4_load_136 rfl (lv_at hl 0 rfl) ?_
          refine va_get (D := (dC, dI)) (ci := 4) (v := .ref dM) (C := RX4) (T := TX4) (N := 21) hx hb hts (by decide +kernel) hown hK hP 0 rfl rfl 10 (by decide) (hts (.fieldLink RX4 20 "GlulxHeadsModel" "memory" "[I") (by decide +kernel)) (fun _ h9 => h9) rfl dX4_load_137 ?_
          refine lv_iload_n hx hb dX4_load_140 rfl (lv_at hl 1 rfl) ?_
          refine lv_aload_n hx hb dX4_load_141 rfl (lv_at hl 0 rfl) ?_
          refine va_get (D := (dC, dI)) (ci := 4) (v := .ref dL) (C := RX4) (T := TX4) (N := 21) hx hb hts (by decide +kernel) hown hK hP 0 rfl rfl 6 (by decide) (hts (.fieldLink RX4 17 "GlulxHeadsModel" "loaded" "[I") (by decide +kernel)) (fun _ h9 => h9) rfl dX4_load_142 ?_
          refine lv_iload_n hx hb dX4_load_145 rfl (lv_at hl 1 rfl) ?_
          refine wx_iald hx hb hK hP 3 1 rfl rfl (by omega) (by decide) dX4_load_146 ?_
          refine wx_iast hx hb hK hP hD hS 4 1 rfl rfl (by omega) (by decide) dX4_load_147 (fun H locs hP hD hS => ?_)
          have hP : va_P (dC, dI) vwCl [(oD, .inr (4, [.int (nI 0), .ref dF, .int (nI len), .int (nI 1), .ref dH, .int (nI 0), .ref dL, .int (nI (fw fb 16)), .int (nI (fw fb 8)), .int (nI (fw fb 16)), .ref dM, .int (nI hp), .int (nI cn), .ref dP, .ref dS, .int (nI fk), .int fp, .int (nI ka), .int (nI kn), .int (nI sv), .ref dK])), (dF, .inl (cI, 3000, .inl df)), (dH, .inl (cJ, 9, .inr (.inl dh3))), (dL, .inl (cI, 4096, .inl (upd dl3 q (nI 0)))), (dM, .inl (cI, 8192, .inl (upd dm3 q ((upd dl3 q (nI 0)) q))))] H := hP
          have hD : va_D A [(oD, .inr (4, [.int (nI 0), .ref dF, .int (nI len), .int (nI 1), .ref dH, .int (nI 0), .ref dL, .int (nI (fw fb 16)), .int (nI (fw fb 8)), .int (nI (fw fb 16)), .ref dM, .int (nI hp), .int (nI cn), .ref dP, .ref dS, .int (nI fk), .int fp, .int (nI ka), .int (nI kn), .int (nI sv), .ref dK])), (dF, .inl (cI, 3000, .inl df)), (dH, .inl (cJ, 9, .inr (.inl dh3))), (dL, .inl (cI, 4096, .inl (upd dl3 q (nI 0)))), (dM, .inl (cI, 8192, .inl (upd dm3 q ((upd dl3 q (nI 0)) q))))] := hD
          refine lv_iinc (v := nI (q + 1)) (lv' := [(2, .int (nI (q + 1))), (0, .ref oD)]) hx hb dX4_load_148 hl (k := 1) rfl (by rw [show Int32.ofInt 1 = nI 1 by decide]; exact nI_add _ _) (by decide) rfl (fun ls hl => ?_)
          refine lv_goto (tgt := 104) hx hb dX4_load_151 (by decide) ?_
          exact ih ((q + 1), (upd dl3 q (nI 0)), (upd dm3 q ((upd dl3 q (nI 0)) q))) _ _ _ (by omega) ⟨by omega, gOk_s hgl (by first | rfl | rw [hz q (by omega)]), gOk_s hgm (by first | (rw [pk_us]; done) | rw [pk_us, hz q (by omega)]), hP.sub [0, 1, 2, 3, 4] rfl, hD.sub [0, 1, 2, 3, 4] (by decide) rfl, hS, lv_sub hl [1, 0] rfl⟩
        · skip
          refine lv_aload_n hx hb dX4_load_125 rfl (lv_at hl 0 rfl) ?_
          refine va_get (D := (dC, dI)) (ci := 4) (v := .ref dF) (C := RX4) (T := TX4) (N := 21) hx hb hts (by decide +kernel) hown hK hP 0 rfl rfl 1 (by decide) (hts (.fieldLink RX4 7 "GlulxHeadsModel" "file" "[I") (by decide +kernel)) (fun _ h9 => h9) rfl dX4_load_126 ?_
          refine lv_iload_n hx hb dX4_load_129 rfl (lv_at hl 1 rfl) ?_
          refine wx_iald hx hb hK hP 1 1 rfl rfl (by omega) (by decide) dX4_load_130 ?_
          refine wx_top (hf q (by omega)) ?_
          refine lv_goto (tgt := 135) hx hb dX4_load_131 (by decide) ?_
          refine wx_iast hx hb hK hP hD hS 3 1 rfl rfl (by omega) (by decide) dX4_load_135 (fun H locs hP hD hS => ?_)
          have hP : va_P (dC, dI) vwCl [(oD, .inr (4, [.int (nI 0), .ref dF, .int (nI len), .int (nI 1), .ref dH, .int (nI 0), .ref dL, .int (nI (fw fb 16)), .int (nI (fw fb 8)), .int (nI (fw fb 16)), .ref dM, .int (nI hp), .int (nI cn), .ref dP, .ref dS, .int (nI fk), .int fp, .int (nI ka), .int (nI kn), .int (nI sv), .ref dK])), (dF, .inl (cI, 3000, .inl df)), (dH, .inl (cJ, 9, .inr (.inl dh3))), (dL, .inl (cI, 4096, .inl (upd dl3 q (nI (fb q))))), (dM, .inl (cI, 8192, .inl dm3))] H := hP
          have hD : va_D A [(oD, .inr (4, [.int (nI 0), .ref dF, .int (nI len), .int (nI 1), .ref dH, .int (nI 0), .ref dL, .int (nI (fw fb 16)), .int (nI (fw fb 8)), .int (nI (fw fb 16)), .ref dM, .int (nI hp), .int (nI cn), .ref dP, .ref dS, .int (nI fk), .int fp, .int (nI ka), .int (nI kn), .int (nI sv), .ref dK])), (dF, .inl (cI, 3000, .inl df)), (dH, .inl (cJ, 9, .inr (.inl dh3))), (dL, .inl (cI, 4096, .inl (upd dl3 q (nI (fb q))))), (dM, .inl (cI, 8192, .inl dm3))] := hD
          refine lv_aload_n hx hb dX4_load_136 rfl (lv_at hl 0 rfl) ?_
          refine va_get (D := (dC, dI)) (ci := 4) (v := .ref dM) (C := RX4) (T := TX4) (N := 21) hx hb hts (by decide +kernel) hown hK hP 0 rfl rfl 10 (by decide) (hts (.fieldLink RX4 20 "GlulxHeadsModel" "memory" "[I") (by decide +kernel)) (fun _ h9 => h9) rfl dX4_load_137 ?_
          refine lv_iload_n hx hb dX4_load_140 rfl (lv_at hl 1 rfl) ?_
          refine lv_aload_n hx hb dX4_load_141 rfl (lv_at hl 0 rfl) ?_
          refine va_get (D := (dC, dI)) (ci := 4) (v := .ref dL) (C := RX4) (T := TX4) (N := 21) hx hb hts (by decide +kernel) hown hK hP 0 rfl rfl 6 (by decide) (hts (.fieldLink RX4 17 "GlulxHeadsModel" "loaded" "[I") (by decide +kernel)) (fun _ h9 => h9) rfl dX4_load_142 ?_
          refine lv_iload_n hx hb dX4_load_145 rfl (lv_at hl 1 rfl) ?_
          refine wx_iald hx hb hK hP 3 1 rfl rfl (by omega) (by decide) dX4_load_146 ?_
          refine wx_iast hx hb hK hP hD hS 4 1 rfl rfl (by omega) (by decide) dX4_load_147 (fun H locs hP hD hS => ?_)
          have hP : va_P (dC, dI) vwCl [(oD, .inr (4, [.int (nI 0), .ref dF, .int (nI len), .int (nI 1), .ref dH, .int (nI 0), .ref dL, .int (nI (fw fb 16)), .int (nI (fw fb 8)), .int (nI (fw fb 16)), .ref dM, .int (nI hp), .int (nI cn), .ref dP, .ref dS, .int (nI fk), .int fp, .int (nI ka), .int (nI kn), .int (nI sv), .ref dK])), (dF, .inl (cI, 3000, .inl df)), (dH, .inl (cJ, 9, .inr (.inl dh3))), (dL, .inl (cI, 4096, .inl (upd dl3 q (nI (fb q))))), (dM, .inl (cI, 8192, .inl (upd dm3 q ((upd dl3 q (nI (fb q))) q))))] H := hP
          have hD : va_D A [(oD, .inr (4, [.int (nI 0), .ref dF, .int (nI len), .int (nI 1), .ref dH, .int (nI 0), .ref dL, .int (nI (fw fb 16)), .int (nI (fw fb 8)), .int (nI (fw fb 16)), .ref dM, .int (nI hp), .int (nI cn), .ref dP, .ref dS, .int (nI fk), .int fp, .int (nI ka), .int (nI kn), .int (nI sv), .ref dK])), (dF, .inl (cI, 3000, .inl df)), (dH, .inl (cJ, 9, .inr (.inl dh3))), (dL, .inl (cI, 4096, .inl (upd dl3 q (nI (fb q))))), (dM, .inl (cI, 8192, .inl (upd dm3 q ((upd dl3 q (nI (fb q))) q))))] := hD
          refine lv_iinc (v := nI (q + 1)) (lv' := [(2, .int (nI (q + 1))), (0, .ref oD)]) hx hb dX4_load_148 hl (k := 1) rfl (by rw [show Int32.ofInt 1 = nI 1 by decide]; exact nI_add _ _) (by decide) rfl (fun ls hl => ?_)
          refine lv_goto (tgt := 104) hx hb dX4_load_151 (by decide) ?_
          exact ih ((q + 1), (upd dl3 q (nI (fb q))), (upd dm3 q ((upd dl3 q (nI (fb q))) q))) _ _ _ (by omega) ⟨by omega, gOk_s hgl (by first | rfl | rw [hz q (by omega)]), gOk_s hgm (by first | (rw [pk_us]; done) | rw [pk_us, hz q (by omega)]), hP.sub [0, 1, 2, 3, 4] rfl, hD.sub [0, 1, 2, 3, 4] (by decide) rfl, hS, lv_sub hl [1, 0] rfl⟩
    · skip
      refine lv_iconst (v := nI 1) hx hb dX4_load_64 (by decide) ?_
      refine lv_goto (tgt := 69) hx hb dX4_load_65 (by decide) ?_
      refine va_put (D := (dC, dI)) (ci := 4) (v := .int (nI 1)) (ty := .boolean) (C := RX4) (T := TX4) (N := 21) hx hb hts (by decide +kernel) tyX4 tyX4_ok nmX4 hown hK hP hD hS 3 rfl rfl 5 (by decide) (hts (.fieldLink RX4 80 "GlulxHeadsModel" "sumRight" "Z") (by decide +kernel)) (fun _ h9 => h9) rfl (by decide +kernel) rfl rfl (Nat.le_of_ble_eq_true rfl) dX4_load_69 (fun H locs hP hD hS => ?_)
      have hP : va_P (dC, dI) vwCl [(dH, .inl (cJ, 9, .inr (.inl dh3))), (dL, .inl (cI, 4096, .inl dl)), (dM, .inl (cI, 8192, .inl dm)), (oD, .inr (4, [.int (nI 0), .ref dF, .int (nI len), .int (nI 1), .ref dH, .int (nI 1), .ref dL, .int (nI en), .int (nI ram), .int (nI mz), .ref dM, .int (nI hp), .int (nI cn), .ref dP, .ref dS, .int (nI fk), .int fp, .int (nI ka), .int (nI kn), .int (nI sv), .ref dK])), (dF, .inl (cI, 3000, .inl df))] H := hP
      have hD : va_D A [(dH, .inl (cJ, 9, .inr (.inl dh3))), (dL, .inl (cI, 4096, .inl dl)), (dM, .inl (cI, 8192, .inl dm)), (oD, .inr (4, [.int (nI 0), .ref dF, .int (nI len), .int (nI 1), .ref dH, .int (nI 1), .ref dL, .int (nI en), .int (nI ram), .int (nI mz), .ref dM, .int (nI hp), .int (nI cn), .ref dP, .ref dS, .int (nI fk), .int fp, .int (nI ka), .int (nI kn), .int (nI sv), .ref dK])), (dF, .inl (cI, 3000, .inl df))] := hD
      refine lv_aload_n hx hb dX4_load_72 rfl (lv_at hl 0 rfl) ?_
      refine lv_aload_n hx hb dX4_load_73 rfl (lv_at hl 0 rfl) ?_
      refine va_get (D := (dC, dI)) (ci := 4) (v := .ref dH) (C := RX4) (T := TX4) (N := 21) hx hb hts (by decide +kernel) hown hK hP 3 rfl rfl 4 (by decide) (hts (.fieldLink RX4 13 "GlulxHeadsModel" "head" "[J") (by decide +kernel)) (fun _ h9 => h9) rfl dX4_load_74 ?_
      refine lv_iconst (v := nI 2) hx hb dX4_load_77 (by decide) ?_
      refine wx_lald hx hb hK hP 0 2 rfl rfl (by omega) (by decide) dX4_load_78 ?_
      refine wx_topl (show dh3 2 = lN (fw fb 8) from hh 2 (by omega)) ?_
      refine lv_l2i (v := nI (fw fb 8)) hx hb dX4_load_79 (lN_i _) ?_
      refine va_put (D := (dC, dI)) (ci := 4) (v := .int (nI (fw fb 8))) (ty := .int) (C := RX4) (T := TX4) (N := 21) hx hb hts (by decide +kernel) tyX4 tyX4_ok nmX4 hown hK hP hD hS 3 rfl rfl 8 (by decide) (hts (.fieldLink RX4 83 "GlulxHeadsModel" "ram" "I") (by decide +kernel)) (fun _ h9 => h9) rfl (by decide +kernel) rfl rfl (Nat.le_of_ble_eq_true rfl) dX4_load_80 (fun H locs hP hD hS => ?_)
      have hP : va_P (dC, dI) vwCl [(dH, .inl (cJ, 9, .inr (.inl dh3))), (dL, .inl (cI, 4096, .inl dl)), (dM, .inl (cI, 8192, .inl dm)), (oD, .inr (4, [.int (nI 0), .ref dF, .int (nI len), .int (nI 1), .ref dH, .int (nI 1), .ref dL, .int (nI en), .int (nI (fw fb 8)), .int (nI mz), .ref dM, .int (nI hp), .int (nI cn), .ref dP, .ref dS, .int (nI fk), .int fp, .int (nI ka), .int (nI kn), .int (nI sv), .ref dK])), (dF, .inl (cI, 3000, .inl df))] H := hP
      have hD : va_D A [(dH, .inl (cJ, 9, .inr (.inl dh3))), (dL, .inl (cI, 4096, .inl dl)), (dM, .inl (cI, 8192, .inl dm)), (oD, .inr (4, [.int (nI 0), .ref dF, .int (nI len), .int (nI 1), .ref dH, .int (nI 1), .ref dL, .int (nI en), .int (nI (fw fb 8)), .int (nI mz), .ref dM, .int (nI hp), .int (nI cn), .ref dP, .ref dS, .int (nI fk), .int fp, .int (nI ka), .int (nI kn), .int (nI sv), .ref dK])), (dF, .inl (cI, 3000, .inl df))] := hD
      refine lv_aload_n hx hb dX4_load_83 rfl (lv_at hl 0 rfl) ?_
      refine lv_aload_n hx hb dX4_load_84 rfl (lv_at hl 0 rfl) ?_
      refine va_get (D := (dC, dI)) (ci := 4) (v := .ref dH) (C := RX4) (T := TX4) (N := 21) hx hb hts (by decide +kernel) hown hK hP 3 rfl rfl 4 (by decide) (hts (.fieldLink RX4 13 "GlulxHeadsModel" "head" "[J") (by decide +kernel)) (fun _ h9 => h9) rfl dX4_load_85 ?_
      refine lv_iconst (v := nI 4) hx hb dX4_load_88 (by decide) ?_
      refine wx_lald hx hb hK hP 0 2 rfl rfl (by omega) (by decide) dX4_load_89 ?_
      refine wx_topl (show dh3 4 = lN (fw fb 16) from hh 4 (by omega)) ?_
      refine lv_l2i (v := nI (fw fb 16)) hx hb dX4_load_90 (lN_i _) ?_
      refine va_put (D := (dC, dI)) (ci := 4) (v := .int (nI (fw fb 16))) (ty := .int) (C := RX4) (T := TX4) (N := 21) hx hb hts (by decide +kernel) tyX4 tyX4_ok nmX4 hown hK hP hD hS 3 rfl rfl 7 (by decide) (hts (.fieldLink RX4 86 "GlulxHeadsModel" "end" "I") (by decide +kernel)) (fun _ h9 => h9) rfl (by decide +kernel) rfl rfl (Nat.le_of_ble_eq_true rfl) dX4_load_91 (fun H locs hP hD hS => ?_)
      have hP : va_P (dC, dI) vwCl [(dH, .inl (cJ, 9, .inr (.inl dh3))), (dL, .inl (cI, 4096, .inl dl)), (dM, .inl (cI, 8192, .inl dm)), (oD, .inr (4, [.int (nI 0), .ref dF, .int (nI len), .int (nI 1), .ref dH, .int (nI 1), .ref dL, .int (nI (fw fb 16)), .int (nI (fw fb 8)), .int (nI mz), .ref dM, .int (nI hp), .int (nI cn), .ref dP, .ref dS, .int (nI fk), .int fp, .int (nI ka), .int (nI kn), .int (nI sv), .ref dK])), (dF, .inl (cI, 3000, .inl df))] H := hP
      have hD : va_D A [(dH, .inl (cJ, 9, .inr (.inl dh3))), (dL, .inl (cI, 4096, .inl dl)), (dM, .inl (cI, 8192, .inl dm)), (oD, .inr (4, [.int (nI 0), .ref dF, .int (nI len), .int (nI 1), .ref dH, .int (nI 1), .ref dL, .int (nI (fw fb 16)), .int (nI (fw fb 8)), .int (nI mz), .ref dM, .int (nI hp), .int (nI cn), .ref dP, .ref dS, .int (nI fk), .int fp, .int (nI ka), .int (nI kn), .int (nI sv), .ref dK])), (dF, .inl (cI, 3000, .inl df))] := hD
      refine lv_aload_n hx hb dX4_load_94 rfl (lv_at hl 0 rfl) ?_
      refine lv_aload_n hx hb dX4_load_95 rfl (lv_at hl 0 rfl) ?_
      refine va_get (D := (dC, dI)) (ci := 4) (v := .int (nI (fw fb 16))) (C := RX4) (T := TX4) (N := 21) hx hb hts (by decide +kernel) hown hK hP 3 rfl rfl 7 (by decide) (hts (.fieldLink RX4 86 "GlulxHeadsModel" "end" "I") (by decide +kernel)) (fun _ h9 => h9) rfl dX4_load_96 ?_
      refine va_put (D := (dC, dI)) (ci := 4) (v := .int (nI (fw fb 16))) (ty := .int) (C := RX4) (T := TX4) (N := 21) hx hb hts (by decide +kernel) tyX4 tyX4_ok nmX4 hown hK hP hD hS 3 rfl rfl 9 (by decide) (hts (.fieldLink RX4 89 "GlulxHeadsModel" "m" "I") (by decide +kernel)) (fun _ h9 => h9) rfl (by decide +kernel) rfl rfl (Nat.le_of_ble_eq_true rfl) dX4_load_99 (fun H locs hP hD hS => ?_)
      have hP : va_P (dC, dI) vwCl [(dH, .inl (cJ, 9, .inr (.inl dh3))), (dL, .inl (cI, 4096, .inl dl)), (dM, .inl (cI, 8192, .inl dm)), (oD, .inr (4, [.int (nI 0), .ref dF, .int (nI len), .int (nI 1), .ref dH, .int (nI 1), .ref dL, .int (nI (fw fb 16)), .int (nI (fw fb 8)), .int (nI (fw fb 16)), .ref dM, .int (nI hp), .int (nI cn), .ref dP, .ref dS, .int (nI fk), .int fp, .int (nI ka), .int (nI kn), .int (nI sv), .ref dK])), (dF, .inl (cI, 3000, .inl df))] H := hP
      have hD : va_D A [(dH, .inl (cJ, 9, .inr (.inl dh3))), (dL, .inl (cI, 4096, .inl dl)), (dM, .inl (cI, 8192, .inl dm)), (oD, .inr (4, [.int (nI 0), .ref dF, .int (nI len), .int (nI 1), .ref dH, .int (nI 1), .ref dL, .int (nI (fw fb 16)), .int (nI (fw fb 8)), .int (nI (fw fb 16)), .ref dM, .int (nI hp), .int (nI cn), .ref dP, .ref dS, .int (nI fk), .int fp, .int (nI ka), .int (nI kn), .int (nI sv), .ref dK])), (dF, .inl (cI, 3000, .inl df))] := hD
      refine lv_iconst (v := nI 0) hx hb dX4_load_102 (by decide) ?_
      refine lv_istore_n (lv' := [(2, .int (nI 0)), (0, .ref oD), (1, .int (nI (verd fb len)))]) hx hb dX4_load_103 rfl hl (by decide) rfl (fun ls hl => ?_)
      refine wx_loop (σ := Nat × (Nat → Int32) × (Nat → Int32)) (fun xq9 => fw fb 16 - xq9.1) (fun xq9 H locs ls => (xq9.1 ≤ fw fb 16) ∧ (gOk xq9.2.1 xq9.1 fb) ∧ (gOk xq9.2.2 xq9.1 fb) ∧ va_P (dC, dI) vwCl [(oD, .inr (4, [.int (nI 0), .ref dF, .int (nI len), .int (nI 1), .ref dH, .int (nI 1), .ref dL, .int (nI (fw fb 16)), .int (nI (fw fb 8)), .int (nI (fw fb 16)), .ref dM, .int (nI hp), .int (nI cn), .ref dP, .ref dS, .int (nI fk), .int fp, .int (nI ka), .int (nI kn), .int (nI sv), .ref dK])), (dF, .inl (cI, 3000, .inl df)), (dH, .inl (cJ, 9, .inr (.inl dh3))), (dL, .inl (cI, 4096, .inl xq9.2.1)), (dM, .inl (cI, 8192, .inl xq9.2.2))] H ∧ va_D A [(oD, .inr (4, [.int (nI 0), .ref dF, .int (nI len), .int (nI 1), .ref dH, .int (nI 1), .ref dL, .int (nI (fw fb 16)), .int (nI (fw fb 8)), .int (nI (fw fb 16)), .ref dM, .int (nI hp), .int (nI cn), .ref dP, .ref dS, .int (nI fk), .int fp, .int (nI ka), .int (nI kn), .int (nI sv), .ref dK])), (dF, .inl (cI, 3000, .inl df)), (dH, .inl (cJ, 9, .inr (.inl dh3))), (dL, .inl (cI, 4096, .inl xq9.2.1)), (dM, .inl (cI, 8192, .inl xq9.2.2))] ∧ va_S A s.heap H locs ∧ lv_has ls 3 [(0, .ref oD), (2, .int (nI xq9.1))]) ?_ (0, dl, dm) _ _ _ ⟨by omega, fun j hj => absurd hj (Nat.not_lt_zero _), fun j hj => absurd hj (Nat.not_lt_zero _), hP.sub [3, 4, 0, 1, 2] rfl, hD.sub [3, 4, 0, 1, 2] (by decide) rfl, hS, lv_sub hl [1, 0] rfl⟩
      rintro ⟨q, dl3, dm3⟩ H locs ls ⟨hq, hgl, hgm, hP, hD, hS, hl⟩ ih
      have hq : q ≤ fw fb 16 := hq
      have hgl : gOk dl3 q fb := hgl
      have hgm : gOk dm3 q fb := hgm
      have hP : va_P (dC, dI) vwCl [(oD, .inr (4, [.int (nI 0), .ref dF, .int (nI len), .int (nI 1), .ref dH, .int (nI 1), .ref dL, .int (nI (fw fb 16)), .int (nI (fw fb 8)), .int (nI (fw fb 16)), .ref dM, .int (nI hp), .int (nI cn), .ref dP, .ref dS, .int (nI fk), .int fp, .int (nI ka), .int (nI kn), .int (nI sv), .ref dK])), (dF, .inl (cI, 3000, .inl df)), (dH, .inl (cJ, 9, .inr (.inl dh3))), (dL, .inl (cI, 4096, .inl dl3)), (dM, .inl (cI, 8192, .inl dm3))] H := hP
      have hD : va_D A [(oD, .inr (4, [.int (nI 0), .ref dF, .int (nI len), .int (nI 1), .ref dH, .int (nI 1), .ref dL, .int (nI (fw fb 16)), .int (nI (fw fb 8)), .int (nI (fw fb 16)), .ref dM, .int (nI hp), .int (nI cn), .ref dP, .ref dS, .int (nI fk), .int fp, .int (nI ka), .int (nI kn), .int (nI sv), .ref dK])), (dF, .inl (cI, 3000, .inl df)), (dH, .inl (cJ, 9, .inr (.inl dh3))), (dL, .inl (cI, 4096, .inl dl3)), (dM, .inl (cI, 8192, .inl dm3))] := hD
      have hl : lv_has ls 3 [(0, .ref oD), (2, .int (nI q))] := hl
      refine lv_iload_n hx hb dX4_load_104 rfl (lv_at hl 1 rfl) ?_
      refine lv_aload_n hx hb dX4_load_105 rfl (lv_at hl 0 rfl) ?_
      refine va_get (D := (dC, dI)) (ci := 4) (v := .int (nI (fw fb 16))) (C := RX4) (T := TX4) (N := 21) hx hb hts (by decide +kernel) hown hK hP 0 rfl rfl 7 (by decide) (hts (.fieldLink RX4 86 "GlulxHeadsModel" "end" "I") (by decide +kernel)) (fun _ h9 => h9) rfl dX4_load_106 ?_
      refine wx_icmp_ge (tgt := 154) hx hb dX4_load_109 (by decide) (by omega) (by omega) (fun c_12 => ?_) (fun c_12 => ?_)
      · skip
        refine lv_aload_n hx hb dX4_load_154 rfl (lv_at hl 0 rfl) ?_
        refine lv_iconst (v := nI 0) hx hb dX4_load_155 (by decide) ?_
        refine va_put (D := (dC, dI)) (ci := 4) (v := .int (nI 0)) (ty := .int) (C := RX4) (T := TX4) (N := 21) hx hb hts (by decide +kernel) tyX4 tyX4_ok nmX4 hown hK hP hD hS 0 rfl rfl 11 (by decide) (hts (.fieldLink RX4 92 "GlulxHeadsModel" "heap" "I") (by decide +kernel)) (fun _ h9 => h9) rfl (by decide +kernel) rfl rfl (Nat.le_of_ble_eq_true rfl) dX4_load_156 (fun H locs hP hD hS => ?_)
        have hP : va_P (dC, dI) vwCl [(oD, .inr (4, [.int (nI 0), .ref dF, .int (nI len), .int (nI 1), .ref dH, .int (nI 1), .ref dL, .int (nI (fw fb 16)), .int (nI (fw fb 8)), .int (nI (fw fb 16)), .ref dM, .int (nI 0), .int (nI cn), .ref dP, .ref dS, .int (nI fk), .int fp, .int (nI ka), .int (nI kn), .int (nI sv), .ref dK])), (dF, .inl (cI, 3000, .inl df)), (dH, .inl (cJ, 9, .inr (.inl dh3))), (dL, .inl (cI, 4096, .inl dl3)), (dM, .inl (cI, 8192, .inl dm3))] H := hP
        have hD : va_D A [(oD, .inr (4, [.int (nI 0), .ref dF, .int (nI len), .int (nI 1), .ref dH, .int (nI 1), .ref dL, .int (nI (fw fb 16)), .int (nI (fw fb 8)), .int (nI (fw fb 16)), .ref dM, .int (nI 0), .int (nI cn), .ref dP, .ref dS, .int (nI fk), .int fp, .int (nI ka), .int (nI kn), .int (nI sv), .ref dK])), (dF, .inl (cI, 3000, .inl df)), (dH, .inl (cJ, 9, .inr (.inl dh3))), (dL, .inl (cI, 4096, .inl dl3)), (dM, .inl (cI, 8192, .inl dm3))] := hD
        refine lv_aload_n hx hb dX4_load_159 rfl (lv_at hl 0 rfl) ?_
        refine lv_iconst (v := nI 0) hx hb dX4_load_160 (by decide) ?_
        refine va_put (D := (dC, dI)) (ci := 4) (v := .int (nI 0)) (ty := .int) (C := RX4) (T := TX4) (N := 21) hx hb hts (by decide +kernel) tyX4 tyX4_ok nmX4 hown hK hP hD hS 0 rfl rfl 12 (by decide) (hts (.fieldLink RX4 95 "GlulxHeadsModel" "blocks" "I") (by decide +kernel)) (fun _ h9 => h9) rfl (by decide +kernel) rfl rfl (Nat.le_of_ble_eq_true rfl) dX4_load_161 (fun H locs hP hD hS => ?_)
        have hP : va_P (dC, dI) vwCl [(oD, .inr (4, [.int (nI 0), .ref dF, .int (nI len), .int (nI 1), .ref dH, .int (nI 1), .ref dL, .int (nI (fw fb 16)), .int (nI (fw fb 8)), .int (nI (fw fb 16)), .ref dM, .int (nI 0), .int (nI 0), .ref dP, .ref dS, .int (nI fk), .int fp, .int (nI ka), .int (nI kn), .int (nI sv), .ref dK])), (dF, .inl (cI, 3000, .inl df)), (dH, .inl (cJ, 9, .inr (.inl dh3))), (dL, .inl (cI, 4096, .inl dl3)), (dM, .inl (cI, 8192, .inl dm3))] H := hP
        have hD : va_D A [(oD, .inr (4, [.int (nI 0), .ref dF, .int (nI len), .int (nI 1), .ref dH, .int (nI 1), .ref dL, .int (nI (fw fb 16)), .int (nI (fw fb 8)), .int (nI (fw fb 16)), .ref dM, .int (nI 0), .int (nI 0), .ref dP, .ref dS, .int (nI fk), .int fp, .int (nI ka), .int (nI kn), .int (nI sv), .ref dK])), (dF, .inl (cI, 3000, .inl df)), (dH, .inl (cJ, 9, .inr (.inl dh3))), (dL, .inl (cI, 4096, .inl dl3)), (dM, .inl (cI, 8192, .inl dm3))] := hD
        refine lv_aload_n hx hb dX4_load_164 rfl (lv_at hl 0 rfl) ?_
        refine lv_iconst (v := nI 0) hx hb dX4_load_165 (by decide) ?_
        refine va_put (D := (dC, dI)) (ci := 4) (v := .int (nI 0)) (ty := .int) (C := RX4) (T := TX4) (N := 21) hx hb hts (by decide +kernel) tyX4 tyX4_ok nmX4 hown hK hP hD hS 0 rfl rfl 15 (by decide) (hts (.fieldLink RX4 98 "GlulxHeadsModel" "fault" "I") (by decide +kernel)) (fun _ h9 => h9) rfl (by decide +kernel) rfl rfl (Nat.le_of_ble_eq_true rfl) dX4_load_166 (fun H locs hP hD hS => ?_)
        have hP : va_P (dC, dI) vwCl [(oD, .inr (4, [.int (nI 0), .ref dF, .int (nI len), .int (nI 1), .ref dH, .int (nI 1), .ref dL, .int (nI (fw fb 16)), .int (nI (fw fb 8)), .int (nI (fw fb 16)), .ref dM, .int (nI 0), .int (nI 0), .ref dP, .ref dS, .int (nI 0), .int fp, .int (nI ka), .int (nI kn), .int (nI sv), .ref dK])), (dF, .inl (cI, 3000, .inl df)), (dH, .inl (cJ, 9, .inr (.inl dh3))), (dL, .inl (cI, 4096, .inl dl3)), (dM, .inl (cI, 8192, .inl dm3))] H := hP
        have hD : va_D A [(oD, .inr (4, [.int (nI 0), .ref dF, .int (nI len), .int (nI 1), .ref dH, .int (nI 1), .ref dL, .int (nI (fw fb 16)), .int (nI (fw fb 8)), .int (nI (fw fb 16)), .ref dM, .int (nI 0), .int (nI 0), .ref dP, .ref dS, .int (nI 0), .int fp, .int (nI ka), .int (nI kn), .int (nI sv), .ref dK])), (dF, .inl (cI, 3000, .inl df)), (dH, .inl (cJ, 9, .inr (.inl dh3))), (dL, .inl (cI, 4096, .inl dl3)), (dM, .inl (cI, 8192, .inl dm3))] := hD
        refine lv_aload_n hx hb dX4_load_169 rfl (lv_at hl 0 rfl) ?_
        refine lv_iconst (v := nI 0) hx hb dX4_load_170 (by decide) ?_
        refine va_put (D := (dC, dI)) (ci := 4) (v := .int (nI 0)) (ty := .int) (C := RX4) (T := TX4) (N := 21) hx hb hts (by decide +kernel) tyX4 tyX4_ok nmX4 hown hK hP hD hS 0 rfl rfl 16 (by decide) (hts (.fieldLink RX4 101 "GlulxHeadsModel" "faultAt" "I") (by decide +kernel)) (fun _ h9 => h9) rfl (by decide +kernel) rfl rfl (Nat.le_of_ble_eq_true rfl) dX4_load_171 (fun H locs hP hD hS => ?_)
        have hP : va_P (dC, dI) vwCl [(oD, .inr (4, [.int (nI 0), .ref dF, .int (nI len), .int (nI 1), .ref dH, .int (nI 1), .ref dL, .int (nI (fw fb 16)), .int (nI (fw fb 8)), .int (nI (fw fb 16)), .ref dM, .int (nI 0), .int (nI 0), .ref dP, .ref dS, .int (nI 0), .int (nI 0), .int (nI ka), .int (nI kn), .int (nI sv), .ref dK])), (dF, .inl (cI, 3000, .inl df)), (dH, .inl (cJ, 9, .inr (.inl dh3))), (dL, .inl (cI, 4096, .inl dl3)), (dM, .inl (cI, 8192, .inl dm3))] H := hP
        have hD : va_D A [(oD, .inr (4, [.int (nI 0), .ref dF, .int (nI len), .int (nI 1), .ref dH, .int (nI 1), .ref dL, .int (nI (fw fb 16)), .int (nI (fw fb 8)), .int (nI (fw fb 16)), .ref dM, .int (nI 0), .int (nI 0), .ref dP, .ref dS, .int (nI 0), .int (nI 0), .int (nI ka), .int (nI kn), .int (nI sv), .ref dK])), (dF, .inl (cI, 3000, .inl df)), (dH, .inl (cJ, 9, .inr (.inl dh3))), (dL, .inl (cI, 4096, .inl dl3)), (dM, .inl (cI, 8192, .inl dm3))] := hD
        refine lv_aload_n hx hb dX4_load_174 rfl (lv_at hl 0 rfl) ?_
        refine lv_iconst (v := nI 0) hx hb dX4_load_175 (by decide) ?_
        refine va_put (D := (dC, dI)) (ci := 4) (v := .int (nI 0)) (ty := .int) (C := RX4) (T := TX4) (N := 21) hx hb hts (by decide +kernel) tyX4 tyX4_ok nmX4 hown hK hP hD hS 0 rfl rfl 17 (by decide) (hts (.fieldLink RX4 104 "GlulxHeadsModel" "safeAt" "I") (by decide +kernel)) (fun _ h9 => h9) rfl (by decide +kernel) rfl rfl (Nat.le_of_ble_eq_true rfl) dX4_load_176 (fun H locs hP hD hS => ?_)
        have hP : va_P (dC, dI) vwCl [(oD, .inr (4, [.int (nI 0), .ref dF, .int (nI len), .int (nI 1), .ref dH, .int (nI 1), .ref dL, .int (nI (fw fb 16)), .int (nI (fw fb 8)), .int (nI (fw fb 16)), .ref dM, .int (nI 0), .int (nI 0), .ref dP, .ref dS, .int (nI 0), .int (nI 0), .int (nI 0), .int (nI kn), .int (nI sv), .ref dK])), (dF, .inl (cI, 3000, .inl df)), (dH, .inl (cJ, 9, .inr (.inl dh3))), (dL, .inl (cI, 4096, .inl dl3)), (dM, .inl (cI, 8192, .inl dm3))] H := hP
        have hD : va_D A [(oD, .inr (4, [.int (nI 0), .ref dF, .int (nI len), .int (nI 1), .ref dH, .int (nI 1), .ref dL, .int (nI (fw fb 16)), .int (nI (fw fb 8)), .int (nI (fw fb 16)), .ref dM, .int (nI 0), .int (nI 0), .ref dP, .ref dS, .int (nI 0), .int (nI 0), .int (nI 0), .int (nI kn), .int (nI sv), .ref dK])), (dF, .inl (cI, 3000, .inl df)), (dH, .inl (cJ, 9, .inr (.inl dh3))), (dL, .inl (cI, 4096, .inl dl3)), (dM, .inl (cI, 8192, .inl dm3))] := hD
        refine lv_aload_n hx hb dX4_load_179 rfl (lv_at hl 0 rfl) ?_
        refine lv_iconst (v := nI 0) hx hb dX4_load_180 (by decide) ?_
        refine va_put (D := (dC, dI)) (ci := 4) (v := .int (nI 0)) (ty := .int) (C := RX4) (T := TX4) (N := 21) hx hb hts (by decide +kernel) tyX4 tyX4_ok nmX4 hown hK hP hD hS 0 rfl rfl 18 (by decide) (hts (.fieldLink RX4 107 "GlulxHeadsModel" "safeMany" "I") (by decide +kernel)) (fun _ h9 => h9) rfl (by decide +kernel) rfl rfl (Nat.le_of_ble_eq_true rfl) dX4_load_181 (fun H locs hP hD hS => ?_)
        have hP : va_P (dC, dI) vwCl [(oD, .inr (4, [.int (nI 0), .ref dF, .int (nI len), .int (nI 1), .ref dH, .int (nI 1), .ref dL, .int (nI (fw fb 16)), .int (nI (fw fb 8)), .int (nI (fw fb 16)), .ref dM, .int (nI 0), .int (nI 0), .ref dP, .ref dS, .int (nI 0), .int (nI 0), .int (nI 0), .int (nI 0), .int (nI sv), .ref dK])), (dF, .inl (cI, 3000, .inl df)), (dH, .inl (cJ, 9, .inr (.inl dh3))), (dL, .inl (cI, 4096, .inl dl3)), (dM, .inl (cI, 8192, .inl dm3))] H := hP
        have hD : va_D A [(oD, .inr (4, [.int (nI 0), .ref dF, .int (nI len), .int (nI 1), .ref dH, .int (nI 1), .ref dL, .int (nI (fw fb 16)), .int (nI (fw fb 8)), .int (nI (fw fb 16)), .ref dM, .int (nI 0), .int (nI 0), .ref dP, .ref dS, .int (nI 0), .int (nI 0), .int (nI 0), .int (nI 0), .int (nI sv), .ref dK])), (dF, .inl (cI, 3000, .inl df)), (dH, .inl (cJ, 9, .inr (.inl dh3))), (dL, .inl (cI, 4096, .inl dl3)), (dM, .inl (cI, 8192, .inl dm3))] := hD
        refine lv_aload_n hx hb dX4_load_184 rfl (lv_at hl 0 rfl) ?_
        refine lv_iconst (v := nI 0) hx hb dX4_load_185 (by decide) ?_
        refine va_put (D := (dC, dI)) (ci := 4) (v := .int (nI 0)) (ty := .int) (C := RX4) (T := TX4) (N := 21) hx hb hts (by decide +kernel) tyX4 tyX4_ok nmX4 hown hK hP hD hS 0 rfl rfl 19 (by decide) (hts (.fieldLink RX4 110 "GlulxHeadsModel" "states" "I") (by decide +kernel)) (fun _ h9 => h9) rfl (by decide +kernel) rfl rfl (Nat.le_of_ble_eq_true rfl) dX4_load_186 (fun H locs hP hD hS => ?_)
        have hP : va_P (dC, dI) vwCl [(oD, .inr (4, [.int (nI 0), .ref dF, .int (nI len), .int (nI 1), .ref dH, .int (nI 1), .ref dL, .int (nI (fw fb 16)), .int (nI (fw fb 8)), .int (nI (fw fb 16)), .ref dM, .int (nI 0), .int (nI 0), .ref dP, .ref dS, .int (nI 0), .int (nI 0), .int (nI 0), .int (nI 0), .int (nI 0), .ref dK])), (dF, .inl (cI, 3000, .inl df)), (dH, .inl (cJ, 9, .inr (.inl dh3))), (dL, .inl (cI, 4096, .inl dl3)), (dM, .inl (cI, 8192, .inl dm3))] H := hP
        have hD : va_D A [(oD, .inr (4, [.int (nI 0), .ref dF, .int (nI len), .int (nI 1), .ref dH, .int (nI 1), .ref dL, .int (nI (fw fb 16)), .int (nI (fw fb 8)), .int (nI (fw fb 16)), .ref dM, .int (nI 0), .int (nI 0), .ref dP, .ref dS, .int (nI 0), .int (nI 0), .int (nI 0), .int (nI 0), .int (nI 0), .ref dK])), (dF, .inl (cI, 3000, .inl df)), (dH, .inl (cJ, 9, .inr (.inl dh3))), (dL, .inl (cI, 4096, .inl dl3)), (dM, .inl (cI, 8192, .inl dm3))] := hD
        refine lv_iconst (v := nI 0) hx hb dX4_load_189 (by decide) ?_
        have hP9 := hP.sub (ws' := [(oD, .inr (4, [.int (nI 0), .ref dF, .int (nI len), .int (nI 1), .ref dH, .int (nI 1), .ref dL, .int (nI (fw fb 16)), .int (nI (fw fb 8)), .int (nI (fw fb 16)), .ref dM, .int (nI 0), .int (nI 0), .ref dP, .ref dS, .int (nI 0), .int (nI 0), .int (nI 0), .int (nI 0), .int (nI 0), .ref dK])), (dF, .inl (cI, 3000, .inl df)), (dH, .inl (cJ, 9, .inr (.inl dh3))), (dL, .inl (cI, 4096, .inl dl3)), (dM, .inl (cI, 8192, .inl dm3))]) [0, 1, 2, 3, 4] rfl
        have hD9 := hD.sub (ws' := [(oD, .inr (4, [.int (nI 0), .ref dF, .int (nI len), .int (nI 1), .ref dH, .int (nI 1), .ref dL, .int (nI (fw fb 16)), .int (nI (fw fb 8)), .int (nI (fw fb 16)), .ref dM, .int (nI 0), .int (nI 0), .ref dP, .ref dS, .int (nI 0), .int (nI 0), .int (nI 0), .int (nI 0), .int (nI 0), .ref dK])), (dF, .inl (cI, 3000, .inl df)), (dH, .inl (cJ, 9, .inr (.inl dh3))), (dL, .inl (cI, 4096, .inl dl3)), (dM, .inl (cI, 8192, .inl dm3))]) [0, 1, 2, 3, 4] (by decide) rfl
        exact W.iret (v := nI 0) hx hb hr (fun t ht hW => ⟨⟨(nI 0), (dh3, dl3, dm3, 1), rfl, ⟨by rw [hv], fun k hk => hh k (by omega), by rw [if_pos (by assumption)], by rw [show fw fb 16 = q by omega]; exact hgl, by rw [show fw fb 16 = q by omega]; exact hgm⟩, by rw [ht]; exact hP9, hD9⟩, hS.F ht⟩) hS.2.2 dX4_load_190
      · skip
        refine lv_aload_n hx hb dX4_load_112 rfl (lv_at hl 0 rfl) ?_
        refine va_get (D := (dC, dI)) (ci := 4) (v := .ref dL) (C := RX4) (T := TX4) (N := 21) hx hb hts (by decide +kernel) hown hK hP 0 rfl rfl 6 (by decide) (hts (.fieldLink RX4 17 "GlulxHeadsModel" "loaded" "[I") (by decide +kernel)) (fun _ h9 => h9) rfl dX4_load_113 ?_
        refine lv_iload_n hx hb dX4_load_116 rfl (lv_at hl 1 rfl) ?_
        refine lv_iload_n hx hb dX4_load_117 rfl (lv_at hl 1 rfl) ?_
        refine lv_aload_n hx hb dX4_load_118 rfl (lv_at hl 0 rfl) ?_
        refine va_get (D := (dC, dI)) (ci := 4) (v := .int (nI len)) (C := RX4) (T := TX4) (N := 21) hx hb hts (by decide +kernel) hown hK hP 0 rfl rfl 2 (by decide) (hts (.fieldLink RX4 36 "GlulxHeadsModel" "size" "I") (by decide +kernel)) (fun _ h9 => h9) rfl dX4_load_119 ?_
        refine wx_icmp_ge (tgt := 134) hx hb dX4_load_122 (by decide) (by omega) (by omega) (fun c_13 => ?_) (fun c_13 => ?_)
        · skip
          refine lv_iconst (v := nI 0) hx hb dX4_load_134 (by decide) ?_
          refine wx_iast hx hb hK hP hD hS 3 1 rfl rfl (by omega) (by decide) dX4_load_135 (fun H locs hP hD hS => ?_)
          have hP : va_P (dC, dI) vwCl [(oD, .inr (4, [.int (nI 0), .ref dF, .int (nI len), .int (nI 1), .ref dH, .int (nI 1), .ref dL, .int (nI (fw fb 16)), .int (nI (fw fb 8)), .int (nI (fw fb 16)), .ref dM, .int (nI hp), .int (nI cn), .ref dP, .ref dS, .int (nI fk), .int fp, .int (nI ka), .int (nI kn), .int (nI sv), .ref dK])), (dF, .inl (cI, 3000, .inl df)), (dH, .inl (cJ, 9, .inr (.inl dh3))), (dL, .inl (cI, 4096, .inl (upd dl3 q (nI 0)))), (dM, .inl (cI, 8192, .inl dm3))] H := hP
          have hD : va_D A [(oD, .inr (4, [.int (nI 0), .ref dF, .int (nI len), .int (nI 1), .ref dH, .int (nI 1), .ref dL, .int (nI (fw fb 16)), .int (nI (fw fb 8)), .int (nI (fw fb 16)), .ref dM, .int (nI hp), .int (nI cn), .ref dP, .ref dS, .int (nI fk), .int fp, .int (nI ka), .int (nI kn), .int (nI sv), .ref dK])), (dF, .inl (cI, 3000, .inl df)), (dH, .inl (cJ, 9, .inr (.inl dh3))), (dL, .inl (cI, 4096, .inl (upd dl3 q (nI 0)))), (dM, .inl (cI, 8192, .inl dm3))] := hD
          refine lv_aload_n hx hb dX4_load_136 rfl (lv_at hl 0 rfl) ?_
          refine va_get (D := (dC, dI)) (ci := 4) (v := .ref dM) (C := RX4) (T := TX4) (N := 21) hx hb hts (by decide +kernel) hown hK hP 0 rfl rfl 10 (by decide) (hts (.fieldLink RX4 20 "GlulxHeadsModel" "memory" "[I") (by decide +kernel)) (fun _ h9 => h9) rfl dX4_load_137 ?_
          refine lv_iload_n hx hb dX4_load_140 rfl (lv_at hl 1 rfl) ?_
          refine lv_aload_n hx hb dX4_load_141 rfl (lv_at hl 0 rfl) ?_
          refine va_get (D := (dC, dI)) (ci := 4) (v := .ref dL) (C := RX4) (T := TX4) (N := 21) hx hb hts (by decide +kernel) hown hK hP 0 rfl rfl 6 (by decide) (hts (.fieldLink RX4 17 "GlulxHeadsModel" "loaded" "[I") (by decide +kernel)) (fun _ h9 => h9) rfl dX4_load_142 ?_
          refine lv_iload_n hx hb dX4_load_145 rfl (lv_at hl 1 rfl) ?_
          refine wx_iald hx hb hK hP 3 1 rfl rfl (by omega) (by decide) dX4_load_146 ?_
          refine wx_iast hx hb hK hP hD hS 4 1 rfl rfl (by omega) (by decide) dX4_load_147 (fun H locs hP hD hS => ?_)
          have hP : va_P (dC, dI) vwCl [(oD, .inr (4, [.int (nI 0), .ref dF, .int (nI len), .int (nI 1), .ref dH, .int (nI 1), .ref dL, .int (nI (fw fb 16)), .int (nI (fw fb 8)), .int (nI (fw fb 16)), .ref dM, .int (nI hp), .int (nI cn), .ref dP, .ref dS, .int (nI fk), .int fp, .int (nI ka), .int (nI kn), .int (nI sv), .ref dK])), (dF, .inl (cI, 3000, .inl df)), (dH, .inl (cJ, 9, .inr (.inl dh3))), (dL, .inl (cI, 4096, .inl (upd dl3 q (nI 0)))), (dM, .inl (cI, 8192, .inl (upd dm3 q ((upd dl3 q (nI 0)) q))))] H := hP
          have hD : va_D A [(oD, .inr (4, [.int (nI 0), .ref dF, .int (nI len), .int (nI 1), .ref dH, .int (nI 1), .ref dL, .int (nI (fw fb 16)), .int (nI (fw fb 8)), .int (nI (fw fb 16)), .ref dM, .int (nI hp), .int (nI cn), .ref dP, .ref dS, .int (nI fk), .int fp, .int (nI ka), .int (nI kn), .int (nI sv), .ref dK])), (dF, .inl (cI, 3000, .inl df)), (dH, .inl (cJ, 9, .inr (.inl dh3))), (dL, .inl (cI, 4096, .inl (upd dl3 q (nI 0)))), (dM, .inl (cI, 8192, .inl (upd dm3 q ((upd dl3 q (nI 0)) q))))] := hD
          refine lv_iinc (v := nI (q + 1)) (lv' := [(2, .int (nI (q + 1))), (0, .ref oD)]) hx hb dX4_load_148 hl (k := 1) rfl (by rw [show Int32.ofInt 1 = nI 1 by decide]; exact nI_add _ _) (by decide) rfl (fun ls hl => ?_)
          refine lv_goto (tgt := 104) hx hb dX4_load_151 (by decide) ?_
          exact ih ((q + 1), (upd dl3 q (nI 0)), (upd dm3 q ((upd dl3 q (nI 0)) q))) _ _ _ (by omega) ⟨by omega, gOk_s hgl (by first | rfl | rw [hz q (by omega)]), gOk_s hgm (by first | (rw [pk_us]; done) | rw [pk_us, hz q (by omega)]), hP.sub [0, 1, 2, 3, 4] rfl, hD.sub [0, 1, 2, 3, 4] (by decide) rfl, hS, lv_sub hl [1, 0] rfl⟩
        · skip
          refine lv_aload_n hx hb dX4_load_125 rfl (lv_at hl 0 rfl) ?_
          refine va_get (D := (dC, dI)) (ci := 4) (v := .ref dF) (C := RX4) (T := TX4) (N := 21) hx hb hts (by decide +kernel) hown hK hP 0 rfl rfl 1 (by decide) (hts (.fieldLink RX4 7 "GlulxHeadsModel" "file" "[I") (by decide +kernel)) (fun _ h9 => h9) rfl dX4_load_126 ?_
          refine lv_iload_n hx hb dX4_load_129 rfl (lv_at hl 1 rfl) ?_
          refine wx_iald hx hb hK hP 1 1 rfl rfl (by omega) (by decide) dX4_load_130 ?_
          refine wx_top (hf q (by omega)) ?_
          refine lv_goto (tgt := 135) hx hb dX4_load_131 (by decide) ?_
          refine wx_iast hx hb hK hP hD hS 3 1 rfl rfl (by omega) (by decide) dX4_load_135 (fun H locs hP hD hS => ?_)
          have hP : va_P (dC, dI) vwCl [(oD, .inr (4, [.int (nI 0), .ref dF, .int (nI len), .int (nI 1), .ref dH, .int (nI 1), .ref dL, .int (nI (fw fb 16)), .int (nI (fw fb 8)), .int (nI (fw fb 16)), .ref dM, .int (nI hp), .int (nI cn), .ref dP, .ref dS, .int (nI fk), .int fp, .int (nI ka), .int (nI kn), .int (nI sv), .ref dK])), (dF, .inl (cI, 3000, .inl df)), (dH, .inl (cJ, 9, .inr (.inl dh3))), (dL, .inl (cI, 4096, .inl (upd dl3 q (nI (fb q))))), (dM, .inl (cI, 8192, .inl dm3))] H := hP
          have hD : va_D A [(oD, .inr (4, [.int (nI 0), .ref dF, .int (nI len), .int (nI 1), .ref dH, .int (nI 1), .ref dL, .int (nI (fw fb 16)), .int (nI (fw fb 8)), .int (nI (fw fb 16)), .ref dM, .int (nI hp), .int (nI cn), .ref dP, .ref dS, .int (nI fk), .int fp, .int (nI ka), .int (nI kn), .int (nI sv), .ref dK])), (dF, .inl (cI, 3000, .inl df)), (dH, .inl (cJ, 9, .inr (.inl dh3))), (dL, .inl (cI, 4096, .inl (upd dl3 q (nI (fb q))))), (dM, .inl (cI, 8192, .inl dm3))] := hD
          refine lv_aload_n hx hb dX4_load_136 rfl (lv_at hl 0 rfl) ?_
          refine va_get (D := (dC, dI)) (ci := 4) (v := .ref dM) (C := RX4) (T := TX4) (N := 21) hx hb hts (by decide +kernel) hown hK hP 0 rfl rfl 10 (by decide) (hts (.fieldLink RX4 20 "GlulxHeadsModel" "memory" "[I") (by decide +kernel)) (fun _ h9 => h9) rfl dX4_load_137 ?_
          refine lv_iload_n hx hb dX4_load_140 rfl (lv_at hl 1 rfl) ?_
          refine lv_aload_n hx hb dX4_load_141 rfl (lv_at hl 0 rfl) ?_
          refine va_get (D := (dC, dI)) (ci := 4) (v := .ref dL) (C := RX4) (T := TX4) (N := 21) hx hb hts (by decide +kernel) hown hK hP 0 rfl rfl 6 (by decide) (hts (.fieldLink RX4 17 "GlulxHeadsModel" "loaded" "[I") (by decide +kernel)) (fun _ h9 => h9) rfl dX4_load_142 ?_
          refine lv_iload_n hx hb dX4_load_145 rfl (lv_at hl 1 rfl) ?_
          refine wx_iald hx hb hK hP 3 1 rfl rfl (by omega) (by decide) dX4_load_146 ?_
          refine wx_iast hx hb hK hP hD hS 4 1 rfl rfl (by omega) (by decide) dX4_load_147 (fun H locs hP hD hS => ?_)
          have hP : va_P (dC, dI) vwCl [(oD, .inr (4, [.int (nI 0), .ref dF, .int (nI len), .int (nI 1), .ref dH, .int (nI 1), .ref dL, .int (nI (fw fb 16)), .int (nI (fw fb 8)), .int (nI (fw fb 16)), .ref dM, .int (nI hp), .int (nI cn), .ref dP, .ref dS, .int (nI fk), .int fp, .int (nI ka), .int (nI kn), .int (nI sv), .ref dK])), (dF, .inl (cI, 3000, .inl df)), (dH, .inl (cJ, 9, .inr (.inl dh3))), (dL, .inl (cI, 4096, .inl (upd dl3 q (nI (fb q))))), (dM, .inl (cI, 8192, .inl (upd dm3 q ((upd dl3 q (nI (fb q))) q))))] H := hP
          have hD : va_D A [(oD, .inr (4, [.int (nI 0), .ref dF, .int (nI len), .int (nI 1), .ref dH, .int (nI 1), .ref dL, .int (nI (fw fb 16)), .int (nI (fw fb 8)), .int (nI (fw fb 16)), .ref dM, .int (nI hp), .int (nI cn), .ref dP, .ref dS, .int (nI fk), .int fp, .int (nI ka), .int (nI kn), .int (nI sv), .ref dK])), (dF, .inl (cI, 3000, .inl df)), (dH, .inl (cJ, 9, .inr (.inl dh3))), (dL, .inl (cI, 4096, .inl (upd dl3 q (nI (fb q))))), (dM, .inl (cI, 8192, .inl (upd dm3 q ((upd dl3 q (nI (fb q))) q))))] := hD
          refine lv_iinc (v := nI (q + 1)) (lv' := [(2, .int (nI (q + 1))), (0, .ref oD)]) hx hb dX4_load_148 hl (k := 1) rfl (by rw [show Int32.ofInt 1 = nI 1 by decide]; exact nI_add _ _) (by decide) rfl (fun ls hl => ?_)
          refine lv_goto (tgt := 104) hx hb dX4_load_151 (by decide) ?_
          exact ih ((q + 1), (upd dl3 q (nI (fb q))), (upd dm3 q ((upd dl3 q (nI (fb q))) q))) _ _ _ (by omega) ⟨by omega, gOk_s hgl (by first | rfl | rw [hz q (by omega)]), gOk_s hgm (by first | (rw [pk_us]; done) | rw [pk_us, hz q (by omega)]), hP.sub [0, 1, 2, 3, 4] rfl, hD.sub [0, 1, 2, 3, 4] (by decide) rfl, hS, lv_sub hl [1, 0] rfl⟩
  · skip
    refine lv_aload_n hx hb dX4_load_29 rfl (lv_at hl 0 rfl) ?_
    refine va_get (D := (dC, dI)) (ci := 4) (v := .ref dH) (C := RX4) (T := TX4) (N := 21) hx hb hts (by decide +kernel) hown hK hP 0 rfl rfl 4 (by decide) (hts (.fieldLink RX4 13 "GlulxHeadsModel" "head" "[J") (by decide +kernel)) (fun _ h9 => h9) rfl dX4_load_30 ?_
    refine lv_iload_n hx hb dX4_load_33 rfl (lv_at hl 2 rfl) ?_
    refine lv_aload_n hx hb dX4_load_34 rfl (lv_at hl 0 rfl) ?_
    refine lv_iconst (v := nI 4) hx hb dX4_load_35 (by decide) ?_
    refine lv_iload_n hx hb dX4_load_36 rfl (lv_at hl 2 rfl) ?_
    refine wx_imul hx hb dX4_load_37 ?_
    have hPc := hP.sub (ws' := [(oD, .inr (4, [.int (nI 0), .ref dF, .int (nI len), .int (nI 1), .ref dH, .int (nI sr), .ref dL, .int (nI en), .int (nI ram), .int (nI mz), .ref dM, .int (nI hp), .int (nI cn), .ref dP, .ref dS, .int (nI fk), .int fp, .int (nI ka), .int (nI kn), .int (nI sv), .ref dK])), (dF, .inl (cI, 3000, .inl df))]) [0, 1] rfl
    have hDc := hD.sub (ws' := [(oD, .inr (4, [.int (nI 0), .ref dF, .int (nI len), .int (nI 1), .ref dH, .int (nI sr), .ref dL, .int (nI en), .int (nI ram), .int (nI mz), .ref dM, .int (nI hp), .int (nI cn), .ref dP, .ref dS, .int (nI fk), .int fp, .int (nI ka), .int (nI kn), .int (nI sv), .ref dK])), (dF, .inl (cI, 3000, .inl df))]) [0, 1] (by decide) rfl
    have hFc := va_free (wc := [(oD, .inr (4, [.int (nI 0), .ref dF, .int (nI len), .int (nI 1), .ref dH, .int (nI sr), .ref dL, .int (nI en), .int (nI ram), .int (nI mz), .ref dM, .int (nI hp), .int (nI cn), .ref dP, .ref dS, .int (nI fk), .int fp, .int (nI ka), .int (nI kn), .int (nI sv), .ref dK])), (dF, .inl (cI, 3000, .inl df))]) hD hS hA [0, 1] rfl
    refine va_calll (va_runV (As := [.int (nI (4 * i))]) (rest := [.int (nI i), .ref dH]) ⟨hx, hb, hml, hown, hts⟩ (c_X4_wordAt l dC dI cB cI cJ H.size oD 0 dF len 1 dH sr dL en ram mz dM hp cn dP dS fk fp ka kn sv dK df fb (4 * i) (by omega) hf hfb hz (by omega)) (cwV 1 hts gX4_load_X4_wordAt rfl rfl rfl (by decide +kernel) ⟨Nat.le_of_ble_eq_true rfl, Nat.le_of_ble_eq_true rfl⟩) ⟨wBlind, va_recv hK hPc (ci := 4) (q0 := 0) rfl rfl, wGo hK hPc hDc hN⟩ rfl rfl hl.1 rfl (lv_room (Nat.le_of_ble_eq_true rfl)) dX4_load_38 ⟨show 0 ≤ 0 by decide, show 0 ≤ 0 by decide⟩) hS (fun q _ h => hFc q h) hFc (fun r_15 u t H1 locs ht hvm w_16 hB hz1 hk1 hS => ?_)
    clear u
    obtain ⟨hP1, hD1⟩ := hB
    rw [ht] at hP1
    try dsimp only at w_16
    obtain ⟨hP, hD⟩ := va_join (wr := [(dH, .inl (cJ, 9, .inr (.inl dh3))), (dL, .inl (cI, 4096, .inl dl)), (dM, .inl (cI, 8192, .inl dm))]) (w1 := [(oD, .inr (4, [.int (nI 0), .ref dF, .int (nI len), .int (nI 1), .ref dH, .int (nI sr), .ref dL, .int (nI en), .int (nI ram), .int (nI mz), .ref dM, .int (nI hp), .int (nI cn), .ref dP, .ref dS, .int (nI fk), .int fp, .int (nI ka), .int (nI kn), .int (nI sv), .ref dK])), (dF, .inl (cI, 3000, .inl df))]) hP hD [0, 1] [2, 3, 4] rfl rfl (by decide) (by decide) hk1 hFc hP1 hD1
    clear hPc hDc hFc hP1 hD1 hz1 hk1 hvm
    generalize H1 = H at hP hS ⊢
    have hP : va_P (dC, dI) vwCl [(dH, .inl (cJ, 9, .inr (.inl dh3))), (dL, .inl (cI, 4096, .inl dl)), (dM, .inl (cI, 8192, .inl dm)), (oD, .inr (4, [.int (nI 0), .ref dF, .int (nI len), .int (nI 1), .ref dH, .int (nI sr), .ref dL, .int (nI en), .int (nI ram), .int (nI mz), .ref dM, .int (nI hp), .int (nI cn), .ref dP, .ref dS, .int (nI fk), .int fp, .int (nI ka), .int (nI kn), .int (nI sv), .ref dK])), (dF, .inl (cI, 3000, .inl df))] H := hP
    have hD : va_D A [(dH, .inl (cJ, 9, .inr (.inl dh3))), (dL, .inl (cI, 4096, .inl dl)), (dM, .inl (cI, 8192, .inl dm)), (oD, .inr (4, [.int (nI 0), .ref dF, .int (nI len), .int (nI 1), .ref dH, .int (nI sr), .ref dL, .int (nI en), .int (nI ram), .int (nI mz), .ref dM, .int (nI hp), .int (nI cn), .ref dP, .ref dS, .int (nI fk), .int fp, .int (nI ka), .int (nI kn), .int (nI sv), .ref dK])), (dF, .inl (cI, 3000, .inl df))] := hD
    subst w_16
    refine wx_last hx hb hK hP hD hS 0 2 rfl rfl (by omega) (by decide) dX4_load_41 (fun H locs hP hD hS => ?_)
    have hP : va_P (dC, dI) vwCl [(dH, .inl (cJ, 9, .inr (.inl (vp_updL dh3 i (lN (fw fb (4 * i))))))), (dL, .inl (cI, 4096, .inl dl)), (dM, .inl (cI, 8192, .inl dm)), (oD, .inr (4, [.int (nI 0), .ref dF, .int (nI len), .int (nI 1), .ref dH, .int (nI sr), .ref dL, .int (nI en), .int (nI ram), .int (nI mz), .ref dM, .int (nI hp), .int (nI cn), .ref dP, .ref dS, .int (nI fk), .int fp, .int (nI ka), .int (nI kn), .int (nI sv), .ref dK])), (dF, .inl (cI, 3000, .inl df))] H := hP
    have hD : va_D A [(dH, .inl (cJ, 9, .inr (.inl (vp_updL dh3 i (lN (fw fb (4 * i))))))), (dL, .inl (cI, 4096, .inl dl)), (dM, .inl (cI, 8192, .inl dm)), (oD, .inr (4, [.int (nI 0), .ref dF, .int (nI len), .int (nI 1), .ref dH, .int (nI sr), .ref dL, .int (nI en), .int (nI ram), .int (nI mz), .ref dM, .int (nI hp), .int (nI cn), .ref dP, .ref dS, .int (nI fk), .int fp, .int (nI ka), .int (nI kn), .int (nI sv), .ref dK])), (dF, .inl (cI, 3000, .inl df))] := hD
    refine lv_iinc (v := nI (i + 1)) (lv' := [(2, .int (nI (i + 1))), (0, .ref oD), (1, .int (nI (verd fb len)))]) hx hb dX4_load_42 hl (k := 2) rfl (by rw [show Int32.ofInt 1 = nI 1 by decide]; exact nI_add _ _) (by decide) rfl (fun ls hl => ?_)
    refine lv_goto (tgt := 23) hx hb dX4_load_45 (by decide) ?_
    exact ih ((i + 1), (vp_updL dh3 i (lN (fw fb (4 * i))))) _ _ _ (by omega) ⟨by omega, hd_s hh, hP.sub [3, 4, 0, 1, 2] rfl, hD.sub [3, 4, 0, 1, 2] (by decide) rfl, hS, lv_sub hl [1, 2, 0] rfl⟩
set_option maxHeartbeats 4000000 in
set_option maxRecDepth 100000 in
theorem c_X4_told_N (l : Launch) (dC : Nat → ClassId) (dI : Nat → Nat → Nat) (cB cI cJ : ClassId) (sz : Nat) (oD : Nat) (th : Nat) (dF : Nat) (len : Nat) (dH : Nat) (sr : Nat) (dL : Nat) (en : Nat) (ram : Nat) (mz : Nat) (dM : Nat) (hp : Nat) (cn : Nat) (dP : Nat) (dS : Nat) (fk : Nat) (fp : Int32) (ka : Nat) (kn : Nat) (sv : Nat) (dK : Nat) (wv : Int32)  : Met l yX4_told wsX4_told ({ frames := 1, cells := 0, slots := 0, locals := 25 }) (va_Pc [.ref oD, .int wv] (wPre dC dI cB cI cJ sz [(oD, .inr (4, [.int (nI th), .ref dF, .int (nI len), .int (nI 0), .ref dH, .int (nI sr), .ref dL, .int (nI en), .int (nI ram), .int (nI mz), .ref dM, .int (nI hp), .int (nI cn), .ref dP, .ref dS, .int (nI fk), .int fp, .int (nI ka), .int (nI kn), .int (nI sv), .ref dK]))])) (va_Ql (fun (r : Int64) (u : Unit) => r = NOTH) (fun (u : Unit) => wPost dC dI (va_A [(oD, .inr (4, [.int (nI th), .ref dF, .int (nI len), .int (nI 0), .ref dH, .int (nI sr), .ref dL, .int (nI en), .int (nI ram), .int (nI mz), .ref dM, .int (nI hp), .int (nI cn), .ref dP, .ref dS, .int (nI fk), .int fp, .int (nI ka), .int (nI kn), .int (nI sv), .ref dK]))] sz) [(oD, .inr (4, [.int (nI 0), .ref dF, .int (nI len), .int (nI 0), .ref dH, .int (nI sr), .ref dL, .int (nI en), .int (nI ram), .int (nI mz), .ref dM, .int (nI hp), .int (nI cn), .ref dP, .ref dS, .int (nI fk), .int fp, .int (nI ka), .int (nI kn), .int (nI sv), .ref dK]))]) (va_A [(oD, .inr (4, [.int (nI th), .ref dF, .int (nI len), .int (nI 0), .ref dH, .int (nI sr), .ref dL, .int (nI en), .int (nI ram), .int (nI mz), .ref dM, .int (nI hp), .int (nI cn), .ref dP, .ref dS, .int (nI fk), .int fp, .int (nI ka), .int (nI kn), .int (nI sv), .ref dK]))] sz)) 0 0 (va_A [(oD, .inr (4, [.int (nI th), .ref dF, .int (nI len), .int (nI 0), .ref dH, .int (nI sr), .ref dL, .int (nI en), .int (nI ram), .int (nI mz), .ref dM, .int (nI hp), .int (nI cn), .ref dP, .ref dS, .int (nI fk), .int fp, .int (nI ka), .int (nI kn), .int (nI sv), .ref dK]))] sz) := by
  refine Met.ofW (cc := cX4_told) (maxL := 2) (ret := (some .long)) (by decide) rfl ?_
  intro p e s m args below meth c s₁ B hml hv
  obtain ⟨rfl, hsz, hP, hK, hD0, hN⟩ := hv
  have hx := B.exec
  have hb := B.bytes
  have hr := B.returns
  have hts := atoms_spec (ws := wsX4_told) B.pre
  have hown : s.vm.findClass RX4 = some m.cls := findClass_of_methodNamed B.named
  have hlocks := B.notSynchronized
  subst hsz
  have hD := hD0.self (sz := s.heap.size)
  generalize hAe : va_A [(oD, .inr (4, [.int (nI th), .ref dF, .int (nI len), .int (nI 0), .ref dH, .int (nI sr), .ref dL, .int (nI en), .int (nI ram), .int (nI mz), .ref dM, .int (nI hp), .int (nI cn), .ref dP, .ref dS, .int (nI fk), .int fp, .int (nI ka), .int (nI kn), .int (nI sv), .ref dK]))] s.heap.size = A at hD ⊢
  have hA : ∀ q : Nat, s.heap.size ≤ q → A q := fun q h => by rw [← hAe]; exact Or.inr h
  have hS : va_S A s.heap s.heap [] := va_S.rf
  have hP : va_P (dC, dI) vwCl [(oD, .inr (4, [.int (nI th), .ref dF, .int (nI len), .int (nI 0), .ref dH, .int (nI sr), .ref dL, .int (nI en), .int (nI ram), .int (nI mz), .ref dM, .int (nI hp), .int (nI cn), .ref dP, .ref dS, .int (nI fk), .int fp, .int (nI ka), .int (nI kn), .int (nI sv), .ref dK]))] s.heap := hP
  have hl := lv_entry ([.ref oD, .int wv]) (n := 2) (Nat.le_of_ble_eq_true rfl)
  rw [lg_entry_eq]
  generalize (lg_sl ([.ref oD, .int wv]) ++ List.replicate (2 - (lg_sl ([.ref oD, .int wv])).length) Slot.unset).toArray = ls at hl ⊢
  have hl : lv_has ls 2 [(0, .ref oD), (1, .int wv)] := hl
  refine lv_aload_n hx hb dX4_told_0 rfl (lv_at hl 0 rfl) ?_
  refine lv_iconst (v := nI 0) hx hb dX4_told_1 (by decide) ?_
  refine va_put (D := (dC, dI)) (ci := 4) (v := .int (nI 0)) (ty := .int) (C := RX4) (T := TX4) (N := 21) hx hb hts (by decide +kernel) tyX4 tyX4_ok nmX4 hown hK hP hD hS 0 rfl rfl 0 (by decide) (hts (.fieldLink RX4 32 "GlulxHeadsModel" "thrown" "I") (by decide +kernel)) (fun _ h9 => h9) rfl (by decide +kernel) rfl rfl (Nat.le_of_ble_eq_true rfl) dX4_told_2 (fun H locs hP hD hS => ?_)
  have hP : va_P (dC, dI) vwCl [(oD, .inr (4, [.int (nI 0), .ref dF, .int (nI len), .int (nI 0), .ref dH, .int (nI sr), .ref dL, .int (nI en), .int (nI ram), .int (nI mz), .ref dM, .int (nI hp), .int (nI cn), .ref dP, .ref dS, .int (nI fk), .int fp, .int (nI ka), .int (nI kn), .int (nI sv), .ref dK]))] H := hP
  have hD : va_D A [(oD, .inr (4, [.int (nI 0), .ref dF, .int (nI len), .int (nI 0), .ref dH, .int (nI sr), .ref dL, .int (nI en), .int (nI ram), .int (nI mz), .ref dM, .int (nI hp), .int (nI cn), .ref dP, .ref dS, .int (nI fk), .int fp, .int (nI ka), .int (nI kn), .int (nI sv), .ref dK]))] := hD
  refine lv_aload_n hx hb dX4_told_5 rfl (lv_at hl 0 rfl) ?_
  refine va_get (D := (dC, dI)) (ci := 4) (v := .int (nI 0)) (C := RX4) (T := TX4) (N := 21) hx hb hts (by decide +kernel) hown hK hP 0 rfl rfl 3 (by decide) (hts (.fieldLink RX4 76 "GlulxHeadsModel" "has" "Z") (by decide +kernel)) (fun _ h9 => h9) rfl dX4_told_6 ?_
  refine wx_if_eq (tgt := 24) hx hb dX4_told_9 (by decide) (by omega) (fun c_1 => ?_) (fun c_1 => absurd c_1 (by decide))
  refine lv_ldc2 (v := (-9223372036854775808)) hx hb hown (hts (.constantLong RX4 70 (-9223372036854775808)) (by decide +kernel)) dX4_told_24 ?_
  have hP9 := hP.sub (ws' := [(oD, .inr (4, [.int (nI 0), .ref dF, .int (nI len), .int (nI 0), .ref dH, .int (nI sr), .ref dL, .int (nI en), .int (nI ram), .int (nI mz), .ref dM, .int (nI hp), .int (nI cn), .ref dP, .ref dS, .int (nI fk), .int fp, .int (nI ka), .int (nI kn), .int (nI sv), .ref dK]))]) [0] rfl
  have hD9 := hD.sub (ws' := [(oD, .inr (4, [.int (nI 0), .ref dF, .int (nI len), .int (nI 0), .ref dH, .int (nI sr), .ref dL, .int (nI en), .int (nI ram), .int (nI mz), .ref dM, .int (nI hp), .int (nI cn), .ref dP, .ref dS, .int (nI fk), .int fp, .int (nI ka), .int (nI kn), .int (nI sv), .ref dK]))]) [0] (by decide) rfl
  exact W.lret (v := (-9223372036854775808)) hx hb hr (fun t ht hW => ⟨⟨(-9223372036854775808), (), rfl, rfl, by rw [ht]; exact hP9, hD9⟩, hS.F ht⟩) hS.2.2 dX4_told_27
set_option maxHeartbeats 4000000 in
set_option maxRecDepth 100000 in
theorem c_X4_read_N (l : Launch) (dC : Nat → ClassId) (dI : Nat → Nat → Nat) (cB cI cJ : ClassId) (sz : Nat) (oD : Nat) (th : Nat) (dF : Nat) (len : Nat) (dH : Nat) (sr : Nat) (dL : Nat) (en : Nat) (ram : Nat) (mz : Nat) (dM : Nat) (hp : Nat) (cn : Nat) (dP : Nat) (dS : Nat) (fk : Nat) (fp : Int32) (ka : Nat) (kn : Nat) (sv : Nat) (dK : Nat) (wv : Int32) (av : Int32)  : Met l yX4_read wsX4_read ({ frames := 1, cells := 0, slots := 0, locals := 25 }) (va_Pc [.ref oD, .int wv, .int av] (wPre dC dI cB cI cJ sz [(oD, .inr (4, [.int (nI th), .ref dF, .int (nI len), .int (nI 0), .ref dH, .int (nI sr), .ref dL, .int (nI en), .int (nI ram), .int (nI mz), .ref dM, .int (nI hp), .int (nI cn), .ref dP, .ref dS, .int (nI fk), .int fp, .int (nI ka), .int (nI kn), .int (nI sv), .ref dK]))])) (va_Ql (fun (r : Int64) (u : Unit) => r = NOTH) (fun (u : Unit) => wPost dC dI (va_A [(oD, .inr (4, [.int (nI th), .ref dF, .int (nI len), .int (nI 0), .ref dH, .int (nI sr), .ref dL, .int (nI en), .int (nI ram), .int (nI mz), .ref dM, .int (nI hp), .int (nI cn), .ref dP, .ref dS, .int (nI fk), .int fp, .int (nI ka), .int (nI kn), .int (nI sv), .ref dK]))] sz) [(oD, .inr (4, [.int (nI 0), .ref dF, .int (nI len), .int (nI 0), .ref dH, .int (nI sr), .ref dL, .int (nI en), .int (nI ram), .int (nI mz), .ref dM, .int (nI hp), .int (nI cn), .ref dP, .ref dS, .int (nI fk), .int fp, .int (nI ka), .int (nI kn), .int (nI sv), .ref dK]))]) (va_A [(oD, .inr (4, [.int (nI th), .ref dF, .int (nI len), .int (nI 0), .ref dH, .int (nI sr), .ref dL, .int (nI en), .int (nI ram), .int (nI mz), .ref dM, .int (nI hp), .int (nI cn), .ref dP, .ref dS, .int (nI fk), .int fp, .int (nI ka), .int (nI kn), .int (nI sv), .ref dK]))] sz)) 0 0 (va_A [(oD, .inr (4, [.int (nI th), .ref dF, .int (nI len), .int (nI 0), .ref dH, .int (nI sr), .ref dL, .int (nI en), .int (nI ram), .int (nI mz), .ref dM, .int (nI hp), .int (nI cn), .ref dP, .ref dS, .int (nI fk), .int fp, .int (nI ka), .int (nI kn), .int (nI sv), .ref dK]))] sz) := by
  refine Met.ofW (cc := cX4_read) (maxL := 6) (ret := (some .long)) (by decide) rfl ?_
  intro p e s m args below meth c s₁ B hml hv
  obtain ⟨rfl, hsz, hP, hK, hD0, hN⟩ := hv
  have hx := B.exec
  have hb := B.bytes
  have hr := B.returns
  have hts := atoms_spec (ws := wsX4_read) B.pre
  have hown : s.vm.findClass RX4 = some m.cls := findClass_of_methodNamed B.named
  have hlocks := B.notSynchronized
  subst hsz
  have hD := hD0.self (sz := s.heap.size)
  generalize hAe : va_A [(oD, .inr (4, [.int (nI th), .ref dF, .int (nI len), .int (nI 0), .ref dH, .int (nI sr), .ref dL, .int (nI en), .int (nI ram), .int (nI mz), .ref dM, .int (nI hp), .int (nI cn), .ref dP, .ref dS, .int (nI fk), .int fp, .int (nI ka), .int (nI kn), .int (nI sv), .ref dK]))] s.heap.size = A at hD ⊢
  have hA : ∀ q : Nat, s.heap.size ≤ q → A q := fun q h => by rw [← hAe]; exact Or.inr h
  have hS : va_S A s.heap s.heap [] := va_S.rf
  have hP : va_P (dC, dI) vwCl [(oD, .inr (4, [.int (nI th), .ref dF, .int (nI len), .int (nI 0), .ref dH, .int (nI sr), .ref dL, .int (nI en), .int (nI ram), .int (nI mz), .ref dM, .int (nI hp), .int (nI cn), .ref dP, .ref dS, .int (nI fk), .int fp, .int (nI ka), .int (nI kn), .int (nI sv), .ref dK]))] s.heap := hP
  have hl := lv_entry ([.ref oD, .int wv, .int av]) (n := 6) (Nat.le_of_ble_eq_true rfl)
  rw [lg_entry_eq]
  generalize (lg_sl ([.ref oD, .int wv, .int av]) ++ List.replicate (6 - (lg_sl ([.ref oD, .int wv, .int av])).length) Slot.unset).toArray = ls at hl ⊢
  have hl : lv_has ls 6 [(0, .ref oD), (1, .int wv), (2, .int av)] := hl
  refine lv_aload_n hx hb dX4_read_0 rfl (lv_at hl 0 rfl) ?_
  refine lv_iconst (v := nI 0) hx hb dX4_read_1 (by decide) ?_
  refine va_put (D := (dC, dI)) (ci := 4) (v := .int (nI 0)) (ty := .int) (C := RX4) (T := TX4) (N := 21) hx hb hts (by decide +kernel) tyX4 tyX4_ok nmX4 hown hK hP hD hS 0 rfl rfl 0 (by decide) (hts (.fieldLink RX4 32 "GlulxHeadsModel" "thrown" "I") (by decide +kernel)) (fun _ h9 => h9) rfl (by decide +kernel) rfl rfl (Nat.le_of_ble_eq_true rfl) dX4_read_2 (fun H locs hP hD hS => ?_)
  have hP : va_P (dC, dI) vwCl [(oD, .inr (4, [.int (nI 0), .ref dF, .int (nI len), .int (nI 0), .ref dH, .int (nI sr), .ref dL, .int (nI en), .int (nI ram), .int (nI mz), .ref dM, .int (nI hp), .int (nI cn), .ref dP, .ref dS, .int (nI fk), .int fp, .int (nI ka), .int (nI kn), .int (nI sv), .ref dK]))] H := hP
  have hD : va_D A [(oD, .inr (4, [.int (nI 0), .ref dF, .int (nI len), .int (nI 0), .ref dH, .int (nI sr), .ref dL, .int (nI en), .int (nI ram), .int (nI mz), .ref dM, .int (nI hp), .int (nI cn), .ref dP, .ref dS, .int (nI fk), .int fp, .int (nI ka), .int (nI kn), .int (nI sv), .ref dK]))] := hD
  refine lv_aload_n hx hb dX4_read_5 rfl (lv_at hl 0 rfl) ?_
  refine va_get (D := (dC, dI)) (ci := 4) (v := .int (nI 0)) (C := RX4) (T := TX4) (N := 21) hx hb hts (by decide +kernel) hown hK hP 0 rfl rfl 3 (by decide) (hts (.fieldLink RX4 76 "GlulxHeadsModel" "has" "Z") (by decide +kernel)) (fun _ h9 => h9) rfl dX4_read_6 ?_
  refine wx_if_eq (tgt := 19) hx hb dX4_read_9 (by decide) (by omega) (fun c_1 => ?_) (fun c_1 => absurd c_1 (by decide))
  refine lv_ldc2 (v := (-9223372036854775808)) hx hb hown (hts (.constantLong RX4 70 (-9223372036854775808)) (by decide +kernel)) dX4_read_19 ?_
  have hP9 := hP.sub (ws' := [(oD, .inr (4, [.int (nI 0), .ref dF, .int (nI len), .int (nI 0), .ref dH, .int (nI sr), .ref dL, .int (nI en), .int (nI ram), .int (nI mz), .ref dM, .int (nI hp), .int (nI cn), .ref dP, .ref dS, .int (nI fk), .int fp, .int (nI ka), .int (nI kn), .int (nI sv), .ref dK]))]) [0] rfl
  have hD9 := hD.sub (ws' := [(oD, .inr (4, [.int (nI 0), .ref dF, .int (nI len), .int (nI 0), .ref dH, .int (nI sr), .ref dL, .int (nI en), .int (nI ram), .int (nI mz), .ref dM, .int (nI hp), .int (nI cn), .ref dP, .ref dS, .int (nI fk), .int fp, .int (nI ka), .int (nI kn), .int (nI sv), .ref dK]))]) [0] (by decide) rfl
  exact W.lret (v := (-9223372036854775808)) hx hb hr (fun t ht hW => ⟨⟨(-9223372036854775808), (), rfl, rfl, by rw [ht]; exact hP9, hD9⟩, hS.F ht⟩) hS.2.2 dX4_read_22
set_option maxHeartbeats 4000000 in
set_option maxRecDepth 100000 in
theorem c_X4_write_N (l : Launch) (dC : Nat → ClassId) (dI : Nat → Nat → Nat) (cB cI cJ : ClassId) (sz : Nat) (oD : Nat) (th : Nat) (dF : Nat) (len : Nat) (dH : Nat) (sr : Nat) (dL : Nat) (en : Nat) (ram : Nat) (mz : Nat) (dM : Nat) (hp : Nat) (cn : Nat) (dP : Nat) (dS : Nat) (fk : Nat) (fp : Int32) (ka : Nat) (kn : Nat) (sv : Nat) (dK : Nat) (wv : Int32) (av : Int32) (vv : Int32)  : Met l yX4_write wsX4_write ({ frames := 1, cells := 0, slots := 0, locals := 22 }) (va_Pc [.ref oD, .int wv, .int av, .int vv] (wPre dC dI cB cI cJ sz [(oD, .inr (4, [.int (nI th), .ref dF, .int (nI len), .int (nI 0), .ref dH, .int (nI sr), .ref dL, .int (nI en), .int (nI ram), .int (nI mz), .ref dM, .int (nI hp), .int (nI cn), .ref dP, .ref dS, .int (nI fk), .int fp, .int (nI ka), .int (nI kn), .int (nI sv), .ref dK]))])) (va_Qi (fun (r : Int32) (u : Unit) => r = -3) (fun (u : Unit) => wPost dC dI (va_A [(oD, .inr (4, [.int (nI th), .ref dF, .int (nI len), .int (nI 0), .ref dH, .int (nI sr), .ref dL, .int (nI en), .int (nI ram), .int (nI mz), .ref dM, .int (nI hp), .int (nI cn), .ref dP, .ref dS, .int (nI fk), .int fp, .int (nI ka), .int (nI kn), .int (nI sv), .ref dK]))] sz) [(oD, .inr (4, [.int (nI 0), .ref dF, .int (nI len), .int (nI 0), .ref dH, .int (nI sr), .ref dL, .int (nI en), .int (nI ram), .int (nI mz), .ref dM, .int (nI hp), .int (nI cn), .ref dP, .ref dS, .int (nI fk), .int fp, .int (nI ka), .int (nI kn), .int (nI sv), .ref dK]))]) (va_A [(oD, .inr (4, [.int (nI th), .ref dF, .int (nI len), .int (nI 0), .ref dH, .int (nI sr), .ref dL, .int (nI en), .int (nI ram), .int (nI mz), .ref dM, .int (nI hp), .int (nI cn), .ref dP, .ref dS, .int (nI fk), .int fp, .int (nI ka), .int (nI kn), .int (nI sv), .ref dK]))] sz)) 0 0 (va_A [(oD, .inr (4, [.int (nI th), .ref dF, .int (nI len), .int (nI 0), .ref dH, .int (nI sr), .ref dL, .int (nI en), .int (nI ram), .int (nI mz), .ref dM, .int (nI hp), .int (nI cn), .ref dP, .ref dS, .int (nI fk), .int fp, .int (nI ka), .int (nI kn), .int (nI sv), .ref dK]))] sz) := by
  refine Met.ofW (cc := cX4_write) (maxL := 5) (ret := (some .int)) (by decide) rfl ?_
  intro p e s m args below meth c s₁ B hml hv
  obtain ⟨rfl, hsz, hP, hK, hD0, hN⟩ := hv
  have hx := B.exec
  have hb := B.bytes
  have hr := B.returns
  have hts := atoms_spec (ws := wsX4_write) B.pre
  have hown : s.vm.findClass RX4 = some m.cls := findClass_of_methodNamed B.named
  have hlocks := B.notSynchronized
  subst hsz
  have hD := hD0.self (sz := s.heap.size)
  generalize hAe : va_A [(oD, .inr (4, [.int (nI th), .ref dF, .int (nI len), .int (nI 0), .ref dH, .int (nI sr), .ref dL, .int (nI en), .int (nI ram), .int (nI mz), .ref dM, .int (nI hp), .int (nI cn), .ref dP, .ref dS, .int (nI fk), .int fp, .int (nI ka), .int (nI kn), .int (nI sv), .ref dK]))] s.heap.size = A at hD ⊢
  have hA : ∀ q : Nat, s.heap.size ≤ q → A q := fun q h => by rw [← hAe]; exact Or.inr h
  have hS : va_S A s.heap s.heap [] := va_S.rf
  have hP : va_P (dC, dI) vwCl [(oD, .inr (4, [.int (nI th), .ref dF, .int (nI len), .int (nI 0), .ref dH, .int (nI sr), .ref dL, .int (nI en), .int (nI ram), .int (nI mz), .ref dM, .int (nI hp), .int (nI cn), .ref dP, .ref dS, .int (nI fk), .int fp, .int (nI ka), .int (nI kn), .int (nI sv), .ref dK]))] s.heap := hP
  have hl := lv_entry ([.ref oD, .int wv, .int av, .int vv]) (n := 5) (Nat.le_of_ble_eq_true rfl)
  rw [lg_entry_eq]
  generalize (lg_sl ([.ref oD, .int wv, .int av, .int vv]) ++ List.replicate (5 - (lg_sl ([.ref oD, .int wv, .int av, .int vv])).length) Slot.unset).toArray = ls at hl ⊢
  have hl : lv_has ls 5 [(0, .ref oD), (1, .int wv), (2, .int av), (3, .int vv)] := hl
  refine lv_aload_n hx hb dX4_write_0 rfl (lv_at hl 0 rfl) ?_
  refine lv_iconst (v := nI 0) hx hb dX4_write_1 (by decide) ?_
  refine va_put (D := (dC, dI)) (ci := 4) (v := .int (nI 0)) (ty := .int) (C := RX4) (T := TX4) (N := 21) hx hb hts (by decide +kernel) tyX4 tyX4_ok nmX4 hown hK hP hD hS 0 rfl rfl 0 (by decide) (hts (.fieldLink RX4 32 "GlulxHeadsModel" "thrown" "I") (by decide +kernel)) (fun _ h9 => h9) rfl (by decide +kernel) rfl rfl (Nat.le_of_ble_eq_true rfl) dX4_write_2 (fun H locs hP hD hS => ?_)
  have hP : va_P (dC, dI) vwCl [(oD, .inr (4, [.int (nI 0), .ref dF, .int (nI len), .int (nI 0), .ref dH, .int (nI sr), .ref dL, .int (nI en), .int (nI ram), .int (nI mz), .ref dM, .int (nI hp), .int (nI cn), .ref dP, .ref dS, .int (nI fk), .int fp, .int (nI ka), .int (nI kn), .int (nI sv), .ref dK]))] H := hP
  have hD : va_D A [(oD, .inr (4, [.int (nI 0), .ref dF, .int (nI len), .int (nI 0), .ref dH, .int (nI sr), .ref dL, .int (nI en), .int (nI ram), .int (nI mz), .ref dM, .int (nI hp), .int (nI cn), .ref dP, .ref dS, .int (nI fk), .int fp, .int (nI ka), .int (nI kn), .int (nI sv), .ref dK]))] := hD
  refine lv_aload_n hx hb dX4_write_5 rfl (lv_at hl 0 rfl) ?_
  refine va_get (D := (dC, dI)) (ci := 4) (v := .int (nI 0)) (C := RX4) (T := TX4) (N := 21) hx hb hts (by decide +kernel) hown hK hP 0 rfl rfl 3 (by decide) (hts (.fieldLink RX4 76 "GlulxHeadsModel" "has" "Z") (by decide +kernel)) (fun _ h9 => h9) rfl dX4_write_6 ?_
  refine wx_if_ne (tgt := 15) hx hb dX4_write_9 (by decide) (by omega) (fun c_1 => absurd c_1 (by decide)) (fun c_1 => ?_)
  refine lv_bipush (v := (-3)) hx hb dX4_write_12 (by decide) ?_
  have hP9 := hP.sub (ws' := [(oD, .inr (4, [.int (nI 0), .ref dF, .int (nI len), .int (nI 0), .ref dH, .int (nI sr), .ref dL, .int (nI en), .int (nI ram), .int (nI mz), .ref dM, .int (nI hp), .int (nI cn), .ref dP, .ref dS, .int (nI fk), .int fp, .int (nI ka), .int (nI kn), .int (nI sv), .ref dK]))]) [0] rfl
  have hD9 := hD.sub (ws' := [(oD, .inr (4, [.int (nI 0), .ref dF, .int (nI len), .int (nI 0), .ref dH, .int (nI sr), .ref dL, .int (nI en), .int (nI ram), .int (nI mz), .ref dM, .int (nI hp), .int (nI cn), .ref dP, .ref dS, .int (nI fk), .int fp, .int (nI ka), .int (nI kn), .int (nI sv), .ref dK]))]) [0] (by decide) rfl
  exact W.iret (v := (-3)) hx hb hr (fun t ht hW => ⟨⟨(-3), (), rfl, rfl, by rw [ht]; exact hP9, hD9⟩, hS.F ht⟩) hS.2.2 dX4_write_14
set_option maxHeartbeats 4000000 in
set_option maxRecDepth 100000 in
theorem c_X4_resize_N (l : Launch) (dC : Nat → ClassId) (dI : Nat → Nat → Nat) (cB cI cJ : ClassId) (sz : Nat) (oD : Nat) (th : Nat) (dF : Nat) (len : Nat) (dH : Nat) (sr : Nat) (dL : Nat) (en : Nat) (ram : Nat) (mz : Nat) (dM : Nat) (hp : Nat) (cn : Nat) (dP : Nat) (dS : Nat) (fk : Nat) (fp : Int32) (ka : Nat) (kn : Nat) (sv : Nat) (dK : Nat) (nv : Int32)  : Met l yX4_resize wsX4_resize ({ frames := 1, cells := 0, slots := 0, locals := 22 }) (va_Pc [.ref oD, .int nv] (wPre dC dI cB cI cJ sz [(oD, .inr (4, [.int (nI th), .ref dF, .int (nI len), .int (nI 0), .ref dH, .int (nI sr), .ref dL, .int (nI en), .int (nI ram), .int (nI mz), .ref dM, .int (nI hp), .int (nI cn), .ref dP, .ref dS, .int (nI fk), .int fp, .int (nI ka), .int (nI kn), .int (nI sv), .ref dK]))])) (va_Qi (fun (r : Int32) (u : Unit) => r = -3) (fun (u : Unit) => wPost dC dI (va_A [(oD, .inr (4, [.int (nI th), .ref dF, .int (nI len), .int (nI 0), .ref dH, .int (nI sr), .ref dL, .int (nI en), .int (nI ram), .int (nI mz), .ref dM, .int (nI hp), .int (nI cn), .ref dP, .ref dS, .int (nI fk), .int fp, .int (nI ka), .int (nI kn), .int (nI sv), .ref dK]))] sz) [(oD, .inr (4, [.int (nI 0), .ref dF, .int (nI len), .int (nI 0), .ref dH, .int (nI sr), .ref dL, .int (nI en), .int (nI ram), .int (nI mz), .ref dM, .int (nI hp), .int (nI cn), .ref dP, .ref dS, .int (nI fk), .int fp, .int (nI ka), .int (nI kn), .int (nI sv), .ref dK]))]) (va_A [(oD, .inr (4, [.int (nI th), .ref dF, .int (nI len), .int (nI 0), .ref dH, .int (nI sr), .ref dL, .int (nI en), .int (nI ram), .int (nI mz), .ref dM, .int (nI hp), .int (nI cn), .ref dP, .ref dS, .int (nI fk), .int fp, .int (nI ka), .int (nI kn), .int (nI sv), .ref dK]))] sz)) 0 0 (va_A [(oD, .inr (4, [.int (nI th), .ref dF, .int (nI len), .int (nI 0), .ref dH, .int (nI sr), .ref dL, .int (nI en), .int (nI ram), .int (nI mz), .ref dM, .int (nI hp), .int (nI cn), .ref dP, .ref dS, .int (nI fk), .int fp, .int (nI ka), .int (nI kn), .int (nI sv), .ref dK]))] sz) := by
  refine Met.ofW (cc := cX4_resize) (maxL := 2) (ret := (some .int)) (by decide) rfl ?_
  intro p e s m args below meth c s₁ B hml hv
  obtain ⟨rfl, hsz, hP, hK, hD0, hN⟩ := hv
  have hx := B.exec
  have hb := B.bytes
  have hr := B.returns
  have hts := atoms_spec (ws := wsX4_resize) B.pre
  have hown : s.vm.findClass RX4 = some m.cls := findClass_of_methodNamed B.named
  have hlocks := B.notSynchronized
  subst hsz
  have hD := hD0.self (sz := s.heap.size)
  generalize hAe : va_A [(oD, .inr (4, [.int (nI th), .ref dF, .int (nI len), .int (nI 0), .ref dH, .int (nI sr), .ref dL, .int (nI en), .int (nI ram), .int (nI mz), .ref dM, .int (nI hp), .int (nI cn), .ref dP, .ref dS, .int (nI fk), .int fp, .int (nI ka), .int (nI kn), .int (nI sv), .ref dK]))] s.heap.size = A at hD ⊢
  have hA : ∀ q : Nat, s.heap.size ≤ q → A q := fun q h => by rw [← hAe]; exact Or.inr h
  have hS : va_S A s.heap s.heap [] := va_S.rf
  have hP : va_P (dC, dI) vwCl [(oD, .inr (4, [.int (nI th), .ref dF, .int (nI len), .int (nI 0), .ref dH, .int (nI sr), .ref dL, .int (nI en), .int (nI ram), .int (nI mz), .ref dM, .int (nI hp), .int (nI cn), .ref dP, .ref dS, .int (nI fk), .int fp, .int (nI ka), .int (nI kn), .int (nI sv), .ref dK]))] s.heap := hP
  have hl := lv_entry ([.ref oD, .int nv]) (n := 2) (Nat.le_of_ble_eq_true rfl)
  rw [lg_entry_eq]
  generalize (lg_sl ([.ref oD, .int nv]) ++ List.replicate (2 - (lg_sl ([.ref oD, .int nv])).length) Slot.unset).toArray = ls at hl ⊢
  have hl : lv_has ls 2 [(0, .ref oD), (1, .int nv)] := hl
  refine lv_aload_n hx hb dX4_resize_0 rfl (lv_at hl 0 rfl) ?_
  refine lv_iconst (v := nI 0) hx hb dX4_resize_1 (by decide) ?_
  refine va_put (D := (dC, dI)) (ci := 4) (v := .int (nI 0)) (ty := .int) (C := RX4) (T := TX4) (N := 21) hx hb hts (by decide +kernel) tyX4 tyX4_ok nmX4 hown hK hP hD hS 0 rfl rfl 0 (by decide) (hts (.fieldLink RX4 32 "GlulxHeadsModel" "thrown" "I") (by decide +kernel)) (fun _ h9 => h9) rfl (by decide +kernel) rfl rfl (Nat.le_of_ble_eq_true rfl) dX4_resize_2 (fun H locs hP hD hS => ?_)
  have hP : va_P (dC, dI) vwCl [(oD, .inr (4, [.int (nI 0), .ref dF, .int (nI len), .int (nI 0), .ref dH, .int (nI sr), .ref dL, .int (nI en), .int (nI ram), .int (nI mz), .ref dM, .int (nI hp), .int (nI cn), .ref dP, .ref dS, .int (nI fk), .int fp, .int (nI ka), .int (nI kn), .int (nI sv), .ref dK]))] H := hP
  have hD : va_D A [(oD, .inr (4, [.int (nI 0), .ref dF, .int (nI len), .int (nI 0), .ref dH, .int (nI sr), .ref dL, .int (nI en), .int (nI ram), .int (nI mz), .ref dM, .int (nI hp), .int (nI cn), .ref dP, .ref dS, .int (nI fk), .int fp, .int (nI ka), .int (nI kn), .int (nI sv), .ref dK]))] := hD
  refine lv_aload_n hx hb dX4_resize_5 rfl (lv_at hl 0 rfl) ?_
  refine va_get (D := (dC, dI)) (ci := 4) (v := .int (nI 0)) (C := RX4) (T := TX4) (N := 21) hx hb hts (by decide +kernel) hown hK hP 0 rfl rfl 3 (by decide) (hts (.fieldLink RX4 76 "GlulxHeadsModel" "has" "Z") (by decide +kernel)) (fun _ h9 => h9) rfl dX4_resize_6 ?_
  refine wx_if_ne (tgt := 15) hx hb dX4_resize_9 (by decide) (by omega) (fun c_1 => absurd c_1 (by decide)) (fun c_1 => ?_)
  refine lv_bipush (v := (-3)) hx hb dX4_resize_12 (by decide) ?_
  have hP9 := hP.sub (ws' := [(oD, .inr (4, [.int (nI 0), .ref dF, .int (nI len), .int (nI 0), .ref dH, .int (nI sr), .ref dL, .int (nI en), .int (nI ram), .int (nI mz), .ref dM, .int (nI hp), .int (nI cn), .ref dP, .ref dS, .int (nI fk), .int fp, .int (nI ka), .int (nI kn), .int (nI sv), .ref dK]))]) [0] rfl
  have hD9 := hD.sub (ws' := [(oD, .inr (4, [.int (nI 0), .ref dF, .int (nI len), .int (nI 0), .ref dH, .int (nI sr), .ref dL, .int (nI en), .int (nI ram), .int (nI mz), .ref dM, .int (nI hp), .int (nI cn), .ref dP, .ref dS, .int (nI fk), .int fp, .int (nI ka), .int (nI kn), .int (nI sv), .ref dK]))]) [0] (by decide) rfl
  exact W.iret (v := (-3)) hx hb hr (fun t ht hW => ⟨⟨(-3), (), rfl, rfl, by rw [ht]; exact hP9, hD9⟩, hS.F ht⟩) hS.2.2 dX4_resize_14
set_option maxHeartbeats 4000000 in
set_option maxRecDepth 100000 in
theorem c_X4_block_N (l : Launch) (dC : Nat → ClassId) (dI : Nat → Nat → Nat) (cB cI cJ : ClassId) (sz : Nat) (oD : Nat) (th : Nat) (dF : Nat) (len : Nat) (dH : Nat) (sr : Nat) (dL : Nat) (en : Nat) (ram : Nat) (mz : Nat) (dM : Nat) (hp : Nat) (cn : Nat) (dP : Nat) (dS : Nat) (fk : Nat) (fp : Int32) (ka : Nat) (kn : Nat) (sv : Nat) (dK : Nat) (nv : Int32)  : Met l yX4_block wsX4_block ({ frames := 1, cells := 0, slots := 0, locals := 22 }) (va_Pc [.ref oD, .int nv] (wPre dC dI cB cI cJ sz [(oD, .inr (4, [.int (nI th), .ref dF, .int (nI len), .int (nI 0), .ref dH, .int (nI sr), .ref dL, .int (nI en), .int (nI ram), .int (nI mz), .ref dM, .int (nI hp), .int (nI cn), .ref dP, .ref dS, .int (nI fk), .int fp, .int (nI ka), .int (nI kn), .int (nI sv), .ref dK]))])) (va_Qi (fun (r : Int32) (u : Unit) => r = -3) (fun (u : Unit) => wPost dC dI (va_A [(oD, .inr (4, [.int (nI th), .ref dF, .int (nI len), .int (nI 0), .ref dH, .int (nI sr), .ref dL, .int (nI en), .int (nI ram), .int (nI mz), .ref dM, .int (nI hp), .int (nI cn), .ref dP, .ref dS, .int (nI fk), .int fp, .int (nI ka), .int (nI kn), .int (nI sv), .ref dK]))] sz) [(oD, .inr (4, [.int (nI 0), .ref dF, .int (nI len), .int (nI 0), .ref dH, .int (nI sr), .ref dL, .int (nI en), .int (nI ram), .int (nI mz), .ref dM, .int (nI hp), .int (nI cn), .ref dP, .ref dS, .int (nI fk), .int fp, .int (nI ka), .int (nI kn), .int (nI sv), .ref dK]))]) (va_A [(oD, .inr (4, [.int (nI th), .ref dF, .int (nI len), .int (nI 0), .ref dH, .int (nI sr), .ref dL, .int (nI en), .int (nI ram), .int (nI mz), .ref dM, .int (nI hp), .int (nI cn), .ref dP, .ref dS, .int (nI fk), .int fp, .int (nI ka), .int (nI kn), .int (nI sv), .ref dK]))] sz)) 0 0 (va_A [(oD, .inr (4, [.int (nI th), .ref dF, .int (nI len), .int (nI 0), .ref dH, .int (nI sr), .ref dL, .int (nI en), .int (nI ram), .int (nI mz), .ref dM, .int (nI hp), .int (nI cn), .ref dP, .ref dS, .int (nI fk), .int fp, .int (nI ka), .int (nI kn), .int (nI sv), .ref dK]))] sz) := by
  refine Met.ofW (cc := cX4_block) (maxL := 6) (ret := (some .int)) (by decide) rfl ?_
  intro p e s m args below meth c s₁ B hml hv
  obtain ⟨rfl, hsz, hP, hK, hD0, hN⟩ := hv
  have hx := B.exec
  have hb := B.bytes
  have hr := B.returns
  have hts := atoms_spec (ws := wsX4_block) B.pre
  have hown : s.vm.findClass RX4 = some m.cls := findClass_of_methodNamed B.named
  have hlocks := B.notSynchronized
  subst hsz
  have hD := hD0.self (sz := s.heap.size)
  generalize hAe : va_A [(oD, .inr (4, [.int (nI th), .ref dF, .int (nI len), .int (nI 0), .ref dH, .int (nI sr), .ref dL, .int (nI en), .int (nI ram), .int (nI mz), .ref dM, .int (nI hp), .int (nI cn), .ref dP, .ref dS, .int (nI fk), .int fp, .int (nI ka), .int (nI kn), .int (nI sv), .ref dK]))] s.heap.size = A at hD ⊢
  have hA : ∀ q : Nat, s.heap.size ≤ q → A q := fun q h => by rw [← hAe]; exact Or.inr h
  have hS : va_S A s.heap s.heap [] := va_S.rf
  have hP : va_P (dC, dI) vwCl [(oD, .inr (4, [.int (nI th), .ref dF, .int (nI len), .int (nI 0), .ref dH, .int (nI sr), .ref dL, .int (nI en), .int (nI ram), .int (nI mz), .ref dM, .int (nI hp), .int (nI cn), .ref dP, .ref dS, .int (nI fk), .int fp, .int (nI ka), .int (nI kn), .int (nI sv), .ref dK]))] s.heap := hP
  have hl := lv_entry ([.ref oD, .int nv]) (n := 6) (Nat.le_of_ble_eq_true rfl)
  rw [lg_entry_eq]
  generalize (lg_sl ([.ref oD, .int nv]) ++ List.replicate (6 - (lg_sl ([.ref oD, .int nv])).length) Slot.unset).toArray = ls at hl ⊢
  have hl : lv_has ls 6 [(0, .ref oD), (1, .int nv)] := hl
  refine lv_aload_n hx hb dX4_block_0 rfl (lv_at hl 0 rfl) ?_
  refine lv_iconst (v := nI 0) hx hb dX4_block_1 (by decide) ?_
  refine va_put (D := (dC, dI)) (ci := 4) (v := .int (nI 0)) (ty := .int) (C := RX4) (T := TX4) (N := 21) hx hb hts (by decide +kernel) tyX4 tyX4_ok nmX4 hown hK hP hD hS 0 rfl rfl 0 (by decide) (hts (.fieldLink RX4 32 "GlulxHeadsModel" "thrown" "I") (by decide +kernel)) (fun _ h9 => h9) rfl (by decide +kernel) rfl rfl (Nat.le_of_ble_eq_true rfl) dX4_block_2 (fun H locs hP hD hS => ?_)
  have hP : va_P (dC, dI) vwCl [(oD, .inr (4, [.int (nI 0), .ref dF, .int (nI len), .int (nI 0), .ref dH, .int (nI sr), .ref dL, .int (nI en), .int (nI ram), .int (nI mz), .ref dM, .int (nI hp), .int (nI cn), .ref dP, .ref dS, .int (nI fk), .int fp, .int (nI ka), .int (nI kn), .int (nI sv), .ref dK]))] H := hP
  have hD : va_D A [(oD, .inr (4, [.int (nI 0), .ref dF, .int (nI len), .int (nI 0), .ref dH, .int (nI sr), .ref dL, .int (nI en), .int (nI ram), .int (nI mz), .ref dM, .int (nI hp), .int (nI cn), .ref dP, .ref dS, .int (nI fk), .int fp, .int (nI ka), .int (nI kn), .int (nI sv), .ref dK]))] := hD
  refine lv_aload_n hx hb dX4_block_5 rfl (lv_at hl 0 rfl) ?_
  refine va_get (D := (dC, dI)) (ci := 4) (v := .int (nI 0)) (C := RX4) (T := TX4) (N := 21) hx hb hts (by decide +kernel) hown hK hP 0 rfl rfl 3 (by decide) (hts (.fieldLink RX4 76 "GlulxHeadsModel" "has" "Z") (by decide +kernel)) (fun _ h9 => h9) rfl dX4_block_6 ?_
  refine wx_if_ne (tgt := 15) hx hb dX4_block_9 (by decide) (by omega) (fun c_1 => absurd c_1 (by decide)) (fun c_1 => ?_)
  refine lv_bipush (v := (-3)) hx hb dX4_block_12 (by decide) ?_
  have hP9 := hP.sub (ws' := [(oD, .inr (4, [.int (nI 0), .ref dF, .int (nI len), .int (nI 0), .ref dH, .int (nI sr), .ref dL, .int (nI en), .int (nI ram), .int (nI mz), .ref dM, .int (nI hp), .int (nI cn), .ref dP, .ref dS, .int (nI fk), .int fp, .int (nI ka), .int (nI kn), .int (nI sv), .ref dK]))]) [0] rfl
  have hD9 := hD.sub (ws' := [(oD, .inr (4, [.int (nI 0), .ref dF, .int (nI len), .int (nI 0), .ref dH, .int (nI sr), .ref dL, .int (nI en), .int (nI ram), .int (nI mz), .ref dM, .int (nI hp), .int (nI cn), .ref dP, .ref dS, .int (nI fk), .int fp, .int (nI ka), .int (nI kn), .int (nI sv), .ref dK]))]) [0] (by decide) rfl
  exact W.iret (v := (-3)) hx hb hr (fun t ht hW => ⟨⟨(-3), (), rfl, rfl, by rw [ht]; exact hP9, hD9⟩, hS.F ht⟩) hS.2.2 dX4_block_14
set_option maxHeartbeats 4000000 in
set_option maxRecDepth 100000 in
theorem c_X4_free_N (l : Launch) (dC : Nat → ClassId) (dI : Nat → Nat → Nat) (cB cI cJ : ClassId) (sz : Nat) (oD : Nat) (th : Nat) (dF : Nat) (len : Nat) (dH : Nat) (sr : Nat) (dL : Nat) (en : Nat) (ram : Nat) (mz : Nat) (dM : Nat) (hp : Nat) (cn : Nat) (dP : Nat) (dS : Nat) (fk : Nat) (fp : Int32) (ka : Nat) (kn : Nat) (sv : Nat) (dK : Nat) (av : Int32)  : Met l yX4_free wsX4_free ({ frames := 0, cells := 0, slots := 0, locals := 0 }) (va_Pc [.ref oD, .int av] (wPre dC dI cB cI cJ sz [(oD, .inr (4, [.int (nI th), .ref dF, .int (nI len), .int (nI 0), .ref dH, .int (nI sr), .ref dL, .int (nI en), .int (nI ram), .int (nI mz), .ref dM, .int (nI hp), .int (nI cn), .ref dP, .ref dS, .int (nI fk), .int fp, .int (nI ka), .int (nI kn), .int (nI sv), .ref dK]))])) (va_Qi (fun (r : Int32) (u : Unit) => r = -3) (fun (u : Unit) => wPost dC dI (va_A [(oD, .inr (4, [.int (nI th), .ref dF, .int (nI len), .int (nI 0), .ref dH, .int (nI sr), .ref dL, .int (nI en), .int (nI ram), .int (nI mz), .ref dM, .int (nI hp), .int (nI cn), .ref dP, .ref dS, .int (nI fk), .int fp, .int (nI ka), .int (nI kn), .int (nI sv), .ref dK]))] sz) [(oD, .inr (4, [.int (nI 0), .ref dF, .int (nI len), .int (nI 0), .ref dH, .int (nI sr), .ref dL, .int (nI en), .int (nI ram), .int (nI mz), .ref dM, .int (nI hp), .int (nI cn), .ref dP, .ref dS, .int (nI fk), .int fp, .int (nI ka), .int (nI kn), .int (nI sv), .ref dK]))]) (va_A [(oD, .inr (4, [.int (nI th), .ref dF, .int (nI len), .int (nI 0), .ref dH, .int (nI sr), .ref dL, .int (nI en), .int (nI ram), .int (nI mz), .ref dM, .int (nI hp), .int (nI cn), .ref dP, .ref dS, .int (nI fk), .int fp, .int (nI ka), .int (nI kn), .int (nI sv), .ref dK]))] sz)) 0 0 (va_A [(oD, .inr (4, [.int (nI th), .ref dF, .int (nI len), .int (nI 0), .ref dH, .int (nI sr), .ref dL, .int (nI en), .int (nI ram), .int (nI mz), .ref dM, .int (nI hp), .int (nI cn), .ref dP, .ref dS, .int (nI fk), .int fp, .int (nI ka), .int (nI kn), .int (nI sv), .ref dK]))] sz) := by
  refine Met.ofW (cc := cX4_free) (maxL := 5) (ret := (some .int)) (by decide) rfl ?_
  intro p e s m args below meth c s₁ B hml hv
  obtain ⟨rfl, hsz, hP, hK, hD0, hN⟩ := hv
  have hx := B.exec
  have hb := B.bytes
  have hr := B.returns
  have hts := atoms_spec (ws := wsX4_free) B.pre
  have hown : s.vm.findClass RX4 = some m.cls := findClass_of_methodNamed B.named
  have hlocks := B.notSynchronized
  subst hsz
  have hD := hD0.self (sz := s.heap.size)
  generalize hAe : va_A [(oD, .inr (4, [.int (nI th), .ref dF, .int (nI len), .int (nI 0), .ref dH, .int (nI sr), .ref dL, .int (nI en), .int (nI ram), .int (nI mz), .ref dM, .int (nI hp), .int (nI cn), .ref dP, .ref dS, .int (nI fk), .int fp, .int (nI ka), .int (nI kn), .int (nI sv), .ref dK]))] s.heap.size = A at hD ⊢
  have hA : ∀ q : Nat, s.heap.size ≤ q → A q := fun q h => by rw [← hAe]; exact Or.inr h
  have hS : va_S A s.heap s.heap [] := va_S.rf
  have hP : va_P (dC, dI) vwCl [(oD, .inr (4, [.int (nI th), .ref dF, .int (nI len), .int (nI 0), .ref dH, .int (nI sr), .ref dL, .int (nI en), .int (nI ram), .int (nI mz), .ref dM, .int (nI hp), .int (nI cn), .ref dP, .ref dS, .int (nI fk), .int fp, .int (nI ka), .int (nI kn), .int (nI sv), .ref dK]))] s.heap := hP
  have hl := lv_entry ([.ref oD, .int av]) (n := 5) (Nat.le_of_ble_eq_true rfl)
  rw [lg_entry_eq]
  generalize (lg_sl ([.ref oD, .int av]) ++ List.replicate (5 - (lg_sl ([.ref oD, .int av])).length) Slot.unset).toArray = ls at hl ⊢
  have hl : lv_has ls 5 [(0, .ref oD), (1, .int av)] := hl
  refine lv_aload_n hx hb dX4_free_0 rfl (lv_at hl 0 rfl) ?_
  refine lv_iconst (v := nI 0) hx hb dX4_free_1 (by decide) ?_
  refine va_put (D := (dC, dI)) (ci := 4) (v := .int (nI 0)) (ty := .int) (C := RX4) (T := TX4) (N := 21) hx hb hts (by decide +kernel) tyX4 tyX4_ok nmX4 hown hK hP hD hS 0 rfl rfl 0 (by decide) (hts (.fieldLink RX4 32 "GlulxHeadsModel" "thrown" "I") (by decide +kernel)) (fun _ h9 => h9) rfl (by decide +kernel) rfl rfl (Nat.le_of_ble_eq_true rfl) dX4_free_2 (fun H locs hP hD hS => ?_)
  have hP : va_P (dC, dI) vwCl [(oD, .inr (4, [.int (nI 0), .ref dF, .int (nI len), .int (nI 0), .ref dH, .int (nI sr), .ref dL, .int (nI en), .int (nI ram), .int (nI mz), .ref dM, .int (nI hp), .int (nI cn), .ref dP, .ref dS, .int (nI fk), .int fp, .int (nI ka), .int (nI kn), .int (nI sv), .ref dK]))] H := hP
  have hD : va_D A [(oD, .inr (4, [.int (nI 0), .ref dF, .int (nI len), .int (nI 0), .ref dH, .int (nI sr), .ref dL, .int (nI en), .int (nI ram), .int (nI mz), .ref dM, .int (nI hp), .int (nI cn), .ref dP, .ref dS, .int (nI fk), .int fp, .int (nI ka), .int (nI kn), .int (nI sv), .ref dK]))] := hD
  refine lv_aload_n hx hb dX4_free_5 rfl (lv_at hl 0 rfl) ?_
  refine va_get (D := (dC, dI)) (ci := 4) (v := .int (nI 0)) (C := RX4) (T := TX4) (N := 21) hx hb hts (by decide +kernel) hown hK hP 0 rfl rfl 3 (by decide) (hts (.fieldLink RX4 76 "GlulxHeadsModel" "has" "Z") (by decide +kernel)) (fun _ h9 => h9) rfl dX4_free_6 ?_
  refine wx_if_ne (tgt := 15) hx hb dX4_free_9 (by decide) (by omega) (fun c_1 => absurd c_1 (by decide)) (fun c_1 => ?_)
  refine lv_bipush (v := (-3)) hx hb dX4_free_12 (by decide) ?_
  have hP9 := hP.sub (ws' := [(oD, .inr (4, [.int (nI 0), .ref dF, .int (nI len), .int (nI 0), .ref dH, .int (nI sr), .ref dL, .int (nI en), .int (nI ram), .int (nI mz), .ref dM, .int (nI hp), .int (nI cn), .ref dP, .ref dS, .int (nI fk), .int fp, .int (nI ka), .int (nI kn), .int (nI sv), .ref dK]))]) [0] rfl
  have hD9 := hD.sub (ws' := [(oD, .inr (4, [.int (nI 0), .ref dF, .int (nI len), .int (nI 0), .ref dH, .int (nI sr), .ref dL, .int (nI en), .int (nI ram), .int (nI mz), .ref dM, .int (nI hp), .int (nI cn), .ref dP, .ref dS, .int (nI fk), .int fp, .int (nI ka), .int (nI kn), .int (nI sv), .ref dK]))]) [0] (by decide) rfl
  exact W.iret (v := (-3)) hx hb hr (fun t ht hW => ⟨⟨(-3), (), rfl, rfl, by rw [ht]; exact hP9, hD9⟩, hS.F ht⟩) hS.2.2 dX4_free_14
set_option maxHeartbeats 4000000 in
set_option maxRecDepth 100000 in
theorem c_X4_protect_N (l : Launch) (dC : Nat → ClassId) (dI : Nat → Nat → Nat) (cB cI cJ : ClassId) (sz : Nat) (oD : Nat) (th : Nat) (dF : Nat) (len : Nat) (dH : Nat) (sr : Nat) (dL : Nat) (en : Nat) (ram : Nat) (mz : Nat) (dM : Nat) (hp : Nat) (cn : Nat) (dP : Nat) (dS : Nat) (fk : Nat) (fp : Int32) (ka : Nat) (kn : Nat) (sv : Nat) (dK : Nat) (av : Int32) (nv : Int32)  : Met l yX4_protect wsX4_protect ({ frames := 1, cells := 0, slots := 0, locals := 25 }) (va_Pc [.ref oD, .int av, .int nv] (wPre dC dI cB cI cJ sz [(oD, .inr (4, [.int (nI th), .ref dF, .int (nI len), .int (nI 0), .ref dH, .int (nI sr), .ref dL, .int (nI en), .int (nI ram), .int (nI mz), .ref dM, .int (nI hp), .int (nI cn), .ref dP, .ref dS, .int (nI fk), .int fp, .int (nI ka), .int (nI kn), .int (nI sv), .ref dK]))])) (va_Qi (fun (r : Int32) (u : Unit) => r = -3) (fun (u : Unit) => wPost dC dI (va_A [(oD, .inr (4, [.int (nI th), .ref dF, .int (nI len), .int (nI 0), .ref dH, .int (nI sr), .ref dL, .int (nI en), .int (nI ram), .int (nI mz), .ref dM, .int (nI hp), .int (nI cn), .ref dP, .ref dS, .int (nI fk), .int fp, .int (nI ka), .int (nI kn), .int (nI sv), .ref dK]))] sz) [(oD, .inr (4, [.int (nI 0), .ref dF, .int (nI len), .int (nI 0), .ref dH, .int (nI sr), .ref dL, .int (nI en), .int (nI ram), .int (nI mz), .ref dM, .int (nI hp), .int (nI cn), .ref dP, .ref dS, .int (nI fk), .int fp, .int (nI ka), .int (nI kn), .int (nI sv), .ref dK]))]) (va_A [(oD, .inr (4, [.int (nI th), .ref dF, .int (nI len), .int (nI 0), .ref dH, .int (nI sr), .ref dL, .int (nI en), .int (nI ram), .int (nI mz), .ref dM, .int (nI hp), .int (nI cn), .ref dP, .ref dS, .int (nI fk), .int fp, .int (nI ka), .int (nI kn), .int (nI sv), .ref dK]))] sz)) 0 0 (va_A [(oD, .inr (4, [.int (nI th), .ref dF, .int (nI len), .int (nI 0), .ref dH, .int (nI sr), .ref dL, .int (nI en), .int (nI ram), .int (nI mz), .ref dM, .int (nI hp), .int (nI cn), .ref dP, .ref dS, .int (nI fk), .int fp, .int (nI ka), .int (nI kn), .int (nI sv), .ref dK]))] sz) := by
  refine Met.ofW (cc := cX4_protect) (maxL := 3) (ret := (some .int)) (by decide) rfl ?_
  intro p e s m args below meth c s₁ B hml hv
  obtain ⟨rfl, hsz, hP, hK, hD0, hN⟩ := hv
  have hx := B.exec
  have hb := B.bytes
  have hr := B.returns
  have hts := atoms_spec (ws := wsX4_protect) B.pre
  have hown : s.vm.findClass RX4 = some m.cls := findClass_of_methodNamed B.named
  have hlocks := B.notSynchronized
  subst hsz
  have hD := hD0.self (sz := s.heap.size)
  generalize hAe : va_A [(oD, .inr (4, [.int (nI th), .ref dF, .int (nI len), .int (nI 0), .ref dH, .int (nI sr), .ref dL, .int (nI en), .int (nI ram), .int (nI mz), .ref dM, .int (nI hp), .int (nI cn), .ref dP, .ref dS, .int (nI fk), .int fp, .int (nI ka), .int (nI kn), .int (nI sv), .ref dK]))] s.heap.size = A at hD ⊢
  have hA : ∀ q : Nat, s.heap.size ≤ q → A q := fun q h => by rw [← hAe]; exact Or.inr h
  have hS : va_S A s.heap s.heap [] := va_S.rf
  have hP : va_P (dC, dI) vwCl [(oD, .inr (4, [.int (nI th), .ref dF, .int (nI len), .int (nI 0), .ref dH, .int (nI sr), .ref dL, .int (nI en), .int (nI ram), .int (nI mz), .ref dM, .int (nI hp), .int (nI cn), .ref dP, .ref dS, .int (nI fk), .int fp, .int (nI ka), .int (nI kn), .int (nI sv), .ref dK]))] s.heap := hP
  have hl := lv_entry ([.ref oD, .int av, .int nv]) (n := 3) (Nat.le_of_ble_eq_true rfl)
  rw [lg_entry_eq]
  generalize (lg_sl ([.ref oD, .int av, .int nv]) ++ List.replicate (3 - (lg_sl ([.ref oD, .int av, .int nv])).length) Slot.unset).toArray = ls at hl ⊢
  have hl : lv_has ls 3 [(0, .ref oD), (1, .int av), (2, .int nv)] := hl
  refine lv_aload_n hx hb dX4_protect_0 rfl (lv_at hl 0 rfl) ?_
  refine lv_iconst (v := nI 0) hx hb dX4_protect_1 (by decide) ?_
  refine va_put (D := (dC, dI)) (ci := 4) (v := .int (nI 0)) (ty := .int) (C := RX4) (T := TX4) (N := 21) hx hb hts (by decide +kernel) tyX4 tyX4_ok nmX4 hown hK hP hD hS 0 rfl rfl 0 (by decide) (hts (.fieldLink RX4 32 "GlulxHeadsModel" "thrown" "I") (by decide +kernel)) (fun _ h9 => h9) rfl (by decide +kernel) rfl rfl (Nat.le_of_ble_eq_true rfl) dX4_protect_2 (fun H locs hP hD hS => ?_)
  have hP : va_P (dC, dI) vwCl [(oD, .inr (4, [.int (nI 0), .ref dF, .int (nI len), .int (nI 0), .ref dH, .int (nI sr), .ref dL, .int (nI en), .int (nI ram), .int (nI mz), .ref dM, .int (nI hp), .int (nI cn), .ref dP, .ref dS, .int (nI fk), .int fp, .int (nI ka), .int (nI kn), .int (nI sv), .ref dK]))] H := hP
  have hD : va_D A [(oD, .inr (4, [.int (nI 0), .ref dF, .int (nI len), .int (nI 0), .ref dH, .int (nI sr), .ref dL, .int (nI en), .int (nI ram), .int (nI mz), .ref dM, .int (nI hp), .int (nI cn), .ref dP, .ref dS, .int (nI fk), .int fp, .int (nI ka), .int (nI kn), .int (nI sv), .ref dK]))] := hD
  refine lv_aload_n hx hb dX4_protect_5 rfl (lv_at hl 0 rfl) ?_
  refine va_get (D := (dC, dI)) (ci := 4) (v := .int (nI 0)) (C := RX4) (T := TX4) (N := 21) hx hb hts (by decide +kernel) hown hK hP 0 rfl rfl 3 (by decide) (hts (.fieldLink RX4 76 "GlulxHeadsModel" "has" "Z") (by decide +kernel)) (fun _ h9 => h9) rfl dX4_protect_6 ?_
  refine wx_if_ne (tgt := 15) hx hb dX4_protect_9 (by decide) (by omega) (fun c_1 => absurd c_1 (by decide)) (fun c_1 => ?_)
  refine lv_bipush (v := (-3)) hx hb dX4_protect_12 (by decide) ?_
  have hP9 := hP.sub (ws' := [(oD, .inr (4, [.int (nI 0), .ref dF, .int (nI len), .int (nI 0), .ref dH, .int (nI sr), .ref dL, .int (nI en), .int (nI ram), .int (nI mz), .ref dM, .int (nI hp), .int (nI cn), .ref dP, .ref dS, .int (nI fk), .int fp, .int (nI ka), .int (nI kn), .int (nI sv), .ref dK]))]) [0] rfl
  have hD9 := hD.sub (ws' := [(oD, .inr (4, [.int (nI 0), .ref dF, .int (nI len), .int (nI 0), .ref dH, .int (nI sr), .ref dL, .int (nI en), .int (nI ram), .int (nI mz), .ref dM, .int (nI hp), .int (nI cn), .ref dP, .ref dS, .int (nI fk), .int fp, .int (nI ka), .int (nI kn), .int (nI sv), .ref dK]))]) [0] (by decide) rfl
  exact W.iret (v := (-3)) hx hb hr (fun t ht hW => ⟨⟨(-3), (), rfl, rfl, by rw [ht]; exact hP9, hD9⟩, hS.F ht⟩) hS.2.2 dX4_protect_14
set_option maxHeartbeats 4000000 in
set_option maxRecDepth 100000 in
theorem c_X4_restart_N (l : Launch) (dC : Nat → ClassId) (dI : Nat → Nat → Nat) (cB cI cJ : ClassId) (sz : Nat) (oD : Nat) (th : Nat) (dF : Nat) (len : Nat) (dH : Nat) (sr : Nat) (dL : Nat) (en : Nat) (ram : Nat) (mz : Nat) (dM : Nat) (hp : Nat) (cn : Nat) (dP : Nat) (dS : Nat) (fk : Nat) (fp : Int32) (ka : Nat) (kn : Nat) (sv : Nat) (dK : Nat)  : Met l yX4_restart wsX4_restart ({ frames := 1, cells := 0, slots := 0, locals := 23 }) (va_Pc [.ref oD] (wPre dC dI cB cI cJ sz [(oD, .inr (4, [.int (nI th), .ref dF, .int (nI len), .int (nI 0), .ref dH, .int (nI sr), .ref dL, .int (nI en), .int (nI ram), .int (nI mz), .ref dM, .int (nI hp), .int (nI cn), .ref dP, .ref dS, .int (nI fk), .int fp, .int (nI ka), .int (nI kn), .int (nI sv), .ref dK]))])) (va_Qi (fun (r : Int32) (u : Unit) => r = -3) (fun (u : Unit) => wPost dC dI (va_A [(oD, .inr (4, [.int (nI th), .ref dF, .int (nI len), .int (nI 0), .ref dH, .int (nI sr), .ref dL, .int (nI en), .int (nI ram), .int (nI mz), .ref dM, .int (nI hp), .int (nI cn), .ref dP, .ref dS, .int (nI fk), .int fp, .int (nI ka), .int (nI kn), .int (nI sv), .ref dK]))] sz) [(oD, .inr (4, [.int (nI 0), .ref dF, .int (nI len), .int (nI 0), .ref dH, .int (nI sr), .ref dL, .int (nI en), .int (nI ram), .int (nI mz), .ref dM, .int (nI hp), .int (nI cn), .ref dP, .ref dS, .int (nI fk), .int fp, .int (nI ka), .int (nI kn), .int (nI sv), .ref dK]))]) (va_A [(oD, .inr (4, [.int (nI th), .ref dF, .int (nI len), .int (nI 0), .ref dH, .int (nI sr), .ref dL, .int (nI en), .int (nI ram), .int (nI mz), .ref dM, .int (nI hp), .int (nI cn), .ref dP, .ref dS, .int (nI fk), .int fp, .int (nI ka), .int (nI kn), .int (nI sv), .ref dK]))] sz)) 0 0 (va_A [(oD, .inr (4, [.int (nI th), .ref dF, .int (nI len), .int (nI 0), .ref dH, .int (nI sr), .ref dL, .int (nI en), .int (nI ram), .int (nI mz), .ref dM, .int (nI hp), .int (nI cn), .ref dP, .ref dS, .int (nI fk), .int fp, .int (nI ka), .int (nI kn), .int (nI sv), .ref dK]))] sz) := by
  refine Met.ofW (cc := cX4_restart) (maxL := 2) (ret := (some .int)) (by decide) rfl ?_
  intro p e s m args below meth c s₁ B hml hv
  obtain ⟨rfl, hsz, hP, hK, hD0, hN⟩ := hv
  have hx := B.exec
  have hb := B.bytes
  have hr := B.returns
  have hts := atoms_spec (ws := wsX4_restart) B.pre
  have hown : s.vm.findClass RX4 = some m.cls := findClass_of_methodNamed B.named
  have hlocks := B.notSynchronized
  subst hsz
  have hD := hD0.self (sz := s.heap.size)
  generalize hAe : va_A [(oD, .inr (4, [.int (nI th), .ref dF, .int (nI len), .int (nI 0), .ref dH, .int (nI sr), .ref dL, .int (nI en), .int (nI ram), .int (nI mz), .ref dM, .int (nI hp), .int (nI cn), .ref dP, .ref dS, .int (nI fk), .int fp, .int (nI ka), .int (nI kn), .int (nI sv), .ref dK]))] s.heap.size = A at hD ⊢
  have hA : ∀ q : Nat, s.heap.size ≤ q → A q := fun q h => by rw [← hAe]; exact Or.inr h
  have hS : va_S A s.heap s.heap [] := va_S.rf
  have hP : va_P (dC, dI) vwCl [(oD, .inr (4, [.int (nI th), .ref dF, .int (nI len), .int (nI 0), .ref dH, .int (nI sr), .ref dL, .int (nI en), .int (nI ram), .int (nI mz), .ref dM, .int (nI hp), .int (nI cn), .ref dP, .ref dS, .int (nI fk), .int fp, .int (nI ka), .int (nI kn), .int (nI sv), .ref dK]))] s.heap := hP
  have hl := lv_entry ([.ref oD]) (n := 2) (Nat.le_of_ble_eq_true rfl)
  rw [lg_entry_eq]
  generalize (lg_sl ([.ref oD]) ++ List.replicate (2 - (lg_sl ([.ref oD])).length) Slot.unset).toArray = ls at hl ⊢
  have hl : lv_has ls 2 [(0, .ref oD)] := hl
  refine lv_aload_n hx hb dX4_restart_0 rfl (lv_at hl 0 rfl) ?_
  refine lv_iconst (v := nI 0) hx hb dX4_restart_1 (by decide) ?_
  refine va_put (D := (dC, dI)) (ci := 4) (v := .int (nI 0)) (ty := .int) (C := RX4) (T := TX4) (N := 21) hx hb hts (by decide +kernel) tyX4 tyX4_ok nmX4 hown hK hP hD hS 0 rfl rfl 0 (by decide) (hts (.fieldLink RX4 32 "GlulxHeadsModel" "thrown" "I") (by decide +kernel)) (fun _ h9 => h9) rfl (by decide +kernel) rfl rfl (Nat.le_of_ble_eq_true rfl) dX4_restart_2 (fun H locs hP hD hS => ?_)
  have hP : va_P (dC, dI) vwCl [(oD, .inr (4, [.int (nI 0), .ref dF, .int (nI len), .int (nI 0), .ref dH, .int (nI sr), .ref dL, .int (nI en), .int (nI ram), .int (nI mz), .ref dM, .int (nI hp), .int (nI cn), .ref dP, .ref dS, .int (nI fk), .int fp, .int (nI ka), .int (nI kn), .int (nI sv), .ref dK]))] H := hP
  have hD : va_D A [(oD, .inr (4, [.int (nI 0), .ref dF, .int (nI len), .int (nI 0), .ref dH, .int (nI sr), .ref dL, .int (nI en), .int (nI ram), .int (nI mz), .ref dM, .int (nI hp), .int (nI cn), .ref dP, .ref dS, .int (nI fk), .int fp, .int (nI ka), .int (nI kn), .int (nI sv), .ref dK]))] := hD
  refine lv_aload_n hx hb dX4_restart_5 rfl (lv_at hl 0 rfl) ?_
  refine va_get (D := (dC, dI)) (ci := 4) (v := .int (nI 0)) (C := RX4) (T := TX4) (N := 21) hx hb hts (by decide +kernel) hown hK hP 0 rfl rfl 3 (by decide) (hts (.fieldLink RX4 76 "GlulxHeadsModel" "has" "Z") (by decide +kernel)) (fun _ h9 => h9) rfl dX4_restart_6 ?_
  refine wx_if_ne (tgt := 15) hx hb dX4_restart_9 (by decide) (by omega) (fun c_1 => absurd c_1 (by decide)) (fun c_1 => ?_)
  refine lv_bipush (v := (-3)) hx hb dX4_restart_12 (by decide) ?_
  have hP9 := hP.sub (ws' := [(oD, .inr (4, [.int (nI 0), .ref dF, .int (nI len), .int (nI 0), .ref dH, .int (nI sr), .ref dL, .int (nI en), .int (nI ram), .int (nI mz), .ref dM, .int (nI hp), .int (nI cn), .ref dP, .ref dS, .int (nI fk), .int fp, .int (nI ka), .int (nI kn), .int (nI sv), .ref dK]))]) [0] rfl
  have hD9 := hD.sub (ws' := [(oD, .inr (4, [.int (nI 0), .ref dF, .int (nI len), .int (nI 0), .ref dH, .int (nI sr), .ref dL, .int (nI en), .int (nI ram), .int (nI mz), .ref dM, .int (nI hp), .int (nI cn), .ref dP, .ref dS, .int (nI fk), .int fp, .int (nI ka), .int (nI kn), .int (nI sv), .ref dK]))]) [0] (by decide) rfl
  exact W.iret (v := (-3)) hx hb hr (fun t ht hW => ⟨⟨(-3), (), rfl, rfl, by rw [ht]; exact hP9, hD9⟩, hS.F ht⟩) hS.2.2 dX4_restart_14
set_option maxHeartbeats 4000000 in
set_option maxRecDepth 100000 in
theorem c_X4_save_N (l : Launch) (dC : Nat → ClassId) (dI : Nat → Nat → Nat) (cB cI cJ : ClassId) (sz : Nat) (oD : Nat) (th : Nat) (dF : Nat) (len : Nat) (dH : Nat) (sr : Nat) (dL : Nat) (en : Nat) (ram : Nat) (mz : Nat) (dM : Nat) (hp : Nat) (cn : Nat) (dP : Nat) (dS : Nat) (fk : Nat) (fp : Int32) (ka : Nat) (kn : Nat) (sv : Nat) (dK : Nat)  : Met l yX4_save wsX4_save ({ frames := 0, cells := 0, slots := 0, locals := 0 }) (va_Pc [.ref oD] (wPre dC dI cB cI cJ sz [(oD, .inr (4, [.int (nI th), .ref dF, .int (nI len), .int (nI 0), .ref dH, .int (nI sr), .ref dL, .int (nI en), .int (nI ram), .int (nI mz), .ref dM, .int (nI hp), .int (nI cn), .ref dP, .ref dS, .int (nI fk), .int fp, .int (nI ka), .int (nI kn), .int (nI sv), .ref dK]))])) (va_Qi (fun (r : Int32) (u : Unit) => r = -3) (fun (u : Unit) => wPost dC dI (va_A [(oD, .inr (4, [.int (nI th), .ref dF, .int (nI len), .int (nI 0), .ref dH, .int (nI sr), .ref dL, .int (nI en), .int (nI ram), .int (nI mz), .ref dM, .int (nI hp), .int (nI cn), .ref dP, .ref dS, .int (nI fk), .int fp, .int (nI ka), .int (nI kn), .int (nI sv), .ref dK]))] sz) [(oD, .inr (4, [.int (nI 0), .ref dF, .int (nI len), .int (nI 0), .ref dH, .int (nI sr), .ref dL, .int (nI en), .int (nI ram), .int (nI mz), .ref dM, .int (nI hp), .int (nI cn), .ref dP, .ref dS, .int (nI fk), .int fp, .int (nI ka), .int (nI kn), .int (nI sv), .ref dK]))]) (va_A [(oD, .inr (4, [.int (nI th), .ref dF, .int (nI len), .int (nI 0), .ref dH, .int (nI sr), .ref dL, .int (nI en), .int (nI ram), .int (nI mz), .ref dM, .int (nI hp), .int (nI cn), .ref dP, .ref dS, .int (nI fk), .int fp, .int (nI ka), .int (nI kn), .int (nI sv), .ref dK]))] sz)) 0 0 (va_A [(oD, .inr (4, [.int (nI th), .ref dF, .int (nI len), .int (nI 0), .ref dH, .int (nI sr), .ref dL, .int (nI en), .int (nI ram), .int (nI mz), .ref dM, .int (nI hp), .int (nI cn), .ref dP, .ref dS, .int (nI fk), .int fp, .int (nI ka), .int (nI kn), .int (nI sv), .ref dK]))] sz) := by
  refine Met.ofW (cc := cX4_save) (maxL := 3) (ret := (some .int)) (by decide) rfl ?_
  intro p e s m args below meth c s₁ B hml hv
  obtain ⟨rfl, hsz, hP, hK, hD0, hN⟩ := hv
  have hx := B.exec
  have hb := B.bytes
  have hr := B.returns
  have hts := atoms_spec (ws := wsX4_save) B.pre
  have hown : s.vm.findClass RX4 = some m.cls := findClass_of_methodNamed B.named
  have hlocks := B.notSynchronized
  subst hsz
  have hD := hD0.self (sz := s.heap.size)
  generalize hAe : va_A [(oD, .inr (4, [.int (nI th), .ref dF, .int (nI len), .int (nI 0), .ref dH, .int (nI sr), .ref dL, .int (nI en), .int (nI ram), .int (nI mz), .ref dM, .int (nI hp), .int (nI cn), .ref dP, .ref dS, .int (nI fk), .int fp, .int (nI ka), .int (nI kn), .int (nI sv), .ref dK]))] s.heap.size = A at hD ⊢
  have hA : ∀ q : Nat, s.heap.size ≤ q → A q := fun q h => by rw [← hAe]; exact Or.inr h
  have hS : va_S A s.heap s.heap [] := va_S.rf
  have hP : va_P (dC, dI) vwCl [(oD, .inr (4, [.int (nI th), .ref dF, .int (nI len), .int (nI 0), .ref dH, .int (nI sr), .ref dL, .int (nI en), .int (nI ram), .int (nI mz), .ref dM, .int (nI hp), .int (nI cn), .ref dP, .ref dS, .int (nI fk), .int fp, .int (nI ka), .int (nI kn), .int (nI sv), .ref dK]))] s.heap := hP
  have hl := lv_entry ([.ref oD]) (n := 3) (Nat.le_of_ble_eq_true rfl)
  rw [lg_entry_eq]
  generalize (lg_sl ([.ref oD]) ++ List.replicate (3 - (lg_sl ([.ref oD])).length) Slot.unset).toArray = ls at hl ⊢
  have hl : lv_has ls 3 [(0, .ref oD)] := hl
  refine lv_aload_n hx hb dX4_save_0 rfl (lv_at hl 0 rfl) ?_
  refine lv_iconst (v := nI 0) hx hb dX4_save_1 (by decide) ?_
  refine va_put (D := (dC, dI)) (ci := 4) (v := .int (nI 0)) (ty := .int) (C := RX4) (T := TX4) (N := 21) hx hb hts (by decide +kernel) tyX4 tyX4_ok nmX4 hown hK hP hD hS 0 rfl rfl 0 (by decide) (hts (.fieldLink RX4 32 "GlulxHeadsModel" "thrown" "I") (by decide +kernel)) (fun _ h9 => h9) rfl (by decide +kernel) rfl rfl (Nat.le_of_ble_eq_true rfl) dX4_save_2 (fun H locs hP hD hS => ?_)
  have hP : va_P (dC, dI) vwCl [(oD, .inr (4, [.int (nI 0), .ref dF, .int (nI len), .int (nI 0), .ref dH, .int (nI sr), .ref dL, .int (nI en), .int (nI ram), .int (nI mz), .ref dM, .int (nI hp), .int (nI cn), .ref dP, .ref dS, .int (nI fk), .int fp, .int (nI ka), .int (nI kn), .int (nI sv), .ref dK]))] H := hP
  have hD : va_D A [(oD, .inr (4, [.int (nI 0), .ref dF, .int (nI len), .int (nI 0), .ref dH, .int (nI sr), .ref dL, .int (nI en), .int (nI ram), .int (nI mz), .ref dM, .int (nI hp), .int (nI cn), .ref dP, .ref dS, .int (nI fk), .int fp, .int (nI ka), .int (nI kn), .int (nI sv), .ref dK]))] := hD
  refine lv_aload_n hx hb dX4_save_5 rfl (lv_at hl 0 rfl) ?_
  refine va_get (D := (dC, dI)) (ci := 4) (v := .int (nI 0)) (C := RX4) (T := TX4) (N := 21) hx hb hts (by decide +kernel) hown hK hP 0 rfl rfl 3 (by decide) (hts (.fieldLink RX4 76 "GlulxHeadsModel" "has" "Z") (by decide +kernel)) (fun _ h9 => h9) rfl dX4_save_6 ?_
  refine wx_if_ne (tgt := 15) hx hb dX4_save_9 (by decide) (by omega) (fun c_1 => absurd c_1 (by decide)) (fun c_1 => ?_)
  refine lv_bipush (v := (-3)) hx hb dX4_save_12 (by decide) ?_
  have hP9 := hP.sub (ws' := [(oD, .inr (4, [.int (nI 0), .ref dF, .int (nI len), .int (nI 0), .ref dH, .int (nI sr), .ref dL, .int (nI en), .int (nI ram), .int (nI mz), .ref dM, .int (nI hp), .int (nI cn), .ref dP, .ref dS, .int (nI fk), .int fp, .int (nI ka), .int (nI kn), .int (nI sv), .ref dK]))]) [0] rfl
  have hD9 := hD.sub (ws' := [(oD, .inr (4, [.int (nI 0), .ref dF, .int (nI len), .int (nI 0), .ref dH, .int (nI sr), .ref dL, .int (nI en), .int (nI ram), .int (nI mz), .ref dM, .int (nI hp), .int (nI cn), .ref dP, .ref dS, .int (nI fk), .int fp, .int (nI ka), .int (nI kn), .int (nI sv), .ref dK]))]) [0] (by decide) rfl
  exact W.iret (v := (-3)) hx hb hr (fun t ht hW => ⟨⟨(-3), (), rfl, rfl, by rw [ht]; exact hP9, hD9⟩, hS.F ht⟩) hS.2.2 dX4_save_14
set_option maxHeartbeats 4000000 in
set_option maxRecDepth 100000 in
theorem c_X4_restore_N (l : Launch) (dC : Nat → ClassId) (dI : Nat → Nat → Nat) (cB cI cJ : ClassId) (sz : Nat) (oD : Nat) (th : Nat) (dF : Nat) (len : Nat) (dH : Nat) (sr : Nat) (dL : Nat) (en : Nat) (ram : Nat) (mz : Nat) (dM : Nat) (hp : Nat) (cn : Nat) (dP : Nat) (dS : Nat) (fk : Nat) (fp : Int32) (ka : Nat) (kn : Nat) (sv : Nat) (dK : Nat)  : Met l yX4_restore wsX4_restore ({ frames := 1, cells := 0, slots := 0, locals := 23 }) (va_Pc [.ref oD] (wPre dC dI cB cI cJ sz [(oD, .inr (4, [.int (nI th), .ref dF, .int (nI len), .int (nI 0), .ref dH, .int (nI sr), .ref dL, .int (nI en), .int (nI ram), .int (nI mz), .ref dM, .int (nI hp), .int (nI cn), .ref dP, .ref dS, .int (nI fk), .int fp, .int (nI ka), .int (nI kn), .int (nI sv), .ref dK]))])) (va_Qi (fun (r : Int32) (u : Unit) => r = -3) (fun (u : Unit) => wPost dC dI (va_A [(oD, .inr (4, [.int (nI th), .ref dF, .int (nI len), .int (nI 0), .ref dH, .int (nI sr), .ref dL, .int (nI en), .int (nI ram), .int (nI mz), .ref dM, .int (nI hp), .int (nI cn), .ref dP, .ref dS, .int (nI fk), .int fp, .int (nI ka), .int (nI kn), .int (nI sv), .ref dK]))] sz) [(oD, .inr (4, [.int (nI 0), .ref dF, .int (nI len), .int (nI 0), .ref dH, .int (nI sr), .ref dL, .int (nI en), .int (nI ram), .int (nI mz), .ref dM, .int (nI hp), .int (nI cn), .ref dP, .ref dS, .int (nI fk), .int fp, .int (nI ka), .int (nI kn), .int (nI sv), .ref dK]))]) (va_A [(oD, .inr (4, [.int (nI th), .ref dF, .int (nI len), .int (nI 0), .ref dH, .int (nI sr), .ref dL, .int (nI en), .int (nI ram), .int (nI mz), .ref dM, .int (nI hp), .int (nI cn), .ref dP, .ref dS, .int (nI fk), .int fp, .int (nI ka), .int (nI kn), .int (nI sv), .ref dK]))] sz)) 0 0 (va_A [(oD, .inr (4, [.int (nI th), .ref dF, .int (nI len), .int (nI 0), .ref dH, .int (nI sr), .ref dL, .int (nI en), .int (nI ram), .int (nI mz), .ref dM, .int (nI hp), .int (nI cn), .ref dP, .ref dS, .int (nI fk), .int fp, .int (nI ka), .int (nI kn), .int (nI sv), .ref dK]))] sz) := by
  refine Met.ofW (cc := cX4_restore) (maxL := 4) (ret := (some .int)) (by decide) rfl ?_
  intro p e s m args below meth c s₁ B hml hv
  obtain ⟨rfl, hsz, hP, hK, hD0, hN⟩ := hv
  have hx := B.exec
  have hb := B.bytes
  have hr := B.returns
  have hts := atoms_spec (ws := wsX4_restore) B.pre
  have hown : s.vm.findClass RX4 = some m.cls := findClass_of_methodNamed B.named
  have hlocks := B.notSynchronized
  subst hsz
  have hD := hD0.self (sz := s.heap.size)
  generalize hAe : va_A [(oD, .inr (4, [.int (nI th), .ref dF, .int (nI len), .int (nI 0), .ref dH, .int (nI sr), .ref dL, .int (nI en), .int (nI ram), .int (nI mz), .ref dM, .int (nI hp), .int (nI cn), .ref dP, .ref dS, .int (nI fk), .int fp, .int (nI ka), .int (nI kn), .int (nI sv), .ref dK]))] s.heap.size = A at hD ⊢
  have hA : ∀ q : Nat, s.heap.size ≤ q → A q := fun q h => by rw [← hAe]; exact Or.inr h
  have hS : va_S A s.heap s.heap [] := va_S.rf
  have hP : va_P (dC, dI) vwCl [(oD, .inr (4, [.int (nI th), .ref dF, .int (nI len), .int (nI 0), .ref dH, .int (nI sr), .ref dL, .int (nI en), .int (nI ram), .int (nI mz), .ref dM, .int (nI hp), .int (nI cn), .ref dP, .ref dS, .int (nI fk), .int fp, .int (nI ka), .int (nI kn), .int (nI sv), .ref dK]))] s.heap := hP
  have hl := lv_entry ([.ref oD]) (n := 4) (Nat.le_of_ble_eq_true rfl)
  rw [lg_entry_eq]
  generalize (lg_sl ([.ref oD]) ++ List.replicate (4 - (lg_sl ([.ref oD])).length) Slot.unset).toArray = ls at hl ⊢
  have hl : lv_has ls 4 [(0, .ref oD)] := hl
  refine lv_aload_n hx hb dX4_restore_0 rfl (lv_at hl 0 rfl) ?_
  refine lv_iconst (v := nI 0) hx hb dX4_restore_1 (by decide) ?_
  refine va_put (D := (dC, dI)) (ci := 4) (v := .int (nI 0)) (ty := .int) (C := RX4) (T := TX4) (N := 21) hx hb hts (by decide +kernel) tyX4 tyX4_ok nmX4 hown hK hP hD hS 0 rfl rfl 0 (by decide) (hts (.fieldLink RX4 32 "GlulxHeadsModel" "thrown" "I") (by decide +kernel)) (fun _ h9 => h9) rfl (by decide +kernel) rfl rfl (Nat.le_of_ble_eq_true rfl) dX4_restore_2 (fun H locs hP hD hS => ?_)
  have hP : va_P (dC, dI) vwCl [(oD, .inr (4, [.int (nI 0), .ref dF, .int (nI len), .int (nI 0), .ref dH, .int (nI sr), .ref dL, .int (nI en), .int (nI ram), .int (nI mz), .ref dM, .int (nI hp), .int (nI cn), .ref dP, .ref dS, .int (nI fk), .int fp, .int (nI ka), .int (nI kn), .int (nI sv), .ref dK]))] H := hP
  have hD : va_D A [(oD, .inr (4, [.int (nI 0), .ref dF, .int (nI len), .int (nI 0), .ref dH, .int (nI sr), .ref dL, .int (nI en), .int (nI ram), .int (nI mz), .ref dM, .int (nI hp), .int (nI cn), .ref dP, .ref dS, .int (nI fk), .int fp, .int (nI ka), .int (nI kn), .int (nI sv), .ref dK]))] := hD
  refine lv_aload_n hx hb dX4_restore_5 rfl (lv_at hl 0 rfl) ?_
  refine va_get (D := (dC, dI)) (ci := 4) (v := .int (nI 0)) (C := RX4) (T := TX4) (N := 21) hx hb hts (by decide +kernel) hown hK hP 0 rfl rfl 3 (by decide) (hts (.fieldLink RX4 76 "GlulxHeadsModel" "has" "Z") (by decide +kernel)) (fun _ h9 => h9) rfl dX4_restore_6 ?_
  refine wx_if_eq (tgt := 19) hx hb dX4_restore_9 (by decide) (by omega) (fun c_1 => ?_) (fun c_1 => absurd c_1 (by decide))
  refine lv_bipush (v := (-3)) hx hb dX4_restore_19 (by decide) ?_
  have hP9 := hP.sub (ws' := [(oD, .inr (4, [.int (nI 0), .ref dF, .int (nI len), .int (nI 0), .ref dH, .int (nI sr), .ref dL, .int (nI en), .int (nI ram), .int (nI mz), .ref dM, .int (nI hp), .int (nI cn), .ref dP, .ref dS, .int (nI fk), .int fp, .int (nI ka), .int (nI kn), .int (nI sv), .ref dK]))]) [0] rfl
  have hD9 := hD.sub (ws' := [(oD, .inr (4, [.int (nI 0), .ref dF, .int (nI len), .int (nI 0), .ref dH, .int (nI sr), .ref dL, .int (nI en), .int (nI ram), .int (nI mz), .ref dM, .int (nI hp), .int (nI cn), .ref dP, .ref dS, .int (nI fk), .int fp, .int (nI ka), .int (nI kn), .int (nI sv), .ref dK]))]) [0] (by decide) rfl
  exact W.iret (v := (-3)) hx hb hr (fun t ht hW => ⟨⟨(-3), (), rfl, rfl, by rw [ht]; exact hP9, hD9⟩, hS.F ht⟩) hS.2.2 dX4_restore_21
set_option maxHeartbeats 4000000 in
set_option maxRecDepth 100000 in
theorem c_X4_changed_N (l : Launch) (dC : Nat → ClassId) (dI : Nat → Nat → Nat) (cB cI cJ : ClassId) (sz : Nat) (oD : Nat) (th : Nat) (dF : Nat) (len : Nat) (dH : Nat) (sr : Nat) (dL : Nat) (en : Nat) (ram : Nat) (mz : Nat) (dM : Nat) (hp : Nat) (cn : Nat) (dP : Nat) (dS : Nat) (fk : Nat) (fp : Int32) (ka : Nat) (kn : Nat) (sv : Nat) (dK : Nat) (av : Int32)  : Met l yX4_changed wsX4_changed ({ frames := 1, cells := 0, slots := 0, locals := 25 }) (va_Pc [.ref oD, .int av] (wPre dC dI cB cI cJ sz [(oD, .inr (4, [.int (nI th), .ref dF, .int (nI len), .int (nI 0), .ref dH, .int (nI sr), .ref dL, .int (nI en), .int (nI ram), .int (nI mz), .ref dM, .int (nI hp), .int (nI cn), .ref dP, .ref dS, .int (nI fk), .int fp, .int (nI ka), .int (nI kn), .int (nI sv), .ref dK]))])) (va_Qi (fun (r : Int32) (u : Unit) => r = -3) (fun (u : Unit) => wPost dC dI (va_A [(oD, .inr (4, [.int (nI th), .ref dF, .int (nI len), .int (nI 0), .ref dH, .int (nI sr), .ref dL, .int (nI en), .int (nI ram), .int (nI mz), .ref dM, .int (nI hp), .int (nI cn), .ref dP, .ref dS, .int (nI fk), .int fp, .int (nI ka), .int (nI kn), .int (nI sv), .ref dK]))] sz) [(oD, .inr (4, [.int (nI 0), .ref dF, .int (nI len), .int (nI 0), .ref dH, .int (nI sr), .ref dL, .int (nI en), .int (nI ram), .int (nI mz), .ref dM, .int (nI hp), .int (nI cn), .ref dP, .ref dS, .int (nI fk), .int fp, .int (nI ka), .int (nI kn), .int (nI sv), .ref dK]))]) (va_A [(oD, .inr (4, [.int (nI th), .ref dF, .int (nI len), .int (nI 0), .ref dH, .int (nI sr), .ref dL, .int (nI en), .int (nI ram), .int (nI mz), .ref dM, .int (nI hp), .int (nI cn), .ref dP, .ref dS, .int (nI fk), .int fp, .int (nI ka), .int (nI kn), .int (nI sv), .ref dK]))] sz)) 0 0 (va_A [(oD, .inr (4, [.int (nI th), .ref dF, .int (nI len), .int (nI 0), .ref dH, .int (nI sr), .ref dL, .int (nI en), .int (nI ram), .int (nI mz), .ref dM, .int (nI hp), .int (nI cn), .ref dP, .ref dS, .int (nI fk), .int fp, .int (nI ka), .int (nI kn), .int (nI sv), .ref dK]))] sz) := by
  refine Met.ofW (cc := cX4_changed) (maxL := 3) (ret := (some .int)) (by decide) rfl ?_
  intro p e s m args below meth c s₁ B hml hv
  obtain ⟨rfl, hsz, hP, hK, hD0, hN⟩ := hv
  have hx := B.exec
  have hb := B.bytes
  have hr := B.returns
  have hts := atoms_spec (ws := wsX4_changed) B.pre
  have hown : s.vm.findClass RX4 = some m.cls := findClass_of_methodNamed B.named
  have hlocks := B.notSynchronized
  subst hsz
  have hD := hD0.self (sz := s.heap.size)
  generalize hAe : va_A [(oD, .inr (4, [.int (nI th), .ref dF, .int (nI len), .int (nI 0), .ref dH, .int (nI sr), .ref dL, .int (nI en), .int (nI ram), .int (nI mz), .ref dM, .int (nI hp), .int (nI cn), .ref dP, .ref dS, .int (nI fk), .int fp, .int (nI ka), .int (nI kn), .int (nI sv), .ref dK]))] s.heap.size = A at hD ⊢
  have hA : ∀ q : Nat, s.heap.size ≤ q → A q := fun q h => by rw [← hAe]; exact Or.inr h
  have hS : va_S A s.heap s.heap [] := va_S.rf
  have hP : va_P (dC, dI) vwCl [(oD, .inr (4, [.int (nI th), .ref dF, .int (nI len), .int (nI 0), .ref dH, .int (nI sr), .ref dL, .int (nI en), .int (nI ram), .int (nI mz), .ref dM, .int (nI hp), .int (nI cn), .ref dP, .ref dS, .int (nI fk), .int fp, .int (nI ka), .int (nI kn), .int (nI sv), .ref dK]))] s.heap := hP
  have hl := lv_entry ([.ref oD, .int av]) (n := 3) (Nat.le_of_ble_eq_true rfl)
  rw [lg_entry_eq]
  generalize (lg_sl ([.ref oD, .int av]) ++ List.replicate (3 - (lg_sl ([.ref oD, .int av])).length) Slot.unset).toArray = ls at hl ⊢
  have hl : lv_has ls 3 [(0, .ref oD), (1, .int av)] := hl
  refine lv_aload_n hx hb dX4_changed_0 rfl (lv_at hl 0 rfl) ?_
  refine lv_iconst (v := nI 0) hx hb dX4_changed_1 (by decide) ?_
  refine va_put (D := (dC, dI)) (ci := 4) (v := .int (nI 0)) (ty := .int) (C := RX4) (T := TX4) (N := 21) hx hb hts (by decide +kernel) tyX4 tyX4_ok nmX4 hown hK hP hD hS 0 rfl rfl 0 (by decide) (hts (.fieldLink RX4 32 "GlulxHeadsModel" "thrown" "I") (by decide +kernel)) (fun _ h9 => h9) rfl (by decide +kernel) rfl rfl (Nat.le_of_ble_eq_true rfl) dX4_changed_2 (fun H locs hP hD hS => ?_)
  have hP : va_P (dC, dI) vwCl [(oD, .inr (4, [.int (nI 0), .ref dF, .int (nI len), .int (nI 0), .ref dH, .int (nI sr), .ref dL, .int (nI en), .int (nI ram), .int (nI mz), .ref dM, .int (nI hp), .int (nI cn), .ref dP, .ref dS, .int (nI fk), .int fp, .int (nI ka), .int (nI kn), .int (nI sv), .ref dK]))] H := hP
  have hD : va_D A [(oD, .inr (4, [.int (nI 0), .ref dF, .int (nI len), .int (nI 0), .ref dH, .int (nI sr), .ref dL, .int (nI en), .int (nI ram), .int (nI mz), .ref dM, .int (nI hp), .int (nI cn), .ref dP, .ref dS, .int (nI fk), .int fp, .int (nI ka), .int (nI kn), .int (nI sv), .ref dK]))] := hD
  refine lv_aload_n hx hb dX4_changed_5 rfl (lv_at hl 0 rfl) ?_
  refine va_get (D := (dC, dI)) (ci := 4) (v := .int (nI 0)) (C := RX4) (T := TX4) (N := 21) hx hb hts (by decide +kernel) hown hK hP 0 rfl rfl 3 (by decide) (hts (.fieldLink RX4 76 "GlulxHeadsModel" "has" "Z") (by decide +kernel)) (fun _ h9 => h9) rfl dX4_changed_6 ?_
  refine wx_if_ne (tgt := 15) hx hb dX4_changed_9 (by decide) (by omega) (fun c_1 => absurd c_1 (by decide)) (fun c_1 => ?_)
  refine lv_bipush (v := (-3)) hx hb dX4_changed_12 (by decide) ?_
  have hP9 := hP.sub (ws' := [(oD, .inr (4, [.int (nI 0), .ref dF, .int (nI len), .int (nI 0), .ref dH, .int (nI sr), .ref dL, .int (nI en), .int (nI ram), .int (nI mz), .ref dM, .int (nI hp), .int (nI cn), .ref dP, .ref dS, .int (nI fk), .int fp, .int (nI ka), .int (nI kn), .int (nI sv), .ref dK]))]) [0] rfl
  have hD9 := hD.sub (ws' := [(oD, .inr (4, [.int (nI 0), .ref dF, .int (nI len), .int (nI 0), .ref dH, .int (nI sr), .ref dL, .int (nI en), .int (nI ram), .int (nI mz), .ref dM, .int (nI hp), .int (nI cn), .ref dP, .ref dS, .int (nI fk), .int fp, .int (nI ka), .int (nI kn), .int (nI sv), .ref dK]))]) [0] (by decide) rfl
  exact W.iret (v := (-3)) hx hb hr (fun t ht hW => ⟨⟨(-3), (), rfl, rfl, by rw [ht]; exact hP9, hD9⟩, hS.F ht⟩) hS.2.2 dX4_changed_14
set_option maxHeartbeats 4000000 in
set_option maxRecDepth 100000 in
theorem c_X4_hash_N (l : Launch) (dC : Nat → ClassId) (dI : Nat → Nat → Nat) (cB cI cJ : ClassId) (sz : Nat) (oD : Nat) (th : Nat) (dF : Nat) (len : Nat) (dH : Nat) (sr : Nat) (dL : Nat) (en : Nat) (ram : Nat) (mz : Nat) (dM : Nat) (hp : Nat) (cn : Nat) (dP : Nat) (dS : Nat) (fk : Nat) (fp : Int32) (ka : Nat) (kn : Nat) (sv : Nat) (dK : Nat) (av : Int32) (nv : Int32)  : Met l yX4_hash wsX4_hash ({ frames := 1, cells := 0, slots := 0, locals := 25 }) (va_Pc [.ref oD, .int av, .int nv] (wPre dC dI cB cI cJ sz [(oD, .inr (4, [.int (nI th), .ref dF, .int (nI len), .int (nI 0), .ref dH, .int (nI sr), .ref dL, .int (nI en), .int (nI ram), .int (nI mz), .ref dM, .int (nI hp), .int (nI cn), .ref dP, .ref dS, .int (nI fk), .int fp, .int (nI ka), .int (nI kn), .int (nI sv), .ref dK]))])) (va_Qi (fun (r : Int32) (u : Unit) => r = -3) (fun (u : Unit) => wPost dC dI (va_A [(oD, .inr (4, [.int (nI th), .ref dF, .int (nI len), .int (nI 0), .ref dH, .int (nI sr), .ref dL, .int (nI en), .int (nI ram), .int (nI mz), .ref dM, .int (nI hp), .int (nI cn), .ref dP, .ref dS, .int (nI fk), .int fp, .int (nI ka), .int (nI kn), .int (nI sv), .ref dK]))] sz) [(oD, .inr (4, [.int (nI 0), .ref dF, .int (nI len), .int (nI 0), .ref dH, .int (nI sr), .ref dL, .int (nI en), .int (nI ram), .int (nI mz), .ref dM, .int (nI hp), .int (nI cn), .ref dP, .ref dS, .int (nI fk), .int fp, .int (nI ka), .int (nI kn), .int (nI sv), .ref dK]))]) (va_A [(oD, .inr (4, [.int (nI th), .ref dF, .int (nI len), .int (nI 0), .ref dH, .int (nI sr), .ref dL, .int (nI en), .int (nI ram), .int (nI mz), .ref dM, .int (nI hp), .int (nI cn), .ref dP, .ref dS, .int (nI fk), .int fp, .int (nI ka), .int (nI kn), .int (nI sv), .ref dK]))] sz)) 0 0 (va_A [(oD, .inr (4, [.int (nI th), .ref dF, .int (nI len), .int (nI 0), .ref dH, .int (nI sr), .ref dL, .int (nI en), .int (nI ram), .int (nI mz), .ref dM, .int (nI hp), .int (nI cn), .ref dP, .ref dS, .int (nI fk), .int fp, .int (nI ka), .int (nI kn), .int (nI sv), .ref dK]))] sz) := by
  refine Met.ofW (cc := cX4_hash) (maxL := 5) (ret := (some .int)) (by decide) rfl ?_
  intro p e s m args below meth c s₁ B hml hv
  obtain ⟨rfl, hsz, hP, hK, hD0, hN⟩ := hv
  have hx := B.exec
  have hb := B.bytes
  have hr := B.returns
  have hts := atoms_spec (ws := wsX4_hash) B.pre
  have hown : s.vm.findClass RX4 = some m.cls := findClass_of_methodNamed B.named
  have hlocks := B.notSynchronized
  subst hsz
  have hD := hD0.self (sz := s.heap.size)
  generalize hAe : va_A [(oD, .inr (4, [.int (nI th), .ref dF, .int (nI len), .int (nI 0), .ref dH, .int (nI sr), .ref dL, .int (nI en), .int (nI ram), .int (nI mz), .ref dM, .int (nI hp), .int (nI cn), .ref dP, .ref dS, .int (nI fk), .int fp, .int (nI ka), .int (nI kn), .int (nI sv), .ref dK]))] s.heap.size = A at hD ⊢
  have hA : ∀ q : Nat, s.heap.size ≤ q → A q := fun q h => by rw [← hAe]; exact Or.inr h
  have hS : va_S A s.heap s.heap [] := va_S.rf
  have hP : va_P (dC, dI) vwCl [(oD, .inr (4, [.int (nI th), .ref dF, .int (nI len), .int (nI 0), .ref dH, .int (nI sr), .ref dL, .int (nI en), .int (nI ram), .int (nI mz), .ref dM, .int (nI hp), .int (nI cn), .ref dP, .ref dS, .int (nI fk), .int fp, .int (nI ka), .int (nI kn), .int (nI sv), .ref dK]))] s.heap := hP
  have hl := lv_entry ([.ref oD, .int av, .int nv]) (n := 5) (Nat.le_of_ble_eq_true rfl)
  rw [lg_entry_eq]
  generalize (lg_sl ([.ref oD, .int av, .int nv]) ++ List.replicate (5 - (lg_sl ([.ref oD, .int av, .int nv])).length) Slot.unset).toArray = ls at hl ⊢
  have hl : lv_has ls 5 [(0, .ref oD), (1, .int av), (2, .int nv)] := hl
  refine lv_aload_n hx hb dX4_hash_0 rfl (lv_at hl 0 rfl) ?_
  refine lv_iconst (v := nI 0) hx hb dX4_hash_1 (by decide) ?_
  refine va_put (D := (dC, dI)) (ci := 4) (v := .int (nI 0)) (ty := .int) (C := RX4) (T := TX4) (N := 21) hx hb hts (by decide +kernel) tyX4 tyX4_ok nmX4 hown hK hP hD hS 0 rfl rfl 0 (by decide) (hts (.fieldLink RX4 32 "GlulxHeadsModel" "thrown" "I") (by decide +kernel)) (fun _ h9 => h9) rfl (by decide +kernel) rfl rfl (Nat.le_of_ble_eq_true rfl) dX4_hash_2 (fun H locs hP hD hS => ?_)
  have hP : va_P (dC, dI) vwCl [(oD, .inr (4, [.int (nI 0), .ref dF, .int (nI len), .int (nI 0), .ref dH, .int (nI sr), .ref dL, .int (nI en), .int (nI ram), .int (nI mz), .ref dM, .int (nI hp), .int (nI cn), .ref dP, .ref dS, .int (nI fk), .int fp, .int (nI ka), .int (nI kn), .int (nI sv), .ref dK]))] H := hP
  have hD : va_D A [(oD, .inr (4, [.int (nI 0), .ref dF, .int (nI len), .int (nI 0), .ref dH, .int (nI sr), .ref dL, .int (nI en), .int (nI ram), .int (nI mz), .ref dM, .int (nI hp), .int (nI cn), .ref dP, .ref dS, .int (nI fk), .int fp, .int (nI ka), .int (nI kn), .int (nI sv), .ref dK]))] := hD
  refine lv_aload_n hx hb dX4_hash_5 rfl (lv_at hl 0 rfl) ?_
  refine va_get (D := (dC, dI)) (ci := 4) (v := .int (nI 0)) (C := RX4) (T := TX4) (N := 21) hx hb hts (by decide +kernel) hown hK hP 0 rfl rfl 3 (by decide) (hts (.fieldLink RX4 76 "GlulxHeadsModel" "has" "Z") (by decide +kernel)) (fun _ h9 => h9) rfl dX4_hash_6 ?_
  refine wx_if_ne (tgt := 15) hx hb dX4_hash_9 (by decide) (by omega) (fun c_1 => absurd c_1 (by decide)) (fun c_1 => ?_)
  refine lv_bipush (v := (-3)) hx hb dX4_hash_12 (by decide) ?_
  have hP9 := hP.sub (ws' := [(oD, .inr (4, [.int (nI 0), .ref dF, .int (nI len), .int (nI 0), .ref dH, .int (nI sr), .ref dL, .int (nI en), .int (nI ram), .int (nI mz), .ref dM, .int (nI hp), .int (nI cn), .ref dP, .ref dS, .int (nI fk), .int fp, .int (nI ka), .int (nI kn), .int (nI sv), .ref dK]))]) [0] rfl
  have hD9 := hD.sub (ws' := [(oD, .inr (4, [.int (nI 0), .ref dF, .int (nI len), .int (nI 0), .ref dH, .int (nI sr), .ref dL, .int (nI en), .int (nI ram), .int (nI mz), .ref dM, .int (nI hp), .int (nI cn), .ref dP, .ref dS, .int (nI fk), .int fp, .int (nI ka), .int (nI kn), .int (nI sv), .ref dK]))]) [0] (by decide) rfl
  exact W.iret (v := (-3)) hx hb hr (fun t ht hW => ⟨⟨(-3), (), rfl, rfl, by rw [ht]; exact hP9, hD9⟩, hS.F ht⟩) hS.2.2 dX4_hash_14
set_option maxHeartbeats 4000000 in
set_option maxRecDepth 100000 in
theorem c_X4_cell_N (l : Launch) (dC : Nat → ClassId) (dI : Nat → Nat → Nat) (cB cI cJ : ClassId) (sz : Nat) (oD : Nat) (th : Nat) (dF : Nat) (len : Nat) (dH : Nat) (sr : Nat) (dL : Nat) (en : Nat) (ram : Nat) (mz : Nat) (dM : Nat) (hp : Nat) (cn : Nat) (dP : Nat) (dS : Nat) (fk : Nat) (fp : Int32) (ka : Nat) (kn : Nat) (sv : Nat) (dK : Nat) (av : Int32)  : Met l yX4_cell wsX4_cell ({ frames := 1, cells := 0, slots := 0, locals := 25 }) (va_Pc [.ref oD, .int av] (wPre dC dI cB cI cJ sz [(oD, .inr (4, [.int (nI th), .ref dF, .int (nI len), .int (nI 0), .ref dH, .int (nI sr), .ref dL, .int (nI en), .int (nI ram), .int (nI mz), .ref dM, .int (nI hp), .int (nI cn), .ref dP, .ref dS, .int (nI fk), .int fp, .int (nI ka), .int (nI kn), .int (nI sv), .ref dK]))])) (va_Qi (fun (r : Int32) (u : Unit) => r = -3) (fun (u : Unit) => wPost dC dI (va_A [(oD, .inr (4, [.int (nI th), .ref dF, .int (nI len), .int (nI 0), .ref dH, .int (nI sr), .ref dL, .int (nI en), .int (nI ram), .int (nI mz), .ref dM, .int (nI hp), .int (nI cn), .ref dP, .ref dS, .int (nI fk), .int fp, .int (nI ka), .int (nI kn), .int (nI sv), .ref dK]))] sz) [(oD, .inr (4, [.int (nI 0), .ref dF, .int (nI len), .int (nI 0), .ref dH, .int (nI sr), .ref dL, .int (nI en), .int (nI ram), .int (nI mz), .ref dM, .int (nI hp), .int (nI cn), .ref dP, .ref dS, .int (nI fk), .int fp, .int (nI ka), .int (nI kn), .int (nI sv), .ref dK]))]) (va_A [(oD, .inr (4, [.int (nI th), .ref dF, .int (nI len), .int (nI 0), .ref dH, .int (nI sr), .ref dL, .int (nI en), .int (nI ram), .int (nI mz), .ref dM, .int (nI hp), .int (nI cn), .ref dP, .ref dS, .int (nI fk), .int fp, .int (nI ka), .int (nI kn), .int (nI sv), .ref dK]))] sz)) 0 0 (va_A [(oD, .inr (4, [.int (nI th), .ref dF, .int (nI len), .int (nI 0), .ref dH, .int (nI sr), .ref dL, .int (nI en), .int (nI ram), .int (nI mz), .ref dM, .int (nI hp), .int (nI cn), .ref dP, .ref dS, .int (nI fk), .int fp, .int (nI ka), .int (nI kn), .int (nI sv), .ref dK]))] sz) := by
  refine Met.ofW (cc := cX4_cell) (maxL := 2) (ret := (some .int)) (by decide) rfl ?_
  intro p e s m args below meth c s₁ B hml hv
  obtain ⟨rfl, hsz, hP, hK, hD0, hN⟩ := hv
  have hx := B.exec
  have hb := B.bytes
  have hr := B.returns
  have hts := atoms_spec (ws := wsX4_cell) B.pre
  have hown : s.vm.findClass RX4 = some m.cls := findClass_of_methodNamed B.named
  have hlocks := B.notSynchronized
  subst hsz
  have hD := hD0.self (sz := s.heap.size)
  generalize hAe : va_A [(oD, .inr (4, [.int (nI th), .ref dF, .int (nI len), .int (nI 0), .ref dH, .int (nI sr), .ref dL, .int (nI en), .int (nI ram), .int (nI mz), .ref dM, .int (nI hp), .int (nI cn), .ref dP, .ref dS, .int (nI fk), .int fp, .int (nI ka), .int (nI kn), .int (nI sv), .ref dK]))] s.heap.size = A at hD ⊢
  have hA : ∀ q : Nat, s.heap.size ≤ q → A q := fun q h => by rw [← hAe]; exact Or.inr h
  have hS : va_S A s.heap s.heap [] := va_S.rf
  have hP : va_P (dC, dI) vwCl [(oD, .inr (4, [.int (nI th), .ref dF, .int (nI len), .int (nI 0), .ref dH, .int (nI sr), .ref dL, .int (nI en), .int (nI ram), .int (nI mz), .ref dM, .int (nI hp), .int (nI cn), .ref dP, .ref dS, .int (nI fk), .int fp, .int (nI ka), .int (nI kn), .int (nI sv), .ref dK]))] s.heap := hP
  have hl := lv_entry ([.ref oD, .int av]) (n := 2) (Nat.le_of_ble_eq_true rfl)
  rw [lg_entry_eq]
  generalize (lg_sl ([.ref oD, .int av]) ++ List.replicate (2 - (lg_sl ([.ref oD, .int av])).length) Slot.unset).toArray = ls at hl ⊢
  have hl : lv_has ls 2 [(0, .ref oD), (1, .int av)] := hl
  refine lv_aload_n hx hb dX4_cell_0 rfl (lv_at hl 0 rfl) ?_
  refine lv_iconst (v := nI 0) hx hb dX4_cell_1 (by decide) ?_
  refine va_put (D := (dC, dI)) (ci := 4) (v := .int (nI 0)) (ty := .int) (C := RX4) (T := TX4) (N := 21) hx hb hts (by decide +kernel) tyX4 tyX4_ok nmX4 hown hK hP hD hS 0 rfl rfl 0 (by decide) (hts (.fieldLink RX4 32 "GlulxHeadsModel" "thrown" "I") (by decide +kernel)) (fun _ h9 => h9) rfl (by decide +kernel) rfl rfl (Nat.le_of_ble_eq_true rfl) dX4_cell_2 (fun H locs hP hD hS => ?_)
  have hP : va_P (dC, dI) vwCl [(oD, .inr (4, [.int (nI 0), .ref dF, .int (nI len), .int (nI 0), .ref dH, .int (nI sr), .ref dL, .int (nI en), .int (nI ram), .int (nI mz), .ref dM, .int (nI hp), .int (nI cn), .ref dP, .ref dS, .int (nI fk), .int fp, .int (nI ka), .int (nI kn), .int (nI sv), .ref dK]))] H := hP
  have hD : va_D A [(oD, .inr (4, [.int (nI 0), .ref dF, .int (nI len), .int (nI 0), .ref dH, .int (nI sr), .ref dL, .int (nI en), .int (nI ram), .int (nI mz), .ref dM, .int (nI hp), .int (nI cn), .ref dP, .ref dS, .int (nI fk), .int fp, .int (nI ka), .int (nI kn), .int (nI sv), .ref dK]))] := hD
  refine lv_aload_n hx hb dX4_cell_5 rfl (lv_at hl 0 rfl) ?_
  refine va_get (D := (dC, dI)) (ci := 4) (v := .int (nI 0)) (C := RX4) (T := TX4) (N := 21) hx hb hts (by decide +kernel) hown hK hP 0 rfl rfl 3 (by decide) (hts (.fieldLink RX4 76 "GlulxHeadsModel" "has" "Z") (by decide +kernel)) (fun _ h9 => h9) rfl dX4_cell_6 ?_
  refine wx_if_ne (tgt := 15) hx hb dX4_cell_9 (by decide) (by omega) (fun c_1 => absurd c_1 (by decide)) (fun c_1 => ?_)
  refine lv_bipush (v := (-3)) hx hb dX4_cell_12 (by decide) ?_
  have hP9 := hP.sub (ws' := [(oD, .inr (4, [.int (nI 0), .ref dF, .int (nI len), .int (nI 0), .ref dH, .int (nI sr), .ref dL, .int (nI en), .int (nI ram), .int (nI mz), .ref dM, .int (nI hp), .int (nI cn), .ref dP, .ref dS, .int (nI fk), .int fp, .int (nI ka), .int (nI kn), .int (nI sv), .ref dK]))]) [0] rfl
  have hD9 := hD.sub (ws' := [(oD, .inr (4, [.int (nI 0), .ref dF, .int (nI len), .int (nI 0), .ref dH, .int (nI sr), .ref dL, .int (nI en), .int (nI ram), .int (nI mz), .ref dM, .int (nI hp), .int (nI cn), .ref dP, .ref dS, .int (nI fk), .int fp, .int (nI ka), .int (nI kn), .int (nI sv), .ref dK]))]) [0] (by decide) rfl
  exact W.iret (v := (-3)) hx hb hr (fun t ht hW => ⟨⟨(-3), (), rfl, rfl, by rw [ht]; exact hP9, hD9⟩, hS.F ht⟩) hS.2.2 dX4_cell_14
set_option maxHeartbeats 4000000 in
set_option maxRecDepth 100000 in
theorem c_X4_told_M (l : Launch) (dC : Nat → ClassId) (dI : Nat → Nat → Nat) (cB cI cJ : ClassId) (sz : Nat) (oD : Nat) (th : Nat) (dF : Nat) (len : Nat) (dH : Nat) (sr : Nat) (dL : Nat) (en : Nat) (ram : Nat) (mz : Nat) (dM : Nat) (hp : Nat) (cn : Nat) (dP : Nat) (dS : Nat) (fk : Nat) (fp : Int32) (ka : Nat) (kn : Nat) (sv : Nat) (dK : Nat) (dh : Nat → Int64) (lm : Nat → Nat) (wv : Int32) (hh : ∀ k, k < 9 → dh k = lN (fw lm (4 * k))) (hmz : mz ≤ 8192) (hhp : hp ≤ 8192) (hcn : cn ≤ 16) (hsv : sv ≤ 2) (hfk : fk ≤ 3) (hsr : sr ≤ 1) : Met l yX4_told wsX4_told ({ frames := 1, cells := 0, slots := 0, locals := 25 }) (va_Pc [.ref oD, .int wv] (wPre dC dI cB cI cJ sz [(oD, .inr (4, [.int (nI th), .ref dF, .int (nI len), .int (nI 1), .ref dH, .int (nI sr), .ref dL, .int (nI en), .int (nI ram), .int (nI mz), .ref dM, .int (nI hp), .int (nI cn), .ref dP, .ref dS, .int (nI fk), .int fp, .int (nI ka), .int (nI kn), .int (nI sv), .ref dK])), (dH, .inl (cJ, 9, .inr (.inl dh)))])) (va_Ql (fun (r : Int64) (u : Unit) => r = toldR lm wv mz (if cn = 0 then 0 else hp) cn sv fk fp sr) (fun (u : Unit) => wPost dC dI (va_A [(oD, .inr (4, [.int (nI th), .ref dF, .int (nI len), .int (nI 1), .ref dH, .int (nI sr), .ref dL, .int (nI en), .int (nI ram), .int (nI mz), .ref dM, .int (nI hp), .int (nI cn), .ref dP, .ref dS, .int (nI fk), .int fp, .int (nI ka), .int (nI kn), .int (nI sv), .ref dK])), (dH, .inl (cJ, 9, .inr (.inl dh)))] sz) [(oD, .inr (4, [.int (nI 0), .ref dF, .int (nI len), .int (nI 1), .ref dH, .int (nI sr), .ref dL, .int (nI en), .int (nI ram), .int (nI mz), .ref dM, .int (nI hp), .int (nI cn), .ref dP, .ref dS, .int (nI fk), .int fp, .int (nI ka), .int (nI kn), .int (nI sv), .ref dK])), (dH, .inl (cJ, 9, .inr (.inl dh)))]) (va_A [(oD, .inr (4, [.int (nI th), .ref dF, .int (nI len), .int (nI 1), .ref dH, .int (nI sr), .ref dL, .int (nI en), .int (nI ram), .int (nI mz), .ref dM, .int (nI hp), .int (nI cn), .ref dP, .ref dS, .int (nI fk), .int fp, .int (nI ka), .int (nI kn), .int (nI sv), .ref dK])), (dH, .inl (cJ, 9, .inr (.inl dh)))] sz)) 0 0 (va_A [(oD, .inr (4, [.int (nI th), .ref dF, .int (nI len), .int (nI 1), .ref dH, .int (nI sr), .ref dL, .int (nI en), .int (nI ram), .int (nI mz), .ref dM, .int (nI hp), .int (nI cn), .ref dP, .ref dS, .int (nI fk), .int fp, .int (nI ka), .int (nI kn), .int (nI sv), .ref dK])), (dH, .inl (cJ, 9, .inr (.inl dh)))] sz) := by
  refine Met.ofW (cc := cX4_told) (maxL := 2) (ret := (some .long)) (by decide) rfl ?_
  intro p e s m args below meth c s₁ B hml hv
  obtain ⟨rfl, hsz, hP, hK, hD0, hN⟩ := hv
  have hx := B.exec
  have hb := B.bytes
  have hr := B.returns
  have hts := atoms_spec (ws := wsX4_told) B.pre
  have hown : s.vm.findClass RX4 = some m.cls := findClass_of_methodNamed B.named
  have hlocks := B.notSynchronized
  subst hsz
  have hD := hD0.self (sz := s.heap.size)
  generalize hAe : va_A [(oD, .inr (4, [.int (nI th), .ref dF, .int (nI len), .int (nI 1), .ref dH, .int (nI sr), .ref dL, .int (nI en), .int (nI ram), .int (nI mz), .ref dM, .int (nI hp), .int (nI cn), .ref dP, .ref dS, .int (nI fk), .int fp, .int (nI ka), .int (nI kn), .int (nI sv), .ref dK])), (dH, .inl (cJ, 9, .inr (.inl dh)))] s.heap.size = A at hD ⊢
  have hA : ∀ q : Nat, s.heap.size ≤ q → A q := fun q h => by rw [← hAe]; exact Or.inr h
  have hS : va_S A s.heap s.heap [] := va_S.rf
  have hP : va_P (dC, dI) vwCl [(oD, .inr (4, [.int (nI th), .ref dF, .int (nI len), .int (nI 1), .ref dH, .int (nI sr), .ref dL, .int (nI en), .int (nI ram), .int (nI mz), .ref dM, .int (nI hp), .int (nI cn), .ref dP, .ref dS, .int (nI fk), .int fp, .int (nI ka), .int (nI kn), .int (nI sv), .ref dK])), (dH, .inl (cJ, 9, .inr (.inl dh)))] s.heap := hP
  have hl := lv_entry ([.ref oD, .int wv]) (n := 2) (Nat.le_of_ble_eq_true rfl)
  rw [lg_entry_eq]
  generalize (lg_sl ([.ref oD, .int wv]) ++ List.replicate (2 - (lg_sl ([.ref oD, .int wv])).length) Slot.unset).toArray = ls at hl ⊢
  have hl : lv_has ls 2 [(0, .ref oD), (1, .int wv)] := hl
  refine lv_aload_n hx hb dX4_told_0 rfl (lv_at hl 0 rfl) ?_
  refine lv_iconst (v := nI 0) hx hb dX4_told_1 (by decide) ?_
  refine va_put (D := (dC, dI)) (ci := 4) (v := .int (nI 0)) (ty := .int) (C := RX4) (T := TX4) (N := 21) hx hb hts (by decide +kernel) tyX4 tyX4_ok nmX4 hown hK hP hD hS 0 rfl rfl 0 (by decide) (hts (.fieldLink RX4 32 "GlulxHeadsModel" "thrown" "I") (by decide +kernel)) (fun _ h9 => h9) rfl (by decide +kernel) rfl rfl (Nat.le_of_ble_eq_true rfl) dX4_told_2 (fun H locs hP hD hS => ?_)
  have hP : va_P (dC, dI) vwCl [(oD, .inr (4, [.int (nI 0), .ref dF, .int (nI len), .int (nI 1), .ref dH, .int (nI sr), .ref dL, .int (nI en), .int (nI ram), .int (nI mz), .ref dM, .int (nI hp), .int (nI cn), .ref dP, .ref dS, .int (nI fk), .int fp, .int (nI ka), .int (nI kn), .int (nI sv), .ref dK])), (dH, .inl (cJ, 9, .inr (.inl dh)))] H := hP
  have hD : va_D A [(oD, .inr (4, [.int (nI 0), .ref dF, .int (nI len), .int (nI 1), .ref dH, .int (nI sr), .ref dL, .int (nI en), .int (nI ram), .int (nI mz), .ref dM, .int (nI hp), .int (nI cn), .ref dP, .ref dS, .int (nI fk), .int fp, .int (nI ka), .int (nI kn), .int (nI sv), .ref dK])), (dH, .inl (cJ, 9, .inr (.inl dh)))] := hD
  refine lv_aload_n hx hb dX4_told_5 rfl (lv_at hl 0 rfl) ?_
  refine va_get (D := (dC, dI)) (ci := 4) (v := .int (nI 1)) (C := RX4) (T := TX4) (N := 21) hx hb hts (by decide +kernel) hown hK hP 0 rfl rfl 3 (by decide) (hts (.fieldLink RX4 76 "GlulxHeadsModel" "has" "Z") (by decide +kernel)) (fun _ h9 => h9) rfl dX4_told_6 ?_
  refine wx_if_eq (tgt := 24) hx hb dX4_told_9 (by decide) (by first | omega | (split <;> omega)) (fun c_1 => absurd c_1 (by decide)) (fun c_1 => ?_)
  refine lv_iload_n hx hb dX4_told_12 rfl (lv_at hl 1 rfl) ?_
  refine lv_i2l (v := wv.toInt64) hx hb dX4_told_13 rfl ?_
  refine lv_lconst (v := lN 0) hx hb dX4_told_14 (by decide) ?_
  refine lv_ldc2 (v := lN 15) hx hb hown (hts (.constantLong RX4 113 (15)) (by decide +kernel)) dX4_told_15 ?_
  have hPc := hP.sub (ws' := []) [] rfl
  have hDc := hD.sub (ws' := []) [] (by decide) rfl
  have hFc := va_free (wc := []) hD hS hA [] rfl
  refine va_calli (va_runS (As := [.long wv.toInt64, .long (lN 0), .long (lN 15)]) (rest := []) ⟨hx, hb, hml, hown, hts⟩ (c_X4_in l dC dI cB cI cJ H.size wv.toInt64 (lN 0) (lN 15) ) (va_cwS 3 hts gX4_told_X4_in rfl rfl rfl (by decide +kernel) ⟨Nat.le_of_ble_eq_true rfl, Nat.le_of_ble_eq_true rfl⟩) ⟨wBlind, wGo hK hPc hDc hN⟩ rfl rfl hl.1 rfl (lv_room (Nat.le_of_ble_eq_true rfl)) dX4_told_18 ⟨show 0 ≤ 0 by decide, show 0 ≤ 0 by decide⟩) hS (fun q _ h => hFc q h) hFc (fun r_3 u t H1 locs ht hvm w_4 hB hz1 hk1 hS => ?_)
  clear u
  obtain ⟨hP1, hD1⟩ := hB
  rw [ht] at hP1
  try dsimp only at w_4
  obtain ⟨hP, hD⟩ := va_join (wr := [(oD, .inr (4, [.int (nI 0), .ref dF, .int (nI len), .int (nI 1), .ref dH, .int (nI sr), .ref dL, .int (nI en), .int (nI ram), .int (nI mz), .ref dM, .int (nI hp), .int (nI cn), .ref dP, .ref dS, .int (nI fk), .int fp, .int (nI ka), .int (nI kn), .int (nI sv), .ref dK])), (dH, .inl (cJ, 9, .inr (.inl dh)))]) (w1 := []) hP hD [] [0, 1] rfl rfl (by decide) (by decide) hk1 hFc hP1 hD1
  clear hPc hDc hFc hP1 hD1 hz1 hk1 hvm
  generalize H1 = H at hP hS ⊢
  have hP : va_P (dC, dI) vwCl [(oD, .inr (4, [.int (nI 0), .ref dF, .int (nI len), .int (nI 1), .ref dH, .int (nI sr), .ref dL, .int (nI en), .int (nI ram), .int (nI mz), .ref dM, .int (nI hp), .int (nI cn), .ref dP, .ref dS, .int (nI fk), .int fp, .int (nI ka), .int (nI kn), .int (nI sv), .ref dK])), (dH, .inl (cJ, 9, .inr (.inl dh)))] H := hP
  have hD : va_D A [(oD, .inr (4, [.int (nI 0), .ref dF, .int (nI len), .int (nI 1), .ref dH, .int (nI sr), .ref dL, .int (nI en), .int (nI ram), .int (nI mz), .ref dM, .int (nI hp), .int (nI cn), .ref dP, .ref dS, .int (nI fk), .int fp, .int (nI ka), .int (nI kn), .int (nI sv), .ref dK])), (dH, .inl (cJ, 9, .inr (.inl dh)))] := hD
  have hz0 : (wv.toInt64).toInt = wv.toInt := Int32.toInt_toInt64 _
  have hz1 : (lN 0).toInt = ((0 : Nat) : Int) := pk_lT (by first | omega | (split <;> omega))
  have hz2 : (lN 15).toInt = ((15 : Nat) : Int) := pk_lT (by first | omega | (split <;> omega))
  have hwi : r_3 = nI (if 0 ≤ wv.toInt ∧ wv.toInt ≤ 15 then 1 else 0) := by rw [w_4]; exact wif (by constructor <;> (intro z; omega))
  clear w_4
  subst hwi
  refine wx_if_ne (tgt := 28) hx hb dX4_told_21 (by decide) (by first | omega | (split <;> omega)) (fun c_5 => ?_) (fun c_5 => ?_)
  · skip
    have c_5 := wz_pos c_5
    obtain ⟨w, hw, rfl⟩ : ∃ w : Nat, w < 2147483648 ∧ wv = nI w := nI_of (by intro z; rw [Int32.lt_iff_toInt_lt, show (0 : Int32).toInt = 0 by decide] at z; omega)
    have hwE : (nI w).toInt = (w : Int) := nI_toInt hw
    have hwT : (nI w).toInt.toNat = w := by rw [hwE]; exact Int.toNat_natCast _
    refine lv_iload_n hx hb dX4_told_28 rfl (lv_at hl 1 rfl) ?_
    rcases (show w < 9 ∨ w = 9 ∨ w = 10 ∨ w = 11 ∨ w = 12 ∨ w = 13 ∨ w = 14 ∨ w = 15 by omega) with hlo | rfl | rfl | rfl | rfl | rfl | rfl | rfl
    · skip
      refine lv_tableOut (tgt := 132) hx hb dX4_told_29 (Or.inl (by rw [nI_toInt (n := w) (by omega)]; omega)) (by decide) ?_
      refine lv_aload_n hx hb dX4_told_132 rfl (lv_at hl 0 rfl) ?_
      refine va_get (D := (dC, dI)) (ci := 4) (v := .ref dH) (C := RX4) (T := TX4) (N := 21) hx hb hts (by decide +kernel) hown hK hP 0 rfl rfl 4 (by decide) (hts (.fieldLink RX4 13 "GlulxHeadsModel" "head" "[J") (by decide +kernel)) (fun _ h9 => h9) rfl dX4_told_133 ?_
      refine lv_iload_n hx hb dX4_told_136 rfl (lv_at hl 1 rfl) ?_
      refine wx_lald hx hb hK hP 1 2 rfl rfl (by first | omega | (split <;> omega)) (by decide) dX4_told_137 ?_
      have hP9 := hP.sub (ws' := [(oD, .inr (4, [.int (nI 0), .ref dF, .int (nI len), .int (nI 1), .ref dH, .int (nI sr), .ref dL, .int (nI en), .int (nI ram), .int (nI mz), .ref dM, .int (nI hp), .int (nI cn), .ref dP, .ref dS, .int (nI fk), .int fp, .int (nI ka), .int (nI kn), .int (nI sv), .ref dK])), (dH, .inl (cJ, 9, .inr (.inl dh)))]) [0, 1] rfl
      have hD9 := hD.sub (ws' := [(oD, .inr (4, [.int (nI 0), .ref dF, .int (nI len), .int (nI 1), .ref dH, .int (nI sr), .ref dL, .int (nI en), .int (nI ram), .int (nI mz), .ref dM, .int (nI hp), .int (nI cn), .ref dP, .ref dS, .int (nI fk), .int fp, .int (nI ka), .int (nI kn), .int (nI sv), .ref dK])), (dH, .inl (cJ, 9, .inr (.inl dh)))]) [0, 1] (by decide) rfl
      exact W.lret (v := dh w) hx hb hr (fun t ht hW => ⟨⟨(dh w), (), rfl, (by unfold toldR; rw [if_neg (by omega), if_pos (by omega), hwT]; exact hh w (by omega)), by rw [ht]; exact hP9, hD9⟩, hS.F ht⟩) hS.2.2 dX4_told_138
    · skip
      refine lv_tableIn (off := 43) (tgt := 72) hx hb dX4_told_29 (by decide) (by decide) (by decide) (by decide) ?_
      refine lv_aload_n hx hb dX4_told_72 rfl (lv_at hl 0 rfl) ?_
      refine va_get (D := (dC, dI)) (ci := 4) (v := .int (nI mz)) (C := RX4) (T := TX4) (N := 21) hx hb hts (by decide +kernel) hown hK hP 0 rfl rfl 9 (by decide) (hts (.fieldLink RX4 89 "GlulxHeadsModel" "m" "I") (by decide +kernel)) (fun _ h9 => h9) rfl dX4_told_73 ?_
      refine lv_i2l (v := lN mz) hx hb dX4_told_76 (nI_l (by first | omega | (split <;> omega))) ?_
      have hP9 := hP.sub (ws' := [(oD, .inr (4, [.int (nI 0), .ref dF, .int (nI len), .int (nI 1), .ref dH, .int (nI sr), .ref dL, .int (nI en), .int (nI ram), .int (nI mz), .ref dM, .int (nI hp), .int (nI cn), .ref dP, .ref dS, .int (nI fk), .int fp, .int (nI ka), .int (nI kn), .int (nI sv), .ref dK])), (dH, .inl (cJ, 9, .inr (.inl dh)))]) [0, 1] rfl
      have hD9 := hD.sub (ws' := [(oD, .inr (4, [.int (nI 0), .ref dF, .int (nI len), .int (nI 1), .ref dH, .int (nI sr), .ref dL, .int (nI en), .int (nI ram), .int (nI mz), .ref dM, .int (nI hp), .int (nI cn), .ref dP, .ref dS, .int (nI fk), .int fp, .int (nI ka), .int (nI kn), .int (nI sv), .ref dK])), (dH, .inl (cJ, 9, .inr (.inl dh)))]) [0, 1] (by decide) rfl
      exact W.lret (v := lN mz) hx hb hr (fun t ht hW => ⟨⟨(lN mz), (), rfl, (by unfold toldR; rw [if_neg (by omega), if_neg (by omega), hwT]; rfl), by rw [ht]; exact hP9, hD9⟩, hS.F ht⟩) hS.2.2 dX4_told_77
    · skip
      refine lv_tableIn (off := 49) (tgt := 78) hx hb dX4_told_29 (by decide) (by decide) (by decide) (by decide) ?_
      refine lv_aload_n hx hb dX4_told_78 rfl (lv_at hl 0 rfl) ?_
      refine va_get (D := (dC, dI)) (ci := 4) (v := .int (nI cn)) (C := RX4) (T := TX4) (N := 21) hx hb hts (by decide +kernel) hown hK hP 0 rfl rfl 12 (by decide) (hts (.fieldLink RX4 95 "GlulxHeadsModel" "blocks" "I") (by decide +kernel)) (fun _ h9 => h9) rfl dX4_told_79 ?_
      refine wx_if_ne (tgt := 89) hx hb dX4_told_82 (by decide) (by first | omega | (split <;> omega)) (fun c_6 => ?_) (fun c_6 => ?_)
      · skip
        refine lv_aload_n hx hb dX4_told_89 rfl (lv_at hl 0 rfl) ?_
        refine va_get (D := (dC, dI)) (ci := 4) (v := .int (nI hp)) (C := RX4) (T := TX4) (N := 21) hx hb hts (by decide +kernel) hown hK hP 0 rfl rfl 11 (by decide) (hts (.fieldLink RX4 92 "GlulxHeadsModel" "heap" "I") (by decide +kernel)) (fun _ h9 => h9) rfl dX4_told_90 ?_
        refine lv_i2l (v := lN hp) hx hb dX4_told_93 (nI_l (by first | omega | (split <;> omega))) ?_
        have hP9 := hP.sub (ws' := [(oD, .inr (4, [.int (nI 0), .ref dF, .int (nI len), .int (nI 1), .ref dH, .int (nI sr), .ref dL, .int (nI en), .int (nI ram), .int (nI mz), .ref dM, .int (nI hp), .int (nI cn), .ref dP, .ref dS, .int (nI fk), .int fp, .int (nI ka), .int (nI kn), .int (nI sv), .ref dK])), (dH, .inl (cJ, 9, .inr (.inl dh)))]) [0, 1] rfl
        have hD9 := hD.sub (ws' := [(oD, .inr (4, [.int (nI 0), .ref dF, .int (nI len), .int (nI 1), .ref dH, .int (nI sr), .ref dL, .int (nI en), .int (nI ram), .int (nI mz), .ref dM, .int (nI hp), .int (nI cn), .ref dP, .ref dS, .int (nI fk), .int fp, .int (nI ka), .int (nI kn), .int (nI sv), .ref dK])), (dH, .inl (cJ, 9, .inr (.inl dh)))]) [0, 1] (by decide) rfl
        exact W.lret (v := lN hp) hx hb hr (fun t ht hW => ⟨⟨(lN hp), (), rfl, (by unfold toldR; rw [if_neg (by omega), if_neg (by omega), hwT]; show _ = lN (if cn = 0 then 0 else hp); rw [if_neg (by omega)]), by rw [ht]; exact hP9, hD9⟩, hS.F ht⟩) hS.2.2 dX4_told_94
      · skip
        refine lv_lconst (v := lN 0) hx hb dX4_told_85 (by decide) ?_
        refine lv_goto (tgt := 94) hx hb dX4_told_86 (by decide) ?_
        have hP9 := hP.sub (ws' := [(oD, .inr (4, [.int (nI 0), .ref dF, .int (nI len), .int (nI 1), .ref dH, .int (nI sr), .ref dL, .int (nI en), .int (nI ram), .int (nI mz), .ref dM, .int (nI hp), .int (nI cn), .ref dP, .ref dS, .int (nI fk), .int fp, .int (nI ka), .int (nI kn), .int (nI sv), .ref dK])), (dH, .inl (cJ, 9, .inr (.inl dh)))]) [0, 1] rfl
        have hD9 := hD.sub (ws' := [(oD, .inr (4, [.int (nI 0), .ref dF, .int (nI len), .int (nI 1), .ref dH, .int (nI sr), .ref dL, .int (nI en), .int (nI ram), .int (nI mz), .ref dM, .int (nI hp), .int (nI cn), .ref dP, .ref dS, .int (nI fk), .int fp, .int (nI ka), .int (nI kn), .int (nI sv), .ref dK])), (dH, .inl (cJ, 9, .inr (.inl dh)))]) [0, 1] (by decide) rfl
        exact W.lret (v := lN 0) hx hb hr (fun t ht hW => ⟨⟨(lN 0), (), rfl, (by unfold toldR; rw [if_neg (by omega), if_neg (by omega), hwT]; show _ = lN (if cn = 0 then 0 else hp); rw [if_pos (by omega)]), by rw [ht]; exact hP9, hD9⟩, hS.F ht⟩) hS.2.2 dX4_told_94
    · skip
      refine lv_tableIn (off := 66) (tgt := 95) hx hb dX4_told_29 (by decide) (by decide) (by decide) (by decide) ?_
      refine lv_aload_n hx hb dX4_told_95 rfl (lv_at hl 0 rfl) ?_
      refine va_get (D := (dC, dI)) (ci := 4) (v := .int (nI cn)) (C := RX4) (T := TX4) (N := 21) hx hb hts (by decide +kernel) hown hK hP 0 rfl rfl 12 (by decide) (hts (.fieldLink RX4 95 "GlulxHeadsModel" "blocks" "I") (by decide +kernel)) (fun _ h9 => h9) rfl dX4_told_96 ?_
      refine lv_i2l (v := lN cn) hx hb dX4_told_99 (nI_l (by first | omega | (split <;> omega))) ?_
      have hP9 := hP.sub (ws' := [(oD, .inr (4, [.int (nI 0), .ref dF, .int (nI len), .int (nI 1), .ref dH, .int (nI sr), .ref dL, .int (nI en), .int (nI ram), .int (nI mz), .ref dM, .int (nI hp), .int (nI cn), .ref dP, .ref dS, .int (nI fk), .int fp, .int (nI ka), .int (nI kn), .int (nI sv), .ref dK])), (dH, .inl (cJ, 9, .inr (.inl dh)))]) [0, 1] rfl
      have hD9 := hD.sub (ws' := [(oD, .inr (4, [.int (nI 0), .ref dF, .int (nI len), .int (nI 1), .ref dH, .int (nI sr), .ref dL, .int (nI en), .int (nI ram), .int (nI mz), .ref dM, .int (nI hp), .int (nI cn), .ref dP, .ref dS, .int (nI fk), .int fp, .int (nI ka), .int (nI kn), .int (nI sv), .ref dK])), (dH, .inl (cJ, 9, .inr (.inl dh)))]) [0, 1] (by decide) rfl
      exact W.lret (v := lN cn) hx hb hr (fun t ht hW => ⟨⟨(lN cn), (), rfl, (by unfold toldR; rw [if_neg (by omega), if_neg (by omega), hwT]; rfl), by rw [ht]; exact hP9, hD9⟩, hS.F ht⟩) hS.2.2 dX4_told_100
    · skip
      refine lv_tableIn (off := 72) (tgt := 101) hx hb dX4_told_29 (by decide) (by decide) (by decide) (by decide) ?_
      refine lv_aload_n hx hb dX4_told_101 rfl (lv_at hl 0 rfl) ?_
      refine va_get (D := (dC, dI)) (ci := 4) (v := .int (nI sv)) (C := RX4) (T := TX4) (N := 21) hx hb hts (by decide +kernel) hown hK hP 0 rfl rfl 19 (by decide) (hts (.fieldLink RX4 110 "GlulxHeadsModel" "states" "I") (by decide +kernel)) (fun _ h9 => h9) rfl dX4_told_102 ?_
      refine lv_i2l (v := lN sv) hx hb dX4_told_105 (nI_l (by first | omega | (split <;> omega))) ?_
      have hP9 := hP.sub (ws' := [(oD, .inr (4, [.int (nI 0), .ref dF, .int (nI len), .int (nI 1), .ref dH, .int (nI sr), .ref dL, .int (nI en), .int (nI ram), .int (nI mz), .ref dM, .int (nI hp), .int (nI cn), .ref dP, .ref dS, .int (nI fk), .int fp, .int (nI ka), .int (nI kn), .int (nI sv), .ref dK])), (dH, .inl (cJ, 9, .inr (.inl dh)))]) [0, 1] rfl
      have hD9 := hD.sub (ws' := [(oD, .inr (4, [.int (nI 0), .ref dF, .int (nI len), .int (nI 1), .ref dH, .int (nI sr), .ref dL, .int (nI en), .int (nI ram), .int (nI mz), .ref dM, .int (nI hp), .int (nI cn), .ref dP, .ref dS, .int (nI fk), .int fp, .int (nI ka), .int (nI kn), .int (nI sv), .ref dK])), (dH, .inl (cJ, 9, .inr (.inl dh)))]) [0, 1] (by decide) rfl
      exact W.lret (v := lN sv) hx hb hr (fun t ht hW => ⟨⟨(lN sv), (), rfl, (by unfold toldR; rw [if_neg (by omega), if_neg (by omega), hwT]; rfl), by rw [ht]; exact hP9, hD9⟩, hS.F ht⟩) hS.2.2 dX4_told_106
    · skip
      refine lv_tableIn (off := 78) (tgt := 107) hx hb dX4_told_29 (by decide) (by decide) (by decide) (by decide) ?_
      refine lv_aload_n hx hb dX4_told_107 rfl (lv_at hl 0 rfl) ?_
      refine va_get (D := (dC, dI)) (ci := 4) (v := .int (nI fk)) (C := RX4) (T := TX4) (N := 21) hx hb hts (by decide +kernel) hown hK hP 0 rfl rfl 15 (by decide) (hts (.fieldLink RX4 98 "GlulxHeadsModel" "fault" "I") (by decide +kernel)) (fun _ h9 => h9) rfl dX4_told_108 ?_
      refine lv_i2l (v := lN fk) hx hb dX4_told_111 (nI_l (by first | omega | (split <;> omega))) ?_
      have hP9 := hP.sub (ws' := [(oD, .inr (4, [.int (nI 0), .ref dF, .int (nI len), .int (nI 1), .ref dH, .int (nI sr), .ref dL, .int (nI en), .int (nI ram), .int (nI mz), .ref dM, .int (nI hp), .int (nI cn), .ref dP, .ref dS, .int (nI fk), .int fp, .int (nI ka), .int (nI kn), .int (nI sv), .ref dK])), (dH, .inl (cJ, 9, .inr (.inl dh)))]) [0, 1] rfl
      have hD9 := hD.sub (ws' := [(oD, .inr (4, [.int (nI 0), .ref dF, .int (nI len), .int (nI 1), .ref dH, .int (nI sr), .ref dL, .int (nI en), .int (nI ram), .int (nI mz), .ref dM, .int (nI hp), .int (nI cn), .ref dP, .ref dS, .int (nI fk), .int fp, .int (nI ka), .int (nI kn), .int (nI sv), .ref dK])), (dH, .inl (cJ, 9, .inr (.inl dh)))]) [0, 1] (by decide) rfl
      exact W.lret (v := lN fk) hx hb hr (fun t ht hW => ⟨⟨(lN fk), (), rfl, (by unfold toldR; rw [if_neg (by omega), if_neg (by omega), hwT]; rfl), by rw [ht]; exact hP9, hD9⟩, hS.F ht⟩) hS.2.2 dX4_told_112
    · skip
      refine lv_tableIn (off := 84) (tgt := 113) hx hb dX4_told_29 (by decide) (by decide) (by decide) (by decide) ?_
      refine lv_aload_n hx hb dX4_told_113 rfl (lv_at hl 0 rfl) ?_
      refine va_get (D := (dC, dI)) (ci := 4) (v := .int fp) (C := RX4) (T := TX4) (N := 21) hx hb hts (by decide +kernel) hown hK hP 0 rfl rfl 16 (by decide) (hts (.fieldLink RX4 101 "GlulxHeadsModel" "faultAt" "I") (by decide +kernel)) (fun _ h9 => h9) rfl dX4_told_114 ?_
      refine lv_i2l (v := fp.toInt64) hx hb dX4_told_117 rfl ?_
      have hP9 := hP.sub (ws' := [(oD, .inr (4, [.int (nI 0), .ref dF, .int (nI len), .int (nI 1), .ref dH, .int (nI sr), .ref dL, .int (nI en), .int (nI ram), .int (nI mz), .ref dM, .int (nI hp), .int (nI cn), .ref dP, .ref dS, .int (nI fk), .int fp, .int (nI ka), .int (nI kn), .int (nI sv), .ref dK])), (dH, .inl (cJ, 9, .inr (.inl dh)))]) [0, 1] rfl
      have hD9 := hD.sub (ws' := [(oD, .inr (4, [.int (nI 0), .ref dF, .int (nI len), .int (nI 1), .ref dH, .int (nI sr), .ref dL, .int (nI en), .int (nI ram), .int (nI mz), .ref dM, .int (nI hp), .int (nI cn), .ref dP, .ref dS, .int (nI fk), .int fp, .int (nI ka), .int (nI kn), .int (nI sv), .ref dK])), (dH, .inl (cJ, 9, .inr (.inl dh)))]) [0, 1] (by decide) rfl
      exact W.lret (v := fp.toInt64) hx hb hr (fun t ht hW => ⟨⟨fp.toInt64, (), rfl, (by unfold toldR; rw [if_neg (by omega), if_neg (by omega), hwT]; rfl), by rw [ht]; exact hP9, hD9⟩, hS.F ht⟩) hS.2.2 dX4_told_118
    · skip
      refine lv_tableIn (off := 90) (tgt := 119) hx hb dX4_told_29 (by decide) (by decide) (by decide) (by decide) ?_
      refine lv_aload_n hx hb dX4_told_119 rfl (lv_at hl 0 rfl) ?_
      refine va_get (D := (dC, dI)) (ci := 4) (v := .int (nI sr)) (C := RX4) (T := TX4) (N := 21) hx hb hts (by decide +kernel) hown hK hP 0 rfl rfl 5 (by decide) (hts (.fieldLink RX4 80 "GlulxHeadsModel" "sumRight" "Z") (by decide +kernel)) (fun _ h9 => h9) rfl dX4_told_120 ?_
      refine wx_if_eq (tgt := 130) hx hb dX4_told_123 (by decide) (by first | omega | (split <;> omega)) (fun c_7 => ?_) (fun c_7 => ?_)
      · skip
        refine lv_lconst (v := lN 0) hx hb dX4_told_130 (by decide) ?_
        have hP9 := hP.sub (ws' := [(oD, .inr (4, [.int (nI 0), .ref dF, .int (nI len), .int (nI 1), .ref dH, .int (nI sr), .ref dL, .int (nI en), .int (nI ram), .int (nI mz), .ref dM, .int (nI hp), .int (nI cn), .ref dP, .ref dS, .int (nI fk), .int fp, .int (nI ka), .int (nI kn), .int (nI sv), .ref dK])), (dH, .inl (cJ, 9, .inr (.inl dh)))]) [0, 1] rfl
        have hD9 := hD.sub (ws' := [(oD, .inr (4, [.int (nI 0), .ref dF, .int (nI len), .int (nI 1), .ref dH, .int (nI sr), .ref dL, .int (nI en), .int (nI ram), .int (nI mz), .ref dM, .int (nI hp), .int (nI cn), .ref dP, .ref dS, .int (nI fk), .int fp, .int (nI ka), .int (nI kn), .int (nI sv), .ref dK])), (dH, .inl (cJ, 9, .inr (.inl dh)))]) [0, 1] (by decide) rfl
        exact W.lret (v := lN 0) hx hb hr (fun t ht hW => ⟨⟨(lN 0), (), rfl, (by unfold toldR; rw [if_neg (by omega), if_neg (by omega), hwT]; show _ = lN sr; exact congrArg lN (by omega)), by rw [ht]; exact hP9, hD9⟩, hS.F ht⟩) hS.2.2 dX4_told_131
      · skip
        refine lv_lconst (v := lN 1) hx hb dX4_told_126 (by decide) ?_
        refine lv_goto (tgt := 131) hx hb dX4_told_127 (by decide) ?_
        have hP9 := hP.sub (ws' := [(oD, .inr (4, [.int (nI 0), .ref dF, .int (nI len), .int (nI 1), .ref dH, .int (nI sr), .ref dL, .int (nI en), .int (nI ram), .int (nI mz), .ref dM, .int (nI hp), .int (nI cn), .ref dP, .ref dS, .int (nI fk), .int fp, .int (nI ka), .int (nI kn), .int (nI sv), .ref dK])), (dH, .inl (cJ, 9, .inr (.inl dh)))]) [0, 1] rfl
        have hD9 := hD.sub (ws' := [(oD, .inr (4, [.int (nI 0), .ref dF, .int (nI len), .int (nI 1), .ref dH, .int (nI sr), .ref dL, .int (nI en), .int (nI ram), .int (nI mz), .ref dM, .int (nI hp), .int (nI cn), .ref dP, .ref dS, .int (nI fk), .int fp, .int (nI ka), .int (nI kn), .int (nI sv), .ref dK])), (dH, .inl (cJ, 9, .inr (.inl dh)))]) [0, 1] (by decide) rfl
        exact W.lret (v := lN 1) hx hb hr (fun t ht hW => ⟨⟨(lN 1), (), rfl, (by unfold toldR; rw [if_neg (by omega), if_neg (by omega), hwT]; show _ = lN sr; exact congrArg lN (by omega)), by rw [ht]; exact hP9, hD9⟩, hS.F ht⟩) hS.2.2 dX4_told_131
  · skip
    have c_5 := wz_zero c_5
    refine lv_ldc2 (v := (-9223372036854775808)) hx hb hown (hts (.constantLong RX4 70 (-9223372036854775808)) (by decide +kernel)) dX4_told_24 ?_
    have hP9 := hP.sub (ws' := [(oD, .inr (4, [.int (nI 0), .ref dF, .int (nI len), .int (nI 1), .ref dH, .int (nI sr), .ref dL, .int (nI en), .int (nI ram), .int (nI mz), .ref dM, .int (nI hp), .int (nI cn), .ref dP, .ref dS, .int (nI fk), .int fp, .int (nI ka), .int (nI kn), .int (nI sv), .ref dK])), (dH, .inl (cJ, 9, .inr (.inl dh)))]) [0, 1] rfl
    have hD9 := hD.sub (ws' := [(oD, .inr (4, [.int (nI 0), .ref dF, .int (nI len), .int (nI 1), .ref dH, .int (nI sr), .ref dL, .int (nI en), .int (nI ram), .int (nI mz), .ref dM, .int (nI hp), .int (nI cn), .ref dP, .ref dS, .int (nI fk), .int fp, .int (nI ka), .int (nI kn), .int (nI sv), .ref dK])), (dH, .inl (cJ, 9, .inr (.inl dh)))]) [0, 1] (by decide) rfl
    exact W.lret (v := (-9223372036854775808)) hx hb hr (fun t ht hW => ⟨⟨(-9223372036854775808), (), rfl, (by unfold toldR; rw [if_pos (by omega)]), by rw [ht]; exact hP9, hD9⟩, hS.F ht⟩) hS.2.2 dX4_told_27
set_option maxHeartbeats 4000000 in
set_option maxRecDepth 100000 in
theorem c_X4_fails (l : Launch) (dC : Nat → ClassId) (dI : Nat → Nat → Nat) (cB cI cJ : ClassId) (sz : Nat) (oD : Nat) (th : Nat) (dF : Nat) (len : Nat) (ha : Nat) (dH : Nat) (sr : Nat) (dL : Nat) (en : Nat) (ram : Nat) (mz : Nat) (dM : Nat) (hp : Nat) (cn : Nat) (dP : Nat) (dS : Nat) (fk : Nat) (fp : Int32) (ka : Nat) (kn : Nat) (sv : Nat) (dK : Nat) (k : Nat) (a : Int32)  : Met l yX4_fails wsX4_fails ({ frames := 0, cells := 0, slots := 0, locals := 0 }) (va_Pc [.ref oD, .int (nI k), .int a] (wPre dC dI cB cI cJ sz [(oD, .inr (4, [.int (nI th), .ref dF, .int (nI len), .int (nI ha), .ref dH, .int (nI sr), .ref dL, .int (nI en), .int (nI ram), .int (nI mz), .ref dM, .int (nI hp), .int (nI cn), .ref dP, .ref dS, .int (nI fk), .int fp, .int (nI ka), .int (nI kn), .int (nI sv), .ref dK]))])) (va_Qv (fun (u : Unit) => True) (fun (u : Unit) => wPost dC dI (va_A [(oD, .inr (4, [.int (nI th), .ref dF, .int (nI len), .int (nI ha), .ref dH, .int (nI sr), .ref dL, .int (nI en), .int (nI ram), .int (nI mz), .ref dM, .int (nI hp), .int (nI cn), .ref dP, .ref dS, .int (nI fk), .int fp, .int (nI ka), .int (nI kn), .int (nI sv), .ref dK]))] sz) [(oD, .inr (4, [.int (nI th), .ref dF, .int (nI len), .int (nI ha), .ref dH, .int (nI sr), .ref dL, .int (nI en), .int (nI ram), .int (nI mz), .ref dM, .int (nI hp), .int (nI cn), .ref dP, .ref dS, .int (nI k), .int a, .int (nI ka), .int (nI kn), .int (nI sv), .ref dK]))]) (va_A [(oD, .inr (4, [.int (nI th), .ref dF, .int (nI len), .int (nI ha), .ref dH, .int (nI sr), .ref dL, .int (nI en), .int (nI ram), .int (nI mz), .ref dM, .int (nI hp), .int (nI cn), .ref dP, .ref dS, .int (nI fk), .int fp, .int (nI ka), .int (nI kn), .int (nI sv), .ref dK]))] sz)) 0 0 (va_A [(oD, .inr (4, [.int (nI th), .ref dF, .int (nI len), .int (nI ha), .ref dH, .int (nI sr), .ref dL, .int (nI en), .int (nI ram), .int (nI mz), .ref dM, .int (nI hp), .int (nI cn), .ref dP, .ref dS, .int (nI fk), .int fp, .int (nI ka), .int (nI kn), .int (nI sv), .ref dK]))] sz) := by
  refine Met.ofW (cc := cX4_fails) (maxL := 3) (ret := none) (by decide) rfl ?_
  intro p e s m args below meth c s₁ B hml hv
  obtain ⟨rfl, hsz, hP, hK, hD0, hN⟩ := hv
  have hx := B.exec
  have hb := B.bytes
  have hr := B.returns
  have hts := atoms_spec (ws := wsX4_fails) B.pre
  have hown : s.vm.findClass RX4 = some m.cls := findClass_of_methodNamed B.named
  have hlocks := B.notSynchronized
  subst hsz
  have hD := hD0.self (sz := s.heap.size)
  generalize hAe : va_A [(oD, .inr (4, [.int (nI th), .ref dF, .int (nI len), .int (nI ha), .ref dH, .int (nI sr), .ref dL, .int (nI en), .int (nI ram), .int (nI mz), .ref dM, .int (nI hp), .int (nI cn), .ref dP, .ref dS, .int (nI fk), .int fp, .int (nI ka), .int (nI kn), .int (nI sv), .ref dK]))] s.heap.size = A at hD ⊢
  have hA : ∀ q : Nat, s.heap.size ≤ q → A q := fun q h => by rw [← hAe]; exact Or.inr h
  have hS : va_S A s.heap s.heap [] := va_S.rf
  have hP : va_P (dC, dI) vwCl [(oD, .inr (4, [.int (nI th), .ref dF, .int (nI len), .int (nI ha), .ref dH, .int (nI sr), .ref dL, .int (nI en), .int (nI ram), .int (nI mz), .ref dM, .int (nI hp), .int (nI cn), .ref dP, .ref dS, .int (nI fk), .int fp, .int (nI ka), .int (nI kn), .int (nI sv), .ref dK]))] s.heap := hP
  have hl := lv_entry ([.ref oD, .int (nI k), .int a]) (n := 3) (Nat.le_of_ble_eq_true rfl)
  rw [lg_entry_eq]
  generalize (lg_sl ([.ref oD, .int (nI k), .int a]) ++ List.replicate (3 - (lg_sl ([.ref oD, .int (nI k), .int a])).length) Slot.unset).toArray = ls at hl ⊢
  have hl : lv_has ls 3 [(0, .ref oD), (1, .int (nI k)), (2, .int a)] := hl
  refine lv_aload_n hx hb dX4_fails_0 rfl (lv_at hl 0 rfl) ?_
  refine lv_iload_n hx hb dX4_fails_1 rfl (lv_at hl 1 rfl) ?_
  refine va_put (D := (dC, dI)) (ci := 4) (v := .int (nI k)) (ty := .int) (C := RX4) (T := TX4) (N := 21) hx hb hts (by decide +kernel) tyX4 tyX4_ok nmX4 hown hK hP hD hS 0 rfl rfl 15 (by decide) (hts (.fieldLink RX4 98 "GlulxHeadsModel" "fault" "I") (by decide +kernel)) (fun _ h9 => h9) rfl (by decide +kernel) rfl rfl (Nat.le_of_ble_eq_true rfl) dX4_fails_2 (fun H locs hP hD hS => ?_)
  have hP : va_P (dC, dI) vwCl [(oD, .inr (4, [.int (nI th), .ref dF, .int (nI len), .int (nI ha), .ref dH, .int (nI sr), .ref dL, .int (nI en), .int (nI ram), .int (nI mz), .ref dM, .int (nI hp), .int (nI cn), .ref dP, .ref dS, .int (nI k), .int fp, .int (nI ka), .int (nI kn), .int (nI sv), .ref dK]))] H := hP
  have hD : va_D A [(oD, .inr (4, [.int (nI th), .ref dF, .int (nI len), .int (nI ha), .ref dH, .int (nI sr), .ref dL, .int (nI en), .int (nI ram), .int (nI mz), .ref dM, .int (nI hp), .int (nI cn), .ref dP, .ref dS, .int (nI k), .int fp, .int (nI ka), .int (nI kn), .int (nI sv), .ref dK]))] := hD
  refine lv_aload_n hx hb dX4_fails_5 rfl (lv_at hl 0 rfl) ?_
  refine lv_iload_n hx hb dX4_fails_6 rfl (lv_at hl 2 rfl) ?_
  refine va_put (D := (dC, dI)) (ci := 4) (v := .int a) (ty := .int) (C := RX4) (T := TX4) (N := 21) hx hb hts (by decide +kernel) tyX4 tyX4_ok nmX4 hown hK hP hD hS 0 rfl rfl 16 (by decide) (hts (.fieldLink RX4 101 "GlulxHeadsModel" "faultAt" "I") (by decide +kernel)) (fun _ h9 => h9) rfl (by decide +kernel) rfl rfl (Nat.le_of_ble_eq_true rfl) dX4_fails_7 (fun H locs hP hD hS => ?_)
  have hP : va_P (dC, dI) vwCl [(oD, .inr (4, [.int (nI th), .ref dF, .int (nI len), .int (nI ha), .ref dH, .int (nI sr), .ref dL, .int (nI en), .int (nI ram), .int (nI mz), .ref dM, .int (nI hp), .int (nI cn), .ref dP, .ref dS, .int (nI k), .int a, .int (nI ka), .int (nI kn), .int (nI sv), .ref dK]))] H := hP
  have hD : va_D A [(oD, .inr (4, [.int (nI th), .ref dF, .int (nI len), .int (nI ha), .ref dH, .int (nI sr), .ref dL, .int (nI en), .int (nI ram), .int (nI mz), .ref dM, .int (nI hp), .int (nI cn), .ref dP, .ref dS, .int (nI k), .int a, .int (nI ka), .int (nI kn), .int (nI sv), .ref dK]))] := hD
  have hP9 := hP.sub (ws' := [(oD, .inr (4, [.int (nI th), .ref dF, .int (nI len), .int (nI ha), .ref dH, .int (nI sr), .ref dL, .int (nI en), .int (nI ram), .int (nI mz), .ref dM, .int (nI hp), .int (nI cn), .ref dP, .ref dS, .int (nI k), .int a, .int (nI ka), .int (nI kn), .int (nI sv), .ref dK]))]) [0] rfl
  have hD9 := hD.sub (ws' := [(oD, .inr (4, [.int (nI th), .ref dF, .int (nI len), .int (nI ha), .ref dH, .int (nI sr), .ref dL, .int (nI en), .int (nI ram), .int (nI mz), .ref dM, .int (nI hp), .int (nI cn), .ref dP, .ref dS, .int (nI k), .int a, .int (nI ka), .int (nI kn), .int (nI sv), .ref dK]))]) [0] (by decide) rfl
  exact W.vret hx hb hr (fun t ht hW => ⟨⟨(), rfl, trivial, by rw [ht]; exact hP9, hD9⟩, hS.F ht⟩) hS.2.2 dX4_fails_10
set_option maxHeartbeats 4000000 in
set_option maxRecDepth 100000 in
theorem c_X4_isWidth (l : Launch) (dC : Nat → ClassId) (dI : Nat → Nat → Nat) (cB cI cJ : ClassId) (sz : Nat) (wv : Int32)  : Met l yX4_isWidth wsX4_isWidth ({ frames := 0, cells := 0, slots := 0, locals := 0 }) (va_Pc [.int wv] (wPre dC dI cB cI cJ sz [])) (va_Qi (fun (r : Int32) (u : Unit) => r = nI (if isW wv then 1 else 0)) (fun (u : Unit) => wPost dC dI (va_A [] sz) []) (va_A [] sz)) 0 0 (va_A [] sz) := by
  refine Met.ofW (cc := cX4_isWidth) (maxL := 1) (ret := (some .boolean)) (by decide) rfl ?_
  intro p e s m args below meth c s₁ B hml hv
  obtain ⟨rfl, hsz, hP, hK, hD0, hN⟩ := hv
  have hx := B.exec
  have hb := B.bytes
  have hr := B.returns
  have hts := atoms_spec (ws := wsX4_isWidth) B.pre
  have hown : s.vm.findClass RX4 = some m.cls := findClass_of_methodNamed B.named
  have hlocks := B.notSynchronized
  subst hsz
  have hD := hD0.self (sz := s.heap.size)
  generalize hAe : va_A [] s.heap.size = A at hD ⊢
  have hA : ∀ q : Nat, s.heap.size ≤ q → A q := fun q h => by rw [← hAe]; exact Or.inr h
  have hS : va_S A s.heap s.heap [] := va_S.rf
  have hP : va_P (dC, dI) vwCl [] s.heap := hP
  have hl := lv_entry ([.int wv]) (n := 1) (Nat.le_of_ble_eq_true rfl)
  rw [lg_entry_eq]
  generalize (lg_sl ([.int wv]) ++ List.replicate (1 - (lg_sl ([.int wv])).length) Slot.unset).toArray = ls at hl ⊢
  have hl : lv_has ls 1 [(0, .int wv)] := hl
  refine lv_iload_n hx hb dX4_isWidth_0 rfl (lv_at hl 0 rfl) ?_
  refine lv_iconst (v := nI 1) hx hb dX4_isWidth_1 (by decide) ?_
  refine lv_icmp_eq (tgt := 15) hx hb dX4_isWidth_2 (by decide) (fun c_1 => ?_) (fun c_1 => ?_)
  · skip
    rw [← Int32.toInt_inj, nI_toInt (n := 1) (by omega)] at c_1
    refine lv_iconst (v := nI 1) hx hb dX4_isWidth_15 (by decide) ?_
    refine lv_goto (tgt := 20) hx hb dX4_isWidth_16 (by decide) ?_
    have hP9 := hP.sub (ws' := []) [] rfl
    have hD9 := hD.sub (ws' := []) [] (by decide) rfl
    exact W.zret (v := nI 1) hx hb hr (by first | rfl | decide) (fun t ht hW => ⟨⟨(nI 1), (), rfl, by rw [if_pos (by omega)], by rw [ht]; exact hP9, hD9⟩, hS.F ht⟩) hS.2.2 dX4_isWidth_20
  · skip
    rw [← Int32.toInt_inj, nI_toInt (n := 1) (by omega)] at c_1
    refine lv_iload_n hx hb dX4_isWidth_5 rfl (lv_at hl 0 rfl) ?_
    refine lv_iconst (v := nI 2) hx hb dX4_isWidth_6 (by decide) ?_
    refine lv_icmp_eq (tgt := 15) hx hb dX4_isWidth_7 (by decide) (fun c_2 => ?_) (fun c_2 => ?_)
    · skip
      rw [← Int32.toInt_inj, nI_toInt (n := 2) (by omega)] at c_2
      refine lv_iconst (v := nI 1) hx hb dX4_isWidth_15 (by decide) ?_
      refine lv_goto (tgt := 20) hx hb dX4_isWidth_16 (by decide) ?_
      have hP9 := hP.sub (ws' := []) [] rfl
      have hD9 := hD.sub (ws' := []) [] (by decide) rfl
      exact W.zret (v := nI 1) hx hb hr (by first | rfl | decide) (fun t ht hW => ⟨⟨(nI 1), (), rfl, by rw [if_pos (by omega)], by rw [ht]; exact hP9, hD9⟩, hS.F ht⟩) hS.2.2 dX4_isWidth_20
    · skip
      rw [← Int32.toInt_inj, nI_toInt (n := 2) (by omega)] at c_2
      refine lv_iload_n hx hb dX4_isWidth_10 rfl (lv_at hl 0 rfl) ?_
      refine lv_iconst (v := nI 4) hx hb dX4_isWidth_11 (by decide) ?_
      refine lv_icmp_ne (tgt := 19) hx hb dX4_isWidth_12 (by decide) (fun c_3 => ?_) (fun c_3 => ?_)
      · skip
        rw [← Int32.toInt_inj, nI_toInt (n := 4) (by omega)] at c_3
        refine lv_iconst (v := nI 0) hx hb dX4_isWidth_19 (by decide) ?_
        have hP9 := hP.sub (ws' := []) [] rfl
        have hD9 := hD.sub (ws' := []) [] (by decide) rfl
        exact W.zret (v := nI 0) hx hb hr (by first | rfl | decide) (fun t ht hW => ⟨⟨(nI 0), (), rfl, by rw [if_neg (by omega)], by rw [ht]; exact hP9, hD9⟩, hS.F ht⟩) hS.2.2 dX4_isWidth_20
      · skip
        rw [← Int32.toInt_inj, nI_toInt (n := 4) (by omega)] at c_3
        refine lv_iconst (v := nI 1) hx hb dX4_isWidth_15 (by decide) ?_
        refine lv_goto (tgt := 20) hx hb dX4_isWidth_16 (by decide) ?_
        have hP9 := hP.sub (ws' := []) [] rfl
        have hD9 := hD.sub (ws' := []) [] (by decide) rfl
        exact W.zret (v := nI 1) hx hb hr (by first | rfl | decide) (fun t ht hW => ⟨⟨(nI 1), (), rfl, by rw [if_pos (by omega)], by rw [ht]; exact hP9, hD9⟩, hS.F ht⟩) hS.2.2 dX4_isWidth_20
set_option maxHeartbeats 4000000 in
set_option maxRecDepth 100000 in
theorem c_X4_read_M (l : Launch) (dC : Nat → ClassId) (dI : Nat → Nat → Nat) (cB cI cJ : ClassId) (sz : Nat) (oD : Nat) (th : Nat) (dF : Nat) (len : Nat) (dH : Nat) (sr : Nat) (dL : Nat) (en : Nat) (ram : Nat) (mz : Nat) (dM : Nat) (hp : Nat) (cn : Nat) (dP : Nat) (dS : Nat) (fk : Nat) (fp : Int32) (ka : Nat) (kn : Nat) (sv : Nat) (dK : Nat) (dm : Nat → Int32) (mem : Nat → Nat) (wv : Int32) (av : Int32) (hmz : mz ≤ 8192) (hm : gOk dm mz mem) (hmem : ∀ j, mem j < 256) : Met l yX4_read wsX4_read ({ frames := 1, cells := 0, slots := 0, locals := 25 }) (va_Pc [.ref oD, .int wv, .int av] (wPre dC dI cB cI cJ sz [(oD, .inr (4, [.int (nI th), .ref dF, .int (nI len), .int (nI 1), .ref dH, .int (nI sr), .ref dL, .int (nI en), .int (nI ram), .int (nI mz), .ref dM, .int (nI hp), .int (nI cn), .ref dP, .ref dS, .int (nI fk), .int fp, .int (nI ka), .int (nI kn), .int (nI sv), .ref dK])), (dM, .inl (cI, 8192, .inl dm))])) (va_Ql (fun (r : Int64) (u : Nat × Int32) => r = readR mem mz wv av ∧ u.1 = readK mz fk wv av ∧ u.2 = readF mz fp wv av) (fun (u : Nat × Int32) => wPost dC dI (va_A [(oD, .inr (4, [.int (nI th), .ref dF, .int (nI len), .int (nI 1), .ref dH, .int (nI sr), .ref dL, .int (nI en), .int (nI ram), .int (nI mz), .ref dM, .int (nI hp), .int (nI cn), .ref dP, .ref dS, .int (nI fk), .int fp, .int (nI ka), .int (nI kn), .int (nI sv), .ref dK])), (dM, .inl (cI, 8192, .inl dm))] sz) [(oD, .inr (4, [.int (nI 0), .ref dF, .int (nI len), .int (nI 1), .ref dH, .int (nI sr), .ref dL, .int (nI en), .int (nI ram), .int (nI mz), .ref dM, .int (nI hp), .int (nI cn), .ref dP, .ref dS, .int (nI u.1), .int u.2, .int (nI ka), .int (nI kn), .int (nI sv), .ref dK])), (dM, .inl (cI, 8192, .inl dm))]) (va_A [(oD, .inr (4, [.int (nI th), .ref dF, .int (nI len), .int (nI 1), .ref dH, .int (nI sr), .ref dL, .int (nI en), .int (nI ram), .int (nI mz), .ref dM, .int (nI hp), .int (nI cn), .ref dP, .ref dS, .int (nI fk), .int fp, .int (nI ka), .int (nI kn), .int (nI sv), .ref dK])), (dM, .inl (cI, 8192, .inl dm))] sz)) 0 0 (va_A [(oD, .inr (4, [.int (nI th), .ref dF, .int (nI len), .int (nI 1), .ref dH, .int (nI sr), .ref dL, .int (nI en), .int (nI ram), .int (nI mz), .ref dM, .int (nI hp), .int (nI cn), .ref dP, .ref dS, .int (nI fk), .int fp, .int (nI ka), .int (nI kn), .int (nI sv), .ref dK])), (dM, .inl (cI, 8192, .inl dm))] sz) := by
  refine Met.ofW (cc := cX4_read) (maxL := 6) (ret := (some .long)) (by decide) rfl ?_
  intro p e s m args below meth c s₁ B hml hv
  obtain ⟨rfl, hsz, hP, hK, hD0, hN⟩ := hv
  have hx := B.exec
  have hb := B.bytes
  have hr := B.returns
  have hts := atoms_spec (ws := wsX4_read) B.pre
  have hown : s.vm.findClass RX4 = some m.cls := findClass_of_methodNamed B.named
  have hlocks := B.notSynchronized
  subst hsz
  have hD := hD0.self (sz := s.heap.size)
  generalize hAe : va_A [(oD, .inr (4, [.int (nI th), .ref dF, .int (nI len), .int (nI 1), .ref dH, .int (nI sr), .ref dL, .int (nI en), .int (nI ram), .int (nI mz), .ref dM, .int (nI hp), .int (nI cn), .ref dP, .ref dS, .int (nI fk), .int fp, .int (nI ka), .int (nI kn), .int (nI sv), .ref dK])), (dM, .inl (cI, 8192, .inl dm))] s.heap.size = A at hD ⊢
  have hA : ∀ q : Nat, s.heap.size ≤ q → A q := fun q h => by rw [← hAe]; exact Or.inr h
  have hS : va_S A s.heap s.heap [] := va_S.rf
  have hP : va_P (dC, dI) vwCl [(oD, .inr (4, [.int (nI th), .ref dF, .int (nI len), .int (nI 1), .ref dH, .int (nI sr), .ref dL, .int (nI en), .int (nI ram), .int (nI mz), .ref dM, .int (nI hp), .int (nI cn), .ref dP, .ref dS, .int (nI fk), .int fp, .int (nI ka), .int (nI kn), .int (nI sv), .ref dK])), (dM, .inl (cI, 8192, .inl dm))] s.heap := hP
  have hl := lv_entry ([.ref oD, .int wv, .int av]) (n := 6) (Nat.le_of_ble_eq_true rfl)
  rw [lg_entry_eq]
  generalize (lg_sl ([.ref oD, .int wv, .int av]) ++ List.replicate (6 - (lg_sl ([.ref oD, .int wv, .int av])).length) Slot.unset).toArray = ls at hl ⊢
  have hl : lv_has ls 6 [(0, .ref oD), (1, .int wv), (2, .int av)] := hl
  refine lv_aload_n hx hb dX4_read_0 rfl (lv_at hl 0 rfl) ?_
  refine lv_iconst (v := nI 0) hx hb dX4_read_1 (by decide) ?_
  refine va_put (D := (dC, dI)) (ci := 4) (v := .int (nI 0)) (ty := .int) (C := RX4) (T := TX4) (N := 21) hx hb hts (by decide +kernel) tyX4 tyX4_ok nmX4 hown hK hP hD hS 0 rfl rfl 0 (by decide) (hts (.fieldLink RX4 32 "GlulxHeadsModel" "thrown" "I") (by decide +kernel)) (fun _ h9 => h9) rfl (by decide +kernel) rfl rfl (Nat.le_of_ble_eq_true rfl) dX4_read_2 (fun H locs hP hD hS => ?_)
  have hP : va_P (dC, dI) vwCl [(oD, .inr (4, [.int (nI 0), .ref dF, .int (nI len), .int (nI 1), .ref dH, .int (nI sr), .ref dL, .int (nI en), .int (nI ram), .int (nI mz), .ref dM, .int (nI hp), .int (nI cn), .ref dP, .ref dS, .int (nI fk), .int fp, .int (nI ka), .int (nI kn), .int (nI sv), .ref dK])), (dM, .inl (cI, 8192, .inl dm))] H := hP
  have hD : va_D A [(oD, .inr (4, [.int (nI 0), .ref dF, .int (nI len), .int (nI 1), .ref dH, .int (nI sr), .ref dL, .int (nI en), .int (nI ram), .int (nI mz), .ref dM, .int (nI hp), .int (nI cn), .ref dP, .ref dS, .int (nI fk), .int fp, .int (nI ka), .int (nI kn), .int (nI sv), .ref dK])), (dM, .inl (cI, 8192, .inl dm))] := hD
  refine lv_aload_n hx hb dX4_read_5 rfl (lv_at hl 0 rfl) ?_
  refine va_get (D := (dC, dI)) (ci := 4) (v := .int (nI 1)) (C := RX4) (T := TX4) (N := 21) hx hb hts (by decide +kernel) hown hK hP 0 rfl rfl 3 (by decide) (hts (.fieldLink RX4 76 "GlulxHeadsModel" "has" "Z") (by decide +kernel)) (fun _ h9 => h9) rfl dX4_read_6 ?_
  refine wx_if_eq (tgt := 19) hx hb dX4_read_9 (by decide) (by first | omega | (split <;> omega)) (fun c_1 => absurd c_1 (by decide)) (fun c_1 => ?_)
  refine lv_iload_n hx hb dX4_read_12 rfl (lv_at hl 1 rfl) ?_
  have hPc := hP.sub (ws' := []) [] rfl
  have hDc := hD.sub (ws' := []) [] (by decide) rfl
  have hFc := va_free (wc := []) hD hS hA [] rfl
  refine va_calli (va_runS (As := [.int wv]) (rest := []) ⟨hx, hb, hml, hown, hts⟩ (c_X4_isWidth l dC dI cB cI cJ H.size wv ) (va_cwS 1 hts gX4_read_X4_isWidth rfl rfl rfl (by decide +kernel) ⟨Nat.le_of_ble_eq_true rfl, Nat.le_of_ble_eq_true rfl⟩) ⟨wBlind, wGo hK hPc hDc hN⟩ rfl rfl hl.1 rfl (lv_room (Nat.le_of_ble_eq_true rfl)) dX4_read_13 ⟨show 0 ≤ 0 by decide, show 0 ≤ 0 by decide⟩) hS (fun q _ h => hFc q h) hFc (fun r_3 u t H1 locs ht hvm w_4 hB hz1 hk1 hS => ?_)
  clear u
  obtain ⟨hP1, hD1⟩ := hB
  rw [ht] at hP1
  try dsimp only at w_4
  obtain ⟨hP, hD⟩ := va_join (wr := [(oD, .inr (4, [.int (nI 0), .ref dF, .int (nI len), .int (nI 1), .ref dH, .int (nI sr), .ref dL, .int (nI en), .int (nI ram), .int (nI mz), .ref dM, .int (nI hp), .int (nI cn), .ref dP, .ref dS, .int (nI fk), .int fp, .int (nI ka), .int (nI kn), .int (nI sv), .ref dK])), (dM, .inl (cI, 8192, .inl dm))]) (w1 := []) hP hD [] [0, 1] rfl rfl (by decide) (by decide) hk1 hFc hP1 hD1
  clear hPc hDc hFc hP1 hD1 hz1 hk1 hvm
  generalize H1 = H at hP hS ⊢
  have hP : va_P (dC, dI) vwCl [(oD, .inr (4, [.int (nI 0), .ref dF, .int (nI len), .int (nI 1), .ref dH, .int (nI sr), .ref dL, .int (nI en), .int (nI ram), .int (nI mz), .ref dM, .int (nI hp), .int (nI cn), .ref dP, .ref dS, .int (nI fk), .int fp, .int (nI ka), .int (nI kn), .int (nI sv), .ref dK])), (dM, .inl (cI, 8192, .inl dm))] H := hP
  have hD : va_D A [(oD, .inr (4, [.int (nI 0), .ref dF, .int (nI len), .int (nI 1), .ref dH, .int (nI sr), .ref dL, .int (nI en), .int (nI ram), .int (nI mz), .ref dM, .int (nI hp), .int (nI cn), .ref dP, .ref dS, .int (nI fk), .int fp, .int (nI ka), .int (nI kn), .int (nI sv), .ref dK])), (dM, .inl (cI, 8192, .inl dm))] := hD
  subst w_4
  refine wx_if_ne (tgt := 23) hx hb dX4_read_16 (by decide) (by first | omega | (split <;> omega)) (fun c_5 => ?_) (fun c_5 => ?_)
  · skip
    have c_5 := wz_pos c_5
    obtain ⟨w, hw, rfl⟩ : ∃ w : Nat, w < 2147483648 ∧ wv = nI w := nI_of (by intro z; rw [Int32.lt_iff_toInt_lt, show (0 : Int32).toInt = 0 by decide] at z; omega)
    have hwE : (nI w).toInt = (w : Int) := nI_toInt hw
    have hwT : (nI w).toInt.toNat = w := by rw [hwE]; exact Int.toNat_natCast _
    refine lv_iload_n hx hb dX4_read_23 rfl (lv_at hl 2 rfl) ?_
    refine lv_i2l (v := av.toInt64) hx hb dX4_read_24 rfl ?_
    refine lv_lconst (v := lN 0) hx hb dX4_read_25 (by decide) ?_
    refine lv_aload_n hx hb dX4_read_26 rfl (lv_at hl 0 rfl) ?_
    refine va_get (D := (dC, dI)) (ci := 4) (v := .int (nI mz)) (C := RX4) (T := TX4) (N := 21) hx hb hts (by decide +kernel) hown hK hP 0 rfl rfl 9 (by decide) (hts (.fieldLink RX4 89 "GlulxHeadsModel" "m" "I") (by decide +kernel)) (fun _ h9 => h9) rfl dX4_read_27 ?_
    refine lv_iload_n hx hb dX4_read_30 rfl (lv_at hl 1 rfl) ?_
    refine lv_isub hx hb dX4_read_31 ?_
    refine lv_i2l (v := ((nI mz) - (nI w)).toInt64) hx hb dX4_read_32 rfl ?_
    have hPc := hP.sub (ws' := []) [] rfl
    have hDc := hD.sub (ws' := []) [] (by decide) rfl
    have hFc := va_free (wc := []) hD hS hA [] rfl
    refine va_calli (va_runS (As := [.long av.toInt64, .long (lN 0), .long (((nI mz) - (nI w)).toInt64)]) (rest := []) ⟨hx, hb, hml, hown, hts⟩ (c_X4_in l dC dI cB cI cJ H.size av.toInt64 (lN 0) (((nI mz) - (nI w)).toInt64) ) (va_cwS 3 hts gX4_read_X4_in rfl rfl rfl (by decide +kernel) ⟨Nat.le_of_ble_eq_true rfl, Nat.le_of_ble_eq_true rfl⟩) ⟨wBlind, wGo hK hPc hDc hN⟩ rfl rfl hl.1 rfl (lv_room (Nat.le_of_ble_eq_true rfl)) dX4_read_33 ⟨show 0 ≤ 0 by decide, show 0 ≤ 0 by decide⟩) hS (fun q _ h => hFc q h) hFc (fun r_7 u t H1 locs ht hvm w_8 hB hz1 hk1 hS => ?_)
    clear u
    obtain ⟨hP1, hD1⟩ := hB
    rw [ht] at hP1
    try dsimp only at w_8
    obtain ⟨hP, hD⟩ := va_join (wr := [(oD, .inr (4, [.int (nI 0), .ref dF, .int (nI len), .int (nI 1), .ref dH, .int (nI sr), .ref dL, .int (nI en), .int (nI ram), .int (nI mz), .ref dM, .int (nI hp), .int (nI cn), .ref dP, .ref dS, .int (nI fk), .int fp, .int (nI ka), .int (nI kn), .int (nI sv), .ref dK])), (dM, .inl (cI, 8192, .inl dm))]) (w1 := []) hP hD [] [0, 1] rfl rfl (by decide) (by decide) hk1 hFc hP1 hD1
    clear hPc hDc hFc hP1 hD1 hz1 hk1 hvm
    generalize H1 = H at hP hS ⊢
    have hP : va_P (dC, dI) vwCl [(oD, .inr (4, [.int (nI 0), .ref dF, .int (nI len), .int (nI 1), .ref dH, .int (nI sr), .ref dL, .int (nI en), .int (nI ram), .int (nI mz), .ref dM, .int (nI hp), .int (nI cn), .ref dP, .ref dS, .int (nI fk), .int fp, .int (nI ka), .int (nI kn), .int (nI sv), .ref dK])), (dM, .inl (cI, 8192, .inl dm))] H := hP
    have hD : va_D A [(oD, .inr (4, [.int (nI 0), .ref dF, .int (nI len), .int (nI 1), .ref dH, .int (nI sr), .ref dL, .int (nI en), .int (nI ram), .int (nI mz), .ref dM, .int (nI hp), .int (nI cn), .ref dP, .ref dS, .int (nI fk), .int fp, .int (nI ka), .int (nI kn), .int (nI sv), .ref dK])), (dM, .inl (cI, 8192, .inl dm))] := hD
    have hz0 : (av.toInt64).toInt = av.toInt := Int32.toInt_toInt64 _
    have hz1 : (lN 0).toInt = ((0 : Nat) : Int) := pk_lT (by first | omega | (split <;> omega))
    have hz2 : (((nI mz) - (nI w)).toInt64).toInt = ((nI mz) - (nI w)).toInt := Int32.toInt_toInt64 _
    have hy2 : ((nI mz) - (nI w)).toInt = ((mz : Nat) : Int) - ((w : Nat) : Int) := pk_sub_toInt (by first | omega | (split <;> omega)) (by first | omega | (split <;> omega))
    have hwi : r_7 = nI (if 0 ≤ av.toInt ∧ av.toInt + (w : Int) ≤ (mz : Int) then 1 else 0) := by rw [w_8]; exact wif (by constructor <;> (intro z; omega))
    clear w_8
    subst hwi
    refine wx_if_ne (tgt := 49) hx hb dX4_read_36 (by decide) (by first | omega | (split <;> omega)) (fun c_9 => ?_) (fun c_9 => ?_)
    · skip
      have c_9 := wz_pos c_9
      obtain ⟨j, hj, rfl⟩ : ∃ j : Nat, j < 2147483648 ∧ av = nI j := nI_of (by intro z; rw [Int32.lt_iff_toInt_lt, show (0 : Int32).toInt = 0 by decide] at z; omega)
      have hjE : (nI j).toInt = (j : Int) := nI_toInt hj
      have hjT : (nI j).toInt.toNat = j := by rw [hjE]; exact Int.toNat_natCast _
      refine lv_lconst (v := lN 0) hx hb dX4_read_49 (by decide) ?_
      refine lv_lstore_n (lv' := [(3, .long (lN 0)), (0, .ref oD), (1, .int (nI w)), (2, .int (nI j))]) hx hb dX4_read_50 rfl hl (by decide) rfl (fun ls hl => ?_)
      refine lv_iconst (v := nI 0) hx hb dX4_read_51 (by decide) ?_
      refine lv_istore (lv' := [(5, .int (nI 0)), (3, .long (lN 0)), (0, .ref oD), (1, .int (nI w)), (2, .int (nI j))]) hx hb dX4_read_52 hl (by decide) rfl (fun ls hl => ?_)
      refine wx_loop (σ := Nat) (fun xq9 => w - xq9) (fun xq9 H locs ls => (xq9 ≤ w) ∧ va_P (dC, dI) vwCl [(oD, .inr (4, [.int (nI 0), .ref dF, .int (nI len), .int (nI 1), .ref dH, .int (nI sr), .ref dL, .int (nI en), .int (nI ram), .int (nI mz), .ref dM, .int (nI hp), .int (nI cn), .ref dP, .ref dS, .int (nI fk), .int fp, .int (nI ka), .int (nI kn), .int (nI sv), .ref dK])), (dM, .inl (cI, 8192, .inl dm))] H ∧ va_D A [(oD, .inr (4, [.int (nI 0), .ref dF, .int (nI len), .int (nI 1), .ref dH, .int (nI sr), .ref dL, .int (nI en), .int (nI ram), .int (nI mz), .ref dM, .int (nI hp), .int (nI cn), .ref dP, .ref dS, .int (nI fk), .int fp, .int (nI ka), .int (nI kn), .int (nI sv), .ref dK])), (dM, .inl (cI, 8192, .inl dm))] ∧ va_S A s.heap H locs ∧ lv_has ls 6 [(0, .ref oD), (1, .int (nI w)), (2, .int (nI j)), (3, .long (lN (vAt mem xq9 j))), (5, .int (nI xq9))]) ?_ (0) _ _ _ ⟨by first | omega | (split <;> omega), hP.sub [0, 1] rfl, hD.sub [0, 1] (by decide) rfl, hS, lv_sub hl [2, 3, 4, 1, 0] rfl⟩
      rintro i H locs ls ⟨hi, hP, hD, hS, hl⟩ ih
      have hi : i ≤ w := hi
      have hP : va_P (dC, dI) vwCl [(oD, .inr (4, [.int (nI 0), .ref dF, .int (nI len), .int (nI 1), .ref dH, .int (nI sr), .ref dL, .int (nI en), .int (nI ram), .int (nI mz), .ref dM, .int (nI hp), .int (nI cn), .ref dP, .ref dS, .int (nI fk), .int fp, .int (nI ka), .int (nI kn), .int (nI sv), .ref dK])), (dM, .inl (cI, 8192, .inl dm))] H := hP
      have hD : va_D A [(oD, .inr (4, [.int (nI 0), .ref dF, .int (nI len), .int (nI 1), .ref dH, .int (nI sr), .ref dL, .int (nI en), .int (nI ram), .int (nI mz), .ref dM, .int (nI hp), .int (nI cn), .ref dP, .ref dS, .int (nI fk), .int fp, .int (nI ka), .int (nI kn), .int (nI sv), .ref dK])), (dM, .inl (cI, 8192, .inl dm))] := hD
      have hl : lv_has ls 6 [(0, .ref oD), (1, .int (nI w)), (2, .int (nI j)), (3, .long (lN (vAt mem i j))), (5, .int (nI i))] := hl
      refine lv_iload hx hb dX4_read_54 (lv_at hl 4 rfl) ?_
      refine lv_iload_n hx hb dX4_read_56 rfl (lv_at hl 1 rfl) ?_
      refine wx_icmp_ge (tgt := 83) hx hb dX4_read_57 (by decide) (by first | omega | (split <;> omega)) (by first | omega | (split <;> omega)) (fun c_10 => ?_) (fun c_10 => ?_)
      · skip
        refine lv_lload_n hx hb dX4_read_83 rfl (lv_at hl 3 rfl) ?_
        have hP9 := hP.sub (ws' := [(oD, .inr (4, [.int (nI 0), .ref dF, .int (nI len), .int (nI 1), .ref dH, .int (nI sr), .ref dL, .int (nI en), .int (nI ram), .int (nI mz), .ref dM, .int (nI hp), .int (nI cn), .ref dP, .ref dS, .int (nI fk), .int fp, .int (nI ka), .int (nI kn), .int (nI sv), .ref dK])), (dM, .inl (cI, 8192, .inl dm))]) [0, 1] rfl
        have hD9 := hD.sub (ws' := [(oD, .inr (4, [.int (nI 0), .ref dF, .int (nI len), .int (nI 1), .ref dH, .int (nI sr), .ref dL, .int (nI en), .int (nI ram), .int (nI mz), .ref dM, .int (nI hp), .int (nI cn), .ref dP, .ref dS, .int (nI fk), .int fp, .int (nI ka), .int (nI kn), .int (nI sv), .ref dK])), (dM, .inl (cI, 8192, .inl dm))]) [0, 1] (by decide) rfl
        exact W.lret (v := lN (vAt mem i j)) hx hb hr (fun t ht hW => ⟨⟨(lN (vAt mem i j)), (fk, fp), rfl, ⟨by unfold readR; rw [if_pos ⟨by assumption, (by rw [hwT]; assumption)⟩, hwT, hjT, show w = i by omega], by unfold readK; rw [if_neg (fun z => z.2 (by rw [hwT]; assumption))], by unfold readF; rw [if_neg (fun z => z.2 (by rw [hwT]; assumption))]⟩, by rw [ht]; exact hP9, hD9⟩, hS.F ht⟩) hS.2.2 dX4_read_84
      · skip
        refine lv_lload_n hx hb dX4_read_60 rfl (lv_at hl 3 rfl) ?_
        refine lv_ldc2 (v := lN 256) hx hb hown (hts (.constantLong RX4 46 (256)) (by decide +kernel)) dX4_read_61 ?_
        refine lv_lmul hx hb dX4_read_64 ?_
        refine wx_topl (lN_mul _ _) ?_
        refine lv_aload_n hx hb dX4_read_65 rfl (lv_at hl 0 rfl) ?_
        refine va_get (D := (dC, dI)) (ci := 4) (v := .ref dM) (C := RX4) (T := TX4) (N := 21) hx hb hts (by decide +kernel) hown hK hP 0 rfl rfl 10 (by decide) (hts (.fieldLink RX4 20 "GlulxHeadsModel" "memory" "[I") (by decide +kernel)) (fun _ h9 => h9) rfl dX4_read_66 ?_
        refine lv_iload_n hx hb dX4_read_69 rfl (lv_at hl 2 rfl) ?_
        refine lv_iload hx hb dX4_read_70 (lv_at hl 4 rfl) ?_
        refine wx_iadd hx hb dX4_read_72 ?_
        refine wx_iald hx hb hK hP 1 1 rfl rfl (by first | omega | (split <;> omega)) (by decide) dX4_read_73 ?_
        refine wx_top (hm (j + i) (by omega)) ?_
        have hmb := hmem (j + i)
        refine lv_i2l (v := lN (mem (j + i))) hx hb dX4_read_74 (nI_l (by first | omega | (split <;> omega))) ?_
        refine lv_ladd hx hb dX4_read_75 ?_
        refine wx_topl (lN_add _ _) ?_
        refine wx_topl (congrArg lN (show ((vAt mem i j) * 256) + (mem (j + i)) = vAt mem (i + 1) j from rfl)) ?_
        refine lv_lstore_n (lv' := [(3, .long (lN (vAt mem (i + 1) j))), (0, .ref oD), (1, .int (nI w)), (2, .int (nI j)), (5, .int (nI i))]) hx hb dX4_read_76 rfl hl (by decide) rfl (fun ls hl => ?_)
        refine lv_iinc (v := nI (i + 1)) (lv' := [(5, .int (nI (i + 1))), (3, .long (lN (vAt mem (i + 1) j))), (0, .ref oD), (1, .int (nI w)), (2, .int (nI j))]) hx hb dX4_read_77 hl (k := 4) rfl (by rw [show Int32.ofInt 1 = nI 1 by decide]; exact nI_add _ _) (by decide) rfl (fun ls hl => ?_)
        refine lv_goto (tgt := 54) hx hb dX4_read_80 (by decide) ?_
        exact ih ((i + 1)) _ _ _ (by omega) ⟨by first | omega | (split <;> omega), hP.sub [0, 1] rfl, hD.sub [0, 1] (by decide) rfl, hS, lv_sub hl [2, 3, 4, 1, 0] rfl⟩
    · skip
      have c_9 := wz_zero c_9
      refine lv_aload_n hx hb dX4_read_39 rfl (lv_at hl 0 rfl) ?_
      refine lv_iconst (v := nI 1) hx hb dX4_read_40 (by decide) ?_
      refine lv_iload_n hx hb dX4_read_41 rfl (lv_at hl 2 rfl) ?_
      have hPc := hP.sub (ws' := [(oD, .inr (4, [.int (nI 0), .ref dF, .int (nI len), .int (nI 1), .ref dH, .int (nI sr), .ref dL, .int (nI en), .int (nI ram), .int (nI mz), .ref dM, .int (nI hp), .int (nI cn), .ref dP, .ref dS, .int (nI fk), .int fp, .int (nI ka), .int (nI kn), .int (nI sv), .ref dK]))]) [0] rfl
      have hDc := hD.sub (ws' := [(oD, .inr (4, [.int (nI 0), .ref dF, .int (nI len), .int (nI 1), .ref dH, .int (nI sr), .ref dL, .int (nI en), .int (nI ram), .int (nI mz), .ref dM, .int (nI hp), .int (nI cn), .ref dP, .ref dS, .int (nI fk), .int fp, .int (nI ka), .int (nI kn), .int (nI sv), .ref dK]))]) [0] (by decide) rfl
      have hFc := va_free (wc := [(oD, .inr (4, [.int (nI 0), .ref dF, .int (nI len), .int (nI 1), .ref dH, .int (nI sr), .ref dL, .int (nI en), .int (nI ram), .int (nI mz), .ref dM, .int (nI hp), .int (nI cn), .ref dP, .ref dS, .int (nI fk), .int fp, .int (nI ka), .int (nI kn), .int (nI sv), .ref dK]))]) hD hS hA [0] rfl
      refine va_callv (va_runV (As := [.int (nI 1), .int av]) (rest := []) ⟨hx, hb, hml, hown, hts⟩ (c_X4_fails l dC dI cB cI cJ H.size oD 0 dF len 1 dH sr dL en ram mz dM hp cn dP dS fk fp ka kn sv dK 1 av ) (cwV 2 hts gX4_read_X4_fails rfl rfl rfl (by decide +kernel) ⟨Nat.le_of_ble_eq_true rfl, Nat.le_of_ble_eq_true rfl⟩) ⟨wBlind, va_recv hK hPc (ci := 4) (q0 := 0) rfl rfl, wGo hK hPc hDc hN⟩ rfl rfl hl.1 rfl (lv_room (Nat.le_of_ble_eq_true rfl)) dX4_read_42 ⟨show 0 ≤ 0 by decide, show 0 ≤ 0 by decide⟩) hS (fun q _ h => hFc q h) hFc (fun u t H1 locs ht hvm w_13 hB hz1 hk1 hS => ?_)
      clear u
      obtain ⟨hP1, hD1⟩ := hB
      rw [ht] at hP1
      try dsimp only at w_13
      obtain ⟨hP, hD⟩ := va_join (wr := [(dM, .inl (cI, 8192, .inl dm))]) (w1 := [(oD, .inr (4, [.int (nI 0), .ref dF, .int (nI len), .int (nI 1), .ref dH, .int (nI sr), .ref dL, .int (nI en), .int (nI ram), .int (nI mz), .ref dM, .int (nI hp), .int (nI cn), .ref dP, .ref dS, .int (nI 1), .int av, .int (nI ka), .int (nI kn), .int (nI sv), .ref dK]))]) hP hD [0] [1] rfl rfl (by decide) (by decide) hk1 hFc hP1 hD1
      clear hPc hDc hFc hP1 hD1 hz1 hk1 hvm
      generalize H1 = H at hP hS ⊢
      have hP : va_P (dC, dI) vwCl [(dM, .inl (cI, 8192, .inl dm)), (oD, .inr (4, [.int (nI 0), .ref dF, .int (nI len), .int (nI 1), .ref dH, .int (nI sr), .ref dL, .int (nI en), .int (nI ram), .int (nI mz), .ref dM, .int (nI hp), .int (nI cn), .ref dP, .ref dS, .int (nI 1), .int av, .int (nI ka), .int (nI kn), .int (nI sv), .ref dK]))] H := hP
      have hD : va_D A [(dM, .inl (cI, 8192, .inl dm)), (oD, .inr (4, [.int (nI 0), .ref dF, .int (nI len), .int (nI 1), .ref dH, .int (nI sr), .ref dL, .int (nI en), .int (nI ram), .int (nI mz), .ref dM, .int (nI hp), .int (nI cn), .ref dP, .ref dS, .int (nI 1), .int av, .int (nI ka), .int (nI kn), .int (nI sv), .ref dK]))] := hD
      refine lv_ldc2 (v := (-9223372036854775808)) hx hb hown (hts (.constantLong RX4 70 (-9223372036854775808)) (by decide +kernel)) dX4_read_45 ?_
      have hP9 := hP.sub (ws' := [(oD, .inr (4, [.int (nI 0), .ref dF, .int (nI len), .int (nI 1), .ref dH, .int (nI sr), .ref dL, .int (nI en), .int (nI ram), .int (nI mz), .ref dM, .int (nI hp), .int (nI cn), .ref dP, .ref dS, .int (nI 1), .int av, .int (nI ka), .int (nI kn), .int (nI sv), .ref dK])), (dM, .inl (cI, 8192, .inl dm))]) [1, 0] rfl
      have hD9 := hD.sub (ws' := [(oD, .inr (4, [.int (nI 0), .ref dF, .int (nI len), .int (nI 1), .ref dH, .int (nI sr), .ref dL, .int (nI en), .int (nI ram), .int (nI mz), .ref dM, .int (nI hp), .int (nI cn), .ref dP, .ref dS, .int (nI 1), .int av, .int (nI ka), .int (nI kn), .int (nI sv), .ref dK])), (dM, .inl (cI, 8192, .inl dm))]) [1, 0] (by decide) rfl
      exact W.lret (v := (-9223372036854775808)) hx hb hr (fun t ht hW => ⟨⟨(-9223372036854775808), (1, av), rfl, ⟨by unfold readR; rw [if_neg (fun z => absurd z.2 (by rw [hwT]; assumption))], by unfold readK; rw [if_pos ⟨by assumption, (by rw [hwT]; assumption)⟩], by unfold readF; rw [if_pos ⟨by assumption, (by rw [hwT]; assumption)⟩]⟩, by rw [ht]; exact hP9, hD9⟩, hS.F ht⟩) hS.2.2 dX4_read_48
  · skip
    have c_5 := wz_zero c_5
    refine lv_ldc2 (v := (-9223372036854775808)) hx hb hown (hts (.constantLong RX4 70 (-9223372036854775808)) (by decide +kernel)) dX4_read_19 ?_
    have hP9 := hP.sub (ws' := [(oD, .inr (4, [.int (nI 0), .ref dF, .int (nI len), .int (nI 1), .ref dH, .int (nI sr), .ref dL, .int (nI en), .int (nI ram), .int (nI mz), .ref dM, .int (nI hp), .int (nI cn), .ref dP, .ref dS, .int (nI fk), .int fp, .int (nI ka), .int (nI kn), .int (nI sv), .ref dK])), (dM, .inl (cI, 8192, .inl dm))]) [0, 1] rfl
    have hD9 := hD.sub (ws' := [(oD, .inr (4, [.int (nI 0), .ref dF, .int (nI len), .int (nI 1), .ref dH, .int (nI sr), .ref dL, .int (nI en), .int (nI ram), .int (nI mz), .ref dM, .int (nI hp), .int (nI cn), .ref dP, .ref dS, .int (nI fk), .int fp, .int (nI ka), .int (nI kn), .int (nI sv), .ref dK])), (dM, .inl (cI, 8192, .inl dm))]) [0, 1] (by decide) rfl
    exact W.lret (v := (-9223372036854775808)) hx hb hr (fun t ht hW => ⟨⟨(-9223372036854775808), (fk, fp), rfl, ⟨by unfold readR; rw [if_neg (fun z => absurd z.1 (by assumption))], by unfold readK; rw [if_neg (fun z => absurd z.1 (by assumption))], by unfold readF; rw [if_neg (fun z => absurd z.1 (by assumption))]⟩, by rw [ht]; exact hP9, hD9⟩, hS.F ht⟩) hS.2.2 dX4_read_22
set_option maxHeartbeats 4000000 in
set_option maxRecDepth 100000 in
theorem c_X4_write_M (l : Launch) (dC : Nat → ClassId) (dI : Nat → Nat → Nat) (cB cI cJ : ClassId) (sz : Nat) (oD : Nat) (th : Nat) (dF : Nat) (len : Nat) (dH : Nat) (sr : Nat) (dL : Nat) (en : Nat) (ram : Nat) (mz : Nat) (dM : Nat) (hp : Nat) (cn : Nat) (dP : Nat) (dS : Nat) (fk : Nat) (fp : Int32) (ka : Nat) (kn : Nat) (sv : Nat) (dK : Nat) (dm : Nat → Int32) (mem : Nat → Nat) (wv : Int32) (av : Int32) (vv : Int32) (hmz : mz ≤ 8192) (hm : gOk dm mz mem) (hmem : ∀ j, mem j < 256) (hram : ram ≤ 4096) : Met l yX4_write wsX4_write ({ frames := 1, cells := 0, slots := 0, locals := 22 }) (va_Pc [.ref oD, .int wv, .int av, .int vv] (wPre dC dI cB cI cJ sz [(oD, .inr (4, [.int (nI th), .ref dF, .int (nI len), .int (nI 1), .ref dH, .int (nI sr), .ref dL, .int (nI en), .int (nI ram), .int (nI mz), .ref dM, .int (nI hp), .int (nI cn), .ref dP, .ref dS, .int (nI fk), .int fp, .int (nI ka), .int (nI kn), .int (nI sv), .ref dK])), (dM, .inl (cI, 8192, .inl dm))])) (va_Qi (fun (r : Int32) (u : (Nat → Int32) × Nat × Int32) => r = writeR ram mz wv av ∧ gOk u.1 mz (writeM mem ram mz wv av vv) ∧ u.2.1 = writeK ram mz fk wv av ∧ u.2.2 = writeF ram mz fp wv av) (fun (u : (Nat → Int32) × Nat × Int32) => wPost dC dI (va_A [(oD, .inr (4, [.int (nI th), .ref dF, .int (nI len), .int (nI 1), .ref dH, .int (nI sr), .ref dL, .int (nI en), .int (nI ram), .int (nI mz), .ref dM, .int (nI hp), .int (nI cn), .ref dP, .ref dS, .int (nI fk), .int fp, .int (nI ka), .int (nI kn), .int (nI sv), .ref dK])), (dM, .inl (cI, 8192, .inl dm))] sz) [(oD, .inr (4, [.int (nI 0), .ref dF, .int (nI len), .int (nI 1), .ref dH, .int (nI sr), .ref dL, .int (nI en), .int (nI ram), .int (nI mz), .ref dM, .int (nI hp), .int (nI cn), .ref dP, .ref dS, .int (nI u.2.1), .int u.2.2, .int (nI ka), .int (nI kn), .int (nI sv), .ref dK])), (dM, .inl (cI, 8192, .inl u.1))]) (va_A [(oD, .inr (4, [.int (nI th), .ref dF, .int (nI len), .int (nI 1), .ref dH, .int (nI sr), .ref dL, .int (nI en), .int (nI ram), .int (nI mz), .ref dM, .int (nI hp), .int (nI cn), .ref dP, .ref dS, .int (nI fk), .int fp, .int (nI ka), .int (nI kn), .int (nI sv), .ref dK])), (dM, .inl (cI, 8192, .inl dm))] sz)) 0 0 (va_A [(oD, .inr (4, [.int (nI th), .ref dF, .int (nI len), .int (nI 1), .ref dH, .int (nI sr), .ref dL, .int (nI en), .int (nI ram), .int (nI mz), .ref dM, .int (nI hp), .int (nI cn), .ref dP, .ref dS, .int (nI fk), .int fp, .int (nI ka), .int (nI kn), .int (nI sv), .ref dK])), (dM, .inl (cI, 8192, .inl dm))] sz) := by
  refine Met.ofW (cc := cX4_write) (maxL := 5) (ret := (some .int)) (by decide) rfl ?_
  intro p e s m args below meth c s₁ B hml hv
  obtain ⟨rfl, hsz, hP, hK, hD0, hN⟩ := hv
  have hx := B.exec
  have hb := B.bytes
  have hr := B.returns
  have hts := atoms_spec (ws := wsX4_write) B.pre
  have hown : s.vm.findClass RX4 = some m.cls := findClass_of_methodNamed B.named
  have hlocks := B.notSynchronized
  subst hsz
  have hD := hD0.self (sz := s.heap.size)
  generalize hAe : va_A [(oD, .inr (4, [.int (nI th), .ref dF, .int (nI len), .int (nI 1), .ref dH, .int (nI sr), .ref dL, .int (nI en), .int (nI ram), .int (nI mz), .ref dM, .int (nI hp), .int (nI cn), .ref dP, .ref dS, .int (nI fk), .int fp, .int (nI ka), .int (nI kn), .int (nI sv), .ref dK])), (dM, .inl (cI, 8192, .inl dm))] s.heap.size = A at hD ⊢
  have hA : ∀ q : Nat, s.heap.size ≤ q → A q := fun q h => by rw [← hAe]; exact Or.inr h
  have hS : va_S A s.heap s.heap [] := va_S.rf
  have hP : va_P (dC, dI) vwCl [(oD, .inr (4, [.int (nI th), .ref dF, .int (nI len), .int (nI 1), .ref dH, .int (nI sr), .ref dL, .int (nI en), .int (nI ram), .int (nI mz), .ref dM, .int (nI hp), .int (nI cn), .ref dP, .ref dS, .int (nI fk), .int fp, .int (nI ka), .int (nI kn), .int (nI sv), .ref dK])), (dM, .inl (cI, 8192, .inl dm))] s.heap := hP
  have hl := lv_entry ([.ref oD, .int wv, .int av, .int vv]) (n := 5) (Nat.le_of_ble_eq_true rfl)
  rw [lg_entry_eq]
  generalize (lg_sl ([.ref oD, .int wv, .int av, .int vv]) ++ List.replicate (5 - (lg_sl ([.ref oD, .int wv, .int av, .int vv])).length) Slot.unset).toArray = ls at hl ⊢
  have hl : lv_has ls 5 [(0, .ref oD), (1, .int wv), (2, .int av), (3, .int vv)] := hl
  refine lv_aload_n hx hb dX4_write_0 rfl (lv_at hl 0 rfl) ?_
  refine lv_iconst (v := nI 0) hx hb dX4_write_1 (by decide) ?_
  refine va_put (D := (dC, dI)) (ci := 4) (v := .int (nI 0)) (ty := .int) (C := RX4) (T := TX4) (N := 21) hx hb hts (by decide +kernel) tyX4 tyX4_ok nmX4 hown hK hP hD hS 0 rfl rfl 0 (by decide) (hts (.fieldLink RX4 32 "GlulxHeadsModel" "thrown" "I") (by decide +kernel)) (fun _ h9 => h9) rfl (by decide +kernel) rfl rfl (Nat.le_of_ble_eq_true rfl) dX4_write_2 (fun H locs hP hD hS => ?_)
  have hP : va_P (dC, dI) vwCl [(oD, .inr (4, [.int (nI 0), .ref dF, .int (nI len), .int (nI 1), .ref dH, .int (nI sr), .ref dL, .int (nI en), .int (nI ram), .int (nI mz), .ref dM, .int (nI hp), .int (nI cn), .ref dP, .ref dS, .int (nI fk), .int fp, .int (nI ka), .int (nI kn), .int (nI sv), .ref dK])), (dM, .inl (cI, 8192, .inl dm))] H := hP
  have hD : va_D A [(oD, .inr (4, [.int (nI 0), .ref dF, .int (nI len), .int (nI 1), .ref dH, .int (nI sr), .ref dL, .int (nI en), .int (nI ram), .int (nI mz), .ref dM, .int (nI hp), .int (nI cn), .ref dP, .ref dS, .int (nI fk), .int fp, .int (nI ka), .int (nI kn), .int (nI sv), .ref dK])), (dM, .inl (cI, 8192, .inl dm))] := hD
  refine lv_aload_n hx hb dX4_write_5 rfl (lv_at hl 0 rfl) ?_
  refine va_get (D := (dC, dI)) (ci := 4) (v := .int (nI 1)) (C := RX4) (T := TX4) (N := 21) hx hb hts (by decide +kernel) hown hK hP 0 rfl rfl 3 (by decide) (hts (.fieldLink RX4 76 "GlulxHeadsModel" "has" "Z") (by decide +kernel)) (fun _ h9 => h9) rfl dX4_write_6 ?_
  refine wx_if_ne (tgt := 15) hx hb dX4_write_9 (by decide) (by first | omega | (split <;> omega)) (fun c_1 => ?_) (fun c_1 => absurd c_1 (by decide))
  refine lv_iload_n hx hb dX4_write_15 rfl (lv_at hl 1 rfl) ?_
  have hPc := hP.sub (ws' := []) [] rfl
  have hDc := hD.sub (ws' := []) [] (by decide) rfl
  have hFc := va_free (wc := []) hD hS hA [] rfl
  refine va_calli (va_runS (As := [.int wv]) (rest := []) ⟨hx, hb, hml, hown, hts⟩ (c_X4_isWidth l dC dI cB cI cJ H.size wv ) (va_cwS 1 hts gX4_write_X4_isWidth rfl rfl rfl (by decide +kernel) ⟨Nat.le_of_ble_eq_true rfl, Nat.le_of_ble_eq_true rfl⟩) ⟨wBlind, wGo hK hPc hDc hN⟩ rfl rfl hl.1 rfl (lv_room (Nat.le_of_ble_eq_true rfl)) dX4_write_16 ⟨show 0 ≤ 0 by decide, show 0 ≤ 0 by decide⟩) hS (fun q _ h => hFc q h) hFc (fun r_3 u t H1 locs ht hvm w_4 hB hz1 hk1 hS => ?_)
  clear u
  obtain ⟨hP1, hD1⟩ := hB
  rw [ht] at hP1
  try dsimp only at w_4
  obtain ⟨hP, hD⟩ := va_join (wr := [(oD, .inr (4, [.int (nI 0), .ref dF, .int (nI len), .int (nI 1), .ref dH, .int (nI sr), .ref dL, .int (nI en), .int (nI ram), .int (nI mz), .ref dM, .int (nI hp), .int (nI cn), .ref dP, .ref dS, .int (nI fk), .int fp, .int (nI ka), .int (nI kn), .int (nI sv), .ref dK])), (dM, .inl (cI, 8192, .inl dm))]) (w1 := []) hP hD [] [0, 1] rfl rfl (by decide) (by decide) hk1 hFc hP1 hD1
  clear hPc hDc hFc hP1 hD1 hz1 hk1 hvm
  generalize H1 = H at hP hS ⊢
  have hP : va_P (dC, dI) vwCl [(oD, .inr (4, [.int (nI 0), .ref dF, .int (nI len), .int (nI 1), .ref dH, .int (nI sr), .ref dL, .int (nI en), .int (nI ram), .int (nI mz), .ref dM, .int (nI hp), .int (nI cn), .ref dP, .ref dS, .int (nI fk), .int fp, .int (nI ka), .int (nI kn), .int (nI sv), .ref dK])), (dM, .inl (cI, 8192, .inl dm))] H := hP
  have hD : va_D A [(oD, .inr (4, [.int (nI 0), .ref dF, .int (nI len), .int (nI 1), .ref dH, .int (nI sr), .ref dL, .int (nI en), .int (nI ram), .int (nI mz), .ref dM, .int (nI hp), .int (nI cn), .ref dP, .ref dS, .int (nI fk), .int fp, .int (nI ka), .int (nI kn), .int (nI sv), .ref dK])), (dM, .inl (cI, 8192, .inl dm))] := hD
  subst w_4
  refine wx_if_ne (tgt := 25) hx hb dX4_write_19 (by decide) (by first | omega | (split <;> omega)) (fun c_5 => ?_) (fun c_5 => ?_)
  · skip
    have c_5 := wz_pos c_5
    obtain ⟨w, hw, rfl⟩ : ∃ w : Nat, w < 2147483648 ∧ wv = nI w := nI_of (by intro z; rw [Int32.lt_iff_toInt_lt, show (0 : Int32).toInt = 0 by decide] at z; omega)
    have hwE : (nI w).toInt = (w : Int) := nI_toInt hw
    have hwT : (nI w).toInt.toNat = w := by rw [hwE]; exact Int.toNat_natCast _
    refine lv_iload_n hx hb dX4_write_25 rfl (lv_at hl 2 rfl) ?_
    refine lv_aload_n hx hb dX4_write_26 rfl (lv_at hl 0 rfl) ?_
    refine va_get (D := (dC, dI)) (ci := 4) (v := .int (nI ram)) (C := RX4) (T := TX4) (N := 21) hx hb hts (by decide +kernel) hown hK hP 0 rfl rfl 8 (by decide) (hts (.fieldLink RX4 83 "GlulxHeadsModel" "ram" "I") (by decide +kernel)) (fun _ h9 => h9) rfl dX4_write_27 ?_
    refine lv_icmp_lt (tgt := 43) hx hb dX4_write_30 (by decide) (fun c_6 => ?_) (fun c_6 => ?_)
    · skip
      rw [Int32.lt_iff_toInt_lt, nI_toInt (n := ram) (by first | omega | (split <;> omega))] at c_6
      refine lv_aload_n hx hb dX4_write_43 rfl (lv_at hl 0 rfl) ?_
      refine lv_iload_n hx hb dX4_write_44 rfl (lv_at hl 2 rfl) ?_
      refine lv_aload_n hx hb dX4_write_45 rfl (lv_at hl 0 rfl) ?_
      refine va_get (D := (dC, dI)) (ci := 4) (v := .int (nI ram)) (C := RX4) (T := TX4) (N := 21) hx hb hts (by decide +kernel) hown hK hP 0 rfl rfl 8 (by decide) (hts (.fieldLink RX4 83 "GlulxHeadsModel" "ram" "I") (by decide +kernel)) (fun _ h9 => h9) rfl dX4_write_46 ?_
      refine lv_icmp_ge (tgt := 56) hx hb dX4_write_49 (by decide) (fun c_7 => ?_) (fun c_7 => ?_)
      · skip
        rw [Int32.le_iff_toInt_le, nI_toInt (n := ram) (by first | omega | (split <;> omega))] at c_7
        refine lv_iconst (v := nI 3) hx hb dX4_write_56 (by decide) ?_
        refine lv_iload_n hx hb dX4_write_57 rfl (lv_at hl 2 rfl) ?_
        have hPc := hP.sub (ws' := [(oD, .inr (4, [.int (nI 0), .ref dF, .int (nI len), .int (nI 1), .ref dH, .int (nI sr), .ref dL, .int (nI en), .int (nI ram), .int (nI mz), .ref dM, .int (nI hp), .int (nI cn), .ref dP, .ref dS, .int (nI fk), .int fp, .int (nI ka), .int (nI kn), .int (nI sv), .ref dK]))]) [0] rfl
        have hDc := hD.sub (ws' := [(oD, .inr (4, [.int (nI 0), .ref dF, .int (nI len), .int (nI 1), .ref dH, .int (nI sr), .ref dL, .int (nI en), .int (nI ram), .int (nI mz), .ref dM, .int (nI hp), .int (nI cn), .ref dP, .ref dS, .int (nI fk), .int fp, .int (nI ka), .int (nI kn), .int (nI sv), .ref dK]))]) [0] (by decide) rfl
        have hFc := va_free (wc := [(oD, .inr (4, [.int (nI 0), .ref dF, .int (nI len), .int (nI 1), .ref dH, .int (nI sr), .ref dL, .int (nI en), .int (nI ram), .int (nI mz), .ref dM, .int (nI hp), .int (nI cn), .ref dP, .ref dS, .int (nI fk), .int fp, .int (nI ka), .int (nI kn), .int (nI sv), .ref dK]))]) hD hS hA [0] rfl
        refine va_callv (va_runV (As := [.int (nI 3), .int av]) (rest := []) ⟨hx, hb, hml, hown, hts⟩ (c_X4_fails l dC dI cB cI cJ H.size oD 0 dF len 1 dH sr dL en ram mz dM hp cn dP dS fk fp ka kn sv dK 3 av ) (cwV 2 hts gX4_write_X4_fails rfl rfl rfl (by decide +kernel) ⟨Nat.le_of_ble_eq_true rfl, Nat.le_of_ble_eq_true rfl⟩) ⟨wBlind, va_recv hK hPc (ci := 4) (q0 := 0) rfl rfl, wGo hK hPc hDc hN⟩ rfl rfl hl.1 rfl (lv_room (Nat.le_of_ble_eq_true rfl)) dX4_write_58 ⟨show 0 ≤ 0 by decide, show 0 ≤ 0 by decide⟩) hS (fun q _ h => hFc q h) hFc (fun u t H1 locs ht hvm w_10 hB hz1 hk1 hS => ?_)
        clear u
        obtain ⟨hP1, hD1⟩ := hB
        rw [ht] at hP1
        try dsimp only at w_10
        obtain ⟨hP, hD⟩ := va_join (wr := [(dM, .inl (cI, 8192, .inl dm))]) (w1 := [(oD, .inr (4, [.int (nI 0), .ref dF, .int (nI len), .int (nI 1), .ref dH, .int (nI sr), .ref dL, .int (nI en), .int (nI ram), .int (nI mz), .ref dM, .int (nI hp), .int (nI cn), .ref dP, .ref dS, .int (nI 3), .int av, .int (nI ka), .int (nI kn), .int (nI sv), .ref dK]))]) hP hD [0] [1] rfl rfl (by decide) (by decide) hk1 hFc hP1 hD1
        clear hPc hDc hFc hP1 hD1 hz1 hk1 hvm
        generalize H1 = H at hP hS ⊢
        have hP : va_P (dC, dI) vwCl [(dM, .inl (cI, 8192, .inl dm)), (oD, .inr (4, [.int (nI 0), .ref dF, .int (nI len), .int (nI 1), .ref dH, .int (nI sr), .ref dL, .int (nI en), .int (nI ram), .int (nI mz), .ref dM, .int (nI hp), .int (nI cn), .ref dP, .ref dS, .int (nI 3), .int av, .int (nI ka), .int (nI kn), .int (nI sv), .ref dK]))] H := hP
        have hD : va_D A [(dM, .inl (cI, 8192, .inl dm)), (oD, .inr (4, [.int (nI 0), .ref dF, .int (nI len), .int (nI 1), .ref dH, .int (nI sr), .ref dL, .int (nI en), .int (nI ram), .int (nI mz), .ref dM, .int (nI hp), .int (nI cn), .ref dP, .ref dS, .int (nI 3), .int av, .int (nI ka), .int (nI kn), .int (nI sv), .ref dK]))] := hD
        refine lv_bipush (v := (-3)) hx hb dX4_write_61 (by decide) ?_
        have hP9 := hP.sub (ws' := [(oD, .inr (4, [.int (nI 0), .ref dF, .int (nI len), .int (nI 1), .ref dH, .int (nI sr), .ref dL, .int (nI en), .int (nI ram), .int (nI mz), .ref dM, .int (nI hp), .int (nI cn), .ref dP, .ref dS, .int (nI 3), .int av, .int (nI ka), .int (nI kn), .int (nI sv), .ref dK])), (dM, .inl (cI, 8192, .inl dm))]) [1, 0] rfl
        have hD9 := hD.sub (ws' := [(oD, .inr (4, [.int (nI 0), .ref dF, .int (nI len), .int (nI 1), .ref dH, .int (nI sr), .ref dL, .int (nI en), .int (nI ram), .int (nI mz), .ref dM, .int (nI hp), .int (nI cn), .ref dP, .ref dS, .int (nI 3), .int av, .int (nI ka), .int (nI kn), .int (nI sv), .ref dK])), (dM, .inl (cI, 8192, .inl dm))]) [1, 0] (by decide) rfl
        exact W.iret (v := (-3)) hx hb hr (fun t ht hW => ⟨⟨(-3), (dm, 3, av), rfl, (by first | (exfalso; omega) | (have hF := wrF_3 (w := nI w) (mz := mz) (a := av) (ram := ram) (by rw [hwT]; omega); exact ⟨by unfold writeR; rw [if_neg (fun z => z (by assumption)), hF]; rfl, by unfold writeM; rw [if_neg (fun z => absurd z.2 (by rw [hF]; decide))]; exact hm, by unfold writeK; rw [if_pos ⟨by assumption, by rw [hF]; decide⟩, hF], by unfold writeF; rw [if_pos ⟨by assumption, by rw [hF]; decide⟩]⟩)), by rw [ht]; exact hP9, hD9⟩, hS.F ht⟩) hS.2.2 dX4_write_63
      · skip
        rw [Int32.le_iff_toInt_le, nI_toInt (n := ram) (by first | omega | (split <;> omega))] at c_7
        refine lv_iconst (v := nI 2) hx hb dX4_write_52 (by decide) ?_
        refine lv_goto (tgt := 57) hx hb dX4_write_53 (by decide) ?_
        refine lv_iload_n hx hb dX4_write_57 rfl (lv_at hl 2 rfl) ?_
        have hPc := hP.sub (ws' := [(oD, .inr (4, [.int (nI 0), .ref dF, .int (nI len), .int (nI 1), .ref dH, .int (nI sr), .ref dL, .int (nI en), .int (nI ram), .int (nI mz), .ref dM, .int (nI hp), .int (nI cn), .ref dP, .ref dS, .int (nI fk), .int fp, .int (nI ka), .int (nI kn), .int (nI sv), .ref dK]))]) [0] rfl
        have hDc := hD.sub (ws' := [(oD, .inr (4, [.int (nI 0), .ref dF, .int (nI len), .int (nI 1), .ref dH, .int (nI sr), .ref dL, .int (nI en), .int (nI ram), .int (nI mz), .ref dM, .int (nI hp), .int (nI cn), .ref dP, .ref dS, .int (nI fk), .int fp, .int (nI ka), .int (nI kn), .int (nI sv), .ref dK]))]) [0] (by decide) rfl
        have hFc := va_free (wc := [(oD, .inr (4, [.int (nI 0), .ref dF, .int (nI len), .int (nI 1), .ref dH, .int (nI sr), .ref dL, .int (nI en), .int (nI ram), .int (nI mz), .ref dM, .int (nI hp), .int (nI cn), .ref dP, .ref dS, .int (nI fk), .int fp, .int (nI ka), .int (nI kn), .int (nI sv), .ref dK]))]) hD hS hA [0] rfl
        refine va_callv (va_runV (As := [.int (nI 2), .int av]) (rest := []) ⟨hx, hb, hml, hown, hts⟩ (c_X4_fails l dC dI cB cI cJ H.size oD 0 dF len 1 dH sr dL en ram mz dM hp cn dP dS fk fp ka kn sv dK 2 av ) (cwV 2 hts gX4_write_X4_fails rfl rfl rfl (by decide +kernel) ⟨Nat.le_of_ble_eq_true rfl, Nat.le_of_ble_eq_true rfl⟩) ⟨wBlind, va_recv hK hPc (ci := 4) (q0 := 0) rfl rfl, wGo hK hPc hDc hN⟩ rfl rfl hl.1 rfl (lv_room (Nat.le_of_ble_eq_true rfl)) dX4_write_58 ⟨show 0 ≤ 0 by decide, show 0 ≤ 0 by decide⟩) hS (fun q _ h => hFc q h) hFc (fun u t H1 locs ht hvm w_13 hB hz1 hk1 hS => ?_)
        clear u
        obtain ⟨hP1, hD1⟩ := hB
        rw [ht] at hP1
        try dsimp only at w_13
        obtain ⟨hP, hD⟩ := va_join (wr := [(dM, .inl (cI, 8192, .inl dm))]) (w1 := [(oD, .inr (4, [.int (nI 0), .ref dF, .int (nI len), .int (nI 1), .ref dH, .int (nI sr), .ref dL, .int (nI en), .int (nI ram), .int (nI mz), .ref dM, .int (nI hp), .int (nI cn), .ref dP, .ref dS, .int (nI 2), .int av, .int (nI ka), .int (nI kn), .int (nI sv), .ref dK]))]) hP hD [0] [1] rfl rfl (by decide) (by decide) hk1 hFc hP1 hD1
        clear hPc hDc hFc hP1 hD1 hz1 hk1 hvm
        generalize H1 = H at hP hS ⊢
        have hP : va_P (dC, dI) vwCl [(dM, .inl (cI, 8192, .inl dm)), (oD, .inr (4, [.int (nI 0), .ref dF, .int (nI len), .int (nI 1), .ref dH, .int (nI sr), .ref dL, .int (nI en), .int (nI ram), .int (nI mz), .ref dM, .int (nI hp), .int (nI cn), .ref dP, .ref dS, .int (nI 2), .int av, .int (nI ka), .int (nI kn), .int (nI sv), .ref dK]))] H := hP
        have hD : va_D A [(dM, .inl (cI, 8192, .inl dm)), (oD, .inr (4, [.int (nI 0), .ref dF, .int (nI len), .int (nI 1), .ref dH, .int (nI sr), .ref dL, .int (nI en), .int (nI ram), .int (nI mz), .ref dM, .int (nI hp), .int (nI cn), .ref dP, .ref dS, .int (nI 2), .int av, .int (nI ka), .int (nI kn), .int (nI sv), .ref dK]))] := hD
        refine lv_bipush (v := (-3)) hx hb dX4_write_61 (by decide) ?_
        have hP9 := hP.sub (ws' := [(oD, .inr (4, [.int (nI 0), .ref dF, .int (nI len), .int (nI 1), .ref dH, .int (nI sr), .ref dL, .int (nI en), .int (nI ram), .int (nI mz), .ref dM, .int (nI hp), .int (nI cn), .ref dP, .ref dS, .int (nI 2), .int av, .int (nI ka), .int (nI kn), .int (nI sv), .ref dK])), (dM, .inl (cI, 8192, .inl dm))]) [1, 0] rfl
        have hD9 := hD.sub (ws' := [(oD, .inr (4, [.int (nI 0), .ref dF, .int (nI len), .int (nI 1), .ref dH, .int (nI sr), .ref dL, .int (nI en), .int (nI ram), .int (nI mz), .ref dM, .int (nI hp), .int (nI cn), .ref dP, .ref dS, .int (nI 2), .int av, .int (nI ka), .int (nI kn), .int (nI sv), .ref dK])), (dM, .inl (cI, 8192, .inl dm))]) [1, 0] (by decide) rfl
        exact W.iret (v := (-3)) hx hb hr (fun t ht hW => ⟨⟨(-3), (dm, 2, av), rfl, (by first | (exfalso; omega) | (have hF := wrF_2 (w := nI w) (mz := mz) (a := av) (ram := ram) (by rw [hwT]; omega); exact ⟨by unfold writeR; rw [if_neg (fun z => z (by assumption)), hF]; rfl, by unfold writeM; rw [if_neg (fun z => absurd z.2 (by rw [hF]; decide))]; exact hm, by unfold writeK; rw [if_pos ⟨by assumption, by rw [hF]; decide⟩, hF], by unfold writeF; rw [if_pos ⟨by assumption, by rw [hF]; decide⟩]⟩)), by rw [ht]; exact hP9, hD9⟩, hS.F ht⟩) hS.2.2 dX4_write_63
    · skip
      rw [Int32.lt_iff_toInt_lt, nI_toInt (n := ram) (by first | omega | (split <;> omega))] at c_6
      refine lv_iload_n hx hb dX4_write_33 rfl (lv_at hl 2 rfl) ?_
      refine lv_aload_n hx hb dX4_write_34 rfl (lv_at hl 0 rfl) ?_
      refine va_get (D := (dC, dI)) (ci := 4) (v := .int (nI mz)) (C := RX4) (T := TX4) (N := 21) hx hb hts (by decide +kernel) hown hK hP 0 rfl rfl 9 (by decide) (hts (.fieldLink RX4 89 "GlulxHeadsModel" "m" "I") (by decide +kernel)) (fun _ h9 => h9) rfl dX4_write_35 ?_
      refine lv_iload_n hx hb dX4_write_38 rfl (lv_at hl 1 rfl) ?_
      refine lv_isub hx hb dX4_write_39 ?_
      refine lv_icmp_le (tgt := 64) hx hb dX4_write_40 (by decide) (fun c_14 => ?_) (fun c_14 => ?_)
      · skip
        rw [Int32.le_iff_toInt_le, pk_sub_toInt (a := mz) (b := w) (by first | omega | (split <;> omega)) (by first | omega | (split <;> omega))] at c_14
        obtain ⟨j, hj, rfl⟩ : ∃ j : Nat, j < 2147483648 ∧ av = nI j := nI_of (by intro z; rw [Int32.lt_iff_toInt_lt, show (0 : Int32).toInt = 0 by decide] at z; omega)
        have hjE : (nI j).toInt = (j : Int) := nI_toInt hj
        have hjT : (nI j).toInt.toNat = j := by rw [hjE]; exact Int.toNat_natCast _
        refine lv_iconst (v := nI 0) hx hb dX4_write_64 (by decide) ?_
        refine lv_istore (lv' := [(4, .int (nI 0)), (0, .ref oD), (1, .int (nI w)), (2, .int (nI j)), (3, .int vv)]) hx hb dX4_write_65 hl (by decide) rfl (fun ls hl => ?_)
        refine wx_loop (σ := Nat × (Nat → Int32)) (fun xq9 => w - xq9.1) (fun xq9 H locs ls => (xq9.1 ≤ w) ∧ (∀ q, q < mz → xq9.2 q = nI (if j ≤ q ∧ q < j + xq9.1 then uB vv / 256 ^ (w - 1 - (q - j)) % 256 else mem q)) ∧ va_P (dC, dI) vwCl [(oD, .inr (4, [.int (nI 0), .ref dF, .int (nI len), .int (nI 1), .ref dH, .int (nI sr), .ref dL, .int (nI en), .int (nI ram), .int (nI mz), .ref dM, .int (nI hp), .int (nI cn), .ref dP, .ref dS, .int (nI fk), .int fp, .int (nI ka), .int (nI kn), .int (nI sv), .ref dK])), (dM, .inl (cI, 8192, .inl xq9.2))] H ∧ va_D A [(oD, .inr (4, [.int (nI 0), .ref dF, .int (nI len), .int (nI 1), .ref dH, .int (nI sr), .ref dL, .int (nI en), .int (nI ram), .int (nI mz), .ref dM, .int (nI hp), .int (nI cn), .ref dP, .ref dS, .int (nI fk), .int fp, .int (nI ka), .int (nI kn), .int (nI sv), .ref dK])), (dM, .inl (cI, 8192, .inl xq9.2))] ∧ va_S A s.heap H locs ∧ lv_has ls 5 [(0, .ref oD), (1, .int (nI w)), (2, .int (nI j)), (3, .int vv), (4, .int (nI xq9.1))]) ?_ (0, dm) _ _ _ ⟨by first | omega | (split <;> omega), fun q hq => by rw [if_neg (by omega)]; exact hm q hq, hP.sub [0, 1] rfl, hD.sub [0, 1] (by decide) rfl, hS, lv_sub hl [1, 2, 3, 4, 0] rfl⟩
        rintro ⟨i, dm3⟩ H locs ls ⟨hi, hg, hP, hD, hS, hl⟩ ih
        have hi : i ≤ w := hi
        have hg : ∀ q, q < mz → dm3 q = nI (if j ≤ q ∧ q < j + i then uB vv / 256 ^ (w - 1 - (q - j)) % 256 else mem q) := hg
        have hP : va_P (dC, dI) vwCl [(oD, .inr (4, [.int (nI 0), .ref dF, .int (nI len), .int (nI 1), .ref dH, .int (nI sr), .ref dL, .int (nI en), .int (nI ram), .int (nI mz), .ref dM, .int (nI hp), .int (nI cn), .ref dP, .ref dS, .int (nI fk), .int fp, .int (nI ka), .int (nI kn), .int (nI sv), .ref dK])), (dM, .inl (cI, 8192, .inl dm3))] H := hP
        have hD : va_D A [(oD, .inr (4, [.int (nI 0), .ref dF, .int (nI len), .int (nI 1), .ref dH, .int (nI sr), .ref dL, .int (nI en), .int (nI ram), .int (nI mz), .ref dM, .int (nI hp), .int (nI cn), .ref dP, .ref dS, .int (nI fk), .int fp, .int (nI ka), .int (nI kn), .int (nI sv), .ref dK])), (dM, .inl (cI, 8192, .inl dm3))] := hD
        have hl : lv_has ls 5 [(0, .ref oD), (1, .int (nI w)), (2, .int (nI j)), (3, .int vv), (4, .int (nI i))] := hl
        refine lv_iload hx hb dX4_write_67 (lv_at hl 4 rfl) ?_
        refine lv_iload_n hx hb dX4_write_69 rfl (lv_at hl 1 rfl) ?_
        refine wx_icmp_ge (tgt := 103) hx hb dX4_write_70 (by decide) (by first | omega | (split <;> omega)) (by first | omega | (split <;> omega)) (fun c_15 => ?_) (fun c_15 => ?_)
        · skip
          refine lv_iconst (v := nI 1) hx hb dX4_write_103 (by decide) ?_
          have hP9 := hP.sub (ws' := [(oD, .inr (4, [.int (nI 0), .ref dF, .int (nI len), .int (nI 1), .ref dH, .int (nI sr), .ref dL, .int (nI en), .int (nI ram), .int (nI mz), .ref dM, .int (nI hp), .int (nI cn), .ref dP, .ref dS, .int (nI fk), .int fp, .int (nI ka), .int (nI kn), .int (nI sv), .ref dK])), (dM, .inl (cI, 8192, .inl dm3))]) [0, 1] rfl
          have hD9 := hD.sub (ws' := [(oD, .inr (4, [.int (nI 0), .ref dF, .int (nI len), .int (nI 1), .ref dH, .int (nI sr), .ref dL, .int (nI en), .int (nI ram), .int (nI mz), .ref dM, .int (nI hp), .int (nI cn), .ref dP, .ref dS, .int (nI fk), .int fp, .int (nI ka), .int (nI kn), .int (nI sv), .ref dK])), (dM, .inl (cI, 8192, .inl dm3))]) [0, 1] (by decide) rfl
          exact W.iret (v := nI 1) hx hb hr (fun t ht hW => ⟨⟨(nI 1), (dm3, fk, fp), rfl, (by have hF := wrF_00 (w := nI w) (mz := mz) (a := nI j) (ram := ram) (by rw [hwT]; omega); exact ⟨by unfold writeR; rw [if_neg (fun z => z (by assumption)), if_pos hF]; rfl, by unfold writeM; rw [if_pos ⟨by assumption, hF⟩, hwT, hjT]; intro q hq; show dm3 q = _; rw [hg q hq, show i = w by omega]; rfl, by unfold writeK; rw [if_neg (fun z => z.2 hF)], by unfold writeF; rw [if_neg (fun z => z.2 hF)]⟩), by rw [ht]; exact hP9, hD9⟩, hS.F ht⟩) hS.2.2 dX4_write_104
        · skip
          refine lv_aload_n hx hb dX4_write_73 rfl (lv_at hl 0 rfl) ?_
          refine va_get (D := (dC, dI)) (ci := 4) (v := .ref dM) (C := RX4) (T := TX4) (N := 21) hx hb hts (by decide +kernel) hown hK hP 0 rfl rfl 10 (by decide) (hts (.fieldLink RX4 20 "GlulxHeadsModel" "memory" "[I") (by decide +kernel)) (fun _ h9 => h9) rfl dX4_write_74 ?_
          refine lv_iload_n hx hb dX4_write_77 rfl (lv_at hl 2 rfl) ?_
          refine lv_iload hx hb dX4_write_78 (lv_at hl 4 rfl) ?_
          refine wx_iadd hx hb dX4_write_80 ?_
          refine lv_iload_n hx hb dX4_write_81 rfl (lv_at hl 3 rfl) ?_
          refine lv_bipush (v := nI 8) hx hb dX4_write_82 (by decide) ?_
          refine lv_iload_n hx hb dX4_write_84 rfl (lv_at hl 1 rfl) ?_
          refine lv_iconst (v := nI 1) hx hb dX4_write_85 (by decide) ?_
          refine wx_isub hx hb dX4_write_86 (by first | omega | (split <;> omega)) ?_
          refine lv_iload hx hb dX4_write_87 (lv_at hl 4 rfl) ?_
          refine wx_isub hx hb dX4_write_89 (by first | omega | (split <;> omega)) ?_
          refine wx_imul hx hb dX4_write_90 ?_
          refine lv_ishr hx hb dX4_write_91 ?_
          refine lv_sipush (v := nI 255) hx hb dX4_write_92 (by decide) ?_
          refine lv_iand hx hb dX4_write_95 ?_
          refine wx_iast hx hb hK hP hD hS 1 1 rfl rfl (by first | omega | (split <;> omega)) (by decide) dX4_write_96 (fun H locs hP hD hS => ?_)
          have hP : va_P (dC, dI) vwCl [(oD, .inr (4, [.int (nI 0), .ref dF, .int (nI len), .int (nI 1), .ref dH, .int (nI sr), .ref dL, .int (nI en), .int (nI ram), .int (nI mz), .ref dM, .int (nI hp), .int (nI cn), .ref dP, .ref dS, .int (nI fk), .int fp, .int (nI ka), .int (nI kn), .int (nI sv), .ref dK])), (dM, .inl (cI, 8192, .inl (upd dm3 (j + i) ((vv >>> ((nI (8 * ((w - 1) - i))) &&& 31)) &&& (nI 255)))))] H := hP
          have hD : va_D A [(oD, .inr (4, [.int (nI 0), .ref dF, .int (nI len), .int (nI 1), .ref dH, .int (nI sr), .ref dL, .int (nI en), .int (nI ram), .int (nI mz), .ref dM, .int (nI hp), .int (nI cn), .ref dP, .ref dS, .int (nI fk), .int fp, .int (nI ka), .int (nI kn), .int (nI sv), .ref dK])), (dM, .inl (cI, 8192, .inl (upd dm3 (j + i) ((vv >>> ((nI (8 * ((w - 1) - i))) &&& 31)) &&& (nI 255)))))] := hD
          refine lv_iinc (v := nI (i + 1)) (lv' := [(4, .int (nI (i + 1))), (0, .ref oD), (1, .int (nI w)), (2, .int (nI j)), (3, .int vv)]) hx hb dX4_write_97 hl (k := 4) rfl (by rw [show Int32.ofInt 1 = nI 1 by decide]; exact nI_add _ _) (by decide) rfl (fun ls hl => ?_)
          refine lv_goto (tgt := 67) hx hb dX4_write_100 (by decide) ?_
          exact ih ((i + 1), (upd dm3 (j + i) ((vv >>> ((nI (8 * ((w - 1) - i))) &&& 31)) &&& (nI 255)))) _ _ _ (by omega) ⟨by first | omega | (split <;> omega), write_s hg (by omega) (by rw [sshr_b (by omega), p256, Nat.add_sub_cancel_left]), hP.sub [0, 1] rfl, hD.sub [0, 1] (by decide) rfl, hS, lv_sub hl [1, 2, 3, 4, 0] rfl⟩
      · skip
        rw [Int32.le_iff_toInt_le, pk_sub_toInt (a := mz) (b := w) (by first | omega | (split <;> omega)) (by first | omega | (split <;> omega))] at c_14
        refine lv_aload_n hx hb dX4_write_43 rfl (lv_at hl 0 rfl) ?_
        refine lv_iload_n hx hb dX4_write_44 rfl (lv_at hl 2 rfl) ?_
        refine lv_aload_n hx hb dX4_write_45 rfl (lv_at hl 0 rfl) ?_
        refine va_get (D := (dC, dI)) (ci := 4) (v := .int (nI ram)) (C := RX4) (T := TX4) (N := 21) hx hb hts (by decide +kernel) hown hK hP 0 rfl rfl 8 (by decide) (hts (.fieldLink RX4 83 "GlulxHeadsModel" "ram" "I") (by decide +kernel)) (fun _ h9 => h9) rfl dX4_write_46 ?_
        refine lv_icmp_ge (tgt := 56) hx hb dX4_write_49 (by decide) (fun c_16 => ?_) (fun c_16 => ?_)
        · skip
          rw [Int32.le_iff_toInt_le, nI_toInt (n := ram) (by first | omega | (split <;> omega))] at c_16
          refine lv_iconst (v := nI 3) hx hb dX4_write_56 (by decide) ?_
          refine lv_iload_n hx hb dX4_write_57 rfl (lv_at hl 2 rfl) ?_
          have hPc := hP.sub (ws' := [(oD, .inr (4, [.int (nI 0), .ref dF, .int (nI len), .int (nI 1), .ref dH, .int (nI sr), .ref dL, .int (nI en), .int (nI ram), .int (nI mz), .ref dM, .int (nI hp), .int (nI cn), .ref dP, .ref dS, .int (nI fk), .int fp, .int (nI ka), .int (nI kn), .int (nI sv), .ref dK]))]) [0] rfl
          have hDc := hD.sub (ws' := [(oD, .inr (4, [.int (nI 0), .ref dF, .int (nI len), .int (nI 1), .ref dH, .int (nI sr), .ref dL, .int (nI en), .int (nI ram), .int (nI mz), .ref dM, .int (nI hp), .int (nI cn), .ref dP, .ref dS, .int (nI fk), .int fp, .int (nI ka), .int (nI kn), .int (nI sv), .ref dK]))]) [0] (by decide) rfl
          have hFc := va_free (wc := [(oD, .inr (4, [.int (nI 0), .ref dF, .int (nI len), .int (nI 1), .ref dH, .int (nI sr), .ref dL, .int (nI en), .int (nI ram), .int (nI mz), .ref dM, .int (nI hp), .int (nI cn), .ref dP, .ref dS, .int (nI fk), .int fp, .int (nI ka), .int (nI kn), .int (nI sv), .ref dK]))]) hD hS hA [0] rfl
          refine va_callv (va_runV (As := [.int (nI 3), .int av]) (rest := []) ⟨hx, hb, hml, hown, hts⟩ (c_X4_fails l dC dI cB cI cJ H.size oD 0 dF len 1 dH sr dL en ram mz dM hp cn dP dS fk fp ka kn sv dK 3 av ) (cwV 2 hts gX4_write_X4_fails rfl rfl rfl (by decide +kernel) ⟨Nat.le_of_ble_eq_true rfl, Nat.le_of_ble_eq_true rfl⟩) ⟨wBlind, va_recv hK hPc (ci := 4) (q0 := 0) rfl rfl, wGo hK hPc hDc hN⟩ rfl rfl hl.1 rfl (lv_room (Nat.le_of_ble_eq_true rfl)) dX4_write_58 ⟨show 0 ≤ 0 by decide, show 0 ≤ 0 by decide⟩) hS (fun q _ h => hFc q h) hFc (fun u t H1 locs ht hvm w_19 hB hz1 hk1 hS => ?_)
          clear u
          obtain ⟨hP1, hD1⟩ := hB
          rw [ht] at hP1
          try dsimp only at w_19
          obtain ⟨hP, hD⟩ := va_join (wr := [(dM, .inl (cI, 8192, .inl dm))]) (w1 := [(oD, .inr (4, [.int (nI 0), .ref dF, .int (nI len), .int (nI 1), .ref dH, .int (nI sr), .ref dL, .int (nI en), .int (nI ram), .int (nI mz), .ref dM, .int (nI hp), .int (nI cn), .ref dP, .ref dS, .int (nI 3), .int av, .int (nI ka), .int (nI kn), .int (nI sv), .ref dK]))]) hP hD [0] [1] rfl rfl (by decide) (by decide) hk1 hFc hP1 hD1
          clear hPc hDc hFc hP1 hD1 hz1 hk1 hvm
          generalize H1 = H at hP hS ⊢
          have hP : va_P (dC, dI) vwCl [(dM, .inl (cI, 8192, .inl dm)), (oD, .inr (4, [.int (nI 0), .ref dF, .int (nI len), .int (nI 1), .ref dH, .int (nI sr), .ref dL, .int (nI en), .int (nI ram), .int (nI mz), .ref dM, .int (nI hp), .int (nI cn), .ref dP, .ref dS, .int (nI 3), .int av, .int (nI ka), .int (nI kn), .int (nI sv), .ref dK]))] H := hP
          have hD : va_D A [(dM, .inl (cI, 8192, .inl dm)), (oD, .inr (4, [.int (nI 0), .ref dF, .int (nI len), .int (nI 1), .ref dH, .int (nI sr), .ref dL, .int (nI en), .int (nI ram), .int (nI mz), .ref dM, .int (nI hp), .int (nI cn), .ref dP, .ref dS, .int (nI 3), .int av, .int (nI ka), .int (nI kn), .int (nI sv), .ref dK]))] := hD
          refine lv_bipush (v := (-3)) hx hb dX4_write_61 (by decide) ?_
          have hP9 := hP.sub (ws' := [(oD, .inr (4, [.int (nI 0), .ref dF, .int (nI len), .int (nI 1), .ref dH, .int (nI sr), .ref dL, .int (nI en), .int (nI ram), .int (nI mz), .ref dM, .int (nI hp), .int (nI cn), .ref dP, .ref dS, .int (nI 3), .int av, .int (nI ka), .int (nI kn), .int (nI sv), .ref dK])), (dM, .inl (cI, 8192, .inl dm))]) [1, 0] rfl
          have hD9 := hD.sub (ws' := [(oD, .inr (4, [.int (nI 0), .ref dF, .int (nI len), .int (nI 1), .ref dH, .int (nI sr), .ref dL, .int (nI en), .int (nI ram), .int (nI mz), .ref dM, .int (nI hp), .int (nI cn), .ref dP, .ref dS, .int (nI 3), .int av, .int (nI ka), .int (nI kn), .int (nI sv), .ref dK])), (dM, .inl (cI, 8192, .inl dm))]) [1, 0] (by decide) rfl
          exact W.iret (v := (-3)) hx hb hr (fun t ht hW => ⟨⟨(-3), (dm, 3, av), rfl, (by first | (exfalso; omega) | (have hF := wrF_3 (w := nI w) (mz := mz) (a := av) (ram := ram) (by rw [hwT]; omega); exact ⟨by unfold writeR; rw [if_neg (fun z => z (by assumption)), hF]; rfl, by unfold writeM; rw [if_neg (fun z => absurd z.2 (by rw [hF]; decide))]; exact hm, by unfold writeK; rw [if_pos ⟨by assumption, by rw [hF]; decide⟩, hF], by unfold writeF; rw [if_pos ⟨by assumption, by rw [hF]; decide⟩]⟩)), by rw [ht]; exact hP9, hD9⟩, hS.F ht⟩) hS.2.2 dX4_write_63
        · skip
          rw [Int32.le_iff_toInt_le, nI_toInt (n := ram) (by first | omega | (split <;> omega))] at c_16
          refine lv_iconst (v := nI 2) hx hb dX4_write_52 (by decide) ?_
          refine lv_goto (tgt := 57) hx hb dX4_write_53 (by decide) ?_
          refine lv_iload_n hx hb dX4_write_57 rfl (lv_at hl 2 rfl) ?_
          have hPc := hP.sub (ws' := [(oD, .inr (4, [.int (nI 0), .ref dF, .int (nI len), .int (nI 1), .ref dH, .int (nI sr), .ref dL, .int (nI en), .int (nI ram), .int (nI mz), .ref dM, .int (nI hp), .int (nI cn), .ref dP, .ref dS, .int (nI fk), .int fp, .int (nI ka), .int (nI kn), .int (nI sv), .ref dK]))]) [0] rfl
          have hDc := hD.sub (ws' := [(oD, .inr (4, [.int (nI 0), .ref dF, .int (nI len), .int (nI 1), .ref dH, .int (nI sr), .ref dL, .int (nI en), .int (nI ram), .int (nI mz), .ref dM, .int (nI hp), .int (nI cn), .ref dP, .ref dS, .int (nI fk), .int fp, .int (nI ka), .int (nI kn), .int (nI sv), .ref dK]))]) [0] (by decide) rfl
          have hFc := va_free (wc := [(oD, .inr (4, [.int (nI 0), .ref dF, .int (nI len), .int (nI 1), .ref dH, .int (nI sr), .ref dL, .int (nI en), .int (nI ram), .int (nI mz), .ref dM, .int (nI hp), .int (nI cn), .ref dP, .ref dS, .int (nI fk), .int fp, .int (nI ka), .int (nI kn), .int (nI sv), .ref dK]))]) hD hS hA [0] rfl
          refine va_callv (va_runV (As := [.int (nI 2), .int av]) (rest := []) ⟨hx, hb, hml, hown, hts⟩ (c_X4_fails l dC dI cB cI cJ H.size oD 0 dF len 1 dH sr dL en ram mz dM hp cn dP dS fk fp ka kn sv dK 2 av ) (cwV 2 hts gX4_write_X4_fails rfl rfl rfl (by decide +kernel) ⟨Nat.le_of_ble_eq_true rfl, Nat.le_of_ble_eq_true rfl⟩) ⟨wBlind, va_recv hK hPc (ci := 4) (q0 := 0) rfl rfl, wGo hK hPc hDc hN⟩ rfl rfl hl.1 rfl (lv_room (Nat.le_of_ble_eq_true rfl)) dX4_write_58 ⟨show 0 ≤ 0 by decide, show 0 ≤ 0 by decide⟩) hS (fun q _ h => hFc q h) hFc (fun u t H1 locs ht hvm w_22 hB hz1 hk1 hS => ?_)
          clear u
          obtain ⟨hP1, hD1⟩ := hB
          rw [ht] at hP1
          try dsimp only at w_22
          obtain ⟨hP, hD⟩ := va_join (wr := [(dM, .inl (cI, 8192, .inl dm))]) (w1 := [(oD, .inr (4, [.int (nI 0), .ref dF, .int (nI len), .int (nI 1), .ref dH, .int (nI sr), .ref dL, .int (nI en), .int (nI ram), .int (nI mz), .ref dM, .int (nI hp), .int (nI cn), .ref dP, .ref dS, .int (nI 2), .int av, .int (nI ka), .int (nI kn), .int (nI sv), .ref dK]))]) hP hD [0] [1] rfl rfl (by decide) (by decide) hk1 hFc hP1 hD1
          clear hPc hDc hFc hP1 hD1 hz1 hk1 hvm
          generalize H1 = H at hP hS ⊢
          have hP : va_P (dC, dI) vwCl [(dM, .inl (cI, 8192, .inl dm)), (oD, .inr (4, [.int (nI 0), .ref dF, .int (nI len), .int (nI 1), .ref dH, .int (nI sr), .ref dL, .int (nI en), .int (nI ram), .int (nI mz), .ref dM, .int (nI hp), .int (nI cn), .ref dP, .ref dS, .int (nI 2), .int av, .int (nI ka), .int (nI kn), .int (nI sv), .ref dK]))] H := hP
          have hD : va_D A [(dM, .inl (cI, 8192, .inl dm)), (oD, .inr (4, [.int (nI 0), .ref dF, .int (nI len), .int (nI 1), .ref dH, .int (nI sr), .ref dL, .int (nI en), .int (nI ram), .int (nI mz), .ref dM, .int (nI hp), .int (nI cn), .ref dP, .ref dS, .int (nI 2), .int av, .int (nI ka), .int (nI kn), .int (nI sv), .ref dK]))] := hD
          refine lv_bipush (v := (-3)) hx hb dX4_write_61 (by decide) ?_
          have hP9 := hP.sub (ws' := [(oD, .inr (4, [.int (nI 0), .ref dF, .int (nI len), .int (nI 1), .ref dH, .int (nI sr), .ref dL, .int (nI en), .int (nI ram), .int (nI mz), .ref dM, .int (nI hp), .int (nI cn), .ref dP, .ref dS, .int (nI 2), .int av, .int (nI ka), .int (nI kn), .int (nI sv), .ref dK])), (dM, .inl (cI, 8192, .inl dm))]) [1, 0] rfl
          have hD9 := hD.sub (ws' := [(oD, .inr (4, [.int (nI 0), .ref dF, .int (nI len), .int (nI 1), .ref dH, .int (nI sr), .ref dL, .int (nI en), .int (nI ram), .int (nI mz), .ref dM, .int (nI hp), .int (nI cn), .ref dP, .ref dS, .int (nI 2), .int av, .int (nI ka), .int (nI kn), .int (nI sv), .ref dK])), (dM, .inl (cI, 8192, .inl dm))]) [1, 0] (by decide) rfl
          exact W.iret (v := (-3)) hx hb hr (fun t ht hW => ⟨⟨(-3), (dm, 2, av), rfl, (by first | (exfalso; omega) | (have hF := wrF_2 (w := nI w) (mz := mz) (a := av) (ram := ram) (by rw [hwT]; omega); exact ⟨by unfold writeR; rw [if_neg (fun z => z (by assumption)), hF]; rfl, by unfold writeM; rw [if_neg (fun z => absurd z.2 (by rw [hF]; decide))]; exact hm, by unfold writeK; rw [if_pos ⟨by assumption, by rw [hF]; decide⟩, hF], by unfold writeF; rw [if_pos ⟨by assumption, by rw [hF]; decide⟩]⟩)), by rw [ht]; exact hP9, hD9⟩, hS.F ht⟩) hS.2.2 dX4_write_63
  · skip
    have c_5 := wz_zero c_5
    refine lv_bipush (v := (-2)) hx hb dX4_write_22 (by decide) ?_
    have hP9 := hP.sub (ws' := [(oD, .inr (4, [.int (nI 0), .ref dF, .int (nI len), .int (nI 1), .ref dH, .int (nI sr), .ref dL, .int (nI en), .int (nI ram), .int (nI mz), .ref dM, .int (nI hp), .int (nI cn), .ref dP, .ref dS, .int (nI fk), .int fp, .int (nI ka), .int (nI kn), .int (nI sv), .ref dK])), (dM, .inl (cI, 8192, .inl dm))]) [0, 1] rfl
    have hD9 := hD.sub (ws' := [(oD, .inr (4, [.int (nI 0), .ref dF, .int (nI len), .int (nI 1), .ref dH, .int (nI sr), .ref dL, .int (nI en), .int (nI ram), .int (nI mz), .ref dM, .int (nI hp), .int (nI cn), .ref dP, .ref dS, .int (nI fk), .int fp, .int (nI ka), .int (nI kn), .int (nI sv), .ref dK])), (dM, .inl (cI, 8192, .inl dm))]) [0, 1] (by decide) rfl
    exact W.iret (v := (-2)) hx hb hr (fun t ht hW => ⟨⟨(-2), (dm, fk, fp), rfl, ⟨by unfold writeR; rw [if_pos (by assumption)], by unfold writeM; rw [if_neg (fun z => absurd z.1 (by assumption))]; exact hm, by unfold writeK; rw [if_neg (fun z => absurd z.1 (by assumption))], by unfold writeF; rw [if_neg (fun z => absurd z.1 (by assumption))]⟩, by rw [ht]; exact hP9, hD9⟩, hS.F ht⟩) hS.2.2 dX4_write_24
