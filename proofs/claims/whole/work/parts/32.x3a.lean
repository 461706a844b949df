set_option maxHeartbeats 4000000 in
set_option maxRecDepth 100000 in
theorem c_X3_init (l : Launch) (dC : Nat → ClassId) (dI : Nat → Nat → Nat) (cB cI cJ : ClassId) (sz : Nat) (oG : Nat)  : Met l yX3_init wsX3_init ({ frames := 2, cells := 2, slots := 3002, locals := 40 }) (va_Pc [.ref oG] (wPre dC dI cB cI cJ sz [(oG, .inr (3, [.null, .null]))])) (va_Qv (fun (u : Nat × Nat) => True) (fun (u : Nat × Nat) => wPost dC dI (va_A [(oG, .inr (3, [.null, .null]))] sz) [(oG, .inr (3, [.ref u.1, .null])), (u.1, .inr (2, [.ref u.2, .int (nI 0)])), (u.2, .inl (cB, 3000, .inl (fun _ => 0)))]) (va_A [(oG, .inr (3, [.null, .null]))] sz)) 2 3002 (va_A [(oG, .inr (3, [.null, .null]))] sz) := by
  refine Met.ofW (cc := cX3_init) (maxL := 1) (ret := none) (by decide) rfl ?_
  intro p e s m args below meth c s₁ B hml hv
  obtain ⟨rfl, hsz, hP, hK, hD0, hN⟩ := hv
  have hx := B.exec
  have hb := B.bytes
  have hr := B.returns
  have hts := atoms_spec (ws := wsX3_init) B.pre
  have hown : s.vm.findClass RX3 = some m.cls := findClass_of_methodNamed B.named
  have hlocks := B.notSynchronized
  have hin : meth.name = "<init>" := (name_of_methodNamed B.named B.method).1
  subst hsz
  have hD := hD0.self (sz := s.heap.size)
  generalize hAe : va_A [(oG, .inr (3, [.null, .null]))] s.heap.size = A at hD ⊢
  have hA : ∀ q : Nat, s.heap.size ≤ q → A q := fun q h => by rw [← hAe]; exact Or.inr h
  have hS : va_S A s.heap s.heap [] := va_S.rf
  have hP : va_P (dC, dI) vwCl [(oG, .inr (3, [.null, .null]))] s.heap := hP
  have hl := lv_entry ([.ref oG]) (n := 1) (Nat.le_of_ble_eq_true rfl)
  rw [lg_entry_eq]
  generalize (lg_sl ([.ref oG]) ++ List.replicate (1 - (lg_sl ([.ref oG])).length) Slot.unset).toArray = ls at hl ⊢
  have hl : lv_has ls 1 [(0, .ref oG)] := hl
  refine lv_aload_n hx hb dX3_init_0 rfl (lv_at hl 0 rfl) ?_
  refine W.objInit hx hb hown (hts (.methodLink RX3 3 objectInit) (by decide +kernel)) (hts (.instanceMethod objectInit) (by decide +kernel)) (hts (.code objectInit ⟨#[0xb1]⟩ 1 none) (List.mem_of_getElem? (i := 3) rfl)) rfl (by rw [hml]; exact hl.1) rfl dX3_init_1 (Nat.le_of_ble_eq_true rfl) (Nat.le_of_ble_eq_true rfl) ?_
  refine W.eq (g2 := F0 m 4 ls []) rfl ?_
  refine lv_aload_n hx hb dX3_init_4 rfl (lv_at hl 0 rfl) ?_
  refine va_new (ci := 2) (fs := [.null, .int (nI 0)]) (C := RX2) (T := TX2) (N := 2) hx hb hts (by decide +kernel) tyX2 tyX2_ok hown (hts (.classLink RX3 9 RX2) (by decide +kernel)) (hts (.instantiable RX2 2) (by decide +kernel)) (hts (.initialized RX2) (by decide +kernel)) hK hP hD hS hA rfl (by decide) (show 1 ≤ 2 by decide) (show 2 ≤ 3002 by decide) dX3_init_5 (fun q_1 H hP hD hS => ?_)
  have hP : va_P (dC, dI) vwCl [(oG, .inr (3, [.null, .null])), (q_1, .inr (2, [.null, .int (nI 0)]))] H := hP
  have hD : va_D A [(oG, .inr (3, [.null, .null])), (q_1, .inr (2, [.null, .int (nI 0)]))] := hD
  refine lv_dup hx hb dX3_init_8 rfl ?_
  have hPc := hP.sub (ws' := [(q_1, .inr (2, [.null, .int (nI 0)]))]) [1] rfl
  have hDc := hD.sub (ws' := [(q_1, .inr (2, [.null, .int (nI 0)]))]) [1] (by decide) rfl
  have hFc := va_free (wc := [(q_1, .inr (2, [.null, .int (nI 0)]))]) hD hS hA [1] rfl
  refine va_callv (va_runIN (As := []) (rest := [.ref q_1, .ref oG]) ⟨hx, hb, hml, hown, hts⟩ (c_X2_init l dC dI cB cI cJ H.size q_1 ) ⟨va_cnB 0 hts gX3_init_X2_init_n11 rfl rfl rfl (hN (.methodLinkNest RX3 11 yX2_init "GlulxHeads") (by decide +kernel)) (hts (.initialized RX2) (by decide +kernel)) (by decide +kernel) ⟨Nat.le_of_ble_eq_true rfl, Nat.le_of_ble_eq_true rfl⟩, rfl, hts (.instanceMethod yX2_init) (by decide +kernel)⟩ ⟨wBlind, wGo hK hPc hDc hN⟩ rfl rfl hl.1 rfl (lv_room (Nat.le_of_ble_eq_true rfl)) dX3_init_9 ⟨show 2 ≤ 2 by decide, show 3002 ≤ 3002 by decide⟩) hS (fun q _ h => hFc q h) hFc (fun u t H1 locs ht hvm w_4 hB hz1 hk1 hS => ?_)
  obtain ⟨b0_5, rfl⟩ : ∃ z, z = u := ⟨_, rfl⟩
  obtain ⟨hP1, hD1⟩ := hB
  rw [ht] at hP1
  try dsimp only at w_4
  obtain ⟨hP, hD⟩ := va_join (wr := [(oG, .inr (3, [.null, .null]))]) (w1 := [(q_1, .inr (2, [.ref b0_5, .int (nI 0)])), (b0_5, .inl (cB, 3000, .inl (fun _ => 0)))]) hP hD [1] [0] rfl rfl (by decide) (by decide) hk1 hFc hP1 hD1
  clear hPc hDc hFc hP1 hD1 hz1 hk1 hvm
  generalize H1 = H at hP hS ⊢
  have hP : va_P (dC, dI) vwCl [(oG, .inr (3, [.null, .null])), (q_1, .inr (2, [.ref b0_5, .int (nI 0)])), (b0_5, .inl (cB, 3000, .inl (fun _ => 0)))] H := hP
  have hD : va_D A [(oG, .inr (3, [.null, .null])), (q_1, .inr (2, [.ref b0_5, .int (nI 0)])), (b0_5, .inl (cB, 3000, .inl (fun _ => 0)))] := hD
  refine va_putF (D := (dC, dI)) (ci := 3) (v := .ref q_1) (ty := (tyX3 0)) (C := RX3) (T := TX3) (N := 2) hx hb hts (by decide +kernel) tyX3 tyX3_ok nmX3 hown hK hP hD hS 0 rfl rfl 0 (by decide) (hts (.fieldLink RX3 12 "GlulxHeads" "file" "LGlulxHeads$StoryFile;") (by decide +kernel)) (fun _ h9 => h9) rfl hin rfl (by decide +kernel) rfl rfl (Nat.le_of_ble_eq_true rfl) dX3_init_12 (fun H locs hP hD hS => ?_)
  have hP : va_P (dC, dI) vwCl [(oG, .inr (3, [.ref q_1, .null])), (q_1, .inr (2, [.ref b0_5, .int (nI 0)])), (b0_5, .inl (cB, 3000, .inl (fun _ => 0)))] H := hP
  have hD : va_D A [(oG, .inr (3, [.ref q_1, .null])), (q_1, .inr (2, [.ref b0_5, .int (nI 0)])), (b0_5, .inl (cB, 3000, .inl (fun _ => 0)))] := hD
  refine lv_aload_n hx hb dX3_init_15 rfl (lv_at hl 0 rfl) ?_
  refine lv_null hx hb dX3_init_16 ?_
  refine va_put (D := (dC, dI)) (ci := 3) (v := .null) (ty := (tyX3 1)) (C := RX3) (T := TX3) (N := 2) hx hb hts (by decide +kernel) tyX3 tyX3_ok nmX3 hown hK hP hD hS 0 rfl rfl 1 (by decide) (hts (.fieldLink RX3 18 "GlulxHeads" "machine" "LGlulxHeads$Machine;") (by decide +kernel)) (fun _ h9 => h9) rfl (by decide +kernel) rfl rfl (Nat.le_of_ble_eq_true rfl) dX3_init_17 (fun H locs hP hD hS => ?_)
  have hP : va_P (dC, dI) vwCl [(oG, .inr (3, [.ref q_1, .null])), (q_1, .inr (2, [.ref b0_5, .int (nI 0)])), (b0_5, .inl (cB, 3000, .inl (fun _ => 0)))] H := hP
  have hD : va_D A [(oG, .inr (3, [.ref q_1, .null])), (q_1, .inr (2, [.ref b0_5, .int (nI 0)])), (b0_5, .inl (cB, 3000, .inl (fun _ => 0)))] := hD
  refine W.widen (k := 2) (n := 3002) (show 2 ≤ 2 by decide) (show 3002 ≤ 3002 by decide) ?_
  have hP9 := hP.sub (ws' := [(oG, .inr (3, [.ref q_1, .null])), (q_1, .inr (2, [.ref b0_5, .int (nI 0)])), (b0_5, .inl (cB, 3000, .inl (fun _ => 0)))]) [0, 1, 2] rfl
  have hD9 := hD.sub (ws' := [(oG, .inr (3, [.ref q_1, .null])), (q_1, .inr (2, [.ref b0_5, .int (nI 0)])), (b0_5, .inl (cB, 3000, .inl (fun _ => 0)))]) [0, 1, 2] (by decide) rfl
  exact W.vret hx hb hr (fun t ht hW => ⟨⟨(q_1, b0_5), rfl, trivial, by rw [ht]; exact hP9, hD9⟩, hS.F ht⟩) hS.2.2 dX3_init_20
set_option maxHeartbeats 4000000 in
set_option maxRecDepth 100000 in
theorem c_X3_feed (l : Launch) (dC : Nat → ClassId) (dI : Nat → Nat → Nat) (cB cI cJ : ClassId) (sz : Nat) (oG : Nat) (mv : Value) (h0 : Nat) (b0 : Nat) (f : Nat → Int32) (len : Nat) (fb : Nat → Nat) (a1 : Int32) (a2 : Int32) (a3 : Int32) (a4 : Int32) (a5 : Int32) (hF : fOk f len fb) : Met l yX3_feed wsX3_feed ({ frames := 2, cells := 0, slots := 0, locals := 42 }) (va_Pc [.ref oG, .int a1, .int a2, .int a3, .int a4, .int a5] (wPre dC dI cB cI cJ sz [(oG, .inr (3, [.ref h0, mv])), (h0, .inr (2, [.ref b0, .int (nI len)])), (b0, .inl (cB, 3000, .inl f))])) (va_Qi (fun (r : Int32) (u : (Nat → Int32) × Nat) => r = feedR len ∧ u.2 = feedL len ∧ fOk u.1 u.2 (feedB fb len a1 a2 a3 a4 a5)) (fun (u : (Nat → Int32) × Nat) => wPost dC dI (va_A [(oG, .inr (3, [.ref h0, mv])), (h0, .inr (2, [.ref b0, .int (nI len)])), (b0, .inl (cB, 3000, .inl f))] sz) [(oG, .inr (3, [.ref h0, mv])), (h0, .inr (2, [.ref b0, .int (nI u.2)])), (b0, .inl (cB, 3000, .inl u.1))]) (va_A [(oG, .inr (3, [.ref h0, mv])), (h0, .inr (2, [.ref b0, .int (nI len)])), (b0, .inl (cB, 3000, .inl f))] sz)) 0 0 (va_A [(oG, .inr (3, [.ref h0, mv])), (h0, .inr (2, [.ref b0, .int (nI len)])), (b0, .inl (cB, 3000, .inl f))] sz) := by
  refine Met.ofW (cc := cX3_feed) (maxL := 6) (ret := (some .int)) (by decide) rfl ?_
  intro p e s m args below meth c s₁ B hml hv
  obtain ⟨rfl, hsz, hP, hK, hD0, hN⟩ := hv
  have hx := B.exec
  have hb := B.bytes
  have hr := B.returns
  have hts := atoms_spec (ws := wsX3_feed) B.pre
  have hown : s.vm.findClass RX3 = some m.cls := findClass_of_methodNamed B.named
  have hlocks := B.notSynchronized
  subst hsz
  have hD := hD0.self (sz := s.heap.size)
  generalize hAe : va_A [(oG, .inr (3, [.ref h0, mv])), (h0, .inr (2, [.ref b0, .int (nI len)])), (b0, .inl (cB, 3000, .inl f))] s.heap.size = A at hD ⊢
  have hA : ∀ q : Nat, s.heap.size ≤ q → A q := fun q h => by rw [← hAe]; exact Or.inr h
  have hS : va_S A s.heap s.heap [] := va_S.rf
  have hP : va_P (dC, dI) vwCl [(oG, .inr (3, [.ref h0, mv])), (h0, .inr (2, [.ref b0, .int (nI len)])), (b0, .inl (cB, 3000, .inl f))] s.heap := hP
  have hl := lv_entry ([.ref oG, .int a1, .int a2, .int a3, .int a4, .int a5]) (n := 6) (Nat.le_of_ble_eq_true rfl)
  rw [lg_entry_eq]
  generalize (lg_sl ([.ref oG, .int a1, .int a2, .int a3, .int a4, .int a5]) ++ List.replicate (6 - (lg_sl ([.ref oG, .int a1, .int a2, .int a3, .int a4, .int a5])).length) Slot.unset).toArray = ls at hl ⊢
  have hl : lv_has ls 6 [(0, .ref oG), (1, .int a1), (2, .int a2), (3, .int a3), (4, .int a4), (5, .int a5)] := hl
  have hF1 := hF.1
  have hF2 := hF.2.1
  refine lv_aload_n hx hb dX3_feed_0 rfl (lv_at hl 0 rfl) ?_
  refine va_get (D := (dC, dI)) (ci := 3) (v := .ref h0) (C := RX3) (T := TX3) (N := 2) hx hb hts (by decide +kernel) hown hK hP 0 rfl rfl 0 (by decide) (hts (.fieldLink RX3 12 "GlulxHeads" "file" "LGlulxHeads$StoryFile;") (by decide +kernel)) (fun _ h9 => h9) rfl dX3_feed_1 ?_
  refine lv_bipush (v := nI 20) hx hb dX3_feed_4 (by decide) ?_
  have hPc := hP.sub (ws' := [(h0, .inr (2, [.ref b0, .int (nI len)])), (b0, .inl (cB, 3000, .inl f))]) [1, 2] rfl
  have hDc := hD.sub (ws' := [(h0, .inr (2, [.ref b0, .int (nI len)])), (b0, .inl (cB, 3000, .inl f))]) [1, 2] (by decide) rfl
  have hFc := va_free (wc := [(h0, .inr (2, [.ref b0, .int (nI len)])), (b0, .inl (cB, 3000, .inl f))]) hD hS hA [1, 2] rfl
  refine va_calli (va_runVN (As := [.int (nI 20)]) (rest := []) ⟨hx, hb, hml, hown, hts⟩ (c_X2_hasRoomFor l dC dI cB cI cJ s.heap.size h0 b0 f len fb 20 hF (by first | omega | (split <;> omega))) ⟨va_cnB 1 hts gX3_feed_X2_hasRoomFor_n22 rfl rfl rfl (hN (.methodLinkNest RX3 22 yX2_hasRoomFor "GlulxHeads") (by decide +kernel)) (hts (.initialized RX2) (by decide +kernel)) (by decide +kernel) ⟨Nat.le_of_ble_eq_true rfl, Nat.le_of_ble_eq_true rfl⟩, hts (.instanceMethod yX2_hasRoomFor) (by decide +kernel), hts (.selects RX2 yX2_hasRoomFor yX2_hasRoomFor) (by decide +kernel)⟩ ⟨wBlind, va_recv hK hPc (ci := 2) (q0 := 0) rfl rfl, wGo hK hPc hDc hN⟩ rfl rfl hl.1 rfl (lv_room (Nat.le_of_ble_eq_true rfl)) dX3_feed_6 ⟨show 0 ≤ 0 by decide, show 0 ≤ 0 by decide⟩) hS (fun q _ h => hFc q h) hFc (fun r_2 u t H1 locs ht hvm w_3 hB hz1 hk1 hS => ?_)
  clear u
  obtain ⟨hP1, hD1⟩ := hB
  rw [ht] at hP1
  try dsimp only at w_3
  obtain ⟨hP, hD⟩ := va_join (wr := [(oG, .inr (3, [.ref h0, mv]))]) (w1 := [(h0, .inr (2, [.ref b0, .int (nI len)])), (b0, .inl (cB, 3000, .inl f))]) hP hD [1, 2] [0] rfl rfl (by decide) (by decide) hk1 hFc hP1 hD1
  clear hPc hDc hFc hP1 hD1 hz1 hk1 hvm
  generalize H1 = H at hP hS ⊢
  have hP : va_P (dC, dI) vwCl [(oG, .inr (3, [.ref h0, mv])), (h0, .inr (2, [.ref b0, .int (nI len)])), (b0, .inl (cB, 3000, .inl f))] H := hP
  have hD : va_D A [(oG, .inr (3, [.ref h0, mv])), (h0, .inr (2, [.ref b0, .int (nI len)])), (b0, .inl (cB, 3000, .inl f))] := hD
  subst w_3
  refine wx_if_ne (tgt := 15) hx hb dX3_feed_9 (by decide) (by first | omega | (split <;> omega)) (fun c_4 => ?_) (fun c_4 => ?_)
  · skip
    have c_4 := wz_pos c_4
    refine lv_aload_n hx hb dX3_feed_15 rfl (lv_at hl 0 rfl) ?_
    refine va_get (D := (dC, dI)) (ci := 3) (v := .ref h0) (C := RX3) (T := TX3) (N := 2) hx hb hts (by decide +kernel) hown hK hP 0 rfl rfl 0 (by decide) (hts (.fieldLink RX3 12 "GlulxHeads" "file" "LGlulxHeads$StoryFile;") (by decide +kernel)) (fun _ h9 => h9) rfl dX3_feed_16 ?_
    refine lv_iload_n hx hb dX3_feed_19 rfl (lv_at hl 1 rfl) ?_
    have hPc := hP.sub (ws' := [(h0, .inr (2, [.ref b0, .int (nI len)])), (b0, .inl (cB, 3000, .inl f))]) [1, 2] rfl
    have hDc := hD.sub (ws' := [(h0, .inr (2, [.ref b0, .int (nI len)])), (b0, .inl (cB, 3000, .inl f))]) [1, 2] (by decide) rfl
    have hFc := va_free (wc := [(h0, .inr (2, [.ref b0, .int (nI len)])), (b0, .inl (cB, 3000, .inl f))]) hD hS hA [1, 2] rfl
    refine va_callv (va_runVN (As := [.int a1]) (rest := []) ⟨hx, hb, hml, hown, hts⟩ (c_X2_appendWord l dC dI cB cI cJ H.size h0 b0 f len fb a1 hF (by first | omega | (split <;> omega))) ⟨va_cnB 1 hts gX3_feed_X2_appendWord_n26 rfl rfl rfl (hN (.methodLinkNest RX3 26 yX2_appendWord "GlulxHeads") (by decide +kernel)) (hts (.initialized RX2) (by decide +kernel)) (by decide +kernel) ⟨Nat.le_of_ble_eq_true rfl, Nat.le_of_ble_eq_true rfl⟩, hts (.instanceMethod yX2_appendWord) (by decide +kernel), hts (.selects RX2 yX2_appendWord yX2_appendWord) (by decide +kernel)⟩ ⟨wBlind, va_recv hK hPc (ci := 2) (q0 := 0) rfl rfl, wGo hK hPc hDc hN⟩ rfl rfl hl.1 rfl (lv_room (Nat.le_of_ble_eq_true rfl)) dX3_feed_20 ⟨show 0 ≤ 0 by decide, show 0 ≤ 0 by decide⟩) hS (fun q _ h => hFc q h) hFc (fun u t H1 locs ht hvm w_7 hB hz1 hk1 hS => ?_)
    obtain ⟨f2_8, rfl⟩ : ∃ z, z = u := ⟨_, rfl⟩
    obtain ⟨hP1, hD1⟩ := hB
    rw [ht] at hP1
    try dsimp only at w_7
    obtain ⟨hP, hD⟩ := va_join (wr := [(oG, .inr (3, [.ref h0, mv]))]) (w1 := [(h0, .inr (2, [.ref b0, .int (nI (len + 4))])), (b0, .inl (cB, 3000, .inl f2_8))]) hP hD [1, 2] [0] rfl rfl (by decide) (by decide) hk1 hFc hP1 hD1
    clear hPc hDc hFc hP1 hD1 hz1 hk1 hvm
    generalize H1 = H at hP hS ⊢
    have hP : va_P (dC, dI) vwCl [(oG, .inr (3, [.ref h0, mv])), (h0, .inr (2, [.ref b0, .int (nI (len + 4))])), (b0, .inl (cB, 3000, .inl f2_8))] H := hP
    have hD : va_D A [(oG, .inr (3, [.ref h0, mv])), (h0, .inr (2, [.ref b0, .int (nI (len + 4))])), (b0, .inl (cB, 3000, .inl f2_8))] := hD
    have hG1 := w_7
    refine lv_aload_n hx hb dX3_feed_23 rfl (lv_at hl 0 rfl) ?_
    refine va_get (D := (dC, dI)) (ci := 3) (v := .ref h0) (C := RX3) (T := TX3) (N := 2) hx hb hts (by decide +kernel) hown hK hP 0 rfl rfl 0 (by decide) (hts (.fieldLink RX3 12 "GlulxHeads" "file" "LGlulxHeads$StoryFile;") (by decide +kernel)) (fun _ h9 => h9) rfl dX3_feed_24 ?_
    refine lv_iload_n hx hb dX3_feed_27 rfl (lv_at hl 2 rfl) ?_
    have hPc := hP.sub (ws' := [(h0, .inr (2, [.ref b0, .int (nI (len + 4))])), (b0, .inl (cB, 3000, .inl f2_8))]) [1, 2] rfl
    have hDc := hD.sub (ws' := [(h0, .inr (2, [.ref b0, .int (nI (len + 4))])), (b0, .inl (cB, 3000, .inl f2_8))]) [1, 2] (by decide) rfl
    have hFc := va_free (wc := [(h0, .inr (2, [.ref b0, .int (nI (len + 4))])), (b0, .inl (cB, 3000, .inl f2_8))]) hD hS hA [1, 2] rfl
    refine va_callv (va_runVN (As := [.int a2]) (rest := []) ⟨hx, hb, hml, hown, hts⟩ (c_X2_appendWord l dC dI cB cI cJ H.size h0 b0 f2_8 (len + 4) (up4 fb len a1) a2 hG1 (by first | omega | (split <;> omega))) ⟨va_cnB 1 hts gX3_feed_X2_appendWord_n26 rfl rfl rfl (hN (.methodLinkNest RX3 26 yX2_appendWord "GlulxHeads") (by decide +kernel)) (hts (.initialized RX2) (by decide +kernel)) (by decide +kernel) ⟨Nat.le_of_ble_eq_true rfl, Nat.le_of_ble_eq_true rfl⟩, hts (.instanceMethod yX2_appendWord) (by decide +kernel), hts (.selects RX2 yX2_appendWord yX2_appendWord) (by decide +kernel)⟩ ⟨wBlind, va_recv hK hPc (ci := 2) (q0 := 0) rfl rfl, wGo hK hPc hDc hN⟩ rfl rfl hl.1 rfl (lv_room (Nat.le_of_ble_eq_true rfl)) dX3_feed_28 ⟨show 0 ≤ 0 by decide, show 0 ≤ 0 by decide⟩) hS (fun q _ h => hFc q h) hFc (fun u t H1 locs ht hvm w_11 hB hz1 hk1 hS => ?_)
    obtain ⟨f2_12, rfl⟩ : ∃ z, z = u := ⟨_, rfl⟩
    obtain ⟨hP1, hD1⟩ := hB
    rw [ht] at hP1
    try dsimp only at w_11
    obtain ⟨hP, hD⟩ := va_join (wr := [(oG, .inr (3, [.ref h0, mv]))]) (w1 := [(h0, .inr (2, [.ref b0, .int (nI ((len + 4) + 4))])), (b0, .inl (cB, 3000, .inl f2_12))]) hP hD [1, 2] [0] rfl rfl (by decide) (by decide) hk1 hFc hP1 hD1
    clear hPc hDc hFc hP1 hD1 hz1 hk1 hvm
    generalize H1 = H at hP hS ⊢
    have hP : va_P (dC, dI) vwCl [(oG, .inr (3, [.ref h0, mv])), (h0, .inr (2, [.ref b0, .int (nI ((len + 4) + 4))])), (b0, .inl (cB, 3000, .inl f2_12))] H := hP
    have hD : va_D A [(oG, .inr (3, [.ref h0, mv])), (h0, .inr (2, [.ref b0, .int (nI ((len + 4) + 4))])), (b0, .inl (cB, 3000, .inl f2_12))] := hD
    have hG2 := w_11
    refine lv_aload_n hx hb dX3_feed_31 rfl (lv_at hl 0 rfl) ?_
    refine va_get (D := (dC, dI)) (ci := 3) (v := .ref h0) (C := RX3) (T := TX3) (N := 2) hx hb hts (by decide +kernel) hown hK hP 0 rfl rfl 0 (by decide) (hts (.fieldLink RX3 12 "GlulxHeads" "file" "LGlulxHeads$StoryFile;") (by decide +kernel)) (fun _ h9 => h9) rfl dX3_feed_32 ?_
    refine lv_iload_n hx hb dX3_feed_35 rfl (lv_at hl 3 rfl) ?_
    have hPc := hP.sub (ws' := [(h0, .inr (2, [.ref b0, .int (nI (len + 8))])), (b0, .inl (cB, 3000, .inl f2_12))]) [1, 2] rfl
    have hDc := hD.sub (ws' := [(h0, .inr (2, [.ref b0, .int (nI (len + 8))])), (b0, .inl (cB, 3000, .inl f2_12))]) [1, 2] (by decide) rfl
    have hFc := va_free (wc := [(h0, .inr (2, [.ref b0, .int (nI (len + 8))])), (b0, .inl (cB, 3000, .inl f2_12))]) hD hS hA [1, 2] rfl
    refine va_callv (va_runVN (As := [.int a3]) (rest := []) ⟨hx, hb, hml, hown, hts⟩ (c_X2_appendWord l dC dI cB cI cJ H.size h0 b0 f2_12 (len + 8) (up4 (up4 fb len a1) (len + 4) a2) a3 hG2 (by first | omega | (split <;> omega))) ⟨va_cnB 1 hts gX3_feed_X2_appendWord_n26 rfl rfl rfl (hN (.methodLinkNest RX3 26 yX2_appendWord "GlulxHeads") (by decide +kernel)) (hts (.initialized RX2) (by decide +kernel)) (by decide +kernel) ⟨Nat.le_of_ble_eq_true rfl, Nat.le_of_ble_eq_true rfl⟩, hts (.instanceMethod yX2_appendWord) (by decide +kernel), hts (.selects RX2 yX2_appendWord yX2_appendWord) (by decide +kernel)⟩ ⟨wBlind, va_recv hK hPc (ci := 2) (q0 := 0) rfl rfl, wGo hK hPc hDc hN⟩ rfl rfl hl.1 rfl (lv_room (Nat.le_of_ble_eq_true rfl)) dX3_feed_36 ⟨show 0 ≤ 0 by decide, show 0 ≤ 0 by decide⟩) hS (fun q _ h => hFc q h) hFc (fun u t H1 locs ht hvm w_15 hB hz1 hk1 hS => ?_)
    obtain ⟨f2_16, rfl⟩ : ∃ z, z = u := ⟨_, rfl⟩
    obtain ⟨hP1, hD1⟩ := hB
    rw [ht] at hP1
    try dsimp only at w_15
    obtain ⟨hP, hD⟩ := va_join (wr := [(oG, .inr (3, [.ref h0, mv]))]) (w1 := [(h0, .inr (2, [.ref b0, .int (nI ((len + 8) + 4))])), (b0, .inl (cB, 3000, .inl f2_16))]) hP hD [1, 2] [0] rfl rfl (by decide) (by decide) hk1 hFc hP1 hD1
    clear hPc hDc hFc hP1 hD1 hz1 hk1 hvm
    generalize H1 = H at hP hS ⊢
    have hP : va_P (dC, dI) vwCl [(oG, .inr (3, [.ref h0, mv])), (h0, .inr (2, [.ref b0, .int (nI ((len + 8) + 4))])), (b0, .inl (cB, 3000, .inl f2_16))] H := hP
    have hD : va_D A [(oG, .inr (3, [.ref h0, mv])), (h0, .inr (2, [.ref b0, .int (nI ((len + 8) + 4))])), (b0, .inl (cB, 3000, .inl f2_16))] := hD
    have hG3 := w_15
    refine lv_aload_n hx hb dX3_feed_39 rfl (lv_at hl 0 rfl) ?_
    refine va_get (D := (dC, dI)) (ci := 3) (v := .ref h0) (C := RX3) (T := TX3) (N := 2) hx hb hts (by decide +kernel) hown hK hP 0 rfl rfl 0 (by decide) (hts (.fieldLink RX3 12 "GlulxHeads" "file" "LGlulxHeads$StoryFile;") (by decide +kernel)) (fun _ h9 => h9) rfl dX3_feed_40 ?_
    refine lv_iload hx hb dX3_feed_43 (lv_at hl 4 rfl) ?_
    have hPc := hP.sub (ws' := [(h0, .inr (2, [.ref b0, .int (nI (len + 12))])), (b0, .inl (cB, 3000, .inl f2_16))]) [1, 2] rfl
    have hDc := hD.sub (ws' := [(h0, .inr (2, [.ref b0, .int (nI (len + 12))])), (b0, .inl (cB, 3000, .inl f2_16))]) [1, 2] (by decide) rfl
    have hFc := va_free (wc := [(h0, .inr (2, [.ref b0, .int (nI (len + 12))])), (b0, .inl (cB, 3000, .inl f2_16))]) hD hS hA [1, 2] rfl
    refine va_callv (va_runVN (As := [.int a4]) (rest := []) ⟨hx, hb, hml, hown, hts⟩ (c_X2_appendWord l dC dI cB cI cJ H.size h0 b0 f2_16 (len + 12) (up4 (up4 (up4 fb len a1) (len + 4) a2) (len + 8) a3) a4 hG3 (by first | omega | (split <;> omega))) ⟨va_cnB 1 hts gX3_feed_X2_appendWord_n26 rfl rfl rfl (hN (.methodLinkNest RX3 26 yX2_appendWord "GlulxHeads") (by decide +kernel)) (hts (.initialized RX2) (by decide +kernel)) (by decide +kernel) ⟨Nat.le_of_ble_eq_true rfl, Nat.le_of_ble_eq_true rfl⟩, hts (.instanceMethod yX2_appendWord) (by decide +kernel), hts (.selects RX2 yX2_appendWord yX2_appendWord) (by decide +kernel)⟩ ⟨wBlind, va_recv hK hPc (ci := 2) (q0 := 0) rfl rfl, wGo hK hPc hDc hN⟩ rfl rfl hl.1 rfl (lv_room (Nat.le_of_ble_eq_true rfl)) dX3_feed_45 ⟨show 0 ≤ 0 by decide, show 0 ≤ 0 by decide⟩) hS (fun q _ h => hFc q h) hFc (fun u t H1 locs ht hvm w_19 hB hz1 hk1 hS => ?_)
    obtain ⟨f2_20, rfl⟩ : ∃ z, z = u := ⟨_, rfl⟩
    obtain ⟨hP1, hD1⟩ := hB
    rw [ht] at hP1
    try dsimp only at w_19
    obtain ⟨hP, hD⟩ := va_join (wr := [(oG, .inr (3, [.ref h0, mv]))]) (w1 := [(h0, .inr (2, [.ref b0, .int (nI ((len + 12) + 4))])), (b0, .inl (cB, 3000, .inl f2_20))]) hP hD [1, 2] [0] rfl rfl (by decide) (by decide) hk1 hFc hP1 hD1
    clear hPc hDc hFc hP1 hD1 hz1 hk1 hvm
    generalize H1 = H at hP hS ⊢
    have hP : va_P (dC, dI) vwCl [(oG, .inr (3, [.ref h0, mv])), (h0, .inr (2, [.ref b0, .int (nI ((len + 12) + 4))])), (b0, .inl (cB, 3000, .inl f2_20))] H := hP
    have hD : va_D A [(oG, .inr (3, [.ref h0, mv])), (h0, .inr (2, [.ref b0, .int (nI ((len + 12) + 4))])), (b0, .inl (cB, 3000, .inl f2_20))] := hD
    have hG4 := w_19
    refine lv_aload_n hx hb dX3_feed_48 rfl (lv_at hl 0 rfl) ?_
    refine va_get (D := (dC, dI)) (ci := 3) (v := .ref h0) (C := RX3) (T := TX3) (N := 2) hx hb hts (by decide +kernel) hown hK hP 0 rfl rfl 0 (by decide) (hts (.fieldLink RX3 12 "GlulxHeads" "file" "LGlulxHeads$StoryFile;") (by decide +kernel)) (fun _ h9 => h9) rfl dX3_feed_49 ?_
    refine lv_iload hx hb dX3_feed_52 (lv_at hl 5 rfl) ?_
    have hPc := hP.sub (ws' := [(h0, .inr (2, [.ref b0, .int (nI (len + 16))])), (b0, .inl (cB, 3000, .inl f2_20))]) [1, 2] rfl
    have hDc := hD.sub (ws' := [(h0, .inr (2, [.ref b0, .int (nI (len + 16))])), (b0, .inl (cB, 3000, .inl f2_20))]) [1, 2] (by decide) rfl
    have hFc := va_free (wc := [(h0, .inr (2, [.ref b0, .int (nI (len + 16))])), (b0, .inl (cB, 3000, .inl f2_20))]) hD hS hA [1, 2] rfl
    refine va_callv (va_runVN (As := [.int a5]) (rest := []) ⟨hx, hb, hml, hown, hts⟩ (c_X2_appendWord l dC dI cB cI cJ H.size h0 b0 f2_20 (len + 16) (up4 (up4 (up4 (up4 fb len a1) (len + 4) a2) (len + 8) a3) (len + 12) a4) a5 hG4 (by first | omega | (split <;> omega))) ⟨va_cnB 1 hts gX3_feed_X2_appendWord_n26 rfl rfl rfl (hN (.methodLinkNest RX3 26 yX2_appendWord "GlulxHeads") (by decide +kernel)) (hts (.initialized RX2) (by decide +kernel)) (by decide +kernel) ⟨Nat.le_of_ble_eq_true rfl, Nat.le_of_ble_eq_true rfl⟩, hts (.instanceMethod yX2_appendWord) (by decide +kernel), hts (.selects RX2 yX2_appendWord yX2_appendWord) (by decide +kernel)⟩ ⟨wBlind, va_recv hK hPc (ci := 2) (q0 := 0) rfl rfl, wGo hK hPc hDc hN⟩ rfl rfl hl.1 rfl (lv_room (Nat.le_of_ble_eq_true rfl)) dX3_feed_54 ⟨show 0 ≤ 0 by decide, show 0 ≤ 0 by decide⟩) hS (fun q _ h => hFc q h) hFc (fun u t H1 locs ht hvm w_23 hB hz1 hk1 hS => ?_)
    obtain ⟨f2_24, rfl⟩ : ∃ z, z = u := ⟨_, rfl⟩
    obtain ⟨hP1, hD1⟩ := hB
    rw [ht] at hP1
    try dsimp only at w_23
    obtain ⟨hP, hD⟩ := va_join (wr := [(oG, .inr (3, [.ref h0, mv]))]) (w1 := [(h0, .inr (2, [.ref b0, .int (nI ((len + 16) + 4))])), (b0, .inl (cB, 3000, .inl f2_24))]) hP hD [1, 2] [0] rfl rfl (by decide) (by decide) hk1 hFc hP1 hD1
    clear hPc hDc hFc hP1 hD1 hz1 hk1 hvm
    generalize H1 = H at hP hS ⊢
    have hP : va_P (dC, dI) vwCl [(oG, .inr (3, [.ref h0, mv])), (h0, .inr (2, [.ref b0, .int (nI ((len + 16) + 4))])), (b0, .inl (cB, 3000, .inl f2_24))] H := hP
    have hD : va_D A [(oG, .inr (3, [.ref h0, mv])), (h0, .inr (2, [.ref b0, .int (nI ((len + 16) + 4))])), (b0, .inl (cB, 3000, .inl f2_24))] := hD
    have hG5 := w_23
    refine lv_aload_n hx hb dX3_feed_57 rfl (lv_at hl 0 rfl) ?_
    refine va_get (D := (dC, dI)) (ci := 3) (v := .ref h0) (C := RX3) (T := TX3) (N := 2) hx hb hts (by decide +kernel) hown hK hP 0 rfl rfl 0 (by decide) (hts (.fieldLink RX3 12 "GlulxHeads" "file" "LGlulxHeads$StoryFile;") (by decide +kernel)) (fun _ h9 => h9) rfl dX3_feed_58 ?_
    refine va_getN (D := (dC, dI)) (ci := 2) (v := .int (nI (len + 20))) (C := RX2) (T := TX2) (N := 2) hx hb hts (by decide +kernel) hown hK hP 1 rfl rfl 1 (by decide) (va_Nw.use rfl (hN (.fieldLinkNest RX3 30 "GlulxHeads$StoryFile" "length" "I" "GlulxHeads") (by decide +kernel))) (fun _ h9 => h9) rfl dX3_feed_61 ?_
    have hP9 := hP.sub (ws' := [(oG, .inr (3, [.ref h0, mv])), (h0, .inr (2, [.ref b0, .int (nI (len + 20))])), (b0, .inl (cB, 3000, .inl f2_24))]) [0, 1, 2] rfl
    have hD9 := hD.sub (ws' := [(oG, .inr (3, [.ref h0, mv])), (h0, .inr (2, [.ref b0, .int (nI (len + 20))])), (b0, .inl (cB, 3000, .inl f2_24))]) [0, 1, 2] (by decide) rfl
    exact W.iret (v := nI (len + 20)) hx hb hr (fun t ht hW => ⟨⟨(nI (len + 20)), (f2_24, (len + 20)), rfl, ⟨by unfold feedR; rw [if_pos (by omega)], by unfold feedL; rw [if_pos (by omega)], by unfold feedB; rw [if_pos (by omega)]; exact hG5⟩, by rw [ht]; exact hP9, hD9⟩, hS.F ht⟩) hS.2.2 dX3_feed_64
  · skip
    have c_4 := wz_zero c_4
    refine lv_bipush (v := (-4)) hx hb dX3_feed_12 (by decide) ?_
    have hP9 := hP.sub (ws' := [(oG, .inr (3, [.ref h0, mv])), (h0, .inr (2, [.ref b0, .int (nI len)])), (b0, .inl (cB, 3000, .inl f))]) [0, 1, 2] rfl
    have hD9 := hD.sub (ws' := [(oG, .inr (3, [.ref h0, mv])), (h0, .inr (2, [.ref b0, .int (nI len)])), (b0, .inl (cB, 3000, .inl f))]) [0, 1, 2] (by decide) rfl
    exact W.iret (v := (-4)) hx hb hr (fun t ht hW => ⟨⟨(-4), (f, len), rfl, ⟨by unfold feedR; rw [if_neg (by omega)], by unfold feedL; rw [if_neg (by omega)], by unfold feedB; rw [if_neg (by omega)]; exact hF⟩, by rw [ht]; exact hP9, hD9⟩, hS.F ht⟩) hS.2.2 dX3_feed_14
set_option maxHeartbeats 4000000 in
set_option maxRecDepth 100000 in
theorem c_X3_fill (l : Launch) (dC : Nat → ClassId) (dI : Nat → Nat → Nat) (cB cI cJ : ClassId) (sz : Nat) (oG : Nat) (mv : Value) (h0 : Nat) (b0 : Nat) (f : Nat → Int32) (len : Nat) (fb : Nat → Nat) (nv : Int32) (seed : Int32) (hF : fOk f len fb) : Met l yX3_fill wsX3_fill ({ frames := 1, cells := 0, slots := 0, locals := 21 }) (va_Pc [.ref oG, .int nv, .int seed] (wPre dC dI cB cI cJ sz [(oG, .inr (3, [.ref h0, mv])), (h0, .inr (2, [.ref b0, .int (nI len)])), (b0, .inl (cB, 3000, .inl f))])) (va_Qi (fun (r : Int32) (u : (Nat → Int32) × Nat) => r = fillR len nv ∧ u.2 = fillL len nv ∧ fOk u.1 u.2 (fillB fb len nv seed)) (fun (u : (Nat → Int32) × Nat) => wPost dC dI (va_A [(oG, .inr (3, [.ref h0, mv])), (h0, .inr (2, [.ref b0, .int (nI len)])), (b0, .inl (cB, 3000, .inl f))] sz) [(oG, .inr (3, [.ref h0, mv])), (h0, .inr (2, [.ref b0, .int (nI u.2)])), (b0, .inl (cB, 3000, .inl u.1))]) (va_A [(oG, .inr (3, [.ref h0, mv])), (h0, .inr (2, [.ref b0, .int (nI len)])), (b0, .inl (cB, 3000, .inl f))] sz)) 0 0 (va_A [(oG, .inr (3, [.ref h0, mv])), (h0, .inr (2, [.ref b0, .int (nI len)])), (b0, .inl (cB, 3000, .inl f))] sz) := by
  refine Met.ofW (cc := cX3_fill) (maxL := 5) (ret := (some .int)) (by decide) rfl ?_
  intro p e s m args below meth c s₁ B hml hv
  obtain ⟨rfl, hsz, hP, hK, hD0, hN⟩ := hv
  have hx := B.exec
  have hb := B.bytes
  have hr := B.returns
  have hts := atoms_spec (ws := wsX3_fill) B.pre
  have hown : s.vm.findClass RX3 = some m.cls := findClass_of_methodNamed B.named
  have hlocks := B.notSynchronized
  subst hsz
  have hD := hD0.self (sz := s.heap.size)
  generalize hAe : va_A [(oG, .inr (3, [.ref h0, mv])), (h0, .inr (2, [.ref b0, .int (nI len)])), (b0, .inl (cB, 3000, .inl f))] s.heap.size = A at hD ⊢
  have hA : ∀ q : Nat, s.heap.size ≤ q → A q := fun q h => by rw [← hAe]; exact Or.inr h
  have hS : va_S A s.heap s.heap [] := va_S.rf
  have hP : va_P (dC, dI) vwCl [(oG, .inr (3, [.ref h0, mv])), (h0, .inr (2, [.ref b0, .int (nI len)])), (b0, .inl (cB, 3000, .inl f))] s.heap := hP
  have hl := lv_entry ([.ref oG, .int nv, .int seed]) (n := 5) (Nat.le_of_ble_eq_true rfl)
  rw [lg_entry_eq]
  generalize (lg_sl ([.ref oG, .int nv, .int seed]) ++ List.replicate (5 - (lg_sl ([.ref oG, .int nv, .int seed])).length) Slot.unset).toArray = ls at hl ⊢
  have hl : lv_has ls 5 [(0, .ref oG), (1, .int nv), (2, .int seed)] := hl
  have hF1 := hF.1
  have hF2 := hF.2.1
  refine lv_iload_n hx hb dX3_fill_0 rfl (lv_at hl 1 rfl) ?_
  refine lv_iconst (v := nI 1) hx hb dX3_fill_1 (by decide) ?_
  refine lv_icmp_lt (tgt := 12) hx hb dX3_fill_2 (by decide) (fun c_1 => ?_) (fun c_1 => ?_)
  · skip
    rw [Int32.lt_iff_toInt_lt, nI_toInt (n := 1) (by first | omega | (split <;> omega))] at c_1
    refine lv_bipush (v := (-2)) hx hb dX3_fill_12 (by decide) ?_
    have hP9 := hP.sub (ws' := [(oG, .inr (3, [.ref h0, mv])), (h0, .inr (2, [.ref b0, .int (nI len)])), (b0, .inl (cB, 3000, .inl f))]) [0, 1, 2] rfl
    have hD9 := hD.sub (ws' := [(oG, .inr (3, [.ref h0, mv])), (h0, .inr (2, [.ref b0, .int (nI len)])), (b0, .inl (cB, 3000, .inl f))]) [0, 1, 2] (by decide) rfl
    exact W.iret (v := (-2)) hx hb hr (fun t ht hW => ⟨⟨(-2), (f, len), rfl, ⟨by unfold fillR; rw [if_pos (by omega)], by unfold fillL; rw [if_neg (by omega)], by unfold fillB; rw [if_neg (by omega)]; exact hF⟩, by rw [ht]; exact hP9, hD9⟩, hS.F ht⟩) hS.2.2 dX3_fill_14
  · skip
    rw [Int32.lt_iff_toInt_lt, nI_toInt (n := 1) (by first | omega | (split <;> omega))] at c_1
    refine lv_iload_n hx hb dX3_fill_5 rfl (lv_at hl 1 rfl) ?_
    refine lv_sipush (v := nI 3000) hx hb dX3_fill_6 (by decide) ?_
    refine lv_icmp_le (tgt := 15) hx hb dX3_fill_9 (by decide) (fun c_2 => ?_) (fun c_2 => ?_)
    · skip
      rw [Int32.le_iff_toInt_le, nI_toInt (n := 3000) (by first | omega | (split <;> omega))] at c_2
      obtain ⟨n, hn, rfl⟩ : ∃ n : Nat, n < 2147483648 ∧ nv = nI n := nI_of (by intro z; rw [Int32.lt_iff_toInt_lt, show (0 : Int32).toInt = 0 by decide] at z; omega)
      have hnE : (nI n).toInt = (n : Int) := nI_toInt hn
      refine lv_aload_n hx hb dX3_fill_15 rfl (lv_at hl 0 rfl) ?_
      refine va_get (D := (dC, dI)) (ci := 3) (v := .ref h0) (C := RX3) (T := TX3) (N := 2) hx hb hts (by decide +kernel) hown hK hP 0 rfl rfl 0 (by decide) (hts (.fieldLink RX3 12 "GlulxHeads" "file" "LGlulxHeads$StoryFile;") (by decide +kernel)) (fun _ h9 => h9) rfl dX3_fill_16 ?_
      refine lv_iload_n hx hb dX3_fill_19 rfl (lv_at hl 1 rfl) ?_
      have hPc := hP.sub (ws' := [(h0, .inr (2, [.ref b0, .int (nI len)])), (b0, .inl (cB, 3000, .inl f))]) [1, 2] rfl
      have hDc := hD.sub (ws' := [(h0, .inr (2, [.ref b0, .int (nI len)])), (b0, .inl (cB, 3000, .inl f))]) [1, 2] (by decide) rfl
      have hFc := va_free (wc := [(h0, .inr (2, [.ref b0, .int (nI len)])), (b0, .inl (cB, 3000, .inl f))]) hD hS hA [1, 2] rfl
      refine va_calli (va_runVN (As := [.int (nI n)]) (rest := []) ⟨hx, hb, hml, hown, hts⟩ (c_X2_hasRoomFor l dC dI cB cI cJ s.heap.size h0 b0 f len fb n hF (by first | omega | (split <;> omega))) ⟨va_cnB 1 hts gX3_fill_X2_hasRoomFor_n22 rfl rfl rfl (hN (.methodLinkNest RX3 22 yX2_hasRoomFor "GlulxHeads") (by decide +kernel)) (hts (.initialized RX2) (by decide +kernel)) (by decide +kernel) ⟨Nat.le_of_ble_eq_true rfl, Nat.le_of_ble_eq_true rfl⟩, hts (.instanceMethod yX2_hasRoomFor) (by decide +kernel), hts (.selects RX2 yX2_hasRoomFor yX2_hasRoomFor) (by decide +kernel)⟩ ⟨wBlind, va_recv hK hPc (ci := 2) (q0 := 0) rfl rfl, wGo hK hPc hDc hN⟩ rfl rfl hl.1 rfl (lv_room (Nat.le_of_ble_eq_true rfl)) dX3_fill_20 ⟨show 0 ≤ 0 by decide, show 0 ≤ 0 by decide⟩) hS (fun q _ h => hFc q h) hFc (fun r_4 u t H1 locs ht hvm w_5 hB hz1 hk1 hS => ?_)
      clear u
      obtain ⟨hP1, hD1⟩ := hB
      rw [ht] at hP1
      try dsimp only at w_5
      obtain ⟨hP, hD⟩ := va_join (wr := [(oG, .inr (3, [.ref h0, mv]))]) (w1 := [(h0, .inr (2, [.ref b0, .int (nI len)])), (b0, .inl (cB, 3000, .inl f))]) hP hD [1, 2] [0] rfl rfl (by decide) (by decide) hk1 hFc hP1 hD1
      clear hPc hDc hFc hP1 hD1 hz1 hk1 hvm
      generalize H1 = H at hP hS ⊢
      have hP : va_P (dC, dI) vwCl [(oG, .inr (3, [.ref h0, mv])), (h0, .inr (2, [.ref b0, .int (nI len)])), (b0, .inl (cB, 3000, .inl f))] H := hP
      have hD : va_D A [(oG, .inr (3, [.ref h0, mv])), (h0, .inr (2, [.ref b0, .int (nI len)])), (b0, .inl (cB, 3000, .inl f))] := hD
      subst w_5
      refine wx_if_ne (tgt := 29) hx hb dX3_fill_23 (by decide) (by first | omega | (split <;> omega)) (fun c_6 => ?_) (fun c_6 => ?_)
      · skip
        have c_6 := wz_pos c_6
        refine lv_iload_n hx hb dX3_fill_29 rfl (lv_at hl 2 rfl) ?_
        refine lv_istore_n (lv' := [(3, .int seed), (0, .ref oG), (1, .int (nI n)), (2, .int seed)]) hx hb dX3_fill_30 rfl hl (by decide) rfl (fun ls hl => ?_)
        refine lv_iconst (v := nI 0) hx hb dX3_fill_31 (by decide) ?_
        refine lv_istore (lv' := [(4, .int (nI 0)), (3, .int seed), (0, .ref oG), (1, .int (nI n)), (2, .int seed)]) hx hb dX3_fill_32 hl (by decide) rfl (fun ls hl => ?_)
        refine wx_loop (σ := Nat × (Nat → Int32)) (fun xq9 => n - xq9.1) (fun xq9 H locs ls => (xq9.1 ≤ n) ∧ (fOk xq9.2 (len + xq9.1) (fillX fb len xq9.1 seed)) ∧ va_P (dC, dI) vwCl [(oG, .inr (3, [.ref h0, mv])), (h0, .inr (2, [.ref b0, .int (nI (len + xq9.1))])), (b0, .inl (cB, 3000, .inl xq9.2))] H ∧ va_D A [(oG, .inr (3, [.ref h0, mv])), (h0, .inr (2, [.ref b0, .int (nI (len + xq9.1))])), (b0, .inl (cB, 3000, .inl xq9.2))] ∧ va_S A s.heap H locs ∧ lv_has ls 5 [(0, .ref oG), (1, .int (nI n)), (2, .int seed), (3, .int (fx seed xq9.1)), (4, .int (nI xq9.1))]) ?_ (0, f) _ _ _ ⟨by first | omega | (split <;> omega), (by rw [fill_0]; exact hF), hP.sub [0, 1, 2] rfl, hD.sub [0, 1, 2] (by decide) rfl, hS, lv_sub hl [2, 3, 4, 1, 0] rfl⟩
        rintro ⟨i, f3⟩ H locs ls ⟨hi, hg, hP, hD, hS, hl⟩ ih
        have hi : i ≤ n := hi
        have hg : fOk f3 (len + i) (fillX fb len i seed) := hg
        have hP : va_P (dC, dI) vwCl [(oG, .inr (3, [.ref h0, mv])), (h0, .inr (2, [.ref b0, .int (nI (len + i))])), (b0, .inl (cB, 3000, .inl f3))] H := hP
        have hD : va_D A [(oG, .inr (3, [.ref h0, mv])), (h0, .inr (2, [.ref b0, .int (nI (len + i))])), (b0, .inl (cB, 3000, .inl f3))] := hD
        have hl : lv_has ls 5 [(0, .ref oG), (1, .int (nI n)), (2, .int seed), (3, .int (fx seed i)), (4, .int (nI i))] := hl
        refine lv_iload hx hb dX3_fill_34 (lv_at hl 4 rfl) ?_
        refine lv_iload_n hx hb dX3_fill_36 rfl (lv_at hl 1 rfl) ?_
        refine wx_icmp_ge (tgt := 66) hx hb dX3_fill_37 (by decide) (by first | omega | (split <;> omega)) (by first | omega | (split <;> omega)) (fun c_7 => ?_) (fun c_7 => ?_)
        · skip
          refine lv_aload_n hx hb dX3_fill_66 rfl (lv_at hl 0 rfl) ?_
          refine va_get (D := (dC, dI)) (ci := 3) (v := .ref h0) (C := RX3) (T := TX3) (N := 2) hx hb hts (by decide +kernel) hown hK hP 0 rfl rfl 0 (by decide) (hts (.fieldLink RX3 12 "GlulxHeads" "file" "LGlulxHeads$StoryFile;") (by decide +kernel)) (fun _ h9 => h9) rfl dX3_fill_67 ?_
          refine va_getN (D := (dC, dI)) (ci := 2) (v := .int (nI (len + i))) (C := RX2) (T := TX2) (N := 2) hx hb hts (by decide +kernel) hown hK hP 1 rfl rfl 1 (by decide) (va_Nw.use rfl (hN (.fieldLinkNest RX3 30 "GlulxHeads$StoryFile" "length" "I" "GlulxHeads") (by decide +kernel))) (fun _ h9 => h9) rfl dX3_fill_70 ?_
          have hP9 := hP.sub (ws' := [(oG, .inr (3, [.ref h0, mv])), (h0, .inr (2, [.ref b0, .int (nI (len + i))])), (b0, .inl (cB, 3000, .inl f3))]) [0, 1, 2] rfl
          have hD9 := hD.sub (ws' := [(oG, .inr (3, [.ref h0, mv])), (h0, .inr (2, [.ref b0, .int (nI (len + i))])), (b0, .inl (cB, 3000, .inl f3))]) [0, 1, 2] (by decide) rfl
          exact W.iret (v := nI (len + i)) hx hb hr (fun t ht hW => ⟨⟨(nI (len + i)), (f3, (len + i)), rfl, ⟨by unfold fillR; rw [if_neg (by omega), if_pos (by omega), hnE]; exact congrArg nI (by omega), by unfold fillL; rw [if_pos (by omega)]; omega, by unfold fillB; rw [if_pos (by omega), hnE, Int.toNat_natCast, show n = i by omega]; exact hg⟩, by rw [ht]; exact hP9, hD9⟩, hS.F ht⟩) hS.2.2 dX3_fill_73
        · skip
          refine lv_iload_n hx hb dX3_fill_40 rfl (lv_at hl 3 rfl) ?_
          refine lv_ldc (v := nI 1103515245) hx hb hown (hts (.constant RX3 34 (1103515245)) (by decide +kernel)) dX3_fill_41 ?_
          refine lv_imul hx hb dX3_fill_43 ?_
          refine lv_sipush (v := nI 12345) hx hb dX3_fill_44 (by decide) ?_
          refine lv_iadd hx hb dX3_fill_47 ?_
          refine wx_top (show _ = fx seed (i + 1) from rfl) ?_
          refine lv_istore_n (lv' := [(3, .int (fx seed (i + 1))), (0, .ref oG), (1, .int (nI n)), (2, .int seed), (4, .int (nI i))]) hx hb dX3_fill_48 rfl hl (by decide) rfl (fun ls hl => ?_)
          refine lv_aload_n hx hb dX3_fill_49 rfl (lv_at hl 1 rfl) ?_
          refine va_get (D := (dC, dI)) (ci := 3) (v := .ref h0) (C := RX3) (T := TX3) (N := 2) hx hb hts (by decide +kernel) hown hK hP 0 rfl rfl 0 (by decide) (hts (.fieldLink RX3 12 "GlulxHeads" "file" "LGlulxHeads$StoryFile;") (by decide +kernel)) (fun _ h9 => h9) rfl dX3_fill_50 ?_
          refine lv_iload_n hx hb dX3_fill_53 rfl (lv_at hl 0 rfl) ?_
          refine lv_bipush (v := nI 16) hx hb dX3_fill_54 (by decide) ?_
          refine lv_iushr hx hb dX3_fill_56 rfl ?_
          have hPc := hP.sub (ws' := [(h0, .inr (2, [.ref b0, .int (nI (len + i))])), (b0, .inl (cB, 3000, .inl f3))]) [1, 2] rfl
          have hDc := hD.sub (ws' := [(h0, .inr (2, [.ref b0, .int (nI (len + i))])), (b0, .inl (cB, 3000, .inl f3))]) [1, 2] (by decide) rfl
          have hFc := va_free (wc := [(h0, .inr (2, [.ref b0, .int (nI (len + i))])), (b0, .inl (cB, 3000, .inl f3))]) hD hS hA [1, 2] rfl
          refine va_callv (va_runVN (As := [.int (((fx seed (i + 1)).toUInt32 >>> ((nI 16).toUInt32 &&& Int32.toUInt32 31)).toInt32)]) (rest := []) ⟨hx, hb, hml, hown, hts⟩ (c_X2_appendByte l dC dI cB cI cJ H.size h0 b0 f3 (len + i) (fillX fb len i seed) (((fx seed (i + 1)).toUInt32 >>> ((nI 16).toUInt32 &&& Int32.toUInt32 31)).toInt32) hg (by first | omega | (split <;> omega))) ⟨va_cnB 1 hts gX3_fill_X2_appendByte_n35 rfl rfl rfl (hN (.methodLinkNest RX3 35 yX2_appendByte "GlulxHeads") (by decide +kernel)) (hts (.initialized RX2) (by decide +kernel)) (by decide +kernel) ⟨Nat.le_of_ble_eq_true rfl, Nat.le_of_ble_eq_true rfl⟩, hts (.instanceMethod yX2_appendByte) (by decide +kernel), hts (.selects RX2 yX2_appendByte yX2_appendByte) (by decide +kernel)⟩ ⟨wBlind, va_recv hK hPc (ci := 2) (q0 := 0) rfl rfl, wGo hK hPc hDc hN⟩ rfl rfl hl.1 rfl (lv_room (Nat.le_of_ble_eq_true rfl)) dX3_fill_57 ⟨show 0 ≤ 0 by decide, show 0 ≤ 0 by decide⟩) hS (fun q _ h => hFc q h) hFc (fun u t H1 locs ht hvm w_10 hB hz1 hk1 hS => ?_)
          obtain ⟨f2_11, rfl⟩ : ∃ z, z = u := ⟨_, rfl⟩
          obtain ⟨hP1, hD1⟩ := hB
          rw [ht] at hP1
          try dsimp only at w_10
          obtain ⟨hP, hD⟩ := va_join (wr := [(oG, .inr (3, [.ref h0, mv]))]) (w1 := [(h0, .inr (2, [.ref b0, .int (nI ((len + i) + 1))])), (b0, .inl (cB, 3000, .inl f2_11))]) hP hD [1, 2] [0] rfl rfl (by decide) (by decide) hk1 hFc hP1 hD1
          clear hPc hDc hFc hP1 hD1 hz1 hk1 hvm
          generalize H1 = H at hP hS ⊢
          have hP : va_P (dC, dI) vwCl [(oG, .inr (3, [.ref h0, mv])), (h0, .inr (2, [.ref b0, .int (nI ((len + i) + 1))])), (b0, .inl (cB, 3000, .inl f2_11))] H := hP
          have hD : va_D A [(oG, .inr (3, [.ref h0, mv])), (h0, .inr (2, [.ref b0, .int (nI ((len + i) + 1))])), (b0, .inl (cB, 3000, .inl f2_11))] := hD
          rw [fill_s] at w_10
          refine lv_iinc (v := nI (i + 1)) (lv' := [(4, .int (nI (i + 1))), (3, .int (fx seed (i + 1))), (0, .ref oG), (1, .int (nI n)), (2, .int seed)]) hx hb dX3_fill_60 hl (k := 4) rfl (by rw [show Int32.ofInt 1 = nI 1 by decide]; exact nI_add _ _) (by decide) rfl (fun ls hl => ?_)
          refine lv_goto (tgt := 34) hx hb dX3_fill_63 (by decide) ?_
          exact ih ((i + 1), f2_11) _ _ _ (by omega) ⟨by first | omega | (split <;> omega), (by assumption), hP.sub [0, 1, 2] rfl, hD.sub [0, 1, 2] (by decide) rfl, hS, lv_sub hl [2, 3, 4, 1, 0] rfl⟩
      · skip
        have c_6 := wz_zero c_6
        refine lv_bipush (v := (-4)) hx hb dX3_fill_26 (by decide) ?_
        have hP9 := hP.sub (ws' := [(oG, .inr (3, [.ref h0, mv])), (h0, .inr (2, [.ref b0, .int (nI len)])), (b0, .inl (cB, 3000, .inl f))]) [0, 1, 2] rfl
        have hD9 := hD.sub (ws' := [(oG, .inr (3, [.ref h0, mv])), (h0, .inr (2, [.ref b0, .int (nI len)])), (b0, .inl (cB, 3000, .inl f))]) [0, 1, 2] (by decide) rfl
        exact W.iret (v := (-4)) hx hb hr (fun t ht hW => ⟨⟨(-4), (f, len), rfl, ⟨by unfold fillR; rw [if_neg (by omega), if_neg (by omega)], by unfold fillL; rw [if_neg (by omega)], by unfold fillB; rw [if_neg (by omega)]; exact hF⟩, by rw [ht]; exact hP9, hD9⟩, hS.F ht⟩) hS.2.2 dX3_fill_28
    · skip
      rw [Int32.le_iff_toInt_le, nI_toInt (n := 3000) (by first | omega | (split <;> omega))] at c_2
      refine lv_bipush (v := (-2)) hx hb dX3_fill_12 (by decide) ?_
      have hP9 := hP.sub (ws' := [(oG, .inr (3, [.ref h0, mv])), (h0, .inr (2, [.ref b0, .int (nI len)])), (b0, .inl (cB, 3000, .inl f))]) [0, 1, 2] rfl
      have hD9 := hD.sub (ws' := [(oG, .inr (3, [.ref h0, mv])), (h0, .inr (2, [.ref b0, .int (nI len)])), (b0, .inl (cB, 3000, .inl f))]) [0, 1, 2] (by decide) rfl
      exact W.iret (v := (-2)) hx hb hr (fun t ht hW => ⟨⟨(-2), (f, len), rfl, ⟨by unfold fillR; rw [if_pos (by omega)], by unfold fillL; rw [if_neg (by omega)], by unfold fillB; rw [if_neg (by omega)]; exact hF⟩, by rw [ht]; exact hP9, hD9⟩, hS.F ht⟩) hS.2.2 dX3_fill_14
set_option maxHeartbeats 4000000 in
set_option maxRecDepth 100000 in
theorem c_X3_word (l : Launch) (dC : Nat → ClassId) (dI : Nat → Nat → Nat) (cB cI cJ : ClassId) (sz : Nat) (oG : Nat) (mv : Value) (h0 : Nat) (b0 : Nat) (f : Nat → Int32) (len : Nat) (fb : Nat → Nat) (a : Int32) (v : Int32) (hF : fOk f len fb) : Met l yX3_word wsX3_word ({ frames := 2, cells := 0, slots := 0, locals := 44 }) (va_Pc [.ref oG, .int a, .int v] (wPre dC dI cB cI cJ sz [(oG, .inr (3, [.ref h0, mv])), (h0, .inr (2, [.ref b0, .int (nI len)])), (b0, .inl (cB, 3000, .inl f))])) (va_Qi (fun (r : Int32) (u : (Nat → Int32)) => r = wordR len a ∧ fOk u len (wordB fb len a v)) (fun (u : (Nat → Int32)) => wPost dC dI (va_A [(oG, .inr (3, [.ref h0, mv])), (h0, .inr (2, [.ref b0, .int (nI len)])), (b0, .inl (cB, 3000, .inl f))] sz) [(oG, .inr (3, [.ref h0, mv])), (h0, .inr (2, [.ref b0, .int (nI len)])), (b0, .inl (cB, 3000, .inl u))]) (va_A [(oG, .inr (3, [.ref h0, mv])), (h0, .inr (2, [.ref b0, .int (nI len)])), (b0, .inl (cB, 3000, .inl f))] sz)) 0 0 (va_A [(oG, .inr (3, [.ref h0, mv])), (h0, .inr (2, [.ref b0, .int (nI len)])), (b0, .inl (cB, 3000, .inl f))] sz) := by
  refine Met.ofW (cc := cX3_word) (maxL := 3) (ret := (some .int)) (by decide) rfl ?_
  intro p e s m args below meth c s₁ B hml hv
  obtain ⟨rfl, hsz, hP, hK, hD0, hN⟩ := hv
  have hx := B.exec
  have hb := B.bytes
  have hr := B.returns
  have hts := atoms_spec (ws := wsX3_word) B.pre
  have hown : s.vm.findClass RX3 = some m.cls := findClass_of_methodNamed B.named
  have hlocks := B.notSynchronized
  subst hsz
  have hD := hD0.self (sz := s.heap.size)
  generalize hAe : va_A [(oG, .inr (3, [.ref h0, mv])), (h0, .inr (2, [.ref b0, .int (nI len)])), (b0, .inl (cB, 3000, .inl f))] s.heap.size = A at hD ⊢
  have hA : ∀ q : Nat, s.heap.size ≤ q → A q := fun q h => by rw [← hAe]; exact Or.inr h
  have hS : va_S A s.heap s.heap [] := va_S.rf
  have hP : va_P (dC, dI) vwCl [(oG, .inr (3, [.ref h0, mv])), (h0, .inr (2, [.ref b0, .int (nI len)])), (b0, .inl (cB, 3000, .inl f))] s.heap := hP
  have hl := lv_entry ([.ref oG, .int a, .int v]) (n := 3) (Nat.le_of_ble_eq_true rfl)
  rw [lg_entry_eq]
  generalize (lg_sl ([.ref oG, .int a, .int v]) ++ List.replicate (3 - (lg_sl ([.ref oG, .int a, .int v])).length) Slot.unset).toArray = ls at hl ⊢
  have hl : lv_has ls 3 [(0, .ref oG), (1, .int a), (2, .int v)] := hl
  have hF1 := hF.1
  have hF2 := hF.2.1
  refine lv_aload_n hx hb dX3_word_0 rfl (lv_at hl 0 rfl) ?_
  refine va_get (D := (dC, dI)) (ci := 3) (v := .ref h0) (C := RX3) (T := TX3) (N := 2) hx hb hts (by decide +kernel) hown hK hP 0 rfl rfl 0 (by decide) (hts (.fieldLink RX3 12 "GlulxHeads" "file" "LGlulxHeads$StoryFile;") (by decide +kernel)) (fun _ h9 => h9) rfl dX3_word_1 ?_
  refine lv_iload_n hx hb dX3_word_4 rfl (lv_at hl 1 rfl) ?_
  have hPc := hP.sub (ws' := [(h0, .inr (2, [.ref b0, .int (nI len)])), (b0, .inl (cB, 3000, .inl f))]) [1, 2] rfl
  have hDc := hD.sub (ws' := [(h0, .inr (2, [.ref b0, .int (nI len)])), (b0, .inl (cB, 3000, .inl f))]) [1, 2] (by decide) rfl
  have hFc := va_free (wc := [(h0, .inr (2, [.ref b0, .int (nI len)])), (b0, .inl (cB, 3000, .inl f))]) hD hS hA [1, 2] rfl
  refine va_calli (va_runVN (As := [.int a]) (rest := []) ⟨hx, hb, hml, hown, hts⟩ (c_X2_hasWholeWord l dC dI cB cI cJ s.heap.size h0 b0 f len fb a hF) ⟨va_cnB 1 hts gX3_word_X2_hasWholeWord_n38 rfl rfl rfl (hN (.methodLinkNest RX3 38 yX2_hasWholeWord "GlulxHeads") (by decide +kernel)) (hts (.initialized RX2) (by decide +kernel)) (by decide +kernel) ⟨Nat.le_of_ble_eq_true rfl, Nat.le_of_ble_eq_true rfl⟩, hts (.instanceMethod yX2_hasWholeWord) (by decide +kernel), hts (.selects RX2 yX2_hasWholeWord yX2_hasWholeWord) (by decide +kernel)⟩ ⟨wBlind, va_recv hK hPc (ci := 2) (q0 := 0) rfl rfl, wGo hK hPc hDc hN⟩ rfl rfl hl.1 rfl (lv_room (Nat.le_of_ble_eq_true rfl)) dX3_word_5 ⟨show 0 ≤ 0 by decide, show 0 ≤ 0 by decide⟩) hS (fun q _ h => hFc q h) hFc (fun r_2 u t H1 locs ht hvm w_3 hB hz1 hk1 hS => ?_)
  clear u
  obtain ⟨hP1, hD1⟩ := hB
  rw [ht] at hP1
  try dsimp only at w_3
  obtain ⟨hP, hD⟩ := va_join (wr := [(oG, .inr (3, [.ref h0, mv]))]) (w1 := [(h0, .inr (2, [.ref b0, .int (nI len)])), (b0, .inl (cB, 3000, .inl f))]) hP hD [1, 2] [0] rfl rfl (by decide) (by decide) hk1 hFc hP1 hD1
  clear hPc hDc hFc hP1 hD1 hz1 hk1 hvm
  generalize H1 = H at hP hS ⊢
  have hP : va_P (dC, dI) vwCl [(oG, .inr (3, [.ref h0, mv])), (h0, .inr (2, [.ref b0, .int (nI len)])), (b0, .inl (cB, 3000, .inl f))] H := hP
  have hD : va_D A [(oG, .inr (3, [.ref h0, mv])), (h0, .inr (2, [.ref b0, .int (nI len)])), (b0, .inl (cB, 3000, .inl f))] := hD
  subst w_3
  refine wx_if_ne (tgt := 13) hx hb dX3_word_8 (by decide) (by first | omega | (split <;> omega)) (fun c_4 => ?_) (fun c_4 => ?_)
  · skip
    have c_4 := wz_pos c_4
    obtain ⟨j, hj, rfl⟩ : ∃ j : Nat, j < 2147483648 ∧ a = nI j := nI_of (by intro z; rw [Int32.lt_iff_toInt_lt, show (0 : Int32).toInt = 0 by decide] at z; omega)
    have hjE : (nI j).toInt = (j : Int) := nI_toInt hj
    refine lv_aload_n hx hb dX3_word_13 rfl (lv_at hl 0 rfl) ?_
    refine va_get (D := (dC, dI)) (ci := 3) (v := .ref h0) (C := RX3) (T := TX3) (N := 2) hx hb hts (by decide +kernel) hown hK hP 0 rfl rfl 0 (by decide) (hts (.fieldLink RX3 12 "GlulxHeads" "file" "LGlulxHeads$StoryFile;") (by decide +kernel)) (fun _ h9 => h9) rfl dX3_word_14 ?_
    refine lv_iload_n hx hb dX3_word_17 rfl (lv_at hl 1 rfl) ?_
    refine lv_iload_n hx hb dX3_word_18 rfl (lv_at hl 2 rfl) ?_
    have hPc := hP.sub (ws' := [(h0, .inr (2, [.ref b0, .int (nI len)])), (b0, .inl (cB, 3000, .inl f))]) [1, 2] rfl
    have hDc := hD.sub (ws' := [(h0, .inr (2, [.ref b0, .int (nI len)])), (b0, .inl (cB, 3000, .inl f))]) [1, 2] (by decide) rfl
    have hFc := va_free (wc := [(h0, .inr (2, [.ref b0, .int (nI len)])), (b0, .inl (cB, 3000, .inl f))]) hD hS hA [1, 2] rfl
    refine va_callv (va_runVN (As := [.int (nI j), .int v]) (rest := []) ⟨hx, hb, hml, hown, hts⟩ (c_X2_putWord l dC dI cB cI cJ H.size h0 b0 f len fb j v hF (by first | omega | (split <;> omega))) ⟨va_cnB 2 hts gX3_word_X2_putWord_n41 rfl rfl rfl (hN (.methodLinkNest RX3 41 yX2_putWord "GlulxHeads") (by decide +kernel)) (hts (.initialized RX2) (by decide +kernel)) (by decide +kernel) ⟨Nat.le_of_ble_eq_true rfl, Nat.le_of_ble_eq_true rfl⟩, hts (.instanceMethod yX2_putWord) (by decide +kernel), hts (.selects RX2 yX2_putWord yX2_putWord) (by decide +kernel)⟩ ⟨wBlind, va_recv hK hPc (ci := 2) (q0 := 0) rfl rfl, wGo hK hPc hDc hN⟩ rfl rfl hl.1 rfl (lv_room (Nat.le_of_ble_eq_true rfl)) dX3_word_19 ⟨show 0 ≤ 0 by decide, show 0 ≤ 0 by decide⟩) hS (fun q _ h => hFc q h) hFc (fun u t H1 locs ht hvm w_7 hB hz1 hk1 hS => ?_)
    obtain ⟨f2_8, rfl⟩ : ∃ z, z = u := ⟨_, rfl⟩
    obtain ⟨hP1, hD1⟩ := hB
    rw [ht] at hP1
    try dsimp only at w_7
    obtain ⟨hP, hD⟩ := va_join (wr := [(oG, .inr (3, [.ref h0, mv]))]) (w1 := [(h0, .inr (2, [.ref b0, .int (nI len)])), (b0, .inl (cB, 3000, .inl f2_8))]) hP hD [1, 2] [0] rfl rfl (by decide) (by decide) hk1 hFc hP1 hD1
    clear hPc hDc hFc hP1 hD1 hz1 hk1 hvm
    generalize H1 = H at hP hS ⊢
    have hP : va_P (dC, dI) vwCl [(oG, .inr (3, [.ref h0, mv])), (h0, .inr (2, [.ref b0, .int (nI len)])), (b0, .inl (cB, 3000, .inl f2_8))] H := hP
    have hD : va_D A [(oG, .inr (3, [.ref h0, mv])), (h0, .inr (2, [.ref b0, .int (nI len)])), (b0, .inl (cB, 3000, .inl f2_8))] := hD
    refine lv_iconst (v := nI 1) hx hb dX3_word_22 (by decide) ?_
    have hP9 := hP.sub (ws' := [(oG, .inr (3, [.ref h0, mv])), (h0, .inr (2, [.ref b0, .int (nI len)])), (b0, .inl (cB, 3000, .inl f2_8))]) [0, 1, 2] rfl
    have hD9 := hD.sub (ws' := [(oG, .inr (3, [.ref h0, mv])), (h0, .inr (2, [.ref b0, .int (nI len)])), (b0, .inl (cB, 3000, .inl f2_8))]) [0, 1, 2] (by decide) rfl
    exact W.iret (v := nI 1) hx hb hr (fun t ht hW => ⟨⟨(nI 1), (f2_8), rfl, ⟨by unfold wordR; rw [if_pos (by assumption)]; rfl, by unfold wordB; rw [if_pos (by assumption), hjE, Int.toNat_natCast]; exact w_7⟩, by rw [ht]; exact hP9, hD9⟩, hS.F ht⟩) hS.2.2 dX3_word_23
  · skip
    have c_4 := wz_zero c_4
    refine lv_iconst (v := (-1)) hx hb dX3_word_11 (by decide) ?_
    have hP9 := hP.sub (ws' := [(oG, .inr (3, [.ref h0, mv])), (h0, .inr (2, [.ref b0, .int (nI len)])), (b0, .inl (cB, 3000, .inl f))]) [0, 1, 2] rfl
    have hD9 := hD.sub (ws' := [(oG, .inr (3, [.ref h0, mv])), (h0, .inr (2, [.ref b0, .int (nI len)])), (b0, .inl (cB, 3000, .inl f))]) [0, 1, 2] (by decide) rfl
    exact W.iret (v := (-1)) hx hb hr (fun t ht hW => ⟨⟨(-1), (f), rfl, ⟨by unfold wordR; rw [if_neg (by assumption)], by unfold wordB; rw [if_neg (by assumption)]; exact hF⟩, by rw [ht]; exact hP9, hD9⟩, hS.F ht⟩) hS.2.2 dX3_word_12
set_option maxHeartbeats 4000000 in
set_option maxRecDepth 100000 in
theorem c_X3_cut (l : Launch) (dC : Nat → ClassId) (dI : Nat → Nat → Nat) (cB cI cJ : ClassId) (sz : Nat) (oG : Nat) (mv : Value) (h0 : Nat) (b0 : Nat) (f : Nat → Int32) (len : Nat) (fb : Nat → Nat) (nv : Int32) (hF : fOk f len fb) : Met l yX3_cut wsX3_cut ({ frames := 0, cells := 0, slots := 0, locals := 0 }) (va_Pc [.ref oG, .int nv] (wPre dC dI cB cI cJ sz [(oG, .inr (3, [.ref h0, mv])), (h0, .inr (2, [.ref b0, .int (nI len)])), (b0, .inl (cB, 3000, .inl f))])) (va_Qi (fun (r : Int32) (u : Nat) => r = cutR len nv ∧ u = cutL len nv ∧ fOk f u (cutB fb len nv)) (fun (u : Nat) => wPost dC dI (va_A [(oG, .inr (3, [.ref h0, mv])), (h0, .inr (2, [.ref b0, .int (nI len)])), (b0, .inl (cB, 3000, .inl f))] sz) [(oG, .inr (3, [.ref h0, mv])), (h0, .inr (2, [.ref b0, .int (nI u)])), (b0, .inl (cB, 3000, .inl f))]) (va_A [(oG, .inr (3, [.ref h0, mv])), (h0, .inr (2, [.ref b0, .int (nI len)])), (b0, .inl (cB, 3000, .inl f))] sz)) 0 0 (va_A [(oG, .inr (3, [.ref h0, mv])), (h0, .inr (2, [.ref b0, .int (nI len)])), (b0, .inl (cB, 3000, .inl f))] sz) := by
  refine Met.ofW (cc := cX3_cut) (maxL := 3) (ret := (some .int)) (by decide) rfl ?_
  intro p e s m args below meth c s₁ B hml hv
  obtain ⟨rfl, hsz, hP, hK, hD0, hN⟩ := hv
  have hx := B.exec
  have hb := B.bytes
  have hr := B.returns
  have hts := atoms_spec (ws := wsX3_cut) B.pre
  have hown : s.vm.findClass RX3 = some m.cls := findClass_of_methodNamed B.named
  have hlocks := B.notSynchronized
  subst hsz
  have hD := hD0.self (sz := s.heap.size)
  generalize hAe : va_A [(oG, .inr (3, [.ref h0, mv])), (h0, .inr (2, [.ref b0, .int (nI len)])), (b0, .inl (cB, 3000, .inl f))] s.heap.size = A at hD ⊢
  have hA : ∀ q : Nat, s.heap.size ≤ q → A q := fun q h => by rw [← hAe]; exact Or.inr h
  have hS : va_S A s.heap s.heap [] := va_S.rf
  have hP : va_P (dC, dI) vwCl [(oG, .inr (3, [.ref h0, mv])), (h0, .inr (2, [.ref b0, .int (nI len)])), (b0, .inl (cB, 3000, .inl f))] s.heap := hP
  have hl := lv_entry ([.ref oG, .int nv]) (n := 3) (Nat.le_of_ble_eq_true rfl)
  rw [lg_entry_eq]
  generalize (lg_sl ([.ref oG, .int nv]) ++ List.replicate (3 - (lg_sl ([.ref oG, .int nv])).length) Slot.unset).toArray = ls at hl ⊢
  have hl : lv_has ls 3 [(0, .ref oG), (1, .int nv)] := hl
  have hF1 := hF.1
  have hF2 := hF.2.1
  refine lv_iload_n hx hb dX3_cut_0 rfl (lv_at hl 1 rfl) ?_
  refine lv_if_lt (tgt := 15) hx hb dX3_cut_1 (by decide) (fun c_1 => ?_) (fun c_1 => ?_)
  · skip
    rw [Int32.lt_iff_toInt_lt, show (0 : Int32).toInt = 0 by decide] at c_1
    refine lv_iconst (v := (-1)) hx hb dX3_cut_15 (by decide) ?_
    have hP9 := hP.sub (ws' := [(oG, .inr (3, [.ref h0, mv])), (h0, .inr (2, [.ref b0, .int (nI len)])), (b0, .inl (cB, 3000, .inl f))]) [0, 1, 2] rfl
    have hD9 := hD.sub (ws' := [(oG, .inr (3, [.ref h0, mv])), (h0, .inr (2, [.ref b0, .int (nI len)])), (b0, .inl (cB, 3000, .inl f))]) [0, 1, 2] (by decide) rfl
    exact W.iret (v := (-1)) hx hb hr (fun t ht hW => ⟨⟨(-1), (len), rfl, ⟨by unfold cutR; rw [if_neg (by omega)], by unfold cutL; rw [if_neg (by omega)], by unfold cutB; rw [if_neg (by omega)]; exact hF⟩, by rw [ht]; exact hP9, hD9⟩, hS.F ht⟩) hS.2.2 dX3_cut_16
  · skip
    rw [Int32.lt_iff_toInt_lt, show (0 : Int32).toInt = 0 by decide] at c_1
    refine lv_iload_n hx hb dX3_cut_4 rfl (lv_at hl 1 rfl) ?_
    refine lv_aload_n hx hb dX3_cut_5 rfl (lv_at hl 0 rfl) ?_
    refine va_get (D := (dC, dI)) (ci := 3) (v := .ref h0) (C := RX3) (T := TX3) (N := 2) hx hb hts (by decide +kernel) hown hK hP 0 rfl rfl 0 (by decide) (hts (.fieldLink RX3 12 "GlulxHeads" "file" "LGlulxHeads$StoryFile;") (by decide +kernel)) (fun _ h9 => h9) rfl dX3_cut_6 ?_
    refine va_getN (D := (dC, dI)) (ci := 2) (v := .int (nI len)) (C := RX2) (T := TX2) (N := 2) hx hb hts (by decide +kernel) hown hK hP 1 rfl rfl 1 (by decide) (va_Nw.use rfl (hN (.fieldLinkNest RX3 30 "GlulxHeads$StoryFile" "length" "I" "GlulxHeads") (by decide +kernel))) (fun _ h9 => h9) rfl dX3_cut_9 ?_
    refine lv_icmp_le (tgt := 17) hx hb dX3_cut_12 (by decide) (fun c_2 => ?_) (fun c_2 => ?_)
    · skip
      rw [Int32.le_iff_toInt_le, nI_toInt (n := len) (by omega)] at c_2
      obtain ⟨n, hn, rfl⟩ : ∃ n : Nat, n < 2147483648 ∧ nv = nI n := nI_of (by intro z; rw [Int32.lt_iff_toInt_lt, show (0 : Int32).toInt = 0 by decide] at z; omega)
      have hnE : (nI n).toInt = (n : Int) := nI_toInt hn
      refine lv_aload_n hx hb dX3_cut_17 rfl (lv_at hl 0 rfl) ?_
      refine va_get (D := (dC, dI)) (ci := 3) (v := .ref h0) (C := RX3) (T := TX3) (N := 2) hx hb hts (by decide +kernel) hown hK hP 0 rfl rfl 0 (by decide) (hts (.fieldLink RX3 12 "GlulxHeads" "file" "LGlulxHeads$StoryFile;") (by decide +kernel)) (fun _ h9 => h9) rfl dX3_cut_18 ?_
      refine va_getN (D := (dC, dI)) (ci := 2) (v := .int (nI len)) (C := RX2) (T := TX2) (N := 2) hx hb hts (by decide +kernel) hown hK hP 1 rfl rfl 1 (by decide) (va_Nw.use rfl (hN (.fieldLinkNest RX3 30 "GlulxHeads$StoryFile" "length" "I" "GlulxHeads") (by decide +kernel))) (fun _ h9 => h9) rfl dX3_cut_21 ?_
      refine lv_iload_n hx hb dX3_cut_24 rfl (lv_at hl 1 rfl) ?_
      refine wx_isub hx hb dX3_cut_25 (by omega) ?_
      refine lv_istore_n (lv' := [(2, .int (nI (len - n))), (0, .ref oG), (1, .int (nI n))]) hx hb dX3_cut_26 rfl hl (by decide) rfl (fun ls hl => ?_)
      refine lv_aload_n hx hb dX3_cut_27 rfl (lv_at hl 1 rfl) ?_
      refine va_get (D := (dC, dI)) (ci := 3) (v := .ref h0) (C := RX3) (T := TX3) (N := 2) hx hb hts (by decide +kernel) hown hK hP 0 rfl rfl 0 (by decide) (hts (.fieldLink RX3 12 "GlulxHeads" "file" "LGlulxHeads$StoryFile;") (by decide +kernel)) (fun _ h9 => h9) rfl dX3_cut_28 ?_
      refine lv_iload_n hx hb dX3_cut_31 rfl (lv_at hl 2 rfl) ?_
      refine va_putN (D := (dC, dI)) (ci := 2) (v := .int (nI n)) (ty := .int) (C := RX2) (T := TX2) (N := 2) hx hb hts (by decide +kernel) tyX2 tyX2_ok nmX2 hown hK hP hD hS 1 rfl rfl 1 (by decide) (va_Nw.use rfl (hN (.fieldLinkNest RX3 30 "GlulxHeads$StoryFile" "length" "I" "GlulxHeads") (by decide +kernel))) (fun _ h9 => h9) rfl (by decide +kernel) rfl rfl (Nat.le_of_ble_eq_true rfl) dX3_cut_32 (fun H locs hP hD hS => ?_)
      have hP : va_P (dC, dI) vwCl [(oG, .inr (3, [.ref h0, mv])), (h0, .inr (2, [.ref b0, .int (nI n)])), (b0, .inl (cB, 3000, .inl f))] H := hP
      have hD : va_D A [(oG, .inr (3, [.ref h0, mv])), (h0, .inr (2, [.ref b0, .int (nI n)])), (b0, .inl (cB, 3000, .inl f))] := hD
      refine lv_iload_n hx hb dX3_cut_35 rfl (lv_at hl 0 rfl) ?_
      have hP9 := hP.sub (ws' := [(oG, .inr (3, [.ref h0, mv])), (h0, .inr (2, [.ref b0, .int (nI n)])), (b0, .inl (cB, 3000, .inl f))]) [0, 1, 2] rfl
      have hD9 := hD.sub (ws' := [(oG, .inr (3, [.ref h0, mv])), (h0, .inr (2, [.ref b0, .int (nI n)])), (b0, .inl (cB, 3000, .inl f))]) [0, 1, 2] (by decide) rfl
      exact W.iret (v := nI (len - n)) hx hb hr (fun t ht hW => ⟨⟨(nI (len - n)), (n), rfl, ⟨by unfold cutR; rw [if_pos (by omega), hnE, Int.toNat_natCast], by unfold cutL; rw [if_pos (by omega), hnE, Int.toNat_natCast], by unfold cutB; rw [if_pos (by omega), hnE, Int.toNat_natCast]; exact fOk_cut hF (by omega)⟩, by rw [ht]; exact hP9, hD9⟩, hS.F ht⟩) hS.2.2 dX3_cut_36
    · skip
      rw [Int32.le_iff_toInt_le, nI_toInt (n := len) (by omega)] at c_2
      refine lv_iconst (v := (-1)) hx hb dX3_cut_15 (by decide) ?_
      have hP9 := hP.sub (ws' := [(oG, .inr (3, [.ref h0, mv])), (h0, .inr (2, [.ref b0, .int (nI len)])), (b0, .inl (cB, 3000, .inl f))]) [0, 1, 2] rfl
      have hD9 := hD.sub (ws' := [(oG, .inr (3, [.ref h0, mv])), (h0, .inr (2, [.ref b0, .int (nI len)])), (b0, .inl (cB, 3000, .inl f))]) [0, 1, 2] (by decide) rfl
      exact W.iret (v := (-1)) hx hb hr (fun t ht hW => ⟨⟨(-1), (len), rfl, ⟨by unfold cutR; rw [if_neg (by omega)], by unfold cutL; rw [if_neg (by omega)], by unfold cutB; rw [if_neg (by omega)]; exact hF⟩, by rw [ht]; exact hP9, hD9⟩, hS.F ht⟩) hS.2.2 dX3_cut_16
set_option maxHeartbeats 4000000 in
set_option maxRecDepth 100000 in
theorem c_X3_verdict (l : Launch) (dC : Nat → ClassId) (dI : Nat → Nat → Nat) (cB cI cJ : ClassId) (sz : Nat) (oG : Nat) (mv : Value) (h0 : Nat) (b0 : Nat) (f : Nat → Int32) (len : Nat) (fb : Nat → Nat) (hF : fOk f len fb) : Met l yX3_verdict wsX3_verdict ({ frames := 4, cells := 0, slots := 0, locals := 92 }) (va_Pc [.ref oG] (wPre dC dI cB cI cJ sz [(oG, .inr (3, [.ref h0, mv])), (h0, .inr (2, [.ref b0, .int (nI len)])), (b0, .inl (cB, 3000, .inl f))])) (va_Qi (fun (r : Int32) (u : Unit) => r = nI (verd fb len)) (fun (u : Unit) => wPost dC dI (va_A [(oG, .inr (3, [.ref h0, mv])), (h0, .inr (2, [.ref b0, .int (nI len)])), (b0, .inl (cB, 3000, .inl f))] sz) [(oG, .inr (3, [.ref h0, mv])), (h0, .inr (2, [.ref b0, .int (nI len)])), (b0, .inl (cB, 3000, .inl f))]) (va_A [(oG, .inr (3, [.ref h0, mv])), (h0, .inr (2, [.ref b0, .int (nI len)])), (b0, .inl (cB, 3000, .inl f))] sz)) 0 0 (va_A [(oG, .inr (3, [.ref h0, mv])), (h0, .inr (2, [.ref b0, .int (nI len)])), (b0, .inl (cB, 3000, .inl f))] sz) := by
  refine Met.ofW (cc := cX3_verdict) (maxL := 1) (ret := (some .int)) (by decide) rfl ?_
  intro p e s m args below meth c s₁ B hml hv
  obtain ⟨rfl, hsz, hP, hK, hD0, hN⟩ := hv
  have hx := B.exec
  have hb := B.bytes
  have hr := B.returns
  have hts := atoms_spec (ws := wsX3_verdict) B.pre
  have hown : s.vm.findClass RX3 = some m.cls := findClass_of_methodNamed B.named
  have hlocks := B.notSynchronized
  subst hsz
  have hD := hD0.self (sz := s.heap.size)
  generalize hAe : va_A [(oG, .inr (3, [.ref h0, mv])), (h0, .inr (2, [.ref b0, .int (nI len)])), (b0, .inl (cB, 3000, .inl f))] s.heap.size = A at hD ⊢
  have hA : ∀ q : Nat, s.heap.size ≤ q → A q := fun q h => by rw [← hAe]; exact Or.inr h
  have hS : va_S A s.heap s.heap [] := va_S.rf
  have hP : va_P (dC, dI) vwCl [(oG, .inr (3, [.ref h0, mv])), (h0, .inr (2, [.ref b0, .int (nI len)])), (b0, .inl (cB, 3000, .inl f))] s.heap := hP
  have hl := lv_entry ([.ref oG]) (n := 1) (Nat.le_of_ble_eq_true rfl)
  rw [lg_entry_eq]
  generalize (lg_sl ([.ref oG]) ++ List.replicate (1 - (lg_sl ([.ref oG])).length) Slot.unset).toArray = ls at hl ⊢
  have hl : lv_has ls 1 [(0, .ref oG)] := hl
  refine lv_aload_n hx hb dX3_verdict_0 rfl (lv_at hl 0 rfl) ?_
  refine va_get (D := (dC, dI)) (ci := 3) (v := .ref h0) (C := RX3) (T := TX3) (N := 2) hx hb hts (by decide +kernel) hown hK hP 0 rfl rfl 0 (by decide) (hts (.fieldLink RX3 12 "GlulxHeads" "file" "LGlulxHeads$StoryFile;") (by decide +kernel)) (fun _ h9 => h9) rfl dX3_verdict_1 ?_
  have hPc := hP.sub (ws' := [(h0, .inr (2, [.ref b0, .int (nI len)])), (b0, .inl (cB, 3000, .inl f))]) [1, 2] rfl
  have hDc := hD.sub (ws' := [(h0, .inr (2, [.ref b0, .int (nI len)])), (b0, .inl (cB, 3000, .inl f))]) [1, 2] (by decide) rfl
  have hFc := va_free (wc := [(h0, .inr (2, [.ref b0, .int (nI len)])), (b0, .inl (cB, 3000, .inl f))]) hD hS hA [1, 2] rfl
  refine va_calli (va_runVN (As := []) (rest := []) ⟨hx, hb, hml, hown, hts⟩ (c_X2_judge l dC dI cB cI cJ s.heap.size h0 b0 f len fb hF) ⟨va_cnB 0 hts gX3_verdict_X2_judge_n45 rfl rfl rfl (hN (.methodLinkNest RX3 45 yX2_judge "GlulxHeads") (by decide +kernel)) (hts (.initialized RX2) (by decide +kernel)) (by decide +kernel) ⟨Nat.le_of_ble_eq_true rfl, Nat.le_of_ble_eq_true rfl⟩, hts (.instanceMethod yX2_judge) (by decide +kernel), hts (.selects RX2 yX2_judge yX2_judge) (by decide +kernel)⟩ ⟨wBlind, va_recv hK hPc (ci := 2) (q0 := 0) rfl rfl, wGo hK hPc hDc hN⟩ rfl rfl hl.1 rfl (lv_room (Nat.le_of_ble_eq_true rfl)) dX3_verdict_4 ⟨show 0 ≤ 0 by decide, show 0 ≤ 0 by decide⟩) hS (fun q _ h => hFc q h) hFc (fun r_2 u t H1 locs ht hvm w_3 hB hz1 hk1 hS => ?_)
  clear u
  obtain ⟨hP1, hD1⟩ := hB
  rw [ht] at hP1
  try dsimp only at w_3
  obtain ⟨hP, hD⟩ := va_join (wr := [(oG, .inr (3, [.ref h0, mv]))]) (w1 := [(h0, .inr (2, [.ref b0, .int (nI len)])), (b0, .inl (cB, 3000, .inl f))]) hP hD [1, 2] [0] rfl rfl (by decide) (by decide) hk1 hFc hP1 hD1
  clear hPc hDc hFc hP1 hD1 hz1 hk1 hvm
  generalize H1 = H at hP hS ⊢
  have hP : va_P (dC, dI) vwCl [(oG, .inr (3, [.ref h0, mv])), (h0, .inr (2, [.ref b0, .int (nI len)])), (b0, .inl (cB, 3000, .inl f))] H := hP
  have hD : va_D A [(oG, .inr (3, [.ref h0, mv])), (h0, .inr (2, [.ref b0, .int (nI len)])), (b0, .inl (cB, 3000, .inl f))] := hD
  have hP9 := hP.sub (ws' := [(oG, .inr (3, [.ref h0, mv])), (h0, .inr (2, [.ref b0, .int (nI len)])), (b0, .inl (cB, 3000, .inl f))]) [0, 1, 2] rfl
  have hD9 := hD.sub (ws' := [(oG, .inr (3, [.ref h0, mv])), (h0, .inr (2, [.ref b0, .int (nI len)])), (b0, .inl (cB, 3000, .inl f))]) [0, 1, 2] (by decide) rfl
  exact W.iret (v := r_2) hx hb hr (fun t ht hW => ⟨⟨r_2, (), rfl, w_3, by rw [ht]; exact hP9, hD9⟩, hS.F ht⟩) hS.2.2 dX3_verdict_7
set_option maxHeartbeats 4000000 in
set_option maxRecDepth 100000 in
theorem c_X3_sum (l : Launch) (dC : Nat → ClassId) (dI : Nat → Nat → Nat) (cB cI cJ : ClassId) (sz : Nat) (oG : Nat) (mv : Value) (h0 : Nat) (b0 : Nat) (f : Nat → Int32) (len : Nat) (fb : Nat → Nat) (hF : fOk f len fb) : Met l yX3_sum wsX3_sum ({ frames := 3, cells := 0, slots := 0, locals := 66 }) (va_Pc [.ref oG] (wPre dC dI cB cI cJ sz [(oG, .inr (3, [.ref h0, mv])), (h0, .inr (2, [.ref b0, .int (nI len)])), (b0, .inl (cB, 3000, .inl f))])) (va_Ql (fun (r : Int64) (u : Unit) => r = sumR fb len) (fun (u : Unit) => wPost dC dI (va_A [(oG, .inr (3, [.ref h0, mv])), (h0, .inr (2, [.ref b0, .int (nI len)])), (b0, .inl (cB, 3000, .inl f))] sz) [(oG, .inr (3, [.ref h0, mv])), (h0, .inr (2, [.ref b0, .int (nI len)])), (b0, .inl (cB, 3000, .inl f))]) (va_A [(oG, .inr (3, [.ref h0, mv])), (h0, .inr (2, [.ref b0, .int (nI len)])), (b0, .inl (cB, 3000, .inl f))] sz)) 0 0 (va_A [(oG, .inr (3, [.ref h0, mv])), (h0, .inr (2, [.ref b0, .int (nI len)])), (b0, .inl (cB, 3000, .inl f))] sz) := by
  refine Met.ofW (cc := cX3_sum) (maxL := 1) (ret := (some .long)) (by decide) rfl ?_
  intro p e s m args below meth c s₁ B hml hv
  obtain ⟨rfl, hsz, hP, hK, hD0, hN⟩ := hv
  have hx := B.exec
  have hb := B.bytes
  have hr := B.returns
  have hts := atoms_spec (ws := wsX3_sum) B.pre
  have hown : s.vm.findClass RX3 = some m.cls := findClass_of_methodNamed B.named
  have hlocks := B.notSynchronized
  subst hsz
  have hD := hD0.self (sz := s.heap.size)
  generalize hAe : va_A [(oG, .inr (3, [.ref h0, mv])), (h0, .inr (2, [.ref b0, .int (nI len)])), (b0, .inl (cB, 3000, .inl f))] s.heap.size = A at hD ⊢
  have hA : ∀ q : Nat, s.heap.size ≤ q → A q := fun q h => by rw [← hAe]; exact Or.inr h
  have hS : va_S A s.heap s.heap [] := va_S.rf
  have hP : va_P (dC, dI) vwCl [(oG, .inr (3, [.ref h0, mv])), (h0, .inr (2, [.ref b0, .int (nI len)])), (b0, .inl (cB, 3000, .inl f))] s.heap := hP
  have hl := lv_entry ([.ref oG]) (n := 1) (Nat.le_of_ble_eq_true rfl)
  rw [lg_entry_eq]
  generalize (lg_sl ([.ref oG]) ++ List.replicate (1 - (lg_sl ([.ref oG])).length) Slot.unset).toArray = ls at hl ⊢
  have hl : lv_has ls 1 [(0, .ref oG)] := hl
  have hF1 := hF.1
  have hF2 := hF.2.1
  refine lv_aload_n hx hb dX3_sum_0 rfl (lv_at hl 0 rfl) ?_
  refine va_get (D := (dC, dI)) (ci := 3) (v := .ref h0) (C := RX3) (T := TX3) (N := 2) hx hb hts (by decide +kernel) hown hK hP 0 rfl rfl 0 (by decide) (hts (.fieldLink RX3 12 "GlulxHeads" "file" "LGlulxHeads$StoryFile;") (by decide +kernel)) (fun _ h9 => h9) rfl dX3_sum_1 ?_
  refine va_getN (D := (dC, dI)) (ci := 2) (v := .int (nI len)) (C := RX2) (T := TX2) (N := 2) hx hb hts (by decide +kernel) hown hK hP 1 rfl rfl 1 (by decide) (va_Nw.use rfl (hN (.fieldLinkNest RX3 30 "GlulxHeads$StoryFile" "length" "I" "GlulxHeads") (by decide +kernel))) (fun _ h9 => h9) rfl dX3_sum_4 ?_
  refine lv_bipush (v := nI 36) hx hb dX3_sum_7 (by decide) ?_
  refine wx_icmp_ge (tgt := 18) hx hb dX3_sum_9 (by decide) (by omega) (by omega) (fun c_1 => ?_) (fun c_1 => ?_)
  · skip
    refine lv_aload_n hx hb dX3_sum_18 rfl (lv_at hl 0 rfl) ?_
    refine va_get (D := (dC, dI)) (ci := 3) (v := .ref h0) (C := RX3) (T := TX3) (N := 2) hx hb hts (by decide +kernel) hown hK hP 0 rfl rfl 0 (by decide) (hts (.fieldLink RX3 12 "GlulxHeads" "file" "LGlulxHeads$StoryFile;") (by decide +kernel)) (fun _ h9 => h9) rfl dX3_sum_19 ?_
    have hPc := hP.sub (ws' := [(h0, .inr (2, [.ref b0, .int (nI len)])), (b0, .inl (cB, 3000, .inl f))]) [1, 2] rfl
    have hDc := hD.sub (ws' := [(h0, .inr (2, [.ref b0, .int (nI len)])), (b0, .inl (cB, 3000, .inl f))]) [1, 2] (by decide) rfl
    have hFc := va_free (wc := [(h0, .inr (2, [.ref b0, .int (nI len)])), (b0, .inl (cB, 3000, .inl f))]) hD hS hA [1, 2] rfl
    refine va_calll (va_runVN (As := []) (rest := []) ⟨hx, hb, hml, hown, hts⟩ (c_X2_rightSum l dC dI cB cI cJ s.heap.size h0 b0 f len fb hF) ⟨va_cnB 0 hts gX3_sum_X2_rightSum_n51 rfl rfl rfl (hN (.methodLinkNest RX3 51 yX2_rightSum "GlulxHeads") (by decide +kernel)) (hts (.initialized RX2) (by decide +kernel)) (by decide +kernel) ⟨Nat.le_of_ble_eq_true rfl, Nat.le_of_ble_eq_true rfl⟩, hts (.instanceMethod yX2_rightSum) (by decide +kernel), hts (.selects RX2 yX2_rightSum yX2_rightSum) (by decide +kernel)⟩ ⟨wBlind, va_recv hK hPc (ci := 2) (q0 := 0) rfl rfl, wGo hK hPc hDc hN⟩ rfl rfl hl.1 rfl (lv_room (Nat.le_of_ble_eq_true rfl)) dX3_sum_22 ⟨show 0 ≤ 0 by decide, show 0 ≤ 0 by decide⟩) hS (fun q _ h => hFc q h) hFc (fun r_3 u t H1 locs ht hvm w_4 hB hz1 hk1 hS => ?_)
    clear u
    obtain ⟨hP1, hD1⟩ := hB
    rw [ht] at hP1
    try dsimp only at w_4
    obtain ⟨hP, hD⟩ := va_join (wr := [(oG, .inr (3, [.ref h0, mv]))]) (w1 := [(h0, .inr (2, [.ref b0, .int (nI len)])), (b0, .inl (cB, 3000, .inl f))]) hP hD [1, 2] [0] rfl rfl (by decide) (by decide) hk1 hFc hP1 hD1
    clear hPc hDc hFc hP1 hD1 hz1 hk1 hvm
    generalize H1 = H at hP hS ⊢
    have hP : va_P (dC, dI) vwCl [(oG, .inr (3, [.ref h0, mv])), (h0, .inr (2, [.ref b0, .int (nI len)])), (b0, .inl (cB, 3000, .inl f))] H := hP
    have hD : va_D A [(oG, .inr (3, [.ref h0, mv])), (h0, .inr (2, [.ref b0, .int (nI len)])), (b0, .inl (cB, 3000, .inl f))] := hD
    have hP9 := hP.sub (ws' := [(oG, .inr (3, [.ref h0, mv])), (h0, .inr (2, [.ref b0, .int (nI len)])), (b0, .inl (cB, 3000, .inl f))]) [0, 1, 2] rfl
    have hD9 := hD.sub (ws' := [(oG, .inr (3, [.ref h0, mv])), (h0, .inr (2, [.ref b0, .int (nI len)])), (b0, .inl (cB, 3000, .inl f))]) [0, 1, 2] (by decide) rfl
    exact W.lret (v := r_3) hx hb hr (fun t ht hW => ⟨⟨r_3, (), rfl, (by unfold sumR; rw [if_neg (by omega)]; exact w_4), by rw [ht]; exact hP9, hD9⟩, hS.F ht⟩) hS.2.2 dX3_sum_25
  · skip
    refine lv_ldc2 (v := (-9223372036854775808)) hx hb hown (hts (.constantLong RX3 49 (-9223372036854775808)) (by decide +kernel)) dX3_sum_12 ?_
    refine lv_goto (tgt := 25) hx hb dX3_sum_15 (by decide) ?_
    have hP9 := hP.sub (ws' := [(oG, .inr (3, [.ref h0, mv])), (h0, .inr (2, [.ref b0, .int (nI len)])), (b0, .inl (cB, 3000, .inl f))]) [0, 1, 2] rfl
    have hD9 := hD.sub (ws' := [(oG, .inr (3, [.ref h0, mv])), (h0, .inr (2, [.ref b0, .int (nI len)])), (b0, .inl (cB, 3000, .inl f))]) [0, 1, 2] (by decide) rfl
    exact W.lret (v := (-9223372036854775808)) hx hb hr (fun t ht hW => ⟨⟨(-9223372036854775808), (), rfl, (by unfold sumR; rw [if_pos (by omega)]), by rw [ht]; exact hP9, hD9⟩, hS.F ht⟩) hS.2.2 dX3_sum_25
set_option maxHeartbeats 4000000 in
set_option maxRecDepth 100000 in
theorem c_X3_isWidth (l : Launch) (dC : Nat → ClassId) (dI : Nat → Nat → Nat) (cB cI cJ : ClassId) (sz : Nat) (wv : Int32)  : Met l yX3_isWidth wsX3_isWidth ({ frames := 0, cells := 0, slots := 0, locals := 0 }) (va_Pc [.int wv] (wPre dC dI cB cI cJ sz [])) (va_Qi (fun (r : Int32) (u : Unit) => r = nI (if isW wv then 1 else 0)) (fun (u : Unit) => wPost dC dI (va_A [] sz) []) (va_A [] sz)) 0 0 (va_A [] sz) := by
  refine Met.ofW (cc := cX3_isWidth) (maxL := 1) (ret := (some .boolean)) (by decide) rfl ?_
  intro p e s m args below meth c s₁ B hml hv
  obtain ⟨rfl, hsz, hP, hK, hD0, hN⟩ := hv
  have hx := B.exec
  have hb := B.bytes
  have hr := B.returns
  have hts := atoms_spec (ws := wsX3_isWidth) B.pre
  have hown : s.vm.findClass RX3 = some m.cls := findClass_of_methodNamed B.named
  have hlocks := B.notSynchronized
  subst hsz
  have hD := hD0.self (sz := s.heap.size)
  generalize hAe : va_A [] s.heap.size = A at hD ⊢
  have hA : ∀ q : Nat, s.heap.size ≤ q → A q := fun q h => by rw [← hAe]; exact Or.inr h
  have hS : va_S A s.heap s.heap [] := va_S.rf
  have hP : va_P (dC, dI) vwCl [] s.heap := hP
  have hl := lv_entry ([.int wv]) (n := 1) (Nat.le_of_ble_eq_true rfl)
  rw [lg_entry_eq]
  generalize (lg_sl ([.int wv]) ++ List.replicate (1 - (lg_sl ([.int wv])).length) Slot.unset).toArray = ls at hl ⊢
  have hl : lv_has ls 1 [(0, .int wv)] := hl
  refine lv_iload_n hx hb dX3_isWidth_0 rfl (lv_at hl 0 rfl) ?_
  refine lv_iconst (v := nI 1) hx hb dX3_isWidth_1 (by decide) ?_
  refine lv_icmp_eq (tgt := 15) hx hb dX3_isWidth_2 (by decide) (fun c_1 => ?_) (fun c_1 => ?_)
  · skip
    rw [← Int32.toInt_inj, nI_toInt (n := 1) (by omega)] at c_1
    refine lv_iconst (v := nI 1) hx hb dX3_isWidth_15 (by decide) ?_
    refine lv_goto (tgt := 20) hx hb dX3_isWidth_16 (by decide) ?_
    have hP9 := hP.sub (ws' := []) [] rfl
    have hD9 := hD.sub (ws' := []) [] (by decide) rfl
    exact W.zret (v := nI 1) hx hb hr (by first | rfl | decide) (fun t ht hW => ⟨⟨(nI 1), (), rfl, by rw [if_pos (by omega)], by rw [ht]; exact hP9, hD9⟩, hS.F ht⟩) hS.2.2 dX3_isWidth_20
  · skip
    rw [← Int32.toInt_inj, nI_toInt (n := 1) (by omega)] at c_1
    refine lv_iload_n hx hb dX3_isWidth_5 rfl (lv_at hl 0 rfl) ?_
    refine lv_iconst (v := nI 2) hx hb dX3_isWidth_6 (by decide) ?_
    refine lv_icmp_eq (tgt := 15) hx hb dX3_isWidth_7 (by decide) (fun c_2 => ?_) (fun c_2 => ?_)
    · skip
      rw [← Int32.toInt_inj, nI_toInt (n := 2) (by omega)] at c_2
      refine lv_iconst (v := nI 1) hx hb dX3_isWidth_15 (by decide) ?_
      refine lv_goto (tgt := 20) hx hb dX3_isWidth_16 (by decide) ?_
      have hP9 := hP.sub (ws' := []) [] rfl
      have hD9 := hD.sub (ws' := []) [] (by decide) rfl
      exact W.zret (v := nI 1) hx hb hr (by first | rfl | decide) (fun t ht hW => ⟨⟨(nI 1), (), rfl, by rw [if_pos (by omega)], by rw [ht]; exact hP9, hD9⟩, hS.F ht⟩) hS.2.2 dX3_isWidth_20
    · skip
      rw [← Int32.toInt_inj, nI_toInt (n := 2) (by omega)] at c_2
      refine lv_iload_n hx hb dX3_isWidth_10 rfl (lv_at hl 0 rfl) ?_
      refine lv_iconst (v := nI 4) hx hb dX3_isWidth_11 (by decide) ?_
      refine lv_icmp_ne (tgt := 19) hx hb dX3_isWidth_12 (by decide) (fun c_3 => ?_) (fun c_3 => ?_)
      · skip
        rw [← Int32.toInt_inj, nI_toInt (n := 4) (by omega)] at c_3
        refine lv_iconst (v := nI 0) hx hb dX3_isWidth_19 (by decide) ?_
        have hP9 := hP.sub (ws' := []) [] rfl
        have hD9 := hD.sub (ws' := []) [] (by decide) rfl
        exact W.zret (v := nI 0) hx hb hr (by first | rfl | decide) (fun t ht hW => ⟨⟨(nI 0), (), rfl, by rw [if_neg (by omega)], by rw [ht]; exact hP9, hD9⟩, hS.F ht⟩) hS.2.2 dX3_isWidth_20
      · skip
        rw [← Int32.toInt_inj, nI_toInt (n := 4) (by omega)] at c_3
        refine lv_iconst (v := nI 1) hx hb dX3_isWidth_15 (by decide) ?_
        refine lv_goto (tgt := 20) hx hb dX3_isWidth_16 (by decide) ?_
        have hP9 := hP.sub (ws' := []) [] rfl
        have hD9 := hD.sub (ws' := []) [] (by decide) rfl
        exact W.zret (v := nI 1) hx hb hr (by first | rfl | decide) (fun t ht hW => ⟨⟨(nI 1), (), rfl, by rw [if_pos (by omega)], by rw [ht]; exact hP9, hD9⟩, hS.F ht⟩) hS.2.2 dX3_isWidth_20
set_option maxHeartbeats 4000000 in
set_option maxRecDepth 100000 in
theorem c_X3_told_N (l : Launch) (dC : Nat → ClassId) (dI : Nat → Nat → Nat) (cB cI cJ : ClassId) (sz : Nat) (oG : Nat) (h0 : Nat) (wv : Int32)  : Met l yX3_told wsX3_told ({ frames := 2, cells := 0, slots := 0, locals := 46 }) (va_Pc [.ref oG, .int wv] (wPre dC dI cB cI cJ sz [(oG, .inr (3, [.ref h0, .null]))])) (va_Ql (fun (r : Int64) (u : Unit) => r = NOTH) (fun (u : Unit) => wPost dC dI (va_A [(oG, .inr (3, [.ref h0, .null]))] sz) [(oG, .inr (3, [.ref h0, .null]))]) (va_A [(oG, .inr (3, [.ref h0, .null]))] sz)) 0 0 (va_A [(oG, .inr (3, [.ref h0, .null]))] sz) := by
  refine Met.ofW (cc := cX3_told) (maxL := 2) (ret := (some .long)) (by decide) rfl ?_
  intro p e s m args below meth c s₁ B hml hv
  obtain ⟨rfl, hsz, hP, hK, hD0, hN⟩ := hv
  have hx := B.exec
  have hb := B.bytes
  have hr := B.returns
  have hts := atoms_spec (ws := wsX3_told) B.pre
  have hown : s.vm.findClass RX3 = some m.cls := findClass_of_methodNamed B.named
  have hlocks := B.notSynchronized
  subst hsz
  have hD := hD0.self (sz := s.heap.size)
  generalize hAe : va_A [(oG, .inr (3, [.ref h0, .null]))] s.heap.size = A at hD ⊢
  have hA : ∀ q : Nat, s.heap.size ≤ q → A q := fun q h => by rw [← hAe]; exact Or.inr h
  have hS : va_S A s.heap s.heap [] := va_S.rf
  have hP : va_P (dC, dI) vwCl [(oG, .inr (3, [.ref h0, .null]))] s.heap := hP
  have hl := lv_entry ([.ref oG, .int wv]) (n := 2) (Nat.le_of_ble_eq_true rfl)
  rw [lg_entry_eq]
  generalize (lg_sl ([.ref oG, .int wv]) ++ List.replicate (2 - (lg_sl ([.ref oG, .int wv])).length) Slot.unset).toArray = ls at hl ⊢
  have hl : lv_has ls 2 [(0, .ref oG), (1, .int wv)] := hl
  refine lv_aload_n hx hb dX3_told_0 rfl (lv_at hl 0 rfl) ?_
  refine va_get (D := (dC, dI)) (ci := 3) (v := .null) (C := RX3) (T := TX3) (N := 2) hx hb hts (by decide +kernel) hown hK hP 0 rfl rfl 1 (by decide) (hts (.fieldLink RX3 18 "GlulxHeads" "machine" "LGlulxHeads$Machine;") (by decide +kernel)) (fun _ h9 => h9) rfl dX3_told_1 ?_
  refine lv_ifnullN (tgt := 17) hx hb dX3_told_4 (by decide) ?_
  refine lv_ldc2 (v := (-9223372036854775808)) hx hb hown (hts (.constantLong RX3 49 (-9223372036854775808)) (by decide +kernel)) dX3_told_17 ?_
  have hP9 := hP.sub (ws' := [(oG, .inr (3, [.ref h0, .null]))]) [0] rfl
  have hD9 := hD.sub (ws' := [(oG, .inr (3, [.ref h0, .null]))]) [0] (by decide) rfl
  exact W.lret (v := (-9223372036854775808)) hx hb hr (fun t ht hW => ⟨⟨(-9223372036854775808), (), rfl, rfl, by rw [ht]; exact hP9, hD9⟩, hS.F ht⟩) hS.2.2 dX3_told_20
set_option maxHeartbeats 4000000 in
set_option maxRecDepth 100000 in
theorem c_X3_read_N (l : Launch) (dC : Nat → ClassId) (dI : Nat → Nat → Nat) (cB cI cJ : ClassId) (sz : Nat) (oG : Nat) (h0 : Nat) (wv : Int32) (av : Int32)  : Met l yX3_read wsX3_read ({ frames := 2, cells := 0, slots := 0, locals := 46 }) (va_Pc [.ref oG, .int wv, .int av] (wPre dC dI cB cI cJ sz [(oG, .inr (3, [.ref h0, .null]))])) (va_Ql (fun (r : Int64) (u : Unit) => r = NOTH) (fun (u : Unit) => wPost dC dI (va_A [(oG, .inr (3, [.ref h0, .null]))] sz) [(oG, .inr (3, [.ref h0, .null]))]) (va_A [(oG, .inr (3, [.ref h0, .null]))] sz)) 0 0 (va_A [(oG, .inr (3, [.ref h0, .null]))] sz) := by
  refine Met.ofW (cc := cX3_read) (maxL := 3) (ret := (some .long)) (by decide) rfl ?_
  intro p e s m args below meth c s₁ B hml hv
  obtain ⟨rfl, hsz, hP, hK, hD0, hN⟩ := hv
  have hx := B.exec
  have hb := B.bytes
  have hr := B.returns
  have hts := atoms_spec (ws := wsX3_read) B.pre
  have hown : s.vm.findClass RX3 = some m.cls := findClass_of_methodNamed B.named
  have hlocks := B.notSynchronized
  subst hsz
  have hD := hD0.self (sz := s.heap.size)
  generalize hAe : va_A [(oG, .inr (3, [.ref h0, .null]))] s.heap.size = A at hD ⊢
  have hA : ∀ q : Nat, s.heap.size ≤ q → A q := fun q h => by rw [← hAe]; exact Or.inr h
  have hS : va_S A s.heap s.heap [] := va_S.rf
  have hP : va_P (dC, dI) vwCl [(oG, .inr (3, [.ref h0, .null]))] s.heap := hP
  have hl := lv_entry ([.ref oG, .int wv, .int av]) (n := 3) (Nat.le_of_ble_eq_true rfl)
  rw [lg_entry_eq]
  generalize (lg_sl ([.ref oG, .int wv, .int av]) ++ List.replicate (3 - (lg_sl ([.ref oG, .int wv, .int av])).length) Slot.unset).toArray = ls at hl ⊢
  have hl : lv_has ls 3 [(0, .ref oG), (1, .int wv), (2, .int av)] := hl
  refine lv_aload_n hx hb dX3_read_0 rfl (lv_at hl 0 rfl) ?_
  refine va_get (D := (dC, dI)) (ci := 3) (v := .null) (C := RX3) (T := TX3) (N := 2) hx hb hts (by decide +kernel) hown hK hP 0 rfl rfl 1 (by decide) (hts (.fieldLink RX3 18 "GlulxHeads" "machine" "LGlulxHeads$Machine;") (by decide +kernel)) (fun _ h9 => h9) rfl dX3_read_1 ?_
  refine lv_ifnullN (tgt := 14) hx hb dX3_read_4 (by decide) ?_
  refine lv_ldc2 (v := (-9223372036854775808)) hx hb hown (hts (.constantLong RX3 49 (-9223372036854775808)) (by decide +kernel)) dX3_read_14 ?_
  have hP9 := hP.sub (ws' := [(oG, .inr (3, [.ref h0, .null]))]) [0] rfl
  have hD9 := hD.sub (ws' := [(oG, .inr (3, [.ref h0, .null]))]) [0] (by decide) rfl
  exact W.lret (v := (-9223372036854775808)) hx hb hr (fun t ht hW => ⟨⟨(-9223372036854775808), (), rfl, rfl, by rw [ht]; exact hP9, hD9⟩, hS.F ht⟩) hS.2.2 dX3_read_17
set_option maxHeartbeats 4000000 in
set_option maxRecDepth 100000 in
theorem c_X3_write_N (l : Launch) (dC : Nat → ClassId) (dI : Nat → Nat → Nat) (cB cI cJ : ClassId) (sz : Nat) (oG : Nat) (h0 : Nat) (wv : Int32) (av : Int32) (vv : Int32)  : Met l yX3_write wsX3_write ({ frames := 3, cells := 0, slots := 0, locals := 68 }) (va_Pc [.ref oG, .int wv, .int av, .int vv] (wPre dC dI cB cI cJ sz [(oG, .inr (3, [.ref h0, .null]))])) (va_Qi (fun (r : Int32) (u : Unit) => r = -3) (fun (u : Unit) => wPost dC dI (va_A [(oG, .inr (3, [.ref h0, .null]))] sz) [(oG, .inr (3, [.ref h0, .null]))]) (va_A [(oG, .inr (3, [.ref h0, .null]))] sz)) 0 0 (va_A [(oG, .inr (3, [.ref h0, .null]))] sz) := by
  refine Met.ofW (cc := cX3_write) (maxL := 5) (ret := (some .int)) (by decide) rfl ?_
  intro p e s m args below meth c s₁ B hml hv
  obtain ⟨rfl, hsz, hP, hK, hD0, hN⟩ := hv
  have hx := B.exec
  have hb := B.bytes
  have hr := B.returns
  have hts := atoms_spec (ws := wsX3_write) B.pre
  have hown : s.vm.findClass RX3 = some m.cls := findClass_of_methodNamed B.named
  have hlocks := B.notSynchronized
  subst hsz
  have hD := hD0.self (sz := s.heap.size)
  generalize hAe : va_A [(oG, .inr (3, [.ref h0, .null]))] s.heap.size = A at hD ⊢
  have hA : ∀ q : Nat, s.heap.size ≤ q → A q := fun q h => by rw [← hAe]; exact Or.inr h
  have hS : va_S A s.heap s.heap [] := va_S.rf
  have hP : va_P (dC, dI) vwCl [(oG, .inr (3, [.ref h0, .null]))] s.heap := hP
  have hl := lv_entry ([.ref oG, .int wv, .int av, .int vv]) (n := 5) (Nat.le_of_ble_eq_true rfl)
  rw [lg_entry_eq]
  generalize (lg_sl ([.ref oG, .int wv, .int av, .int vv]) ++ List.replicate (5 - (lg_sl ([.ref oG, .int wv, .int av, .int vv])).length) Slot.unset).toArray = ls at hl ⊢
  have hl : lv_has ls 5 [(0, .ref oG), (1, .int wv), (2, .int av), (3, .int vv)] := hl
  refine lv_aload_n hx hb dX3_write_0 rfl (lv_at hl 0 rfl) ?_
  refine va_get (D := (dC, dI)) (ci := 3) (v := .null) (C := RX3) (T := TX3) (N := 2) hx hb hts (by decide +kernel) hown hK hP 0 rfl rfl 1 (by decide) (hts (.fieldLink RX3 18 "GlulxHeads" "machine" "LGlulxHeads$Machine;") (by decide +kernel)) (fun _ h9 => h9) rfl dX3_write_1 ?_
  refine lv_ifnonnullN hx hb dX3_write_4 ?_
  refine lv_bipush (v := (-3)) hx hb dX3_write_7 (by decide) ?_
  have hP9 := hP.sub (ws' := [(oG, .inr (3, [.ref h0, .null]))]) [0] rfl
  have hD9 := hD.sub (ws' := [(oG, .inr (3, [.ref h0, .null]))]) [0] (by decide) rfl
  exact W.iret (v := (-3)) hx hb hr (fun t ht hW => ⟨⟨(-3), (), rfl, rfl, by rw [ht]; exact hP9, hD9⟩, hS.F ht⟩) hS.2.2 dX3_write_9
set_option maxHeartbeats 4000000 in
set_option maxRecDepth 100000 in
theorem c_X3_resize_N (l : Launch) (dC : Nat → ClassId) (dI : Nat → Nat → Nat) (cB cI cJ : ClassId) (sz : Nat) (oG : Nat) (h0 : Nat) (nv : Int32)  : Met l yX3_resize wsX3_resize ({ frames := 1, cells := 0, slots := 0, locals := 22 }) (va_Pc [.ref oG, .int nv] (wPre dC dI cB cI cJ sz [(oG, .inr (3, [.ref h0, .null]))])) (va_Qi (fun (r : Int32) (u : Unit) => r = -3) (fun (u : Unit) => wPost dC dI (va_A [(oG, .inr (3, [.ref h0, .null]))] sz) [(oG, .inr (3, [.ref h0, .null]))]) (va_A [(oG, .inr (3, [.ref h0, .null]))] sz)) 0 0 (va_A [(oG, .inr (3, [.ref h0, .null]))] sz) := by
  refine Met.ofW (cc := cX3_resize) (maxL := 2) (ret := (some .int)) (by decide) rfl ?_
  intro p e s m args below meth c s₁ B hml hv
  obtain ⟨rfl, hsz, hP, hK, hD0, hN⟩ := hv
  have hx := B.exec
  have hb := B.bytes
  have hr := B.returns
  have hts := atoms_spec (ws := wsX3_resize) B.pre
  have hown : s.vm.findClass RX3 = some m.cls := findClass_of_methodNamed B.named
  have hlocks := B.notSynchronized
  subst hsz
  have hD := hD0.self (sz := s.heap.size)
  generalize hAe : va_A [(oG, .inr (3, [.ref h0, .null]))] s.heap.size = A at hD ⊢
  have hA : ∀ q : Nat, s.heap.size ≤ q → A q := fun q h => by rw [← hAe]; exact Or.inr h
  have hS : va_S A s.heap s.heap [] := va_S.rf
  have hP : va_P (dC, dI) vwCl [(oG, .inr (3, [.ref h0, .null]))] s.heap := hP
  have hl := lv_entry ([.ref oG, .int nv]) (n := 2) (Nat.le_of_ble_eq_true rfl)
  rw [lg_entry_eq]
  generalize (lg_sl ([.ref oG, .int nv]) ++ List.replicate (2 - (lg_sl ([.ref oG, .int nv])).length) Slot.unset).toArray = ls at hl ⊢
  have hl : lv_has ls 2 [(0, .ref oG), (1, .int nv)] := hl
  refine lv_aload_n hx hb dX3_resize_0 rfl (lv_at hl 0 rfl) ?_
  refine va_get (D := (dC, dI)) (ci := 3) (v := .null) (C := RX3) (T := TX3) (N := 2) hx hb hts (by decide +kernel) hown hK hP 0 rfl rfl 1 (by decide) (hts (.fieldLink RX3 18 "GlulxHeads" "machine" "LGlulxHeads$Machine;") (by decide +kernel)) (fun _ h9 => h9) rfl dX3_resize_1 ?_
  refine lv_ifnonnullN hx hb dX3_resize_4 ?_
  refine lv_bipush (v := (-3)) hx hb dX3_resize_7 (by decide) ?_
  have hP9 := hP.sub (ws' := [(oG, .inr (3, [.ref h0, .null]))]) [0] rfl
  have hD9 := hD.sub (ws' := [(oG, .inr (3, [.ref h0, .null]))]) [0] (by decide) rfl
  exact W.iret (v := (-3)) hx hb hr (fun t ht hW => ⟨⟨(-3), (), rfl, rfl, by rw [ht]; exact hP9, hD9⟩, hS.F ht⟩) hS.2.2 dX3_resize_9
set_option maxHeartbeats 4000000 in
set_option maxRecDepth 100000 in
theorem c_X3_block_N (l : Launch) (dC : Nat → ClassId) (dI : Nat → Nat → Nat) (cB cI cJ : ClassId) (sz : Nat) (oG : Nat) (h0 : Nat) (nv : Int32)  : Met l yX3_block wsX3_block ({ frames := 3, cells := 0, slots := 0, locals := 69 }) (va_Pc [.ref oG, .int nv] (wPre dC dI cB cI cJ sz [(oG, .inr (3, [.ref h0, .null]))])) (va_Qi (fun (r : Int32) (u : Unit) => r = -3) (fun (u : Unit) => wPost dC dI (va_A [(oG, .inr (3, [.ref h0, .null]))] sz) [(oG, .inr (3, [.ref h0, .null]))]) (va_A [(oG, .inr (3, [.ref h0, .null]))] sz)) 0 0 (va_A [(oG, .inr (3, [.ref h0, .null]))] sz) := by
  refine Met.ofW (cc := cX3_block) (maxL := 2) (ret := (some .int)) (by decide) rfl ?_
  intro p e s m args below meth c s₁ B hml hv
  obtain ⟨rfl, hsz, hP, hK, hD0, hN⟩ := hv
  have hx := B.exec
  have hb := B.bytes
  have hr := B.returns
  have hts := atoms_spec (ws := wsX3_block) B.pre
  have hown : s.vm.findClass RX3 = some m.cls := findClass_of_methodNamed B.named
  have hlocks := B.notSynchronized
  subst hsz
  have hD := hD0.self (sz := s.heap.size)
  generalize hAe : va_A [(oG, .inr (3, [.ref h0, .null]))] s.heap.size = A at hD ⊢
  have hA : ∀ q : Nat, s.heap.size ≤ q → A q := fun q h => by rw [← hAe]; exact Or.inr h
  have hS : va_S A s.heap s.heap [] := va_S.rf
  have hP : va_P (dC, dI) vwCl [(oG, .inr (3, [.ref h0, .null]))] s.heap := hP
  have hl := lv_entry ([.ref oG, .int nv]) (n := 2) (Nat.le_of_ble_eq_true rfl)
  rw [lg_entry_eq]
  generalize (lg_sl ([.ref oG, .int nv]) ++ List.replicate (2 - (lg_sl ([.ref oG, .int nv])).length) Slot.unset).toArray = ls at hl ⊢
  have hl : lv_has ls 2 [(0, .ref oG), (1, .int nv)] := hl
  refine lv_aload_n hx hb dX3_block_0 rfl (lv_at hl 0 rfl) ?_
  refine va_get (D := (dC, dI)) (ci := 3) (v := .null) (C := RX3) (T := TX3) (N := 2) hx hb hts (by decide +kernel) hown hK hP 0 rfl rfl 1 (by decide) (hts (.fieldLink RX3 18 "GlulxHeads" "machine" "LGlulxHeads$Machine;") (by decide +kernel)) (fun _ h9 => h9) rfl dX3_block_1 ?_
  refine lv_ifnonnullN hx hb dX3_block_4 ?_
  refine lv_bipush (v := (-3)) hx hb dX3_block_7 (by decide) ?_
  have hP9 := hP.sub (ws' := [(oG, .inr (3, [.ref h0, .null]))]) [0] rfl
  have hD9 := hD.sub (ws' := [(oG, .inr (3, [.ref h0, .null]))]) [0] (by decide) rfl
  exact W.iret (v := (-3)) hx hb hr (fun t ht hW => ⟨⟨(-3), (), rfl, rfl, by rw [ht]; exact hP9, hD9⟩, hS.F ht⟩) hS.2.2 dX3_block_9
set_option maxHeartbeats 4000000 in
set_option maxRecDepth 100000 in
theorem c_X3_free_N (l : Launch) (dC : Nat → ClassId) (dI : Nat → Nat → Nat) (cB cI cJ : ClassId) (sz : Nat) (oG : Nat) (h0 : Nat) (av : Int32)  : Met l yX3_free wsX3_free ({ frames := 2, cells := 0, slots := 0, locals := 45 }) (va_Pc [.ref oG, .int av] (wPre dC dI cB cI cJ sz [(oG, .inr (3, [.ref h0, .null]))])) (va_Qi (fun (r : Int32) (u : Unit) => r = -3) (fun (u : Unit) => wPost dC dI (va_A [(oG, .inr (3, [.ref h0, .null]))] sz) [(oG, .inr (3, [.ref h0, .null]))]) (va_A [(oG, .inr (3, [.ref h0, .null]))] sz)) 0 0 (va_A [(oG, .inr (3, [.ref h0, .null]))] sz) := by
  refine Met.ofW (cc := cX3_free) (maxL := 3) (ret := (some .int)) (by decide) rfl ?_
  intro p e s m args below meth c s₁ B hml hv
  obtain ⟨rfl, hsz, hP, hK, hD0, hN⟩ := hv
  have hx := B.exec
  have hb := B.bytes
  have hr := B.returns
  have hts := atoms_spec (ws := wsX3_free) B.pre
  have hown : s.vm.findClass RX3 = some m.cls := findClass_of_methodNamed B.named
  have hlocks := B.notSynchronized
  subst hsz
  have hD := hD0.self (sz := s.heap.size)
  generalize hAe : va_A [(oG, .inr (3, [.ref h0, .null]))] s.heap.size = A at hD ⊢
  have hA : ∀ q : Nat, s.heap.size ≤ q → A q := fun q h => by rw [← hAe]; exact Or.inr h
  have hS : va_S A s.heap s.heap [] := va_S.rf
  have hP : va_P (dC, dI) vwCl [(oG, .inr (3, [.ref h0, .null]))] s.heap := hP
  have hl := lv_entry ([.ref oG, .int av]) (n := 3) (Nat.le_of_ble_eq_true rfl)
  rw [lg_entry_eq]
  generalize (lg_sl ([.ref oG, .int av]) ++ List.replicate (3 - (lg_sl ([.ref oG, .int av])).length) Slot.unset).toArray = ls at hl ⊢
  have hl : lv_has ls 3 [(0, .ref oG), (1, .int av)] := hl
  refine lv_aload_n hx hb dX3_free_0 rfl (lv_at hl 0 rfl) ?_
  refine va_get (D := (dC, dI)) (ci := 3) (v := .null) (C := RX3) (T := TX3) (N := 2) hx hb hts (by decide +kernel) hown hK hP 0 rfl rfl 1 (by decide) (hts (.fieldLink RX3 18 "GlulxHeads" "machine" "LGlulxHeads$Machine;") (by decide +kernel)) (fun _ h9 => h9) rfl dX3_free_1 ?_
  refine lv_ifnonnullN hx hb dX3_free_4 ?_
  refine lv_bipush (v := (-3)) hx hb dX3_free_7 (by decide) ?_
  have hP9 := hP.sub (ws' := [(oG, .inr (3, [.ref h0, .null]))]) [0] rfl
  have hD9 := hD.sub (ws' := [(oG, .inr (3, [.ref h0, .null]))]) [0] (by decide) rfl
  exact W.iret (v := (-3)) hx hb hr (fun t ht hW => ⟨⟨(-3), (), rfl, rfl, by rw [ht]; exact hP9, hD9⟩, hS.F ht⟩) hS.2.2 dX3_free_9
set_option maxHeartbeats 4000000 in
set_option maxRecDepth 100000 in
theorem c_X3_protect_N (l : Launch) (dC : Nat → ClassId) (dI : Nat → Nat → Nat) (cB cI cJ : ClassId) (sz : Nat) (oG : Nat) (h0 : Nat) (av : Int32) (nv : Int32)  : Met l yX3_protect wsX3_protect ({ frames := 0, cells := 0, slots := 0, locals := 0 }) (va_Pc [.ref oG, .int av, .int nv] (wPre dC dI cB cI cJ sz [(oG, .inr (3, [.ref h0, .null]))])) (va_Qi (fun (r : Int32) (u : Unit) => r = -3) (fun (u : Unit) => wPost dC dI (va_A [(oG, .inr (3, [.ref h0, .null]))] sz) [(oG, .inr (3, [.ref h0, .null]))]) (va_A [(oG, .inr (3, [.ref h0, .null]))] sz)) 0 0 (va_A [(oG, .inr (3, [.ref h0, .null]))] sz) := by
  refine Met.ofW (cc := cX3_protect) (maxL := 3) (ret := (some .int)) (by decide) rfl ?_
  intro p e s m args below meth c s₁ B hml hv
  obtain ⟨rfl, hsz, hP, hK, hD0, hN⟩ := hv
  have hx := B.exec
  have hb := B.bytes
  have hr := B.returns
  have hts := atoms_spec (ws := wsX3_protect) B.pre
  have hown : s.vm.findClass RX3 = some m.cls := findClass_of_methodNamed B.named
  have hlocks := B.notSynchronized
  subst hsz
  have hD := hD0.self (sz := s.heap.size)
  generalize hAe : va_A [(oG, .inr (3, [.ref h0, .null]))] s.heap.size = A at hD ⊢
  have hA : ∀ q : Nat, s.heap.size ≤ q → A q := fun q h => by rw [← hAe]; exact Or.inr h
  have hS : va_S A s.heap s.heap [] := va_S.rf
  have hP : va_P (dC, dI) vwCl [(oG, .inr (3, [.ref h0, .null]))] s.heap := hP
  have hl := lv_entry ([.ref oG, .int av, .int nv]) (n := 3) (Nat.le_of_ble_eq_true rfl)
  rw [lg_entry_eq]
  generalize (lg_sl ([.ref oG, .int av, .int nv]) ++ List.replicate (3 - (lg_sl ([.ref oG, .int av, .int nv])).length) Slot.unset).toArray = ls at hl ⊢
  have hl : lv_has ls 3 [(0, .ref oG), (1, .int av), (2, .int nv)] := hl
  refine lv_aload_n hx hb dX3_protect_0 rfl (lv_at hl 0 rfl) ?_
  refine va_get (D := (dC, dI)) (ci := 3) (v := .null) (C := RX3) (T := TX3) (N := 2) hx hb hts (by decide +kernel) hown hK hP 0 rfl rfl 1 (by decide) (hts (.fieldLink RX3 18 "GlulxHeads" "machine" "LGlulxHeads$Machine;") (by decide +kernel)) (fun _ h9 => h9) rfl dX3_protect_1 ?_
  refine lv_ifnonnullN hx hb dX3_protect_4 ?_
  refine lv_bipush (v := (-3)) hx hb dX3_protect_7 (by decide) ?_
  have hP9 := hP.sub (ws' := [(oG, .inr (3, [.ref h0, .null]))]) [0] rfl
  have hD9 := hD.sub (ws' := [(oG, .inr (3, [.ref h0, .null]))]) [0] (by decide) rfl
  exact W.iret (v := (-3)) hx hb hr (fun t ht hW => ⟨⟨(-3), (), rfl, rfl, by rw [ht]; exact hP9, hD9⟩, hS.F ht⟩) hS.2.2 dX3_protect_9
set_option maxHeartbeats 4000000 in
set_option maxRecDepth 100000 in
theorem c_X3_restart_N (l : Launch) (dC : Nat → ClassId) (dI : Nat → Nat → Nat) (cB cI cJ : ClassId) (sz : Nat) (oG : Nat) (h0 : Nat)  : Met l yX3_restart wsX3_restart ({ frames := 3, cells := 0, slots := 0, locals := 72 }) (va_Pc [.ref oG] (wPre dC dI cB cI cJ sz [(oG, .inr (3, [.ref h0, .null]))])) (va_Qi (fun (r : Int32) (u : Unit) => r = -3) (fun (u : Unit) => wPost dC dI (va_A [(oG, .inr (3, [.ref h0, .null]))] sz) [(oG, .inr (3, [.ref h0, .null]))]) (va_A [(oG, .inr (3, [.ref h0, .null]))] sz)) 0 0 (va_A [(oG, .inr (3, [.ref h0, .null]))] sz) := by
  refine Met.ofW (cc := cX3_restart) (maxL := 1) (ret := (some .int)) (by decide) rfl ?_
  intro p e s m args below meth c s₁ B hml hv
  obtain ⟨rfl, hsz, hP, hK, hD0, hN⟩ := hv
  have hx := B.exec
  have hb := B.bytes
  have hr := B.returns
  have hts := atoms_spec (ws := wsX3_restart) B.pre
  have hown : s.vm.findClass RX3 = some m.cls := findClass_of_methodNamed B.named
  have hlocks := B.notSynchronized
  subst hsz
  have hD := hD0.self (sz := s.heap.size)
  generalize hAe : va_A [(oG, .inr (3, [.ref h0, .null]))] s.heap.size = A at hD ⊢
  have hA : ∀ q : Nat, s.heap.size ≤ q → A q := fun q h => by rw [← hAe]; exact Or.inr h
  have hS : va_S A s.heap s.heap [] := va_S.rf
  have hP : va_P (dC, dI) vwCl [(oG, .inr (3, [.ref h0, .null]))] s.heap := hP
  have hl := lv_entry ([.ref oG]) (n := 1) (Nat.le_of_ble_eq_true rfl)
  rw [lg_entry_eq]
  generalize (lg_sl ([.ref oG]) ++ List.replicate (1 - (lg_sl ([.ref oG])).length) Slot.unset).toArray = ls at hl ⊢
  have hl : lv_has ls 1 [(0, .ref oG)] := hl
  refine lv_aload_n hx hb dX3_restart_0 rfl (lv_at hl 0 rfl) ?_
  refine va_get (D := (dC, dI)) (ci := 3) (v := .null) (C := RX3) (T := TX3) (N := 2) hx hb hts (by decide +kernel) hown hK hP 0 rfl rfl 1 (by decide) (hts (.fieldLink RX3 18 "GlulxHeads" "machine" "LGlulxHeads$Machine;") (by decide +kernel)) (fun _ h9 => h9) rfl dX3_restart_1 ?_
  refine lv_ifnonnullN hx hb dX3_restart_4 ?_
  refine lv_bipush (v := (-3)) hx hb dX3_restart_7 (by decide) ?_
  have hP9 := hP.sub (ws' := [(oG, .inr (3, [.ref h0, .null]))]) [0] rfl
  have hD9 := hD.sub (ws' := [(oG, .inr (3, [.ref h0, .null]))]) [0] (by decide) rfl
  exact W.iret (v := (-3)) hx hb hr (fun t ht hW => ⟨⟨(-3), (), rfl, rfl, by rw [ht]; exact hP9, hD9⟩, hS.F ht⟩) hS.2.2 dX3_restart_9
set_option maxHeartbeats 4000000 in
set_option maxRecDepth 100000 in
theorem c_X3_save_N (l : Launch) (dC : Nat → ClassId) (dI : Nat → Nat → Nat) (cB cI cJ : ClassId) (sz : Nat) (oG : Nat) (h0 : Nat)  : Met l yX3_save wsX3_save ({ frames := 4, cells := 0, slots := 0, locals := 92 }) (va_Pc [.ref oG] (wPre dC dI cB cI cJ sz [(oG, .inr (3, [.ref h0, .null]))])) (va_Qi (fun (r : Int32) (u : Unit) => r = -3) (fun (u : Unit) => wPost dC dI (va_A [(oG, .inr (3, [.ref h0, .null]))] sz) [(oG, .inr (3, [.ref h0, .null]))]) (va_A [(oG, .inr (3, [.ref h0, .null]))] sz)) 0 0 (va_A [(oG, .inr (3, [.ref h0, .null]))] sz) := by
  refine Met.ofW (cc := cX3_save) (maxL := 1) (ret := (some .int)) (by decide) rfl ?_
  intro p e s m args below meth c s₁ B hml hv
  obtain ⟨rfl, hsz, hP, hK, hD0, hN⟩ := hv
  have hx := B.exec
  have hb := B.bytes
  have hr := B.returns
  have hts := atoms_spec (ws := wsX3_save) B.pre
  have hown : s.vm.findClass RX3 = some m.cls := findClass_of_methodNamed B.named
  have hlocks := B.notSynchronized
  subst hsz
  have hD := hD0.self (sz := s.heap.size)
  generalize hAe : va_A [(oG, .inr (3, [.ref h0, .null]))] s.heap.size = A at hD ⊢
  have hA : ∀ q : Nat, s.heap.size ≤ q → A q := fun q h => by rw [← hAe]; exact Or.inr h
  have hS : va_S A s.heap s.heap [] := va_S.rf
  have hP : va_P (dC, dI) vwCl [(oG, .inr (3, [.ref h0, .null]))] s.heap := hP
  have hl := lv_entry ([.ref oG]) (n := 1) (Nat.le_of_ble_eq_true rfl)
  rw [lg_entry_eq]
  generalize (lg_sl ([.ref oG]) ++ List.replicate (1 - (lg_sl ([.ref oG])).length) Slot.unset).toArray = ls at hl ⊢
  have hl : lv_has ls 1 [(0, .ref oG)] := hl
  refine lv_aload_n hx hb dX3_save_0 rfl (lv_at hl 0 rfl) ?_
  refine va_get (D := (dC, dI)) (ci := 3) (v := .null) (C := RX3) (T := TX3) (N := 2) hx hb hts (by decide +kernel) hown hK hP 0 rfl rfl 1 (by decide) (hts (.fieldLink RX3 18 "GlulxHeads" "machine" "LGlulxHeads$Machine;") (by decide +kernel)) (fun _ h9 => h9) rfl dX3_save_1 ?_
  refine lv_ifnonnullN hx hb dX3_save_4 ?_
  refine lv_bipush (v := (-3)) hx hb dX3_save_7 (by decide) ?_
  have hP9 := hP.sub (ws' := [(oG, .inr (3, [.ref h0, .null]))]) [0] rfl
  have hD9 := hD.sub (ws' := [(oG, .inr (3, [.ref h0, .null]))]) [0] (by decide) rfl
  exact W.iret (v := (-3)) hx hb hr (fun t ht hW => ⟨⟨(-3), (), rfl, rfl, by rw [ht]; exact hP9, hD9⟩, hS.F ht⟩) hS.2.2 dX3_save_9
set_option maxHeartbeats 4000000 in
set_option maxRecDepth 100000 in
theorem c_X3_restore_N (l : Launch) (dC : Nat → ClassId) (dI : Nat → Nat → Nat) (cB cI cJ : ClassId) (sz : Nat) (oG : Nat) (h0 : Nat)  : Met l yX3_restore wsX3_restore ({ frames := 4, cells := 0, slots := 0, locals := 92 }) (va_Pc [.ref oG] (wPre dC dI cB cI cJ sz [(oG, .inr (3, [.ref h0, .null]))])) (va_Qi (fun (r : Int32) (u : Unit) => r = -3) (fun (u : Unit) => wPost dC dI (va_A [(oG, .inr (3, [.ref h0, .null]))] sz) [(oG, .inr (3, [.ref h0, .null]))]) (va_A [(oG, .inr (3, [.ref h0, .null]))] sz)) 0 0 (va_A [(oG, .inr (3, [.ref h0, .null]))] sz) := by
  refine Met.ofW (cc := cX3_restore) (maxL := 1) (ret := (some .int)) (by decide) rfl ?_
  intro p e s m args below meth c s₁ B hml hv
  obtain ⟨rfl, hsz, hP, hK, hD0, hN⟩ := hv
  have hx := B.exec
  have hb := B.bytes
  have hr := B.returns
  have hts := atoms_spec (ws := wsX3_restore) B.pre
  have hown : s.vm.findClass RX3 = some m.cls := findClass_of_methodNamed B.named
  have hlocks := B.notSynchronized
  subst hsz
  have hD := hD0.self (sz := s.heap.size)
  generalize hAe : va_A [(oG, .inr (3, [.ref h0, .null]))] s.heap.size = A at hD ⊢
  have hA : ∀ q : Nat, s.heap.size ≤ q → A q := fun q h => by rw [← hAe]; exact Or.inr h
  have hS : va_S A s.heap s.heap [] := va_S.rf
  have hP : va_P (dC, dI) vwCl [(oG, .inr (3, [.ref h0, .null]))] s.heap := hP
  have hl := lv_entry ([.ref oG]) (n := 1) (Nat.le_of_ble_eq_true rfl)
  rw [lg_entry_eq]
  generalize (lg_sl ([.ref oG]) ++ List.replicate (1 - (lg_sl ([.ref oG])).length) Slot.unset).toArray = ls at hl ⊢
  have hl : lv_has ls 1 [(0, .ref oG)] := hl
  refine lv_aload_n hx hb dX3_restore_0 rfl (lv_at hl 0 rfl) ?_
  refine va_get (D := (dC, dI)) (ci := 3) (v := .null) (C := RX3) (T := TX3) (N := 2) hx hb hts (by decide +kernel) hown hK hP 0 rfl rfl 1 (by decide) (hts (.fieldLink RX3 18 "GlulxHeads" "machine" "LGlulxHeads$Machine;") (by decide +kernel)) (fun _ h9 => h9) rfl dX3_restore_1 ?_
  refine lv_ifnullN (tgt := 17) hx hb dX3_restore_4 (by decide) ?_
  refine lv_bipush (v := (-3)) hx hb dX3_restore_17 (by decide) ?_
  have hP9 := hP.sub (ws' := [(oG, .inr (3, [.ref h0, .null]))]) [0] rfl
  have hD9 := hD.sub (ws' := [(oG, .inr (3, [.ref h0, .null]))]) [0] (by decide) rfl
  exact W.iret (v := (-3)) hx hb hr (fun t ht hW => ⟨⟨(-3), (), rfl, rfl, by rw [ht]; exact hP9, hD9⟩, hS.F ht⟩) hS.2.2 dX3_restore_19
set_option maxHeartbeats 4000000 in
set_option maxRecDepth 100000 in
theorem c_X3_changed_N (l : Launch) (dC : Nat → ClassId) (dI : Nat → Nat → Nat) (cB cI cJ : ClassId) (sz : Nat) (oG : Nat) (h0 : Nat) (av : Int32)  : Met l yX3_changed wsX3_changed ({ frames := 2, cells := 0, slots := 0, locals := 44 }) (va_Pc [.ref oG, .int av] (wPre dC dI cB cI cJ sz [(oG, .inr (3, [.ref h0, .null]))])) (va_Qi (fun (r : Int32) (u : Unit) => r = -3) (fun (u : Unit) => wPost dC dI (va_A [(oG, .inr (3, [.ref h0, .null]))] sz) [(oG, .inr (3, [.ref h0, .null]))]) (va_A [(oG, .inr (3, [.ref h0, .null]))] sz)) 0 0 (va_A [(oG, .inr (3, [.ref h0, .null]))] sz) := by
  refine Met.ofW (cc := cX3_changed) (maxL := 2) (ret := (some .int)) (by decide) rfl ?_
  intro p e s m args below meth c s₁ B hml hv
  obtain ⟨rfl, hsz, hP, hK, hD0, hN⟩ := hv
  have hx := B.exec
  have hb := B.bytes
  have hr := B.returns
  have hts := atoms_spec (ws := wsX3_changed) B.pre
  have hown : s.vm.findClass RX3 = some m.cls := findClass_of_methodNamed B.named
  have hlocks := B.notSynchronized
  subst hsz
  have hD := hD0.self (sz := s.heap.size)
  generalize hAe : va_A [(oG, .inr (3, [.ref h0, .null]))] s.heap.size = A at hD ⊢
  have hA : ∀ q : Nat, s.heap.size ≤ q → A q := fun q h => by rw [← hAe]; exact Or.inr h
  have hS : va_S A s.heap s.heap [] := va_S.rf
  have hP : va_P (dC, dI) vwCl [(oG, .inr (3, [.ref h0, .null]))] s.heap := hP
  have hl := lv_entry ([.ref oG, .int av]) (n := 2) (Nat.le_of_ble_eq_true rfl)
  rw [lg_entry_eq]
  generalize (lg_sl ([.ref oG, .int av]) ++ List.replicate (2 - (lg_sl ([.ref oG, .int av])).length) Slot.unset).toArray = ls at hl ⊢
  have hl : lv_has ls 2 [(0, .ref oG), (1, .int av)] := hl
  refine lv_aload_n hx hb dX3_changed_0 rfl (lv_at hl 0 rfl) ?_
  refine va_get (D := (dC, dI)) (ci := 3) (v := .null) (C := RX3) (T := TX3) (N := 2) hx hb hts (by decide +kernel) hown hK hP 0 rfl rfl 1 (by decide) (hts (.fieldLink RX3 18 "GlulxHeads" "machine" "LGlulxHeads$Machine;") (by decide +kernel)) (fun _ h9 => h9) rfl dX3_changed_1 ?_
  refine lv_ifnonnullN hx hb dX3_changed_4 ?_
  refine lv_bipush (v := (-3)) hx hb dX3_changed_7 (by decide) ?_
  have hP9 := hP.sub (ws' := [(oG, .inr (3, [.ref h0, .null]))]) [0] rfl
  have hD9 := hD.sub (ws' := [(oG, .inr (3, [.ref h0, .null]))]) [0] (by decide) rfl
  exact W.iret (v := (-3)) hx hb hr (fun t ht hW => ⟨⟨(-3), (), rfl, rfl, by rw [ht]; exact hP9, hD9⟩, hS.F ht⟩) hS.2.2 dX3_changed_9
set_option maxHeartbeats 4000000 in
set_option maxRecDepth 100000 in
theorem c_X3_hash_N (l : Launch) (dC : Nat → ClassId) (dI : Nat → Nat → Nat) (cB cI cJ : ClassId) (sz : Nat) (oG : Nat) (h0 : Nat) (av : Int32) (nv : Int32)  : Met l yX3_hash wsX3_hash ({ frames := 1, cells := 0, slots := 0, locals := 22 }) (va_Pc [.ref oG, .int av, .int nv] (wPre dC dI cB cI cJ sz [(oG, .inr (3, [.ref h0, .null]))])) (va_Qi (fun (r : Int32) (u : Unit) => r = -3) (fun (u : Unit) => wPost dC dI (va_A [(oG, .inr (3, [.ref h0, .null]))] sz) [(oG, .inr (3, [.ref h0, .null]))]) (va_A [(oG, .inr (3, [.ref h0, .null]))] sz)) 0 0 (va_A [(oG, .inr (3, [.ref h0, .null]))] sz) := by
  refine Met.ofW (cc := cX3_hash) (maxL := 5) (ret := (some .int)) (by decide) rfl ?_
  intro p e s m args below meth c s₁ B hml hv
  obtain ⟨rfl, hsz, hP, hK, hD0, hN⟩ := hv
  have hx := B.exec
  have hb := B.bytes
  have hr := B.returns
  have hts := atoms_spec (ws := wsX3_hash) B.pre
  have hown : s.vm.findClass RX3 = some m.cls := findClass_of_methodNamed B.named
  have hlocks := B.notSynchronized
  subst hsz
  have hD := hD0.self (sz := s.heap.size)
  generalize hAe : va_A [(oG, .inr (3, [.ref h0, .null]))] s.heap.size = A at hD ⊢
  have hA : ∀ q : Nat, s.heap.size ≤ q → A q := fun q h => by rw [← hAe]; exact Or.inr h
  have hS : va_S A s.heap s.heap [] := va_S.rf
  have hP : va_P (dC, dI) vwCl [(oG, .inr (3, [.ref h0, .null]))] s.heap := hP
  have hl := lv_entry ([.ref oG, .int av, .int nv]) (n := 5) (Nat.le_of_ble_eq_true rfl)
  rw [lg_entry_eq]
  generalize (lg_sl ([.ref oG, .int av, .int nv]) ++ List.replicate (5 - (lg_sl ([.ref oG, .int av, .int nv])).length) Slot.unset).toArray = ls at hl ⊢
  have hl : lv_has ls 5 [(0, .ref oG), (1, .int av), (2, .int nv)] := hl
  refine lv_aload_n hx hb dX3_hash_0 rfl (lv_at hl 0 rfl) ?_
  refine va_get (D := (dC, dI)) (ci := 3) (v := .null) (C := RX3) (T := TX3) (N := 2) hx hb hts (by decide +kernel) hown hK hP 0 rfl rfl 1 (by decide) (hts (.fieldLink RX3 18 "GlulxHeads" "machine" "LGlulxHeads$Machine;") (by decide +kernel)) (fun _ h9 => h9) rfl dX3_hash_1 ?_
  refine lv_ifnonnullN hx hb dX3_hash_4 ?_
  refine lv_bipush (v := (-3)) hx hb dX3_hash_7 (by decide) ?_
  have hP9 := hP.sub (ws' := [(oG, .inr (3, [.ref h0, .null]))]) [0] rfl
  have hD9 := hD.sub (ws' := [(oG, .inr (3, [.ref h0, .null]))]) [0] (by decide) rfl
  exact W.iret (v := (-3)) hx hb hr (fun t ht hW => ⟨⟨(-3), (), rfl, rfl, by rw [ht]; exact hP9, hD9⟩, hS.F ht⟩) hS.2.2 dX3_hash_9
