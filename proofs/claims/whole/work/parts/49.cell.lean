/-- what a throw stands on: the class's own cast, the text, the two statics of Throwable -/
def xW : List Cond := [.castable "java/lang/IndexOutOfBoundsException" "java/lang/IndexOutOfBoundsException", .declares (Bundle.initS "java/lang/RuntimeException"), .declares (Bundle.initS "java/lang/Exception"), .declares (Bundle.initS Bundle.tN)]
def xOk (w : Cond) : Bool := match w with
  | .castable _ _ => true
  | .declares _ => true
  | _ => false
theorem xW_ok : xW.all xOk = true := by decide +kernel
theorem xW_use {args : Array Value} {s : State} (h : ∀ w ∈ xW, va_Nw w s) : ∀ w ∈ xW, w.before args s = true := by
  intro w hw
  have h1 := List.all_eq_true.mp xW_ok w hw
  have h2 := h w hw
  cases w <;> first | (exact va_Nw.use rfl h2) | (exact absurd h1 (by simp [xOk]))
theorem xW_warm {s U : State} (hW : s.WarmedH U.vm) (h : ∀ w ∈ xW, va_Nw w s) : ∀ w ∈ xW, va_Nw w U := by
  intro w hw
  have h1 := List.all_eq_true.mp xW_ok w hw
  have h2 := h w hw
  cases w <;> first | (exact va_Nw.warmC hW h2) | (exact va_Nw.warmD hW h2) | (exact absurd h1 (by simp [xOk]))
theorem xW_same {s U : State} (hv : s.vm = U.vm) (h : ∀ w ∈ xW, va_Nw w s) : ∀ w ∈ xW, va_Nw w U := by
  intro w hw
  have h1 := List.all_eq_true.mp xW_ok w hw
  have h2 := h w hw
  cases w <;> first | (exact va_Nw.same rfl hv h2) | (exact absurd h1 (by simp [xOk]))
def xPre (sa : Nat) (A : Nat → Prop) (U : State) : Prop := (∀ w ∈ xW, va_Nw w U) ∧ vk_R RX3 143 "no such place in memory" sa U ∧ vx_Zq Bundle.tN "UNASSIGNED_STACK" Bundle.steD A U U.heap ∧ vx_Zq Bundle.tN "SUPPRESSED_SENTINEL" Bundle.listD A U U.heap
set_option maxHeartbeats 4000000 in
set_option maxRecDepth 100000 in
theorem c_X3_cell_M (l : Launch) (hfl : l.stackTraces = false) (dC : Nat → ClassId) (dI : Nat → Nat → Nat) (cB cI cJ : ClassId) (sz : Nat) (sa : Nat) (oG : Nat) (h0 : Nat) (oM : Nat) (oSl : Nat) (oSn : Nat) (oSa : Nat) (oSe : Nat) (sv : Nat) (fk : Nat) (fp : Int32) (kf : Nat) (kt : Nat) (sr : Nat) (aBn : Nat) (aPn : Nat) (aLn : Nat) (mzn : Nat) (cnn : Nat) (hsn : Nat) (gn : Nat → Int32) (Pn : Nat → Int32) (Ln : Nat → Int32) (memn : Nat → Nat) (av : Int32) (hMn : mOk gn mzn memn) : vx_Met l yX3_cell wsX3_cell ({ frames := 6, cells := 1, slots := 6, locals := 90 }) (va_Pc [.ref oG, .int av] (fun U => wPre dC dI cB cI cJ sz [(oG, .inr (3, [.ref h0, .ref oM])), (oM, .inr (0, [.ref oSl, .ref oSn, .ref oSa, .ref oSe, .int (nI sv), .int (nI fk), .int fp, .int (nI kf), .int (nI kt), .int (nI sr)])), (oSn, .inr (1, [.ref aBn, .int (nI mzn), .ref aPn, .ref aLn, .int (nI cnn), .int (nI hsn)])), (aBn, .inl (cB, 8192, .inl gn)), (aPn, .inl (cI, 16, .inl Pn)), (aLn, .inl (cI, 16, .inl Ln))] U ∧ xPre sa (va_A [(oG, .inr (3, [.ref h0, .ref oM])), (oM, .inr (0, [.ref oSl, .ref oSn, .ref oSa, .ref oSe, .int (nI sv), .int (nI fk), .int fp, .int (nI kf), .int (nI kt), .int (nI sr)])), (oSn, .inr (1, [.ref aBn, .int (nI mzn), .ref aPn, .ref aLn, .int (nI cnn), .int (nI hsn)])), (aBn, .inl (cB, 8192, .inl gn)), (aPn, .inl (cI, 16, .inl Pn)), (aLn, .inl (cI, 16, .inl Ln))] sz) U)) (va_Qi (fun (r : Int32) (u : Unit) => inM av 1 mzn ∧ r = nI (memn av.toInt.toNat)) (fun (u : Unit) => wPost dC dI (va_A [(oG, .inr (3, [.ref h0, .ref oM])), (oM, .inr (0, [.ref oSl, .ref oSn, .ref oSa, .ref oSe, .int (nI sv), .int (nI fk), .int fp, .int (nI kf), .int (nI kt), .int (nI sr)])), (oSn, .inr (1, [.ref aBn, .int (nI mzn), .ref aPn, .ref aLn, .int (nI cnn), .int (nI hsn)])), (aBn, .inl (cB, 8192, .inl gn)), (aPn, .inl (cI, 16, .inl Pn)), (aLn, .inl (cI, 16, .inl Ln))] sz) [(oG, .inr (3, [.ref h0, .ref oM])), (oM, .inr (0, [.ref oSl, .ref oSn, .ref oSa, .ref oSe, .int (nI sv), .int (nI fk), .int fp, .int (nI kf), .int (nI kt), .int (nI sr)])), (oSn, .inr (1, [.ref aBn, .int (nI mzn), .ref aPn, .ref aLn, .int (nI cnn), .int (nI hsn)])), (aBn, .inl (cB, 8192, .inl gn)), (aPn, .inl (cI, 16, .inl Pn)), (aLn, .inl (cI, 16, .inl Ln))]) (va_A [(oG, .inr (3, [.ref h0, .ref oM])), (oM, .inr (0, [.ref oSl, .ref oSn, .ref oSa, .ref oSe, .int (nI sv), .int (nI fk), .int fp, .int (nI kf), .int (nI kt), .int (nI sr)])), (oSn, .inr (1, [.ref aBn, .int (nI mzn), .ref aPn, .ref aLn, .int (nI cnn), .int (nI hsn)])), (aBn, .inl (cB, 8192, .inl gn)), (aPn, .inl (cI, 16, .inl Pn)), (aLn, .inl (cI, 16, .inl Ln))] sz)) (vx_X (fun (u : Unit) => ¬ inM av 1 mzn) (fun (E : String) (u : Unit) t => E = "java/lang/IndexOutOfBoundsException" ∧ wPost dC dI (va_A [(oG, .inr (3, [.ref h0, .ref oM])), (oM, .inr (0, [.ref oSl, .ref oSn, .ref oSa, .ref oSe, .int (nI sv), .int (nI fk), .int fp, .int (nI kf), .int (nI kt), .int (nI sr)])), (oSn, .inr (1, [.ref aBn, .int (nI mzn), .ref aPn, .ref aLn, .int (nI cnn), .int (nI hsn)])), (aBn, .inl (cB, 8192, .inl gn)), (aPn, .inl (cI, 16, .inl Pn)), (aLn, .inl (cI, 16, .inl Ln))] sz) [(oG, .inr (3, [.ref h0, .ref oM])), (oM, .inr (0, [.ref oSl, .ref oSn, .ref oSa, .ref oSe, .int (nI sv), .int (nI fk), .int fp, .int (nI kf), .int (nI kt), .int (nI sr)])), (oSn, .inr (1, [.ref aBn, .int (nI mzn), .ref aPn, .ref aLn, .int (nI cnn), .int (nI hsn)])), (aBn, .inl (cB, 8192, .inl gn)), (aPn, .inl (cI, 16, .inl Pn)), (aLn, .inl (cI, 16, .inl Ln))] t) (va_A [(oG, .inr (3, [.ref h0, .ref oM])), (oM, .inr (0, [.ref oSl, .ref oSn, .ref oSa, .ref oSe, .int (nI sv), .int (nI fk), .int fp, .int (nI kf), .int (nI kt), .int (nI sr)])), (oSn, .inr (1, [.ref aBn, .int (nI mzn), .ref aPn, .ref aLn, .int (nI cnn), .int (nI hsn)])), (aBn, .inl (cB, 8192, .inl gn)), (aPn, .inl (cI, 16, .inl Pn)), (aLn, .inl (cI, 16, .inl Ln))] sz)) 1 6 (va_A [(oG, .inr (3, [.ref h0, .ref oM])), (oM, .inr (0, [.ref oSl, .ref oSn, .ref oSa, .ref oSe, .int (nI sv), .int (nI fk), .int fp, .int (nI kf), .int (nI kt), .int (nI sr)])), (oSn, .inr (1, [.ref aBn, .int (nI mzn), .ref aPn, .ref aLn, .int (nI cnn), .int (nI hsn)])), (aBn, .inl (cB, 8192, .inl gn)), (aPn, .inl (cI, 16, .inl Pn)), (aLn, .inl (cI, 16, .inl Ln))] sz) := by
  refine vx_ofW (cc := cX3_cell) (maxL := 2) (ret := (some .int)) (by decide) rfl ?_
  intro p e s m args below meth c s₁ B hml htab hv
  obtain ⟨rfl, ⟨hsz, hP, hK, hD0, hN⟩, hXp⟩ := hv
  have hx := B.exec
  have hb := B.bytes
  have hr := B.returns
  have hts := atoms_spec (ws := wsX3_cell) B.pre
  have hown : s.vm.findClass RX3 = some m.cls := findClass_of_methodNamed B.named
  have hlocks := B.notSynchronized
  subst hsz
  have hD := hD0.self (sz := s.heap.size)
  generalize hAe : va_A [(oG, .inr (3, [.ref h0, .ref oM])), (oM, .inr (0, [.ref oSl, .ref oSn, .ref oSa, .ref oSe, .int (nI sv), .int (nI fk), .int fp, .int (nI kf), .int (nI kt), .int (nI sr)])), (oSn, .inr (1, [.ref aBn, .int (nI mzn), .ref aPn, .ref aLn, .int (nI cnn), .int (nI hsn)])), (aBn, .inl (cB, 8192, .inl gn)), (aPn, .inl (cI, 16, .inl Pn)), (aLn, .inl (cI, 16, .inl Ln))] s.heap.size = A at hD hXp ⊢
  have hA : ∀ q : Nat, s.heap.size ≤ q → A q := fun q h => by rw [← hAe]; exact Or.inr h
  have hS : va_S A s.heap s.heap [] := va_S.rf
  have hP : va_P (dC, dI) vwCl [(oG, .inr (3, [.ref h0, .ref oM])), (oM, .inr (0, [.ref oSl, .ref oSn, .ref oSa, .ref oSe, .int (nI sv), .int (nI fk), .int fp, .int (nI kf), .int (nI kt), .int (nI sr)])), (oSn, .inr (1, [.ref aBn, .int (nI mzn), .ref aPn, .ref aLn, .int (nI cnn), .int (nI hsn)])), (aBn, .inl (cB, 8192, .inl gn)), (aPn, .inl (cI, 16, .inl Pn)), (aLn, .inl (cI, 16, .inl Ln))] s.heap := hP
  have hl := lv_entry ([.ref oG, .int av]) (n := 2) (Nat.le_of_ble_eq_true rfl)
  rw [lg_entry_eq]
  generalize (lg_sl ([.ref oG, .int av]) ++ List.replicate (2 - (lg_sl ([.ref oG, .int av])).length) Slot.unset).toArray = ls at hl ⊢
  have hl : lv_has ls 2 [(0, .ref oG), (1, .int av)] := hl
  have hMn1 := hMn.1
  refine lv_aload_n hx hb dX3_cell_0 rfl (lv_at hl 0 rfl) ?_
  refine va_get (D := (dC, dI)) (ci := 3) (v := .ref oM) (C := RX3) (T := TX3) (N := 2) hx hb hts (by decide +kernel) hown hK hP 0 rfl rfl 1 (by decide) (hts (.fieldLink RX3 18 "GlulxHeads" "machine" "LGlulxHeads$Machine;") (by decide +kernel)) (fun _ h9 => h9) rfl dX3_cell_1 ?_
  refine lv_ifnonnull (tgt := 10) hx hb dX3_cell_4 (by decide) ?_
  refine lv_aload_n hx hb dX3_cell_10 rfl (lv_at hl 0 rfl) ?_
  refine va_get (D := (dC, dI)) (ci := 3) (v := .ref oM) (C := RX3) (T := TX3) (N := 2) hx hb hts (by decide +kernel) hown hK hP 0 rfl rfl 1 (by decide) (hts (.fieldLink RX3 18 "GlulxHeads" "machine" "LGlulxHeads$Machine;") (by decide +kernel)) (fun _ h9 => h9) rfl dX3_cell_11 ?_
  refine va_getN (D := (dC, dI)) (ci := 0) (v := .ref oSn) (C := RX0) (T := TX0) (N := 10) hx hb hts (by decide +kernel) hown hK hP 1 rfl rfl 1 (by decide) (va_Nw.use rfl (hN (.fieldLinkNest RX3 79 "GlulxHeads$Machine" "now" "LGlulxHeads$State;" "GlulxHeads") (by decide +kernel))) (fun _ h9 => h9) rfl dX3_cell_14 ?_
  refine lv_iload_n hx hb dX3_cell_17 rfl (lv_at hl 1 rfl) ?_
  refine lv_iconst (v := nI 1) hx hb dX3_cell_18 (by decide) ?_
  have hPc := hP.sub (ws' := [(oSn, .inr (1, [.ref aBn, .int (nI mzn), .ref aPn, .ref aLn, .int (nI cnn), .int (nI hsn)])), (aBn, .inl (cB, 8192, .inl gn)), (aPn, .inl (cI, 16, .inl Pn)), (aLn, .inl (cI, 16, .inl Ln))]) [2, 3, 4, 5] rfl
  have hDc := hD.sub (ws' := [(oSn, .inr (1, [.ref aBn, .int (nI mzn), .ref aPn, .ref aLn, .int (nI cnn), .int (nI hsn)])), (aBn, .inl (cB, 8192, .inl gn)), (aPn, .inl (cI, 16, .inl Pn)), (aLn, .inl (cI, 16, .inl Ln))]) [2, 3, 4, 5] (by decide) rfl
  have hFc := va_free (wc := [(oSn, .inr (1, [.ref aBn, .int (nI mzn), .ref aPn, .ref aLn, .int (nI cnn), .int (nI hsn)])), (aBn, .inl (cB, 8192, .inl gn)), (aPn, .inl (cI, 16, .inl Pn)), (aLn, .inl (cI, 16, .inl Ln))]) hD hS hA [2, 3, 4, 5] rfl
  refine va_calli (va_runVN (As := [.int av, .int (nI 1)]) (rest := []) ⟨hx, hb, hml, hown, hts⟩ (c_X1_holds l dC dI cB cI cJ s.heap.size oSn aBn aPn aLn mzn cnn hsn gn Pn Ln av 1 (by first | omega | (split <;> omega)) (by first | omega | (split <;> omega))) ⟨va_cnB 2 hts gX3_cell_X1_holds_n82 rfl rfl rfl (hN (.methodLinkNest RX3 82 yX1_holds "GlulxHeads") (by decide +kernel)) (hts (.initialized RX1) (by decide +kernel)) (by decide +kernel) ⟨Nat.le_of_ble_eq_true rfl, Nat.le_of_ble_eq_true rfl⟩, hts (.instanceMethod yX1_holds) (by decide +kernel), hts (.selects RX1 yX1_holds yX1_holds) (by decide +kernel)⟩ ⟨wBlind, va_recv hK hPc (ci := 1) (q0 := 0) rfl rfl, wGo hK hPc hDc hN⟩ rfl rfl hl.1 rfl (lv_room (Nat.le_of_ble_eq_true rfl)) dX3_cell_19 ⟨show 0 ≤ 1 by decide, show 0 ≤ 6 by decide⟩) hS (fun q _ h => hFc q h) hFc (fun r_2 u t H1 locs ht hvm w_3 hB hz1 hk1 hS => ?_)
  clear u
  obtain ⟨hP1, hD1⟩ := hB
  rw [ht] at hP1
  try dsimp only at w_3
  obtain ⟨hP, hD⟩ := va_join (wr := [(oG, .inr (3, [.ref h0, .ref oM])), (oM, .inr (0, [.ref oSl, .ref oSn, .ref oSa, .ref oSe, .int (nI sv), .int (nI fk), .int fp, .int (nI kf), .int (nI kt), .int (nI sr)]))]) (w1 := [(oSn, .inr (1, [.ref aBn, .int (nI mzn), .ref aPn, .ref aLn, .int (nI cnn), .int (nI hsn)])), (aBn, .inl (cB, 8192, .inl gn)), (aPn, .inl (cI, 16, .inl Pn)), (aLn, .inl (cI, 16, .inl Ln))]) hP hD [2, 3, 4, 5] [0, 1] rfl rfl (by decide) (by decide) hk1 hFc hP1 hD1
  clear hPc hDc hFc hP1 hD1 hz1 hk1 hvm
  generalize H1 = H at hP hS ⊢
  have hP : va_P (dC, dI) vwCl [(oG, .inr (3, [.ref h0, .ref oM])), (oM, .inr (0, [.ref oSl, .ref oSn, .ref oSa, .ref oSe, .int (nI sv), .int (nI fk), .int fp, .int (nI kf), .int (nI kt), .int (nI sr)])), (oSn, .inr (1, [.ref aBn, .int (nI mzn), .ref aPn, .ref aLn, .int (nI cnn), .int (nI hsn)])), (aBn, .inl (cB, 8192, .inl gn)), (aPn, .inl (cI, 16, .inl Pn)), (aLn, .inl (cI, 16, .inl Ln))] H := hP
  have hD : va_D A [(oG, .inr (3, [.ref h0, .ref oM])), (oM, .inr (0, [.ref oSl, .ref oSn, .ref oSa, .ref oSe, .int (nI sv), .int (nI fk), .int fp, .int (nI kf), .int (nI kt), .int (nI sr)])), (oSn, .inr (1, [.ref aBn, .int (nI mzn), .ref aPn, .ref aLn, .int (nI cnn), .int (nI hsn)])), (aBn, .inl (cB, 8192, .inl gn)), (aPn, .inl (cI, 16, .inl Pn)), (aLn, .inl (cI, 16, .inl Ln))] := hD
  subst w_3
  refine wx_if_ne (tgt := 35) hx hb dX3_cell_22 (by decide) (by first | omega | (split <;> omega)) (fun c_4 => ?_) (fun c_4 => ?_)
  · skip
    have c_4 := wz_pos c_4
    obtain ⟨j, hj, rfl⟩ : ∃ j : Nat, j < 2147483648 ∧ av = nI j := nI_of (by intro z; rw [Int32.lt_iff_toInt_lt, show (0 : Int32).toInt = 0 by decide] at z; omega)
    have hjE : (nI j).toInt = (j : Int) := nI_toInt hj
    have hjT : (nI j).toInt.toNat = j := by rw [hjE]; exact Int.toNat_natCast _
    refine lv_aload_n hx hb dX3_cell_35 rfl (lv_at hl 0 rfl) ?_
    refine va_get (D := (dC, dI)) (ci := 3) (v := .ref oM) (C := RX3) (T := TX3) (N := 2) hx hb hts (by decide +kernel) hown hK hP 0 rfl rfl 1 (by decide) (hts (.fieldLink RX3 18 "GlulxHeads" "machine" "LGlulxHeads$Machine;") (by decide +kernel)) (fun _ h9 => h9) rfl dX3_cell_36 ?_
    refine va_getN (D := (dC, dI)) (ci := 0) (v := .ref oSn) (C := RX0) (T := TX0) (N := 10) hx hb hts (by decide +kernel) hown hK hP 1 rfl rfl 1 (by decide) (va_Nw.use rfl (hN (.fieldLinkNest RX3 79 "GlulxHeads$Machine" "now" "LGlulxHeads$State;" "GlulxHeads") (by decide +kernel))) (fun _ h9 => h9) rfl dX3_cell_39 ?_
    refine lv_iload_n hx hb dX3_cell_42 rfl (lv_at hl 1 rfl) ?_
    have hPc := hP.sub (ws' := [(oSn, .inr (1, [.ref aBn, .int (nI mzn), .ref aPn, .ref aLn, .int (nI cnn), .int (nI hsn)])), (aBn, .inl (cB, 8192, .inl gn)), (aPn, .inl (cI, 16, .inl Pn)), (aLn, .inl (cI, 16, .inl Ln))]) [2, 3, 4, 5] rfl
    have hDc := hD.sub (ws' := [(oSn, .inr (1, [.ref aBn, .int (nI mzn), .ref aPn, .ref aLn, .int (nI cnn), .int (nI hsn)])), (aBn, .inl (cB, 8192, .inl gn)), (aPn, .inl (cI, 16, .inl Pn)), (aLn, .inl (cI, 16, .inl Ln))]) [2, 3, 4, 5] (by decide) rfl
    have hFc := va_free (wc := [(oSn, .inr (1, [.ref aBn, .int (nI mzn), .ref aPn, .ref aLn, .int (nI cnn), .int (nI hsn)])), (aBn, .inl (cB, 8192, .inl gn)), (aPn, .inl (cI, 16, .inl Pn)), (aLn, .inl (cI, 16, .inl Ln))]) hD hS hA [2, 3, 4, 5] rfl
    refine va_calli (va_runVN (As := [.int (nI j)]) (rest := []) ⟨hx, hb, hml, hown, hts⟩ (c_X1_byteAt l dC dI cB cI cJ H.size oSn aBn aPn aLn mzn cnn hsn gn Pn Ln memn j hMn (by first | omega | (split <;> omega))) ⟨va_cnB 1 hts gX3_cell_X1_byteAt_n138 rfl rfl rfl (hN (.methodLinkNest RX3 138 yX1_byteAt "GlulxHeads") (by decide +kernel)) (hts (.initialized RX1) (by decide +kernel)) (by decide +kernel) ⟨Nat.le_of_ble_eq_true rfl, Nat.le_of_ble_eq_true rfl⟩, hts (.instanceMethod yX1_byteAt) (by decide +kernel), hts (.selects RX1 yX1_byteAt yX1_byteAt) (by decide +kernel)⟩ ⟨wBlind, va_recv hK hPc (ci := 1) (q0 := 0) rfl rfl, wGo hK hPc hDc hN⟩ rfl rfl hl.1 rfl (lv_room (Nat.le_of_ble_eq_true rfl)) dX3_cell_43 ⟨show 0 ≤ 1 by decide, show 0 ≤ 6 by decide⟩) hS (fun q _ h => hFc q h) hFc (fun r_6 u t H1 locs ht hvm w_7 hB hz1 hk1 hS => ?_)
    clear u
    obtain ⟨hP1, hD1⟩ := hB
    rw [ht] at hP1
    try dsimp only at w_7
    obtain ⟨hP, hD⟩ := va_join (wr := [(oG, .inr (3, [.ref h0, .ref oM])), (oM, .inr (0, [.ref oSl, .ref oSn, .ref oSa, .ref oSe, .int (nI sv), .int (nI fk), .int fp, .int (nI kf), .int (nI kt), .int (nI sr)]))]) (w1 := [(oSn, .inr (1, [.ref aBn, .int (nI mzn), .ref aPn, .ref aLn, .int (nI cnn), .int (nI hsn)])), (aBn, .inl (cB, 8192, .inl gn)), (aPn, .inl (cI, 16, .inl Pn)), (aLn, .inl (cI, 16, .inl Ln))]) hP hD [2, 3, 4, 5] [0, 1] rfl rfl (by decide) (by decide) hk1 hFc hP1 hD1
    clear hPc hDc hFc hP1 hD1 hz1 hk1 hvm
    generalize H1 = H at hP hS ⊢
    have hP : va_P (dC, dI) vwCl [(oG, .inr (3, [.ref h0, .ref oM])), (oM, .inr (0, [.ref oSl, .ref oSn, .ref oSa, .ref oSe, .int (nI sv), .int (nI fk), .int fp, .int (nI kf), .int (nI kt), .int (nI sr)])), (oSn, .inr (1, [.ref aBn, .int (nI mzn), .ref aPn, .ref aLn, .int (nI cnn), .int (nI hsn)])), (aBn, .inl (cB, 8192, .inl gn)), (aPn, .inl (cI, 16, .inl Pn)), (aLn, .inl (cI, 16, .inl Ln))] H := hP
    have hD : va_D A [(oG, .inr (3, [.ref h0, .ref oM])), (oM, .inr (0, [.ref oSl, .ref oSn, .ref oSa, .ref oSe, .int (nI sv), .int (nI fk), .int fp, .int (nI kf), .int (nI kt), .int (nI sr)])), (oSn, .inr (1, [.ref aBn, .int (nI mzn), .ref aPn, .ref aLn, .int (nI cnn), .int (nI hsn)])), (aBn, .inl (cB, 8192, .inl gn)), (aPn, .inl (cI, 16, .inl Pn)), (aLn, .inl (cI, 16, .inl Ln))] := hD
    refine W.widen (k := 1) (n := 6) (show 0 ≤ 1 by decide) (show 0 ≤ 6 by decide) ?_
    refine vx_ret ?_
    have hP9 := hP.sub (ws' := [(oG, .inr (3, [.ref h0, .ref oM])), (oM, .inr (0, [.ref oSl, .ref oSn, .ref oSa, .ref oSe, .int (nI sv), .int (nI fk), .int fp, .int (nI kf), .int (nI kt), .int (nI sr)])), (oSn, .inr (1, [.ref aBn, .int (nI mzn), .ref aPn, .ref aLn, .int (nI cnn), .int (nI hsn)])), (aBn, .inl (cB, 8192, .inl gn)), (aPn, .inl (cI, 16, .inl Pn)), (aLn, .inl (cI, 16, .inl Ln))]) [0, 1, 2, 3, 4, 5] rfl
    have hD9 := hD.sub (ws' := [(oG, .inr (3, [.ref h0, .ref oM])), (oM, .inr (0, [.ref oSl, .ref oSn, .ref oSa, .ref oSe, .int (nI sv), .int (nI fk), .int fp, .int (nI kf), .int (nI kt), .int (nI sr)])), (oSn, .inr (1, [.ref aBn, .int (nI mzn), .ref aPn, .ref aLn, .int (nI cnn), .int (nI hsn)])), (aBn, .inl (cB, 8192, .inl gn)), (aPn, .inl (cI, 16, .inl Pn)), (aLn, .inl (cI, 16, .inl Ln))]) [0, 1, 2, 3, 4, 5] (by decide) rfl
    exact W.iret (v := r_6) hx hb hr (fun t ht hW => ⟨⟨r_6, (), rfl, ⟨by omega, by rw [hjT]; exact w_7⟩, by rw [ht]; exact hP9, hD9⟩, hS.F ht⟩) hS.2.2 dX3_cell_46
  · skip
    have c_4 := wz_zero c_4
    obtain ⟨hXc, hXs, hXu, hXn⟩ := hXp
    have hat : ∀ w ∈ vx_atS RX3 145 "java/lang/IndexOutOfBoundsException" ["java/lang/RuntimeException", "java/lang/Exception"], w.before _ s = true := vx_hat (B := xW) (fun w hw => hts w (List.mem_cons_of_mem _ (List.mem_append_right _ hw))) (by decide +kernel) (fun w hw => xW_use hXc w hw)
    exact vx_throwS hx hb hfl hown (by decide +kernel) (by decide +kernel) (hts (.classLink RX3 141 "java/lang/IndexOutOfBoundsException") (by decide +kernel)) (hts (.initialized "java/lang/IndexOutOfBoundsException") (by decide +kernel)) hXs hat (by decide +kernel) hXu hXn hS (hl.1.trans hml.symm) dX3_cell_25 dX3_cell_28 dX3_cell_29 dX3_cell_31 dX3_cell_34 (fun x hx => (htab x hx).elim) (Nat.le_of_ble_eq_true rfl) (Nat.le_of_ble_eq_true rfl) (Nat.le_of_ble_eq_true rfl) (Nat.le_of_ble_eq_true rfl) hlocks (fun t hvm h1 h2 => ⟨(), c_4, ⟨rfl, hP.kept (fun k q hk => h2 q.1 ((hP k q hk).lt)), hD⟩, Nat.le_trans hS.1 h1, fun q hq hq2 => (h2 q (Nat.lt_of_lt_of_le hq hS.1)).trans (hS.2.1 q hq hq2)⟩) (fun z hz => hS.2.2 z hz) (by decide) (by decide)
set_option maxHeartbeats 4000000 in
set_option maxRecDepth 100000 in
theorem c_X3_cell_N (l : Launch) (hfl : l.stackTraces = false) (dC : Nat → ClassId) (dI : Nat → Nat → Nat) (cB cI cJ : ClassId) (sz : Nat) (sa : Nat) (oG : Nat) (h0 : Nat) (av : Int32)  : vx_Met l yX3_cell wsX3_cell ({ frames := 6, cells := 1, slots := 6, locals := 90 }) (va_Pc [.ref oG, .int av] (fun U => wPre dC dI cB cI cJ sz [(oG, .inr (3, [.ref h0, .null]))] U ∧ xPre sa (va_A [(oG, .inr (3, [.ref h0, .null]))] sz) U)) (va_Qi (fun (r : Int32) (u : Unit) => r = -3) (fun (u : Unit) => wPost dC dI (va_A [(oG, .inr (3, [.ref h0, .null]))] sz) [(oG, .inr (3, [.ref h0, .null]))]) (va_A [(oG, .inr (3, [.ref h0, .null]))] sz)) (vx_X (fun (u : Unit) => False) (fun (E : String) (u : Unit) t => E = "java/lang/IndexOutOfBoundsException" ∧ wPost dC dI (va_A [(oG, .inr (3, [.ref h0, .null]))] sz) [(oG, .inr (3, [.ref h0, .null]))] t) (va_A [(oG, .inr (3, [.ref h0, .null]))] sz)) 1 6 (va_A [(oG, .inr (3, [.ref h0, .null]))] sz) := by
  refine vx_ofW (cc := cX3_cell) (maxL := 2) (ret := (some .int)) (by decide) rfl ?_
  intro p e s m args below meth c s₁ B hml htab hv
  obtain ⟨rfl, ⟨hsz, hP, hK, hD0, hN⟩, hXp⟩ := hv
  have hx := B.exec
  have hb := B.bytes
  have hr := B.returns
  have hts := atoms_spec (ws := wsX3_cell) B.pre
  have hown : s.vm.findClass RX3 = some m.cls := findClass_of_methodNamed B.named
  have hlocks := B.notSynchronized
  subst hsz
  have hD := hD0.self (sz := s.heap.size)
  generalize hAe : va_A [(oG, .inr (3, [.ref h0, .null]))] s.heap.size = A at hD hXp ⊢
  have hA : ∀ q : Nat, s.heap.size ≤ q → A q := fun q h => by rw [← hAe]; exact Or.inr h
  have hS : va_S A s.heap s.heap [] := va_S.rf
  have hP : va_P (dC, dI) vwCl [(oG, .inr (3, [.ref h0, .null]))] s.heap := hP
  have hl := lv_entry ([.ref oG, .int av]) (n := 2) (Nat.le_of_ble_eq_true rfl)
  rw [lg_entry_eq]
  generalize (lg_sl ([.ref oG, .int av]) ++ List.replicate (2 - (lg_sl ([.ref oG, .int av])).length) Slot.unset).toArray = ls at hl ⊢
  have hl : lv_has ls 2 [(0, .ref oG), (1, .int av)] := hl
  refine lv_aload_n hx hb dX3_cell_0 rfl (lv_at hl 0 rfl) ?_
  refine va_get (D := (dC, dI)) (ci := 3) (v := .null) (C := RX3) (T := TX3) (N := 2) hx hb hts (by decide +kernel) hown hK hP 0 rfl rfl 1 (by decide) (hts (.fieldLink RX3 18 "GlulxHeads" "machine" "LGlulxHeads$Machine;") (by decide +kernel)) (fun _ h9 => h9) rfl dX3_cell_1 ?_
  refine lv_ifnonnullN hx hb dX3_cell_4 ?_
  refine lv_bipush (v := (-3)) hx hb dX3_cell_7 (by decide) ?_
  refine W.widen (k := 1) (n := 6) (show 0 ≤ 1 by decide) (show 0 ≤ 6 by decide) ?_
  refine vx_ret ?_
  have hP9 := hP.sub (ws' := [(oG, .inr (3, [.ref h0, .null]))]) [0] rfl
  have hD9 := hD.sub (ws' := [(oG, .inr (3, [.ref h0, .null]))]) [0] (by decide) rfl
  exact W.iret (v := (-3)) hx hb hr (fun t ht hW => ⟨⟨(-3), (), rfl, rfl, by rw [ht]; exact hP9, hD9⟩, hS.F ht⟩) hS.2.2 dX3_cell_9
