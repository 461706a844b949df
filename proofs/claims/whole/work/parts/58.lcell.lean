theorem wBlindX {av : List Value} {dC : Nat → ClassId} {dI : Nat → Nat → Nat} {cB cI cJ : ClassId} {sz : Nat} {ws : va_W} {sa : Nat} {A : Nat → Prop} : FrameBlind (va_Pc av (fun U => wPre dC dI cB cI cJ sz ws U ∧ xPre sa A U)) := fun a U g mk q => by
  obtain ⟨q0, q1, x1, x2, x3, x4⟩ := q
  have h := wBlind (dC := dC) (dI := dI) (cB := cB) (cI := cI) (cJ := cJ) (sz := sz) (ws := ws) a U g mk ⟨q0, q1⟩
  exact ⟨h.1, h.2, xW_same (s := U) (U := U.calling g mk a) rfl x1, vk_R.same (U := U.calling g mk a) (u := U) rfl x2, vx_Zq.moved (u := U) (U := U.calling g mk a) (Vm.Alike.refl U.vm) x3, vx_Zq.moved (u := U) (U := U.calling g mk a) (Vm.Alike.refl U.vm) x4⟩
theorem wGoX {av : List Value} {dC : Nat → ClassId} {dI : Nat → Nat → Nat} {cB cI cJ : ClassId} {ws : va_W} {s : State} {H : Heap} {locs : List Loc} {A A0 : Nat → Prop} {sa : Nat} (hK : va_K (dC, dI) vwCl (tyL cB cI cJ) s) (hP : va_P (dC, dI) vwCl ws H) (hD : va_D A ws) (hN : NB s) (hS : va_S A0 s.heap H locs) (hF : ∀ q, va_A ws H.size q → A0 q) (hX : xPre sa A0 s) : ∀ U : State, U.heap = H → s.WarmedH U.vm → va_Pc av (fun U => wPre dC dI cB cI cJ H.size ws U ∧ xPre sa (va_A ws H.size) U) av.toArray U :=
  fun U hU hW => ⟨rfl, (wGo (av := av) hK hP hD hN U hU hW).2, xW_warm hW hX.1, vk_R.warm hW hX.2.1, by rw [hU]; exact vx_Zq.moved hW.alike ((hX.2.2.1.kept hS.2.1).narrow hF), by rw [hU]; exact vx_Zq.moved hW.alike ((hX.2.2.2.kept hS.2.1).narrow hF)⟩
set_option maxHeartbeats 4000000 in
set_option maxRecDepth 100000 in
theorem c_L_cell_N (l : Launch) (hfl : l.stackTraces = false) (dC : Nat → ClassId) (dI : Nat → Nat → Nat) (cB cI cJ : ClassId) (sz : Nat) (sa : Nat) (oG : Nat) (h0 : Nat) (dO : Nat) (dov : Nat → Int64) (av : Int32) : Met l yL_cell wsL_cell ({ frames := 7, cells := 1, slots := 6, locals := 120 }) (va_Pc [.ref oG, .int av, .ref dO] (fun U => wPre dC dI cB cI cJ sz [(oG, .inr (3, [.ref h0, .null])), (dO, .inl (cJ, 1, .inr (.inl dov)))] U ∧ xPre sa (va_A [(oG, .inr (3, [.ref h0, .null])), (dO, .inl (cJ, 1, .inr (.inl dov)))] sz) U)) (va_Qi (fun (r : Int32) (u : Nat → Int64) => r = nI 0 ∧ u 0 = (-3 : Int32).toInt64) (fun (u : Nat → Int64) => wPost dC dI (va_A [(oG, .inr (3, [.ref h0, .null])), (dO, .inl (cJ, 1, .inr (.inl dov)))] sz) [(oG, .inr (3, [.ref h0, .null])), (dO, .inl (cJ, 1, .inr (.inl u)))]) (va_A [(oG, .inr (3, [.ref h0, .null])), (dO, .inl (cJ, 1, .inr (.inl dov)))] sz)) 1 6 (va_A [(oG, .inr (3, [.ref h0, .null])), (dO, .inl (cJ, 1, .inr (.inl dov)))] sz) := by
  refine va_MetW (cc := cL_cell) (maxL := 4) (ret := (some .int)) (hh := [(0, 9, 12, 13)]) (by decide) rfl ?_
  intro p e s m args below meth c s₁ B hml hv
  obtain ⟨rfl, ⟨hsz, hP, hK, hD0, hN⟩, hXp⟩ := hv
  have hx := B.exec
  have hb := B.bytes
  have hr := B.returns
  have hts := atoms_spec (ws := wsL_cell) B.pre
  have htb := vx_table (x := yL_cell) B (hts (.codeWith yL_cell cL_cell 4 (some .int) [(0, 9, 12, 13)]) List.mem_cons_self)
  have hown : s.vm.findClass RL = some m.cls := findClass_of_methodNamed B.named
  have hlocks := B.notSynchronized
  subst hsz
  have hD := hD0.self (sz := s.heap.size)
  generalize hAe : va_A [(oG, .inr (3, [.ref h0, .null])), (dO, .inl (cJ, 1, .inr (.inl dov)))] s.heap.size = A at hD hXp ⊢
  have hA : ∀ q : Nat, s.heap.size ≤ q → A q := fun q h => by rw [← hAe]; exact Or.inr h
  have hS : va_S A s.heap s.heap [] := va_S.rf
  have hP : va_P (dC, dI) vwCl [(oG, .inr (3, [.ref h0, .null])), (dO, .inl (cJ, 1, .inr (.inl dov)))] s.heap := hP
  have hl := lv_entry ([.ref oG, .int av, .ref dO]) (n := 4) (Nat.le_of_ble_eq_true rfl)
  rw [lg_entry_eq]
  generalize (lg_sl ([.ref oG, .int av, .ref dO]) ++ List.replicate (4 - (lg_sl ([.ref oG, .int av, .ref dO])).length) Slot.unset).toArray = ls at hl ⊢
  have hl : lv_has ls 4 [(0, .ref oG), (1, .int av), (2, .ref dO)] := hl
  refine lv_aload_n hx hb dL_cell_0 rfl (lv_at hl 2 rfl) ?_
  refine lv_iconst (v := nI 0) hx hb dL_cell_1 (by decide) ?_
  refine lv_aload_n hx hb dL_cell_2 rfl (lv_at hl 0 rfl) ?_
  refine lv_iload_n hx hb dL_cell_3 rfl (lv_at hl 1 rfl) ?_
  have hPc := hP.sub (ws' := [(oG, .inr (3, [.ref h0, .null]))]) [0] rfl
  have hDc := hD.sub (ws' := [(oG, .inr (3, [.ref h0, .null]))]) [0] (by decide) rfl
  have hFc := va_free (wc := [(oG, .inr (3, [.ref h0, .null]))]) hD hS hA [0] rfl
  refine vx_calli (vx_runV (As := [.int av]) (rest := [.int (nI 0), .ref dO]) ⟨hx, hb, hml, hown, hts⟩ (c_X3_cell_N l hfl dC dI cB cI cJ s.heap.size sa oG h0 av) (cwV 1 hts gL_cell_X3_cell rfl rfl rfl (by decide +kernel) ⟨Nat.le_of_ble_eq_true rfl, Nat.le_of_ble_eq_true rfl⟩) ⟨wBlindX, va_recv hK hPc (ci := 3) (q0 := 0) rfl rfl, wGoX hK hPc hDc hN hS hFc hXp⟩ rfl rfl hl.1 rfl (lv_room (Nat.le_of_ble_eq_true rfl)) dL_cell_4 ⟨show 0 + 1 ≤ 1 by decide, show 0 + 6 ≤ 6 by decide⟩) hS (fun q _ h => hFc q h) hFc (fun q _ h => hFc q h) (fun E ce q9 u t H1 locs ht hvm hpx hBX hz1 hk1 hS hce hcv hcl => ?_) (fun rc u t H1 locs ht hvm hw hB hz1 hk1 hS => ?_)
  · exact hpx.elim
  · obtain ⟨hP1, hD1⟩ := hB
    rw [ht] at hP1
    obtain ⟨hP, hD⟩ := va_join (wr := [(dO, .inl (cJ, 1, .inr (.inl dov)))]) (w1 := [(oG, .inr (3, [.ref h0, .null]))]) hP hD [0] [1] rfl rfl (by decide) (by decide) hk1 hFc hP1 hD1
    have hP : va_P (dC, dI) vwCl [(dO, .inl (cJ, 1, .inr (.inl dov))), (oG, .inr (3, [.ref h0, .null]))] H1 := hP
    have hD : va_D A [(dO, .inl (cJ, 1, .inr (.inl dov))), (oG, .inr (3, [.ref h0, .null]))] := hD
    refine lv_i2l (v := rc.toInt64) hx hb dL_cell_7 rfl ?_
    refine wx_last hx hb hK hP hD hS 0 2 rfl rfl (by decide) (by decide) dL_cell_8 (fun H locs hP hD hS => ?_)
    have hP : va_P (dC, dI) vwCl [(dO, .inl (cJ, 1, .inr (.inl (vp_updL dov 0 rc.toInt64)))), (oG, .inr (3, [.ref h0, .null]))] H := hP
    have hD : va_D A [(dO, .inl (cJ, 1, .inr (.inl (vp_updL dov 0 rc.toInt64)))), (oG, .inr (3, [.ref h0, .null]))] := hD
    refine lv_goto (tgt := 15) hx hb dL_cell_9 (by decide) ?_
    refine lv_iconst (v := nI 0) hx hb dL_cell_15 (by decide) ?_
    have hP9 := hP.sub (ws' := [(oG, .inr (3, [.ref h0, .null])), (dO, .inl (cJ, 1, .inr (.inl (vp_updL dov 0 rc.toInt64))))]) [1, 0] rfl
    have hD9 := hD.sub (ws' := [(oG, .inr (3, [.ref h0, .null])), (dO, .inl (cJ, 1, .inr (.inl (vp_updL dov 0 rc.toInt64))))]) [1, 0] (by decide) rfl
    exact W.iret (v := nI 0) hx hb hr (fun t ht hW => ⟨⟨nI 0, (vp_updL dov 0 rc.toInt64), rfl, ⟨rfl, by rw [pk_uLs, hw]⟩, by rw [ht]; exact hP9, hD9⟩, hS.F ht⟩) hS.2.2 dL_cell_16
set_option maxHeartbeats 4000000 in
set_option maxRecDepth 100000 in
theorem c_L_cell_M (l : Launch) (hfl : l.stackTraces = false) (dC : Nat → ClassId) (dI : Nat → Nat → Nat) (cB cI cJ : ClassId) (sz : Nat) (sa : Nat) (oG : Nat) (h0 : Nat) (oM : Nat) (oSl : Nat) (oSn : Nat) (oSa : Nat) (oSe : Nat) (sv : Nat) (fk : Nat) (fp : Int32) (kf : Nat) (kt : Nat) (sr : Nat) (aBn : Nat) (aPn : Nat) (aLn : Nat) (mzn : Nat) (cnn : Nat) (hsn : Nat) (gn : Nat → Int32) (Pn : Nat → Int32) (Ln : Nat → Int32) (memn : Nat → Nat) (dO : Nat) (dov : Nat → Int64) (av : Int32) (hMn : mOk gn mzn memn) : Met l yL_cell wsL_cell ({ frames := 7, cells := 1, slots := 6, locals := 120 }) (va_Pc [.ref oG, .int av, .ref dO] (fun U => wPre dC dI cB cI cJ sz [(oG, .inr (3, [.ref h0, .ref oM])), (oM, .inr (0, [.ref oSl, .ref oSn, .ref oSa, .ref oSe, .int (nI sv), .int (nI fk), .int fp, .int (nI kf), .int (nI kt), .int (nI sr)])), (oSn, .inr (1, [.ref aBn, .int (nI mzn), .ref aPn, .ref aLn, .int (nI cnn), .int (nI hsn)])), (aBn, .inl (cB, 8192, .inl gn)), (aPn, .inl (cI, 16, .inl Pn)), (aLn, .inl (cI, 16, .inl Ln)), (dO, .inl (cJ, 1, .inr (.inl dov)))] U ∧ xPre sa (va_A [(oG, .inr (3, [.ref h0, .ref oM])), (oM, .inr (0, [.ref oSl, .ref oSn, .ref oSa, .ref oSe, .int (nI sv), .int (nI fk), .int fp, .int (nI kf), .int (nI kt), .int (nI sr)])), (oSn, .inr (1, [.ref aBn, .int (nI mzn), .ref aPn, .ref aLn, .int (nI cnn), .int (nI hsn)])), (aBn, .inl (cB, 8192, .inl gn)), (aPn, .inl (cI, 16, .inl Pn)), (aLn, .inl (cI, 16, .inl Ln)), (dO, .inl (cJ, 1, .inr (.inl dov)))] sz) U)) (va_Qi (fun (r : Int32) (u : Nat → Int64) => r = nI (if inM av 1 mzn then 0 else 1) ∧ (inM av 1 mzn → u 0 = lN (memn av.toInt.toNat))) (fun (u : Nat → Int64) => wPost dC dI (va_A [(oG, .inr (3, [.ref h0, .ref oM])), (oM, .inr (0, [.ref oSl, .ref oSn, .ref oSa, .ref oSe, .int (nI sv), .int (nI fk), .int fp, .int (nI kf), .int (nI kt), .int (nI sr)])), (oSn, .inr (1, [.ref aBn, .int (nI mzn), .ref aPn, .ref aLn, .int (nI cnn), .int (nI hsn)])), (aBn, .inl (cB, 8192, .inl gn)), (aPn, .inl (cI, 16, .inl Pn)), (aLn, .inl (cI, 16, .inl Ln)), (dO, .inl (cJ, 1, .inr (.inl dov)))] sz) [(oG, .inr (3, [.ref h0, .ref oM])), (oM, .inr (0, [.ref oSl, .ref oSn, .ref oSa, .ref oSe, .int (nI sv), .int (nI fk), .int fp, .int (nI kf), .int (nI kt), .int (nI sr)])), (oSn, .inr (1, [.ref aBn, .int (nI mzn), .ref aPn, .ref aLn, .int (nI cnn), .int (nI hsn)])), (aBn, .inl (cB, 8192, .inl gn)), (aPn, .inl (cI, 16, .inl Pn)), (aLn, .inl (cI, 16, .inl Ln)), (dO, .inl (cJ, 1, .inr (.inl u)))]) (va_A [(oG, .inr (3, [.ref h0, .ref oM])), (oM, .inr (0, [.ref oSl, .ref oSn, .ref oSa, .ref oSe, .int (nI sv), .int (nI fk), .int fp, .int (nI kf), .int (nI kt), .int (nI sr)])), (oSn, .inr (1, [.ref aBn, .int (nI mzn), .ref aPn, .ref aLn, .int (nI cnn), .int (nI hsn)])), (aBn, .inl (cB, 8192, .inl gn)), (aPn, .inl (cI, 16, .inl Pn)), (aLn, .inl (cI, 16, .inl Ln)), (dO, .inl (cJ, 1, .inr (.inl dov)))] sz)) 1 6 (va_A [(oG, .inr (3, [.ref h0, .ref oM])), (oM, .inr (0, [.ref oSl, .ref oSn, .ref oSa, .ref oSe, .int (nI sv), .int (nI fk), .int fp, .int (nI kf), .int (nI kt), .int (nI sr)])), (oSn, .inr (1, [.ref aBn, .int (nI mzn), .ref aPn, .ref aLn, .int (nI cnn), .int (nI hsn)])), (aBn, .inl (cB, 8192, .inl gn)), (aPn, .inl (cI, 16, .inl Pn)), (aLn, .inl (cI, 16, .inl Ln)), (dO, .inl (cJ, 1, .inr (.inl dov)))] sz) := by
  refine va_MetW (cc := cL_cell) (maxL := 4) (ret := (some .int)) (hh := [(0, 9, 12, 13)]) (by decide) rfl ?_
  intro p e s m args below meth c s₁ B hml hv
  obtain ⟨rfl, ⟨hsz, hP, hK, hD0, hN⟩, hXp⟩ := hv
  have hx := B.exec
  have hb := B.bytes
  have hr := B.returns
  have hts := atoms_spec (ws := wsL_cell) B.pre
  have htb := vx_table (x := yL_cell) B (hts (.codeWith yL_cell cL_cell 4 (some .int) [(0, 9, 12, 13)]) List.mem_cons_self)
  have hown : s.vm.findClass RL = some m.cls := findClass_of_methodNamed B.named
  have hlocks := B.notSynchronized
  subst hsz
  have hD := hD0.self (sz := s.heap.size)
  generalize hAe : va_A [(oG, .inr (3, [.ref h0, .ref oM])), (oM, .inr (0, [.ref oSl, .ref oSn, .ref oSa, .ref oSe, .int (nI sv), .int (nI fk), .int fp, .int (nI kf), .int (nI kt), .int (nI sr)])), (oSn, .inr (1, [.ref aBn, .int (nI mzn), .ref aPn, .ref aLn, .int (nI cnn), .int (nI hsn)])), (aBn, .inl (cB, 8192, .inl gn)), (aPn, .inl (cI, 16, .inl Pn)), (aLn, .inl (cI, 16, .inl Ln)), (dO, .inl (cJ, 1, .inr (.inl dov)))] s.heap.size = A at hD hXp ⊢
  have hA : ∀ q : Nat, s.heap.size ≤ q → A q := fun q h => by rw [← hAe]; exact Or.inr h
  have hS : va_S A s.heap s.heap [] := va_S.rf
  have hP : va_P (dC, dI) vwCl [(oG, .inr (3, [.ref h0, .ref oM])), (oM, .inr (0, [.ref oSl, .ref oSn, .ref oSa, .ref oSe, .int (nI sv), .int (nI fk), .int fp, .int (nI kf), .int (nI kt), .int (nI sr)])), (oSn, .inr (1, [.ref aBn, .int (nI mzn), .ref aPn, .ref aLn, .int (nI cnn), .int (nI hsn)])), (aBn, .inl (cB, 8192, .inl gn)), (aPn, .inl (cI, 16, .inl Pn)), (aLn, .inl (cI, 16, .inl Ln)), (dO, .inl (cJ, 1, .inr (.inl dov)))] s.heap := hP
  have hl := lv_entry ([.ref oG, .int av, .ref dO]) (n := 4) (Nat.le_of_ble_eq_true rfl)
  rw [lg_entry_eq]
  generalize (lg_sl ([.ref oG, .int av, .ref dO]) ++ List.replicate (4 - (lg_sl ([.ref oG, .int av, .ref dO])).length) Slot.unset).toArray = ls at hl ⊢
  have hl : lv_has ls 4 [(0, .ref oG), (1, .int av), (2, .ref dO)] := hl
  refine lv_aload_n hx hb dL_cell_0 rfl (lv_at hl 2 rfl) ?_
  refine lv_iconst (v := nI 0) hx hb dL_cell_1 (by decide) ?_
  refine lv_aload_n hx hb dL_cell_2 rfl (lv_at hl 0 rfl) ?_
  refine lv_iload_n hx hb dL_cell_3 rfl (lv_at hl 1 rfl) ?_
  have hPc := hP.sub (ws' := [(oG, .inr (3, [.ref h0, .ref oM])), (oM, .inr (0, [.ref oSl, .ref oSn, .ref oSa, .ref oSe, .int (nI sv), .int (nI fk), .int fp, .int (nI kf), .int (nI kt), .int (nI sr)])), (oSn, .inr (1, [.ref aBn, .int (nI mzn), .ref aPn, .ref aLn, .int (nI cnn), .int (nI hsn)])), (aBn, .inl (cB, 8192, .inl gn)), (aPn, .inl (cI, 16, .inl Pn)), (aLn, .inl (cI, 16, .inl Ln))]) [0, 1, 2, 3, 4, 5] rfl
  have hDc := hD.sub (ws' := [(oG, .inr (3, [.ref h0, .ref oM])), (oM, .inr (0, [.ref oSl, .ref oSn, .ref oSa, .ref oSe, .int (nI sv), .int (nI fk), .int fp, .int (nI kf), .int (nI kt), .int (nI sr)])), (oSn, .inr (1, [.ref aBn, .int (nI mzn), .ref aPn, .ref aLn, .int (nI cnn), .int (nI hsn)])), (aBn, .inl (cB, 8192, .inl gn)), (aPn, .inl (cI, 16, .inl Pn)), (aLn, .inl (cI, 16, .inl Ln))]) [0, 1, 2, 3, 4, 5] (by decide) rfl
  have hFc := va_free (wc := [(oG, .inr (3, [.ref h0, .ref oM])), (oM, .inr (0, [.ref oSl, .ref oSn, .ref oSa, .ref oSe, .int (nI sv), .int (nI fk), .int fp, .int (nI kf), .int (nI kt), .int (nI sr)])), (oSn, .inr (1, [.ref aBn, .int (nI mzn), .ref aPn, .ref aLn, .int (nI cnn), .int (nI hsn)])), (aBn, .inl (cB, 8192, .inl gn)), (aPn, .inl (cI, 16, .inl Pn)), (aLn, .inl (cI, 16, .inl Ln))]) hD hS hA [0, 1, 2, 3, 4, 5] rfl
  refine vx_calli (vx_runV (As := [.int av]) (rest := [.int (nI 0), .ref dO]) ⟨hx, hb, hml, hown, hts⟩ (c_X3_cell_M l hfl dC dI cB cI cJ s.heap.size sa oG h0 oM oSl oSn oSa oSe sv fk fp kf kt sr aBn aPn aLn mzn cnn hsn gn Pn Ln memn av hMn) (cwV 1 hts gL_cell_X3_cell rfl rfl rfl (by decide +kernel) ⟨Nat.le_of_ble_eq_true rfl, Nat.le_of_ble_eq_true rfl⟩) ⟨wBlindX, va_recv hK hPc (ci := 3) (q0 := 0) rfl rfl, wGoX hK hPc hDc hN hS hFc hXp⟩ rfl rfl hl.1 rfl (lv_room (Nat.le_of_ble_eq_true rfl)) dL_cell_4 ⟨show 0 + 1 ≤ 1 by decide, show 0 + 6 ≤ 6 by decide⟩) hS (fun q _ h => hFc q h) hFc (fun q _ h => hFc q h) (fun E ce q9 u t H1 locs ht hvm hpx hBX hz1 hk1 hS hce hcv hcl => ?_) (fun rc u t H1 locs ht hvm hw hB hz1 hk1 hS => ?_)
  · obtain ⟨rfl, hP1, hD1⟩ := hBX
    rw [ht] at hP1
    obtain ⟨hP, hD⟩ := va_join (wr := [(dO, .inl (cJ, 1, .inr (.inl dov)))]) (w1 := [(oG, .inr (3, [.ref h0, .ref oM])), (oM, .inr (0, [.ref oSl, .ref oSn, .ref oSa, .ref oSe, .int (nI sv), .int (nI fk), .int fp, .int (nI kf), .int (nI kt), .int (nI sr)])), (oSn, .inr (1, [.ref aBn, .int (nI mzn), .ref aPn, .ref aLn, .int (nI cnn), .int (nI hsn)])), (aBn, .inl (cB, 8192, .inl gn)), (aPn, .inl (cI, 16, .inl Pn)), (aLn, .inl (cI, 16, .inl Ln))]) hP hD [0, 1, 2, 3, 4, 5] [6] rfl rfl (by decide) (by decide) hk1 hFc hP1 hD1
    have hP : va_P (dC, dI) vwCl [(dO, .inl (cJ, 1, .inr (.inl dov))), (oG, .inr (3, [.ref h0, .ref oM])), (oM, .inr (0, [.ref oSl, .ref oSn, .ref oSa, .ref oSe, .int (nI sv), .int (nI fk), .int fp, .int (nI kf), .int (nI kt), .int (nI sr)])), (oSn, .inr (1, [.ref aBn, .int (nI mzn), .ref aPn, .ref aLn, .int (nI cnn), .int (nI hsn)])), (aBn, .inl (cB, 8192, .inl gn)), (aPn, .inl (cI, 16, .inl Pn)), (aLn, .inl (cI, 16, .inl Ln))] H1 := hP
    have hD : va_D A [(dO, .inl (cJ, 1, .inr (.inl dov))), (oG, .inr (3, [.ref h0, .ref oM])), (oM, .inr (0, [.ref oSl, .ref oSn, .ref oSa, .ref oSe, .int (nI sv), .int (nI fk), .int fp, .int (nI kf), .int (nI kt), .int (nI sr)])), (oSn, .inr (1, [.ref aBn, .int (nI mzn), .ref aPn, .ref aLn, .int (nI cnn), .int (nI hsn)])), (aBn, .inl (cB, 8192, .inl gn)), (aPn, .inl (cI, 16, .inl Pn)), (aLn, .inl (cI, 16, .inl Ln))] := hD
    refine vx_catch (own := RL) (name := "java/lang/IndexOutOfBoundsException") hown [] ⟨0, 9, 12, 13⟩ [] (by rw [htb]; rfl) (fun z hz => nomatch hz) (by decide) (by decide) (hts (.classLink RL 13 "java/lang/IndexOutOfBoundsException") (by decide +kernel)) (xW_use hXp.1 _ (by decide +kernel)) hce hcv hcl ?_
    refine lv_astore_n (lv' := [(3, .ref q9), (0, .ref oG), (1, .int av), (2, .ref dO)]) hx hb dL_cell_12 rfl hl (by decide) rfl (fun ls hl => ?_)
    refine lv_iconst (v := nI 1) hx hb dL_cell_13 (by decide) ?_
    have hP9 := hP.sub (ws' := [(oG, .inr (3, [.ref h0, .ref oM])), (oM, .inr (0, [.ref oSl, .ref oSn, .ref oSa, .ref oSe, .int (nI sv), .int (nI fk), .int fp, .int (nI kf), .int (nI kt), .int (nI sr)])), (oSn, .inr (1, [.ref aBn, .int (nI mzn), .ref aPn, .ref aLn, .int (nI cnn), .int (nI hsn)])), (aBn, .inl (cB, 8192, .inl gn)), (aPn, .inl (cI, 16, .inl Pn)), (aLn, .inl (cI, 16, .inl Ln)), (dO, .inl (cJ, 1, .inr (.inl dov)))]) [1, 2, 3, 4, 5, 6, 0] rfl
    have hD9 := hD.sub (ws' := [(oG, .inr (3, [.ref h0, .ref oM])), (oM, .inr (0, [.ref oSl, .ref oSn, .ref oSa, .ref oSe, .int (nI sv), .int (nI fk), .int fp, .int (nI kf), .int (nI kt), .int (nI sr)])), (oSn, .inr (1, [.ref aBn, .int (nI mzn), .ref aPn, .ref aLn, .int (nI cnn), .int (nI hsn)])), (aBn, .inl (cB, 8192, .inl gn)), (aPn, .inl (cI, 16, .inl Pn)), (aLn, .inl (cI, 16, .inl Ln)), (dO, .inl (cJ, 1, .inr (.inl dov)))]) [1, 2, 3, 4, 5, 6, 0] (by decide) rfl
    exact W.iret (v := nI 1) hx hb hr (fun t ht hW => ⟨⟨nI 1, dov, rfl, ⟨by rw [if_neg hpx], fun z => absurd z hpx⟩, by rw [ht]; exact hP9, hD9⟩, hS.F ht⟩) hS.2.2 dL_cell_14
  · obtain ⟨hP1, hD1⟩ := hB
    rw [ht] at hP1
    obtain ⟨hP, hD⟩ := va_join (wr := [(dO, .inl (cJ, 1, .inr (.inl dov)))]) (w1 := [(oG, .inr (3, [.ref h0, .ref oM])), (oM, .inr (0, [.ref oSl, .ref oSn, .ref oSa, .ref oSe, .int (nI sv), .int (nI fk), .int fp, .int (nI kf), .int (nI kt), .int (nI sr)])), (oSn, .inr (1, [.ref aBn, .int (nI mzn), .ref aPn, .ref aLn, .int (nI cnn), .int (nI hsn)])), (aBn, .inl (cB, 8192, .inl gn)), (aPn, .inl (cI, 16, .inl Pn)), (aLn, .inl (cI, 16, .inl Ln))]) hP hD [0, 1, 2, 3, 4, 5] [6] rfl rfl (by decide) (by decide) hk1 hFc hP1 hD1
    have hP : va_P (dC, dI) vwCl [(dO, .inl (cJ, 1, .inr (.inl dov))), (oG, .inr (3, [.ref h0, .ref oM])), (oM, .inr (0, [.ref oSl, .ref oSn, .ref oSa, .ref oSe, .int (nI sv), .int (nI fk), .int fp, .int (nI kf), .int (nI kt), .int (nI sr)])), (oSn, .inr (1, [.ref aBn, .int (nI mzn), .ref aPn, .ref aLn, .int (nI cnn), .int (nI hsn)])), (aBn, .inl (cB, 8192, .inl gn)), (aPn, .inl (cI, 16, .inl Pn)), (aLn, .inl (cI, 16, .inl Ln))] H1 := hP
    have hD : va_D A [(dO, .inl (cJ, 1, .inr (.inl dov))), (oG, .inr (3, [.ref h0, .ref oM])), (oM, .inr (0, [.ref oSl, .ref oSn, .ref oSa, .ref oSe, .int (nI sv), .int (nI fk), .int fp, .int (nI kf), .int (nI kt), .int (nI sr)])), (oSn, .inr (1, [.ref aBn, .int (nI mzn), .ref aPn, .ref aLn, .int (nI cnn), .int (nI hsn)])), (aBn, .inl (cB, 8192, .inl gn)), (aPn, .inl (cI, 16, .inl Pn)), (aLn, .inl (cI, 16, .inl Ln))] := hD
    refine lv_i2l (v := rc.toInt64) hx hb dL_cell_7 rfl ?_
    refine wx_last hx hb hK hP hD hS 0 2 rfl rfl (by decide) (by decide) dL_cell_8 (fun H locs hP hD hS => ?_)
    have hP : va_P (dC, dI) vwCl [(dO, .inl (cJ, 1, .inr (.inl (vp_updL dov 0 rc.toInt64)))), (oG, .inr (3, [.ref h0, .ref oM])), (oM, .inr (0, [.ref oSl, .ref oSn, .ref oSa, .ref oSe, .int (nI sv), .int (nI fk), .int fp, .int (nI kf), .int (nI kt), .int (nI sr)])), (oSn, .inr (1, [.ref aBn, .int (nI mzn), .ref aPn, .ref aLn, .int (nI cnn), .int (nI hsn)])), (aBn, .inl (cB, 8192, .inl gn)), (aPn, .inl (cI, 16, .inl Pn)), (aLn, .inl (cI, 16, .inl Ln))] H := hP
    have hD : va_D A [(dO, .inl (cJ, 1, .inr (.inl (vp_updL dov 0 rc.toInt64)))), (oG, .inr (3, [.ref h0, .ref oM])), (oM, .inr (0, [.ref oSl, .ref oSn, .ref oSa, .ref oSe, .int (nI sv), .int (nI fk), .int fp, .int (nI kf), .int (nI kt), .int (nI sr)])), (oSn, .inr (1, [.ref aBn, .int (nI mzn), .ref aPn, .ref aLn, .int (nI cnn), .int (nI hsn)])), (aBn, .inl (cB, 8192, .inl gn)), (aPn, .inl (cI, 16, .inl Pn)), (aLn, .inl (cI, 16, .inl Ln))] := hD
    refine lv_goto (tgt := 15) hx hb dL_cell_9 (by decide) ?_
    refine lv_iconst (v := nI 0) hx hb dL_cell_15 (by decide) ?_
    have hP9 := hP.sub (ws' := [(oG, .inr (3, [.ref h0, .ref oM])), (oM, .inr (0, [.ref oSl, .ref oSn, .ref oSa, .ref oSe, .int (nI sv), .int (nI fk), .int fp, .int (nI kf), .int (nI kt), .int (nI sr)])), (oSn, .inr (1, [.ref aBn, .int (nI mzn), .ref aPn, .ref aLn, .int (nI cnn), .int (nI hsn)])), (aBn, .inl (cB, 8192, .inl gn)), (aPn, .inl (cI, 16, .inl Pn)), (aLn, .inl (cI, 16, .inl Ln)), (dO, .inl (cJ, 1, .inr (.inl (vp_updL dov 0 rc.toInt64))))]) [1, 2, 3, 4, 5, 6, 0] rfl
    have hD9 := hD.sub (ws' := [(oG, .inr (3, [.ref h0, .ref oM])), (oM, .inr (0, [.ref oSl, .ref oSn, .ref oSa, .ref oSe, .int (nI sv), .int (nI fk), .int fp, .int (nI kf), .int (nI kt), .int (nI sr)])), (oSn, .inr (1, [.ref aBn, .int (nI mzn), .ref aPn, .ref aLn, .int (nI cnn), .int (nI hsn)])), (aBn, .inl (cB, 8192, .inl gn)), (aPn, .inl (cI, 16, .inl Pn)), (aLn, .inl (cI, 16, .inl Ln)), (dO, .inl (cJ, 1, .inr (.inl (vp_updL dov 0 rc.toInt64))))]) [1, 2, 3, 4, 5, 6, 0] (by decide) rfl
    exact W.iret (v := nI 0) hx hb hr (fun t ht hW => ⟨⟨nI 0, (vp_updL dov 0 rc.toInt64), rfl, ⟨by rw [if_pos hw.1], fun _ => by rw [pk_uLs, hw.2]; exact nI_l (Nat.lt_trans (hMn.2.1 _) (by decide))⟩, by rw [ht]; exact hP9, hD9⟩, hS.F ht⟩) hS.2.2 dL_cell_16
