theorem keep_n {dm : Nat → Int32} {i mz en ka kn : Nat} {mem lm : Nat → Nat} (h : ∀ q, q < 8192 → (q < i → q < en → dm q = nI (keepM mem mz lm en ka (ka + kn) q)) ∧ (i ≤ q → q < mz → dm q = nI (mem q))) (hi : i < en) (hi2 : i < 8192) (hs : ka ≤ i ∧ i < ka + kn ∧ i < mz ∧ i < en) : ∀ q, q < 8192 → (q < i + 1 → q < en → dm q = nI (keepM mem mz lm en ka (ka + kn) q)) ∧ (i + 1 ≤ q → q < mz → dm q = nI (mem q)) := by
  intro q hq
  refine ⟨fun h1 h2 => ?_, fun h1 h2 => (h q hq).2 (by omega) h2⟩
  by_cases z : q = i
  · subst z; rw [(h q hq).2 (Nat.le_refl _) (by omega)]; unfold keepM; rw [if_pos hs]
  · exact (h q hq).1 (by omega) h2
theorem keep_s {dm : Nat → Int32} {i mz en ka kn : Nat} {mem lm : Nat → Nat} {x : Int32} (h : ∀ q, q < 8192 → (q < i → q < en → dm q = nI (keepM mem mz lm en ka (ka + kn) q)) ∧ (i ≤ q → q < mz → dm q = nI (mem q))) (hi : i < en) (hi2 : i < 8192) (hs : ¬ (ka ≤ i ∧ i < ka + kn ∧ i < mz ∧ i < en)) (hx : x = nI (lm i)) : ∀ q, q < 8192 → (q < i + 1 → q < en → upd dm i x q = nI (keepM mem mz lm en ka (ka + kn) q)) ∧ (i + 1 ≤ q → q < mz → upd dm i x q = nI (mem q)) := by
  intro q hq
  refine ⟨fun h1 h2 => ?_, fun h1 h2 => ?_⟩
  · by_cases z : q = i
    · subst z; rw [pk_us, hx]; unfold keepM; rw [if_neg hs]
    · rw [pk_un z]; exact (h q hq).1 (by omega) h2
  · rw [pk_un (by omega)]; exact (h q hq).2 (by omega) h2
set_option maxHeartbeats 1000000 in
set_option maxRecDepth 100000 in
theorem c_X4_grow (l : Launch) (dC : Nat → ClassId) (dI : Nat → Nat → Nat) (cB cI cJ : ClassId) (sz : Nat) (oD : Nat) (th : Nat) (dF : Nat) (len : Nat) (ha : Nat) (dH : Nat) (sr : Nat) (dL : Nat) (en : Nat) (ram : Nat) (mz : Nat) (dM : Nat) (hp : Nat) (cn : Nat) (dP : Nat) (dS : Nat) (fk : Nat) (fp : Int32) (ka : Nat) (kn : Nat) (sv : Nat) (dK : Nat) (dm : Nat → Int32) (mem : Nat → Nat) (n : Nat) (hmz : mz ≤ 8192) (hm : gOk dm mz mem) (hmem : ∀ j, mem j < 256) (hz : ∀ j, mz ≤ j → mem j = 0) (hn : n ≤ 8192) : Met l yX4_grow wsX4_grow ({ frames := 0, cells := 0, slots := 0, locals := 0 }) (va_Pc [.ref oD, .int (nI n)] (wPre dC dI cB cI cJ sz [(oD, .inr (4, [.int (nI th), .ref dF, .int (nI len), .int (nI ha), .ref dH, .int (nI sr), .ref dL, .int (nI en), .int (nI ram), .int (nI mz), .ref dM, .int (nI hp), .int (nI cn), .ref dP, .ref dS, .int (nI fk), .int fp, .int (nI ka), .int (nI kn), .int (nI sv), .ref dK])), (dM, .inl (cI, 8192, .inl dm))])) (va_Qv (fun (u : (Nat → Int32)) => gOk u n (cutM mem n)) (fun (u : (Nat → Int32)) => wPost dC dI (va_A [(oD, .inr (4, [.int (nI th), .ref dF, .int (nI len), .int (nI ha), .ref dH, .int (nI sr), .ref dL, .int (nI en), .int (nI ram), .int (nI mz), .ref dM, .int (nI hp), .int (nI cn), .ref dP, .ref dS, .int (nI fk), .int fp, .int (nI ka), .int (nI kn), .int (nI sv), .ref dK])), (dM, .inl (cI, 8192, .inl dm))] sz) [(oD, .inr (4, [.int (nI th), .ref dF, .int (nI len), .int (nI ha), .ref dH, .int (nI sr), .ref dL, .int (nI en), .int (nI ram), .int (nI n), .ref dM, .int (nI hp), .int (nI cn), .ref dP, .ref dS, .int (nI fk), .int fp, .int (nI ka), .int (nI kn), .int (nI sv), .ref dK])), (dM, .inl (cI, 8192, .inl u))]) (va_A [(oD, .inr (4, [.int (nI th), .ref dF, .int (nI len), .int (nI ha), .ref dH, .int (nI sr), .ref dL, .int (nI en), .int (nI ram), .int (nI mz), .ref dM, .int (nI hp), .int (nI cn), .ref dP, .ref dS, .int (nI fk), .int fp, .int (nI ka), .int (nI kn), .int (nI sv), .ref dK])), (dM, .inl (cI, 8192, .inl dm))] sz)) 0 0 (va_A [(oD, .inr (4, [.int (nI th), .ref dF, .int (nI len), .int (nI ha), .ref dH, .int (nI sr), .ref dL, .int (nI en), .int (nI ram), .int (nI mz), .ref dM, .int (nI hp), .int (nI cn), .ref dP, .ref dS, .int (nI fk), .int fp, .int (nI ka), .int (nI kn), .int (nI sv), .ref dK])), (dM, .inl (cI, 8192, .inl dm))] sz) := by
  refine Met.ofW (cc := cX4_grow) (maxL := 3) (ret := none) (by decide) rfl ?_
  intro p e s m args below meth c s₁ B hml hv
  obtain ⟨rfl, hsz, hP, hK, hD0, hN⟩ := hv
  have hx := B.exec
  have hb := B.bytes
  have hr := B.returns
  have hts := atoms_spec (ws := wsX4_grow) B.pre
  have hown : s.vm.findClass RX4 = some m.cls := findClass_of_methodNamed B.named
  have hlocks := B.notSynchronized
  subst hsz
  have hD := hD0.self (sz := s.heap.size)
  generalize hAe : va_A [(oD, .inr (4, [.int (nI th), .ref dF, .int (nI len), .int (nI ha), .ref dH, .int (nI sr), .ref dL, .int (nI en), .int (nI ram), .int (nI mz), .ref dM, .int (nI hp), .int (nI cn), .ref dP, .ref dS, .int (nI fk), .int fp, .int (nI ka), .int (nI kn), .int (nI sv), .ref dK])), (dM, .inl (cI, 8192, .inl dm))] s.heap.size = A at hD ⊢
  have hA : ∀ q : Nat, s.heap.size ≤ q → A q := fun q h => by rw [← hAe]; exact Or.inr h
  have hS : va_S A s.heap s.heap [] := va_S.rf
  have hP : va_P (dC, dI) vwCl [(oD, .inr (4, [.int (nI th), .ref dF, .int (nI len), .int (nI ha), .ref dH, .int (nI sr), .ref dL, .int (nI en), .int (nI ram), .int (nI mz), .ref dM, .int (nI hp), .int (nI cn), .ref dP, .ref dS, .int (nI fk), .int fp, .int (nI ka), .int (nI kn), .int (nI sv), .ref dK])), (dM, .inl (cI, 8192, .inl dm))] s.heap := hP
  have hl := lv_entry ([.ref oD, .int (nI n)]) (n := 3) (Nat.le_of_ble_eq_true rfl)
  rw [lg_entry_eq]
  generalize (lg_sl ([.ref oD, .int (nI n)]) ++ List.replicate (3 - (lg_sl ([.ref oD, .int (nI n)])).length) Slot.unset).toArray = ls at hl ⊢
  have hl : lv_has ls 3 [(0, .ref oD), (1, .int (nI n))] := hl
  refine lv_aload_n hx hb dX4_grow_0 rfl (lv_at hl 0 rfl) ?_
  refine va_get (D := (dC, dI)) (ci := 4) (v := .int (nI mz)) (C := RX4) (T := TX4) (N := 21) hx hb hts (by decide +kernel) hown hK hP 0 rfl rfl 9 (by decide) (hts (.fieldLink RX4 89 "GlulxHeadsModel" "m" "I") (by decide +kernel)) (fun _ h9 => h9) rfl dX4_grow_1 ?_
  refine lv_istore_n (lv' := [(2, .int (nI mz)), (0, .ref oD), (1, .int (nI n))]) hx hb dX4_grow_4 rfl hl (by decide) rfl (fun ls hl => ?_)
  refine wx_loop (σ := Nat × (Nat → Int32)) (fun xq9 => n - xq9.1) (fun xq9 H locs ls => (mz ≤ xq9.1) ∧ (xq9.1 ≤ 8192) ∧ (gOk xq9.2 xq9.1 mem) ∧ va_P (dC, dI) vwCl [(oD, .inr (4, [.int (nI th), .ref dF, .int (nI len), .int (nI ha), .ref dH, .int (nI sr), .ref dL, .int (nI en), .int (nI ram), .int (nI mz), .ref dM, .int (nI hp), .int (nI cn), .ref dP, .ref dS, .int (nI fk), .int fp, .int (nI ka), .int (nI kn), .int (nI sv), .ref dK])), (dM, .inl (cI, 8192, .inl xq9.2))] H ∧ va_D A [(oD, .inr (4, [.int (nI th), .ref dF, .int (nI len), .int (nI ha), .ref dH, .int (nI sr), .ref dL, .int (nI en), .int (nI ram), .int (nI mz), .ref dM, .int (nI hp), .int (nI cn), .ref dP, .ref dS, .int (nI fk), .int fp, .int (nI ka), .int (nI kn), .int (nI sv), .ref dK])), (dM, .inl (cI, 8192, .inl xq9.2))] ∧ va_S A s.heap H locs ∧ lv_has ls 3 [(0, .ref oD), (1, .int (nI n)), (2, .int (nI xq9.1))]) ?_ (mz, dm) _ _ _ ⟨by omega, by omega, hm, hP.sub [0, 1] rfl, hD.sub [0, 1] (by decide) rfl, hS, lv_sub hl [1, 2, 0] rfl⟩
  rintro ⟨i, dm3⟩ H locs ls ⟨hi, hi2, hg, hP, hD, hS, hl⟩ ih
  have hi : mz ≤ i := hi
  have hi2 : i ≤ 8192 := hi2
  have hg : gOk dm3 i mem := hg
  have hP : va_P (dC, dI) vwCl [(oD, .inr (4, [.int (nI th), .ref dF, .int (nI len), .int (nI ha), .ref dH, .int (nI sr), .ref dL, .int (nI en), .int (nI ram), .int (nI mz), .ref dM, .int (nI hp), .int (nI cn), .ref dP, .ref dS, .int (nI fk), .int fp, .int (nI ka), .int (nI kn), .int (nI sv), .ref dK])), (dM, .inl (cI, 8192, .inl dm3))] H := hP
  have hD : va_D A [(oD, .inr (4, [.int (nI th), .ref dF, .int (nI len), .int (nI ha), .ref dH, .int (nI sr), .ref dL, .int (nI en), .int (nI ram), .int (nI mz), .ref dM, .int (nI hp), .int (nI cn), .ref dP, .ref dS, .int (nI fk), .int fp, .int (nI ka), .int (nI kn), .int (nI sv), .ref dK])), (dM, .inl (cI, 8192, .inl dm3))] := hD
  have hl : lv_has ls 3 [(0, .ref oD), (1, .int (nI n)), (2, .int (nI i))] := hl
  refine lv_iload_n hx hb dX4_grow_5 rfl (lv_at hl 2 rfl) ?_
  refine lv_iload_n hx hb dX4_grow_6 rfl (lv_at hl 1 rfl) ?_
  refine wx_icmp_ge (tgt := 23) hx hb dX4_grow_7 (by decide) (by omega) (by omega) (fun c_1 => ?_) (fun c_1 => ?_)
  · skip
    refine lv_aload_n hx hb dX4_grow_23 rfl (lv_at hl 0 rfl) ?_
    refine lv_iload_n hx hb dX4_grow_24 rfl (lv_at hl 1 rfl) ?_
    refine va_put (D := (dC, dI)) (ci := 4) (v := .int (nI n)) (ty := .int) (C := RX4) (T := TX4) (N := 21) hx hb hts (by decide +kernel) tyX4 tyX4_ok nmX4 hown hK hP hD hS 0 rfl rfl 9 (by decide) (hts (.fieldLink RX4 89 "GlulxHeadsModel" "m" "I") (by decide +kernel)) (fun _ h9 => h9) rfl (by decide +kernel) rfl rfl (Nat.le_of_ble_eq_true rfl) dX4_grow_25 (fun H locs hP hD hS => ?_)
    have hP : va_P (dC, dI) vwCl [(oD, .inr (4, [.int (nI th), .ref dF, .int (nI len), .int (nI ha), .ref dH, .int (nI sr), .ref dL, .int (nI en), .int (nI ram), .int (nI n), .ref dM, .int (nI hp), .int (nI cn), .ref dP, .ref dS, .int (nI fk), .int fp, .int (nI ka), .int (nI kn), .int (nI sv), .ref dK])), (dM, .inl (cI, 8192, .inl dm3))] H := hP
    have hD : va_D A [(oD, .inr (4, [.int (nI th), .ref dF, .int (nI len), .int (nI ha), .ref dH, .int (nI sr), .ref dL, .int (nI en), .int (nI ram), .int (nI n), .ref dM, .int (nI hp), .int (nI cn), .ref dP, .ref dS, .int (nI fk), .int fp, .int (nI ka), .int (nI kn), .int (nI sv), .ref dK])), (dM, .inl (cI, 8192, .inl dm3))] := hD
    have hP9 := hP.sub (ws' := [(oD, .inr (4, [.int (nI th), .ref dF, .int (nI len), .int (nI ha), .ref dH, .int (nI sr), .ref dL, .int (nI en), .int (nI ram), .int (nI n), .ref dM, .int (nI hp), .int (nI cn), .ref dP, .ref dS, .int (nI fk), .int fp, .int (nI ka), .int (nI kn), .int (nI sv), .ref dK])), (dM, .inl (cI, 8192, .inl dm3))]) [0, 1] rfl
    have hD9 := hD.sub (ws' := [(oD, .inr (4, [.int (nI th), .ref dF, .int (nI len), .int (nI ha), .ref dH, .int (nI sr), .ref dL, .int (nI en), .int (nI ram), .int (nI n), .ref dM, .int (nI hp), .int (nI cn), .ref dP, .ref dS, .int (nI fk), .int fp, .int (nI ka), .int (nI kn), .int (nI sv), .ref dK])), (dM, .inl (cI, 8192, .inl dm3))]) [0, 1] (by decide) rfl
    exact W.vret hx hb hr (fun t ht hW => ⟨⟨(dm3), rfl, gOk_eq (gOk_le hg (by omega)) (fun j hj => by unfold cutM; rw [if_pos hj]), by rw [ht]; exact hP9, hD9⟩, hS.F ht⟩) hS.2.2 dX4_grow_28
  · skip
    refine lv_aload_n hx hb dX4_grow_10 rfl (lv_at hl 0 rfl) ?_
    refine va_get (D := (dC, dI)) (ci := 4) (v := .ref dM) (C := RX4) (T := TX4) (N := 21) hx hb hts (by decide +kernel) hown hK hP 0 rfl rfl 10 (by decide) (hts (.fieldLink RX4 20 "GlulxHeadsModel" "memory" "[I") (by decide +kernel)) (fun _ h9 => h9) rfl dX4_grow_11 ?_
    refine lv_iload_n hx hb dX4_grow_14 rfl (lv_at hl 2 rfl) ?_
    refine lv_iconst (v := nI 0) hx hb dX4_grow_15 (by decide) ?_
    refine wx_iast hx hb hK hP hD hS 1 1 rfl rfl (by omega) (by decide) dX4_grow_16 (fun H locs hP hD hS => ?_)
    have hP : va_P (dC, dI) vwCl [(oD, .inr (4, [.int (nI th), .ref dF, .int (nI len), .int (nI ha), .ref dH, .int (nI sr), .ref dL, .int (nI en), .int (nI ram), .int (nI mz), .ref dM, .int (nI hp), .int (nI cn), .ref dP, .ref dS, .int (nI fk), .int fp, .int (nI ka), .int (nI kn), .int (nI sv), .ref dK])), (dM, .inl (cI, 8192, .inl (upd dm3 i (nI 0))))] H := hP
    have hD : va_D A [(oD, .inr (4, [.int (nI th), .ref dF, .int (nI len), .int (nI ha), .ref dH, .int (nI sr), .ref dL, .int (nI en), .int (nI ram), .int (nI mz), .ref dM, .int (nI hp), .int (nI cn), .ref dP, .ref dS, .int (nI fk), .int fp, .int (nI ka), .int (nI kn), .int (nI sv), .ref dK])), (dM, .inl (cI, 8192, .inl (upd dm3 i (nI 0))))] := hD
    refine lv_iinc (v := nI (i + 1)) (lv' := [(2, .int (nI (i + 1))), (0, .ref oD), (1, .int (nI n))]) hx hb dX4_grow_17 hl (k := 2) rfl (by rw [show Int32.ofInt 1 = nI 1 by decide]; exact nI_add _ _) (by decide) rfl (fun ls hl => ?_)
    refine lv_goto (tgt := 5) hx hb dX4_grow_20 (by decide) ?_
    exact ih ((i + 1), (upd dm3 i (nI 0))) _ _ _ (by omega) ⟨by omega, by omega, gOk_s hg (by rw [hz i (by omega)]), hP.sub [0, 1] rfl, hD.sub [0, 1] (by decide) rfl, hS, lv_sub hl [1, 2, 0] rfl⟩
set_option maxHeartbeats 1000000 in
set_option maxRecDepth 100000 in
theorem c_X4_resize_M (l : Launch) (dC : Nat → ClassId) (dI : Nat → Nat → Nat) (cB cI cJ : ClassId) (sz : Nat) (oD : Nat) (th : Nat) (dF : Nat) (len : Nat) (dH : Nat) (sr : Nat) (dL : Nat) (en : Nat) (ram : Nat) (mz : Nat) (dM : Nat) (hp : Nat) (cn : Nat) (dP : Nat) (dS : Nat) (fk : Nat) (fp : Int32) (ka : Nat) (kn : Nat) (sv : Nat) (dK : Nat) (dm : Nat → Int32) (mem : Nat → Nat) (nv : Int32) (hmz : mz ≤ 8192) (hm : gOk dm mz mem) (hmem : ∀ j, mem j < 256) (hz : ∀ j, mz ≤ j → mem j = 0) (hen : en ≤ 4096) (hcn : cn ≤ 16) : Met l yX4_resize wsX4_resize ({ frames := 1, cells := 0, slots := 0, locals := 22 }) (va_Pc [.ref oD, .int nv] (wPre dC dI cB cI cJ sz [(oD, .inr (4, [.int (nI th), .ref dF, .int (nI len), .int (nI 1), .ref dH, .int (nI sr), .ref dL, .int (nI en), .int (nI ram), .int (nI mz), .ref dM, .int (nI hp), .int (nI cn), .ref dP, .ref dS, .int (nI fk), .int fp, .int (nI ka), .int (nI kn), .int (nI sv), .ref dK])), (dM, .inl (cI, 8192, .inl dm))])) (va_Qi (fun (r : Int32) (u : (Nat → Int32) × Nat) => r = rszR en cn nv ∧ u.2 = rszZ en cn mz nv ∧ gOk u.1 u.2 (rszM mem en cn nv)) (fun (u : (Nat → Int32) × Nat) => wPost dC dI (va_A [(oD, .inr (4, [.int (nI th), .ref dF, .int (nI len), .int (nI 1), .ref dH, .int (nI sr), .ref dL, .int (nI en), .int (nI ram), .int (nI mz), .ref dM, .int (nI hp), .int (nI cn), .ref dP, .ref dS, .int (nI fk), .int fp, .int (nI ka), .int (nI kn), .int (nI sv), .ref dK])), (dM, .inl (cI, 8192, .inl dm))] sz) [(oD, .inr (4, [.int (nI 0), .ref dF, .int (nI len), .int (nI 1), .ref dH, .int (nI sr), .ref dL, .int (nI en), .int (nI ram), .int (nI u.2), .ref dM, .int (nI hp), .int (nI cn), .ref dP, .ref dS, .int (nI fk), .int fp, .int (nI ka), .int (nI kn), .int (nI sv), .ref dK])), (dM, .inl (cI, 8192, .inl u.1))]) (va_A [(oD, .inr (4, [.int (nI th), .ref dF, .int (nI len), .int (nI 1), .ref dH, .int (nI sr), .ref dL, .int (nI en), .int (nI ram), .int (nI mz), .ref dM, .int (nI hp), .int (nI cn), .ref dP, .ref dS, .int (nI fk), .int fp, .int (nI ka), .int (nI kn), .int (nI sv), .ref dK])), (dM, .inl (cI, 8192, .inl dm))] sz)) 0 0 (va_A [(oD, .inr (4, [.int (nI th), .ref dF, .int (nI len), .int (nI 1), .ref dH, .int (nI sr), .ref dL, .int (nI en), .int (nI ram), .int (nI mz), .ref dM, .int (nI hp), .int (nI cn), .ref dP, .ref dS, .int (nI fk), .int fp, .int (nI ka), .int (nI kn), .int (nI sv), .ref dK])), (dM, .inl (cI, 8192, .inl dm))] sz) := by
  refine Met.ofW (cc := cX4_resize) (maxL := 2) (ret := (some .int)) (by decide) rfl ?_
  intro p e s m args below meth c s₁ B hml hv
  obtain ⟨rfl, hsz, hP, hK, hD0, hN⟩ := hv
  have hx := B.exec
  have hb := B.bytes
  have hr := B.returns
  have hts := atoms_spec (ws := wsX4_resize) B.pre
  have hown : s.vm.findClass RX4 = some m.cls := findClass_of_methodNamed B.named
  have hlocks := B.notSynchronized
  subst hsz
  have hD := hD0.self (sz := s.heap.size)
  generalize hAe : va_A [(oD, .inr (4, [.int (nI th), .ref dF, .int (nI len), .int (nI 1), .ref dH, .int (nI sr), .ref dL, .int (nI en), .int (nI ram), .int (nI mz), .ref dM, .int (nI hp), .int (nI cn), .ref dP, .ref dS, .int (nI fk), .int fp, .int (nI ka), .int (nI kn), .int (nI sv), .ref dK])), (dM, .inl (cI, 8192, .inl dm))] s.heap.size = A at hD ⊢
  have hA : ∀ q : Nat, s.heap.size ≤ q → A q := fun q h => by rw [← hAe]; exact Or.inr h
  have hS : va_S A s.heap s.heap [] := va_S.rf
  have hP : va_P (dC, dI) vwCl [(oD, .inr (4, [.int (nI th), .ref dF, .int (nI len), .int (nI 1), .ref dH, .int (nI sr), .ref dL, .int (nI en), .int (nI ram), .int (nI mz), .ref dM, .int (nI hp), .int (nI cn), .ref dP, .ref dS, .int (nI fk), .int fp, .int (nI ka), .int (nI kn), .int (nI sv), .ref dK])), (dM, .inl (cI, 8192, .inl dm))] s.heap := hP
  have hl := lv_entry ([.ref oD, .int nv]) (n := 2) (Nat.le_of_ble_eq_true rfl)
  rw [lg_entry_eq]
  generalize (lg_sl ([.ref oD, .int nv]) ++ List.replicate (2 - (lg_sl ([.ref oD, .int nv])).length) Slot.unset).toArray = ls at hl ⊢
  have hl : lv_has ls 2 [(0, .ref oD), (1, .int nv)] := hl
  refine lv_aload_n hx hb dX4_resize_0 rfl (lv_at hl 0 rfl) ?_
  refine lv_iconst (v := nI 0) hx hb dX4_resize_1 (by decide) ?_
  refine va_put (D := (dC, dI)) (ci := 4) (v := .int (nI 0)) (ty := .int) (C := RX4) (T := TX4) (N := 21) hx hb hts (by decide +kernel) tyX4 tyX4_ok nmX4 hown hK hP hD hS 0 rfl rfl 0 (by decide) (hts (.fieldLink RX4 32 "GlulxHeadsModel" "thrown" "I") (by decide +kernel)) (fun _ h9 => h9) rfl (by decide +kernel) rfl rfl (Nat.le_of_ble_eq_true rfl) dX4_resize_2 (fun H locs hP hD hS => ?_)
  have hP : va_P (dC, dI) vwCl [(oD, .inr (4, [.int (nI 0), .ref dF, .int (nI len), .int (nI 1), .ref dH, .int (nI sr), .ref dL, .int (nI en), .int (nI ram), .int (nI mz), .ref dM, .int (nI hp), .int (nI cn), .ref dP, .ref dS, .int (nI fk), .int fp, .int (nI ka), .int (nI kn), .int (nI sv), .ref dK])), (dM, .inl (cI, 8192, .inl dm))] H := hP
  have hD : va_D A [(oD, .inr (4, [.int (nI 0), .ref dF, .int (nI len), .int (nI 1), .ref dH, .int (nI sr), .ref dL, .int (nI en), .int (nI ram), .int (nI mz), .ref dM, .int (nI hp), .int (nI cn), .ref dP, .ref dS, .int (nI fk), .int fp, .int (nI ka), .int (nI kn), .int (nI sv), .ref dK])), (dM, .inl (cI, 8192, .inl dm))] := hD
  refine lv_aload_n hx hb dX4_resize_5 rfl (lv_at hl 0 rfl) ?_
  refine va_get (D := (dC, dI)) (ci := 4) (v := .int (nI 1)) (C := RX4) (T := TX4) (N := 21) hx hb hts (by decide +kernel) hown hK hP 0 rfl rfl 3 (by decide) (hts (.fieldLink RX4 76 "GlulxHeadsModel" "has" "Z") (by decide +kernel)) (fun _ h9 => h9) rfl dX4_resize_6 ?_
  refine wx_if_ne (tgt := 15) hx hb dX4_resize_9 (by decide) (by omega) (fun c_1 => ?_) (fun c_1 => absurd c_1 (by decide))
  refine lv_iload_n hx hb dX4_resize_15 rfl (lv_at hl 1 rfl) ?_
  refine lv_aload_n hx hb dX4_resize_16 rfl (lv_at hl 0 rfl) ?_
  refine va_get (D := (dC, dI)) (ci := 4) (v := .int (nI en)) (C := RX4) (T := TX4) (N := 21) hx hb hts (by decide +kernel) hown hK hP 0 rfl rfl 7 (by decide) (hts (.fieldLink RX4 86 "GlulxHeadsModel" "end" "I") (by decide +kernel)) (fun _ h9 => h9) rfl dX4_resize_17 ?_
  refine lv_icmp_lt (tgt := 45) hx hb dX4_resize_20 (by decide) (fun c_2 => ?_) (fun c_2 => ?_)
  · skip
    rw [Int32.lt_iff_toInt_lt, nI_toInt (n := en) (by omega)] at c_2
    refine lv_iconst (v := nI 1) hx hb dX4_resize_45 (by decide) ?_
    have hP9 := hP.sub (ws' := [(oD, .inr (4, [.int (nI 0), .ref dF, .int (nI len), .int (nI 1), .ref dH, .int (nI sr), .ref dL, .int (nI en), .int (nI ram), .int (nI mz), .ref dM, .int (nI hp), .int (nI cn), .ref dP, .ref dS, .int (nI fk), .int fp, .int (nI ka), .int (nI kn), .int (nI sv), .ref dK])), (dM, .inl (cI, 8192, .inl dm))]) [0, 1] rfl
    have hD9 := hD.sub (ws' := [(oD, .inr (4, [.int (nI 0), .ref dF, .int (nI len), .int (nI 1), .ref dH, .int (nI sr), .ref dL, .int (nI en), .int (nI ram), .int (nI mz), .ref dM, .int (nI hp), .int (nI cn), .ref dP, .ref dS, .int (nI fk), .int fp, .int (nI ka), .int (nI kn), .int (nI sv), .ref dK])), (dM, .inl (cI, 8192, .inl dm))]) [0, 1] (by decide) rfl
    exact W.iret (v := nI 1) hx hb hr (fun t ht hW => ⟨⟨(nI 1), (dm, mz), rfl, ⟨by unfold rszR; rw [if_neg (by omega)]; rfl, by unfold rszZ; rw [if_neg (by omega)], by unfold rszM; rw [if_neg (by omega)]; exact hm⟩, by rw [ht]; exact hP9, hD9⟩, hS.F ht⟩) hS.2.2 dX4_resize_46
  · skip
    rw [Int32.lt_iff_toInt_lt, nI_toInt (n := en) (by omega)] at c_2
    obtain ⟨n, hn, rfl⟩ : ∃ n : Nat, n < 2147483648 ∧ nv = nI n := nI_of (by intro z; rw [Int32.lt_iff_toInt_lt, show (0 : Int32).toInt = 0 by decide] at z; omega)
    have hnE : (nI n).toInt = (n : Int) := nI_toInt hn
    have hnT : (nI n).toInt.toNat = n := by rw [hnE]; exact Int.toNat_natCast _
    refine lv_iload_n hx hb dX4_resize_23 rfl (lv_at hl 1 rfl) ?_
    refine lv_sipush (v := nI 4096) hx hb dX4_resize_24 (by decide) ?_
    refine wx_icmp_gt (tgt := 45) hx hb dX4_resize_27 (by decide) (by omega) (by omega) (fun c_3 => ?_) (fun c_3 => ?_)
    · skip
      refine lv_iconst (v := nI 1) hx hb dX4_resize_45 (by decide) ?_
      have hP9 := hP.sub (ws' := [(oD, .inr (4, [.int (nI 0), .ref dF, .int (nI len), .int (nI 1), .ref dH, .int (nI sr), .ref dL, .int (nI en), .int (nI ram), .int (nI mz), .ref dM, .int (nI hp), .int (nI cn), .ref dP, .ref dS, .int (nI fk), .int fp, .int (nI ka), .int (nI kn), .int (nI sv), .ref dK])), (dM, .inl (cI, 8192, .inl dm))]) [0, 1] rfl
      have hD9 := hD.sub (ws' := [(oD, .inr (4, [.int (nI 0), .ref dF, .int (nI len), .int (nI 1), .ref dH, .int (nI sr), .ref dL, .int (nI en), .int (nI ram), .int (nI mz), .ref dM, .int (nI hp), .int (nI cn), .ref dP, .ref dS, .int (nI fk), .int fp, .int (nI ka), .int (nI kn), .int (nI sv), .ref dK])), (dM, .inl (cI, 8192, .inl dm))]) [0, 1] (by decide) rfl
      exact W.iret (v := nI 1) hx hb hr (fun t ht hW => ⟨⟨(nI 1), (dm, mz), rfl, ⟨by unfold rszR; rw [if_neg (by omega)]; rfl, by unfold rszZ; rw [if_neg (by omega)], by unfold rszM; rw [if_neg (by omega)]; exact hm⟩, by rw [ht]; exact hP9, hD9⟩, hS.F ht⟩) hS.2.2 dX4_resize_46
    · skip
      refine lv_iload_n hx hb dX4_resize_30 rfl (lv_at hl 1 rfl) ?_
      refine lv_sipush (v := nI 256) hx hb dX4_resize_31 (by decide) ?_
      refine wx_irem hx hb dX4_resize_34 (by omega) (by omega) (by omega) ?_
      refine wx_if_ne (tgt := 45) hx hb dX4_resize_35 (by decide) (by omega) (fun c_4 => ?_) (fun c_4 => ?_)
      · skip
        refine lv_iconst (v := nI 1) hx hb dX4_resize_45 (by decide) ?_
        have hP9 := hP.sub (ws' := [(oD, .inr (4, [.int (nI 0), .ref dF, .int (nI len), .int (nI 1), .ref dH, .int (nI sr), .ref dL, .int (nI en), .int (nI ram), .int (nI mz), .ref dM, .int (nI hp), .int (nI cn), .ref dP, .ref dS, .int (nI fk), .int fp, .int (nI ka), .int (nI kn), .int (nI sv), .ref dK])), (dM, .inl (cI, 8192, .inl dm))]) [0, 1] rfl
        have hD9 := hD.sub (ws' := [(oD, .inr (4, [.int (nI 0), .ref dF, .int (nI len), .int (nI 1), .ref dH, .int (nI sr), .ref dL, .int (nI en), .int (nI ram), .int (nI mz), .ref dM, .int (nI hp), .int (nI cn), .ref dP, .ref dS, .int (nI fk), .int fp, .int (nI ka), .int (nI kn), .int (nI sv), .ref dK])), (dM, .inl (cI, 8192, .inl dm))]) [0, 1] (by decide) rfl
        exact W.iret (v := nI 1) hx hb hr (fun t ht hW => ⟨⟨(nI 1), (dm, mz), rfl, ⟨by unfold rszR; rw [if_neg (by omega)]; rfl, by unfold rszZ; rw [if_neg (by omega)], by unfold rszM; rw [if_neg (by omega)]; exact hm⟩, by rw [ht]; exact hP9, hD9⟩, hS.F ht⟩) hS.2.2 dX4_resize_46
      · skip
        refine lv_aload_n hx hb dX4_resize_38 rfl (lv_at hl 0 rfl) ?_
        refine va_get (D := (dC, dI)) (ci := 4) (v := .int (nI cn)) (C := RX4) (T := TX4) (N := 21) hx hb hts (by decide +kernel) hown hK hP 0 rfl rfl 12 (by decide) (hts (.fieldLink RX4 95 "GlulxHeadsModel" "blocks" "I") (by decide +kernel)) (fun _ h9 => h9) rfl dX4_resize_39 ?_
        refine wx_if_le (tgt := 47) hx hb dX4_resize_42 (by decide) (by omega) (fun c_5 => ?_) (fun c_5 => ?_)
        · skip
          refine lv_aload_n hx hb dX4_resize_47 rfl (lv_at hl 0 rfl) ?_
          refine lv_iload_n hx hb dX4_resize_48 rfl (lv_at hl 1 rfl) ?_
          have hPc := hP.sub (ws' := [(oD, .inr (4, [.int (nI 0), .ref dF, .int (nI len), .int (nI 1), .ref dH, .int (nI sr), .ref dL, .int (nI en), .int (nI ram), .int (nI mz), .ref dM, .int (nI hp), .int (nI cn), .ref dP, .ref dS, .int (nI fk), .int fp, .int (nI ka), .int (nI kn), .int (nI sv), .ref dK])), (dM, .inl (cI, 8192, .inl dm))]) [0, 1] rfl
          have hDc := hD.sub (ws' := [(oD, .inr (4, [.int (nI 0), .ref dF, .int (nI len), .int (nI 1), .ref dH, .int (nI sr), .ref dL, .int (nI en), .int (nI ram), .int (nI mz), .ref dM, .int (nI hp), .int (nI cn), .ref dP, .ref dS, .int (nI fk), .int fp, .int (nI ka), .int (nI kn), .int (nI sv), .ref dK])), (dM, .inl (cI, 8192, .inl dm))]) [0, 1] (by decide) rfl
          have hFc := va_free (wc := [(oD, .inr (4, [.int (nI 0), .ref dF, .int (nI len), .int (nI 1), .ref dH, .int (nI sr), .ref dL, .int (nI en), .int (nI ram), .int (nI mz), .ref dM, .int (nI hp), .int (nI cn), .ref dP, .ref dS, .int (nI fk), .int fp, .int (nI ka), .int (nI kn), .int (nI sv), .ref dK])), (dM, .inl (cI, 8192, .inl dm))]) hD hS hA [0, 1] rfl
          refine va_callv (va_runV (As := [.int (nI n)]) (rest := []) ⟨hx, hb, hml, hown, hts⟩ (c_X4_grow l dC dI cB cI cJ H.size oD 0 dF len 1 dH sr dL en ram mz dM hp cn dP dS fk fp ka kn sv dK dm mem n (by omega) hm hmem hz (by omega)) (cwV 1 hts gX4_resize_X4_grow rfl rfl rfl (by decide +kernel) ⟨Nat.le_of_ble_eq_true rfl, Nat.le_of_ble_eq_true rfl⟩) ⟨wBlind, va_recv hK hPc (ci := 4) (q0 := 0) rfl rfl, wGo hK hPc hDc hN⟩ rfl rfl hl.1 rfl (lv_room (Nat.le_of_ble_eq_true rfl)) dX4_resize_49 ⟨show 0 ≤ 0 by decide, show 0 ≤ 0 by decide⟩) hS (fun q _ h => hFc q h) hFc (fun u t H1 locs ht hvm w_8 hB hz1 hk1 hS => ?_)
          obtain ⟨dm2_9, rfl⟩ : ∃ z, z = u := ⟨_, rfl⟩
          obtain ⟨hP1, hD1⟩ := hB
          rw [ht] at hP1
          try dsimp only at w_8
          obtain ⟨hP, hD⟩ := va_join (wr := []) (w1 := [(oD, .inr (4, [.int (nI 0), .ref dF, .int (nI len), .int (nI 1), .ref dH, .int (nI sr), .ref dL, .int (nI en), .int (nI ram), .int (nI n), .ref dM, .int (nI hp), .int (nI cn), .ref dP, .ref dS, .int (nI fk), .int fp, .int (nI ka), .int (nI kn), .int (nI sv), .ref dK])), (dM, .inl (cI, 8192, .inl dm2_9))]) hP hD [0, 1] [] rfl rfl (by decide) (by decide) hk1 hFc hP1 hD1
          clear hPc hDc hFc hP1 hD1 hz1 hk1 hvm
          generalize H1 = H at hP hS ⊢
          have hP : va_P (dC, dI) vwCl [(oD, .inr (4, [.int (nI 0), .ref dF, .int (nI len), .int (nI 1), .ref dH, .int (nI sr), .ref dL, .int (nI en), .int (nI ram), .int (nI n), .ref dM, .int (nI hp), .int (nI cn), .ref dP, .ref dS, .int (nI fk), .int fp, .int (nI ka), .int (nI kn), .int (nI sv), .ref dK])), (dM, .inl (cI, 8192, .inl dm2_9))] H := hP
          have hD : va_D A [(oD, .inr (4, [.int (nI 0), .ref dF, .int (nI len), .int (nI 1), .ref dH, .int (nI sr), .ref dL, .int (nI en), .int (nI ram), .int (nI n), .ref dM, .int (nI hp), .int (nI cn), .ref dP, .ref dS, .int (nI fk), .int fp, .int (nI ka), .int (nI kn), .int (nI sv), .ref dK])), (dM, .inl (cI, 8192, .inl dm2_9))] := hD
          refine lv_iconst (v := nI 0) hx hb dX4_resize_52 (by decide) ?_
          have hP9 := hP.sub (ws' := [(oD, .inr (4, [.int (nI 0), .ref dF, .int (nI len), .int (nI 1), .ref dH, .int (nI sr), .ref dL, .int (nI en), .int (nI ram), .int (nI n), .ref dM, .int (nI hp), .int (nI cn), .ref dP, .ref dS, .int (nI fk), .int fp, .int (nI ka), .int (nI kn), .int (nI sv), .ref dK])), (dM, .inl (cI, 8192, .inl dm2_9))]) [0, 1] rfl
          have hD9 := hD.sub (ws' := [(oD, .inr (4, [.int (nI 0), .ref dF, .int (nI len), .int (nI 1), .ref dH, .int (nI sr), .ref dL, .int (nI en), .int (nI ram), .int (nI n), .ref dM, .int (nI hp), .int (nI cn), .ref dP, .ref dS, .int (nI fk), .int fp, .int (nI ka), .int (nI kn), .int (nI sv), .ref dK])), (dM, .inl (cI, 8192, .inl dm2_9))]) [0, 1] (by decide) rfl
          exact W.iret (v := nI 0) hx hb hr (fun t ht hW => ⟨⟨(nI 0), (dm2_9, n), rfl, ⟨by unfold rszR; rw [if_pos (by omega)]; rfl, by unfold rszZ; rw [if_pos (by omega), hnT], by unfold rszM; rw [if_pos (by omega), hnT]; exact w_8⟩, by rw [ht]; exact hP9, hD9⟩, hS.F ht⟩) hS.2.2 dX4_resize_53
        · skip
          refine lv_iconst (v := nI 1) hx hb dX4_resize_45 (by decide) ?_
          have hP9 := hP.sub (ws' := [(oD, .inr (4, [.int (nI 0), .ref dF, .int (nI len), .int (nI 1), .ref dH, .int (nI sr), .ref dL, .int (nI en), .int (nI ram), .int (nI mz), .ref dM, .int (nI hp), .int (nI cn), .ref dP, .ref dS, .int (nI fk), .int fp, .int (nI ka), .int (nI kn), .int (nI sv), .ref dK])), (dM, .inl (cI, 8192, .inl dm))]) [0, 1] rfl
          have hD9 := hD.sub (ws' := [(oD, .inr (4, [.int (nI 0), .ref dF, .int (nI len), .int (nI 1), .ref dH, .int (nI sr), .ref dL, .int (nI en), .int (nI ram), .int (nI mz), .ref dM, .int (nI hp), .int (nI cn), .ref dP, .ref dS, .int (nI fk), .int fp, .int (nI ka), .int (nI kn), .int (nI sv), .ref dK])), (dM, .inl (cI, 8192, .inl dm))]) [0, 1] (by decide) rfl
          exact W.iret (v := nI 1) hx hb hr (fun t ht hW => ⟨⟨(nI 1), (dm, mz), rfl, ⟨by unfold rszR; rw [if_neg (by omega)]; rfl, by unfold rszZ; rw [if_neg (by omega)], by unfold rszM; rw [if_neg (by omega)]; exact hm⟩, by rw [ht]; exact hP9, hD9⟩, hS.F ht⟩) hS.2.2 dX4_resize_46
set_option maxHeartbeats 1000000 in
set_option maxRecDepth 100000 in
theorem c_X4_protect_M (l : Launch) (dC : Nat → ClassId) (dI : Nat → Nat → Nat) (cB cI cJ : ClassId) (sz : Nat) (oD : Nat) (th : Nat) (dF : Nat) (len : Nat) (dH : Nat) (sr : Nat) (dL : Nat) (en : Nat) (ram : Nat) (mz : Nat) (dM : Nat) (hp : Nat) (cn : Nat) (dP : Nat) (dS : Nat) (fk : Nat) (fp : Int32) (ka : Nat) (kn : Nat) (sv : Nat) (dK : Nat) (av : Int32) (nv : Int32)  : Met l yX4_protect wsX4_protect ({ frames := 1, cells := 0, slots := 0, locals := 25 }) (va_Pc [.ref oD, .int av, .int nv] (wPre dC dI cB cI cJ sz [(oD, .inr (4, [.int (nI th), .ref dF, .int (nI len), .int (nI 1), .ref dH, .int (nI sr), .ref dL, .int (nI en), .int (nI ram), .int (nI mz), .ref dM, .int (nI hp), .int (nI cn), .ref dP, .ref dS, .int (nI fk), .int fp, .int (nI ka), .int (nI kn), .int (nI sv), .ref dK]))])) (va_Qi (fun (r : Int32) (u : Nat × Nat) => r = proR av nv ∧ u.1 = proA ka av nv ∧ u.2 = proN kn av nv) (fun (u : Nat × Nat) => wPost dC dI (va_A [(oD, .inr (4, [.int (nI th), .ref dF, .int (nI len), .int (nI 1), .ref dH, .int (nI sr), .ref dL, .int (nI en), .int (nI ram), .int (nI mz), .ref dM, .int (nI hp), .int (nI cn), .ref dP, .ref dS, .int (nI fk), .int fp, .int (nI ka), .int (nI kn), .int (nI sv), .ref dK]))] sz) [(oD, .inr (4, [.int (nI 0), .ref dF, .int (nI len), .int (nI 1), .ref dH, .int (nI sr), .ref dL, .int (nI en), .int (nI ram), .int (nI mz), .ref dM, .int (nI hp), .int (nI cn), .ref dP, .ref dS, .int (nI fk), .int fp, .int (nI u.1), .int (nI u.2), .int (nI sv), .ref dK]))]) (va_A [(oD, .inr (4, [.int (nI th), .ref dF, .int (nI len), .int (nI 1), .ref dH, .int (nI sr), .ref dL, .int (nI en), .int (nI ram), .int (nI mz), .ref dM, .int (nI hp), .int (nI cn), .ref dP, .ref dS, .int (nI fk), .int fp, .int (nI ka), .int (nI kn), .int (nI sv), .ref dK]))] sz)) 0 0 (va_A [(oD, .inr (4, [.int (nI th), .ref dF, .int (nI len), .int (nI 1), .ref dH, .int (nI sr), .ref dL, .int (nI en), .int (nI ram), .int (nI mz), .ref dM, .int (nI hp), .int (nI cn), .ref dP, .ref dS, .int (nI fk), .int fp, .int (nI ka), .int (nI kn), .int (nI sv), .ref dK]))] sz) := by
  refine Met.ofW (cc := cX4_protect) (maxL := 3) (ret := (some .int)) (by decide) rfl ?_
  intro p e s m args below meth c s₁ B hml hv
  obtain ⟨rfl, hsz, hP, hK, hD0, hN⟩ := hv
  have hx := B.exec
  have hb := B.bytes
  have hr := B.returns
  have hts := atoms_spec (ws := wsX4_protect) B.pre
  have hown : s.vm.findClass RX4 = some m.cls := findClass_of_methodNamed B.named
  have hlocks := B.notSynchronized
  subst hsz
  have hD := hD0.self (sz := s.heap.size)
  generalize hAe : va_A [(oD, .inr (4, [.int (nI th), .ref dF, .int (nI len), .int (nI 1), .ref dH, .int (nI sr), .ref dL, .int (nI en), .int (nI ram), .int (nI mz), .ref dM, .int (nI hp), .int (nI cn), .ref dP, .ref dS, .int (nI fk), .int fp, .int (nI ka), .int (nI kn), .int (nI sv), .ref dK]))] s.heap.size = A at hD ⊢
  have hA : ∀ q : Nat, s.heap.size ≤ q → A q := fun q h => by rw [← hAe]; exact Or.inr h
  have hS : va_S A s.heap s.heap [] := va_S.rf
  have hP : va_P (dC, dI) vwCl [(oD, .inr (4, [.int (nI th), .ref dF, .int (nI len), .int (nI 1), .ref dH, .int (nI sr), .ref dL, .int (nI en), .int (nI ram), .int (nI mz), .ref dM, .int (nI hp), .int (nI cn), .ref dP, .ref dS, .int (nI fk), .int fp, .int (nI ka), .int (nI kn), .int (nI sv), .ref dK]))] s.heap := hP
  have hl := lv_entry ([.ref oD, .int av, .int nv]) (n := 3) (Nat.le_of_ble_eq_true rfl)
  rw [lg_entry_eq]
  generalize (lg_sl ([.ref oD, .int av, .int nv]) ++ List.replicate (3 - (lg_sl ([.ref oD, .int av, .int nv])).length) Slot.unset).toArray = ls at hl ⊢
  have hl : lv_has ls 3 [(0, .ref oD), (1, .int av), (2, .int nv)] := hl
  refine lv_aload_n hx hb dX4_protect_0 rfl (lv_at hl 0 rfl) ?_
  refine lv_iconst (v := nI 0) hx hb dX4_protect_1 (by decide) ?_
  refine va_put (D := (dC, dI)) (ci := 4) (v := .int (nI 0)) (ty := .int) (C := RX4) (T := TX4) (N := 21) hx hb hts (by decide +kernel) tyX4 tyX4_ok nmX4 hown hK hP hD hS 0 rfl rfl 0 (by decide) (hts (.fieldLink RX4 32 "GlulxHeadsModel" "thrown" "I") (by decide +kernel)) (fun _ h9 => h9) rfl (by decide +kernel) rfl rfl (Nat.le_of_ble_eq_true rfl) dX4_protect_2 (fun H locs hP hD hS => ?_)
  have hP : va_P (dC, dI) vwCl [(oD, .inr (4, [.int (nI 0), .ref dF, .int (nI len), .int (nI 1), .ref dH, .int (nI sr), .ref dL, .int (nI en), .int (nI ram), .int (nI mz), .ref dM, .int (nI hp), .int (nI cn), .ref dP, .ref dS, .int (nI fk), .int fp, .int (nI ka), .int (nI kn), .int (nI sv), .ref dK]))] H := hP
  have hD : va_D A [(oD, .inr (4, [.int (nI 0), .ref dF, .int (nI len), .int (nI 1), .ref dH, .int (nI sr), .ref dL, .int (nI en), .int (nI ram), .int (nI mz), .ref dM, .int (nI hp), .int (nI cn), .ref dP, .ref dS, .int (nI fk), .int fp, .int (nI ka), .int (nI kn), .int (nI sv), .ref dK]))] := hD
  refine lv_aload_n hx hb dX4_protect_5 rfl (lv_at hl 0 rfl) ?_
  refine va_get (D := (dC, dI)) (ci := 4) (v := .int (nI 1)) (C := RX4) (T := TX4) (N := 21) hx hb hts (by decide +kernel) hown hK hP 0 rfl rfl 3 (by decide) (hts (.fieldLink RX4 76 "GlulxHeadsModel" "has" "Z") (by decide +kernel)) (fun _ h9 => h9) rfl dX4_protect_6 ?_
  refine wx_if_ne (tgt := 15) hx hb dX4_protect_9 (by decide) (by first | omega | (split <;> omega)) (fun c_1 => ?_) (fun c_1 => absurd c_1 (by decide))
  refine lv_iload_n hx hb dX4_protect_15 rfl (lv_at hl 1 rfl) ?_
  refine lv_i2l (v := av.toInt64) hx hb dX4_protect_16 rfl ?_
  refine lv_lconst (v := lN 0) hx hb dX4_protect_17 (by decide) ?_
  refine lv_ldc2 (v := lN 8192) hx hb hown (hts (.constantLong RX4 127 (8192)) (by decide +kernel)) dX4_protect_18 ?_
  have hPc := hP.sub (ws' := []) [] rfl
  have hDc := hD.sub (ws' := []) [] (by decide) rfl
  have hFc := va_free (wc := []) hD hS hA [] rfl
  refine va_calli (va_runS (As := [.long av.toInt64, .long (lN 0), .long (lN 8192)]) (rest := []) ⟨hx, hb, hml, hown, hts⟩ (c_X4_in l dC dI cB cI cJ H.size av.toInt64 (lN 0) (lN 8192) ) (va_cwS 3 hts gX4_protect_X4_in rfl rfl rfl (by decide +kernel) ⟨Nat.le_of_ble_eq_true rfl, Nat.le_of_ble_eq_true rfl⟩) ⟨wBlind, wGo hK hPc hDc hN⟩ rfl rfl hl.1 rfl (lv_room (Nat.le_of_ble_eq_true rfl)) dX4_protect_21 ⟨show 0 ≤ 0 by decide, show 0 ≤ 0 by decide⟩) hS (fun q _ h => hFc q h) hFc (fun r_3 u t H1 locs ht hvm w_4 hB hz1 hk1 hS => ?_)
  clear u
  obtain ⟨hP1, hD1⟩ := hB
  rw [ht] at hP1
  try dsimp only at w_4
  obtain ⟨hP, hD⟩ := va_join (wr := [(oD, .inr (4, [.int (nI 0), .ref dF, .int (nI len), .int (nI 1), .ref dH, .int (nI sr), .ref dL, .int (nI en), .int (nI ram), .int (nI mz), .ref dM, .int (nI hp), .int (nI cn), .ref dP, .ref dS, .int (nI fk), .int fp, .int (nI ka), .int (nI kn), .int (nI sv), .ref dK]))]) (w1 := []) hP hD [] [0] rfl rfl (by decide) (by decide) hk1 hFc hP1 hD1
  clear hPc hDc hFc hP1 hD1 hz1 hk1 hvm
  generalize H1 = H at hP hS ⊢
  have hP : va_P (dC, dI) vwCl [(oD, .inr (4, [.int (nI 0), .ref dF, .int (nI len), .int (nI 1), .ref dH, .int (nI sr), .ref dL, .int (nI en), .int (nI ram), .int (nI mz), .ref dM, .int (nI hp), .int (nI cn), .ref dP, .ref dS, .int (nI fk), .int fp, .int (nI ka), .int (nI kn), .int (nI sv), .ref dK]))] H := hP
  have hD : va_D A [(oD, .inr (4, [.int (nI 0), .ref dF, .int (nI len), .int (nI 1), .ref dH, .int (nI sr), .ref dL, .int (nI en), .int (nI ram), .int (nI mz), .ref dM, .int (nI hp), .int (nI cn), .ref dP, .ref dS, .int (nI fk), .int fp, .int (nI ka), .int (nI kn), .int (nI sv), .ref dK]))] := hD
  have hz0 : (av.toInt64).toInt = av.toInt := Int32.toInt_toInt64 _
  have hz1 : (lN 0).toInt = ((0 : Nat) : Int) := pk_lT (by first | omega | (split <;> omega))
  have hz2 : (lN 8192).toInt = ((8192 : Nat) : Int) := pk_lT (by first | omega | (split <;> omega))
  have hwi : r_3 = nI (if 0 ≤ av.toInt ∧ av.toInt ≤ 8192 then 1 else 0) := by rw [w_4]; exact wif (by constructor <;> (intro z; omega))
  clear w_4
  subst hwi
  refine wx_if_eq (tgt := 39) hx hb dX4_protect_24 (by decide) (by first | omega | (split <;> omega)) (fun c_5 => ?_) (fun c_5 => ?_)
  · skip
    have c_5 := wz_zero c_5
    refine lv_bipush (v := (-2)) hx hb dX4_protect_39 (by decide) ?_
    have hP9 := hP.sub (ws' := [(oD, .inr (4, [.int (nI 0), .ref dF, .int (nI len), .int (nI 1), .ref dH, .int (nI sr), .ref dL, .int (nI en), .int (nI ram), .int (nI mz), .ref dM, .int (nI hp), .int (nI cn), .ref dP, .ref dS, .int (nI fk), .int fp, .int (nI ka), .int (nI kn), .int (nI sv), .ref dK]))]) [0] rfl
    have hD9 := hD.sub (ws' := [(oD, .inr (4, [.int (nI 0), .ref dF, .int (nI len), .int (nI 1), .ref dH, .int (nI sr), .ref dL, .int (nI en), .int (nI ram), .int (nI mz), .ref dM, .int (nI hp), .int (nI cn), .ref dP, .ref dS, .int (nI fk), .int fp, .int (nI ka), .int (nI kn), .int (nI sv), .ref dK]))]) [0] (by decide) rfl
    exact W.iret (v := (-2)) hx hb hr (fun t ht hW => ⟨⟨(-2), (ka, kn), rfl, ⟨by unfold proR; rw [if_neg (by omega)], by unfold proA; rw [if_neg (by omega)], by unfold proN; rw [if_neg (by omega)]⟩, by rw [ht]; exact hP9, hD9⟩, hS.F ht⟩) hS.2.2 dX4_protect_41
  · skip
    have c_5 := wz_pos c_5
    refine lv_iload_n hx hb dX4_protect_27 rfl (lv_at hl 2 rfl) ?_
    refine lv_i2l (v := nv.toInt64) hx hb dX4_protect_28 rfl ?_
    refine lv_lconst (v := lN 0) hx hb dX4_protect_29 (by decide) ?_
    refine lv_ldc2 (v := lN 8192) hx hb hown (hts (.constantLong RX4 127 (8192)) (by decide +kernel)) dX4_protect_30 ?_
    have hPc := hP.sub (ws' := []) [] rfl
    have hDc := hD.sub (ws' := []) [] (by decide) rfl
    have hFc := va_free (wc := []) hD hS hA [] rfl
    refine va_calli (va_runS (As := [.long nv.toInt64, .long (lN 0), .long (lN 8192)]) (rest := []) ⟨hx, hb, hml, hown, hts⟩ (c_X4_in l dC dI cB cI cJ H.size nv.toInt64 (lN 0) (lN 8192) ) (va_cwS 3 hts gX4_protect_X4_in rfl rfl rfl (by decide +kernel) ⟨Nat.le_of_ble_eq_true rfl, Nat.le_of_ble_eq_true rfl⟩) ⟨wBlind, wGo hK hPc hDc hN⟩ rfl rfl hl.1 rfl (lv_room (Nat.le_of_ble_eq_true rfl)) dX4_protect_33 ⟨show 0 ≤ 0 by decide, show 0 ≤ 0 by decide⟩) hS (fun q _ h => hFc q h) hFc (fun r_7 u t H1 locs ht hvm w_8 hB hz1 hk1 hS => ?_)
    clear u
    obtain ⟨hP1, hD1⟩ := hB
    rw [ht] at hP1
    try dsimp only at w_8
    obtain ⟨hP, hD⟩ := va_join (wr := [(oD, .inr (4, [.int (nI 0), .ref dF, .int (nI len), .int (nI 1), .ref dH, .int (nI sr), .ref dL, .int (nI en), .int (nI ram), .int (nI mz), .ref dM, .int (nI hp), .int (nI cn), .ref dP, .ref dS, .int (nI fk), .int fp, .int (nI ka), .int (nI kn), .int (nI sv), .ref dK]))]) (w1 := []) hP hD [] [0] rfl rfl (by decide) (by decide) hk1 hFc hP1 hD1
    clear hPc hDc hFc hP1 hD1 hz1 hk1 hvm
    generalize H1 = H at hP hS ⊢
    have hP : va_P (dC, dI) vwCl [(oD, .inr (4, [.int (nI 0), .ref dF, .int (nI len), .int (nI 1), .ref dH, .int (nI sr), .ref dL, .int (nI en), .int (nI ram), .int (nI mz), .ref dM, .int (nI hp), .int (nI cn), .ref dP, .ref dS, .int (nI fk), .int fp, .int (nI ka), .int (nI kn), .int (nI sv), .ref dK]))] H := hP
    have hD : va_D A [(oD, .inr (4, [.int (nI 0), .ref dF, .int (nI len), .int (nI 1), .ref dH, .int (nI sr), .ref dL, .int (nI en), .int (nI ram), .int (nI mz), .ref dM, .int (nI hp), .int (nI cn), .ref dP, .ref dS, .int (nI fk), .int fp, .int (nI ka), .int (nI kn), .int (nI sv), .ref dK]))] := hD
    have hz0 : (nv.toInt64).toInt = nv.toInt := Int32.toInt_toInt64 _
    have hz1 : (lN 0).toInt = ((0 : Nat) : Int) := pk_lT (by first | omega | (split <;> omega))
    have hz2 : (lN 8192).toInt = ((8192 : Nat) : Int) := pk_lT (by first | omega | (split <;> omega))
    have hwi : r_7 = nI (if 0 ≤ nv.toInt ∧ nv.toInt ≤ 8192 then 1 else 0) := by rw [w_8]; exact wif (by constructor <;> (intro z; omega))
    clear w_8
    subst hwi
    refine wx_if_ne (tgt := 42) hx hb dX4_protect_36 (by decide) (by first | omega | (split <;> omega)) (fun c_9 => ?_) (fun c_9 => ?_)
    · skip
      have c_9 := wz_pos c_9
      obtain ⟨j, hj, rfl⟩ : ∃ j : Nat, j < 2147483648 ∧ av = nI j := nI_of (by intro z; rw [Int32.lt_iff_toInt_lt, show (0 : Int32).toInt = 0 by decide] at z; omega)
      have hjE : (nI j).toInt = (j : Int) := nI_toInt hj
      have hjT : (nI j).toInt.toNat = j := by rw [hjE]; exact Int.toNat_natCast _
      obtain ⟨n, hn, rfl⟩ : ∃ n : Nat, n < 2147483648 ∧ nv = nI n := nI_of (by intro z; rw [Int32.lt_iff_toInt_lt, show (0 : Int32).toInt = 0 by decide] at z; omega)
      have hnE : (nI n).toInt = (n : Int) := nI_toInt hn
      have hnT : (nI n).toInt.toNat = n := by rw [hnE]; exact Int.toNat_natCast _
      refine lv_aload_n hx hb dX4_protect_42 rfl (lv_at hl 0 rfl) ?_
      refine lv_iload_n hx hb dX4_protect_43 rfl (lv_at hl 1 rfl) ?_
      refine va_put (D := (dC, dI)) (ci := 4) (v := .int (nI j)) (ty := .int) (C := RX4) (T := TX4) (N := 21) hx hb hts (by decide +kernel) tyX4 tyX4_ok nmX4 hown hK hP hD hS 0 rfl rfl 17 (by decide) (hts (.fieldLink RX4 104 "GlulxHeadsModel" "safeAt" "I") (by decide +kernel)) (fun _ h9 => h9) rfl (by decide +kernel) rfl rfl (Nat.le_of_ble_eq_true rfl) dX4_protect_44 (fun H locs hP hD hS => ?_)
      have hP : va_P (dC, dI) vwCl [(oD, .inr (4, [.int (nI 0), .ref dF, .int (nI len), .int (nI 1), .ref dH, .int (nI sr), .ref dL, .int (nI en), .int (nI ram), .int (nI mz), .ref dM, .int (nI hp), .int (nI cn), .ref dP, .ref dS, .int (nI fk), .int fp, .int (nI j), .int (nI kn), .int (nI sv), .ref dK]))] H := hP
      have hD : va_D A [(oD, .inr (4, [.int (nI 0), .ref dF, .int (nI len), .int (nI 1), .ref dH, .int (nI sr), .ref dL, .int (nI en), .int (nI ram), .int (nI mz), .ref dM, .int (nI hp), .int (nI cn), .ref dP, .ref dS, .int (nI fk), .int fp, .int (nI j), .int (nI kn), .int (nI sv), .ref dK]))] := hD
      refine lv_aload_n hx hb dX4_protect_47 rfl (lv_at hl 0 rfl) ?_
      refine lv_iload_n hx hb dX4_protect_48 rfl (lv_at hl 2 rfl) ?_
      refine va_put (D := (dC, dI)) (ci := 4) (v := .int (nI n)) (ty := .int) (C := RX4) (T := TX4) (N := 21) hx hb hts (by decide +kernel) tyX4 tyX4_ok nmX4 hown hK hP hD hS 0 rfl rfl 18 (by decide) (hts (.fieldLink RX4 107 "GlulxHeadsModel" "safeMany" "I") (by decide +kernel)) (fun _ h9 => h9) rfl (by decide +kernel) rfl rfl (Nat.le_of_ble_eq_true rfl) dX4_protect_49 (fun H locs hP hD hS => ?_)
      have hP : va_P (dC, dI) vwCl [(oD, .inr (4, [.int (nI 0), .ref dF, .int (nI len), .int (nI 1), .ref dH, .int (nI sr), .ref dL, .int (nI en), .int (nI ram), .int (nI mz), .ref dM, .int (nI hp), .int (nI cn), .ref dP, .ref dS, .int (nI fk), .int fp, .int (nI j), .int (nI n), .int (nI sv), .ref dK]))] H := hP
      have hD : va_D A [(oD, .inr (4, [.int (nI 0), .ref dF, .int (nI len), .int (nI 1), .ref dH, .int (nI sr), .ref dL, .int (nI en), .int (nI ram), .int (nI mz), .ref dM, .int (nI hp), .int (nI cn), .ref dP, .ref dS, .int (nI fk), .int fp, .int (nI j), .int (nI n), .int (nI sv), .ref dK]))] := hD
      refine lv_iconst (v := nI 1) hx hb dX4_protect_52 (by decide) ?_
      have hP9 := hP.sub (ws' := [(oD, .inr (4, [.int (nI 0), .ref dF, .int (nI len), .int (nI 1), .ref dH, .int (nI sr), .ref dL, .int (nI en), .int (nI ram), .int (nI mz), .ref dM, .int (nI hp), .int (nI cn), .ref dP, .ref dS, .int (nI fk), .int fp, .int (nI j), .int (nI n), .int (nI sv), .ref dK]))]) [0] rfl
      have hD9 := hD.sub (ws' := [(oD, .inr (4, [.int (nI 0), .ref dF, .int (nI len), .int (nI 1), .ref dH, .int (nI sr), .ref dL, .int (nI en), .int (nI ram), .int (nI mz), .ref dM, .int (nI hp), .int (nI cn), .ref dP, .ref dS, .int (nI fk), .int fp, .int (nI j), .int (nI n), .int (nI sv), .ref dK]))]) [0] (by decide) rfl
      exact W.iret (v := nI 1) hx hb hr (fun t ht hW => ⟨⟨(nI 1), (j, n), rfl, ⟨by unfold proR; rw [if_pos (by omega)]; rfl, by unfold proA; rw [if_pos (by omega), hjT], by unfold proN; rw [if_pos (by omega), hnT]⟩, by rw [ht]; exact hP9, hD9⟩, hS.F ht⟩) hS.2.2 dX4_protect_53
    · skip
      have c_9 := wz_zero c_9
      refine lv_bipush (v := (-2)) hx hb dX4_protect_39 (by decide) ?_
      have hP9 := hP.sub (ws' := [(oD, .inr (4, [.int (nI 0), .ref dF, .int (nI len), .int (nI 1), .ref dH, .int (nI sr), .ref dL, .int (nI en), .int (nI ram), .int (nI mz), .ref dM, .int (nI hp), .int (nI cn), .ref dP, .ref dS, .int (nI fk), .int fp, .int (nI ka), .int (nI kn), .int (nI sv), .ref dK]))]) [0] rfl
      have hD9 := hD.sub (ws' := [(oD, .inr (4, [.int (nI 0), .ref dF, .int (nI len), .int (nI 1), .ref dH, .int (nI sr), .ref dL, .int (nI en), .int (nI ram), .int (nI mz), .ref dM, .int (nI hp), .int (nI cn), .ref dP, .ref dS, .int (nI fk), .int fp, .int (nI ka), .int (nI kn), .int (nI sv), .ref dK]))]) [0] (by decide) rfl
      exact W.iret (v := (-2)) hx hb hr (fun t ht hW => ⟨⟨(-2), (ka, kn), rfl, ⟨by unfold proR; rw [if_neg (by omega)], by unfold proA; rw [if_neg (by omega)], by unfold proN; rw [if_neg (by omega)]⟩, by rw [ht]; exact hP9, hD9⟩, hS.F ht⟩) hS.2.2 dX4_protect_41
set_option maxHeartbeats 1000000 in
set_option maxRecDepth 100000 in
theorem c_X4_hash_M (l : Launch) (dC : Nat → ClassId) (dI : Nat → Nat → Nat) (cB cI cJ : ClassId) (sz : Nat) (oD : Nat) (th : Nat) (dF : Nat) (len : Nat) (dH : Nat) (sr : Nat) (dL : Nat) (en : Nat) (ram : Nat) (mz : Nat) (dM : Nat) (hp : Nat) (cn : Nat) (dP : Nat) (dS : Nat) (fk : Nat) (fp : Int32) (ka : Nat) (kn : Nat) (sv : Nat) (dK : Nat) (dm : Nat → Int32) (mem : Nat → Nat) (av : Int32) (nv : Int32) (hmz : mz ≤ 8192) (hm : gOk dm mz mem) (hmem : ∀ j, mem j < 256) : Met l yX4_hash wsX4_hash ({ frames := 1, cells := 0, slots := 0, locals := 25 }) (va_Pc [.ref oD, .int av, .int nv] (wPre dC dI cB cI cJ sz [(oD, .inr (4, [.int (nI th), .ref dF, .int (nI len), .int (nI 1), .ref dH, .int (nI sr), .ref dL, .int (nI en), .int (nI ram), .int (nI mz), .ref dM, .int (nI hp), .int (nI cn), .ref dP, .ref dS, .int (nI fk), .int fp, .int (nI ka), .int (nI kn), .int (nI sv), .ref dK])), (dM, .inl (cI, 8192, .inl dm))])) (va_Qi (fun (r : Int32) (u : Unit) => r = hshR mem mz av nv) (fun (u : Unit) => wPost dC dI (va_A [(oD, .inr (4, [.int (nI th), .ref dF, .int (nI len), .int (nI 1), .ref dH, .int (nI sr), .ref dL, .int (nI en), .int (nI ram), .int (nI mz), .ref dM, .int (nI hp), .int (nI cn), .ref dP, .ref dS, .int (nI fk), .int fp, .int (nI ka), .int (nI kn), .int (nI sv), .ref dK])), (dM, .inl (cI, 8192, .inl dm))] sz) [(oD, .inr (4, [.int (nI 0), .ref dF, .int (nI len), .int (nI 1), .ref dH, .int (nI sr), .ref dL, .int (nI en), .int (nI ram), .int (nI mz), .ref dM, .int (nI hp), .int (nI cn), .ref dP, .ref dS, .int (nI fk), .int fp, .int (nI ka), .int (nI kn), .int (nI sv), .ref dK])), (dM, .inl (cI, 8192, .inl dm))]) (va_A [(oD, .inr (4, [.int (nI th), .ref dF, .int (nI len), .int (nI 1), .ref dH, .int (nI sr), .ref dL, .int (nI en), .int (nI ram), .int (nI mz), .ref dM, .int (nI hp), .int (nI cn), .ref dP, .ref dS, .int (nI fk), .int fp, .int (nI ka), .int (nI kn), .int (nI sv), .ref dK])), (dM, .inl (cI, 8192, .inl dm))] sz)) 0 0 (va_A [(oD, .inr (4, [.int (nI th), .ref dF, .int (nI len), .int (nI 1), .ref dH, .int (nI sr), .ref dL, .int (nI en), .int (nI ram), .int (nI mz), .ref dM, .int (nI hp), .int (nI cn), .ref dP, .ref dS, .int (nI fk), .int fp, .int (nI ka), .int (nI kn), .int (nI sv), .ref dK])), (dM, .inl (cI, 8192, .inl dm))] sz) := by
  refine Met.ofW (cc := cX4_hash) (maxL := 5) (ret := (some .int)) (by decide) rfl ?_
  intro p e s m args below meth c s₁ B hml hv
  obtain ⟨rfl, hsz, hP, hK, hD0, hN⟩ := hv
  have hx := B.exec
  have hb := B.bytes
  have hr := B.returns
  have hts := atoms_spec (ws := wsX4_hash) B.pre
  have hown : s.vm.findClass RX4 = some m.cls := findClass_of_methodNamed B.named
  have hlocks := B.notSynchronized
  subst hsz
  have hD := hD0.self (sz := s.heap.size)
  generalize hAe : va_A [(oD, .inr (4, [.int (nI th), .ref dF, .int (nI len), .int (nI 1), .ref dH, .int (nI sr), .ref dL, .int (nI en), .int (nI ram), .int (nI mz), .ref dM, .int (nI hp), .int (nI cn), .ref dP, .ref dS, .int (nI fk), .int fp, .int (nI ka), .int (nI kn), .int (nI sv), .ref dK])), (dM, .inl (cI, 8192, .inl dm))] s.heap.size = A at hD ⊢
  have hA : ∀ q : Nat, s.heap.size ≤ q → A q := fun q h => by rw [← hAe]; exact Or.inr h
  have hS : va_S A s.heap s.heap [] := va_S.rf
  have hP : va_P (dC, dI) vwCl [(oD, .inr (4, [.int (nI th), .ref dF, .int (nI len), .int (nI 1), .ref dH, .int (nI sr), .ref dL, .int (nI en), .int (nI ram), .int (nI mz), .ref dM, .int (nI hp), .int (nI cn), .ref dP, .ref dS, .int (nI fk), .int fp, .int (nI ka), .int (nI kn), .int (nI sv), .ref dK])), (dM, .inl (cI, 8192, .inl dm))] s.heap := hP
  have hl := lv_entry ([.ref oD, .int av, .int nv]) (n := 5) (Nat.le_of_ble_eq_true rfl)
  rw [lg_entry_eq]
  generalize (lg_sl ([.ref oD, .int av, .int nv]) ++ List.replicate (5 - (lg_sl ([.ref oD, .int av, .int nv])).length) Slot.unset).toArray = ls at hl ⊢
  have hl : lv_has ls 5 [(0, .ref oD), (1, .int av), (2, .int nv)] := hl
  refine lv_aload_n hx hb dX4_hash_0 rfl (lv_at hl 0 rfl) ?_
  refine lv_iconst (v := nI 0) hx hb dX4_hash_1 (by decide) ?_
  refine va_put (D := (dC, dI)) (ci := 4) (v := .int (nI 0)) (ty := .int) (C := RX4) (T := TX4) (N := 21) hx hb hts (by decide +kernel) tyX4 tyX4_ok nmX4 hown hK hP hD hS 0 rfl rfl 0 (by decide) (hts (.fieldLink RX4 32 "GlulxHeadsModel" "thrown" "I") (by decide +kernel)) (fun _ h9 => h9) rfl (by decide +kernel) rfl rfl (Nat.le_of_ble_eq_true rfl) dX4_hash_2 (fun H locs hP hD hS => ?_)
  have hP : va_P (dC, dI) vwCl [(oD, .inr (4, [.int (nI 0), .ref dF, .int (nI len), .int (nI 1), .ref dH, .int (nI sr), .ref dL, .int (nI en), .int (nI ram), .int (nI mz), .ref dM, .int (nI hp), .int (nI cn), .ref dP, .ref dS, .int (nI fk), .int fp, .int (nI ka), .int (nI kn), .int (nI sv), .ref dK])), (dM, .inl (cI, 8192, .inl dm))] H := hP
  have hD : va_D A [(oD, .inr (4, [.int (nI 0), .ref dF, .int (nI len), .int (nI 1), .ref dH, .int (nI sr), .ref dL, .int (nI en), .int (nI ram), .int (nI mz), .ref dM, .int (nI hp), .int (nI cn), .ref dP, .ref dS, .int (nI fk), .int fp, .int (nI ka), .int (nI kn), .int (nI sv), .ref dK])), (dM, .inl (cI, 8192, .inl dm))] := hD
  refine lv_aload_n hx hb dX4_hash_5 rfl (lv_at hl 0 rfl) ?_
  refine va_get (D := (dC, dI)) (ci := 4) (v := .int (nI 1)) (C := RX4) (T := TX4) (N := 21) hx hb hts (by decide +kernel) hown hK hP 0 rfl rfl 3 (by decide) (hts (.fieldLink RX4 76 "GlulxHeadsModel" "has" "Z") (by decide +kernel)) (fun _ h9 => h9) rfl dX4_hash_6 ?_
  refine wx_if_ne (tgt := 15) hx hb dX4_hash_9 (by decide) (by first | omega | (split <;> omega)) (fun c_1 => ?_) (fun c_1 => absurd c_1 (by decide))
  refine lv_iload_n hx hb dX4_hash_15 rfl (lv_at hl 2 rfl) ?_
  refine lv_if_ge (tgt := 22) hx hb dX4_hash_16 (by decide) (fun c_2 => ?_) (fun c_2 => ?_)
  · skip
    rw [Int32.le_iff_toInt_le, show (0 : Int32).toInt = 0 by decide] at c_2
    obtain ⟨n, hn, rfl⟩ : ∃ n : Nat, n < 2147483648 ∧ nv = nI n := nI_of (by intro z; rw [Int32.lt_iff_toInt_lt, show (0 : Int32).toInt = 0 by decide] at z; omega)
    have hnE : (nI n).toInt = (n : Int) := nI_toInt hn
    have hnT : (nI n).toInt.toNat = n := by rw [hnE]; exact Int.toNat_natCast _
    refine lv_iload_n hx hb dX4_hash_22 rfl (lv_at hl 1 rfl) ?_
    refine lv_i2l (v := av.toInt64) hx hb dX4_hash_23 rfl ?_
    refine lv_lconst (v := lN 0) hx hb dX4_hash_24 (by decide) ?_
    refine lv_aload_n hx hb dX4_hash_25 rfl (lv_at hl 0 rfl) ?_
    refine va_get (D := (dC, dI)) (ci := 4) (v := .int (nI mz)) (C := RX4) (T := TX4) (N := 21) hx hb hts (by decide +kernel) hown hK hP 0 rfl rfl 9 (by decide) (hts (.fieldLink RX4 89 "GlulxHeadsModel" "m" "I") (by decide +kernel)) (fun _ h9 => h9) rfl dX4_hash_26 ?_
    refine lv_i2l (v := lN mz) hx hb dX4_hash_29 (nI_l (by first | omega | (split <;> omega))) ?_
    have hPc := hP.sub (ws' := []) [] rfl
    have hDc := hD.sub (ws' := []) [] (by decide) rfl
    have hFc := va_free (wc := []) hD hS hA [] rfl
    refine va_calli (va_runS (As := [.long av.toInt64, .long (lN 0), .long (lN mz)]) (rest := []) ⟨hx, hb, hml, hown, hts⟩ (c_X4_in l dC dI cB cI cJ H.size av.toInt64 (lN 0) (lN mz) ) (va_cwS 3 hts gX4_hash_X4_in rfl rfl rfl (by decide +kernel) ⟨Nat.le_of_ble_eq_true rfl, Nat.le_of_ble_eq_true rfl⟩) ⟨wBlind, wGo hK hPc hDc hN⟩ rfl rfl hl.1 rfl (lv_room (Nat.le_of_ble_eq_true rfl)) dX4_hash_30 ⟨show 0 ≤ 0 by decide, show 0 ≤ 0 by decide⟩) hS (fun q _ h => hFc q h) hFc (fun r_4 u t H1 locs ht hvm w_5 hB hz1 hk1 hS => ?_)
    clear u
    obtain ⟨hP1, hD1⟩ := hB
    rw [ht] at hP1
    try dsimp only at w_5
    obtain ⟨hP, hD⟩ := va_join (wr := [(oD, .inr (4, [.int (nI 0), .ref dF, .int (nI len), .int (nI 1), .ref dH, .int (nI sr), .ref dL, .int (nI en), .int (nI ram), .int (nI mz), .ref dM, .int (nI hp), .int (nI cn), .ref dP, .ref dS, .int (nI fk), .int fp, .int (nI ka), .int (nI kn), .int (nI sv), .ref dK])), (dM, .inl (cI, 8192, .inl dm))]) (w1 := []) hP hD [] [0, 1] rfl rfl (by decide) (by decide) hk1 hFc hP1 hD1
    clear hPc hDc hFc hP1 hD1 hz1 hk1 hvm
    generalize H1 = H at hP hS ⊢
    have hP : va_P (dC, dI) vwCl [(oD, .inr (4, [.int (nI 0), .ref dF, .int (nI len), .int (nI 1), .ref dH, .int (nI sr), .ref dL, .int (nI en), .int (nI ram), .int (nI mz), .ref dM, .int (nI hp), .int (nI cn), .ref dP, .ref dS, .int (nI fk), .int fp, .int (nI ka), .int (nI kn), .int (nI sv), .ref dK])), (dM, .inl (cI, 8192, .inl dm))] H := hP
    have hD : va_D A [(oD, .inr (4, [.int (nI 0), .ref dF, .int (nI len), .int (nI 1), .ref dH, .int (nI sr), .ref dL, .int (nI en), .int (nI ram), .int (nI mz), .ref dM, .int (nI hp), .int (nI cn), .ref dP, .ref dS, .int (nI fk), .int fp, .int (nI ka), .int (nI kn), .int (nI sv), .ref dK])), (dM, .inl (cI, 8192, .inl dm))] := hD
    have hz0 : (av.toInt64).toInt = av.toInt := Int32.toInt_toInt64 _
    have hz1 : (lN 0).toInt = ((0 : Nat) : Int) := pk_lT (by first | omega | (split <;> omega))
    have hz2 : (lN mz).toInt = ((mz : Nat) : Int) := pk_lT (by first | omega | (split <;> omega))
    have hwi : r_4 = nI (if 0 ≤ av.toInt ∧ av.toInt ≤ (mz : Int) then 1 else 0) := by rw [w_5]; exact wif (by constructor <;> (intro z; omega))
    clear w_5
    subst hwi
    refine wx_if_eq (tgt := 46) hx hb dX4_hash_33 (by decide) (by first | omega | (split <;> omega)) (fun c_6 => ?_) (fun c_6 => ?_)
    · skip
      have c_6 := wz_zero c_6
      refine lv_iconst (v := (-1)) hx hb dX4_hash_46 (by decide) ?_
      have hP9 := hP.sub (ws' := [(oD, .inr (4, [.int (nI 0), .ref dF, .int (nI len), .int (nI 1), .ref dH, .int (nI sr), .ref dL, .int (nI en), .int (nI ram), .int (nI mz), .ref dM, .int (nI hp), .int (nI cn), .ref dP, .ref dS, .int (nI fk), .int fp, .int (nI ka), .int (nI kn), .int (nI sv), .ref dK])), (dM, .inl (cI, 8192, .inl dm))]) [0, 1] rfl
      have hD9 := hD.sub (ws' := [(oD, .inr (4, [.int (nI 0), .ref dF, .int (nI len), .int (nI 1), .ref dH, .int (nI sr), .ref dL, .int (nI en), .int (nI ram), .int (nI mz), .ref dM, .int (nI hp), .int (nI cn), .ref dP, .ref dS, .int (nI fk), .int fp, .int (nI ka), .int (nI kn), .int (nI sv), .ref dK])), (dM, .inl (cI, 8192, .inl dm))]) [0, 1] (by decide) rfl
      exact W.iret (v := (-1)) hx hb hr (fun t ht hW => ⟨⟨(-1), (), rfl, (by unfold hshR; rw [if_neg (by omega), if_neg (fun z => by have z2 := z.2; rw [hnT] at z2; omega)]), by rw [ht]; exact hP9, hD9⟩, hS.F ht⟩) hS.2.2 dX4_hash_47
    · skip
      have c_6 := wz_pos c_6
      obtain ⟨j, hj, rfl⟩ : ∃ j : Nat, j < 2147483648 ∧ av = nI j := nI_of (by intro z; rw [Int32.lt_iff_toInt_lt, show (0 : Int32).toInt = 0 by decide] at z; omega)
      have hjE : (nI j).toInt = (j : Int) := nI_toInt hj
      have hjT : (nI j).toInt.toNat = j := by rw [hjE]; exact Int.toNat_natCast _
      refine lv_iload_n hx hb dX4_hash_36 rfl (lv_at hl 2 rfl) ?_
      refine lv_aload_n hx hb dX4_hash_37 rfl (lv_at hl 0 rfl) ?_
      refine va_get (D := (dC, dI)) (ci := 4) (v := .int (nI mz)) (C := RX4) (T := TX4) (N := 21) hx hb hts (by decide +kernel) hown hK hP 0 rfl rfl 9 (by decide) (hts (.fieldLink RX4 89 "GlulxHeadsModel" "m" "I") (by decide +kernel)) (fun _ h9 => h9) rfl dX4_hash_38 ?_
      refine lv_iload_n hx hb dX4_hash_41 rfl (lv_at hl 1 rfl) ?_
      refine wx_isub hx hb dX4_hash_42 (by first | omega | (split <;> omega)) ?_
      refine wx_icmp_le (tgt := 48) hx hb dX4_hash_43 (by decide) (by first | omega | (split <;> omega)) (by first | omega | (split <;> omega)) (fun c_7 => ?_) (fun c_7 => ?_)
      · skip
        refine lv_iconst (v := nI 0) hx hb dX4_hash_48 (by decide) ?_
        refine lv_istore_n (lv' := [(3, .int (nI 0)), (0, .ref oD), (1, .int (nI j)), (2, .int (nI n))]) hx hb dX4_hash_49 rfl hl (by decide) rfl (fun ls hl => ?_)
        refine lv_iconst (v := nI 0) hx hb dX4_hash_50 (by decide) ?_
        refine lv_istore (lv' := [(4, .int (nI 0)), (3, .int (nI 0)), (0, .ref oD), (1, .int (nI j)), (2, .int (nI n))]) hx hb dX4_hash_51 hl (by decide) rfl (fun ls hl => ?_)
        refine wx_loop (σ := Nat) (fun xq9 => n - xq9) (fun xq9 H locs ls => (xq9 ≤ n) ∧ va_P (dC, dI) vwCl [(oD, .inr (4, [.int (nI 0), .ref dF, .int (nI len), .int (nI 1), .ref dH, .int (nI sr), .ref dL, .int (nI en), .int (nI ram), .int (nI mz), .ref dM, .int (nI hp), .int (nI cn), .ref dP, .ref dS, .int (nI fk), .int fp, .int (nI ka), .int (nI kn), .int (nI sv), .ref dK])), (dM, .inl (cI, 8192, .inl dm))] H ∧ va_D A [(oD, .inr (4, [.int (nI 0), .ref dF, .int (nI len), .int (nI 1), .ref dH, .int (nI sr), .ref dL, .int (nI en), .int (nI ram), .int (nI mz), .ref dM, .int (nI hp), .int (nI cn), .ref dP, .ref dS, .int (nI fk), .int fp, .int (nI ka), .int (nI kn), .int (nI sv), .ref dK])), (dM, .inl (cI, 8192, .inl dm))] ∧ va_S A s.heap H locs ∧ lv_has ls 5 [(0, .ref oD), (1, .int (nI j)), (2, .int (nI n)), (3, .int (hsh mem j xq9)), (4, .int (nI xq9))]) ?_ (0) _ _ _ ⟨by first | omega | (split <;> omega), hP.sub [0, 1] rfl, hD.sub [0, 1] (by decide) rfl, hS, lv_sub hl [2, 3, 4, 1, 0] rfl⟩
        rintro i H locs ls ⟨hi, hP, hD, hS, hl⟩ ih
        have hi : i ≤ n := hi
        have hP : va_P (dC, dI) vwCl [(oD, .inr (4, [.int (nI 0), .ref dF, .int (nI len), .int (nI 1), .ref dH, .int (nI sr), .ref dL, .int (nI en), .int (nI ram), .int (nI mz), .ref dM, .int (nI hp), .int (nI cn), .ref dP, .ref dS, .int (nI fk), .int fp, .int (nI ka), .int (nI kn), .int (nI sv), .ref dK])), (dM, .inl (cI, 8192, .inl dm))] H := hP
        have hD : va_D A [(oD, .inr (4, [.int (nI 0), .ref dF, .int (nI len), .int (nI 1), .ref dH, .int (nI sr), .ref dL, .int (nI en), .int (nI ram), .int (nI mz), .ref dM, .int (nI hp), .int (nI cn), .ref dP, .ref dS, .int (nI fk), .int fp, .int (nI ka), .int (nI kn), .int (nI sv), .ref dK])), (dM, .inl (cI, 8192, .inl dm))] := hD
        have hl : lv_has ls 5 [(0, .ref oD), (1, .int (nI j)), (2, .int (nI n)), (3, .int (hsh mem j i)), (4, .int (nI i))] := hl
        refine lv_iload hx hb dX4_hash_53 (lv_at hl 4 rfl) ?_
        refine lv_iload_n hx hb dX4_hash_55 rfl (lv_at hl 2 rfl) ?_
        refine wx_icmp_ge (tgt := 80) hx hb dX4_hash_56 (by decide) (by first | omega | (split <;> omega)) (by first | omega | (split <;> omega)) (fun c_8 => ?_) (fun c_8 => ?_)
        · skip
          refine lv_iload_n hx hb dX4_hash_80 rfl (lv_at hl 3 rfl) ?_
          have hP9 := hP.sub (ws' := [(oD, .inr (4, [.int (nI 0), .ref dF, .int (nI len), .int (nI 1), .ref dH, .int (nI sr), .ref dL, .int (nI en), .int (nI ram), .int (nI mz), .ref dM, .int (nI hp), .int (nI cn), .ref dP, .ref dS, .int (nI fk), .int fp, .int (nI ka), .int (nI kn), .int (nI sv), .ref dK])), (dM, .inl (cI, 8192, .inl dm))]) [0, 1] rfl
          have hD9 := hD.sub (ws' := [(oD, .inr (4, [.int (nI 0), .ref dF, .int (nI len), .int (nI 1), .ref dH, .int (nI sr), .ref dL, .int (nI en), .int (nI ram), .int (nI mz), .ref dM, .int (nI hp), .int (nI cn), .ref dP, .ref dS, .int (nI fk), .int fp, .int (nI ka), .int (nI kn), .int (nI sv), .ref dK])), (dM, .inl (cI, 8192, .inl dm))]) [0, 1] (by decide) rfl
          exact W.iret (v := hsh mem j i) hx hb hr (fun t ht hW => ⟨⟨(hsh mem j i), (), rfl, (by unfold hshR; rw [if_neg (by omega), if_pos ⟨by omega, by rw [hnT]; omega⟩, hjT, hnT, show n = i by omega]), by rw [ht]; exact hP9, hD9⟩, hS.F ht⟩) hS.2.2 dX4_hash_81
        · skip
          refine lv_bipush (v := nI 31) hx hb dX4_hash_59 (by decide) ?_
          refine lv_iload_n hx hb dX4_hash_61 rfl (lv_at hl 3 rfl) ?_
          refine lv_imul hx hb dX4_hash_62 ?_
          refine lv_aload_n hx hb dX4_hash_63 rfl (lv_at hl 0 rfl) ?_
          refine va_get (D := (dC, dI)) (ci := 4) (v := .ref dM) (C := RX4) (T := TX4) (N := 21) hx hb hts (by decide +kernel) hown hK hP 0 rfl rfl 10 (by decide) (hts (.fieldLink RX4 20 "GlulxHeadsModel" "memory" "[I") (by decide +kernel)) (fun _ h9 => h9) rfl dX4_hash_64 ?_
          refine lv_iload_n hx hb dX4_hash_67 rfl (lv_at hl 1 rfl) ?_
          refine lv_iload hx hb dX4_hash_68 (lv_at hl 4 rfl) ?_
          refine wx_iadd hx hb dX4_hash_70 ?_
          refine wx_iald hx hb hK hP 1 1 rfl rfl (by first | omega | (split <;> omega)) (by decide) dX4_hash_71 ?_
          refine wx_top (hm (j + i) (by omega)) ?_
          refine lv_iadd hx hb dX4_hash_72 ?_
          refine wx_top (show _ = hsh mem j (i + 1) from rfl) ?_
          refine lv_istore_n (lv' := [(3, .int (hsh mem j (i + 1))), (0, .ref oD), (1, .int (nI j)), (2, .int (nI n)), (4, .int (nI i))]) hx hb dX4_hash_73 rfl hl (by decide) rfl (fun ls hl => ?_)
          refine lv_iinc (v := nI (i + 1)) (lv' := [(4, .int (nI (i + 1))), (3, .int (hsh mem j (i + 1))), (0, .ref oD), (1, .int (nI j)), (2, .int (nI n))]) hx hb dX4_hash_74 hl (k := 4) rfl (by rw [show Int32.ofInt 1 = nI 1 by decide]; exact nI_add _ _) (by decide) rfl (fun ls hl => ?_)
          refine lv_goto (tgt := 53) hx hb dX4_hash_77 (by decide) ?_
          exact ih ((i + 1)) _ _ _ (by omega) ⟨by first | omega | (split <;> omega), hP.sub [0, 1] rfl, hD.sub [0, 1] (by decide) rfl, hS, lv_sub hl [2, 3, 4, 1, 0] rfl⟩
      · skip
        refine lv_iconst (v := (-1)) hx hb dX4_hash_46 (by decide) ?_
        have hP9 := hP.sub (ws' := [(oD, .inr (4, [.int (nI 0), .ref dF, .int (nI len), .int (nI 1), .ref dH, .int (nI sr), .ref dL, .int (nI en), .int (nI ram), .int (nI mz), .ref dM, .int (nI hp), .int (nI cn), .ref dP, .ref dS, .int (nI fk), .int fp, .int (nI ka), .int (nI kn), .int (nI sv), .ref dK])), (dM, .inl (cI, 8192, .inl dm))]) [0, 1] rfl
        have hD9 := hD.sub (ws' := [(oD, .inr (4, [.int (nI 0), .ref dF, .int (nI len), .int (nI 1), .ref dH, .int (nI sr), .ref dL, .int (nI en), .int (nI ram), .int (nI mz), .ref dM, .int (nI hp), .int (nI cn), .ref dP, .ref dS, .int (nI fk), .int fp, .int (nI ka), .int (nI kn), .int (nI sv), .ref dK])), (dM, .inl (cI, 8192, .inl dm))]) [0, 1] (by decide) rfl
        exact W.iret (v := (-1)) hx hb hr (fun t ht hW => ⟨⟨(-1), (), rfl, (by unfold hshR; rw [if_neg (by omega), if_neg (fun z => absurd z.2 (by rw [hnT]; omega))]), by rw [ht]; exact hP9, hD9⟩, hS.F ht⟩) hS.2.2 dX4_hash_47
  · skip
    rw [Int32.le_iff_toInt_le, show (0 : Int32).toInt = 0 by decide] at c_2
    refine lv_bipush (v := (-2)) hx hb dX4_hash_19 (by decide) ?_
    have hP9 := hP.sub (ws' := [(oD, .inr (4, [.int (nI 0), .ref dF, .int (nI len), .int (nI 1), .ref dH, .int (nI sr), .ref dL, .int (nI en), .int (nI ram), .int (nI mz), .ref dM, .int (nI hp), .int (nI cn), .ref dP, .ref dS, .int (nI fk), .int fp, .int (nI ka), .int (nI kn), .int (nI sv), .ref dK])), (dM, .inl (cI, 8192, .inl dm))]) [0, 1] rfl
    have hD9 := hD.sub (ws' := [(oD, .inr (4, [.int (nI 0), .ref dF, .int (nI len), .int (nI 1), .ref dH, .int (nI sr), .ref dL, .int (nI en), .int (nI ram), .int (nI mz), .ref dM, .int (nI hp), .int (nI cn), .ref dP, .ref dS, .int (nI fk), .int fp, .int (nI ka), .int (nI kn), .int (nI sv), .ref dK])), (dM, .inl (cI, 8192, .inl dm))]) [0, 1] (by decide) rfl
    exact W.iret (v := (-2)) hx hb hr (fun t ht hW => ⟨⟨(-2), (), rfl, (by unfold hshR; rw [if_pos (by omega)]), by rw [ht]; exact hP9, hD9⟩, hS.F ht⟩) hS.2.2 dX4_hash_21
set_option maxHeartbeats 1000000 in
set_option maxRecDepth 100000 in
theorem c_X4_changed_M (l : Launch) (dC : Nat → ClassId) (dI : Nat → Nat → Nat) (cB cI cJ : ClassId) (sz : Nat) (oD : Nat) (th : Nat) (dF : Nat) (len : Nat) (dH : Nat) (sr : Nat) (dL : Nat) (en : Nat) (ram : Nat) (mz : Nat) (dM : Nat) (hp : Nat) (cn : Nat) (dP : Nat) (dS : Nat) (fk : Nat) (fp : Int32) (ka : Nat) (kn : Nat) (sv : Nat) (dK : Nat) (dl : Nat → Int32) (dm : Nat → Int32) (mem : Nat → Nat) (lm : Nat → Nat) (av : Int32) (hmz : mz ≤ 8192) (hm : gOk dm mz mem) (hmem : ∀ j, mem j < 256) (hen : en ≤ 4096) (hl0 : gOk dl en lm) (hlb : ∀ j, lm j < 256) (hlz : ∀ j, en ≤ j → lm j = 0) : Met l yX4_changed wsX4_changed ({ frames := 1, cells := 0, slots := 0, locals := 25 }) (va_Pc [.ref oD, .int av] (wPre dC dI cB cI cJ sz [(oD, .inr (4, [.int (nI th), .ref dF, .int (nI len), .int (nI 1), .ref dH, .int (nI sr), .ref dL, .int (nI en), .int (nI ram), .int (nI mz), .ref dM, .int (nI hp), .int (nI cn), .ref dP, .ref dS, .int (nI fk), .int fp, .int (nI ka), .int (nI kn), .int (nI sv), .ref dK])), (dL, .inl (cI, 4096, .inl dl)), (dM, .inl (cI, 8192, .inl dm))])) (va_Qi (fun (r : Int32) (u : Unit) => r = chgR mem lm mz av) (fun (u : Unit) => wPost dC dI (va_A [(oD, .inr (4, [.int (nI th), .ref dF, .int (nI len), .int (nI 1), .ref dH, .int (nI sr), .ref dL, .int (nI en), .int (nI ram), .int (nI mz), .ref dM, .int (nI hp), .int (nI cn), .ref dP, .ref dS, .int (nI fk), .int fp, .int (nI ka), .int (nI kn), .int (nI sv), .ref dK])), (dL, .inl (cI, 4096, .inl dl)), (dM, .inl (cI, 8192, .inl dm))] sz) [(oD, .inr (4, [.int (nI 0), .ref dF, .int (nI len), .int (nI 1), .ref dH, .int (nI sr), .ref dL, .int (nI en), .int (nI ram), .int (nI mz), .ref dM, .int (nI hp), .int (nI cn), .ref dP, .ref dS, .int (nI fk), .int fp, .int (nI ka), .int (nI kn), .int (nI sv), .ref dK])), (dL, .inl (cI, 4096, .inl dl)), (dM, .inl (cI, 8192, .inl dm))]) (va_A [(oD, .inr (4, [.int (nI th), .ref dF, .int (nI len), .int (nI 1), .ref dH, .int (nI sr), .ref dL, .int (nI en), .int (nI ram), .int (nI mz), .ref dM, .int (nI hp), .int (nI cn), .ref dP, .ref dS, .int (nI fk), .int fp, .int (nI ka), .int (nI kn), .int (nI sv), .ref dK])), (dL, .inl (cI, 4096, .inl dl)), (dM, .inl (cI, 8192, .inl dm))] sz)) 0 0 (va_A [(oD, .inr (4, [.int (nI th), .ref dF, .int (nI len), .int (nI 1), .ref dH, .int (nI sr), .ref dL, .int (nI en), .int (nI ram), .int (nI mz), .ref dM, .int (nI hp), .int (nI cn), .ref dP, .ref dS, .int (nI fk), .int fp, .int (nI ka), .int (nI kn), .int (nI sv), .ref dK])), (dL, .inl (cI, 4096, .inl dl)), (dM, .inl (cI, 8192, .inl dm))] sz) := by
  refine Met.ofW (cc := cX4_changed) (maxL := 3) (ret := (some .int)) (by decide) rfl ?_
  intro p e s m args below meth c s₁ B hml hv
  obtain ⟨rfl, hsz, hP, hK, hD0, hN⟩ := hv
  have hx := B.exec
  have hb := B.bytes
  have hr := B.returns
  have hts := atoms_spec (ws := wsX4_changed) B.pre
  have hown : s.vm.findClass RX4 = some m.cls := findClass_of_methodNamed B.named
  have hlocks := B.notSynchronized
  subst hsz
  have hD := hD0.self (sz := s.heap.size)
  generalize hAe : va_A [(oD, .inr (4, [.int (nI th), .ref dF, .int (nI len), .int (nI 1), .ref dH, .int (nI sr), .ref dL, .int (nI en), .int (nI ram), .int (nI mz), .ref dM, .int (nI hp), .int (nI cn), .ref dP, .ref dS, .int (nI fk), .int fp, .int (nI ka), .int (nI kn), .int (nI sv), .ref dK])), (dL, .inl (cI, 4096, .inl dl)), (dM, .inl (cI, 8192, .inl dm))] s.heap.size = A at hD ⊢
  have hA : ∀ q : Nat, s.heap.size ≤ q → A q := fun q h => by rw [← hAe]; exact Or.inr h
  have hS : va_S A s.heap s.heap [] := va_S.rf
  have hP : va_P (dC, dI) vwCl [(oD, .inr (4, [.int (nI th), .ref dF, .int (nI len), .int (nI 1), .ref dH, .int (nI sr), .ref dL, .int (nI en), .int (nI ram), .int (nI mz), .ref dM, .int (nI hp), .int (nI cn), .ref dP, .ref dS, .int (nI fk), .int fp, .int (nI ka), .int (nI kn), .int (nI sv), .ref dK])), (dL, .inl (cI, 4096, .inl dl)), (dM, .inl (cI, 8192, .inl dm))] s.heap := hP
  have hl := lv_entry ([.ref oD, .int av]) (n := 3) (Nat.le_of_ble_eq_true rfl)
  rw [lg_entry_eq]
  generalize (lg_sl ([.ref oD, .int av]) ++ List.replicate (3 - (lg_sl ([.ref oD, .int av])).length) Slot.unset).toArray = ls at hl ⊢
  have hl : lv_has ls 3 [(0, .ref oD), (1, .int av)] := hl
  refine lv_aload_n hx hb dX4_changed_0 rfl (lv_at hl 0 rfl) ?_
  refine lv_iconst (v := nI 0) hx hb dX4_changed_1 (by decide) ?_
  refine va_put (D := (dC, dI)) (ci := 4) (v := .int (nI 0)) (ty := .int) (C := RX4) (T := TX4) (N := 21) hx hb hts (by decide +kernel) tyX4 tyX4_ok nmX4 hown hK hP hD hS 0 rfl rfl 0 (by decide) (hts (.fieldLink RX4 32 "GlulxHeadsModel" "thrown" "I") (by decide +kernel)) (fun _ h9 => h9) rfl (by decide +kernel) rfl rfl (Nat.le_of_ble_eq_true rfl) dX4_changed_2 (fun H locs hP hD hS => ?_)
  have hP : va_P (dC, dI) vwCl [(oD, .inr (4, [.int (nI 0), .ref dF, .int (nI len), .int (nI 1), .ref dH, .int (nI sr), .ref dL, .int (nI en), .int (nI ram), .int (nI mz), .ref dM, .int (nI hp), .int (nI cn), .ref dP, .ref dS, .int (nI fk), .int fp, .int (nI ka), .int (nI kn), .int (nI sv), .ref dK])), (dL, .inl (cI, 4096, .inl dl)), (dM, .inl (cI, 8192, .inl dm))] H := hP
  have hD : va_D A [(oD, .inr (4, [.int (nI 0), .ref dF, .int (nI len), .int (nI 1), .ref dH, .int (nI sr), .ref dL, .int (nI en), .int (nI ram), .int (nI mz), .ref dM, .int (nI hp), .int (nI cn), .ref dP, .ref dS, .int (nI fk), .int fp, .int (nI ka), .int (nI kn), .int (nI sv), .ref dK])), (dL, .inl (cI, 4096, .inl dl)), (dM, .inl (cI, 8192, .inl dm))] := hD
  refine lv_aload_n hx hb dX4_changed_5 rfl (lv_at hl 0 rfl) ?_
  refine va_get (D := (dC, dI)) (ci := 4) (v := .int (nI 1)) (C := RX4) (T := TX4) (N := 21) hx hb hts (by decide +kernel) hown hK hP 0 rfl rfl 3 (by decide) (hts (.fieldLink RX4 76 "GlulxHeadsModel" "has" "Z") (by decide +kernel)) (fun _ h9 => h9) rfl dX4_changed_6 ?_
  refine wx_if_ne (tgt := 15) hx hb dX4_changed_9 (by decide) (by first | omega | (split <;> omega)) (fun c_1 => ?_) (fun c_1 => absurd c_1 (by decide))
  refine lv_iload_n hx hb dX4_changed_15 rfl (lv_at hl 1 rfl) ?_
  refine lv_i2l (v := av.toInt64) hx hb dX4_changed_16 rfl ?_
  refine lv_lconst (v := lN 0) hx hb dX4_changed_17 (by decide) ?_
  refine lv_aload_n hx hb dX4_changed_18 rfl (lv_at hl 0 rfl) ?_
  refine va_get (D := (dC, dI)) (ci := 4) (v := .int (nI mz)) (C := RX4) (T := TX4) (N := 21) hx hb hts (by decide +kernel) hown hK hP 0 rfl rfl 9 (by decide) (hts (.fieldLink RX4 89 "GlulxHeadsModel" "m" "I") (by decide +kernel)) (fun _ h9 => h9) rfl dX4_changed_19 ?_
  refine lv_sipush (v := nI 256) hx hb dX4_changed_22 (by decide) ?_
  refine wx_idiv hx hb dX4_changed_25 (by first | omega | (split <;> omega)) (by first | omega | (split <;> omega)) (by first | omega | (split <;> omega)) ?_
  refine lv_iconst (v := nI 1) hx hb dX4_changed_26 (by decide) ?_
  refine lv_isub hx hb dX4_changed_27 ?_
  refine lv_i2l (v := ((nI (mz / 256)) - (nI 1)).toInt64) hx hb dX4_changed_28 rfl ?_
  have hPc := hP.sub (ws' := []) [] rfl
  have hDc := hD.sub (ws' := []) [] (by decide) rfl
  have hFc := va_free (wc := []) hD hS hA [] rfl
  refine va_calli (va_runS (As := [.long av.toInt64, .long (lN 0), .long (((nI (mz / 256)) - (nI 1)).toInt64)]) (rest := []) ⟨hx, hb, hml, hown, hts⟩ (c_X4_in l dC dI cB cI cJ H.size av.toInt64 (lN 0) (((nI (mz / 256)) - (nI 1)).toInt64) ) (va_cwS 3 hts gX4_changed_X4_in rfl rfl rfl (by decide +kernel) ⟨Nat.le_of_ble_eq_true rfl, Nat.le_of_ble_eq_true rfl⟩) ⟨wBlind, wGo hK hPc hDc hN⟩ rfl rfl hl.1 rfl (lv_room (Nat.le_of_ble_eq_true rfl)) dX4_changed_29 ⟨show 0 ≤ 0 by decide, show 0 ≤ 0 by decide⟩) hS (fun q _ h => hFc q h) hFc (fun r_3 u t H1 locs ht hvm w_4 hB hz1 hk1 hS => ?_)
  clear u
  obtain ⟨hP1, hD1⟩ := hB
  rw [ht] at hP1
  try dsimp only at w_4
  obtain ⟨hP, hD⟩ := va_join (wr := [(oD, .inr (4, [.int (nI 0), .ref dF, .int (nI len), .int (nI 1), .ref dH, .int (nI sr), .ref dL, .int (nI en), .int (nI ram), .int (nI mz), .ref dM, .int (nI hp), .int (nI cn), .ref dP, .ref dS, .int (nI fk), .int fp, .int (nI ka), .int (nI kn), .int (nI sv), .ref dK])), (dL, .inl (cI, 4096, .inl dl)), (dM, .inl (cI, 8192, .inl dm))]) (w1 := []) hP hD [] [0, 1, 2] rfl rfl (by decide) (by decide) hk1 hFc hP1 hD1
  clear hPc hDc hFc hP1 hD1 hz1 hk1 hvm
  generalize H1 = H at hP hS ⊢
  have hP : va_P (dC, dI) vwCl [(oD, .inr (4, [.int (nI 0), .ref dF, .int (nI len), .int (nI 1), .ref dH, .int (nI sr), .ref dL, .int (nI en), .int (nI ram), .int (nI mz), .ref dM, .int (nI hp), .int (nI cn), .ref dP, .ref dS, .int (nI fk), .int fp, .int (nI ka), .int (nI kn), .int (nI sv), .ref dK])), (dL, .inl (cI, 4096, .inl dl)), (dM, .inl (cI, 8192, .inl dm))] H := hP
  have hD : va_D A [(oD, .inr (4, [.int (nI 0), .ref dF, .int (nI len), .int (nI 1), .ref dH, .int (nI sr), .ref dL, .int (nI en), .int (nI ram), .int (nI mz), .ref dM, .int (nI hp), .int (nI cn), .ref dP, .ref dS, .int (nI fk), .int fp, .int (nI ka), .int (nI kn), .int (nI sv), .ref dK])), (dL, .inl (cI, 4096, .inl dl)), (dM, .inl (cI, 8192, .inl dm))] := hD
  have hz0 : (av.toInt64).toInt = av.toInt := Int32.toInt_toInt64 _
  have hz1 : (lN 0).toInt = ((0 : Nat) : Int) := pk_lT (by first | omega | (split <;> omega))
  have hz2 : (((nI (mz / 256)) - (nI 1)).toInt64).toInt = ((nI (mz / 256)) - (nI 1)).toInt := Int32.toInt_toInt64 _
  have hy2 : ((nI (mz / 256)) - (nI 1)).toInt = (((mz / 256) : Nat) : Int) - ((1 : Nat) : Int) := pk_sub_toInt (by first | omega | (split <;> omega)) (by first | omega | (split <;> omega))
  have hwi : r_3 = nI (if 0 ≤ av.toInt ∧ av.toInt < ((mz / 256 : Nat) : Int) then 1 else 0) := by rw [w_4]; exact wif (by constructor <;> (intro z; omega))
  clear w_4
  subst hwi
  refine wx_if_ne (tgt := 37) hx hb dX4_changed_32 (by decide) (by first | omega | (split <;> omega)) (fun c_5 => ?_) (fun c_5 => ?_)
  · skip
    have c_5 := wz_pos c_5
    obtain ⟨pg, hpg, rfl⟩ : ∃ pg : Nat, pg < 2147483648 ∧ av = nI pg := nI_of (by intro z; rw [Int32.lt_iff_toInt_lt, show (0 : Int32).toInt = 0 by decide] at z; omega)
    have hpgE : (nI pg).toInt = (pg : Int) := nI_toInt hpg
    have hpgT : (nI pg).toInt.toNat = pg := by rw [hpgE]; exact Int.toNat_natCast _
    refine lv_sipush (v := nI 256) hx hb dX4_changed_37 (by decide) ?_
    refine lv_iload_n hx hb dX4_changed_40 rfl (lv_at hl 1 rfl) ?_
    refine wx_imul hx hb dX4_changed_41 ?_
    refine lv_istore_n (lv' := [(2, .int (nI (256 * pg))), (0, .ref oD), (1, .int (nI pg))]) hx hb dX4_changed_42 rfl hl (by decide) rfl (fun ls hl => ?_)
    refine wx_loop (σ := Nat) (fun xq9 => 256 - xq9) (fun xq9 H locs ls => (xq9 ≤ 256) ∧ (∀ q, q < xq9 → mem (pg * 256 + q) = lm (pg * 256 + q)) ∧ va_P (dC, dI) vwCl [(oD, .inr (4, [.int (nI 0), .ref dF, .int (nI len), .int (nI 1), .ref dH, .int (nI sr), .ref dL, .int (nI en), .int (nI ram), .int (nI mz), .ref dM, .int (nI hp), .int (nI cn), .ref dP, .ref dS, .int (nI fk), .int fp, .int (nI ka), .int (nI kn), .int (nI sv), .ref dK])), (dL, .inl (cI, 4096, .inl dl)), (dM, .inl (cI, 8192, .inl dm))] H ∧ va_D A [(oD, .inr (4, [.int (nI 0), .ref dF, .int (nI len), .int (nI 1), .ref dH, .int (nI sr), .ref dL, .int (nI en), .int (nI ram), .int (nI mz), .ref dM, .int (nI hp), .int (nI cn), .ref dP, .ref dS, .int (nI fk), .int fp, .int (nI ka), .int (nI kn), .int (nI sv), .ref dK])), (dL, .inl (cI, 4096, .inl dl)), (dM, .inl (cI, 8192, .inl dm))] ∧ va_S A s.heap H locs ∧ lv_has ls 3 [(0, .ref oD), (1, .int (nI pg)), (2, .int (nI (256 * pg + xq9)))]) ?_ (0) _ _ _ ⟨by first | omega | (split <;> omega), fun q hq => absurd hq (Nat.not_lt_zero _), hP.sub [0, 1, 2] rfl, hD.sub [0, 1, 2] (by decide) rfl, hS, lv_sub hl [1, 2, 0] rfl⟩
    rintro i H locs ls ⟨hi, hq, hP, hD, hS, hl⟩ ih
    have hi : i ≤ 256 := hi
    have hq : ∀ q, q < i → mem (pg * 256 + q) = lm (pg * 256 + q) := hq
    have hP : va_P (dC, dI) vwCl [(oD, .inr (4, [.int (nI 0), .ref dF, .int (nI len), .int (nI 1), .ref dH, .int (nI sr), .ref dL, .int (nI en), .int (nI ram), .int (nI mz), .ref dM, .int (nI hp), .int (nI cn), .ref dP, .ref dS, .int (nI fk), .int fp, .int (nI ka), .int (nI kn), .int (nI sv), .ref dK])), (dL, .inl (cI, 4096, .inl dl)), (dM, .inl (cI, 8192, .inl dm))] H := hP
    have hD : va_D A [(oD, .inr (4, [.int (nI 0), .ref dF, .int (nI len), .int (nI 1), .ref dH, .int (nI sr), .ref dL, .int (nI en), .int (nI ram), .int (nI mz), .ref dM, .int (nI hp), .int (nI cn), .ref dP, .ref dS, .int (nI fk), .int fp, .int (nI ka), .int (nI kn), .int (nI sv), .ref dK])), (dL, .inl (cI, 4096, .inl dl)), (dM, .inl (cI, 8192, .inl dm))] := hD
    have hl : lv_has ls 3 [(0, .ref oD), (1, .int (nI pg)), (2, .int (nI (256 * pg + i)))] := hl
    refine lv_iload_n hx hb dX4_changed_43 rfl (lv_at hl 2 rfl) ?_
    refine lv_sipush (v := nI 256) hx hb dX4_changed_44 (by decide) ?_
    refine lv_iload_n hx hb dX4_changed_47 rfl (lv_at hl 1 rfl) ?_
    refine wx_imul hx hb dX4_changed_48 ?_
    refine lv_sipush (v := nI 256) hx hb dX4_changed_49 (by decide) ?_
    refine wx_iadd hx hb dX4_changed_52 ?_
    refine wx_icmp_ge (tgt := 91) hx hb dX4_changed_53 (by decide) (by first | omega | (split <;> omega)) (by first | omega | (split <;> omega)) (fun c_6 => ?_) (fun c_6 => ?_)
    · skip
      refine lv_iconst (v := nI 0) hx hb dX4_changed_91 (by decide) ?_
      have hP9 := hP.sub (ws' := [(oD, .inr (4, [.int (nI 0), .ref dF, .int (nI len), .int (nI 1), .ref dH, .int (nI sr), .ref dL, .int (nI en), .int (nI ram), .int (nI mz), .ref dM, .int (nI hp), .int (nI cn), .ref dP, .ref dS, .int (nI fk), .int fp, .int (nI ka), .int (nI kn), .int (nI sv), .ref dK])), (dL, .inl (cI, 4096, .inl dl)), (dM, .inl (cI, 8192, .inl dm))]) [0, 1, 2] rfl
      have hD9 := hD.sub (ws' := [(oD, .inr (4, [.int (nI 0), .ref dF, .int (nI len), .int (nI 1), .ref dH, .int (nI sr), .ref dL, .int (nI en), .int (nI ram), .int (nI mz), .ref dM, .int (nI hp), .int (nI cn), .ref dP, .ref dS, .int (nI fk), .int fp, .int (nI ka), .int (nI kn), .int (nI sv), .ref dK])), (dL, .inl (cI, 4096, .inl dl)), (dM, .inl (cI, 8192, .inl dm))]) [0, 1, 2] (by decide) rfl
      exact W.iret (v := nI 0) hx hb hr (fun t ht hW => ⟨⟨(nI 0), (), rfl, (by unfold chgR; rw [if_pos (by omega), hpgT, pgD_0 256 (fun q h => hq q (by omega))]), by rw [ht]; exact hP9, hD9⟩, hS.F ht⟩) hS.2.2 dX4_changed_92
    · skip
      refine lv_aload_n hx hb dX4_changed_56 rfl (lv_at hl 0 rfl) ?_
      refine va_get (D := (dC, dI)) (ci := 4) (v := .ref dM) (C := RX4) (T := TX4) (N := 21) hx hb hts (by decide +kernel) hown hK hP 0 rfl rfl 10 (by decide) (hts (.fieldLink RX4 20 "GlulxHeadsModel" "memory" "[I") (by decide +kernel)) (fun _ h9 => h9) rfl dX4_changed_57 ?_
      refine lv_iload_n hx hb dX4_changed_60 rfl (lv_at hl 2 rfl) ?_
      refine wx_iald hx hb hK hP 2 1 rfl rfl (by first | omega | (split <;> omega)) (by decide) dX4_changed_61 ?_
      refine wx_top (hm (256 * pg + i) (by omega)) ?_
      have hmb := hmem (256 * pg + i)
      refine lv_iload_n hx hb dX4_changed_62 rfl (lv_at hl 2 rfl) ?_
      refine lv_aload_n hx hb dX4_changed_63 rfl (lv_at hl 0 rfl) ?_
      refine va_get (D := (dC, dI)) (ci := 4) (v := .int (nI en)) (C := RX4) (T := TX4) (N := 21) hx hb hts (by decide +kernel) hown hK hP 0 rfl rfl 7 (by decide) (hts (.fieldLink RX4 86 "GlulxHeadsModel" "end" "I") (by decide +kernel)) (fun _ h9 => h9) rfl dX4_changed_64 ?_
      refine wx_icmp_ge (tgt := 79) hx hb dX4_changed_67 (by decide) (by first | omega | (split <;> omega)) (by first | omega | (split <;> omega)) (fun c_7 => ?_) (fun c_7 => ?_)
      · skip
        refine lv_iconst (v := nI 0) hx hb dX4_changed_79 (by decide) ?_
        refine wx_icmp_eq (tgt := 85) hx hb dX4_changed_80 (by decide) (by first | omega | (split <;> omega)) (by first | omega | (split <;> omega)) (fun c_8 => ?_) (fun c_8 => ?_)
        · skip
          refine lv_iinc (v := nI (256 * pg + i + 1)) (lv' := [(2, .int (nI (256 * pg + i + 1))), (0, .ref oD), (1, .int (nI pg))]) hx hb dX4_changed_85 hl (k := 2) rfl (by rw [show Int32.ofInt 1 = nI 1 by decide]; exact nI_add _ _) (by decide) rfl (fun ls hl => ?_)
          refine lv_goto (tgt := 43) hx hb dX4_changed_88 (by decide) ?_
          exact ih ((i + 1)) _ _ _ (by omega) ⟨by first | omega | (split <;> omega), lt_s hq (by rw [Nat.mul_comm pg 256]; first | assumption | (rw [hlz _ (by omega)]; assumption)), hP.sub [0, 1, 2] rfl, hD.sub [0, 1, 2] (by decide) rfl, hS, lv_sub hl [1, 2, 0] rfl⟩
        · skip
          refine lv_iconst (v := nI 1) hx hb dX4_changed_83 (by decide) ?_
          have hP9 := hP.sub (ws' := [(oD, .inr (4, [.int (nI 0), .ref dF, .int (nI len), .int (nI 1), .ref dH, .int (nI sr), .ref dL, .int (nI en), .int (nI ram), .int (nI mz), .ref dM, .int (nI hp), .int (nI cn), .ref dP, .ref dS, .int (nI fk), .int fp, .int (nI ka), .int (nI kn), .int (nI sv), .ref dK])), (dL, .inl (cI, 4096, .inl dl)), (dM, .inl (cI, 8192, .inl dm))]) [0, 1, 2] rfl
          have hD9 := hD.sub (ws' := [(oD, .inr (4, [.int (nI 0), .ref dF, .int (nI len), .int (nI 1), .ref dH, .int (nI sr), .ref dL, .int (nI en), .int (nI ram), .int (nI mz), .ref dM, .int (nI hp), .int (nI cn), .ref dP, .ref dS, .int (nI fk), .int fp, .int (nI ka), .int (nI kn), .int (nI sv), .ref dK])), (dL, .inl (cI, 4096, .inl dl)), (dM, .inl (cI, 8192, .inl dm))]) [0, 1, 2] (by decide) rfl
          exact W.iret (v := nI 1) hx hb hr (fun t ht hW => ⟨⟨(nI 1), (), rfl, (by unfold chgR; rw [if_pos (by omega), hpgT, pgD_1 (i := i) (by rw [Nat.mul_comm pg 256]; first | assumption | (rw [hlz _ (by omega)]; assumption)) 256 (by omega)]), by rw [ht]; exact hP9, hD9⟩, hS.F ht⟩) hS.2.2 dX4_changed_84
      · skip
        refine lv_aload_n hx hb dX4_changed_70 rfl (lv_at hl 0 rfl) ?_
        refine va_get (D := (dC, dI)) (ci := 4) (v := .ref dL) (C := RX4) (T := TX4) (N := 21) hx hb hts (by decide +kernel) hown hK hP 0 rfl rfl 6 (by decide) (hts (.fieldLink RX4 17 "GlulxHeadsModel" "loaded" "[I") (by decide +kernel)) (fun _ h9 => h9) rfl dX4_changed_71 ?_
        refine lv_iload_n hx hb dX4_changed_74 rfl (lv_at hl 2 rfl) ?_
        refine wx_iald hx hb hK hP 1 1 rfl rfl (by first | omega | (split <;> omega)) (by decide) dX4_changed_75 ?_
        refine wx_top (hl0 (256 * pg + i) (by omega)) ?_
        have hlbb := hlb (256 * pg + i)
        refine lv_goto (tgt := 80) hx hb dX4_changed_76 (by decide) ?_
        refine wx_icmp_eq (tgt := 85) hx hb dX4_changed_80 (by decide) (by first | omega | (split <;> omega)) (by first | omega | (split <;> omega)) (fun c_9 => ?_) (fun c_9 => ?_)
        · skip
          refine lv_iinc (v := nI (256 * pg + i + 1)) (lv' := [(2, .int (nI (256 * pg + i + 1))), (0, .ref oD), (1, .int (nI pg))]) hx hb dX4_changed_85 hl (k := 2) rfl (by rw [show Int32.ofInt 1 = nI 1 by decide]; exact nI_add _ _) (by decide) rfl (fun ls hl => ?_)
          refine lv_goto (tgt := 43) hx hb dX4_changed_88 (by decide) ?_
          exact ih ((i + 1)) _ _ _ (by omega) ⟨by first | omega | (split <;> omega), lt_s hq (by rw [Nat.mul_comm pg 256]; first | assumption | (rw [hlz _ (by omega)]; assumption)), hP.sub [0, 1, 2] rfl, hD.sub [0, 1, 2] (by decide) rfl, hS, lv_sub hl [1, 2, 0] rfl⟩
        · skip
          refine lv_iconst (v := nI 1) hx hb dX4_changed_83 (by decide) ?_
          have hP9 := hP.sub (ws' := [(oD, .inr (4, [.int (nI 0), .ref dF, .int (nI len), .int (nI 1), .ref dH, .int (nI sr), .ref dL, .int (nI en), .int (nI ram), .int (nI mz), .ref dM, .int (nI hp), .int (nI cn), .ref dP, .ref dS, .int (nI fk), .int fp, .int (nI ka), .int (nI kn), .int (nI sv), .ref dK])), (dL, .inl (cI, 4096, .inl dl)), (dM, .inl (cI, 8192, .inl dm))]) [0, 1, 2] rfl
          have hD9 := hD.sub (ws' := [(oD, .inr (4, [.int (nI 0), .ref dF, .int (nI len), .int (nI 1), .ref dH, .int (nI sr), .ref dL, .int (nI en), .int (nI ram), .int (nI mz), .ref dM, .int (nI hp), .int (nI cn), .ref dP, .ref dS, .int (nI fk), .int fp, .int (nI ka), .int (nI kn), .int (nI sv), .ref dK])), (dL, .inl (cI, 4096, .inl dl)), (dM, .inl (cI, 8192, .inl dm))]) [0, 1, 2] (by decide) rfl
          exact W.iret (v := nI 1) hx hb hr (fun t ht hW => ⟨⟨(nI 1), (), rfl, (by unfold chgR; rw [if_pos (by omega), hpgT, pgD_1 (i := i) (by rw [Nat.mul_comm pg 256]; first | assumption | (rw [hlz _ (by omega)]; assumption)) 256 (by omega)]), by rw [ht]; exact hP9, hD9⟩, hS.F ht⟩) hS.2.2 dX4_changed_84
  · skip
    have c_5 := wz_zero c_5
    refine lv_iconst (v := (-1)) hx hb dX4_changed_35 (by decide) ?_
    have hP9 := hP.sub (ws' := [(oD, .inr (4, [.int (nI 0), .ref dF, .int (nI len), .int (nI 1), .ref dH, .int (nI sr), .ref dL, .int (nI en), .int (nI ram), .int (nI mz), .ref dM, .int (nI hp), .int (nI cn), .ref dP, .ref dS, .int (nI fk), .int fp, .int (nI ka), .int (nI kn), .int (nI sv), .ref dK])), (dL, .inl (cI, 4096, .inl dl)), (dM, .inl (cI, 8192, .inl dm))]) [0, 1, 2] rfl
    have hD9 := hD.sub (ws' := [(oD, .inr (4, [.int (nI 0), .ref dF, .int (nI len), .int (nI 1), .ref dH, .int (nI sr), .ref dL, .int (nI en), .int (nI ram), .int (nI mz), .ref dM, .int (nI hp), .int (nI cn), .ref dP, .ref dS, .int (nI fk), .int fp, .int (nI ka), .int (nI kn), .int (nI sv), .ref dK])), (dL, .inl (cI, 4096, .inl dl)), (dM, .inl (cI, 8192, .inl dm))]) [0, 1, 2] (by decide) rfl
    exact W.iret (v := (-1)) hx hb hr (fun t ht hW => ⟨⟨(-1), (), rfl, (by unfold chgR; rw [if_neg (by omega)]), by rw [ht]; exact hP9, hD9⟩, hS.F ht⟩) hS.2.2 dX4_changed_36
set_option maxHeartbeats 1000000 in
set_option maxRecDepth 100000 in
theorem c_X4_isSafe (l : Launch) (dC : Nat → ClassId) (dI : Nat → Nat → Nat) (cB cI cJ : ClassId) (sz : Nat) (oD : Nat) (th : Nat) (dF : Nat) (len : Nat) (ha : Nat) (dH : Nat) (sr : Nat) (dL : Nat) (en : Nat) (ram : Nat) (mz : Nat) (dM : Nat) (hp : Nat) (cn : Nat) (dP : Nat) (dS : Nat) (fk : Nat) (fp : Int32) (ka : Nat) (kn : Nat) (sv : Nat) (dK : Nat) (q : Nat) (b1 : Nat) (b2 : Nat) (hq9 : q < 100000) (h1 : b1 < 100000) (h2 : b2 < 100000) (hka : ka ≤ 8192) (hkn : kn ≤ 8192) : Met l yX4_isSafe wsX4_isSafe ({ frames := 0, cells := 0, slots := 0, locals := 0 }) (va_Pc [.ref oD, .int (nI q), .int (nI b1), .int (nI b2)] (wPre dC dI cB cI cJ sz [(oD, .inr (4, [.int (nI th), .ref dF, .int (nI len), .int (nI ha), .ref dH, .int (nI sr), .ref dL, .int (nI en), .int (nI ram), .int (nI mz), .ref dM, .int (nI hp), .int (nI cn), .ref dP, .ref dS, .int (nI fk), .int fp, .int (nI ka), .int (nI kn), .int (nI sv), .ref dK]))])) (va_Qi (fun (r : Int32) (u : Unit) => r = nI (if ka ≤ q ∧ q < ka + kn ∧ q < b1 ∧ q < b2 then 1 else 0)) (fun (u : Unit) => wPost dC dI (va_A [(oD, .inr (4, [.int (nI th), .ref dF, .int (nI len), .int (nI ha), .ref dH, .int (nI sr), .ref dL, .int (nI en), .int (nI ram), .int (nI mz), .ref dM, .int (nI hp), .int (nI cn), .ref dP, .ref dS, .int (nI fk), .int fp, .int (nI ka), .int (nI kn), .int (nI sv), .ref dK]))] sz) [(oD, .inr (4, [.int (nI th), .ref dF, .int (nI len), .int (nI ha), .ref dH, .int (nI sr), .ref dL, .int (nI en), .int (nI ram), .int (nI mz), .ref dM, .int (nI hp), .int (nI cn), .ref dP, .ref dS, .int (nI fk), .int fp, .int (nI ka), .int (nI kn), .int (nI sv), .ref dK]))]) (va_A [(oD, .inr (4, [.int (nI th), .ref dF, .int (nI len), .int (nI ha), .ref dH, .int (nI sr), .ref dL, .int (nI en), .int (nI ram), .int (nI mz), .ref dM, .int (nI hp), .int (nI cn), .ref dP, .ref dS, .int (nI fk), .int fp, .int (nI ka), .int (nI kn), .int (nI sv), .ref dK]))] sz)) 0 0 (va_A [(oD, .inr (4, [.int (nI th), .ref dF, .int (nI len), .int (nI ha), .ref dH, .int (nI sr), .ref dL, .int (nI en), .int (nI ram), .int (nI mz), .ref dM, .int (nI hp), .int (nI cn), .ref dP, .ref dS, .int (nI fk), .int fp, .int (nI ka), .int (nI kn), .int (nI sv), .ref dK]))] sz) := by
  refine Met.ofW (cc := cX4_isSafe) (maxL := 4) (ret := (some .boolean)) (by decide) rfl ?_
  intro p e s m args below meth c s₁ B hml hv
  obtain ⟨rfl, hsz, hP, hK, hD0, hN⟩ := hv
  have hx := B.exec
  have hb := B.bytes
  have hr := B.returns
  have hts := atoms_spec (ws := wsX4_isSafe) B.pre
  have hown : s.vm.findClass RX4 = some m.cls := findClass_of_methodNamed B.named
  have hlocks := B.notSynchronized
  subst hsz
  have hD := hD0.self (sz := s.heap.size)
  generalize hAe : va_A [(oD, .inr (4, [.int (nI th), .ref dF, .int (nI len), .int (nI ha), .ref dH, .int (nI sr), .ref dL, .int (nI en), .int (nI ram), .int (nI mz), .ref dM, .int (nI hp), .int (nI cn), .ref dP, .ref dS, .int (nI fk), .int fp, .int (nI ka), .int (nI kn), .int (nI sv), .ref dK]))] s.heap.size = A at hD ⊢
  have hA : ∀ q : Nat, s.heap.size ≤ q → A q := fun q h => by rw [← hAe]; exact Or.inr h
  have hS : va_S A s.heap s.heap [] := va_S.rf
  have hP : va_P (dC, dI) vwCl [(oD, .inr (4, [.int (nI th), .ref dF, .int (nI len), .int (nI ha), .ref dH, .int (nI sr), .ref dL, .int (nI en), .int (nI ram), .int (nI mz), .ref dM, .int (nI hp), .int (nI cn), .ref dP, .ref dS, .int (nI fk), .int fp, .int (nI ka), .int (nI kn), .int (nI sv), .ref dK]))] s.heap := hP
  have hl := lv_entry ([.ref oD, .int (nI q), .int (nI b1), .int (nI b2)]) (n := 4) (Nat.le_of_ble_eq_true rfl)
  rw [lg_entry_eq]
  generalize (lg_sl ([.ref oD, .int (nI q), .int (nI b1), .int (nI b2)]) ++ List.replicate (4 - (lg_sl ([.ref oD, .int (nI q), .int (nI b1), .int (nI b2)])).length) Slot.unset).toArray = ls at hl ⊢
  have hl : lv_has ls 4 [(0, .ref oD), (1, .int (nI q)), (2, .int (nI b1)), (3, .int (nI b2))] := hl
  refine lv_iload_n hx hb dX4_isSafe_0 rfl (lv_at hl 1 rfl) ?_
  refine lv_aload_n hx hb dX4_isSafe_1 rfl (lv_at hl 0 rfl) ?_
  refine va_get (D := (dC, dI)) (ci := 4) (v := .int (nI ka)) (C := RX4) (T := TX4) (N := 21) hx hb hts (by decide +kernel) hown hK hP 0 rfl rfl 17 (by decide) (hts (.fieldLink RX4 104 "GlulxHeadsModel" "safeAt" "I") (by decide +kernel)) (fun _ h9 => h9) rfl dX4_isSafe_2 ?_
  refine wx_icmp_lt (tgt := 35) hx hb dX4_isSafe_5 (by decide) (by omega) (by omega) (fun c_1 => ?_) (fun c_1 => ?_)
  · skip
    refine lv_iconst (v := nI 0) hx hb dX4_isSafe_35 (by decide) ?_
    have hP9 := hP.sub (ws' := [(oD, .inr (4, [.int (nI th), .ref dF, .int (nI len), .int (nI ha), .ref dH, .int (nI sr), .ref dL, .int (nI en), .int (nI ram), .int (nI mz), .ref dM, .int (nI hp), .int (nI cn), .ref dP, .ref dS, .int (nI fk), .int fp, .int (nI ka), .int (nI kn), .int (nI sv), .ref dK]))]) [0] rfl
    have hD9 := hD.sub (ws' := [(oD, .inr (4, [.int (nI th), .ref dF, .int (nI len), .int (nI ha), .ref dH, .int (nI sr), .ref dL, .int (nI en), .int (nI ram), .int (nI mz), .ref dM, .int (nI hp), .int (nI cn), .ref dP, .ref dS, .int (nI fk), .int fp, .int (nI ka), .int (nI kn), .int (nI sv), .ref dK]))]) [0] (by decide) rfl
    exact W.zret (v := nI 0) hx hb hr (by first | rfl | decide) (fun t ht hW => ⟨⟨(nI 0), (), rfl, by rw [if_neg (by omega)], by rw [ht]; exact hP9, hD9⟩, hS.F ht⟩) hS.2.2 dX4_isSafe_36
  · skip
    refine lv_iload_n hx hb dX4_isSafe_8 rfl (lv_at hl 1 rfl) ?_
    refine lv_aload_n hx hb dX4_isSafe_9 rfl (lv_at hl 0 rfl) ?_
    refine va_get (D := (dC, dI)) (ci := 4) (v := .int (nI ka)) (C := RX4) (T := TX4) (N := 21) hx hb hts (by decide +kernel) hown hK hP 0 rfl rfl 17 (by decide) (hts (.fieldLink RX4 104 "GlulxHeadsModel" "safeAt" "I") (by decide +kernel)) (fun _ h9 => h9) rfl dX4_isSafe_10 ?_
    refine lv_aload_n hx hb dX4_isSafe_13 rfl (lv_at hl 0 rfl) ?_
    refine va_get (D := (dC, dI)) (ci := 4) (v := .int (nI kn)) (C := RX4) (T := TX4) (N := 21) hx hb hts (by decide +kernel) hown hK hP 0 rfl rfl 18 (by decide) (hts (.fieldLink RX4 107 "GlulxHeadsModel" "safeMany" "I") (by decide +kernel)) (fun _ h9 => h9) rfl dX4_isSafe_14 ?_
    refine wx_iadd hx hb dX4_isSafe_17 ?_
    refine wx_icmp_ge (tgt := 35) hx hb dX4_isSafe_18 (by decide) (by omega) (by omega) (fun c_2 => ?_) (fun c_2 => ?_)
    · skip
      refine lv_iconst (v := nI 0) hx hb dX4_isSafe_35 (by decide) ?_
      have hP9 := hP.sub (ws' := [(oD, .inr (4, [.int (nI th), .ref dF, .int (nI len), .int (nI ha), .ref dH, .int (nI sr), .ref dL, .int (nI en), .int (nI ram), .int (nI mz), .ref dM, .int (nI hp), .int (nI cn), .ref dP, .ref dS, .int (nI fk), .int fp, .int (nI ka), .int (nI kn), .int (nI sv), .ref dK]))]) [0] rfl
      have hD9 := hD.sub (ws' := [(oD, .inr (4, [.int (nI th), .ref dF, .int (nI len), .int (nI ha), .ref dH, .int (nI sr), .ref dL, .int (nI en), .int (nI ram), .int (nI mz), .ref dM, .int (nI hp), .int (nI cn), .ref dP, .ref dS, .int (nI fk), .int fp, .int (nI ka), .int (nI kn), .int (nI sv), .ref dK]))]) [0] (by decide) rfl
      exact W.zret (v := nI 0) hx hb hr (by first | rfl | decide) (fun t ht hW => ⟨⟨(nI 0), (), rfl, by rw [if_neg (by omega)], by rw [ht]; exact hP9, hD9⟩, hS.F ht⟩) hS.2.2 dX4_isSafe_36
    · skip
      refine lv_iload_n hx hb dX4_isSafe_21 rfl (lv_at hl 1 rfl) ?_
      refine lv_iload_n hx hb dX4_isSafe_22 rfl (lv_at hl 2 rfl) ?_
      refine wx_icmp_ge (tgt := 35) hx hb dX4_isSafe_23 (by decide) (by omega) (by omega) (fun c_3 => ?_) (fun c_3 => ?_)
      · skip
        refine lv_iconst (v := nI 0) hx hb dX4_isSafe_35 (by decide) ?_
        have hP9 := hP.sub (ws' := [(oD, .inr (4, [.int (nI th), .ref dF, .int (nI len), .int (nI ha), .ref dH, .int (nI sr), .ref dL, .int (nI en), .int (nI ram), .int (nI mz), .ref dM, .int (nI hp), .int (nI cn), .ref dP, .ref dS, .int (nI fk), .int fp, .int (nI ka), .int (nI kn), .int (nI sv), .ref dK]))]) [0] rfl
        have hD9 := hD.sub (ws' := [(oD, .inr (4, [.int (nI th), .ref dF, .int (nI len), .int (nI ha), .ref dH, .int (nI sr), .ref dL, .int (nI en), .int (nI ram), .int (nI mz), .ref dM, .int (nI hp), .int (nI cn), .ref dP, .ref dS, .int (nI fk), .int fp, .int (nI ka), .int (nI kn), .int (nI sv), .ref dK]))]) [0] (by decide) rfl
        exact W.zret (v := nI 0) hx hb hr (by first | rfl | decide) (fun t ht hW => ⟨⟨(nI 0), (), rfl, by rw [if_neg (by omega)], by rw [ht]; exact hP9, hD9⟩, hS.F ht⟩) hS.2.2 dX4_isSafe_36
      · skip
        refine lv_iload_n hx hb dX4_isSafe_26 rfl (lv_at hl 1 rfl) ?_
        refine lv_iload_n hx hb dX4_isSafe_27 rfl (lv_at hl 3 rfl) ?_
        refine wx_icmp_ge (tgt := 35) hx hb dX4_isSafe_28 (by decide) (by omega) (by omega) (fun c_4 => ?_) (fun c_4 => ?_)
        · skip
          refine lv_iconst (v := nI 0) hx hb dX4_isSafe_35 (by decide) ?_
          have hP9 := hP.sub (ws' := [(oD, .inr (4, [.int (nI th), .ref dF, .int (nI len), .int (nI ha), .ref dH, .int (nI sr), .ref dL, .int (nI en), .int (nI ram), .int (nI mz), .ref dM, .int (nI hp), .int (nI cn), .ref dP, .ref dS, .int (nI fk), .int fp, .int (nI ka), .int (nI kn), .int (nI sv), .ref dK]))]) [0] rfl
          have hD9 := hD.sub (ws' := [(oD, .inr (4, [.int (nI th), .ref dF, .int (nI len), .int (nI ha), .ref dH, .int (nI sr), .ref dL, .int (nI en), .int (nI ram), .int (nI mz), .ref dM, .int (nI hp), .int (nI cn), .ref dP, .ref dS, .int (nI fk), .int fp, .int (nI ka), .int (nI kn), .int (nI sv), .ref dK]))]) [0] (by decide) rfl
          exact W.zret (v := nI 0) hx hb hr (by first | rfl | decide) (fun t ht hW => ⟨⟨(nI 0), (), rfl, by rw [if_neg (by omega)], by rw [ht]; exact hP9, hD9⟩, hS.F ht⟩) hS.2.2 dX4_isSafe_36
        · skip
          refine lv_iconst (v := nI 1) hx hb dX4_isSafe_31 (by decide) ?_
          refine lv_goto (tgt := 36) hx hb dX4_isSafe_32 (by decide) ?_
          have hP9 := hP.sub (ws' := [(oD, .inr (4, [.int (nI th), .ref dF, .int (nI len), .int (nI ha), .ref dH, .int (nI sr), .ref dL, .int (nI en), .int (nI ram), .int (nI mz), .ref dM, .int (nI hp), .int (nI cn), .ref dP, .ref dS, .int (nI fk), .int fp, .int (nI ka), .int (nI kn), .int (nI sv), .ref dK]))]) [0] rfl
          have hD9 := hD.sub (ws' := [(oD, .inr (4, [.int (nI th), .ref dF, .int (nI len), .int (nI ha), .ref dH, .int (nI sr), .ref dL, .int (nI en), .int (nI ram), .int (nI mz), .ref dM, .int (nI hp), .int (nI cn), .ref dP, .ref dS, .int (nI fk), .int fp, .int (nI ka), .int (nI kn), .int (nI sv), .ref dK]))]) [0] (by decide) rfl
          exact W.zret (v := nI 1) hx hb hr (by first | rfl | decide) (fun t ht hW => ⟨⟨(nI 1), (), rfl, by rw [if_pos (by omega)], by rw [ht]; exact hP9, hD9⟩, hS.F ht⟩) hS.2.2 dX4_isSafe_36
set_option maxHeartbeats 1000000 in
set_option maxRecDepth 100000 in
theorem c_X4_restart_M (l : Launch) (dC : Nat → ClassId) (dI : Nat → Nat → Nat) (cB cI cJ : ClassId) (sz : Nat) (oD : Nat) (th : Nat) (dF : Nat) (len : Nat) (dH : Nat) (sr : Nat) (dL : Nat) (en : Nat) (ram : Nat) (mz : Nat) (dM : Nat) (hp : Nat) (cn : Nat) (dP : Nat) (dS : Nat) (fk : Nat) (fp : Int32) (ka : Nat) (kn : Nat) (sv : Nat) (dK : Nat) (dl : Nat → Int32) (dm : Nat → Int32) (mem : Nat → Nat) (lm : Nat → Nat) (hmz : mz ≤ 8192) (hm : gOk dm mz mem) (hmem : ∀ j, mem j < 256) (hen : en ≤ 4096) (hl0 : gOk dl en lm) (hka : ka ≤ 8192) (hkn : kn ≤ 8192) : Met l yX4_restart wsX4_restart ({ frames := 1, cells := 0, slots := 0, locals := 23 }) (va_Pc [.ref oD] (wPre dC dI cB cI cJ sz [(oD, .inr (4, [.int (nI th), .ref dF, .int (nI len), .int (nI 1), .ref dH, .int (nI sr), .ref dL, .int (nI en), .int (nI ram), .int (nI mz), .ref dM, .int (nI hp), .int (nI cn), .ref dP, .ref dS, .int (nI fk), .int fp, .int (nI ka), .int (nI kn), .int (nI sv), .ref dK])), (dL, .inl (cI, 4096, .inl dl)), (dM, .inl (cI, 8192, .inl dm))])) (va_Qi (fun (r : Int32) (u : (Nat → Int32)) => r = nI en ∧ gOk u en (keepM mem mz lm en ka (ka + kn))) (fun (u : (Nat → Int32)) => wPost dC dI (va_A [(oD, .inr (4, [.int (nI th), .ref dF, .int (nI len), .int (nI 1), .ref dH, .int (nI sr), .ref dL, .int (nI en), .int (nI ram), .int (nI mz), .ref dM, .int (nI hp), .int (nI cn), .ref dP, .ref dS, .int (nI fk), .int fp, .int (nI ka), .int (nI kn), .int (nI sv), .ref dK])), (dL, .inl (cI, 4096, .inl dl)), (dM, .inl (cI, 8192, .inl dm))] sz) [(oD, .inr (4, [.int (nI 0), .ref dF, .int (nI len), .int (nI 1), .ref dH, .int (nI sr), .ref dL, .int (nI en), .int (nI ram), .int (nI en), .ref dM, .int (nI hp), .int (nI 0), .ref dP, .ref dS, .int (nI fk), .int fp, .int (nI ka), .int (nI kn), .int (nI sv), .ref dK])), (dL, .inl (cI, 4096, .inl dl)), (dM, .inl (cI, 8192, .inl u))]) (va_A [(oD, .inr (4, [.int (nI th), .ref dF, .int (nI len), .int (nI 1), .ref dH, .int (nI sr), .ref dL, .int (nI en), .int (nI ram), .int (nI mz), .ref dM, .int (nI hp), .int (nI cn), .ref dP, .ref dS, .int (nI fk), .int fp, .int (nI ka), .int (nI kn), .int (nI sv), .ref dK])), (dL, .inl (cI, 4096, .inl dl)), (dM, .inl (cI, 8192, .inl dm))] sz)) 0 0 (va_A [(oD, .inr (4, [.int (nI th), .ref dF, .int (nI len), .int (nI 1), .ref dH, .int (nI sr), .ref dL, .int (nI en), .int (nI ram), .int (nI mz), .ref dM, .int (nI hp), .int (nI cn), .ref dP, .ref dS, .int (nI fk), .int fp, .int (nI ka), .int (nI kn), .int (nI sv), .ref dK])), (dL, .inl (cI, 4096, .inl dl)), (dM, .inl (cI, 8192, .inl dm))] sz) := by
  refine Met.ofW (cc := cX4_restart) (maxL := 2) (ret := (some .int)) (by decide) rfl ?_
  intro p e s m args below meth c s₁ B hml hv
  obtain ⟨rfl, hsz, hP, hK, hD0, hN⟩ := hv
  have hx := B.exec
  have hb := B.bytes
  have hr := B.returns
  have hts := atoms_spec (ws := wsX4_restart) B.pre
  have hown : s.vm.findClass RX4 = some m.cls := findClass_of_methodNamed B.named
  have hlocks := B.notSynchronized
  subst hsz
  have hD := hD0.self (sz := s.heap.size)
  generalize hAe : va_A [(oD, .inr (4, [.int (nI th), .ref dF, .int (nI len), .int (nI 1), .ref dH, .int (nI sr), .ref dL, .int (nI en), .int (nI ram), .int (nI mz), .ref dM, .int (nI hp), .int (nI cn), .ref dP, .ref dS, .int (nI fk), .int fp, .int (nI ka), .int (nI kn), .int (nI sv), .ref dK])), (dL, .inl (cI, 4096, .inl dl)), (dM, .inl (cI, 8192, .inl dm))] s.heap.size = A at hD ⊢
  have hA : ∀ q : Nat, s.heap.size ≤ q → A q := fun q h => by rw [← hAe]; exact Or.inr h
  have hS : va_S A s.heap s.heap [] := va_S.rf
  have hP : va_P (dC, dI) vwCl [(oD, .inr (4, [.int (nI th), .ref dF, .int (nI len), .int (nI 1), .ref dH, .int (nI sr), .ref dL, .int (nI en), .int (nI ram), .int (nI mz), .ref dM, .int (nI hp), .int (nI cn), .ref dP, .ref dS, .int (nI fk), .int fp, .int (nI ka), .int (nI kn), .int (nI sv), .ref dK])), (dL, .inl (cI, 4096, .inl dl)), (dM, .inl (cI, 8192, .inl dm))] s.heap := hP
  have hl := lv_entry ([.ref oD]) (n := 2) (Nat.le_of_ble_eq_true rfl)
  rw [lg_entry_eq]
  generalize (lg_sl ([.ref oD]) ++ List.replicate (2 - (lg_sl ([.ref oD])).length) Slot.unset).toArray = ls at hl ⊢
  have hl : lv_has ls 2 [(0, .ref oD)] := hl
  refine lv_aload_n hx hb dX4_restart_0 rfl (lv_at hl 0 rfl) ?_
  refine lv_iconst (v := nI 0) hx hb dX4_restart_1 (by decide) ?_
  refine va_put (D := (dC, dI)) (ci := 4) (v := .int (nI 0)) (ty := .int) (C := RX4) (T := TX4) (N := 21) hx hb hts (by decide +kernel) tyX4 tyX4_ok nmX4 hown hK hP hD hS 0 rfl rfl 0 (by decide) (hts (.fieldLink RX4 32 "GlulxHeadsModel" "thrown" "I") (by decide +kernel)) (fun _ h9 => h9) rfl (by decide +kernel) rfl rfl (Nat.le_of_ble_eq_true rfl) dX4_restart_2 (fun H locs hP hD hS => ?_)
  have hP : va_P (dC, dI) vwCl [(oD, .inr (4, [.int (nI 0), .ref dF, .int (nI len), .int (nI 1), .ref dH, .int (nI sr), .ref dL, .int (nI en), .int (nI ram), .int (nI mz), .ref dM, .int (nI hp), .int (nI cn), .ref dP, .ref dS, .int (nI fk), .int fp, .int (nI ka), .int (nI kn), .int (nI sv), .ref dK])), (dL, .inl (cI, 4096, .inl dl)), (dM, .inl (cI, 8192, .inl dm))] H := hP
  have hD : va_D A [(oD, .inr (4, [.int (nI 0), .ref dF, .int (nI len), .int (nI 1), .ref dH, .int (nI sr), .ref dL, .int (nI en), .int (nI ram), .int (nI mz), .ref dM, .int (nI hp), .int (nI cn), .ref dP, .ref dS, .int (nI fk), .int fp, .int (nI ka), .int (nI kn), .int (nI sv), .ref dK])), (dL, .inl (cI, 4096, .inl dl)), (dM, .inl (cI, 8192, .inl dm))] := hD
  refine lv_aload_n hx hb dX4_restart_5 rfl (lv_at hl 0 rfl) ?_
  refine va_get (D := (dC, dI)) (ci := 4) (v := .int (nI 1)) (C := RX4) (T := TX4) (N := 21) hx hb hts (by decide +kernel) hown hK hP 0 rfl rfl 3 (by decide) (hts (.fieldLink RX4 76 "GlulxHeadsModel" "has" "Z") (by decide +kernel)) (fun _ h9 => h9) rfl dX4_restart_6 ?_
  refine wx_if_ne (tgt := 15) hx hb dX4_restart_9 (by decide) (by first | omega | (split <;> omega)) (fun c_1 => ?_) (fun c_1 => absurd c_1 (by decide))
  refine lv_iconst (v := nI 0) hx hb dX4_restart_15 (by decide) ?_
  refine lv_istore_n (lv' := [(1, .int (nI 0)), (0, .ref oD)]) hx hb dX4_restart_16 rfl hl (by decide) rfl (fun ls hl => ?_)
  refine wx_loop (σ := Nat × (Nat → Int32)) (fun xq9 => en - xq9.1) (fun xq9 H locs ls => (xq9.1 ≤ en) ∧ (∀ q, q < 8192 → (q < xq9.1 → q < en → xq9.2 q = nI (keepM mem mz lm en ka (ka + kn) q)) ∧ (xq9.1 ≤ q → q < mz → xq9.2 q = nI (mem q))) ∧ va_P (dC, dI) vwCl [(oD, .inr (4, [.int (nI 0), .ref dF, .int (nI len), .int (nI 1), .ref dH, .int (nI sr), .ref dL, .int (nI en), .int (nI ram), .int (nI mz), .ref dM, .int (nI hp), .int (nI cn), .ref dP, .ref dS, .int (nI fk), .int fp, .int (nI ka), .int (nI kn), .int (nI sv), .ref dK])), (dL, .inl (cI, 4096, .inl dl)), (dM, .inl (cI, 8192, .inl xq9.2))] H ∧ va_D A [(oD, .inr (4, [.int (nI 0), .ref dF, .int (nI len), .int (nI 1), .ref dH, .int (nI sr), .ref dL, .int (nI en), .int (nI ram), .int (nI mz), .ref dM, .int (nI hp), .int (nI cn), .ref dP, .ref dS, .int (nI fk), .int fp, .int (nI ka), .int (nI kn), .int (nI sv), .ref dK])), (dL, .inl (cI, 4096, .inl dl)), (dM, .inl (cI, 8192, .inl xq9.2))] ∧ va_S A s.heap H locs ∧ lv_has ls 2 [(0, .ref oD), (1, .int (nI xq9.1))]) ?_ (0, dm) _ _ _ ⟨by first | omega | (split <;> omega), fun q hq => ⟨fun z => absurd z (Nat.not_lt_zero _), fun _ z => hm q z⟩, hP.sub [0, 1, 2] rfl, hD.sub [0, 1, 2] (by decide) rfl, hS, lv_sub hl [1, 0] rfl⟩
  rintro ⟨i, dm3⟩ H locs ls ⟨hi, hg, hP, hD, hS, hl⟩ ih
  have hi : i ≤ en := hi
  have hg : ∀ q, q < 8192 → (q < i → q < en → dm3 q = nI (keepM mem mz lm en ka (ka + kn) q)) ∧ (i ≤ q → q < mz → dm3 q = nI (mem q)) := hg
  have hP : va_P (dC, dI) vwCl [(oD, .inr (4, [.int (nI 0), .ref dF, .int (nI len), .int (nI 1), .ref dH, .int (nI sr), .ref dL, .int (nI en), .int (nI ram), .int (nI mz), .ref dM, .int (nI hp), .int (nI cn), .ref dP, .ref dS, .int (nI fk), .int fp, .int (nI ka), .int (nI kn), .int (nI sv), .ref dK])), (dL, .inl (cI, 4096, .inl dl)), (dM, .inl (cI, 8192, .inl dm3))] H := hP
  have hD : va_D A [(oD, .inr (4, [.int (nI 0), .ref dF, .int (nI len), .int (nI 1), .ref dH, .int (nI sr), .ref dL, .int (nI en), .int (nI ram), .int (nI mz), .ref dM, .int (nI hp), .int (nI cn), .ref dP, .ref dS, .int (nI fk), .int fp, .int (nI ka), .int (nI kn), .int (nI sv), .ref dK])), (dL, .inl (cI, 4096, .inl dl)), (dM, .inl (cI, 8192, .inl dm3))] := hD
  have hl : lv_has ls 2 [(0, .ref oD), (1, .int (nI i))] := hl
  refine lv_iload_n hx hb dX4_restart_17 rfl (lv_at hl 1 rfl) ?_
  refine lv_aload_n hx hb dX4_restart_18 rfl (lv_at hl 0 rfl) ?_
  refine va_get (D := (dC, dI)) (ci := 4) (v := .int (nI en)) (C := RX4) (T := TX4) (N := 21) hx hb hts (by decide +kernel) hown hK hP 0 rfl rfl 7 (by decide) (hts (.fieldLink RX4 86 "GlulxHeadsModel" "end" "I") (by decide +kernel)) (fun _ h9 => h9) rfl dX4_restart_19 ?_
  refine wx_icmp_ge (tgt := 59) hx hb dX4_restart_22 (by decide) (by first | omega | (split <;> omega)) (by first | omega | (split <;> omega)) (fun c_2 => ?_) (fun c_2 => ?_)
  · skip
    refine lv_aload_n hx hb dX4_restart_59 rfl (lv_at hl 0 rfl) ?_
    refine lv_aload_n hx hb dX4_restart_60 rfl (lv_at hl 0 rfl) ?_
    refine va_get (D := (dC, dI)) (ci := 4) (v := .int (nI en)) (C := RX4) (T := TX4) (N := 21) hx hb hts (by decide +kernel) hown hK hP 0 rfl rfl 7 (by decide) (hts (.fieldLink RX4 86 "GlulxHeadsModel" "end" "I") (by decide +kernel)) (fun _ h9 => h9) rfl dX4_restart_61 ?_
    refine va_put (D := (dC, dI)) (ci := 4) (v := .int (nI en)) (ty := .int) (C := RX4) (T := TX4) (N := 21) hx hb hts (by decide +kernel) tyX4 tyX4_ok nmX4 hown hK hP hD hS 0 rfl rfl 9 (by decide) (hts (.fieldLink RX4 89 "GlulxHeadsModel" "m" "I") (by decide +kernel)) (fun _ h9 => h9) rfl (by decide +kernel) rfl rfl (Nat.le_of_ble_eq_true rfl) dX4_restart_64 (fun H locs hP hD hS => ?_)
    have hP : va_P (dC, dI) vwCl [(oD, .inr (4, [.int (nI 0), .ref dF, .int (nI len), .int (nI 1), .ref dH, .int (nI sr), .ref dL, .int (nI en), .int (nI ram), .int (nI en), .ref dM, .int (nI hp), .int (nI cn), .ref dP, .ref dS, .int (nI fk), .int fp, .int (nI ka), .int (nI kn), .int (nI sv), .ref dK])), (dL, .inl (cI, 4096, .inl dl)), (dM, .inl (cI, 8192, .inl dm3))] H := hP
    have hD : va_D A [(oD, .inr (4, [.int (nI 0), .ref dF, .int (nI len), .int (nI 1), .ref dH, .int (nI sr), .ref dL, .int (nI en), .int (nI ram), .int (nI en), .ref dM, .int (nI hp), .int (nI cn), .ref dP, .ref dS, .int (nI fk), .int fp, .int (nI ka), .int (nI kn), .int (nI sv), .ref dK])), (dL, .inl (cI, 4096, .inl dl)), (dM, .inl (cI, 8192, .inl dm3))] := hD
    refine lv_aload_n hx hb dX4_restart_67 rfl (lv_at hl 0 rfl) ?_
    refine lv_iconst (v := nI 0) hx hb dX4_restart_68 (by decide) ?_
    refine va_put (D := (dC, dI)) (ci := 4) (v := .int (nI 0)) (ty := .int) (C := RX4) (T := TX4) (N := 21) hx hb hts (by decide +kernel) tyX4 tyX4_ok nmX4 hown hK hP hD hS 0 rfl rfl 12 (by decide) (hts (.fieldLink RX4 95 "GlulxHeadsModel" "blocks" "I") (by decide +kernel)) (fun _ h9 => h9) rfl (by decide +kernel) rfl rfl (Nat.le_of_ble_eq_true rfl) dX4_restart_69 (fun H locs hP hD hS => ?_)
    have hP : va_P (dC, dI) vwCl [(oD, .inr (4, [.int (nI 0), .ref dF, .int (nI len), .int (nI 1), .ref dH, .int (nI sr), .ref dL, .int (nI en), .int (nI ram), .int (nI en), .ref dM, .int (nI hp), .int (nI 0), .ref dP, .ref dS, .int (nI fk), .int fp, .int (nI ka), .int (nI kn), .int (nI sv), .ref dK])), (dL, .inl (cI, 4096, .inl dl)), (dM, .inl (cI, 8192, .inl dm3))] H := hP
    have hD : va_D A [(oD, .inr (4, [.int (nI 0), .ref dF, .int (nI len), .int (nI 1), .ref dH, .int (nI sr), .ref dL, .int (nI en), .int (nI ram), .int (nI en), .ref dM, .int (nI hp), .int (nI 0), .ref dP, .ref dS, .int (nI fk), .int fp, .int (nI ka), .int (nI kn), .int (nI sv), .ref dK])), (dL, .inl (cI, 4096, .inl dl)), (dM, .inl (cI, 8192, .inl dm3))] := hD
    refine lv_aload_n hx hb dX4_restart_72 rfl (lv_at hl 0 rfl) ?_
    refine va_get (D := (dC, dI)) (ci := 4) (v := .int (nI en)) (C := RX4) (T := TX4) (N := 21) hx hb hts (by decide +kernel) hown hK hP 0 rfl rfl 9 (by decide) (hts (.fieldLink RX4 89 "GlulxHeadsModel" "m" "I") (by decide +kernel)) (fun _ h9 => h9) rfl dX4_restart_73 ?_
    have hP9 := hP.sub (ws' := [(oD, .inr (4, [.int (nI 0), .ref dF, .int (nI len), .int (nI 1), .ref dH, .int (nI sr), .ref dL, .int (nI en), .int (nI ram), .int (nI en), .ref dM, .int (nI hp), .int (nI 0), .ref dP, .ref dS, .int (nI fk), .int fp, .int (nI ka), .int (nI kn), .int (nI sv), .ref dK])), (dL, .inl (cI, 4096, .inl dl)), (dM, .inl (cI, 8192, .inl dm3))]) [0, 1, 2] rfl
    have hD9 := hD.sub (ws' := [(oD, .inr (4, [.int (nI 0), .ref dF, .int (nI len), .int (nI 1), .ref dH, .int (nI sr), .ref dL, .int (nI en), .int (nI ram), .int (nI en), .ref dM, .int (nI hp), .int (nI 0), .ref dP, .ref dS, .int (nI fk), .int fp, .int (nI ka), .int (nI kn), .int (nI sv), .ref dK])), (dL, .inl (cI, 4096, .inl dl)), (dM, .inl (cI, 8192, .inl dm3))]) [0, 1, 2] (by decide) rfl
    exact W.iret (v := nI en) hx hb hr (fun t ht hW => ⟨⟨(nI en), (dm3), rfl, ⟨rfl, fun q h => (hg q (by omega)).1 (by omega) h⟩, by rw [ht]; exact hP9, hD9⟩, hS.F ht⟩) hS.2.2 dX4_restart_76
  · skip
    refine lv_aload_n hx hb dX4_restart_25 rfl (lv_at hl 0 rfl) ?_
    refine lv_iload_n hx hb dX4_restart_26 rfl (lv_at hl 1 rfl) ?_
    refine lv_aload_n hx hb dX4_restart_27 rfl (lv_at hl 0 rfl) ?_
    refine va_get (D := (dC, dI)) (ci := 4) (v := .int (nI mz)) (C := RX4) (T := TX4) (N := 21) hx hb hts (by decide +kernel) hown hK hP 0 rfl rfl 9 (by decide) (hts (.fieldLink RX4 89 "GlulxHeadsModel" "m" "I") (by decide +kernel)) (fun _ h9 => h9) rfl dX4_restart_28 ?_
    refine lv_aload_n hx hb dX4_restart_31 rfl (lv_at hl 0 rfl) ?_
    refine va_get (D := (dC, dI)) (ci := 4) (v := .int (nI en)) (C := RX4) (T := TX4) (N := 21) hx hb hts (by decide +kernel) hown hK hP 0 rfl rfl 7 (by decide) (hts (.fieldLink RX4 86 "GlulxHeadsModel" "end" "I") (by decide +kernel)) (fun _ h9 => h9) rfl dX4_restart_32 ?_
    have hPc := hP.sub (ws' := [(oD, .inr (4, [.int (nI 0), .ref dF, .int (nI len), .int (nI 1), .ref dH, .int (nI sr), .ref dL, .int (nI en), .int (nI ram), .int (nI mz), .ref dM, .int (nI hp), .int (nI cn), .ref dP, .ref dS, .int (nI fk), .int fp, .int (nI ka), .int (nI kn), .int (nI sv), .ref dK]))]) [0] rfl
    have hDc := hD.sub (ws' := [(oD, .inr (4, [.int (nI 0), .ref dF, .int (nI len), .int (nI 1), .ref dH, .int (nI sr), .ref dL, .int (nI en), .int (nI ram), .int (nI mz), .ref dM, .int (nI hp), .int (nI cn), .ref dP, .ref dS, .int (nI fk), .int fp, .int (nI ka), .int (nI kn), .int (nI sv), .ref dK]))]) [0] (by decide) rfl
    have hFc := va_free (wc := [(oD, .inr (4, [.int (nI 0), .ref dF, .int (nI len), .int (nI 1), .ref dH, .int (nI sr), .ref dL, .int (nI en), .int (nI ram), .int (nI mz), .ref dM, .int (nI hp), .int (nI cn), .ref dP, .ref dS, .int (nI fk), .int fp, .int (nI ka), .int (nI kn), .int (nI sv), .ref dK]))]) hD hS hA [0] rfl
    refine va_calli (va_runV (As := [.int (nI i), .int (nI mz), .int (nI en)]) (rest := []) ⟨hx, hb, hml, hown, hts⟩ (c_X4_isSafe l dC dI cB cI cJ H.size oD 0 dF len 1 dH sr dL en ram mz dM hp cn dP dS fk fp ka kn sv dK i mz en (by first | omega | (split <;> omega)) (by first | omega | (split <;> omega)) (by first | omega | (split <;> omega)) (by first | omega | (split <;> omega)) (by first | omega | (split <;> omega))) (cwV 3 hts gX4_restart_X4_isSafe rfl rfl rfl (by decide +kernel) ⟨Nat.le_of_ble_eq_true rfl, Nat.le_of_ble_eq_true rfl⟩) ⟨wBlind, va_recv hK hPc (ci := 4) (q0 := 0) rfl rfl, wGo hK hPc hDc hN⟩ rfl rfl hl.1 rfl (lv_room (Nat.le_of_ble_eq_true rfl)) dX4_restart_35 ⟨show 0 ≤ 0 by decide, show 0 ≤ 0 by decide⟩) hS (fun q _ h => hFc q h) hFc (fun r_4 u t H1 locs ht hvm w_5 hB hz1 hk1 hS => ?_)
    clear u
    obtain ⟨hP1, hD1⟩ := hB
    rw [ht] at hP1
    try dsimp only at w_5
    obtain ⟨hP, hD⟩ := va_join (wr := [(dL, .inl (cI, 4096, .inl dl)), (dM, .inl (cI, 8192, .inl dm3))]) (w1 := [(oD, .inr (4, [.int (nI 0), .ref dF, .int (nI len), .int (nI 1), .ref dH, .int (nI sr), .ref dL, .int (nI en), .int (nI ram), .int (nI mz), .ref dM, .int (nI hp), .int (nI cn), .ref dP, .ref dS, .int (nI fk), .int fp, .int (nI ka), .int (nI kn), .int (nI sv), .ref dK]))]) hP hD [0] [1, 2] rfl rfl (by decide) (by decide) hk1 hFc hP1 hD1
    clear hPc hDc hFc hP1 hD1 hz1 hk1 hvm
    generalize H1 = H at hP hS ⊢
    have hP : va_P (dC, dI) vwCl [(dL, .inl (cI, 4096, .inl dl)), (dM, .inl (cI, 8192, .inl dm3)), (oD, .inr (4, [.int (nI 0), .ref dF, .int (nI len), .int (nI 1), .ref dH, .int (nI sr), .ref dL, .int (nI en), .int (nI ram), .int (nI mz), .ref dM, .int (nI hp), .int (nI cn), .ref dP, .ref dS, .int (nI fk), .int fp, .int (nI ka), .int (nI kn), .int (nI sv), .ref dK]))] H := hP
    have hD : va_D A [(dL, .inl (cI, 4096, .inl dl)), (dM, .inl (cI, 8192, .inl dm3)), (oD, .inr (4, [.int (nI 0), .ref dF, .int (nI len), .int (nI 1), .ref dH, .int (nI sr), .ref dL, .int (nI en), .int (nI ram), .int (nI mz), .ref dM, .int (nI hp), .int (nI cn), .ref dP, .ref dS, .int (nI fk), .int fp, .int (nI ka), .int (nI kn), .int (nI sv), .ref dK]))] := hD
    subst w_5
    refine wx_if_ne (tgt := 53) hx hb dX4_restart_38 (by decide) (by first | omega | (split <;> omega)) (fun c_6 => ?_) (fun c_6 => ?_)
    · skip
      have c_6 := wz_pos c_6
      refine lv_iinc (v := nI (i + 1)) (lv' := [(1, .int (nI (i + 1))), (0, .ref oD)]) hx hb dX4_restart_53 hl (k := 1) rfl (by rw [show Int32.ofInt 1 = nI 1 by decide]; exact nI_add _ _) (by decide) rfl (fun ls hl => ?_)
      refine lv_goto (tgt := 17) hx hb dX4_restart_56 (by decide) ?_
      exact ih ((i + 1), dm3) _ _ _ (by omega) ⟨by first | omega | (split <;> omega), (by first | exact keep_n hg (by omega) (by omega) (by assumption) | exact keep_s hg (by omega) (by omega) (by assumption) (hl0 i (by omega))), hP.sub [2, 0, 1] rfl, hD.sub [2, 0, 1] (by decide) rfl, hS, lv_sub hl [1, 0] rfl⟩
    · skip
      have c_6 := wz_zero c_6
      refine lv_aload_n hx hb dX4_restart_41 rfl (lv_at hl 0 rfl) ?_
      refine va_get (D := (dC, dI)) (ci := 4) (v := .ref dM) (C := RX4) (T := TX4) (N := 21) hx hb hts (by decide +kernel) hown hK hP 2 rfl rfl 10 (by decide) (hts (.fieldLink RX4 20 "GlulxHeadsModel" "memory" "[I") (by decide +kernel)) (fun _ h9 => h9) rfl dX4_restart_42 ?_
      refine lv_iload_n hx hb dX4_restart_45 rfl (lv_at hl 1 rfl) ?_
      refine lv_aload_n hx hb dX4_restart_46 rfl (lv_at hl 0 rfl) ?_
      refine va_get (D := (dC, dI)) (ci := 4) (v := .ref dL) (C := RX4) (T := TX4) (N := 21) hx hb hts (by decide +kernel) hown hK hP 2 rfl rfl 6 (by decide) (hts (.fieldLink RX4 17 "GlulxHeadsModel" "loaded" "[I") (by decide +kernel)) (fun _ h9 => h9) rfl dX4_restart_47 ?_
      refine lv_iload_n hx hb dX4_restart_50 rfl (lv_at hl 1 rfl) ?_
      refine wx_iald hx hb hK hP 0 1 rfl rfl (by first | omega | (split <;> omega)) (by decide) dX4_restart_51 ?_
      refine wx_iast hx hb hK hP hD hS 1 1 rfl rfl (by first | omega | (split <;> omega)) (by decide) dX4_restart_52 (fun H locs hP hD hS => ?_)
      have hP : va_P (dC, dI) vwCl [(dL, .inl (cI, 4096, .inl dl)), (dM, .inl (cI, 8192, .inl (upd dm3 i (dl i)))), (oD, .inr (4, [.int (nI 0), .ref dF, .int (nI len), .int (nI 1), .ref dH, .int (nI sr), .ref dL, .int (nI en), .int (nI ram), .int (nI mz), .ref dM, .int (nI hp), .int (nI cn), .ref dP, .ref dS, .int (nI fk), .int fp, .int (nI ka), .int (nI kn), .int (nI sv), .ref dK]))] H := hP
      have hD : va_D A [(dL, .inl (cI, 4096, .inl dl)), (dM, .inl (cI, 8192, .inl (upd dm3 i (dl i)))), (oD, .inr (4, [.int (nI 0), .ref dF, .int (nI len), .int (nI 1), .ref dH, .int (nI sr), .ref dL, .int (nI en), .int (nI ram), .int (nI mz), .ref dM, .int (nI hp), .int (nI cn), .ref dP, .ref dS, .int (nI fk), .int fp, .int (nI ka), .int (nI kn), .int (nI sv), .ref dK]))] := hD
      refine lv_iinc (v := nI (i + 1)) (lv' := [(1, .int (nI (i + 1))), (0, .ref oD)]) hx hb dX4_restart_53 hl (k := 1) rfl (by rw [show Int32.ofInt 1 = nI 1 by decide]; exact nI_add _ _) (by decide) rfl (fun ls hl => ?_)
      refine lv_goto (tgt := 17) hx hb dX4_restart_56 (by decide) ?_
      exact ih ((i + 1), (upd dm3 i (dl i))) _ _ _ (by omega) ⟨by first | omega | (split <;> omega), (by first | exact keep_n hg (by omega) (by omega) (by assumption) | exact keep_s hg (by omega) (by omega) (by assumption) (hl0 i (by omega))), hP.sub [2, 0, 1] rfl, hD.sub [2, 0, 1] (by decide) rfl, hS, lv_sub hl [1, 0] rfl⟩
