set_option maxHeartbeats 4000000 in
set_option maxRecDepth 100000 in
theorem law_back_N {p : Program} {l : Launch} {e : Env} {s : State} {m : MethodId} {below : List Frame} {meth : Method} {c : Code} {dC : Nat → ClassId} {dI : Nat → Nat → Nat} {cB cI cJ : ClassId} {b Ls : Nat} {xs : Nat → Int32} (C0 : lw_At p s m meth c b Ls xs) (k9 : Nat) (hi : 6 * (k9 + 1) = 6 * k9 + 6) (ih : (∀ (H : Heap) (locs : List Loc) (ls : Array Slot), LI_N dC dI cB cI cJ s b (6 * (k9 + 1)) H locs ls → W p l e room_1 s m #[Value.ref b] below meth c H locs (100 + (k9 + 1)) (40000 + 6 * (k9 + 1)) (lw_Z below #[Value.ref b] s) (F0 m 23 ls []))) : ∀ (H : Heap) (locs : List Loc) (ls : Array Slot), LI_N dC dI cB cI cJ s b (6 * k9) H locs ls → W p l e room_1 s m #[Value.ref b] below meth c H locs (100 + (k9 + 1)) (40000 + 6 * (k9 + 1)) (lw_Z below #[Value.ref b] s) (F0 m 730 ls []) := by
  obtain ⟨hx, hb, hr, hml, hown, hts, hX, hbl, hlocks, hgv⟩ := id C0
  have hb : c.code = cL_law := hb
  intro H locs ls h
  obtain ⟨oG, oD, dO, hl, hS, hnx⟩ := LI_N_next h
  refine lv_iinc (v := nI (6 * (k9 + 1))) (lv' := [(4, .int (nI (6 * (k9 + 1)))), (0, .ref b), (1, .ref oG), (2, .ref oD), (3, .ref dO)]) hx hb dL_law_730 hl (k := 4) rfl (by rw [show Int32.ofInt 6 = nI 6 by decide, hi]; exact nI_add _ _) (by decide) rfl (fun ls hl => ?_)
  refine lv_goto (tgt := 23) hx hb dL_law_733 (by decide) ?_
  exact ih H locs ls (hnx (6 * (k9 + 1)) ls (lv_sub hl [1, 2, 3, 4, 0] rfl))
set_option maxHeartbeats 4000000 in
set_option maxRecDepth 100000 in
theorem law_turn_N {p : Program} {l : Launch} {e : Env} {s : State} {m : MethodId} {below : List Frame} {meth : Method} {c : Code} {dC : Nat → ClassId} {dI : Nat → Nat → Nat} {cB cI cJ : ClassId} {b Ls : Nat} {xs : Nat → Int32} (hL : Ls ≤ 3072) (C0 : lw_At p s m meth c b Ls xs) (hK : va_K (dC, dI) vwCl (tyL cB cI cJ) s) (hN : NB s) (hfl : l.stackTraces = false) (sa : Nat) (hXp : xPre sa (fun q : Nat => s.heap.size ≤ q) s) (k9 : Nat) (hk9 : k9 ≤ 512) (hc : 100 + k9 ≤ 601024) (hs : 40000 + 6 * k9 ≤ 7293034) (h6 : 6 * k9 ≤ 3072) (KN : 6 * k9 + 6 ≤ Ls → ∀ (H : Heap) (locs : List Loc) (ls : Array Slot), LI_N dC dI cB cI cJ s b (6 * k9) H locs ls → W p l e room_1 s m #[Value.ref b] below meth c H locs (100 + (k9 + 1)) (40000 + 6 * (k9 + 1)) (lw_Z below #[Value.ref b] s) (F0 m 730 ls [])) (KM : 6 * k9 + 6 ≤ Ls → ∀ (H : Heap) (locs : List Loc) (ls : Array Slot), LI_M dC dI cB cI cJ s b (6 * k9) H locs ls → W p l e room_1 s m #[Value.ref b] below meth c H locs (200 + (k9 + 1)) (80000 + 6 * (k9 + 1)) (lw_Z below #[Value.ref b] s) (F0 m 730 ls [])) : (∀ (H : Heap) (locs : List Loc) (ls : Array Slot), LI_N dC dI cB cI cJ s b (6 * k9) H locs ls → W p l e room_1 s m #[Value.ref b] below meth c H locs (100 + k9) (40000 + 6 * k9) (lw_Z below #[Value.ref b] s) (F0 m 23 ls [])) := by
  intro H locs ls h
  obtain ⟨oG, oD, dO, hl, hS, -⟩ := LI_N_next h
  refine law_head hL C0 (6 * k9) h6 hc hs hS ls hl (fun tg htg hi6 => ?_)
  clear hl hS oG oD dO
  simp only [List.mem_cons, List.not_mem_nil, or_false] at htg
  rcases htg with h0 | h1 | h2 | h3 | h4 | h5 | h6 | h7 | h8 | h9 | h10 | h11 | h12 | h13 | h14 | h15 | h16 | h17 | h18 | h19 | h20
  · exact law_disp_N_0 hL C0 hK hN hfl sa hXp (6 * k9) k9 hi6 hk9 (KN hi6) (KM hi6) h (Or.inl h0)
  · exact law_disp_N_0 hL C0 hK hN hfl sa hXp (6 * k9) k9 hi6 hk9 (KN hi6) (KM hi6) h (Or.inr (Or.inl h1))
  · exact law_disp_N_0 hL C0 hK hN hfl sa hXp (6 * k9) k9 hi6 hk9 (KN hi6) (KM hi6) h (Or.inr (Or.inr (Or.inl h2)))
  · exact law_disp_N_0 hL C0 hK hN hfl sa hXp (6 * k9) k9 hi6 hk9 (KN hi6) (KM hi6) h (Or.inr (Or.inr (Or.inr (Or.inl h3))))
  · exact law_disp_N_0 hL C0 hK hN hfl sa hXp (6 * k9) k9 hi6 hk9 (KN hi6) (KM hi6) h (Or.inr (Or.inr (Or.inr (Or.inr (Or.inl h4)))))
  · exact law_disp_N_0 hL C0 hK hN hfl sa hXp (6 * k9) k9 hi6 hk9 (KN hi6) (KM hi6) h (Or.inr (Or.inr (Or.inr (Or.inr (Or.inr (Or.inl h5))))))
  · exact law_disp_N_0 hL C0 hK hN hfl sa hXp (6 * k9) k9 hi6 hk9 (KN hi6) (KM hi6) h (Or.inr (Or.inr (Or.inr (Or.inr (Or.inr (Or.inr h6))))))
  · exact law_disp_N_7 hL C0 hK hN hfl sa hXp (6 * k9) k9 hi6 hk9 (KN hi6) (KM hi6) h (Or.inl h7)
  · exact law_disp_N_7 hL C0 hK hN hfl sa hXp (6 * k9) k9 hi6 hk9 (KN hi6) (KM hi6) h (Or.inr (Or.inl h8))
  · exact law_disp_N_7 hL C0 hK hN hfl sa hXp (6 * k9) k9 hi6 hk9 (KN hi6) (KM hi6) h (Or.inr (Or.inr (Or.inl h9)))
  · exact law_disp_N_7 hL C0 hK hN hfl sa hXp (6 * k9) k9 hi6 hk9 (KN hi6) (KM hi6) h (Or.inr (Or.inr (Or.inr (Or.inl h10))))
  · exact law_disp_N_7 hL C0 hK hN hfl sa hXp (6 * k9) k9 hi6 hk9 (KN hi6) (KM hi6) h (Or.inr (Or.inr (Or.inr (Or.inr (Or.inl h11)))))
  · exact law_disp_N_7 hL C0 hK hN hfl sa hXp (6 * k9) k9 hi6 hk9 (KN hi6) (KM hi6) h (Or.inr (Or.inr (Or.inr (Or.inr (Or.inr (Or.inl h12))))))
  · exact law_disp_N_7 hL C0 hK hN hfl sa hXp (6 * k9) k9 hi6 hk9 (KN hi6) (KM hi6) h (Or.inr (Or.inr (Or.inr (Or.inr (Or.inr (Or.inr h13))))))
  · exact law_disp_N_14 hL C0 hK hN hfl sa hXp (6 * k9) k9 hi6 hk9 (KN hi6) (KM hi6) h (Or.inl h14)
  · exact law_disp_N_14 hL C0 hK hN hfl sa hXp (6 * k9) k9 hi6 hk9 (KN hi6) (KM hi6) h (Or.inr (Or.inl h15))
  · exact law_disp_N_14 hL C0 hK hN hfl sa hXp (6 * k9) k9 hi6 hk9 (KN hi6) (KM hi6) h (Or.inr (Or.inr (Or.inl h16)))
  · exact law_disp_N_14 hL C0 hK hN hfl sa hXp (6 * k9) k9 hi6 hk9 (KN hi6) (KM hi6) h (Or.inr (Or.inr (Or.inr (Or.inl h17))))
  · exact law_disp_N_14 hL C0 hK hN hfl sa hXp (6 * k9) k9 hi6 hk9 (KN hi6) (KM hi6) h (Or.inr (Or.inr (Or.inr (Or.inr (Or.inl h18)))))
  · exact law_disp_N_14 hL C0 hK hN hfl sa hXp (6 * k9) k9 hi6 hk9 (KN hi6) (KM hi6) h (Or.inr (Or.inr (Or.inr (Or.inr (Or.inr (Or.inl h19))))))
  · exact law_disp_N_14 hL C0 hK hN hfl sa hXp (6 * k9) k9 hi6 hk9 (KN hi6) (KM hi6) h (Or.inr (Or.inr (Or.inr (Or.inr (Or.inr (Or.inr h20))))))
set_option maxHeartbeats 4000000 in
set_option maxRecDepth 100000 in
theorem law_back_M {p : Program} {l : Launch} {e : Env} {s : State} {m : MethodId} {below : List Frame} {meth : Method} {c : Code} {dC : Nat → ClassId} {dI : Nat → Nat → Nat} {cB cI cJ : ClassId} {b Ls : Nat} {xs : Nat → Int32} (C0 : lw_At p s m meth c b Ls xs) (k9 : Nat) (hi : 6 * (k9 + 1) = 6 * k9 + 6) (ih : (∀ (H : Heap) (locs : List Loc) (ls : Array Slot), LI_M dC dI cB cI cJ s b (6 * (k9 + 1)) H locs ls → W p l e room_1 s m #[Value.ref b] below meth c H locs (200 + (k9 + 1)) (80000 + 6 * (k9 + 1)) (lw_Z below #[Value.ref b] s) (F0 m 23 ls []))) : ∀ (H : Heap) (locs : List Loc) (ls : Array Slot), LI_M dC dI cB cI cJ s b (6 * k9) H locs ls → W p l e room_1 s m #[Value.ref b] below meth c H locs (200 + (k9 + 1)) (80000 + 6 * (k9 + 1)) (lw_Z below #[Value.ref b] s) (F0 m 730 ls []) := by
  obtain ⟨hx, hb, hr, hml, hown, hts, hX, hbl, hlocks, hgv⟩ := id C0
  have hb : c.code = cL_law := hb
  intro H locs ls h
  obtain ⟨oG, oD, dO, hl, hS, hnx⟩ := LI_M_next h
  refine lv_iinc (v := nI (6 * (k9 + 1))) (lv' := [(4, .int (nI (6 * (k9 + 1)))), (0, .ref b), (1, .ref oG), (2, .ref oD), (3, .ref dO)]) hx hb dL_law_730 hl (k := 4) rfl (by rw [show Int32.ofInt 6 = nI 6 by decide, hi]; exact nI_add _ _) (by decide) rfl (fun ls hl => ?_)
  refine lv_goto (tgt := 23) hx hb dL_law_733 (by decide) ?_
  exact ih H locs ls (hnx (6 * (k9 + 1)) ls (lv_sub hl [1, 2, 3, 4, 0] rfl))
set_option maxHeartbeats 4000000 in
set_option maxRecDepth 100000 in
theorem law_turn_M {p : Program} {l : Launch} {e : Env} {s : State} {m : MethodId} {below : List Frame} {meth : Method} {c : Code} {dC : Nat → ClassId} {dI : Nat → Nat → Nat} {cB cI cJ : ClassId} {b Ls : Nat} {xs : Nat → Int32} (hL : Ls ≤ 3072) (C0 : lw_At p s m meth c b Ls xs) (hK : va_K (dC, dI) vwCl (tyL cB cI cJ) s) (hN : NB s) (hfl : l.stackTraces = false) (sa : Nat) (hXp : xPre sa (fun q : Nat => s.heap.size ≤ q) s) (k9 : Nat) (hk9 : k9 ≤ 512) (hc : 200 + k9 ≤ 601024) (hs : 80000 + 6 * k9 ≤ 7293034) (h6 : 6 * k9 ≤ 3072) (KN : 6 * k9 + 6 ≤ Ls → ∀ (H : Heap) (locs : List Loc) (ls : Array Slot), LI_N dC dI cB cI cJ s b (6 * k9) H locs ls → W p l e room_1 s m #[Value.ref b] below meth c H locs (100 + (k9 + 1)) (40000 + 6 * (k9 + 1)) (lw_Z below #[Value.ref b] s) (F0 m 730 ls [])) (KM : 6 * k9 + 6 ≤ Ls → ∀ (H : Heap) (locs : List Loc) (ls : Array Slot), LI_M dC dI cB cI cJ s b (6 * k9) H locs ls → W p l e room_1 s m #[Value.ref b] below meth c H locs (200 + (k9 + 1)) (80000 + 6 * (k9 + 1)) (lw_Z below #[Value.ref b] s) (F0 m 730 ls [])) : (∀ (H : Heap) (locs : List Loc) (ls : Array Slot), LI_M dC dI cB cI cJ s b (6 * k9) H locs ls → W p l e room_1 s m #[Value.ref b] below meth c H locs (200 + k9) (80000 + 6 * k9) (lw_Z below #[Value.ref b] s) (F0 m 23 ls [])) := by
  intro H locs ls h
  obtain ⟨oG, oD, dO, hl, hS, -⟩ := LI_M_next h
  refine law_head hL C0 (6 * k9) h6 hc hs hS ls hl (fun tg htg hi6 => ?_)
  clear hl hS oG oD dO
  simp only [List.mem_cons, List.not_mem_nil, or_false] at htg
  rcases htg with h0 | h1 | h2 | h3 | h4 | h5 | h6 | h7 | h8 | h9 | h10 | h11 | h12 | h13 | h14 | h15 | h16 | h17 | h18 | h19 | h20
  · exact law_disp_M_0 hL C0 hK hN hfl sa hXp (6 * k9) k9 hi6 hk9 (KN hi6) (KM hi6) h (Or.inl h0)
  · exact law_disp_M_0 hL C0 hK hN hfl sa hXp (6 * k9) k9 hi6 hk9 (KN hi6) (KM hi6) h (Or.inr (Or.inl h1))
  · exact law_disp_M_0 hL C0 hK hN hfl sa hXp (6 * k9) k9 hi6 hk9 (KN hi6) (KM hi6) h (Or.inr (Or.inr (Or.inl h2)))
  · exact law_disp_M_0 hL C0 hK hN hfl sa hXp (6 * k9) k9 hi6 hk9 (KN hi6) (KM hi6) h (Or.inr (Or.inr (Or.inr (Or.inl h3))))
  · exact law_disp_M_0 hL C0 hK hN hfl sa hXp (6 * k9) k9 hi6 hk9 (KN hi6) (KM hi6) h (Or.inr (Or.inr (Or.inr (Or.inr (Or.inl h4)))))
  · exact law_disp_M_0 hL C0 hK hN hfl sa hXp (6 * k9) k9 hi6 hk9 (KN hi6) (KM hi6) h (Or.inr (Or.inr (Or.inr (Or.inr (Or.inr (Or.inl h5))))))
  · exact law_disp_M_0 hL C0 hK hN hfl sa hXp (6 * k9) k9 hi6 hk9 (KN hi6) (KM hi6) h (Or.inr (Or.inr (Or.inr (Or.inr (Or.inr (Or.inr h6))))))
  · exact law_disp_M_7 hL C0 hK hN hfl sa hXp (6 * k9) k9 hi6 hk9 (KN hi6) (KM hi6) h (Or.inl h7)
  · exact law_disp_M_7 hL C0 hK hN hfl sa hXp (6 * k9) k9 hi6 hk9 (KN hi6) (KM hi6) h (Or.inr (Or.inl h8))
  · exact law_disp_M_7 hL C0 hK hN hfl sa hXp (6 * k9) k9 hi6 hk9 (KN hi6) (KM hi6) h (Or.inr (Or.inr (Or.inl h9)))
  · exact law_disp_M_7 hL C0 hK hN hfl sa hXp (6 * k9) k9 hi6 hk9 (KN hi6) (KM hi6) h (Or.inr (Or.inr (Or.inr (Or.inl h10))))
  · exact law_disp_M_7 hL C0 hK hN hfl sa hXp (6 * k9) k9 hi6 hk9 (KN hi6) (KM hi6) h (Or.inr (Or.inr (Or.inr (Or.inr (Or.inl h11)))))
  · exact law_disp_M_7 hL C0 hK hN hfl sa hXp (6 * k9) k9 hi6 hk9 (KN hi6) (KM hi6) h (Or.inr (Or.inr (Or.inr (Or.inr (Or.inr (Or.inl h12))))))
  · exact law_disp_M_7 hL C0 hK hN hfl sa hXp (6 * k9) k9 hi6 hk9 (KN hi6) (KM hi6) h (Or.inr (Or.inr (Or.inr (Or.inr (Or.inr (Or.inr h13))))))
  · exact law_disp_M_14 hL C0 hK hN hfl sa hXp (6 * k9) k9 hi6 hk9 (KN hi6) (KM hi6) h (Or.inl h14)
  · exact law_disp_M_14 hL C0 hK hN hfl sa hXp (6 * k9) k9 hi6 hk9 (KN hi6) (KM hi6) h (Or.inr (Or.inl h15))
  · exact law_disp_M_14 hL C0 hK hN hfl sa hXp (6 * k9) k9 hi6 hk9 (KN hi6) (KM hi6) h (Or.inr (Or.inr (Or.inl h16)))
  · exact law_disp_M_14 hL C0 hK hN hfl sa hXp (6 * k9) k9 hi6 hk9 (KN hi6) (KM hi6) h (Or.inr (Or.inr (Or.inr (Or.inl h17))))
  · exact law_disp_M_14 hL C0 hK hN hfl sa hXp (6 * k9) k9 hi6 hk9 (KN hi6) (KM hi6) h (Or.inr (Or.inr (Or.inr (Or.inr (Or.inl h18)))))
  · exact law_disp_M_14 hL C0 hK hN hfl sa hXp (6 * k9) k9 hi6 hk9 (KN hi6) (KM hi6) h (Or.inr (Or.inr (Or.inr (Or.inr (Or.inr (Or.inl h19))))))
  · exact law_disp_M_14 hL C0 hK hN hfl sa hXp (6 * k9) k9 hi6 hk9 (KN hi6) (KM hi6) h (Or.inr (Or.inr (Or.inr (Or.inr (Or.inr (Or.inr h20))))))
set_option maxHeartbeats 4000000 in
set_option maxRecDepth 100000 in
theorem law_loop {p : Program} {l : Launch} {e : Env} {s : State} {m : MethodId} {below : List Frame} {meth : Method} {c : Code} {dC : Nat → ClassId} {dI : Nat → Nat → Nat} {cB cI cJ : ClassId} {b Ls : Nat} {xs : Nat → Int32} (hL : Ls ≤ 3072) (C0 : lw_At p s m meth c b Ls xs) (hK : va_K (dC, dI) vwCl (tyL cB cI cJ) s) (hN : NB s) (hfl : l.stackTraces = false) (sa : Nat) (hXp : xPre sa (fun q : Nat => s.heap.size ≤ q) s) : ∀ n k9 : Nat, 512 < n + k9 → k9 ≤ 512 → (∀ (H : Heap) (locs : List Loc) (ls : Array Slot), LI_N dC dI cB cI cJ s b (6 * k9) H locs ls → W p l e room_1 s m #[Value.ref b] below meth c H locs (100 + k9) (40000 + 6 * k9) (lw_Z below #[Value.ref b] s) (F0 m 23 ls [])) ∧ (∀ (H : Heap) (locs : List Loc) (ls : Array Slot), LI_M dC dI cB cI cJ s b (6 * k9) H locs ls → W p l e room_1 s m #[Value.ref b] below meth c H locs (200 + k9) (80000 + 6 * k9) (lw_Z below #[Value.ref b] s) (F0 m 23 ls [])) := by
  intro n
  induction n with
  | zero => intro k9 h1 h2; exact absurd h1 (by omega)
  | succ n ih =>
    intro k9 h1 hk9
    have hm : 6 * (k9 + 1) = 6 * k9 + 6 := Nat.mul_succ 6 k9
    have h6 : 6 * k9 ≤ 3072 := by clear ih; omega
    have hlt : 512 < n + (k9 + 1) := by clear ih; omega
    have h1N : 100 + k9 ≤ 601024 := by clear ih; omega
    have h2N : 40000 + 6 * k9 ≤ 7293034 := by clear ih; omega
    have h1M : 200 + k9 ≤ 601024 := by clear ih; omega
    have h2M : 80000 + 6 * k9 ≤ 7293034 := by clear ih; omega
    have hk1 : 6 * k9 + 6 ≤ Ls → k9 + 1 ≤ 512 := by clear ih; omega
    have KN := fun hi6 => law_back_N C0 k9 hm (ih (k9 + 1) hlt (hk1 hi6)).1
    have KM := fun hi6 => law_back_M C0 k9 hm (ih (k9 + 1) hlt (hk1 hi6)).2
    exact ⟨law_turn_N hL C0 hK hN hfl sa hXp k9 hk9 h1N h2N h6 KN KM, law_turn_M hL C0 hK hN hfl sa hXp k9 hk9 h1M h2M h6 KN KM⟩
