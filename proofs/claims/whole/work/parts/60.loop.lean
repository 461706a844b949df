theorem nx_31 (x : Int32) : ∃ n : Nat, n < 32 ∧ x &&& nI 31 = nI n := by
  refine ⟨uB x &&& 31, ?_, ?_⟩
  · rw [show uB x &&& 31 = uB x % 32 from Nat.and_two_pow_sub_one_eq_mod (uB x) 5]
    exact Nat.mod_lt _ (by decide)
  · have h := nx_and (uB x) 31
    rw [uB_nI] at h
    exact h
theorem LI_N_next {dC : Nat → ClassId} {dI : Nat → Nat → Nat} {cB cI cJ : ClassId} {s : State} {b i : Nat} {H : Heap} {locs : List Loc} {ls : Array Slot} (h : LI_N dC dI cB cI cJ s b i H locs ls) : ∃ oG oD dO : Nat, lv_has ls 7 [(0, .ref b), (1, .ref oG), (2, .ref oD), (3, .ref dO), (4, .int (nI i))] ∧ va_S (fun q : Nat => s.heap.size ≤ q) s.heap H locs ∧ ∀ (i : Nat) (ls : Array Slot), lv_has ls 7 [(0, .ref b), (1, .ref oG), (2, .ref oD), (3, .ref dO), (4, .int (nI i))] → LI_N dC dI cB cI cJ s b i H locs ls := by
  obtain ⟨oG, h0, b0, f, len, fb, oD, th, dF, dH, sr, dL, en, ram, mz, dM, hp, cn, dP, dS, fk, fp, ka, kn, sv, dK, df, dh, dl, dm, dp, ds, dk, dO, dov, hF, hf, hP, hD, hS, hl⟩ := h
  exact ⟨oG, oD, dO, hl, hS, fun i ls hl => ⟨oG, h0, b0, f, len, fb, oD, th, dF, dH, sr, dL, en, ram, mz, dM, hp, cn, dP, dS, fk, fp, ka, kn, sv, dK, df, dh, dl, dm, dp, ds, dk, dO, dov, hF, hf, hP, hD, hS, hl⟩⟩
theorem LI_M_next {dC : Nat → ClassId} {dI : Nat → Nat → Nat} {cB cI cJ : ClassId} {s : State} {b i : Nat} {H : Heap} {locs : List Loc} {ls : Array Slot} (h : LI_M dC dI cB cI cJ s b i H locs ls) : ∃ oG oD dO : Nat, lv_has ls 7 [(0, .ref b), (1, .ref oG), (2, .ref oD), (3, .ref dO), (4, .int (nI i))] ∧ va_S (fun q : Nat => s.heap.size ≤ q) s.heap H locs ∧ ∀ (i : Nat) (ls : Array Slot), lv_has ls 7 [(0, .ref b), (1, .ref oG), (2, .ref oD), (3, .ref dO), (4, .int (nI i))] → LI_M dC dI cB cI cJ s b i H locs ls := by
  obtain ⟨oG, h0, b0, f, len, fb, oD, th, dF, dH, sr, dL, en, mz, dM, hp, cn, dP, dS, fk, fp, ka, kn, sv, dK, df, dh, dl, dm, dp, ds, dk, dO, dov, oM, lm, mem, pl, ll, oSl, aBl, aPl, aLl, gl, Pl, Ll, oSn, aBn, aPn, aLn, gn, Pn, Ln, hsn, oSa, aBa, aPa, aLa, mza, cna, hsa, ga, Pa, La, mema, pla, lla, hpa, oSe, aBe, aPe, aLe, mze, cne, hse, ge, Pe, Le, meme, ple, lle, hpe, hF, hf, hen, hmlo, hdh, hram, hdl, hmn, hdm, hst, hPn, hLn, hdp, hds, hhsn, hma, hsta, hPa, hLa, hhsa, hme, hste, hPe, hLe, hhse, hsv, hk1, hk2, hsm, hP, hD, hS, hl⟩ := h
  exact ⟨oG, oD, dO, hl, hS, fun i ls hl => ⟨oG, h0, b0, f, len, fb, oD, th, dF, dH, sr, dL, en, mz, dM, hp, cn, dP, dS, fk, fp, ka, kn, sv, dK, df, dh, dl, dm, dp, ds, dk, dO, dov, oM, lm, mem, pl, ll, oSl, aBl, aPl, aLl, gl, Pl, Ll, oSn, aBn, aPn, aLn, gn, Pn, Ln, hsn, oSa, aBa, aPa, aLa, mza, cna, hsa, ga, Pa, La, mema, pla, lla, hpa, oSe, aBe, aPe, aLe, mze, cne, hse, ge, Pe, Le, meme, ple, lle, hpe, hF, hf, hen, hmlo, hdh, hram, hdl, hmn, hdm, hst, hPn, hLn, hdp, hds, hhsn, hma, hsta, hPa, hLa, hhsa, hme, hste, hPe, hLe, hhse, hsv, hk1, hk2, hsm, hP, hD, hS, hl⟩⟩
set_option maxHeartbeats 400000 in
set_option maxRecDepth 100000 in
theorem law_head {p : Program} {l : Launch} {e : Env} {s : State} {m : MethodId} {below : List Frame} {meth : Method} {c : Code} {b Ls : Nat} {xs : Nat → Int32} (hL : Ls ≤ 3072) (C0 : lw_At p s m meth c b Ls xs) (i : Nat) (hi : i ≤ 3072) {H : Heap} {locs : List Loc} {cells slots : Nat} (hc : cells ≤ 601024) (hs : slots ≤ 7293034) (hS : va_S (fun q : Nat => s.heap.size ≤ q) s.heap H locs) (ls : Array Slot) {oG oD dO : Nat} (hl : lv_has ls 7 [(0, .ref b), (1, .ref oG), (2, .ref oD), (3, .ref dO), (4, .int (nI i))]) (kk : ∀ tg ∈ [136, 209, 246, 283, 308, 321, 335, 348, 374, 412, 461, 486, 511, 536, 573, 586, 599, 612, 637, 674, 730], i + 6 ≤ Ls → W p l e room_1 s m #[Value.ref b] below meth c H locs cells slots (lw_Z below #[Value.ref b] s) (F0 m tg ls [])) : W p l e room_1 s m #[Value.ref b] below meth c H locs cells slots (lw_Z below #[Value.ref b] s) (F0 m 23 ls []) := by
  obtain ⟨hx, hb, hr, hml, hown, hts, hX, hbl, hlocks, hgv⟩ := id C0
  have hb : c.code = cL_law := hb
  have hbA : ¬ (fun q : Nat => s.heap.size ≤ q) b := Nat.not_le.mpr hbl
  refine lv_iload hx hb dL_law_23 (lv_at hl 4 rfl) ?_
  refine lv_aload_n hx hb dL_law_25 rfl (lv_at hl 0 rfl) ?_
  refine va_slen hx hb hX hbl hbA hS dL_law_26 ?_
  refine wx_top (show Int32.ofNat Ls = nI Ls from rfl) ?_
  refine lv_bipush (v := nI 6) hx hb dL_law_27 (by decide) ?_
  refine lv_isub hx hb dL_law_29 ?_
  refine lv_icmp_gt (tgt := 736) hx hb dL_law_30 (by decide) (fun c_1 => ?_) (fun c_1 => ?_)
  · refine W.widen (k := 601024) (n := 7293034) hc hs ?_
    refine va_forget hS.2.2 ?_
    refine lv_iconst (v := 1) hx hb dL_law_736 (by decide) ?_
    exact lw_ret hx hb hr hlocks dL_law_737
  · rw [Int32.lt_iff_toInt_lt, nI_toInt (n := i) (by omega), pk_sub_toInt (a := Ls) (b := 6) (by omega) (by omega)] at c_1
    have hi6 : i + 6 ≤ Ls := by omega
    refine lv_aload_n hx hb dL_law_33 rfl (lv_at hl 0 rfl) ?_
    refine lv_iload hx hb dL_law_34 (lv_at hl 4 rfl) ?_
    refine va_sld hx hb hX hbl hbA hS (vp_in_nI (n := i) (by omega) (by omega)) dL_law_36 ?_
    refine wx_top (congrArg xs (nI_clamp (n := i) (by omega))) ?_
    refine lv_bipush (v := nI 31) hx hb dL_law_37 (by decide) ?_
    refine lv_iand hx hb dL_law_39 ?_
    obtain ⟨n, hn, he⟩ := nx_31 (xs i)
    refine wx_top he ?_
    clear he
    rcases (show n = 0 ∨ n = 1 ∨ n = 2 ∨ n = 3 ∨ n = 4 ∨ n = 5 ∨ n = 6 ∨ n = 7 ∨ n = 8 ∨ n = 9 ∨ n = 10 ∨ n = 11 ∨ n = 12 ∨ n = 13 ∨ n = 14 ∨ n = 15 ∨ n = 16 ∨ n = 17 ∨ n = 18 ∨ n = 19 ∨ 19 < n by omega) with rfl | rfl | rfl | rfl | rfl | rfl | rfl | rfl | rfl | rfl | rfl | rfl | rfl | rfl | rfl | rfl | rfl | rfl | rfl | rfl | hlo
    · exact lv_tableIn (off := 96) (tgt := 136) hx hb dL_law_40 (by decide) (by decide) (by decide) (by decide) (kk 136 (by decide) hi6)
    · exact lv_tableIn (off := 169) (tgt := 209) hx hb dL_law_40 (by decide) (by decide) (by decide) (by decide) (kk 209 (by decide) hi6)
    · exact lv_tableIn (off := 206) (tgt := 246) hx hb dL_law_40 (by decide) (by decide) (by decide) (by decide) (kk 246 (by decide) hi6)
    · exact lv_tableIn (off := 243) (tgt := 283) hx hb dL_law_40 (by decide) (by decide) (by decide) (by decide) (kk 283 (by decide) hi6)
    · exact lv_tableIn (off := 268) (tgt := 308) hx hb dL_law_40 (by decide) (by decide) (by decide) (by decide) (kk 308 (by decide) hi6)
    · exact lv_tableIn (off := 281) (tgt := 321) hx hb dL_law_40 (by decide) (by decide) (by decide) (by decide) (kk 321 (by decide) hi6)
    · exact lv_tableIn (off := 295) (tgt := 335) hx hb dL_law_40 (by decide) (by decide) (by decide) (by decide) (kk 335 (by decide) hi6)
    · exact lv_tableIn (off := 308) (tgt := 348) hx hb dL_law_40 (by decide) (by decide) (by decide) (by decide) (kk 348 (by decide) hi6)
    · exact lv_tableIn (off := 334) (tgt := 374) hx hb dL_law_40 (by decide) (by decide) (by decide) (by decide) (kk 374 (by decide) hi6)
    · exact lv_tableIn (off := 372) (tgt := 412) hx hb dL_law_40 (by decide) (by decide) (by decide) (by decide) (kk 412 (by decide) hi6)
    · exact lv_tableIn (off := 421) (tgt := 461) hx hb dL_law_40 (by decide) (by decide) (by decide) (by decide) (kk 461 (by decide) hi6)
    · exact lv_tableIn (off := 446) (tgt := 486) hx hb dL_law_40 (by decide) (by decide) (by decide) (by decide) (kk 486 (by decide) hi6)
    · exact lv_tableIn (off := 471) (tgt := 511) hx hb dL_law_40 (by decide) (by decide) (by decide) (by decide) (kk 511 (by decide) hi6)
    · exact lv_tableIn (off := 496) (tgt := 536) hx hb dL_law_40 (by decide) (by decide) (by decide) (by decide) (kk 536 (by decide) hi6)
    · exact lv_tableIn (off := 533) (tgt := 573) hx hb dL_law_40 (by decide) (by decide) (by decide) (by decide) (kk 573 (by decide) hi6)
    · exact lv_tableIn (off := 546) (tgt := 586) hx hb dL_law_40 (by decide) (by decide) (by decide) (by decide) (kk 586 (by decide) hi6)
    · exact lv_tableIn (off := 559) (tgt := 599) hx hb dL_law_40 (by decide) (by decide) (by decide) (by decide) (kk 599 (by decide) hi6)
    · exact lv_tableIn (off := 572) (tgt := 612) hx hb dL_law_40 (by decide) (by decide) (by decide) (by decide) (kk 612 (by decide) hi6)
    · exact lv_tableIn (off := 597) (tgt := 637) hx hb dL_law_40 (by decide) (by decide) (by decide) (by decide) (kk 637 (by decide) hi6)
    · exact lv_tableIn (off := 634) (tgt := 674) hx hb dL_law_40 (by decide) (by decide) (by decide) (by decide) (kk 674 (by decide) hi6)
    · exact lv_tableOut (tgt := 730) hx hb dL_law_40 (Or.inr (by rw [nI_toInt (n := n) (by omega)]; omega)) (by decide) (kk 730 (by decide) hi6)
set_option maxHeartbeats 400000 in
set_option maxRecDepth 100000 in
theorem law_loop {p : Program} {l : Launch} {e : Env} {s : State} {m : MethodId} {below : List Frame} {meth : Method} {c : Code} {dC : Nat → ClassId} {dI : Nat → Nat → Nat} {cB cI cJ : ClassId} {b Ls : Nat} {xs : Nat → Int32} (hL : Ls ≤ 3072) (C0 : lw_At p s m meth c b Ls xs) (hK : va_K (dC, dI) vwCl (tyL cB cI cJ) s) (hN : NB s) (hfl : l.stackTraces = false) (sa : Nat) (hXp : xPre sa (fun q : Nat => s.heap.size ≤ q) s) : ∀ n k9 : Nat, 512 < n + k9 → k9 ≤ 512 → (∀ (H : Heap) (locs : List Loc) (ls : Array Slot), LI_N dC dI cB cI cJ s b (6 * k9) H locs ls → W p l e room_1 s m #[Value.ref b] below meth c H locs (100 + k9) (40000 + 6 * k9) (lw_Z below #[Value.ref b] s) (F0 m 23 ls [])) ∧ (∀ (H : Heap) (locs : List Loc) (ls : Array Slot), LI_M dC dI cB cI cJ s b (6 * k9) H locs ls → W p l e room_1 s m #[Value.ref b] below meth c H locs (200 + k9) (80000 + 6 * k9) (lw_Z below #[Value.ref b] s) (F0 m 23 ls [])) := by
  obtain ⟨hx, hb, hr, hml, hown, hts, hX, hbl, hlocks, hgv⟩ := id C0
  have hb : c.code = cL_law := hb
  intro n
  induction n with
  | zero => intro k9 h1 h2; omega
  | succ n ih =>
    intro k9 h1 hk9
    have KN : 6 * k9 + 6 ≤ Ls → ∀ (H : Heap) (locs : List Loc) (ls : Array Slot), LI_N dC dI cB cI cJ s b (6 * k9) H locs ls → W p l e room_1 s m #[Value.ref b] below meth c H locs (100 + (k9 + 1)) (40000 + 6 * (k9 + 1)) (lw_Z below #[Value.ref b] s) (F0 m 730 ls []) := by
      intro hi6 H locs ls h
      obtain ⟨oG, oD, dO, hl, hS, hnx⟩ := LI_N_next h
      refine lv_iinc (v := nI (6 * (k9 + 1))) (lv' := [(4, .int (nI (6 * (k9 + 1)))), (0, .ref b), (1, .ref oG), (2, .ref oD), (3, .ref dO)]) hx hb dL_law_730 hl (k := 4) rfl (by rw [show Int32.ofInt 6 = nI 6 by decide]; exact nI_add _ _) (by decide) rfl (fun ls hl => ?_)
      refine lv_goto (tgt := 23) hx hb dL_law_733 (by decide) ?_
      exact (ih (k9 + 1) (by omega) (by omega)).1 _ _ _ (hnx _ _ (lv_sub hl [1, 2, 3, 4, 0] rfl))
    have KM : 6 * k9 + 6 ≤ Ls → ∀ (H : Heap) (locs : List Loc) (ls : Array Slot), LI_M dC dI cB cI cJ s b (6 * k9) H locs ls → W p l e room_1 s m #[Value.ref b] below meth c H locs (200 + (k9 + 1)) (80000 + 6 * (k9 + 1)) (lw_Z below #[Value.ref b] s) (F0 m 730 ls []) := by
      intro hi6 H locs ls h
      obtain ⟨oG, oD, dO, hl, hS, hnx⟩ := LI_M_next h
      refine lv_iinc (v := nI (6 * (k9 + 1))) (lv' := [(4, .int (nI (6 * (k9 + 1)))), (0, .ref b), (1, .ref oG), (2, .ref oD), (3, .ref dO)]) hx hb dL_law_730 hl (k := 4) rfl (by rw [show Int32.ofInt 6 = nI 6 by decide]; exact nI_add _ _) (by decide) rfl (fun ls hl => ?_)
      refine lv_goto (tgt := 23) hx hb dL_law_733 (by decide) ?_
      exact (ih (k9 + 1) (by omega) (by omega)).2 _ _ _ (hnx _ _ (lv_sub hl [1, 2, 3, 4, 0] rfl))
    constructor
    · intro H locs ls h
      obtain ⟨oG, oD, dO, hl, hS, -⟩ := LI_N_next h
      refine law_head hL C0 (6 * k9) (by omega) (by omega) (by omega) hS ls hl (fun tg htg hi6 => ?_)
      clear hl hS oG oD dO
      have hh := h
      obtain ⟨oG, h0, b0, f, len, fb, oD, th, dF, dH, sr, dL, en, ram, mz, dM, hp, cn, dP, dS, fk, fp, ka, kn, sv, dK, df, dh, dl, dm, dp, ds, dk, dO, dov, hF, hf, hP, hD, hS, hl⟩ := h
      simp only [List.mem_cons, List.not_mem_nil, or_false] at htg
      rcases htg with rfl | rfl | rfl | rfl | rfl | rfl | rfl | rfl | rfl | rfl | rfl | rfl | rfl | rfl | rfl | rfl | rfl | rfl | rfl | rfl | rfl
      · exact law_0_N hL C0 hK hN (6 * k9) k9 hi6 hk9 (KN hi6) oG h0 b0 f len fb oD th dF dH sr dL en ram mz dM hp cn dP dS fk fp ka kn sv dK df dh dl dm dp ds dk dO dov hF hf H locs hP hD hS ls hl
      · exact law_1_N hL C0 hK hN (6 * k9) k9 hi6 hk9 (KN hi6) oG h0 b0 f len fb oD th dF dH sr dL en ram mz dM hp cn dP dS fk fp ka kn sv dK df dh dl dm dp ds dk dO dov hF hf H locs hP hD hS ls hl
      · exact law_2_N hL C0 hK hN (6 * k9) k9 hi6 hk9 (KN hi6) oG h0 b0 f len fb oD th dF dH sr dL en ram mz dM hp cn dP dS fk fp ka kn sv dK df dh dl dm dp ds dk dO dov hF hf H locs hP hD hS ls hl
      · exact law_3_N hL C0 hK hN (6 * k9) k9 hi6 hk9 (KN hi6) oG h0 b0 f len fb oD th dF dH sr dL en ram mz dM hp cn dP dS fk fp ka kn sv dK df dh dl dm dp ds dk dO dov hF hf H locs hP hD hS ls hl
      · exact law_4_N hL C0 hK hN (6 * k9) k9 hi6 hk9 (KN hi6) oG h0 b0 f len fb oD th dF dH sr dL en ram mz dM hp cn dP dS fk fp ka kn sv dK df dh dl dm dp ds dk dO dov hF hf H locs hP hD hS ls hl
      · exact law_5_N hL C0 hK hN (6 * k9) k9 hi6 hk9 (KN hi6) oG h0 b0 f len fb oD th dF dH sr dL en ram mz dM hp cn dP dS fk fp ka kn sv dK df dh dl dm dp ds dk dO dov hF hf H locs hP hD hS ls hl
      · exact law_6_N hL C0 hK hN (6 * k9) k9 hi6 hk9 (KN hi6) (KM hi6) oG h0 b0 f len fb oD th dF dH sr dL en ram mz dM hp cn dP dS fk fp ka kn sv dK df dh dl dm dp ds dk dO dov hF hf H locs hP hD hS ls hl
      · exact law_7_N hL C0 hK hN (6 * k9) k9 hi6 hk9 (KN hi6) oG h0 b0 f len fb oD th dF dH sr dL en ram mz dM hp cn dP dS fk fp ka kn sv dK df dh dl dm dp ds dk dO dov hF hf H locs hP hD hS ls hl
      · exact law_8_N hL C0 hK hN (6 * k9) k9 hi6 hk9 (KN hi6) oG h0 b0 f len fb oD th dF dH sr dL en ram mz dM hp cn dP dS fk fp ka kn sv dK df dh dl dm dp ds dk dO dov hF hf H locs hP hD hS ls hl
      · exact law_9_N hL C0 hK hN (6 * k9) k9 hi6 hk9 (KN hi6) oG h0 b0 f len fb oD th dF dH sr dL en ram mz dM hp cn dP dS fk fp ka kn sv dK df dh dl dm dp ds dk dO dov hF hf H locs hP hD hS ls hl
      · exact law_10_N hL C0 hK hN (6 * k9) k9 hi6 hk9 (KN hi6) oG h0 b0 f len fb oD th dF dH sr dL en ram mz dM hp cn dP dS fk fp ka kn sv dK df dh dl dm dp ds dk dO dov hF hf H locs hP hD hS ls hl
      · exact law_11_N hL C0 hK hN (6 * k9) k9 hi6 hk9 (KN hi6) oG h0 b0 f len fb oD th dF dH sr dL en ram mz dM hp cn dP dS fk fp ka kn sv dK df dh dl dm dp ds dk dO dov hF hf H locs hP hD hS ls hl
      · exact law_12_N hL C0 hK hN (6 * k9) k9 hi6 hk9 (KN hi6) oG h0 b0 f len fb oD th dF dH sr dL en ram mz dM hp cn dP dS fk fp ka kn sv dK df dh dl dm dp ds dk dO dov hF hf H locs hP hD hS ls hl
      · exact law_13_N hL C0 hK hN (6 * k9) k9 hi6 hk9 (KN hi6) oG h0 b0 f len fb oD th dF dH sr dL en ram mz dM hp cn dP dS fk fp ka kn sv dK df dh dl dm dp ds dk dO dov hF hf H locs hP hD hS ls hl
      · exact law_14_N hL C0 hK hN (6 * k9) k9 hi6 hk9 (KN hi6) oG h0 b0 f len fb oD th dF dH sr dL en ram mz dM hp cn dP dS fk fp ka kn sv dK df dh dl dm dp ds dk dO dov hF hf H locs hP hD hS ls hl
      · exact law_15_N hL C0 hK hN (6 * k9) k9 hi6 hk9 (KN hi6) oG h0 b0 f len fb oD th dF dH sr dL en ram mz dM hp cn dP dS fk fp ka kn sv dK df dh dl dm dp ds dk dO dov hF hf H locs hP hD hS ls hl
      · exact law_16_N hL C0 hK hN (6 * k9) k9 hi6 hk9 (KN hi6) oG h0 b0 f len fb oD th dF dH sr dL en ram mz dM hp cn dP dS fk fp ka kn sv dK df dh dl dm dp ds dk dO dov hF hf H locs hP hD hS ls hl
      · exact law_17_N hL C0 hK hN (6 * k9) k9 hi6 hk9 (KN hi6) oG h0 b0 f len fb oD th dF dH sr dL en ram mz dM hp cn dP dS fk fp ka kn sv dK df dh dl dm dp ds dk dO dov hF hf H locs hP hD hS ls hl
      · exact law_18_N hL C0 hK hN (6 * k9) k9 hi6 hk9 (KN hi6) oG h0 b0 f len fb oD th dF dH sr dL en ram mz dM hp cn dP dS fk fp ka kn sv dK df dh dl dm dp ds dk dO dov hF hf H locs hP hD hS ls hl
      · exact law_19_N hL C0 hK hN hfl sa hXp (6 * k9) k9 hi6 hk9 (KN hi6) oG h0 b0 f len fb oD th dF dH sr dL en ram mz dM hp cn dP dS fk fp ka kn sv dK df dh dl dm dp ds dk dO dov hF hf H locs hP hD hS ls hl
      · exact W.widen (k := 100 + (k9 + 1)) (n := 40000 + 6 * (k9 + 1)) (Nat.add_le_add_left (Nat.le_succ k9) _) (Nat.add_le_add_left (Nat.mul_le_mul_left 6 (Nat.le_succ k9)) _) (KN hi6 _ _ _ hh)
    · intro H locs ls h
      obtain ⟨oG, oD, dO, hl, hS, -⟩ := LI_M_next h
      refine law_head hL C0 (6 * k9) (by omega) (by omega) (by omega) hS ls hl (fun tg htg hi6 => ?_)
      clear hl hS oG oD dO
      have hh := h
      obtain ⟨oG, h0, b0, f, len, fb, oD, th, dF, dH, sr, dL, en, mz, dM, hp, cn, dP, dS, fk, fp, ka, kn, sv, dK, df, dh, dl, dm, dp, ds, dk, dO, dov, oM, lm, mem, pl, ll, oSl, aBl, aPl, aLl, gl, Pl, Ll, oSn, aBn, aPn, aLn, gn, Pn, Ln, hsn, oSa, aBa, aPa, aLa, mza, cna, hsa, ga, Pa, La, mema, pla, lla, hpa, oSe, aBe, aPe, aLe, mze, cne, hse, ge, Pe, Le, meme, ple, lle, hpe, hF, hf, hen, hmlo, hdh, hram, hdl, hmn, hdm, hst, hPn, hLn, hdp, hds, hhsn, hma, hsta, hPa, hLa, hhsa, hme, hste, hPe, hLe, hhse, hsv, hk1, hk2, hsm, hP, hD, hS, hl⟩ := h
      simp only [List.mem_cons, List.not_mem_nil, or_false] at htg
      rcases htg with rfl | rfl | rfl | rfl | rfl | rfl | rfl | rfl | rfl | rfl | rfl | rfl | rfl | rfl | rfl | rfl | rfl | rfl | rfl | rfl | rfl
      · exact law_0_M hL C0 hK hN (6 * k9) k9 hi6 hk9 (KM hi6) oG h0 b0 f len fb oD th dF dH sr dL en mz dM hp cn dP dS fk fp ka kn sv dK df dh dl dm dp ds dk dO dov oM lm mem pl ll oSl aBl aPl aLl gl Pl Ll oSn aBn aPn aLn gn Pn Ln hsn oSa aBa aPa aLa mza cna hsa ga Pa La mema pla lla hpa oSe aBe aPe aLe mze cne hse ge Pe Le meme ple lle hpe hF hf hen hmlo hdh hram hdl hmn hdm hst hPn hLn hdp hds hhsn hma hsta hPa hLa hhsa hme hste hPe hLe hhse hsv hk1 hk2 hsm H locs hP hD hS ls hl
      · exact law_1_M hL C0 hK hN (6 * k9) k9 hi6 hk9 (KM hi6) oG h0 b0 f len fb oD th dF dH sr dL en mz dM hp cn dP dS fk fp ka kn sv dK df dh dl dm dp ds dk dO dov oM lm mem pl ll oSl aBl aPl aLl gl Pl Ll oSn aBn aPn aLn gn Pn Ln hsn oSa aBa aPa aLa mza cna hsa ga Pa La mema pla lla hpa oSe aBe aPe aLe mze cne hse ge Pe Le meme ple lle hpe hF hf hen hmlo hdh hram hdl hmn hdm hst hPn hLn hdp hds hhsn hma hsta hPa hLa hhsa hme hste hPe hLe hhse hsv hk1 hk2 hsm H locs hP hD hS ls hl
      · exact law_2_M hL C0 hK hN (6 * k9) k9 hi6 hk9 (KM hi6) oG h0 b0 f len fb oD th dF dH sr dL en mz dM hp cn dP dS fk fp ka kn sv dK df dh dl dm dp ds dk dO dov oM lm mem pl ll oSl aBl aPl aLl gl Pl Ll oSn aBn aPn aLn gn Pn Ln hsn oSa aBa aPa aLa mza cna hsa ga Pa La mema pla lla hpa oSe aBe aPe aLe mze cne hse ge Pe Le meme ple lle hpe hF hf hen hmlo hdh hram hdl hmn hdm hst hPn hLn hdp hds hhsn hma hsta hPa hLa hhsa hme hste hPe hLe hhse hsv hk1 hk2 hsm H locs hP hD hS ls hl
      · exact law_3_M hL C0 hK hN (6 * k9) k9 hi6 hk9 (KM hi6) oG h0 b0 f len fb oD th dF dH sr dL en mz dM hp cn dP dS fk fp ka kn sv dK df dh dl dm dp ds dk dO dov oM lm mem pl ll oSl aBl aPl aLl gl Pl Ll oSn aBn aPn aLn gn Pn Ln hsn oSa aBa aPa aLa mza cna hsa ga Pa La mema pla lla hpa oSe aBe aPe aLe mze cne hse ge Pe Le meme ple lle hpe hF hf hen hmlo hdh hram hdl hmn hdm hst hPn hLn hdp hds hhsn hma hsta hPa hLa hhsa hme hste hPe hLe hhse hsv hk1 hk2 hsm H locs hP hD hS ls hl
      · exact law_4_M hL C0 hK hN (6 * k9) k9 hi6 hk9 (KM hi6) oG h0 b0 f len fb oD th dF dH sr dL en mz dM hp cn dP dS fk fp ka kn sv dK df dh dl dm dp ds dk dO dov oM lm mem pl ll oSl aBl aPl aLl gl Pl Ll oSn aBn aPn aLn gn Pn Ln hsn oSa aBa aPa aLa mza cna hsa ga Pa La mema pla lla hpa oSe aBe aPe aLe mze cne hse ge Pe Le meme ple lle hpe hF hf hen hmlo hdh hram hdl hmn hdm hst hPn hLn hdp hds hhsn hma hsta hPa hLa hhsa hme hste hPe hLe hhse hsv hk1 hk2 hsm H locs hP hD hS ls hl
      · exact law_5_M hL C0 hK hN (6 * k9) k9 hi6 hk9 (KM hi6) oG h0 b0 f len fb oD th dF dH sr dL en mz dM hp cn dP dS fk fp ka kn sv dK df dh dl dm dp ds dk dO dov oM lm mem pl ll oSl aBl aPl aLl gl Pl Ll oSn aBn aPn aLn gn Pn Ln hsn oSa aBa aPa aLa mza cna hsa ga Pa La mema pla lla hpa oSe aBe aPe aLe mze cne hse ge Pe Le meme ple lle hpe hF hf hen hmlo hdh hram hdl hmn hdm hst hPn hLn hdp hds hhsn hma hsta hPa hLa hhsa hme hste hPe hLe hhse hsv hk1 hk2 hsm H locs hP hD hS ls hl
      · exact law_6_M hL C0 hK hN (6 * k9) k9 hi6 hk9 (KM hi6) oG h0 b0 f len fb oD th dF dH sr dL en mz dM hp cn dP dS fk fp ka kn sv dK df dh dl dm dp ds dk dO dov oM lm mem pl ll oSl aBl aPl aLl gl Pl Ll oSn aBn aPn aLn gn Pn Ln hsn oSa aBa aPa aLa mza cna hsa ga Pa La mema pla lla hpa oSe aBe aPe aLe mze cne hse ge Pe Le meme ple lle hpe hF hf hen hmlo hdh hram hdl hmn hdm hst hPn hLn hdp hds hhsn hma hsta hPa hLa hhsa hme hste hPe hLe hhse hsv hk1 hk2 hsm H locs hP hD hS ls hl
      · exact law_7_M hL C0 hK hN (6 * k9) k9 hi6 hk9 (KM hi6) oG h0 b0 f len fb oD th dF dH sr dL en mz dM hp cn dP dS fk fp ka kn sv dK df dh dl dm dp ds dk dO dov oM lm mem pl ll oSl aBl aPl aLl gl Pl Ll oSn aBn aPn aLn gn Pn Ln hsn oSa aBa aPa aLa mza cna hsa ga Pa La mema pla lla hpa oSe aBe aPe aLe mze cne hse ge Pe Le meme ple lle hpe hF hf hen hmlo hdh hram hdl hmn hdm hst hPn hLn hdp hds hhsn hma hsta hPa hLa hhsa hme hste hPe hLe hhse hsv hk1 hk2 hsm H locs hP hD hS ls hl
      · exact law_8_M hL C0 hK hN (6 * k9) k9 hi6 hk9 (KM hi6) oG h0 b0 f len fb oD th dF dH sr dL en mz dM hp cn dP dS fk fp ka kn sv dK df dh dl dm dp ds dk dO dov oM lm mem pl ll oSl aBl aPl aLl gl Pl Ll oSn aBn aPn aLn gn Pn Ln hsn oSa aBa aPa aLa mza cna hsa ga Pa La mema pla lla hpa oSe aBe aPe aLe mze cne hse ge Pe Le meme ple lle hpe hF hf hen hmlo hdh hram hdl hmn hdm hst hPn hLn hdp hds hhsn hma hsta hPa hLa hhsa hme hste hPe hLe hhse hsv hk1 hk2 hsm H locs hP hD hS ls hl
      · exact law_9_M hL C0 hK hN (6 * k9) k9 hi6 hk9 (KM hi6) oG h0 b0 f len fb oD th dF dH sr dL en mz dM hp cn dP dS fk fp ka kn sv dK df dh dl dm dp ds dk dO dov oM lm mem pl ll oSl aBl aPl aLl gl Pl Ll oSn aBn aPn aLn gn Pn Ln hsn oSa aBa aPa aLa mza cna hsa ga Pa La mema pla lla hpa oSe aBe aPe aLe mze cne hse ge Pe Le meme ple lle hpe hF hf hen hmlo hdh hram hdl hmn hdm hst hPn hLn hdp hds hhsn hma hsta hPa hLa hhsa hme hste hPe hLe hhse hsv hk1 hk2 hsm H locs hP hD hS ls hl
      · exact law_10_M hL C0 hK hN (6 * k9) k9 hi6 hk9 (KM hi6) oG h0 b0 f len fb oD th dF dH sr dL en mz dM hp cn dP dS fk fp ka kn sv dK df dh dl dm dp ds dk dO dov oM lm mem pl ll oSl aBl aPl aLl gl Pl Ll oSn aBn aPn aLn gn Pn Ln hsn oSa aBa aPa aLa mza cna hsa ga Pa La mema pla lla hpa oSe aBe aPe aLe mze cne hse ge Pe Le meme ple lle hpe hF hf hen hmlo hdh hram hdl hmn hdm hst hPn hLn hdp hds hhsn hma hsta hPa hLa hhsa hme hste hPe hLe hhse hsv hk1 hk2 hsm H locs hP hD hS ls hl
      · exact law_11_M hL C0 hK hN (6 * k9) k9 hi6 hk9 (KM hi6) oG h0 b0 f len fb oD th dF dH sr dL en mz dM hp cn dP dS fk fp ka kn sv dK df dh dl dm dp ds dk dO dov oM lm mem pl ll oSl aBl aPl aLl gl Pl Ll oSn aBn aPn aLn gn Pn Ln hsn oSa aBa aPa aLa mza cna hsa ga Pa La mema pla lla hpa oSe aBe aPe aLe mze cne hse ge Pe Le meme ple lle hpe hF hf hen hmlo hdh hram hdl hmn hdm hst hPn hLn hdp hds hhsn hma hsta hPa hLa hhsa hme hste hPe hLe hhse hsv hk1 hk2 hsm H locs hP hD hS ls hl
      · exact law_12_M hL C0 hK hN (6 * k9) k9 hi6 hk9 (KM hi6) oG h0 b0 f len fb oD th dF dH sr dL en mz dM hp cn dP dS fk fp ka kn sv dK df dh dl dm dp ds dk dO dov oM lm mem pl ll oSl aBl aPl aLl gl Pl Ll oSn aBn aPn aLn gn Pn Ln hsn oSa aBa aPa aLa mza cna hsa ga Pa La mema pla lla hpa oSe aBe aPe aLe mze cne hse ge Pe Le meme ple lle hpe hF hf hen hmlo hdh hram hdl hmn hdm hst hPn hLn hdp hds hhsn hma hsta hPa hLa hhsa hme hste hPe hLe hhse hsv hk1 hk2 hsm H locs hP hD hS ls hl
      · exact law_13_M hL C0 hK hN (6 * k9) k9 hi6 hk9 (KM hi6) oG h0 b0 f len fb oD th dF dH sr dL en mz dM hp cn dP dS fk fp ka kn sv dK df dh dl dm dp ds dk dO dov oM lm mem pl ll oSl aBl aPl aLl gl Pl Ll oSn aBn aPn aLn gn Pn Ln hsn oSa aBa aPa aLa mza cna hsa ga Pa La mema pla lla hpa oSe aBe aPe aLe mze cne hse ge Pe Le meme ple lle hpe hF hf hen hmlo hdh hram hdl hmn hdm hst hPn hLn hdp hds hhsn hma hsta hPa hLa hhsa hme hste hPe hLe hhse hsv hk1 hk2 hsm H locs hP hD hS ls hl
      · exact law_14_M hL C0 hK hN (6 * k9) k9 hi6 hk9 (KM hi6) oG h0 b0 f len fb oD th dF dH sr dL en mz dM hp cn dP dS fk fp ka kn sv dK df dh dl dm dp ds dk dO dov oM lm mem pl ll oSl aBl aPl aLl gl Pl Ll oSn aBn aPn aLn gn Pn Ln hsn oSa aBa aPa aLa mza cna hsa ga Pa La mema pla lla hpa oSe aBe aPe aLe mze cne hse ge Pe Le meme ple lle hpe hF hf hen hmlo hdh hram hdl hmn hdm hst hPn hLn hdp hds hhsn hma hsta hPa hLa hhsa hme hste hPe hLe hhse hsv hk1 hk2 hsm H locs hP hD hS ls hl
      · exact law_15_M hL C0 hK hN (6 * k9) k9 hi6 hk9 (KM hi6) oG h0 b0 f len fb oD th dF dH sr dL en mz dM hp cn dP dS fk fp ka kn sv dK df dh dl dm dp ds dk dO dov oM lm mem pl ll oSl aBl aPl aLl gl Pl Ll oSn aBn aPn aLn gn Pn Ln hsn oSa aBa aPa aLa mza cna hsa ga Pa La mema pla lla hpa oSe aBe aPe aLe mze cne hse ge Pe Le meme ple lle hpe hF hf hen hmlo hdh hram hdl hmn hdm hst hPn hLn hdp hds hhsn hma hsta hPa hLa hhsa hme hste hPe hLe hhse hsv hk1 hk2 hsm H locs hP hD hS ls hl
      · exact law_16_M hL C0 hK hN (6 * k9) k9 hi6 hk9 (KM hi6) oG h0 b0 f len fb oD th dF dH sr dL en mz dM hp cn dP dS fk fp ka kn sv dK df dh dl dm dp ds dk dO dov oM lm mem pl ll oSl aBl aPl aLl gl Pl Ll oSn aBn aPn aLn gn Pn Ln hsn oSa aBa aPa aLa mza cna hsa ga Pa La mema pla lla hpa oSe aBe aPe aLe mze cne hse ge Pe Le meme ple lle hpe hF hf hen hmlo hdh hram hdl hmn hdm hst hPn hLn hdp hds hhsn hma hsta hPa hLa hhsa hme hste hPe hLe hhse hsv hk1 hk2 hsm H locs hP hD hS ls hl
      · exact law_17_M hL C0 hK hN (6 * k9) k9 hi6 hk9 (KM hi6) oG h0 b0 f len fb oD th dF dH sr dL en mz dM hp cn dP dS fk fp ka kn sv dK df dh dl dm dp ds dk dO dov oM lm mem pl ll oSl aBl aPl aLl gl Pl Ll oSn aBn aPn aLn gn Pn Ln hsn oSa aBa aPa aLa mza cna hsa ga Pa La mema pla lla hpa oSe aBe aPe aLe mze cne hse ge Pe Le meme ple lle hpe hF hf hen hmlo hdh hram hdl hmn hdm hst hPn hLn hdp hds hhsn hma hsta hPa hLa hhsa hme hste hPe hLe hhse hsv hk1 hk2 hsm H locs hP hD hS ls hl
      · exact law_18_M hL C0 hK hN (6 * k9) k9 hi6 hk9 (KM hi6) oG h0 b0 f len fb oD th dF dH sr dL en mz dM hp cn dP dS fk fp ka kn sv dK df dh dl dm dp ds dk dO dov oM lm mem pl ll oSl aBl aPl aLl gl Pl Ll oSn aBn aPn aLn gn Pn Ln hsn oSa aBa aPa aLa mza cna hsa ga Pa La mema pla lla hpa oSe aBe aPe aLe mze cne hse ge Pe Le meme ple lle hpe hF hf hen hmlo hdh hram hdl hmn hdm hst hPn hLn hdp hds hhsn hma hsta hPa hLa hhsa hme hste hPe hLe hhse hsv hk1 hk2 hsm H locs hP hD hS ls hl
      · exact law_19_M hL C0 hK hN hfl sa hXp (6 * k9) k9 hi6 hk9 (KM hi6) oG h0 b0 f len fb oD th dF dH sr dL en mz dM hp cn dP dS fk fp ka kn sv dK df dh dl dm dp ds dk dO dov oM lm mem pl ll oSl aBl aPl aLl gl Pl Ll oSn aBn aPn aLn gn Pn Ln hsn oSa aBa aPa aLa mza cna hsa ga Pa La mema pla lla hpa oSe aBe aPe aLe mze cne hse ge Pe Le meme ple lle hpe hF hf hen hmlo hdh hram hdl hmn hdm hst hPn hLn hdp hds hhsn hma hsta hPa hLa hhsa hme hste hPe hLe hhse hsv hk1 hk2 hsm H locs hP hD hS ls hl
      · exact W.widen (k := 200 + (k9 + 1)) (n := 80000 + 6 * (k9 + 1)) (Nat.add_le_add_left (Nat.le_succ k9) _) (Nat.add_le_add_left (Nat.mul_le_mul_left 6 (Nat.le_succ k9)) _) (KM hi6 _ _ _ hh)
