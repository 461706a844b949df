/-- what holds of a state: its size and its heap by pages, its blocks below its size -/
def stI (mz cn : Nat) (pl ll : Nat → Nat) (hp : Nat) : Prop := mz % 256 = 0 ∧ mz ≤ 8192 ∧ hp % 256 = 0 ∧ hp ≤ 8192 ∧ cn ≤ 16 ∧ (∀ i, i < cn → pl i + ll i ≤ mz) ∧ (0 < cn → hp ≤ mz)
theorem stI_blk {mz cn : Nat} {pl ll : Nat → Nat} {hp : Nat} {n : Int32} (h : stI mz cn pl ll hp) : stI (blkZ pl ll mz cn hp n) (blkN pl ll mz cn hp n) (blkPl pl ll mz cn hp n) (blkLl pl ll mz cn hp n) (blkH pl ll mz cn hp n) := by
  obtain ⟨h1, h2, h3, h4, h5, h6, h7⟩ := h
  by_cases hc : blkC pl ll mz cn hp n
  · unfold blkZ blkN blkPl blkLl blkH
    simp only [if_pos hc]
    have hc2 : 1 ≤ n.toInt ∧ cn < 16 ∧ blkX pl ll mz cn hp n.toInt.toNat + n.toInt.toNat ≤ 8192 := hc
    have hix : blkI pl ll mz cn hp n.toInt.toNat ≤ cn := by
      have := (gapI_le (pl := pl) (ll := ll) (n := n.toInt.toNat) cn 0 (blkS cn mz hp)).2
      unfold blkI; omega
    generalize blkI pl ll mz cn hp n.toInt.toNat = ix at *
    generalize blkX pl ll mz cn hp n.toInt.toNat = X at *
    generalize n.toInt.toNat = k at *
    have hs : blkS cn mz hp % 256 = 0 ∧ blkS cn mz hp ≤ mz := by
      unfold blkS; split
      · exact ⟨h1, Nat.le_refl _⟩
      · exact ⟨h3, h7 (by omega)⟩
    unfold rup
    refine ⟨by omega, by omega, hs.1, by omega, by omega, fun i hi => ?_, fun _ => by omega⟩
    unfold insN
    by_cases z : i < ix
    · rw [if_pos z, if_pos z]; have := h6 i (by omega); omega
    · rw [if_neg z, if_neg z]
      by_cases y : i = ix
      · rw [if_pos y, if_pos y]; omega
      · rw [if_neg y, if_neg y]; have := h6 (i - 1) (by omega); omega
  · unfold blkZ blkN blkPl blkLl blkH
    simp only [if_neg hc]
    exact ⟨h1, h2, h3, h4, h5, h6, h7⟩
theorem stI_fre {mz cn : Nat} {pl ll : Nat → Nat} {hp : Nat} {a : Int32} (h : stI mz cn pl ll hp) : stI (freZ pl mz cn hp a) (freN pl cn a) (freL pl pl cn a) (freL pl ll cn a) hp := by
  obtain ⟨h1, h2, h3, h4, h5, h6, h7⟩ := h
  unfold freZ freN freL
  by_cases hf : fI pl a cn 0 < cn
  · simp only [if_pos hf]
    by_cases h1c : cn = 1
    · rw [if_pos ⟨hf, h1c⟩]
      exact ⟨h3, h4, h3, h4, by omega, fun i hi => absurd hi (by omega), fun z => absurd z (by omega)⟩
    · rw [if_neg (fun z => h1c z.2)]
      refine ⟨h1, h2, h3, h4, by omega, fun i hi => ?_, fun _ => h7 (by omega)⟩
      unfold remN
      split
      · exact h6 i (by omega)
      · exact h6 (i + 1) (by omega)
  · simp only [if_neg hf, if_neg (fun z : fI pl a cn 0 < cn ∧ cn = 1 => hf z.1)]
    exact ⟨h1, h2, h3, h4, h5, h6, h7⟩
theorem stI_rsz {mz cn en : Nat} {pl ll : Nat → Nat} {hp : Nat} {n : Int32} (h : stI mz cn pl ll hp) : stI (rszZ en cn mz n) cn pl ll hp := by
  obtain ⟨h1, h2, h3, h4, h5, h6, h7⟩ := h
  unfold rszZ
  by_cases hc : rszC en cn n
  · rw [if_pos hc]
    obtain ⟨c1, c2, c3, c4⟩ := hc
    exact ⟨by omega, by omega, h3, h4, h5, fun i hi => absurd hi (by omega), fun z => absurd z (by omega)⟩
  · rw [if_neg hc]; exact ⟨h1, h2, h3, h4, h5, h6, h7⟩
theorem stI_rst {mz cn en : Nat} {pl ll : Nat → Nat} {hp : Nat} (h : stI mz cn pl ll hp) (h1 : en % 256 = 0) (h2 : en ≤ 4096) : stI en 0 pl ll hp := ⟨h1, by omega, h.2.2.1, h.2.2.2.1, by omega, fun i hi => absurd hi (Nat.not_lt_zero _), fun z => absurd z (Nat.lt_irrefl _)⟩
theorem readK_le {mz fk : Nat} {w a : Int32} (h : fk ≤ 3) : readK mz fk w a ≤ 3 := by unfold readK; split <;> omega
theorem writeK_le {ram mz fk : Nat} {w a : Int32} (h : fk ≤ 3) : writeK ram mz fk w a ≤ 3 := by
  unfold writeK
  have := wrF_le ram mz w a
  split <;> omega
theorem pro_kt {a n : Int32} {ka kn : Nat} : (if proC a n then a.toInt.toNat + n.toInt.toNat else ka + kn) = proA ka a n + proN kn a n := by
  unfold proA proN; split <;> rfl
theorem proA_le {a n : Int32} {ka : Nat} (h : ka ≤ 8192) : proA ka a n ≤ 8192 := by
  unfold proA; split
  · rename_i z; obtain ⟨z1, z2, z3, z4⟩ := z; omega
  · exact h
theorem proN_le {a n : Int32} {kn : Nat} (h : kn ≤ 8192) : proN kn a n ≤ 8192 := by
  unfold proN; split
  · rename_i z; obtain ⟨z1, z2, z3, z4⟩ := z; omega
  · exact h
theorem bOk_cp {P P2 : Nat → Int32} {cn : Nat} {pl : Nat → Nat} (h : bOk P cn pl) (hc : cn ≤ 16) (hp : ∀ i, i < 16 → P2 i = P i) : bOk P2 cn pl := fun i hi => by rw [hp i (by omega)]; exact h i hi
theorem bOk_0 {P : Nat → Int32} {pl : Nat → Nat} : bOk P 0 pl := fun i hi => absurd hi (Nat.not_lt_zero _)
theorem kOk_keep {dk dk2 : Nat → Int32} {mz : Nat} {mem : Nat → Nat} {cn : Nat} {pl ll : Nat → Nat} {hp : Nat} (hm : mz ≤ 8192) (hc : cn ≤ 16) (h : kOk dk 0 mz mem cn pl ll hp) (he : ∀ j, j < 8232 → dk2 j = dk j) : kOk dk2 0 mz mem cn pl ll hp := by
  obtain ⟨h1, h2, h3, h4, h5, h6⟩ := h
  exact ⟨fun j hj => by rw [he _ (by omega)]; exact h1 j hj, by rw [he _ (by omega)]; exact h2, by rw [he _ (by omega)]; exact h3, by rw [he _ (by omega)]; exact h4, fun i hi => by rw [he _ (by omega)]; exact h5 i hi, fun i hi => by rw [he _ (by omega)]; exact h6 i hi⟩
theorem kOk_move {dk dk2 : Nat → Int32} {mz : Nat} {mem : Nat → Nat} {cn : Nat} {pl ll : Nat → Nat} {hp : Nat} (hm : mz ≤ 8192) (hc : cn ≤ 16) (h : kOk dk 1 mz mem cn pl ll hp) (he : ∀ j, j < 8232 → dk2 j = dk (8232 + j)) : kOk dk2 0 mz mem cn pl ll hp := by
  obtain ⟨h1, h2, h3, h4, h5, h6⟩ := h
  refine ⟨fun j hj => ?_, ?_, ?_, ?_, fun i hi => ?_, fun i hi => ?_⟩
  · rw [he _ (by omega), show 8232 + (8232 * 0 + j) = 8232 * 1 + j by omega]; exact h1 j hj
  · rw [he _ (by omega)]; exact h2
  · rw [he _ (by omega)]; exact h3
  · rw [he _ (by omega)]; exact h4
  · rw [he _ (by omega), show 8232 + (8232 * 0 + 8195 + 2 * i) = 8232 * 1 + 8195 + 2 * i by omega]; exact h5 i hi
  · rw [he _ (by omega), show 8232 + (8232 * 0 + 8196 + 2 * i) = 8232 * 1 + 8196 + 2 * i by omega]; exact h6 i hi
