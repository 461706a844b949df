theorem wrF_le (ram mz : Nat) (w a : Int32) : wrF ram mz w a ≤ 3 := by unfold wrF; (repeat' split) <;> omega
theorem wrF_0 {ram mz : Nat} {w a : Int32} (h : wrF ram mz w a = 0) : (ram : Int) ≤ a.toInt ∧ inM a w.toInt.toNat mz := by
  unfold wrF at h
  by_cases z : a.toInt < (ram : Int)
  · rw [if_pos z] at h; exact absurd h (by decide)
  · rw [if_neg z] at h
    by_cases y : inM a w.toInt.toNat mz
    · exact ⟨by omega, y⟩
    · rw [if_neg y] at h; exact absurd h (by decide)
theorem pgD_le {mem lm : Nat → Nat} {pg : Nat} : ∀ n, pgD mem lm pg n ≤ 1
  | 0 => Nat.zero_le _
  | n + 1 => by
    show (if _ then _ else _) ≤ _
    split
    · exact Nat.le_refl _
    · exact pgD_le n
theorem blkS_hs {cn mz hp : Nat} : blkS cn mz (if cn = 0 then 0 else hp) = blkS cn mz hp := by
  unfold blkS; split
  · rfl
  · rfl
theorem blk_conv {pl ll mem : Nat → Nat} {mz cn hs hp n : Nat} {r : Int32} {g2 : Nat → Int32} {m2 cn2 hs2 : Nat} {P2 L2 : Nat → Int32} (hh : hs = (if cn = 0 then 0 else hp)) (hn : 1 ≤ n) (hn2 : n < 2147483648) (h : blkPost pl ll mem mz cn hs n r g2 m2 cn2 hs2 P2 L2) :
    r = blkR pl ll mz cn hp (nI n) ∧ m2 = blkZ pl ll mz cn hp (nI n) ∧ cn2 = blkN pl ll mz cn hp (nI n) ∧ hs2 = (if cn2 = 0 then 0 else blkH pl ll mz cn hp (nI n)) ∧ mOk g2 m2 mem ∧ bOk P2 cn2 (blkPl pl ll mz cn hp (nI n)) ∧ bOk L2 cn2 (blkLl pl ll mz cn hp (nI n)) := by
  have eS : blkS cn mz hs = blkS cn mz hp := by rw [hh]; exact blkS_hs
  have eI : blkI pl ll mz cn hs n = blkI pl ll mz cn hp n := by unfold blkI; rw [eS]
  have eX : blkX pl ll mz cn hs n = blkX pl ll mz cn hp n := by unfold blkX; rw [eS, eI]
  have eN : (nI n).toInt = (n : Int) := nI_toInt hn2
  unfold blkPost at h
  rw [eX, eI, eS] at h
  unfold blkR blkZ blkN blkH blkPl blkLl
  rw [if_neg (show ¬ (nI n).toInt < 1 by omega)]
  rcases h with ⟨h1, h2, h3, h4, h5, h6, h7, h8, h9⟩ | ⟨h1, h3, h4, h5, h6, h7, h8, h9⟩
  · have hc : blkC pl ll mz cn hp (nI n) := by
      show 1 ≤ (nI n).toInt ∧ cn < 16 ∧ blkX pl ll mz cn hp (nI n).toInt.toNat + (nI n).toInt.toNat ≤ 8192
      rw [eN, Int.toNat_natCast]; exact ⟨by omega, h1, h2⟩
    simp only [if_pos hc, eN, Int.toNat_natCast]
    subst h5
    exact ⟨h3, h4, by trivial, by rw [if_neg (by omega)]; exact h6, h7, h8, h9⟩
  · have hc : ¬ blkC pl ll mz cn hp (nI n) := by
      intro z
      have z2 : 1 ≤ (nI n).toInt ∧ cn < 16 ∧ blkX pl ll mz cn hp (nI n).toInt.toNat + (nI n).toInt.toNat ≤ 8192 := z
      rw [eN, Int.toNat_natCast] at z2
      exact h1 z2.2
    simp only [if_neg hc]
    subst h5; subst h4
    exact ⟨h3, by trivial, by trivial, by rw [h6, hh], h7, h8, h9⟩
theorem rem_bOk {P P2 : Nat → Int32} {pl : Nat → Nat} {cn ix : Nat} (hP : bOk P cn pl) (hw : ∀ q, q < cn - 1 → P2 q = if q < ix then P q else P (q + 1)) : bOk P2 (cn - 1) (remN pl ix) := by
  intro i hi
  rw [hw i hi]; unfold remN
  by_cases z : i < ix
  · rw [if_pos z, if_pos z]; exact hP i (by omega)
  · rw [if_neg z, if_neg z]; exact hP (i + 1) (by omega)
theorem fre_ok {pl ll mem : Nat → Nat} {mz cn hs hp ix : Nat} {a r : Int32} {g2 : Nat → Int32} {m2 hs2 : Nat} {P P2 L L2 : Nat → Int32} (hP : bOk P cn pl) (hL : bOk L cn ll) (hh : hs = (if cn = 0 then 0 else hp)) (hix : ix < cn) (ha : P ix = a) (hq : ∀ q, q < ix → ¬ P q = a)
    (h : r = L ix ∧ m2 = (if cn = 1 then hs else mz) ∧ hs2 = (if cn = 1 then 0 else hs) ∧ mOk g2 m2 (if cn = 1 then cutM mem hs else mem) ∧ (∀ q, q < cn - 1 → P2 q = if q < ix then P q else P (q + 1)) ∧ (∀ q, q < cn - 1 → L2 q = if q < ix then L q else L (q + 1))) :
    r = freR pl ll cn a ∧ m2 = freZ pl mz cn hp a ∧ cn - 1 = freN pl cn a ∧ hs2 = (if freN pl cn a = 0 then 0 else hp) ∧ mOk g2 m2 (freM pl mem cn hp a) ∧ bOk P2 (cn - 1) (freL pl pl cn a) ∧ bOk L2 (cn - 1) (freL pl ll cn a) := by
  obtain ⟨h1, h2, h3, h4, h5, h6⟩ := h
  have e : fI pl a cn 0 = ix := fI_hit cn 0 (Nat.zero_le _) (by omega) (by rw [← hP ix hix]; exact ha) (fun q z => by rw [← hP q (by omega)]; exact hq q z)
  have eh : hs = hp := by rw [hh, if_neg (by omega)]
  unfold freR freZ freN freM freL
  simp only [e, if_pos hix]
  refine ⟨by rw [h1, hL ix hix], ?_, by trivial, ?_, ?_, rem_bOk hP h5, rem_bOk hL h6⟩
  · rw [h2, eh]
    by_cases z : cn = 1
    · rw [if_pos z, if_pos ⟨hix, z⟩]
    · rw [if_neg z, if_neg (fun y => z y.2)]
  · rw [h3, eh]
    by_cases z : cn = 1
    · rw [if_pos z, if_pos (by omega)]
    · rw [if_neg z, if_neg (by omega)]
  · by_cases z : cn = 1
    · rw [if_pos z] at h4; rw [if_pos ⟨hix, z⟩, ← eh]; exact h4
    · rw [if_neg z] at h4; rw [if_neg (fun y => z y.2)]; exact h4
theorem fre_no {pl ll mem : Nat → Nat} {mz cn hs hp : Nat} {a : Int32} {g : Nat → Int32} {P L : Nat → Int32} (hP : bOk P cn pl) (hL : bOk L cn ll) (hh : hs = (if cn = 0 then 0 else hp)) (hM : mOk g mz mem) (hq : ∀ q, q < cn → ¬ P q = a) :
    (-1 : Int32) = freR pl ll cn a ∧ mz = freZ pl mz cn hp a ∧ cn = freN pl cn a ∧ hs = (if freN pl cn a = 0 then 0 else hp) ∧ mOk g mz (freM pl mem cn hp a) ∧ bOk P cn (freL pl pl cn a) ∧ bOk L cn (freL pl ll cn a) := by
  have e : fI pl a cn 0 = 0 + cn := fI_none cn 0 (fun q _ z => by rw [← hP q (by omega)]; exact hq q (by omega))
  have e2 : ¬ fI pl a cn 0 < cn := by rw [e]; omega
  unfold freR freZ freN freM freL
  simp only [if_neg e2, if_neg (fun z : fI pl a cn 0 < cn ∧ cn = 1 => e2 z.1)]
  exact ⟨by trivial, by trivial, by trivial, hh, hM, hP, hL⟩
theorem verd_0 {fb : Nat → Nat} {len : Nat} (h : verd fb len = 0) : 36 ≤ len ∧ len = fw fb 12 ∧ fw fb 12 ≤ fw fb 16 ∧ fw fb 16 ≤ 4096 ∧ fw fb 16 % 256 = 0 ∧ fw fb 8 % 256 = 0 ∧ 256 ≤ fw fb 8 ∧ fw fb 8 ≤ fw fb 12 := by
  unfold verd vMarks vUse at h
  (repeat' split at h) <;> first | (exact absurd h (by decide)) | omega | (exfalso; omega)
