/-! what each call answers and does: the words that the class and the reference are both held against -/
abbrev NOTH : Int64 := -9223372036854775808
abbrev isW (w : Int32) : Prop := w.toInt = 1 ∨ w.toInt = 2 ∨ w.toInt = 4
abbrev inM (a : Int32) (k m : Nat) : Prop := 0 ≤ a.toInt ∧ a.toInt + (k : Int) ≤ (m : Int)
def feedR (len : Nat) : Int32 := if len + 20 ≤ 3000 then nI (len + 20) else -4
def feedL (len : Nat) : Nat := if len + 20 ≤ 3000 then len + 20 else len
def feedB (fb : Nat → Nat) (len : Nat) (a1 a2 a3 a4 a5 : Int32) : Nat → Nat := if len + 20 ≤ 3000 then up4 (up4 (up4 (up4 (up4 fb len a1) (len + 4) a2) (len + 8) a3) (len + 12) a4) (len + 16) a5 else fb
def fx (seed : Int32) : Nat → Int32
  | 0 => seed
  | k + 1 => fx seed k * nI 1103515245 + nI 12345
def fillX (fb : Nat → Nat) (len n : Nat) (seed : Int32) : Nat → Nat := fun q => if len ≤ q ∧ q < len + n then uB (fx seed (q - len + 1)) / 65536 % 256 else fb q
def fillR (len : Nat) (n : Int32) : Int32 := if ¬ (1 ≤ n.toInt ∧ n.toInt ≤ 3000) then -2 else if (len : Int) + n.toInt ≤ 3000 then nI (len + n.toInt.toNat) else -4
def fillL (len : Nat) (n : Int32) : Nat := if 1 ≤ n.toInt ∧ (len : Int) + n.toInt ≤ 3000 then len + n.toInt.toNat else len
def fillB (fb : Nat → Nat) (len : Nat) (n seed : Int32) : Nat → Nat := if 1 ≤ n.toInt ∧ (len : Int) + n.toInt ≤ 3000 then fillX fb len n.toInt.toNat seed else fb
abbrev wordC (len : Nat) (a : Int32) : Prop := 0 ≤ a.toInt ∧ a.toInt % 4 = 0 ∧ a.toInt + 4 ≤ (len : Int)
def wordR (len : Nat) (a : Int32) : Int32 := if wordC len a then 1 else -1
def wordB (fb : Nat → Nat) (len : Nat) (a v : Int32) : Nat → Nat := if wordC len a then up4 fb a.toInt.toNat v else fb
abbrev cutC (len : Nat) (n : Int32) : Prop := 0 ≤ n.toInt ∧ n.toInt ≤ (len : Int)
def cutR (len : Nat) (n : Int32) : Int32 := if cutC len n then nI (len - n.toInt.toNat) else -1
def cutL (len : Nat) (n : Int32) : Nat := if cutC len n then n.toInt.toNat else len
def cutB (fb : Nat → Nat) (len : Nat) (n : Int32) : Nat → Nat := if cutC len n then part fb n.toInt.toNat else fb
def sumR (fb : Nat → Nat) (len : Nat) : Int64 := if len < 36 then NOTH else lN (sumW fb ((len + 3) / 4) % 4294967296)
def toldR (lm : Nat → Nat) (w : Int32) (mz hs cn sv fk : Nat) (fp : Int32) (sr : Nat) : Int64 := if ¬ (0 ≤ w.toInt ∧ w.toInt ≤ 15) then NOTH else if w.toInt ≤ 8 then lN (fw lm (4 * w.toInt.toNat)) else tellV w.toInt.toNat mz hs cn sv fk fp sr
def readR (mem : Nat → Nat) (mz : Nat) (w a : Int32) : Int64 := if isW w ∧ inM a w.toInt.toNat mz then lN (vAt mem w.toInt.toNat a.toInt.toNat) else NOTH
def readK (mz fk : Nat) (w a : Int32) : Nat := if isW w ∧ ¬ inM a w.toInt.toNat mz then 1 else fk
def readF (mz : Nat) (fp w a : Int32) : Int32 := if isW w ∧ ¬ inM a w.toInt.toNat mz then a else fp
def wrF (ram mz : Nat) (w a : Int32) : Nat := if a.toInt < (ram : Int) then 2 else if inM a w.toInt.toNat mz then 0 else 3
def writeR (ram mz : Nat) (w a : Int32) : Int32 := if ¬ isW w then -2 else if wrF ram mz w a = 0 then 1 else -3
def writeM (mem : Nat → Nat) (ram mz : Nat) (w a v : Int32) : Nat → Nat := if isW w ∧ wrF ram mz w a = 0 then pAtP mem w.toInt.toNat 0 a.toInt.toNat v else mem
def writeK (ram mz fk : Nat) (w a : Int32) : Nat := if isW w ∧ ¬ wrF ram mz w a = 0 then wrF ram mz w a else fk
def writeF (ram mz : Nat) (fp w a : Int32) : Int32 := if isW w ∧ ¬ wrF ram mz w a = 0 then a else fp
abbrev rszC (en cn : Nat) (n : Int32) : Prop := n.toInt % 256 = 0 ∧ (en : Int) ≤ n.toInt ∧ n.toInt ≤ 4096 ∧ cn = 0
def rszR (en cn : Nat) (n : Int32) : Int32 := if rszC en cn n then 0 else 1
def rszZ (en cn mz : Nat) (n : Int32) : Nat := if rszC en cn n then n.toInt.toNat else mz
def rszM (mem : Nat → Nat) (en cn : Nat) (n : Int32) : Nat → Nat := if rszC en cn n then cutM mem n.toInt.toNat else mem
abbrev blkC (pl ll : Nat → Nat) (mz cn hp : Nat) (n : Int32) : Prop := 1 ≤ n.toInt ∧ cn < 16 ∧ blkX pl ll mz cn hp n.toInt.toNat + n.toInt.toNat ≤ 8192
def blkR (pl ll : Nat → Nat) (mz cn hp : Nat) (n : Int32) : Int32 := if n.toInt < 1 then -2 else if blkC pl ll mz cn hp n then nI (blkX pl ll mz cn hp n.toInt.toNat) else 0
def blkZ (pl ll : Nat → Nat) (mz cn hp : Nat) (n : Int32) : Nat := if blkC pl ll mz cn hp n then max mz (rup (blkX pl ll mz cn hp n.toInt.toNat + n.toInt.toNat)) else mz
def blkN (pl ll : Nat → Nat) (mz cn hp : Nat) (n : Int32) : Nat := if blkC pl ll mz cn hp n then cn + 1 else cn
def blkH (pl ll : Nat → Nat) (mz cn hp : Nat) (n : Int32) : Nat := if blkC pl ll mz cn hp n then blkS cn mz hp else hp
def blkPl (pl ll : Nat → Nat) (mz cn hp : Nat) (n : Int32) : Nat → Nat := if blkC pl ll mz cn hp n then insN pl (blkI pl ll mz cn hp n.toInt.toNat) (blkX pl ll mz cn hp n.toInt.toNat) else pl
def blkLl (pl ll : Nat → Nat) (mz cn hp : Nat) (n : Int32) : Nat → Nat := if blkC pl ll mz cn hp n then insN ll (blkI pl ll mz cn hp n.toInt.toNat) n.toInt.toNat else ll
/-- the first block at a: fuel, index -/
def fI (pl : Nat → Nat) (a : Int32) : Nat → Nat → Nat
  | 0, i => i
  | f + 1, i => if nI (pl i) = a then i else fI pl a f (i + 1)
theorem fI_hit {pl : Nat → Nat} {a : Int32} {i : Nat} : ∀ (f k : Nat), k ≤ i → i < k + f → nI (pl i) = a → (∀ q, q < i → ¬ nI (pl q) = a) → fI pl a f k = i
  | 0, k, h1, h2, _, _ => absurd h2 (by omega)
  | f + 1, k, h1, h2, h3, h4 => by
    show (if _ then _ else _) = _
    by_cases z : k = i
    · subst z; rw [if_pos h3]
    · rw [if_neg (h4 k (by omega))]; exact fI_hit f (k + 1) (by omega) (by omega) h3 h4
theorem fI_none {pl : Nat → Nat} {a : Int32} : ∀ (f k : Nat), (∀ q, k ≤ q → q < k + f → ¬ nI (pl q) = a) → fI pl a f k = k + f
  | 0, k, _ => rfl
  | f + 1, k, h => by
    show (if _ then _ else _) = _
    rw [if_neg (h k (Nat.le_refl _) (by omega)), fI_none f (k + 1) (fun q h1 h2 => h q (by omega) (by omega))]
    omega
theorem fI_le {pl : Nat → Nat} {a : Int32} : ∀ (f k : Nat), k ≤ fI pl a f k ∧ fI pl a f k ≤ k + f
  | 0, k => ⟨Nat.le_refl _, Nat.le_refl _⟩
  | f + 1, k => by
    show k ≤ (if _ then _ else _) ∧ (if _ then _ else _) ≤ _
    split
    · omega
    · have := fI_le (pl := pl) (a := a) f (k + 1)
      omega
def freR (pl ll : Nat → Nat) (cn : Nat) (a : Int32) : Int32 := if fI pl a cn 0 < cn then nI (ll (fI pl a cn 0)) else -1
def freZ (pl : Nat → Nat) (mz cn hp : Nat) (a : Int32) : Nat := if fI pl a cn 0 < cn ∧ cn = 1 then hp else mz
def freM (pl mem : Nat → Nat) (cn hp : Nat) (a : Int32) : Nat → Nat := if fI pl a cn 0 < cn ∧ cn = 1 then cutM mem hp else mem
def freN (pl : Nat → Nat) (cn : Nat) (a : Int32) : Nat := if fI pl a cn 0 < cn then cn - 1 else cn
def freL (pl q : Nat → Nat) (cn : Nat) (a : Int32) : Nat → Nat := if fI pl a cn 0 < cn then remN q (fI pl a cn 0) else q
abbrev proC (a n : Int32) : Prop := 0 ≤ a.toInt ∧ a.toInt ≤ 8192 ∧ 0 ≤ n.toInt ∧ n.toInt ≤ 8192
def proR (a n : Int32) : Int32 := if proC a n then 1 else -2
def proA (ka : Nat) (a n : Int32) : Nat := if proC a n then a.toInt.toNat else ka
def proN (kn : Nat) (a n : Int32) : Nat := if proC a n then n.toInt.toNat else kn
abbrev chgC (mz : Nat) (a : Int32) : Prop := 0 ≤ a.toInt ∧ a.toInt < ((mz / 256 : Nat) : Int)
/-- is another byte on the page -/
def pgD (mem lm : Nat → Nat) (pg : Nat) : Nat → Nat
  | 0 => 0
  | i + 1 => if ¬ mem (pg * 256 + i) = lm (pg * 256 + i) then 1 else pgD mem lm pg i
theorem pgD_1 {mem lm : Nat → Nat} {pg i : Nat} (h : ¬ mem (pg * 256 + i) = lm (pg * 256 + i)) : ∀ n, i < n → pgD mem lm pg n = 1
  | 0, hn => absurd hn (by omega)
  | n + 1, hn => by
    show (if _ then _ else _) = _
    split
    · rfl
    · rename_i z
      by_cases y : i = n
      · subst y; exact absurd h z
      · exact pgD_1 h n (by omega)
theorem pgD_0 {mem lm : Nat → Nat} {pg : Nat} : ∀ n, (∀ i, i < n → mem (pg * 256 + i) = lm (pg * 256 + i)) → pgD mem lm pg n = 0
  | 0, _ => rfl
  | n + 1, h => by
    show (if _ then _ else _) = _
    rw [if_neg (fun z => z (h n (by omega)))]
    exact pgD_0 n (fun i hi => h i (by omega))
def chgR (mem lm : Nat → Nat) (mz : Nat) (a : Int32) : Int32 := if chgC mz a then nI (pgD mem lm a.toInt.toNat 256) else -1
def hsh (mem : Nat → Nat) (j : Nat) : Nat → Int32
  | 0 => 0
  | i + 1 => nI 31 * hsh mem j i + nI (mem (j + i))
def hshR (mem : Nat → Nat) (mz : Nat) (a n : Int32) : Int32 := if n.toInt < 0 then -2 else if inM a n.toInt.toNat mz then hsh mem a.toInt.toNat n.toInt.toNat else -1
theorem fill_s {fb : Nat → Nat} {len i : Nat} {seed : Int32} : va_up (fillX fb len i seed) (len + i) (uB (((fx seed (i + 1)).toUInt32 >>> ((nI 16).toUInt32 &&& Int32.toUInt32 31)).toInt32) % 256) = fillX fb len (i + 1) seed := by
  funext q
  rw [uB_u _ (nI 16) 16 (by decide)]
  by_cases z : q = len + i
  · subst z; rw [va_up_self]; unfold fillX; rw [if_pos (by omega), show len + i - len + 1 = i + 1 by omega]
  · rw [va_up_ne _ _ z]; unfold fillX
    by_cases y : len ≤ q ∧ q < len + i
    · rw [if_pos y, if_pos (by omega)]
    · rw [if_neg y, if_neg (by omega)]
theorem fill_0 {fb : Nat → Nat} {len : Nat} {seed : Int32} : fillX fb len 0 seed = fb := by
  funext q; unfold fillX; rw [if_neg (by omega)]
theorem fOk_cut {f : Nat → Int32} {len n : Nat} {fb : Nat → Nat} (h : fOk f len fb) (hn : n ≤ len) : fOk f n (part fb n) := by
  obtain ⟨h1, h2, h4, h5⟩ := h
  refine ⟨by omega, fun j => ?_, fun j hj => ?_, fun j hj => ?_⟩
  · unfold part; split
    · exact h2 j
    · decide
  · unfold part; rw [if_neg (by omega)]
  · unfold part; rw [if_pos hj]; exact h5 j (by omega)
theorem mOk_00 : mOk (fun _ => 0) 0 (fun _ => 0) := ⟨by decide, fun _ => (by decide : 0 < 256), fun _ _ => rfl, fun _ _ => rfl⟩
