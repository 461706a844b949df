/-- the links between nest mates -/
def nestW : List Cond := [.fieldLinkNest RX3 30 "GlulxHeads$StoryFile" "length" "I" "GlulxHeads", .fieldLinkNest RX1 44 "GlulxHeads$StoryFile" "length" "I" "GlulxHeads", .fieldLinkNest RX0 65 "GlulxHeads$State" "size" "I" "GlulxHeads", .fieldLinkNest RX3 97 "GlulxHeads$State" "size" "I" "GlulxHeads", .fieldLinkNest RX0 71 "GlulxHeads$State" "blockCount" "I" "GlulxHeads", .fieldLinkNest RX3 100 "GlulxHeads$State" "blockCount" "I" "GlulxHeads", .fieldLinkNest RX0 68 "GlulxHeads$State" "heapStart" "I" "GlulxHeads", .fieldLinkNest RX3 62 "GlulxHeads$Machine" "loaded" "LGlulxHeads$State;" "GlulxHeads", .fieldLinkNest RX3 79 "GlulxHeads$Machine" "now" "LGlulxHeads$State;" "GlulxHeads", .fieldLinkNest RX3 129 "GlulxHeads$Machine" "savedCount" "I" "GlulxHeads", .fieldLinkNest RX3 116 "GlulxHeads$Machine" "keepFrom" "I" "GlulxHeads", .fieldLinkNest RX3 119 "GlulxHeads$Machine" "keepTo" "I" "GlulxHeads", .methodLinkNest RX3 11 yX2_init "GlulxHeads", .methodLinkNest RX3 22 yX2_hasRoomFor "GlulxHeads", .methodLinkNest RX3 26 yX2_appendWord "GlulxHeads", .methodLinkNest RX3 35 yX2_appendByte "GlulxHeads", .methodLinkNest RX3 38 yX2_hasWholeWord "GlulxHeads", .methodLinkNest RX3 41 yX2_putWord "GlulxHeads", .methodLinkNest RX3 45 yX2_judge "GlulxHeads", .methodLinkNest RX3 51 yX2_rightSum "GlulxHeads", .methodLinkNest RX3 57 yX0_init "GlulxHeads", .methodLinkNest RX0 11 yX1_init "GlulxHeads", .methodLinkNest RX3 58 yX0_begin "GlulxHeads", .methodLinkNest RX0 47 yX2_wordAt "GlulxHeads", .methodLinkNest RX0 53 yX1_takeFile "GlulxHeads", .methodLinkNest RX1 49 yX2_byteAt "GlulxHeads", .methodLinkNest RX0 57 yX1_copyFrom "GlulxHeads", .methodLinkNest RX0 61 yX2_rightSum "GlulxHeads", .methodLinkNest RX3 66 yX1_valueAt "GlulxHeads", .methodLinkNest RX3 72 yX0_tell "GlulxHeads", .methodLinkNest RX3 82 yX1_holds "GlulxHeads", .methodLinkNest RX3 86 yX0_noteFault "GlulxHeads", .methodLinkNest RX3 89 yX0_writeFault "GlulxHeads", .methodLinkNest RX0 76 yX1_valueAt "GlulxHeads", .methodLinkNest RX0 80 yX1_holds "GlulxHeads", .methodLinkNest RX3 93 yX1_putValue "GlulxHeads", .methodLinkNest RX3 103 yX1_setSize "GlulxHeads", .methodLinkNest RX3 106 yX1_addBlock "GlulxHeads", .methodLinkNest RX3 110 yX1_blockIndexAt "GlulxHeads", .methodLinkNest RX3 113 yX1_removeBlock "GlulxHeads", .methodLinkNest RX3 122 yX0_goBackTo "GlulxHeads", .methodLinkNest RX0 84 yX1_copyAround "GlulxHeads", .methodLinkNest RX3 126 yX0_keepState "GlulxHeads", .methodLinkNest RX3 132 yX0_takeStateBack "GlulxHeads", .methodLinkNest RX3 135 yX0_differsOnPage "GlulxHeads", .methodLinkNest RX0 100 yX1_byteAt "GlulxHeads", .methodLinkNest RX3 138 yX1_byteAt "GlulxHeads"]
def NB (U : State) : Prop := ∀ w ∈ nestW, va_Nw w U
def nestOk (w : Cond) : Bool := match w with
  | .fieldLinkNest _ _ _ _ _ _ => true
  | .methodLinkNest _ _ _ _ => true
  | _ => false
theorem nestW_ok : nestW.all nestOk = true := by decide +kernel
theorem NB.warm {s U : State} (hW : s.WarmedH U.vm) (h : NB s) : NB U := by
  intro w hw
  have h1 := List.all_eq_true.mp nestW_ok w hw
  have h2 := h w hw
  cases w <;> first | (exact va_Nw.warmF hW h2) | (exact va_Nw.warmM hW h2) | (exact absurd h1 (by simp [nestOk]))
theorem NB.same {s U : State} (hv : s.vm = U.vm) (h : NB s) : NB U := by
  intro w hw
  have h1 := List.all_eq_true.mp nestW_ok w hw
  have h2 := h w hw
  cases w <;> first | (exact va_Nw.same rfl hv h2) | (exact absurd h1 (by simp [nestOk]))
abbrev tyL (cB cI cJ : ClassId) : List (ClassId × FieldType) := [(cB, .byte), (cI, .int), (cJ, .long)]
/-- a method's start: its cells, the tables, the nest's links -/
def wPre (dC : Nat → ClassId) (dI : Nat → Nat → Nat) (cB cI cJ : ClassId) (sz : Nat) (ws : va_W) (U : State) : Prop := U.heap.size = sz ∧ va_P (dC, dI) vwCl ws U.heap ∧ va_K (dC, dI) vwCl (tyL cB cI cJ) U ∧ va_D (fun _ => True) ws ∧ NB U
/-- a method's end: its cells -/
def wPost (dC : Nat → ClassId) (dI : Nat → Nat → Nat) (A : Nat → Prop) (ws : va_W) (t : State) : Prop := va_P (dC, dI) vwCl ws t.heap ∧ va_D A ws
theorem wBlind {av : List Value} {dC : Nat → ClassId} {dI : Nat → Nat → Nat} {cB cI cJ : ClassId} {sz : Nat} {ws : va_W} : FrameBlind (va_Pc av (wPre dC dI cB cI cJ sz ws)) := fun a U g mk q => by
  obtain ⟨q0, q1, qP, qK, qD, qN⟩ := q
  exact ⟨q0, q1, qP, va_K.moved (u := U) (U := U.calling g mk a) (Vm.Alike.refl U.vm) qK, qD, NB.same (s := U) (U := U.calling g mk a) rfl qN⟩
theorem wGo {av : List Value} {dC : Nat → ClassId} {dI : Nat → Nat → Nat} {cB cI cJ : ClassId} {ws : va_W} {s : State} {H : Heap} {A : Nat → Prop} (hK : va_K (dC, dI) vwCl (tyL cB cI cJ) s) (hP : va_P (dC, dI) vwCl ws H) (hD : va_D A ws) (hN : NB s) : ∀ U : State, U.heap = H → s.WarmedH U.vm → va_Pc av (wPre dC dI cB cI cJ H.size ws) av.toArray U :=
  fun U hU hW => ⟨rfl, by rw [hU], by rw [hU]; exact hP, va_K.moved hW.alike hK, hD.weaken (fun _ _ _ _ => trivial), NB.warm hW hN⟩
