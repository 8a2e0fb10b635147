section
-- ===== PART A: goes FIRST, ahead of the names: the tables' words, and 'selects' of the private methods out of them =====
/-- a private method of a class that the tables say can be made, by its rows of tables_1 -/
def lw_okq (q : MethodName × Nat) : Prop := (q.1.cls ≠ "java/lang/invoke/MethodHandle" ∧ q.1.cls ≠ "java/lang/invoke/VarHandle") ∧ Cond.instantiable q.1.cls q.2 ∈ tables_1 ∧ Cond.privateMethod q.1 ∈ tables_1 ∧ Cond.instanceMethod q.1 ∈ tables_1
theorem lw_p0 : lw_okq (⟨"BlackBars$Sheet", "namesUnder", "(LBlackBars$Bars;I)I"⟩, 9) := ⟨⟨by decide +kernel, by decide +kernel⟩, List.mem_of_getElem? (i := 175) (by decide +kernel), List.mem_of_getElem? (i := 267) (by decide +kernel), List.mem_of_getElem? (i := 268) (by decide +kernel)⟩
theorem lw_p1 : lw_okq (⟨"BlackBars$Sheet", "widthUnder", "(LBlackBars$Bars;I)I"⟩, 9) := ⟨⟨by decide +kernel, by decide +kernel⟩, List.mem_of_getElem? (i := 175) (by decide +kernel), List.mem_of_getElem? (i := 299) (by decide +kernel), List.mem_of_getElem? (i := 300) (by decide +kernel)⟩
theorem lw_p2 : lw_okq (⟨"BlackBars$Sheet", "hasBarAhead", "(I)Z"⟩, 9) := ⟨⟨by decide +kernel, by decide +kernel⟩, List.mem_of_getElem? (i := 175) (by decide +kernel), List.mem_of_getElem? (i := 320) (by decide +kernel), List.mem_of_getElem? (i := 321) (by decide +kernel)⟩
theorem lw_p3 : lw_okq (⟨"BlackBars", "hiddenWord", "(II)I"⟩, 7) := ⟨⟨by decide +kernel, by decide +kernel⟩, List.mem_of_getElem? (i := 14) (by decide +kernel), List.mem_of_getElem? (i := 360) (by decide +kernel), List.mem_of_getElem? (i := 361) (by decide +kernel)⟩
theorem lw_p4 : lw_okq (⟨"BlackBars$Text", "lettersAhead", "(I)I"⟩, 2) := ⟨⟨by decide +kernel, by decide +kernel⟩, List.mem_of_getElem? (i := 22) (by decide +kernel), List.mem_of_getElem? (i := 430) (by decide +kernel), List.mem_of_getElem? (i := 431) (by decide +kernel)⟩
theorem lw_p5 : lw_okq (⟨"BlackBars$Text", "wordsAhead", "(I)I"⟩, 2) := ⟨⟨by decide +kernel, by decide +kernel⟩, List.mem_of_getElem? (i := 22) (by decide +kernel), List.mem_of_getElem? (i := 437) (by decide +kernel), List.mem_of_getElem? (i := 438) (by decide +kernel)⟩
theorem lw_p6 : lw_okq (⟨"BlackBars$History", "moveOldestToEnd", "()V"⟩, 2) := ⟨⟨by decide +kernel, by decide +kernel⟩, List.mem_of_getElem? (i := 120) (by decide +kernel), List.mem_of_getElem? (i := 445) (by decide +kernel), List.mem_of_getElem? (i := 446) (by decide +kernel)⟩
theorem lw_p7 : lw_okq (⟨"BlackBars$History", "latest", "()LBlackBars$State;"⟩, 2) := ⟨⟨by decide +kernel, by decide +kernel⟩, List.mem_of_getElem? (i := 120) (by decide +kernel), List.mem_of_getElem? (i := 449) (by decide +kernel), List.mem_of_getElem? (i := 450) (by decide +kernel)⟩
theorem lw_p8 : lw_okq (⟨"BlackBars$Words", "beginWord", "()V"⟩, 5) := ⟨⟨by decide +kernel, by decide +kernel⟩, List.mem_of_getElem? (i := 55) (by decide +kernel), List.mem_of_getElem? (i := 487) (by decide +kernel), List.mem_of_getElem? (i := 488) (by decide +kernel)⟩
theorem lw_p9 : lw_okq (⟨"BlackBars$Words", "addLetter", "(I)V"⟩, 5) := ⟨⟨by decide +kernel, by decide +kernel⟩, List.mem_of_getElem? (i := 55) (by decide +kernel), List.mem_of_getElem? (i := 492) (by decide +kernel), List.mem_of_getElem? (i := 493) (by decide +kernel)⟩
theorem lw_p10 : lw_okq (⟨"BlackBars", "workOut", "()V"⟩, 7) := ⟨⟨by decide +kernel, by decide +kernel⟩, List.mem_of_getElem? (i := 14) (by decide +kernel), List.mem_of_getElem? (i := 497) (by decide +kernel), List.mem_of_getElem? (i := 498) (by decide +kernel)⟩
theorem lw_p11 : lw_okq (⟨"BlackBars$Forms", "formsAheadOf", "(I)I"⟩, 5) := ⟨⟨by decide +kernel, by decide +kernel⟩, List.mem_of_getElem? (i := 136) (by decide +kernel), List.mem_of_getElem? (i := 517) (by decide +kernel), List.mem_of_getElem? (i := 518) (by decide +kernel)⟩
theorem lw_p12 : lw_okq (⟨"BlackBars$Bars", "barWidth", "(IIII)I"⟩, 2) := ⟨⟨by decide +kernel, by decide +kernel⟩, List.mem_of_getElem? (i := 160) (by decide +kernel), List.mem_of_getElem? (i := 525) (by decide +kernel), List.mem_of_getElem? (i := 526) (by decide +kernel)⟩
theorem lw_p13 : lw_okq (⟨"BlackBars$Bars", "lastRankOfGroup", "(II)I"⟩, 2) := ⟨⟨by decide +kernel, by decide +kernel⟩, List.mem_of_getElem? (i := 160) (by decide +kernel), List.mem_of_getElem? (i := 537) (by decide +kernel), List.mem_of_getElem? (i := 538) (by decide +kernel)⟩
theorem lw_p14 : lw_okq (⟨"BlackBars", "addTextTo", "(LBlackBars$Words;)I"⟩, 7) := ⟨⟨by decide +kernel, by decide +kernel⟩, List.mem_of_getElem? (i := 14) (by decide +kernel), List.mem_of_getElem? (i := 572) (by decide +kernel), List.mem_of_getElem? (i := 573) (by decide +kernel)⟩
theorem lw_p15 : lw_okq (⟨"BlackBars$Words", "isWord", "(ILBlackBars$Text;)Z"⟩, 5) := ⟨⟨by decide +kernel, by decide +kernel⟩, List.mem_of_getElem? (i := 55) (by decide +kernel), List.mem_of_getElem? (i := 588) (by decide +kernel), List.mem_of_getElem? (i := 589) (by decide +kernel)⟩
def lw_privs_1 : List (MethodName × Nat) := [(⟨"BlackBars$Sheet", "namesUnder", "(LBlackBars$Bars;I)I"⟩, 9), (⟨"BlackBars$Sheet", "widthUnder", "(LBlackBars$Bars;I)I"⟩, 9), (⟨"BlackBars$Sheet", "hasBarAhead", "(I)Z"⟩, 9), (⟨"BlackBars", "hiddenWord", "(II)I"⟩, 7), (⟨"BlackBars$Text", "lettersAhead", "(I)I"⟩, 2), (⟨"BlackBars$Text", "wordsAhead", "(I)I"⟩, 2), (⟨"BlackBars$History", "moveOldestToEnd", "()V"⟩, 2), (⟨"BlackBars$History", "latest", "()LBlackBars$State;"⟩, 2), (⟨"BlackBars$Words", "beginWord", "()V"⟩, 5), (⟨"BlackBars$Words", "addLetter", "(I)V"⟩, 5), (⟨"BlackBars", "workOut", "()V"⟩, 7), (⟨"BlackBars$Forms", "formsAheadOf", "(I)I"⟩, 5), (⟨"BlackBars$Bars", "barWidth", "(IIII)I"⟩, 2), (⟨"BlackBars$Bars", "lastRankOfGroup", "(II)I"⟩, 2), (⟨"BlackBars", "addTextTo", "(LBlackBars$Words;)I"⟩, 7), (⟨"BlackBars$Words", "isWord", "(ILBlackBars$Text;)Z"⟩, 5)]
theorem lw_r1 : ∀ q ∈ lw_privs_1, lw_okq q := List.forall_mem_cons.mpr ⟨lw_p0, List.forall_mem_cons.mpr ⟨lw_p1, List.forall_mem_cons.mpr ⟨lw_p2, List.forall_mem_cons.mpr ⟨lw_p3, List.forall_mem_cons.mpr ⟨lw_p4, List.forall_mem_cons.mpr ⟨lw_p5, List.forall_mem_cons.mpr ⟨lw_p6, List.forall_mem_cons.mpr ⟨lw_p7, List.forall_mem_cons.mpr ⟨lw_p8, List.forall_mem_cons.mpr ⟨lw_p9, List.forall_mem_cons.mpr ⟨lw_p10, List.forall_mem_cons.mpr ⟨lw_p11, List.forall_mem_cons.mpr ⟨lw_p12, List.forall_mem_cons.mpr ⟨lw_p13, List.forall_mem_cons.mpr ⟨lw_p14, List.forall_mem_cons.mpr ⟨lw_p15, fun _ h => absurd h List.not_mem_nil⟩⟩⟩⟩⟩⟩⟩⟩⟩⟩⟩⟩⟩⟩⟩⟩
theorem lw_p16 : lw_okq (⟨"BlackBars", "dropFrom", "(LBlackBars$Words;I)I"⟩, 7) := ⟨⟨by decide +kernel, by decide +kernel⟩, List.mem_of_getElem? (i := 14) (by decide +kernel), List.mem_of_getElem? (i := 605) (by decide +kernel), List.mem_of_getElem? (i := 606) (by decide +kernel)⟩
def lw_privs_2 : List (MethodName × Nat) := [(⟨"BlackBars", "dropFrom", "(LBlackBars$Words;I)I"⟩, 7)]
theorem lw_r2 : ∀ q ∈ lw_privs_2, lw_okq q := List.forall_mem_cons.mpr ⟨lw_p16, fun _ h => absurd h List.not_mem_nil⟩
def lw_privs : List (MethodName × Nat) := lw_privs_1 ++ (lw_privs_2)
def lw_tbl : List Cond := k2_sels lw_privs ++ tables_1
theorem lw_privs_ok : ∀ q ∈ lw_privs, lw_okq q := by
  show ∀ q ∈ lw_privs_1 ++ (lw_privs_2), lw_okq q
  exact List.forall_mem_append.mpr ⟨lw_r1, lw_r2⟩
-- ===== end of PART A; then your names; then what follows =====
end
section
/-! ===== BEGIN words of one list among another's, by their places ===== -/
theorem goodIn_r {big : List Cond} (ws : List Cond) (ps : List Nat) (hp : ws = ps.filterMap (fun i => big[i]?)) (h : ws.all goodWord = true) : GoodIn big ws := by
  intro w hw
  have h1 := List.all_eq_true.mp h w hw
  rw [hp] at hw
  obtain ⟨i, -, hi⟩ := List.mem_filterMap.mp hw
  have hm : w ∈ big := by first | exact List.mem_of_getElem? hi | exact List.getElem?_mem hi
  exact ⟨hm, good_of_word h1⟩
theorem goodIn_app {big a b : List Cond} (ha : GoodIn big a) (hb : GoodIn big b) : GoodIn big (a ++ b) := fun w h => (List.mem_append.mp h).elim (ha w) (hb w)
theorem goodIn_ca {big a b : List Cond} {c : Cond} (ha : GoodIn big (c :: a)) (hb : GoodIn big b) : GoodIn big (c :: (a ++ b)) := fun w h => (List.mem_cons.mp h).elim (fun e => ha w (List.mem_cons.mpr (Or.inl e))) (fun h => (List.mem_append.mp h).elim (fun h => ha w (List.mem_cons.mpr (Or.inr h))) (hb w))
theorem goodIn_sub {big ws : List Cond} (hm : ∀ w ∈ ws, w ∈ big) (h : ws.all goodWord = true) : GoodIn big ws := fun w hw => ⟨hm w hw, good_of_word (List.all_eq_true.mp h w hw)⟩
/-! ===== END ===== -/

/-! ===== BEGIN printed: names, fields, word lists, decode rows ===== -/
def RX0 : String := "BlackBars$Bars"
def TX0 : u_T := fun k => match k with
  | 0 => ("BlackBars$Bars", "forms", "LBlackBars$Forms;", true)
  | _ => ("BlackBars$Bars", "widths", "LBlackBars$Row;", true)
def tyX0 : Nat → FieldType := fun k => match k with
  | 0 => .object "BlackBars$Forms"
  | _ => .object "BlackBars$Row"
abbrev wsX00 : List Cond := u_ws RX0 TX0 2
theorem nmX0 : ∀ a, a < 2 → ∀ b, b < 2 → a ≠ b → (TX0 a).2.1 ≠ (TX0 b).2.1 := by decide +kernel
theorem tyX0_ok : ∀ k, k < 2 → parseFieldDescriptor (TX0 k).2.2.1 = some (tyX0 k) := by decide +kernel
abbrev cX0_init : ByteArray := prog_2_method_1_code
def yX0_init : MethodName := ⟨RX0, "<init>", "(LBlackBars$Forms;)V"⟩
abbrev cX0_draw : ByteArray := prog_2_method_2_code
def yX0_draw : MethodName := ⟨RX0, "draw", "(III)V"⟩
abbrev cX0_barWidth : ByteArray := prog_2_method_3_code
def yX0_barWidth : MethodName := ⟨RX0, "barWidth", "(IIII)I"⟩
abbrev cX0_upToMultiple : ByteArray := prog_2_method_4_code
def yX0_upToMultiple : MethodName := ⟨RX0, "upToMultiple", "(II)I"⟩
abbrev cX0_lastRankOfGroup : ByteArray := prog_2_method_5_code
def yX0_lastRankOfGroup : MethodName := ⟨RX0, "lastRankOfGroup", "(II)I"⟩
abbrev cX0_widthOf : ByteArray := prog_2_method_6_code
def yX0_widthOf : MethodName := ⟨RX0, "widthOf", "(I)I"⟩
abbrev cX0_namesUnder : ByteArray := prog_2_method_7_code
def yX0_namesUnder : MethodName := ⟨RX0, "namesUnder", "(I)I"⟩
def RX1 : String := "BlackBars$Forms"
def TX1 : u_T := fun k => match k with
  | 0 => ("BlackBars$Forms", "widths", "LBlackBars$Row;", true)
  | 1 => ("BlackBars$Forms", "ranks", "LBlackBars$Row;", true)
  | 2 => ("BlackBars$Forms", "sortedWidths", "LBlackBars$Row;", true)
  | 3 => ("BlackBars$Forms", "formsOfName", "I", false)
  | _ => ("BlackBars$Forms", "size", "I", false)
def tyX1 : Nat → FieldType := fun k => match k with
  | 0 => .object "BlackBars$Row"
  | 1 => .object "BlackBars$Row"
  | 2 => .object "BlackBars$Row"
  | 3 => .int
  | _ => .int
abbrev wsX10 : List Cond := u_ws RX1 TX1 5
theorem nmX1 : ∀ a, a < 5 → ∀ b, b < 5 → a ≠ b → (TX1 a).2.1 ≠ (TX1 b).2.1 := by decide +kernel
theorem tyX1_ok : ∀ k, k < 5 → parseFieldDescriptor (TX1 k).2.2.1 = some (tyX1 k) := by decide +kernel
abbrev cX1_init : ByteArray := prog_3_method_1_code
def yX1_init : MethodName := ⟨RX1, "<init>", "()V"⟩
abbrev cX1_size : ByteArray := prog_3_method_2_code
def yX1_size : MethodName := ⟨RX1, "size", "()I"⟩
abbrev cX1_nameOf : ByteArray := prog_3_method_4_code
def yX1_nameOf : MethodName := ⟨RX1, "nameOf", "(I)I"⟩
abbrev cX1_endingOf : ByteArray := prog_3_method_5_code
def yX1_endingOf : MethodName := ⟨RX1, "endingOf", "(I)I"⟩
abbrev cX1_widthOf : ByteArray := prog_3_method_6_code
def yX1_widthOf : MethodName := ⟨RX1, "widthOf", "(I)I"⟩
abbrev cX1_rankOf : ByteArray := prog_3_method_7_code
def yX1_rankOf : MethodName := ⟨RX1, "rankOf", "(I)I"⟩
abbrev cX1_widthAtRank : ByteArray := prog_3_method_8_code
def yX1_widthAtRank : MethodName := ⟨RX1, "widthAtRank", "(I)I"⟩
abbrev cX1_measure : ByteArray := prog_3_method_9_code
def yX1_measure : MethodName := ⟨RX1, "measure", "(LBlackBars$State;)V"⟩
abbrev cX1_formsAheadOf : ByteArray := prog_3_method_10_code
def yX1_formsAheadOf : MethodName := ⟨RX1, "formsAheadOf", "(I)I"⟩
def RX2 : String := "BlackBars$History"
def TX2 : u_T := fun k => match k with
  | 0 => ("BlackBars$History", "states", "[LBlackBars$State;", true)
  | _ => ("BlackBars$History", "size", "I", false)
def tyX2 : Nat → FieldType := fun k => match k with
  | 0 => .array (.object "BlackBars$State")
  | _ => .int
abbrev wsX20 : List Cond := u_ws RX2 TX2 2
theorem nmX2 : ∀ a, a < 2 → ∀ b, b < 2 → a ≠ b → (TX2 a).2.1 ≠ (TX2 b).2.1 := by decide +kernel
theorem tyX2_ok : ∀ k, k < 2 → parseFieldDescriptor (TX2 k).2.2.1 = some (tyX2 k) := by decide +kernel
abbrev cX2_init : ByteArray := prog_4_method_1_code
def yX2_init : MethodName := ⟨RX2, "<init>", "()V"⟩
abbrev cX2_size : ByteArray := prog_4_method_2_code
def yX2_size : MethodName := ⟨RX2, "size", "()I"⟩
abbrev cX2_keep : ByteArray := prog_4_method_3_code
def yX2_keep : MethodName := ⟨RX2, "keep", "(LBlackBars$State;)V"⟩
abbrev cX2_latest : ByteArray := prog_4_method_5_code
def yX2_latest : MethodName := ⟨RX2, "latest", "()LBlackBars$State;"⟩
abbrev cX2_moveOldestToEnd : ByteArray := prog_4_method_6_code
def yX2_moveOldestToEnd : MethodName := ⟨RX2, "moveOldestToEnd", "()V"⟩
def RX3 : String := "BlackBars$Row"
def TX3 : u_T := fun k => match k with
  | _ => ("BlackBars$Row", "cells", "[I", true)
def tyX3 : Nat → FieldType := fun k => match k with
  | _ => .array .int
abbrev wsX30 : List Cond := u_ws RX3 TX3 1
theorem nmX3 : ∀ a, a < 1 → ∀ b, b < 1 → a ≠ b → (TX3 a).2.1 ≠ (TX3 b).2.1 := by decide +kernel
theorem tyX3_ok : ∀ k, k < 1 → parseFieldDescriptor (TX3 k).2.2.1 = some (tyX3 k) := by decide +kernel
abbrev cX3_init : ByteArray := prog_5_method_1_code
def yX3_init : MethodName := ⟨RX3, "<init>", "(I)V"⟩
abbrev cX3_init_ : ByteArray := prog_5_method_2_code
def yX3_init_ : MethodName := ⟨RX3, "<init>", "([I)V"⟩
abbrev cX3_at : ByteArray := prog_5_method_3_code
def yX3_at : MethodName := ⟨RX3, "at", "(I)I"⟩
abbrev cX3_put : ByteArray := prog_5_method_4_code
def yX3_put : MethodName := ⟨RX3, "put", "(II)V"⟩
abbrev cX3_copyFrom : ByteArray := prog_5_method_5_code
def yX3_copyFrom : MethodName := ⟨RX3, "copyFrom", "(LBlackBars$Row;)V"⟩
def RX4 : String := "BlackBars$Sheet"
def TX4 : u_T := fun k => match k with
  | 0 => ("BlackBars$Sheet", "state", "LBlackBars$State;", true)
  | 1 => ("BlackBars$Sheet", "forms", "LBlackBars$Forms;", true)
  | 2 => ("BlackBars$Sheet", "formsOfWords", "LBlackBars$Row;", true)
  | 3 => ("BlackBars$Sheet", "ownWidths", "LBlackBars$Row;", true)
  | 4 => ("BlackBars$Sheet", "shownWidths", "LBlackBars$Row;", true)
  | 5 => ("BlackBars$Sheet", "linesOfWords", "LBlackBars$Row;", true)
  | 6 => ("BlackBars$Sheet", "places", "LBlackBars$Row;", true)
  | 7 => ("BlackBars$Sheet", "firstWords", "LBlackBars$Row;", true)
  | _ => ("BlackBars$Sheet", "lines", "I", false)
def tyX4 : Nat → FieldType := fun k => match k with
  | 0 => .object "BlackBars$State"
  | 1 => .object "BlackBars$Forms"
  | 2 => .object "BlackBars$Row"
  | 3 => .object "BlackBars$Row"
  | 4 => .object "BlackBars$Row"
  | 5 => .object "BlackBars$Row"
  | 6 => .object "BlackBars$Row"
  | 7 => .object "BlackBars$Row"
  | _ => .int
abbrev wsX40 : List Cond := u_ws RX4 TX4 9
theorem nmX4 : ∀ a, a < 9 → ∀ b, b < 9 → a ≠ b → (TX4 a).2.1 ≠ (TX4 b).2.1 := by decide +kernel
theorem tyX4_ok : ∀ k, k < 9 → parseFieldDescriptor (TX4 k).2.2.1 = some (tyX4 k) := by decide +kernel
abbrev cX4_init : ByteArray := prog_6_method_1_code
def yX4_init : MethodName := ⟨RX4, "<init>", "(LBlackBars$State;LBlackBars$Forms;)V"⟩
abbrev cX4_hideWords : ByteArray := prog_6_method_2_code
def yX4_hideWords : MethodName := ⟨RX4, "hideWords", "()V"⟩
abbrev cX4_flow : ByteArray := prog_6_method_3_code
def yX4_flow : MethodName := ⟨RX4, "flow", "(LBlackBars$Bars;)V"⟩
abbrev cX4_widthUnder : ByteArray := prog_6_method_4_code
def yX4_widthUnder : MethodName := ⟨RX4, "widthUnder", "(LBlackBars$Bars;I)I"⟩
abbrev cX4_formOf : ByteArray := prog_6_method_5_code
def yX4_formOf : MethodName := ⟨RX4, "formOf", "(I)I"⟩
abbrev cX4_isHidden : ByteArray := prog_6_method_6_code
def yX4_isHidden : MethodName := ⟨RX4, "isHidden", "(I)Z"⟩
abbrev cX4_ownWidthOf : ByteArray := prog_6_method_7_code
def yX4_ownWidthOf : MethodName := ⟨RX4, "ownWidthOf", "(I)I"⟩
abbrev cX4_shownWidthOf : ByteArray := prog_6_method_8_code
def yX4_shownWidthOf : MethodName := ⟨RX4, "shownWidthOf", "(I)I"⟩
abbrev cX4_lineOf : ByteArray := prog_6_method_9_code
def yX4_lineOf : MethodName := ⟨RX4, "lineOf", "(I)I"⟩
abbrev cX4_placeOf : ByteArray := prog_6_method_10_code
def yX4_placeOf : MethodName := ⟨RX4, "placeOf", "(I)I"⟩
abbrev cX4_lineCount : ByteArray := prog_6_method_11_code
def yX4_lineCount : MethodName := ⟨RX4, "lineCount", "()I"⟩
abbrev cX4_hasLine : ByteArray := prog_6_method_12_code
def yX4_hasLine : MethodName := ⟨RX4, "hasLine", "(I)Z"⟩
abbrev cX4_firstWordOf : ByteArray := prog_6_method_13_code
def yX4_firstWordOf : MethodName := ⟨RX4, "firstWordOf", "(I)I"⟩
abbrev cX4_firstWordBehind : ByteArray := prog_6_method_14_code
def yX4_firstWordBehind : MethodName := ⟨RX4, "firstWordBehind", "(I)I"⟩
abbrev cX4_widthBetween : ByteArray := prog_6_method_15_code
def yX4_widthBetween : MethodName := ⟨RX4, "widthBetween", "(II)I"⟩
abbrev cX4_barsBetween : ByteArray := prog_6_method_16_code
def yX4_barsBetween : MethodName := ⟨RX4, "barsBetween", "(II)I"⟩
abbrev cX4_sumOfShownWidths : ByteArray := prog_6_method_18_code
def yX4_sumOfShownWidths : MethodName := ⟨RX4, "sumOfShownWidths", "(LBlackBars$Bars;)I"⟩
abbrev cX4_sumOfGaps : ByteArray := prog_6_method_19_code
def yX4_sumOfGaps : MethodName := ⟨RX4, "sumOfGaps", "(LBlackBars$Bars;)I"⟩
abbrev cX4_differentBarWidths : ByteArray := prog_6_method_20_code
def yX4_differentBarWidths : MethodName := ⟨RX4, "differentBarWidths", "()I"⟩
abbrev cX4_hasBarAhead : ByteArray := prog_6_method_21_code
def yX4_hasBarAhead : MethodName := ⟨RX4, "hasBarAhead", "(I)Z"⟩
abbrev cX4_betrayedBars : ByteArray := prog_6_method_22_code
def yX4_betrayedBars : MethodName := ⟨RX4, "betrayedBars", "(LBlackBars$Bars;)I"⟩
abbrev cX4_namesUnder : ByteArray := prog_6_method_24_code
def yX4_namesUnder : MethodName := ⟨RX4, "namesUnder", "(LBlackBars$Bars;I)I"⟩
def RX5 : String := "BlackBars$State"
def TX5 : u_T := fun k => match k with
  | 0 => ("BlackBars$State", "page", "LBlackBars$Words;", true)
  | 1 => ("BlackBars$State", "names", "LBlackBars$Words;", true)
  | 2 => ("BlackBars$State", "endings", "LBlackBars$Words;", true)
  | 3 => ("BlackBars$State", "letterWidths", "LBlackBars$Row;", true)
  | _ => ("BlackBars$State", "settings", "LBlackBars$Row;", true)
def tyX5 : Nat → FieldType := fun k => match k with
  | 0 => .object "BlackBars$Words"
  | 1 => .object "BlackBars$Words"
  | 2 => .object "BlackBars$Words"
  | 3 => .object "BlackBars$Row"
  | _ => .object "BlackBars$Row"
abbrev wsX50 : List Cond := u_ws RX5 TX5 5
theorem nmX5 : ∀ a, a < 5 → ∀ b, b < 5 → a ≠ b → (TX5 a).2.1 ≠ (TX5 b).2.1 := by decide +kernel
theorem tyX5_ok : ∀ k, k < 5 → parseFieldDescriptor (TX5 k).2.2.1 = some (tyX5 k) := by decide +kernel
abbrev cX5_init : ByteArray := prog_7_method_1_code
def yX5_init : MethodName := ⟨RX5, "<init>", "()V"⟩
abbrev cX5_widthOfForm : ByteArray := prog_7_method_3_code
def yX5_widthOfForm : MethodName := ⟨RX5, "widthOfForm", "(II)I"⟩
abbrev cX5_isForm : ByteArray := prog_7_method_4_code
def yX5_isForm : MethodName := ⟨RX5, "isForm", "(III)Z"⟩
abbrev cX5_copyFrom : ByteArray := prog_7_method_5_code
def yX5_copyFrom : MethodName := ⟨RX5, "copyFrom", "(LBlackBars$State;)V"⟩
def RX6 : String := "BlackBars$Text"
def TX6 : u_T := fun k => match k with
  | 0 => ("BlackBars$Text", "characters", "LBlackBars$Row;", true)
  | _ => ("BlackBars$Text", "length", "I", false)
def tyX6 : Nat → FieldType := fun k => match k with
  | 0 => .object "BlackBars$Row"
  | _ => .int
abbrev wsX60 : List Cond := u_ws RX6 TX6 2
theorem nmX6 : ∀ a, a < 2 → ∀ b, b < 2 → a ≠ b → (TX6 a).2.1 ≠ (TX6 b).2.1 := by decide +kernel
theorem tyX6_ok : ∀ k, k < 2 → parseFieldDescriptor (TX6 k).2.2.1 = some (tyX6 k) := by decide +kernel
abbrev cX6_init : ByteArray := prog_8_method_1_code
def yX6_init : MethodName := ⟨RX6, "<init>", "()V"⟩
abbrev cX6_size : ByteArray := prog_8_method_2_code
def yX6_size : MethodName := ⟨RX6, "size", "()I"⟩
abbrev cX6_at : ByteArray := prog_8_method_3_code
def yX6_at : MethodName := ⟨RX6, "at", "(I)I"⟩
abbrev cX6_append : ByteArray := prog_8_method_4_code
def yX6_append : MethodName := ⟨RX6, "append", "(I)V"⟩
abbrev cX6_empty : ByteArray := prog_8_method_5_code
def yX6_empty : MethodName := ⟨RX6, "empty", "()V"⟩
abbrev cX6_isOneWord : ByteArray := prog_8_method_6_code
def yX6_isOneWord : MethodName := ⟨RX6, "isOneWord", "(I)Z"⟩
abbrev cX6_faultIndex : ByteArray := prog_8_method_7_code
def yX6_faultIndex : MethodName := ⟨RX6, "faultIndex", "()I"⟩
abbrev cX6_faultReason : ByteArray := prog_8_method_8_code
def yX6_faultReason : MethodName := ⟨RX6, "faultReason", "(I)I"⟩
abbrev cX6_lettersAhead : ByteArray := prog_8_method_9_code
def yX6_lettersAhead : MethodName := ⟨RX6, "lettersAhead", "(I)I"⟩
abbrev cX6_wordsAhead : ByteArray := prog_8_method_10_code
def yX6_wordsAhead : MethodName := ⟨RX6, "wordsAhead", "(I)I"⟩
def RX7 : String := "BlackBars$Words"
def TX7 : u_T := fun k => match k with
  | 0 => ("BlackBars$Words", "mostWords", "I", true)
  | 1 => ("BlackBars$Words", "mostLetters", "I", true)
  | 2 => ("BlackBars$Words", "letters", "LBlackBars$Row;", true)
  | 3 => ("BlackBars$Words", "lengths", "LBlackBars$Row;", true)
  | _ => ("BlackBars$Words", "size", "I", false)
def tyX7 : Nat → FieldType := fun k => match k with
  | 0 => .int
  | 1 => .int
  | 2 => .object "BlackBars$Row"
  | 3 => .object "BlackBars$Row"
  | _ => .int
abbrev wsX70 : List Cond := u_ws RX7 TX7 5
theorem nmX7 : ∀ a, a < 5 → ∀ b, b < 5 → a ≠ b → (TX7 a).2.1 ≠ (TX7 b).2.1 := by decide +kernel
theorem tyX7_ok : ∀ k, k < 5 → parseFieldDescriptor (TX7 k).2.2.1 = some (tyX7 k) := by decide +kernel
abbrev cX7_init : ByteArray := prog_9_method_1_code
def yX7_init : MethodName := ⟨RX7, "<init>", "(II)V"⟩
abbrev cX7_size : ByteArray := prog_9_method_2_code
def yX7_size : MethodName := ⟨RX7, "size", "()I"⟩
abbrev cX7_has : ByteArray := prog_9_method_3_code
def yX7_has : MethodName := ⟨RX7, "has", "(I)Z"⟩
abbrev cX7_isFull : ByteArray := prog_9_method_4_code
def yX7_isFull : MethodName := ⟨RX7, "isFull", "()Z"⟩
abbrev cX7_greatestLength : ByteArray := prog_9_method_5_code
def yX7_greatestLength : MethodName := ⟨RX7, "greatestLength", "()I"⟩
abbrev cX7_lengthOf : ByteArray := prog_9_method_6_code
def yX7_lengthOf : MethodName := ⟨RX7, "lengthOf", "(I)I"⟩
abbrev cX7_letterOf : ByteArray := prog_9_method_7_code
def yX7_letterOf : MethodName := ⟨RX7, "letterOf", "(II)I"⟩
abbrev cX7_widthOf : ByteArray := prog_9_method_8_code
def yX7_widthOf : MethodName := ⟨RX7, "widthOf", "(ILBlackBars$Row;)I"⟩
abbrev cX7_hasWord : ByteArray := prog_9_method_9_code
def yX7_hasWord : MethodName := ⟨RX7, "hasWord", "(LBlackBars$Text;)Z"⟩
abbrev cX7_isWord : ByteArray := prog_9_method_10_code
def yX7_isWord : MethodName := ⟨RX7, "isWord", "(ILBlackBars$Text;)Z"⟩
abbrev cX7_empty : ByteArray := prog_9_method_11_code
def yX7_empty : MethodName := ⟨RX7, "empty", "()V"⟩
abbrev cX7_addWordsOf : ByteArray := prog_9_method_12_code
def yX7_addWordsOf : MethodName := ⟨RX7, "addWordsOf", "(LBlackBars$Text;)V"⟩
abbrev cX7_beginWord : ByteArray := prog_9_method_13_code
def yX7_beginWord : MethodName := ⟨RX7, "beginWord", "()V"⟩
abbrev cX7_addLetter : ByteArray := prog_9_method_14_code
def yX7_addLetter : MethodName := ⟨RX7, "addLetter", "(I)V"⟩
abbrev cX7_remove : ByteArray := prog_9_method_15_code
def yX7_remove : MethodName := ⟨RX7, "remove", "(I)V"⟩
abbrev cX7_copyFrom : ByteArray := prog_9_method_16_code
def yX7_copyFrom : MethodName := ⟨RX7, "copyFrom", "(LBlackBars$Words;)V"⟩
def RX8 : String := "BlackBars"
def TX8 : u_T := fun k => match k with
  | 0 => ("BlackBars", "text", "LBlackBars$Text;", true)
  | 1 => ("BlackBars", "state", "LBlackBars$State;", true)
  | 2 => ("BlackBars", "history", "LBlackBars$History;", true)
  | 3 => ("BlackBars", "forms", "LBlackBars$Forms;", true)
  | 4 => ("BlackBars", "bars", "LBlackBars$Bars;", true)
  | 5 => ("BlackBars", "trialBars", "LBlackBars$Bars;", true)
  | _ => ("BlackBars", "sheet", "LBlackBars$Sheet;", true)
def tyX8 : Nat → FieldType := fun k => match k with
  | 0 => .object "BlackBars$Text"
  | 1 => .object "BlackBars$State"
  | 2 => .object "BlackBars$History"
  | 3 => .object "BlackBars$Forms"
  | 4 => .object "BlackBars$Bars"
  | 5 => .object "BlackBars$Bars"
  | _ => .object "BlackBars$Sheet"
abbrev wsX80 : List Cond := u_ws RX8 TX8 7
theorem nmX8 : ∀ a, a < 7 → ∀ b, b < 7 → a ≠ b → (TX8 a).2.1 ≠ (TX8 b).2.1 := by decide +kernel
theorem tyX8_ok : ∀ k, k < 7 → parseFieldDescriptor (TX8 k).2.2.1 = some (tyX8 k) := by decide +kernel
abbrev cX8_init : ByteArray := prog_1_method_1_code
def yX8_init : MethodName := ⟨RX8, "<init>", "()V"⟩
abbrev cX8_type : ByteArray := prog_1_method_2_code
def yX8_type : MethodName := ⟨RX8, "type", "(I)I"⟩
abbrev cX8_clearText : ByteArray := prog_1_method_3_code
def yX8_clearText : MethodName := ⟨RX8, "clearText", "()I"⟩
abbrev cX8_page : ByteArray := prog_1_method_5_code
def yX8_page : MethodName := ⟨RX8, "page", "()I"⟩
abbrev cX8_name : ByteArray := prog_1_method_6_code
def yX8_name : MethodName := ⟨RX8, "name", "()I"⟩
abbrev cX8_ending : ByteArray := prog_1_method_7_code
def yX8_ending : MethodName := ⟨RX8, "ending", "()I"⟩
abbrev cX8_dropName : ByteArray := prog_1_method_8_code
def yX8_dropName : MethodName := ⟨RX8, "dropName", "(I)I"⟩
abbrev cX8_dropEnding : ByteArray := prog_1_method_9_code
def yX8_dropEnding : MethodName := ⟨RX8, "dropEnding", "(I)I"⟩
abbrev cX8_widen : ByteArray := prog_1_method_10_code
def yX8_widen : MethodName := ⟨RX8, "widen", "(II)I"⟩
abbrev cX8_set : ByteArray := prog_1_method_11_code
def yX8_set : MethodName := ⟨RX8, "set", "(II)I"⟩
abbrev cX8_count : ByteArray := prog_1_method_12_code
def yX8_count : MethodName := ⟨RX8, "count", "(I)I"⟩
abbrev cX8_word : ByteArray := prog_1_method_13_code
def yX8_word : MethodName := ⟨RX8, "word", "(II)I"⟩
abbrev cX8_letter : ByteArray := prog_1_method_14_code
def yX8_letter : MethodName := ⟨RX8, "letter", "(II)I"⟩
abbrev cX8_line : ByteArray := prog_1_method_15_code
def yX8_line : MethodName := ⟨RX8, "line", "(II)I"⟩
abbrev cX8_widthAgain : ByteArray := prog_1_method_16_code
def yX8_widthAgain : MethodName := ⟨RX8, "widthAgain", "(I)I"⟩
abbrev cX8_workOut : ByteArray := prog_1_method_24_code
def yX8_workOut : MethodName := ⟨RX8, "workOut", "()V"⟩
abbrev cX8_addTextTo : ByteArray := prog_1_method_25_code
def yX8_addTextTo : MethodName := ⟨RX8, "addTextTo", "(LBlackBars$Words;)I"⟩
abbrev cX8_dropFrom : ByteArray := prog_1_method_26_code
def yX8_dropFrom : MethodName := ⟨RX8, "dropFrom", "(LBlackBars$Words;I)I"⟩
abbrev cX8_hiddenWord : ByteArray := prog_1_method_27_code
def yX8_hiddenWord : MethodName := ⟨RX8, "hiddenWord", "(II)I"⟩
abbrev cX8_isLetter : ByteArray := prog_1_method_30_code
def yX8_isLetter : MethodName := ⟨RX8, "isLetter", "(I)Z"⟩
def RX9 : String := "BlackBarsModel"
def TX9 : u_T := fun k => match k with
  | _ => ("", "", "", false)
def tyX9 : Nat → FieldType := fun k => match k with
  | _ => .int
abbrev wsX90 : List Cond := u_ws RX9 TX9 0
theorem nmX9 : ∀ a, a < 0 → ∀ b, b < 0 → a ≠ b → (TX9 a).2.1 ≠ (TX9 b).2.1 := by decide +kernel
theorem tyX9_ok : ∀ k, k < 0 → parseFieldDescriptor (TX9 k).2.2.1 = some (tyX9 k) := by decide +kernel
def RJx8e188 : String := "java/lang/Cloneable"
def TJx8e188 : u_T := fun k => match k with
  | _ => ("", "", "", false)
def tyJx8e188 : Nat → FieldType := fun k => match k with
  | _ => .int
abbrev wsJx8e1880 : List Cond := u_ws RJx8e188 TJx8e188 0
theorem nmJx8e188 : ∀ a, a < 0 → ∀ b, b < 0 → a ≠ b → (TJx8e188 a).2.1 ≠ (TJx8e188 b).2.1 := by decide +kernel
theorem tyJx8e188_ok : ∀ k, k < 0 → parseFieldDescriptor (TJx8e188 k).2.2.1 = some (tyJx8e188 k) := by decide +kernel
def RJ6 : String := "java/lang/Integer"
def TJ6 : u_T := fun k => match k with
  | _ => ("", "", "", false)
def tyJ6 : Nat → FieldType := fun k => match k with
  | _ => .int
abbrev wsJ60 : List Cond := u_ws RJ6 TJ6 0
theorem nmJ6 : ∀ a, a < 0 → ∀ b, b < 0 → a ≠ b → (TJ6 a).2.1 ≠ (TJ6 b).2.1 := by decide +kernel
theorem tyJ6_ok : ∀ k, k < 0 → parseFieldDescriptor (TJ6 k).2.2.1 = some (tyJ6 k) := by decide +kernel
abbrev cJ6_bitCount_0f7a4 : ByteArray := prog_13_method_49_code
def yJ6_bitCount_0f7a4 : MethodName := ⟨RJ6, "bitCount", "(I)I"⟩
def RJ9 : String := "java/lang/Math"
def TJ9 : u_T := fun k => match k with
  | _ => ("", "", "", false)
def tyJ9 : Nat → FieldType := fun k => match k with
  | _ => .int
abbrev wsJ90 : List Cond := u_ws RJ9 TJ9 0
theorem nmJ9 : ∀ a, a < 0 → ∀ b, b < 0 → a ≠ b → (TJ9 a).2.1 ≠ (TJ9 b).2.1 := by decide +kernel
theorem tyJ9_ok : ∀ k, k < 0 → parseFieldDescriptor (TJ9 k).2.2.1 = some (tyJ9 k) := by decide +kernel
abbrev cJ9_max_7cf53 : ByteArray := prog_14_method_65_code
def yJ9_max_7cf53 : MethodName := ⟨RJ9, "max", "(II)I"⟩
abbrev cJ9_min_7cf53 : ByteArray := prog_14_method_69_code
def yJ9_min_7cf53 : MethodName := ⟨RJ9, "min", "(II)I"⟩
def RJ10 : String := "java/lang/System"
def TJ10 : u_T := fun k => match k with
  | _ => ("", "", "", false)
def tyJ10 : Nat → FieldType := fun k => match k with
  | _ => .int
abbrev wsJ100 : List Cond := u_ws RJ10 TJ10 0
theorem nmJ10 : ∀ a, a < 0 → ∀ b, b < 0 → a ≠ b → (TJ10 a).2.1 ≠ (TJ10 b).2.1 := by decide +kernel
theorem tyJ10_ok : ∀ k, k < 0 → parseFieldDescriptor (TJ10 k).2.2.1 = some (tyJ10 k) := by decide +kernel
def RL : String := "BlackBarsLaw"
abbrev cL_cell : ByteArray := method_2_code
def yL_cell : MethodName := ⟨RL, "cell", "([II)I"⟩
abbrev cL_low : ByteArray := method_3_code
def yL_low : MethodName := ⟨RL, "low", "(II)I"⟩
abbrev cL_length : ByteArray := method_4_code
def yL_length : MethodName := ⟨RL, "length", "(J)I"⟩
abbrev cL_width : ByteArray := method_5_code
def yL_width : MethodName := ⟨RL, "width", "([IJ)I"⟩
abbrev cL_form : ByteArray := method_6_code
def yL_form : MethodName := ⟨RL, "form", "([I[JI)J"⟩
abbrev cL_bar : ByteArray := method_7_code
def yL_bar : MethodName := ⟨RL, "bar", "([I[I[JIII)I"⟩
abbrev cL_formOf : ByteArray := method_8_code
def yL_formOf : MethodName := ⟨RL, "formOf", "([I[JI)I"⟩
abbrev cL_shown : ByteArray := method_9_code
def yL_shown : MethodName := ⟨RL, "shown", "([I[I[JIII)I"⟩
abbrev cL_under : ByteArray := method_10_code
def yL_under : MethodName := ⟨RL, "under", "([I[I[JIII)I"⟩
abbrev cL_ones : ByteArray := method_11_code
def yL_ones : MethodName := ⟨RL, "ones", "(I)I"⟩
abbrev cL_says : ByteArray := method_12_code
def yL_says : MethodName := ⟨RL, "says", "(LBlackBars;J)Z"⟩
abbrev cL_letters : ByteArray := method_13_code
def yL_letters : MethodName := ⟨RL, "letters", "(II)J"⟩
abbrev cL_acts : ByteArray := method_14_code
def yL_acts : MethodName := ⟨RL, "acts", "(LBlackBars;[I[I[JI)Z"⟩
abbrev cL_begins : ByteArray := method_15_code
def yL_begins : MethodName := ⟨RL, "begins", "([I[I)V"⟩
abbrev cL_isSo : ByteArray := method_16_code
def yL_isSo : MethodName := ⟨RL, "isSo", "(LBlackBars;[I[I[J)Z"⟩
abbrev cL_law : ByteArray := code
def yL_law : MethodName := ⟨RL, "law", "([I)Z"⟩
def wsX3_init : List Cond := .code yX3_init cX3_init 2 none :: ([.methodLink RX3 1 objectInit, .instanceMethod objectInit, .code objectInit ⟨#[0xb1]⟩ 1 none, .methodLink RX3 7 Lib.Math.max.name, .static Lib.Math.max.name, .initialized "java/lang/Math", .code Lib.Math.max.name Lib.Math.max.code 2 (some .int), .arrayClass .int, .fieldLink RX3 13 "BlackBars$Row" "cells" "[I"] ++ wsX30)
def wsX0_init : List Cond := .code yX0_init cX0_init 2 none :: ([.methodLink RX0 3 objectInit, .instanceMethod objectInit, .code objectInit ⟨#[0xb1]⟩ 1 none, .fieldLink RX0 9 "BlackBars$Bars" "forms" "LBlackBars$Forms;", .classLink RX0 15 RX3, .instantiable RX3 1, .initialized RX3, .fieldLink RX0 20 "BlackBars$Bars" "widths" "LBlackBars$Row;", .methodLink RX0 17 yX3_init, .instanceMethod yX3_init, .code yX3_init cX3_init 2 none, .methodLink RX3 1 objectInit, .methodLink RX3 7 Lib.Math.max.name, .static Lib.Math.max.name, .initialized "java/lang/Math", .code Lib.Math.max.name Lib.Math.max.code 2 (some .int), .arrayClass .int, .fieldLink RX3 13 "BlackBars$Row" "cells" "[I"] ++ wsX00 ++ wsX30)
def wsX1_size : List Cond := .code yX1_size cX1_size 1 (some .int) :: ([.fieldLink RX1 30 "BlackBars$Forms" "size" "I"] ++ wsX10)
def wsX3_at : List Cond := .code yX3_at cX3_at 2 (some .int) :: ([.fieldLink RX3 13 "BlackBars$Row" "cells" "[I"] ++ wsX30)
def wsX1_widthOf : List Cond := .code yX1_widthOf cX1_widthOf 2 (some .int) :: ([.fieldLink RX1 14 "BlackBars$Forms" "widths" "LBlackBars$Row;", .methodLink RX1 33 yX3_at, .instanceMethod yX3_at, .selects RX3 yX3_at yX3_at, .initialized RX3, .code yX3_at cX3_at 2 (some .int), .fieldLink RX3 13 "BlackBars$Row" "cells" "[I"] ++ wsX10 ++ wsX30)
def wsX0_upToMultiple : List Cond := .code yX0_upToMultiple cX0_upToMultiple 2 (some .int) :: ([])
def wsX1_rankOf : List Cond := .code yX1_rankOf cX1_rankOf 2 (some .int) :: ([.fieldLink RX1 20 "BlackBars$Forms" "ranks" "LBlackBars$Row;", .methodLink RX1 33 yX3_at, .instanceMethod yX3_at, .selects RX3 yX3_at yX3_at, .initialized RX3, .code yX3_at cX3_at 2 (some .int), .fieldLink RX3 13 "BlackBars$Row" "cells" "[I"] ++ wsX10 ++ wsX30)
def wsX0_lastRankOfGroup : List Cond := .code yX0_lastRankOfGroup cX0_lastRankOfGroup 5 (some .int) :: ([.fieldLink RX0 9 "BlackBars$Bars" "forms" "LBlackBars$Forms;", .methodLink RX0 24 yX1_size, .instanceMethod yX1_size, .selects RX1 yX1_size yX1_size, .initialized RX1, .code yX1_size cX1_size 1 (some .int), .fieldLink RX1 30 "BlackBars$Forms" "size" "I"] ++ wsX00 ++ wsX10)
def wsX1_widthAtRank : List Cond := .code yX1_widthAtRank cX1_widthAtRank 2 (some .int) :: ([.fieldLink RX1 23 "BlackBars$Forms" "sortedWidths" "LBlackBars$Row;", .methodLink RX1 33 yX3_at, .instanceMethod yX3_at, .selects RX3 yX3_at yX3_at, .initialized RX3, .code yX3_at cX3_at 2 (some .int), .fieldLink RX3 13 "BlackBars$Row" "cells" "[I"] ++ wsX10 ++ wsX30)
def wsX0_barWidth_r1 : List Cond := [Cond.fieldLink RX0 9 "BlackBars$Bars" "forms" "LBlackBars$Forms;", Cond.methodLink RX0 38 yX1_widthOf, Cond.instanceMethod yX1_widthOf, Cond.selects RX1 yX1_widthOf yX1_widthOf, Cond.initialized RX1, Cond.code yX1_widthOf cX1_widthOf 2 (some .int), Cond.fieldLink RX1 14 "BlackBars$Forms" "widths" "LBlackBars$Row;", Cond.methodLink RX1 33 yX3_at, Cond.instanceMethod yX3_at, Cond.selects RX3 yX3_at yX3_at, Cond.initialized RX3, Cond.code yX3_at cX3_at 2 (some .int), Cond.fieldLink RX3 13 "BlackBars$Row" "cells" "[I", Cond.methodLink RX0 42 yX0_upToMultiple, Cond.static yX0_upToMultiple, Cond.initialized RX0, Cond.code yX0_upToMultiple cX0_upToMultiple 2 (some .int), Cond.methodLink RX0 46 yX1_rankOf, Cond.instanceMethod yX1_rankOf, Cond.selects RX1 yX1_rankOf yX1_rankOf, Cond.code yX1_rankOf cX1_rankOf 2 (some .int), Cond.fieldLink RX1 20 "BlackBars$Forms" "ranks" "LBlackBars$Row;", Cond.methodLink RX0 49 yX0_lastRankOfGroup, Cond.instanceMethod yX0_lastRankOfGroup]
def wsX0_barWidth_r2 : List Cond := [Cond.selects RX0 yX0_lastRankOfGroup yX0_lastRankOfGroup, Cond.code yX0_lastRankOfGroup cX0_lastRankOfGroup 5 (some .int), Cond.methodLink RX0 24 yX1_size, Cond.instanceMethod yX1_size, Cond.selects RX1 yX1_size yX1_size, Cond.code yX1_size cX1_size 1 (some .int), Cond.fieldLink RX1 30 "BlackBars$Forms" "size" "I", Cond.methodLink RX0 52 yX1_widthAtRank, Cond.instanceMethod yX1_widthAtRank, Cond.selects RX1 yX1_widthAtRank yX1_widthAtRank, Cond.code yX1_widthAtRank cX1_widthAtRank 2 (some .int), Cond.fieldLink RX1 23 "BlackBars$Forms" "sortedWidths" "LBlackBars$Row;"]
def wsX0_barWidth : List Cond := .code yX0_barWidth cX0_barWidth 5 (some .int) :: ((wsX0_barWidth_r1 ++ wsX0_barWidth_r2) ++ wsX00 ++ wsX10 ++ wsX30)
def wsX3_put : List Cond := .code yX3_put cX3_put 3 none :: ([.fieldLink RX3 13 "BlackBars$Row" "cells" "[I"] ++ wsX30)
def wsX0_draw_r1 : List Cond := [Cond.fieldLink RX0 9 "BlackBars$Bars" "forms" "LBlackBars$Forms;", Cond.fieldLink RX0 20 "BlackBars$Bars" "widths" "LBlackBars$Row;", Cond.methodLink RX0 24 yX1_size, Cond.instanceMethod yX1_size, Cond.selects RX1 yX1_size yX1_size, Cond.initialized RX1, Cond.code yX1_size cX1_size 1 (some .int), Cond.fieldLink RX1 30 "BlackBars$Forms" "size" "I", Cond.methodLink RX0 30 yX0_barWidth, Cond.instanceMethod yX0_barWidth, Cond.selects RX0 yX0_barWidth yX0_barWidth, Cond.initialized RX0, Cond.code yX0_barWidth cX0_barWidth 5 (some .int), Cond.methodLink RX0 38 yX1_widthOf, Cond.instanceMethod yX1_widthOf, Cond.selects RX1 yX1_widthOf yX1_widthOf, Cond.code yX1_widthOf cX1_widthOf 2 (some .int), Cond.fieldLink RX1 14 "BlackBars$Forms" "widths" "LBlackBars$Row;", Cond.methodLink RX1 33 yX3_at, Cond.instanceMethod yX3_at, Cond.selects RX3 yX3_at yX3_at, Cond.initialized RX3, Cond.code yX3_at cX3_at 2 (some .int), Cond.fieldLink RX3 13 "BlackBars$Row" "cells" "[I"]
def wsX0_draw_r2 : List Cond := [Cond.methodLink RX0 42 yX0_upToMultiple, Cond.static yX0_upToMultiple, Cond.code yX0_upToMultiple cX0_upToMultiple 2 (some .int), Cond.methodLink RX0 46 yX1_rankOf, Cond.instanceMethod yX1_rankOf, Cond.selects RX1 yX1_rankOf yX1_rankOf, Cond.code yX1_rankOf cX1_rankOf 2 (some .int), Cond.fieldLink RX1 20 "BlackBars$Forms" "ranks" "LBlackBars$Row;", Cond.methodLink RX0 49 yX0_lastRankOfGroup, Cond.instanceMethod yX0_lastRankOfGroup, Cond.selects RX0 yX0_lastRankOfGroup yX0_lastRankOfGroup, Cond.code yX0_lastRankOfGroup cX0_lastRankOfGroup 5 (some .int), Cond.methodLink RX0 52 yX1_widthAtRank, Cond.instanceMethod yX1_widthAtRank, Cond.selects RX1 yX1_widthAtRank yX1_widthAtRank, Cond.code yX1_widthAtRank cX1_widthAtRank 2 (some .int), Cond.fieldLink RX1 23 "BlackBars$Forms" "sortedWidths" "LBlackBars$Row;", Cond.methodLink RX0 34 yX3_put, Cond.instanceMethod yX3_put, Cond.selects RX3 yX3_put yX3_put, Cond.code yX3_put cX3_put 3 none]
def wsX0_draw : List Cond := .code yX0_draw cX0_draw 5 none :: ((wsX0_draw_r1 ++ wsX0_draw_r2) ++ wsX00 ++ wsX10 ++ wsX30)
def wsX0_widthOf : List Cond := .code yX0_widthOf cX0_widthOf 2 (some .int) :: ([.fieldLink RX0 20 "BlackBars$Bars" "widths" "LBlackBars$Row;", .methodLink RX0 55 yX3_at, .instanceMethod yX3_at, .selects RX3 yX3_at yX3_at, .initialized RX3, .code yX3_at cX3_at 2 (some .int), .fieldLink RX3 13 "BlackBars$Row" "cells" "[I"] ++ wsX00 ++ wsX30)
def wsX1_nameOf : List Cond := .code yX1_nameOf cX1_nameOf 2 (some .int) :: ([.fieldLink RX1 26 "BlackBars$Forms" "formsOfName" "I"] ++ wsX10)
def wsX0_namesUnder : List Cond := .code yX0_namesUnder cX0_namesUnder 4 (some .int) :: ([.fieldLink RX0 9 "BlackBars$Bars" "forms" "LBlackBars$Forms;", .fieldLink RX0 20 "BlackBars$Bars" "widths" "LBlackBars$Row;", .methodLink RX0 24 yX1_size, .instanceMethod yX1_size, .selects RX1 yX1_size yX1_size, .initialized RX1, .code yX1_size cX1_size 1 (some .int), .fieldLink RX1 30 "BlackBars$Forms" "size" "I", .methodLink RX0 55 yX3_at, .instanceMethod yX3_at, .selects RX3 yX3_at yX3_at, .initialized RX3, .code yX3_at cX3_at 2 (some .int), .fieldLink RX3 13 "BlackBars$Row" "cells" "[I", .methodLink RX0 58 yX1_nameOf, .instanceMethod yX1_nameOf, .selects RX1 yX1_nameOf yX1_nameOf, .code yX1_nameOf cX1_nameOf 2 (some .int), .fieldLink RX1 26 "BlackBars$Forms" "formsOfName" "I"] ++ wsX00 ++ wsX10 ++ wsX30)
def wsX1_init : List Cond := .code yX1_init cX1_init 1 none :: ([.methodLink RX1 3 objectInit, .instanceMethod objectInit, .code objectInit ⟨#[0xb1]⟩ 1 none, .classLink RX1 9 RX3, .instantiable RX3 1, .initialized RX3, .fieldLink RX1 14 "BlackBars$Forms" "widths" "LBlackBars$Row;", .fieldLink RX1 20 "BlackBars$Forms" "ranks" "LBlackBars$Row;", .fieldLink RX1 23 "BlackBars$Forms" "sortedWidths" "LBlackBars$Row;", .fieldLink RX1 26 "BlackBars$Forms" "formsOfName" "I", .fieldLink RX1 30 "BlackBars$Forms" "size" "I", .methodLink RX1 11 yX3_init, .instanceMethod yX3_init, .code yX3_init cX3_init 2 none, .methodLink RX3 1 objectInit, .methodLink RX3 7 Lib.Math.max.name, .static Lib.Math.max.name, .initialized "java/lang/Math", .code Lib.Math.max.name Lib.Math.max.code 2 (some .int), .arrayClass .int, .fieldLink RX3 13 "BlackBars$Row" "cells" "[I"] ++ wsX30 ++ wsX10)
def wsX1_endingOf : List Cond := .code yX1_endingOf cX1_endingOf 2 (some .int) :: ([.fieldLink RX1 26 "BlackBars$Forms" "formsOfName" "I"] ++ wsX10)
def wsX7_size : List Cond := .code yX7_size cX7_size 1 (some .int) :: ([.fieldLink RX7 28 "BlackBars$Words" "size" "I"] ++ wsX70)
def wsX7_widthOf : List Cond := .code yX7_widthOf cX7_widthOf 7 (some .int) :: ([.fieldLink RX7 13 "BlackBars$Words" "mostLetters" "I", .fieldLink RX7 25 "BlackBars$Words" "lengths" "LBlackBars$Row;", .fieldLink RX7 21 "BlackBars$Words" "letters" "LBlackBars$Row;", .methodLink RX7 31 yX3_at, .instanceMethod yX3_at, .selects RX3 yX3_at yX3_at, .initialized RX3, .code yX3_at cX3_at 2 (some .int), .fieldLink RX3 13 "BlackBars$Row" "cells" "[I"] ++ wsX70 ++ wsX30)
def wsX5_widthOfForm : List Cond := .code yX5_widthOfForm cX5_widthOfForm 3 (some .int) :: ([.fieldLink RX5 20 "BlackBars$State" "names" "LBlackBars$Words;", .fieldLink RX5 35 "BlackBars$State" "letterWidths" "LBlackBars$Row;", .fieldLink RX5 23 "BlackBars$State" "endings" "LBlackBars$Words;", .methodLink RX5 49 yX7_widthOf, .instanceMethod yX7_widthOf, .selects RX7 yX7_widthOf yX7_widthOf, .initialized RX7, .code yX7_widthOf cX7_widthOf 7 (some .int), .fieldLink RX7 13 "BlackBars$Words" "mostLetters" "I", .fieldLink RX7 25 "BlackBars$Words" "lengths" "LBlackBars$Row;", .fieldLink RX7 21 "BlackBars$Words" "letters" "LBlackBars$Row;", .methodLink RX7 31 yX3_at, .instanceMethod yX3_at, .selects RX3 yX3_at yX3_at, .initialized RX3, .code yX3_at cX3_at 2 (some .int), .fieldLink RX3 13 "BlackBars$Row" "cells" "[I"] ++ wsX50 ++ wsX70 ++ wsX30)
def wsX1_formsAheadOf : List Cond := .code yX1_formsAheadOf cX1_formsAheadOf 6 (some .int) :: ([.fieldLink RX1 14 "BlackBars$Forms" "widths" "LBlackBars$Row;", .fieldLink RX1 30 "BlackBars$Forms" "size" "I", .methodLink RX1 33 yX3_at, .instanceMethod yX3_at, .selects RX3 yX3_at yX3_at, .initialized RX3, .code yX3_at cX3_at 2 (some .int), .fieldLink RX3 13 "BlackBars$Row" "cells" "[I"] ++ wsX10 ++ wsX30)
def wsX1_measure_r1 : List Cond := [Cond.fieldLink RX1 26 "BlackBars$Forms" "formsOfName" "I", Cond.fieldLink RX1 30 "BlackBars$Forms" "size" "I", Cond.fieldLink RX1 14 "BlackBars$Forms" "widths" "LBlackBars$Row;", Cond.fieldLink RX1 20 "BlackBars$Forms" "ranks" "LBlackBars$Row;", Cond.fieldLink RX1 23 "BlackBars$Forms" "sortedWidths" "LBlackBars$Row;", Cond.methodLink RX1 43 yX7_size, Cond.instanceMethod yX7_size, Cond.selects RX7 yX7_size yX7_size, Cond.initialized RX7, Cond.code yX7_size cX7_size 1 (some .int), Cond.fieldLink RX7 28 "BlackBars$Words" "size" "I", Cond.methodLink RX1 51 yX1_nameOf, Cond.instanceMethod yX1_nameOf, Cond.selects RX1 yX1_nameOf yX1_nameOf, Cond.initialized RX1, Cond.code yX1_nameOf cX1_nameOf 2 (some .int), Cond.methodLink RX1 54 yX1_endingOf, Cond.instanceMethod yX1_endingOf, Cond.selects RX1 yX1_endingOf yX1_endingOf, Cond.code yX1_endingOf cX1_endingOf 2 (some .int), Cond.methodLink RX1 57 yX5_widthOfForm, Cond.instanceMethod yX5_widthOfForm, Cond.selects RX5 yX5_widthOfForm yX5_widthOfForm, Cond.initialized RX5]
def wsX1_measure_r2 : List Cond := [Cond.code yX5_widthOfForm cX5_widthOfForm 3 (some .int), Cond.fieldLink RX5 20 "BlackBars$State" "names" "LBlackBars$Words;", Cond.fieldLink RX5 35 "BlackBars$State" "letterWidths" "LBlackBars$Row;", Cond.fieldLink RX5 23 "BlackBars$State" "endings" "LBlackBars$Words;", Cond.methodLink RX5 49 yX7_widthOf, Cond.instanceMethod yX7_widthOf, Cond.selects RX7 yX7_widthOf yX7_widthOf, Cond.code yX7_widthOf cX7_widthOf 7 (some .int), Cond.fieldLink RX7 13 "BlackBars$Words" "mostLetters" "I", Cond.fieldLink RX7 25 "BlackBars$Words" "lengths" "LBlackBars$Row;", Cond.fieldLink RX7 21 "BlackBars$Words" "letters" "LBlackBars$Row;", Cond.methodLink RX7 31 yX3_at, Cond.instanceMethod yX3_at, Cond.selects RX3 yX3_at yX3_at, Cond.initialized RX3, Cond.code yX3_at cX3_at 2 (some .int), Cond.fieldLink RX3 13 "BlackBars$Row" "cells" "[I", Cond.methodLink RX1 61 yX3_put, Cond.instanceMethod yX3_put, Cond.selects RX3 yX3_put yX3_put, Cond.code yX3_put cX3_put 3 none, Cond.methodLink RX1 65 yX1_formsAheadOf, Cond.instanceMethod yX1_formsAheadOf, Cond.selects RX1 yX1_formsAheadOf yX1_formsAheadOf]
def wsX1_measure_r3 : List Cond := [Cond.code yX1_formsAheadOf cX1_formsAheadOf 6 (some .int), Cond.methodLink RX1 33 yX3_at]
def wsX1_measure : List Cond := .code yX1_measure cX1_measure 4 none :: ((wsX1_measure_r1 ++ (wsX1_measure_r2 ++ wsX1_measure_r3)) ++ wsX50 ++ wsX10 ++ wsX70 ++ wsX30)
def wsX7_init : List Cond := .code yX7_init cX7_init 3 none :: ([.methodLink RX7 1 objectInit, .instanceMethod objectInit, .code objectInit ⟨#[0xb1]⟩ 1 none, .fieldLink RX7 7 "BlackBars$Words" "mostWords" "I", .fieldLink RX7 13 "BlackBars$Words" "mostLetters" "I", .classLink RX7 16 RX3, .instantiable RX3 1, .initialized RX3, .fieldLink RX7 21 "BlackBars$Words" "letters" "LBlackBars$Row;", .fieldLink RX7 25 "BlackBars$Words" "lengths" "LBlackBars$Row;", .fieldLink RX7 28 "BlackBars$Words" "size" "I", .methodLink RX7 18 yX3_init, .instanceMethod yX3_init, .code yX3_init cX3_init 2 none, .methodLink RX3 1 objectInit, .methodLink RX3 7 Lib.Math.max.name, .static Lib.Math.max.name, .initialized "java/lang/Math", .code Lib.Math.max.name Lib.Math.max.code 2 (some .int), .arrayClass .int, .fieldLink RX3 13 "BlackBars$Row" "cells" "[I"] ++ wsX70 ++ wsX30)
def wsX3_init_ : List Cond := .code yX3_init_ cX3_init_ 2 none :: ([.methodLink RX3 1 objectInit, .instanceMethod objectInit, .code objectInit ⟨#[0xb1]⟩ 1 none, .methodLink RX3 19 ⟨"[I", "clone", "()Ljava/lang/Object;"⟩, .sameMethod "[I" "java/lang/Object" "clone" "()Ljava/lang/Object;", .native ⟨"java/lang/Object", "clone", "()Ljava/lang/Object;"⟩, .instanceMethod ⟨"java/lang/Object", "clone", "()Ljava/lang/Object;"⟩, .selects "[I" ⟨"[I", "clone", "()Ljava/lang/Object;"⟩ ⟨"java/lang/Object", "clone", "()Ljava/lang/Object;"⟩, .classLink RX3 20 "[I", .fieldLink RX3 13 "BlackBars$Row" "cells" "[I"] ++ wsX30)
def wsX5_init_r1 : List Cond := [Cond.methodLink RX5 3 objectInit, Cond.instanceMethod objectInit, Cond.code objectInit ⟨#[0xb1]⟩ 1 none, Cond.classLink RX5 9 RX7, Cond.instantiable RX7 5, Cond.initialized RX7, Cond.fieldLink RX5 14 "BlackBars$State" "page" "LBlackBars$Words;", Cond.fieldLink RX5 20 "BlackBars$State" "names" "LBlackBars$Words;", Cond.fieldLink RX5 23 "BlackBars$State" "endings" "LBlackBars$Words;", Cond.classLink RX5 26 RX3, Cond.instantiable RX3 1, Cond.initialized RX3, Cond.fieldLink RX5 35 "BlackBars$State" "letterWidths" "LBlackBars$Row;", Cond.fieldLink RX5 42 "BlackBars$State" "settings" "LBlackBars$Row;", Cond.methodLink RX5 11 yX7_init, Cond.instanceMethod yX7_init, Cond.code yX7_init cX7_init 3 none, Cond.methodLink RX7 1 objectInit, Cond.fieldLink RX7 7 "BlackBars$Words" "mostWords" "I", Cond.fieldLink RX7 13 "BlackBars$Words" "mostLetters" "I", Cond.classLink RX7 16 RX3, Cond.fieldLink RX7 21 "BlackBars$Words" "letters" "LBlackBars$Row;", Cond.fieldLink RX7 25 "BlackBars$Words" "lengths" "LBlackBars$Row;", Cond.fieldLink RX7 28 "BlackBars$Words" "size" "I"]
def wsX5_init_r2 : List Cond := [Cond.methodLink RX7 18 yX3_init, Cond.instanceMethod yX3_init, Cond.code yX3_init cX3_init 2 none, Cond.methodLink RX3 1 objectInit, Cond.methodLink RX3 7 Lib.Math.max.name, Cond.static Lib.Math.max.name, Cond.initialized "java/lang/Math", Cond.code Lib.Math.max.name Lib.Math.max.code 2 (some .int), Cond.arrayClass .int, Cond.fieldLink RX3 13 "BlackBars$Row" "cells" "[I", Cond.methodLink RX5 32 yX3_init_, Cond.instanceMethod yX3_init_, Cond.code yX3_init_ cX3_init_ 2 none, Cond.methodLink RX3 19 ⟨"[I", "clone", "()Ljava/lang/Object;"⟩, Cond.sameMethod "[I" "java/lang/Object" "clone" "()Ljava/lang/Object;", Cond.native ⟨"java/lang/Object", "clone", "()Ljava/lang/Object;"⟩, Cond.instanceMethod ⟨"java/lang/Object", "clone", "()Ljava/lang/Object;"⟩, Cond.selects "[I" ⟨"[I", "clone", "()Ljava/lang/Object;"⟩ ⟨"java/lang/Object", "clone", "()Ljava/lang/Object;"⟩, Cond.classLink RX3 20 "[I"]
def wsX5_init : List Cond := .code yX5_init cX5_init 1 none :: ((wsX5_init_r1 ++ wsX5_init_r2) ++ wsX70 ++ wsX50 ++ wsX30)
def wsX2_init_r1 : List Cond := [Cond.methodLink RX2 3 objectInit, Cond.instanceMethod objectInit, Cond.code objectInit ⟨#[0xb1]⟩ 1 none, Cond.classLink RX2 9 RX5, Cond.fieldLink RX2 11 "BlackBars$History" "states" "[LBlackBars$State;", Cond.instantiable RX5 5, Cond.initialized RX5, Cond.fieldLink RX2 18 "BlackBars$History" "size" "I", Cond.methodLink RX2 17 yX5_init, Cond.instanceMethod yX5_init, Cond.code yX5_init cX5_init 1 none, Cond.methodLink RX5 3 objectInit, Cond.classLink RX5 9 RX7, Cond.instantiable RX7 5, Cond.initialized RX7, Cond.fieldLink RX5 14 "BlackBars$State" "page" "LBlackBars$Words;", Cond.fieldLink RX5 20 "BlackBars$State" "names" "LBlackBars$Words;", Cond.fieldLink RX5 23 "BlackBars$State" "endings" "LBlackBars$Words;", Cond.classLink RX5 26 RX3, Cond.instantiable RX3 1, Cond.initialized RX3, Cond.fieldLink RX5 35 "BlackBars$State" "letterWidths" "LBlackBars$Row;", Cond.fieldLink RX5 42 "BlackBars$State" "settings" "LBlackBars$Row;", Cond.methodLink RX5 11 yX7_init]
def wsX2_init_r2 : List Cond := [Cond.instanceMethod yX7_init, Cond.code yX7_init cX7_init 3 none, Cond.methodLink RX7 1 objectInit, Cond.fieldLink RX7 7 "BlackBars$Words" "mostWords" "I", Cond.fieldLink RX7 13 "BlackBars$Words" "mostLetters" "I", Cond.classLink RX7 16 RX3, Cond.fieldLink RX7 21 "BlackBars$Words" "letters" "LBlackBars$Row;", Cond.fieldLink RX7 25 "BlackBars$Words" "lengths" "LBlackBars$Row;", Cond.fieldLink RX7 28 "BlackBars$Words" "size" "I", Cond.methodLink RX7 18 yX3_init, Cond.instanceMethod yX3_init, Cond.code yX3_init cX3_init 2 none, Cond.methodLink RX3 1 objectInit, Cond.methodLink RX3 7 Lib.Math.max.name, Cond.static Lib.Math.max.name, Cond.initialized "java/lang/Math", Cond.code Lib.Math.max.name Lib.Math.max.code 2 (some .int), Cond.arrayClass .int, Cond.fieldLink RX3 13 "BlackBars$Row" "cells" "[I", Cond.methodLink RX5 32 yX3_init_, Cond.instanceMethod yX3_init_, Cond.code yX3_init_ cX3_init_ 2 none, Cond.methodLink RX3 19 ⟨"[I", "clone", "()Ljava/lang/Object;"⟩, Cond.sameMethod "[I" "java/lang/Object" "clone" "()Ljava/lang/Object;"]
def wsX2_init_r3 : List Cond := [Cond.native ⟨"java/lang/Object", "clone", "()Ljava/lang/Object;"⟩, Cond.instanceMethod ⟨"java/lang/Object", "clone", "()Ljava/lang/Object;"⟩, Cond.selects "[I" ⟨"[I", "clone", "()Ljava/lang/Object;"⟩ ⟨"java/lang/Object", "clone", "()Ljava/lang/Object;"⟩, Cond.classLink RX3 20 "[I"]
def wsX2_init : List Cond := .code yX2_init cX2_init 2 none :: ((wsX2_init_r1 ++ (wsX2_init_r2 ++ wsX2_init_r3)) ++ wsX20 ++ wsX50 ++ wsX70 ++ wsX30)
def wsX2_size : List Cond := .code yX2_size cX2_size 1 (some .int) :: ([.fieldLink RX2 18 "BlackBars$History" "size" "I"] ++ wsX20)
def wsX2_moveOldestToEnd : List Cond := .code yX2_moveOldestToEnd cX2_moveOldestToEnd 3 none :: ([.fieldLink RX2 11 "BlackBars$History" "states" "[LBlackBars$State;"] ++ wsX20)
def wsX2_latest : List Cond := .code yX2_latest cX2_latest 1 (some (.object "BlackBars$State")) :: ([.fieldLink RX2 18 "BlackBars$History" "size" "I", .fieldLink RX2 11 "BlackBars$History" "states" "[LBlackBars$State;"] ++ wsX20)
def wsX3_copyFrom : List Cond := .code yX3_copyFrom cX3_copyFrom 2 none :: ([.fieldLink RX3 13 "BlackBars$Row" "cells" "[I", .methodLink RX3 24 Lib.Math.min.name, .static Lib.Math.min.name, .initialized "java/lang/Math", .code Lib.Math.min.name Lib.Math.min.code 2 (some .int), .methodLink RX3 27 arraycopyName, .native arraycopyName, .static arraycopyName, .initialized "java/lang/System"] ++ wsX30)
def wsX7_copyFrom : List Cond := .code yX7_copyFrom cX7_copyFrom 2 none :: ([.fieldLink RX7 21 "BlackBars$Words" "letters" "LBlackBars$Row;", .fieldLink RX7 25 "BlackBars$Words" "lengths" "LBlackBars$Row;", .fieldLink RX7 7 "BlackBars$Words" "mostWords" "I", .fieldLink RX7 28 "BlackBars$Words" "size" "I", .methodLink RX7 75 Lib.Math.min.name, .static Lib.Math.min.name, .initialized "java/lang/Math", .code Lib.Math.min.name Lib.Math.min.code 2 (some .int), .methodLink RX7 71 yX3_copyFrom, .instanceMethod yX3_copyFrom, .selects RX3 yX3_copyFrom yX3_copyFrom, .initialized RX3, .code yX3_copyFrom cX3_copyFrom 2 none, .fieldLink RX3 13 "BlackBars$Row" "cells" "[I", .methodLink RX3 24 Lib.Math.min.name, .methodLink RX3 27 arraycopyName, .native arraycopyName, .static arraycopyName, .initialized "java/lang/System"] ++ wsX70 ++ wsX30)
def wsX5_copyFrom_r1 : List Cond := [Cond.fieldLink RX5 14 "BlackBars$State" "page" "LBlackBars$Words;", Cond.fieldLink RX5 20 "BlackBars$State" "names" "LBlackBars$Words;", Cond.fieldLink RX5 23 "BlackBars$State" "endings" "LBlackBars$Words;", Cond.fieldLink RX5 35 "BlackBars$State" "letterWidths" "LBlackBars$Row;", Cond.fieldLink RX5 42 "BlackBars$State" "settings" "LBlackBars$Row;", Cond.methodLink RX5 57 yX7_copyFrom, Cond.instanceMethod yX7_copyFrom, Cond.selects RX7 yX7_copyFrom yX7_copyFrom, Cond.initialized RX7, Cond.code yX7_copyFrom cX7_copyFrom 2 none, Cond.fieldLink RX7 21 "BlackBars$Words" "letters" "LBlackBars$Row;", Cond.fieldLink RX7 25 "BlackBars$Words" "lengths" "LBlackBars$Row;", Cond.fieldLink RX7 7 "BlackBars$Words" "mostWords" "I", Cond.fieldLink RX7 28 "BlackBars$Words" "size" "I", Cond.methodLink RX7 75 Lib.Math.min.name, Cond.static Lib.Math.min.name, Cond.initialized "java/lang/Math", Cond.code Lib.Math.min.name Lib.Math.min.code 2 (some .int), Cond.methodLink RX7 71 yX3_copyFrom, Cond.instanceMethod yX3_copyFrom, Cond.selects RX3 yX3_copyFrom yX3_copyFrom, Cond.initialized RX3, Cond.code yX3_copyFrom cX3_copyFrom 2 none, Cond.fieldLink RX3 13 "BlackBars$Row" "cells" "[I"]
def wsX5_copyFrom_r2 : List Cond := [Cond.methodLink RX3 24 Lib.Math.min.name, Cond.methodLink RX3 27 arraycopyName, Cond.native arraycopyName, Cond.static arraycopyName, Cond.initialized "java/lang/System", Cond.methodLink RX5 61 yX3_copyFrom]
def wsX5_copyFrom : List Cond := .code yX5_copyFrom cX5_copyFrom 2 none :: ((wsX5_copyFrom_r1 ++ wsX5_copyFrom_r2) ++ wsX50 ++ wsX70 ++ wsX30)
def wsX2_keep_r1 : List Cond := [Cond.fieldLink RX2 18 "BlackBars$History" "size" "I", Cond.fieldLink RX2 11 "BlackBars$History" "states" "[LBlackBars$State;", Cond.methodLink RX2 22 yX2_moveOldestToEnd, Cond.instanceMethod yX2_moveOldestToEnd, Cond.selects RX2 yX2_moveOldestToEnd yX2_moveOldestToEnd, Cond.initialized RX2, Cond.code yX2_moveOldestToEnd cX2_moveOldestToEnd 3 none, Cond.methodLink RX2 25 yX2_latest, Cond.instanceMethod yX2_latest, Cond.selects RX2 yX2_latest yX2_latest, Cond.code yX2_latest cX2_latest 1 (some (.object "BlackBars$State")), Cond.methodLink RX2 29 yX5_copyFrom, Cond.instanceMethod yX5_copyFrom, Cond.selects RX5 yX5_copyFrom yX5_copyFrom, Cond.initialized RX5, Cond.code yX5_copyFrom cX5_copyFrom 2 none, Cond.fieldLink RX5 14 "BlackBars$State" "page" "LBlackBars$Words;", Cond.fieldLink RX5 20 "BlackBars$State" "names" "LBlackBars$Words;", Cond.fieldLink RX5 23 "BlackBars$State" "endings" "LBlackBars$Words;", Cond.fieldLink RX5 35 "BlackBars$State" "letterWidths" "LBlackBars$Row;", Cond.fieldLink RX5 42 "BlackBars$State" "settings" "LBlackBars$Row;", Cond.methodLink RX5 57 yX7_copyFrom, Cond.instanceMethod yX7_copyFrom, Cond.selects RX7 yX7_copyFrom yX7_copyFrom]
def wsX2_keep_r2 : List Cond := [Cond.initialized RX7, Cond.code yX7_copyFrom cX7_copyFrom 2 none, Cond.fieldLink RX7 21 "BlackBars$Words" "letters" "LBlackBars$Row;", Cond.fieldLink RX7 25 "BlackBars$Words" "lengths" "LBlackBars$Row;", Cond.fieldLink RX7 7 "BlackBars$Words" "mostWords" "I", Cond.fieldLink RX7 28 "BlackBars$Words" "size" "I", Cond.methodLink RX7 75 Lib.Math.min.name, Cond.static Lib.Math.min.name, Cond.initialized "java/lang/Math", Cond.code Lib.Math.min.name Lib.Math.min.code 2 (some .int), Cond.methodLink RX7 71 yX3_copyFrom, Cond.instanceMethod yX3_copyFrom, Cond.selects RX3 yX3_copyFrom yX3_copyFrom, Cond.initialized RX3, Cond.code yX3_copyFrom cX3_copyFrom 2 none, Cond.fieldLink RX3 13 "BlackBars$Row" "cells" "[I", Cond.methodLink RX3 24 Lib.Math.min.name, Cond.methodLink RX3 27 arraycopyName, Cond.native arraycopyName, Cond.static arraycopyName, Cond.initialized "java/lang/System", Cond.methodLink RX5 61 yX3_copyFrom]
def wsX2_keep : List Cond := .code yX2_keep cX2_keep 3 none :: ((wsX2_keep_r1 ++ wsX2_keep_r2) ++ wsX20 ++ wsX50 ++ wsX70 ++ wsX30)
def wsX4_init_r1 : List Cond := [Cond.methodLink RX4 3 objectInit, Cond.instanceMethod objectInit, Cond.code objectInit ⟨#[0xb1]⟩ 1 none, Cond.fieldLink RX4 9 "BlackBars$Sheet" "state" "LBlackBars$State;", Cond.fieldLink RX4 15 "BlackBars$Sheet" "forms" "LBlackBars$Forms;", Cond.classLink RX4 19 RX3, Cond.instantiable RX3 1, Cond.initialized RX3, Cond.fieldLink RX4 24 "BlackBars$Sheet" "formsOfWords" "LBlackBars$Row;", Cond.fieldLink RX4 28 "BlackBars$Sheet" "ownWidths" "LBlackBars$Row;", Cond.fieldLink RX4 31 "BlackBars$Sheet" "shownWidths" "LBlackBars$Row;", Cond.fieldLink RX4 34 "BlackBars$Sheet" "linesOfWords" "LBlackBars$Row;", Cond.fieldLink RX4 37 "BlackBars$Sheet" "places" "LBlackBars$Row;", Cond.fieldLink RX4 40 "BlackBars$Sheet" "firstWords" "LBlackBars$Row;", Cond.fieldLink RX4 43 "BlackBars$Sheet" "lines" "I", Cond.methodLink RX4 21 yX3_init, Cond.instanceMethod yX3_init, Cond.code yX3_init cX3_init 2 none, Cond.methodLink RX3 1 objectInit, Cond.methodLink RX3 7 Lib.Math.max.name, Cond.static Lib.Math.max.name, Cond.initialized "java/lang/Math", Cond.code Lib.Math.max.name Lib.Math.max.code 2 (some .int), Cond.arrayClass .int]
def wsX4_init_r2 : List Cond := [Cond.fieldLink RX3 13 "BlackBars$Row" "cells" "[I"]
def wsX4_init : List Cond := .code yX4_init cX4_init 3 none :: ((wsX4_init_r1 ++ wsX4_init_r2) ++ wsX40 ++ wsX30)
def wsX7_lengthOf : List Cond := .code yX7_lengthOf cX7_lengthOf 2 (some .int) :: ([.fieldLink RX7 25 "BlackBars$Words" "lengths" "LBlackBars$Row;", .methodLink RX7 31 yX3_at, .instanceMethod yX3_at, .selects RX3 yX3_at yX3_at, .initialized RX3, .code yX3_at cX3_at 2 (some .int), .fieldLink RX3 13 "BlackBars$Row" "cells" "[I"] ++ wsX70 ++ wsX30)
def wsX7_letterOf : List Cond := .code yX7_letterOf cX7_letterOf 3 (some .int) :: ([.fieldLink RX7 21 "BlackBars$Words" "letters" "LBlackBars$Row;", .fieldLink RX7 13 "BlackBars$Words" "mostLetters" "I", .methodLink RX7 31 yX3_at, .instanceMethod yX3_at, .selects RX3 yX3_at yX3_at, .initialized RX3, .code yX3_at cX3_at 2 (some .int), .fieldLink RX3 13 "BlackBars$Row" "cells" "[I"] ++ wsX70 ++ wsX30)
def wsX5_isForm : List Cond := .code yX5_isForm cX5_isForm 8 (some .boolean) :: ([.fieldLink RX5 14 "BlackBars$State" "page" "LBlackBars$Words;", .fieldLink RX5 20 "BlackBars$State" "names" "LBlackBars$Words;", .fieldLink RX5 23 "BlackBars$State" "endings" "LBlackBars$Words;", .methodLink RX5 45 yX7_lengthOf, .instanceMethod yX7_lengthOf, .selects RX7 yX7_lengthOf yX7_lengthOf, .initialized RX7, .code yX7_lengthOf cX7_lengthOf 2 (some .int), .fieldLink RX7 25 "BlackBars$Words" "lengths" "LBlackBars$Row;", .methodLink RX7 31 yX3_at, .instanceMethod yX3_at, .selects RX3 yX3_at yX3_at, .initialized RX3, .code yX3_at cX3_at 2 (some .int), .fieldLink RX3 13 "BlackBars$Row" "cells" "[I", .methodLink RX5 53 yX7_letterOf, .instanceMethod yX7_letterOf, .selects RX7 yX7_letterOf yX7_letterOf, .code yX7_letterOf cX7_letterOf 3 (some .int), .fieldLink RX7 21 "BlackBars$Words" "letters" "LBlackBars$Row;", .fieldLink RX7 13 "BlackBars$Words" "mostLetters" "I"] ++ wsX50 ++ wsX70 ++ wsX30)
def wsX4_hideWords_r1 : List Cond := [Cond.fieldLink RX4 9 "BlackBars$Sheet" "state" "LBlackBars$State;", Cond.fieldLink RX4 15 "BlackBars$Sheet" "forms" "LBlackBars$Forms;", Cond.fieldLink RX4 24 "BlackBars$Sheet" "formsOfWords" "LBlackBars$Row;", Cond.fieldLink RX4 28 "BlackBars$Sheet" "ownWidths" "LBlackBars$Row;", Cond.methodLink RX4 53 yX7_size, Cond.instanceMethod yX7_size, Cond.selects RX7 yX7_size yX7_size, Cond.initialized RX7, Cond.code yX7_size cX7_size 1 (some .int), Cond.fieldLink RX7 28 "BlackBars$Words" "size" "I", Cond.methodLink RX4 59 yX1_size, Cond.instanceMethod yX1_size, Cond.selects RX1 yX1_size yX1_size, Cond.initialized RX1, Cond.code yX1_size cX1_size 1 (some .int), Cond.fieldLink RX1 30 "BlackBars$Forms" "size" "I", Cond.methodLink RX4 62 yX1_nameOf, Cond.instanceMethod yX1_nameOf, Cond.selects RX1 yX1_nameOf yX1_nameOf, Cond.code yX1_nameOf cX1_nameOf 2 (some .int), Cond.fieldLink RX1 26 "BlackBars$Forms" "formsOfName" "I", Cond.methodLink RX4 66 yX1_endingOf, Cond.instanceMethod yX1_endingOf, Cond.selects RX1 yX1_endingOf yX1_endingOf]
def wsX4_hideWords_r2 : List Cond := [Cond.code yX1_endingOf cX1_endingOf 2 (some .int), Cond.methodLink RX4 69 yX5_isForm, Cond.instanceMethod yX5_isForm, Cond.selects RX5 yX5_isForm yX5_isForm, Cond.initialized RX5, Cond.code yX5_isForm cX5_isForm 8 (some .boolean), Cond.fieldLink RX5 14 "BlackBars$State" "page" "LBlackBars$Words;", Cond.fieldLink RX5 20 "BlackBars$State" "names" "LBlackBars$Words;", Cond.fieldLink RX5 23 "BlackBars$State" "endings" "LBlackBars$Words;", Cond.methodLink RX5 45 yX7_lengthOf, Cond.instanceMethod yX7_lengthOf, Cond.selects RX7 yX7_lengthOf yX7_lengthOf, Cond.code yX7_lengthOf cX7_lengthOf 2 (some .int), Cond.fieldLink RX7 25 "BlackBars$Words" "lengths" "LBlackBars$Row;", Cond.methodLink RX7 31 yX3_at, Cond.instanceMethod yX3_at, Cond.selects RX3 yX3_at yX3_at, Cond.initialized RX3, Cond.code yX3_at cX3_at 2 (some .int), Cond.fieldLink RX3 13 "BlackBars$Row" "cells" "[I", Cond.methodLink RX5 53 yX7_letterOf, Cond.instanceMethod yX7_letterOf, Cond.selects RX7 yX7_letterOf yX7_letterOf, Cond.code yX7_letterOf cX7_letterOf 3 (some .int)]
def wsX4_hideWords_r3 : List Cond := [Cond.fieldLink RX7 21 "BlackBars$Words" "letters" "LBlackBars$Row;", Cond.fieldLink RX7 13 "BlackBars$Words" "mostLetters" "I", Cond.methodLink RX4 73 yX3_put, Cond.instanceMethod yX3_put, Cond.selects RX3 yX3_put yX3_put, Cond.code yX3_put cX3_put 3 none, Cond.methodLink RX4 80 yX7_widthOf, Cond.instanceMethod yX7_widthOf, Cond.selects RX7 yX7_widthOf yX7_widthOf, Cond.code yX7_widthOf cX7_widthOf 7 (some .int)]
def wsX4_hideWords : List Cond := .code yX4_hideWords cX4_hideWords 4 none :: ((wsX4_hideWords_r1 ++ (wsX4_hideWords_r2 ++ wsX4_hideWords_r3)) ++ wsX40 ++ wsX50 ++ wsX70 ++ wsX10 ++ wsX30)
def wsX4_isHidden : List Cond := .code yX4_isHidden cX4_isHidden 2 (some .boolean) :: ([.fieldLink RX4 24 "BlackBars$Sheet" "formsOfWords" "LBlackBars$Row;", .methodLink RX4 87 yX3_at, .instanceMethod yX3_at, .selects RX3 yX3_at yX3_at, .initialized RX3, .code yX3_at cX3_at 2 (some .int), .fieldLink RX3 13 "BlackBars$Row" "cells" "[I"] ++ wsX40 ++ wsX30)
def wsX4_formOf : List Cond := .code yX4_formOf cX4_formOf 2 (some .int) :: ([.fieldLink RX4 24 "BlackBars$Sheet" "formsOfWords" "LBlackBars$Row;", .methodLink RX4 87 yX3_at, .instanceMethod yX3_at, .selects RX3 yX3_at yX3_at, .initialized RX3, .code yX3_at cX3_at 2 (some .int), .fieldLink RX3 13 "BlackBars$Row" "cells" "[I"] ++ wsX40 ++ wsX30)
def wsX4_ownWidthOf : List Cond := .code yX4_ownWidthOf cX4_ownWidthOf 2 (some .int) :: ([.fieldLink RX4 28 "BlackBars$Sheet" "ownWidths" "LBlackBars$Row;", .methodLink RX4 87 yX3_at, .instanceMethod yX3_at, .selects RX3 yX3_at yX3_at, .initialized RX3, .code yX3_at cX3_at 2 (some .int), .fieldLink RX3 13 "BlackBars$Row" "cells" "[I"] ++ wsX40 ++ wsX30)
def wsX4_widthUnder_r1 : List Cond := [Cond.methodLink RX4 94 yX4_isHidden, Cond.instanceMethod yX4_isHidden, Cond.selects RX4 yX4_isHidden yX4_isHidden, Cond.initialized RX4, Cond.code yX4_isHidden cX4_isHidden 2 (some .boolean), Cond.fieldLink RX4 24 "BlackBars$Sheet" "formsOfWords" "LBlackBars$Row;", Cond.methodLink RX4 87 yX3_at, Cond.instanceMethod yX3_at, Cond.selects RX3 yX3_at yX3_at, Cond.initialized RX3, Cond.code yX3_at cX3_at 2 (some .int), Cond.fieldLink RX3 13 "BlackBars$Row" "cells" "[I", Cond.methodLink RX4 98 yX4_formOf, Cond.instanceMethod yX4_formOf, Cond.selects RX4 yX4_formOf yX4_formOf, Cond.code yX4_formOf cX4_formOf 2 (some .int), Cond.methodLink RX4 101 yX0_widthOf, Cond.instanceMethod yX0_widthOf, Cond.selects RX0 yX0_widthOf yX0_widthOf, Cond.initialized RX0, Cond.code yX0_widthOf cX0_widthOf 2 (some .int), Cond.fieldLink RX0 20 "BlackBars$Bars" "widths" "LBlackBars$Row;", Cond.methodLink RX0 55 yX3_at, Cond.methodLink RX4 105 yX4_ownWidthOf]
def wsX4_widthUnder_r2 : List Cond := [Cond.instanceMethod yX4_ownWidthOf, Cond.selects RX4 yX4_ownWidthOf yX4_ownWidthOf, Cond.code yX4_ownWidthOf cX4_ownWidthOf 2 (some .int), Cond.fieldLink RX4 28 "BlackBars$Sheet" "ownWidths" "LBlackBars$Row;"]
def wsX4_widthUnder : List Cond := .code yX4_widthUnder cX4_widthUnder 3 (some .int) :: ((wsX4_widthUnder_r1 ++ wsX4_widthUnder_r2) ++ wsX40 ++ wsX30 ++ wsX00)
def wsX4_flow_r1 : List Cond := [Cond.fieldLink RX4 9 "BlackBars$Sheet" "state" "LBlackBars$State;", Cond.fieldLink RX4 43 "BlackBars$Sheet" "lines" "I", Cond.fieldLink RX4 40 "BlackBars$Sheet" "firstWords" "LBlackBars$Row;", Cond.fieldLink RX4 31 "BlackBars$Sheet" "shownWidths" "LBlackBars$Row;", Cond.fieldLink RX4 34 "BlackBars$Sheet" "linesOfWords" "LBlackBars$Row;", Cond.fieldLink RX4 37 "BlackBars$Sheet" "places" "LBlackBars$Row;", Cond.methodLink RX4 87 yX3_at, Cond.instanceMethod yX3_at, Cond.selects RX3 yX3_at yX3_at, Cond.initialized RX3, Cond.code yX3_at cX3_at 2 (some .int), Cond.fieldLink RX3 13 "BlackBars$Row" "cells" "[I", Cond.methodLink RX4 53 yX7_size, Cond.instanceMethod yX7_size, Cond.selects RX7 yX7_size yX7_size, Cond.initialized RX7, Cond.code yX7_size cX7_size 1 (some .int), Cond.fieldLink RX7 28 "BlackBars$Words" "size" "I", Cond.methodLink RX4 90 yX4_widthUnder, Cond.instanceMethod yX4_widthUnder, Cond.selects RX4 yX4_widthUnder yX4_widthUnder, Cond.initialized RX4, Cond.code yX4_widthUnder cX4_widthUnder 3 (some .int), Cond.methodLink RX4 94 yX4_isHidden]
def wsX4_flow_r2 : List Cond := [Cond.instanceMethod yX4_isHidden, Cond.selects RX4 yX4_isHidden yX4_isHidden, Cond.code yX4_isHidden cX4_isHidden 2 (some .boolean), Cond.fieldLink RX4 24 "BlackBars$Sheet" "formsOfWords" "LBlackBars$Row;", Cond.methodLink RX4 98 yX4_formOf, Cond.instanceMethod yX4_formOf, Cond.selects RX4 yX4_formOf yX4_formOf, Cond.code yX4_formOf cX4_formOf 2 (some .int), Cond.methodLink RX4 101 yX0_widthOf, Cond.instanceMethod yX0_widthOf, Cond.selects RX0 yX0_widthOf yX0_widthOf, Cond.initialized RX0, Cond.code yX0_widthOf cX0_widthOf 2 (some .int), Cond.fieldLink RX0 20 "BlackBars$Bars" "widths" "LBlackBars$Row;", Cond.methodLink RX0 55 yX3_at, Cond.methodLink RX4 105 yX4_ownWidthOf, Cond.instanceMethod yX4_ownWidthOf, Cond.selects RX4 yX4_ownWidthOf yX4_ownWidthOf, Cond.code yX4_ownWidthOf cX4_ownWidthOf 2 (some .int), Cond.fieldLink RX4 28 "BlackBars$Sheet" "ownWidths" "LBlackBars$Row;", Cond.methodLink RX4 73 yX3_put, Cond.instanceMethod yX3_put, Cond.selects RX3 yX3_put yX3_put, Cond.code yX3_put cX3_put 3 none]
def wsX4_flow : List Cond := .code yX4_flow cX4_flow 8 none :: ((wsX4_flow_r1 ++ wsX4_flow_r2) ++ wsX40 ++ wsX50 ++ wsX30 ++ wsX70 ++ wsX00)
def wsX4_shownWidthOf : List Cond := .code yX4_shownWidthOf cX4_shownWidthOf 2 (some .int) :: ([.fieldLink RX4 31 "BlackBars$Sheet" "shownWidths" "LBlackBars$Row;", .methodLink RX4 87 yX3_at, .instanceMethod yX3_at, .selects RX3 yX3_at yX3_at, .initialized RX3, .code yX3_at cX3_at 2 (some .int), .fieldLink RX3 13 "BlackBars$Row" "cells" "[I"] ++ wsX40 ++ wsX30)
def wsX4_lineOf : List Cond := .code yX4_lineOf cX4_lineOf 2 (some .int) :: ([.fieldLink RX4 34 "BlackBars$Sheet" "linesOfWords" "LBlackBars$Row;", .methodLink RX4 87 yX3_at, .instanceMethod yX3_at, .selects RX3 yX3_at yX3_at, .initialized RX3, .code yX3_at cX3_at 2 (some .int), .fieldLink RX3 13 "BlackBars$Row" "cells" "[I"] ++ wsX40 ++ wsX30)
def wsX4_placeOf : List Cond := .code yX4_placeOf cX4_placeOf 2 (some .int) :: ([.fieldLink RX4 37 "BlackBars$Sheet" "places" "LBlackBars$Row;", .methodLink RX4 87 yX3_at, .instanceMethod yX3_at, .selects RX3 yX3_at yX3_at, .initialized RX3, .code yX3_at cX3_at 2 (some .int), .fieldLink RX3 13 "BlackBars$Row" "cells" "[I"] ++ wsX40 ++ wsX30)
def wsX4_lineCount : List Cond := .code yX4_lineCount cX4_lineCount 1 (some .int) :: ([.fieldLink RX4 43 "BlackBars$Sheet" "lines" "I"] ++ wsX40)
def wsX4_hasLine : List Cond := .code yX4_hasLine cX4_hasLine 2 (some .boolean) :: ([.fieldLink RX4 43 "BlackBars$Sheet" "lines" "I"] ++ wsX40)
def wsX4_firstWordOf : List Cond := .code yX4_firstWordOf cX4_firstWordOf 2 (some .int) :: ([.fieldLink RX4 40 "BlackBars$Sheet" "firstWords" "LBlackBars$Row;", .methodLink RX4 87 yX3_at, .instanceMethod yX3_at, .selects RX3 yX3_at yX3_at, .initialized RX3, .code yX3_at cX3_at 2 (some .int), .fieldLink RX3 13 "BlackBars$Row" "cells" "[I"] ++ wsX40 ++ wsX30)
def wsX4_firstWordBehind : List Cond := .code yX4_firstWordBehind cX4_firstWordBehind 2 (some .int) :: ([.fieldLink RX4 43 "BlackBars$Sheet" "lines" "I", .fieldLink RX4 40 "BlackBars$Sheet" "firstWords" "LBlackBars$Row;", .fieldLink RX4 9 "BlackBars$Sheet" "state" "LBlackBars$State;", .methodLink RX4 87 yX3_at, .instanceMethod yX3_at, .selects RX3 yX3_at yX3_at, .initialized RX3, .code yX3_at cX3_at 2 (some .int), .fieldLink RX3 13 "BlackBars$Row" "cells" "[I", .methodLink RX4 53 yX7_size, .instanceMethod yX7_size, .selects RX7 yX7_size yX7_size, .initialized RX7, .code yX7_size cX7_size 1 (some .int), .fieldLink RX7 28 "BlackBars$Words" "size" "I"] ++ wsX40 ++ wsX50 ++ wsX30 ++ wsX70)
def wsX4_widthBetween : List Cond := .code yX4_widthBetween cX4_widthBetween 5 (some .int) :: ([.fieldLink RX4 9 "BlackBars$Sheet" "state" "LBlackBars$State;", .methodLink RX4 108 yX4_shownWidthOf, .instanceMethod yX4_shownWidthOf, .selects RX4 yX4_shownWidthOf yX4_shownWidthOf, .initialized RX4, .code yX4_shownWidthOf cX4_shownWidthOf 2 (some .int), .fieldLink RX4 31 "BlackBars$Sheet" "shownWidths" "LBlackBars$Row;", .methodLink RX4 87 yX3_at, .instanceMethod yX3_at, .selects RX3 yX3_at yX3_at, .initialized RX3, .code yX3_at cX3_at 2 (some .int), .fieldLink RX3 13 "BlackBars$Row" "cells" "[I"] ++ wsX40 ++ wsX50 ++ wsX30)
def wsX4_barsBetween : List Cond := .code yX4_barsBetween cX4_barsBetween 5 (some .int) :: ([.methodLink RX4 94 yX4_isHidden, .instanceMethod yX4_isHidden, .selects RX4 yX4_isHidden yX4_isHidden, .initialized RX4, .code yX4_isHidden cX4_isHidden 2 (some .boolean), .fieldLink RX4 24 "BlackBars$Sheet" "formsOfWords" "LBlackBars$Row;", .methodLink RX4 87 yX3_at, .instanceMethod yX3_at, .selects RX3 yX3_at yX3_at, .initialized RX3, .code yX3_at cX3_at 2 (some .int), .fieldLink RX3 13 "BlackBars$Row" "cells" "[I"] ++ wsX40 ++ wsX30)
def wsX4_sumOfShownWidths_r1 : List Cond := [Cond.fieldLink RX4 9 "BlackBars$Sheet" "state" "LBlackBars$State;", Cond.methodLink RX4 53 yX7_size, Cond.instanceMethod yX7_size, Cond.selects RX7 yX7_size yX7_size, Cond.initialized RX7, Cond.code yX7_size cX7_size 1 (some .int), Cond.fieldLink RX7 28 "BlackBars$Words" "size" "I", Cond.methodLink RX4 90 yX4_widthUnder, Cond.instanceMethod yX4_widthUnder, Cond.selects RX4 yX4_widthUnder yX4_widthUnder, Cond.initialized RX4, Cond.code yX4_widthUnder cX4_widthUnder 3 (some .int), Cond.methodLink RX4 94 yX4_isHidden, Cond.instanceMethod yX4_isHidden, Cond.selects RX4 yX4_isHidden yX4_isHidden, Cond.code yX4_isHidden cX4_isHidden 2 (some .boolean), Cond.fieldLink RX4 24 "BlackBars$Sheet" "formsOfWords" "LBlackBars$Row;", Cond.methodLink RX4 87 yX3_at, Cond.instanceMethod yX3_at, Cond.selects RX3 yX3_at yX3_at, Cond.initialized RX3, Cond.code yX3_at cX3_at 2 (some .int), Cond.fieldLink RX3 13 "BlackBars$Row" "cells" "[I", Cond.methodLink RX4 98 yX4_formOf]
def wsX4_sumOfShownWidths_r2 : List Cond := [Cond.instanceMethod yX4_formOf, Cond.selects RX4 yX4_formOf yX4_formOf, Cond.code yX4_formOf cX4_formOf 2 (some .int), Cond.methodLink RX4 101 yX0_widthOf, Cond.instanceMethod yX0_widthOf, Cond.selects RX0 yX0_widthOf yX0_widthOf, Cond.initialized RX0, Cond.code yX0_widthOf cX0_widthOf 2 (some .int), Cond.fieldLink RX0 20 "BlackBars$Bars" "widths" "LBlackBars$Row;", Cond.methodLink RX0 55 yX3_at, Cond.methodLink RX4 105 yX4_ownWidthOf, Cond.instanceMethod yX4_ownWidthOf, Cond.selects RX4 yX4_ownWidthOf yX4_ownWidthOf, Cond.code yX4_ownWidthOf cX4_ownWidthOf 2 (some .int), Cond.fieldLink RX4 28 "BlackBars$Sheet" "ownWidths" "LBlackBars$Row;"]
def wsX4_sumOfShownWidths : List Cond := .code yX4_sumOfShownWidths cX4_sumOfShownWidths 4 (some .int) :: ((wsX4_sumOfShownWidths_r1 ++ wsX4_sumOfShownWidths_r2) ++ wsX40 ++ wsX50 ++ wsX70 ++ wsX30 ++ wsX00)
def wsX4_sumOfGaps_r1 : List Cond := [Cond.fieldLink RX4 9 "BlackBars$Sheet" "state" "LBlackBars$State;", Cond.fieldLink RX4 15 "BlackBars$Sheet" "forms" "LBlackBars$Forms;", Cond.methodLink RX4 53 yX7_size, Cond.instanceMethod yX7_size, Cond.selects RX7 yX7_size yX7_size, Cond.initialized RX7, Cond.code yX7_size cX7_size 1 (some .int), Cond.fieldLink RX7 28 "BlackBars$Words" "size" "I", Cond.methodLink RX4 94 yX4_isHidden, Cond.instanceMethod yX4_isHidden, Cond.selects RX4 yX4_isHidden yX4_isHidden, Cond.initialized RX4, Cond.code yX4_isHidden cX4_isHidden 2 (some .boolean), Cond.fieldLink RX4 24 "BlackBars$Sheet" "formsOfWords" "LBlackBars$Row;", Cond.methodLink RX4 87 yX3_at, Cond.instanceMethod yX3_at, Cond.selects RX3 yX3_at yX3_at, Cond.initialized RX3, Cond.code yX3_at cX3_at 2 (some .int), Cond.fieldLink RX3 13 "BlackBars$Row" "cells" "[I", Cond.methodLink RX4 98 yX4_formOf, Cond.instanceMethod yX4_formOf, Cond.selects RX4 yX4_formOf yX4_formOf, Cond.code yX4_formOf cX4_formOf 2 (some .int)]
def wsX4_sumOfGaps_r2 : List Cond := [Cond.methodLink RX4 101 yX0_widthOf, Cond.instanceMethod yX0_widthOf, Cond.selects RX0 yX0_widthOf yX0_widthOf, Cond.initialized RX0, Cond.code yX0_widthOf cX0_widthOf 2 (some .int), Cond.fieldLink RX0 20 "BlackBars$Bars" "widths" "LBlackBars$Row;", Cond.methodLink RX0 55 yX3_at, Cond.methodLink RX4 111 yX1_widthOf, Cond.instanceMethod yX1_widthOf, Cond.selects RX1 yX1_widthOf yX1_widthOf, Cond.initialized RX1, Cond.code yX1_widthOf cX1_widthOf 2 (some .int), Cond.fieldLink RX1 14 "BlackBars$Forms" "widths" "LBlackBars$Row;", Cond.methodLink RX1 33 yX3_at]
def wsX4_sumOfGaps : List Cond := .code yX4_sumOfGaps cX4_sumOfGaps 4 (some .int) :: ((wsX4_sumOfGaps_r1 ++ wsX4_sumOfGaps_r2) ++ wsX40 ++ wsX50 ++ wsX70 ++ wsX30 ++ wsX00 ++ wsX10)
def wsX4_hasBarAhead : List Cond := .code yX4_hasBarAhead cX4_hasBarAhead 3 (some .boolean) :: ([.methodLink RX4 94 yX4_isHidden, .instanceMethod yX4_isHidden, .selects RX4 yX4_isHidden yX4_isHidden, .initialized RX4, .code yX4_isHidden cX4_isHidden 2 (some .boolean), .fieldLink RX4 24 "BlackBars$Sheet" "formsOfWords" "LBlackBars$Row;", .methodLink RX4 87 yX3_at, .instanceMethod yX3_at, .selects RX3 yX3_at yX3_at, .initialized RX3, .code yX3_at cX3_at 2 (some .int), .fieldLink RX3 13 "BlackBars$Row" "cells" "[I", .methodLink RX4 108 yX4_shownWidthOf, .instanceMethod yX4_shownWidthOf, .selects RX4 yX4_shownWidthOf yX4_shownWidthOf, .code yX4_shownWidthOf cX4_shownWidthOf 2 (some .int), .fieldLink RX4 31 "BlackBars$Sheet" "shownWidths" "LBlackBars$Row;"] ++ wsX40 ++ wsX30)
def wsX4_differentBarWidths_r1 : List Cond := [Cond.fieldLink RX4 9 "BlackBars$Sheet" "state" "LBlackBars$State;", Cond.methodLink RX4 53 yX7_size, Cond.instanceMethod yX7_size, Cond.selects RX7 yX7_size yX7_size, Cond.initialized RX7, Cond.code yX7_size cX7_size 1 (some .int), Cond.fieldLink RX7 28 "BlackBars$Words" "size" "I", Cond.methodLink RX4 94 yX4_isHidden, Cond.instanceMethod yX4_isHidden, Cond.selects RX4 yX4_isHidden yX4_isHidden, Cond.initialized RX4, Cond.code yX4_isHidden cX4_isHidden 2 (some .boolean), Cond.fieldLink RX4 24 "BlackBars$Sheet" "formsOfWords" "LBlackBars$Row;", Cond.methodLink RX4 87 yX3_at, Cond.instanceMethod yX3_at, Cond.selects RX3 yX3_at yX3_at, Cond.initialized RX3, Cond.code yX3_at cX3_at 2 (some .int), Cond.fieldLink RX3 13 "BlackBars$Row" "cells" "[I", Cond.methodLink RX4 112 yX4_hasBarAhead, Cond.instanceMethod yX4_hasBarAhead, Cond.selects RX4 yX4_hasBarAhead yX4_hasBarAhead, Cond.code yX4_hasBarAhead cX4_hasBarAhead 3 (some .boolean), Cond.methodLink RX4 108 yX4_shownWidthOf]
def wsX4_differentBarWidths_r2 : List Cond := [Cond.instanceMethod yX4_shownWidthOf, Cond.selects RX4 yX4_shownWidthOf yX4_shownWidthOf, Cond.code yX4_shownWidthOf cX4_shownWidthOf 2 (some .int), Cond.fieldLink RX4 31 "BlackBars$Sheet" "shownWidths" "LBlackBars$Row;"]
def wsX4_differentBarWidths : List Cond := .code yX4_differentBarWidths cX4_differentBarWidths 3 (some .int) :: ((wsX4_differentBarWidths_r1 ++ wsX4_differentBarWidths_r2) ++ wsX40 ++ wsX50 ++ wsX70 ++ wsX30)
def wsJ6_bitCount_0f7a4 : List Cond := .code yJ6_bitCount_0f7a4 cJ6_bitCount_0f7a4 1 (some .int) :: ([.constant RJ6 265 (1431655765), .constant RJ6 266 (858993459), .constant RJ6 267 (252645135)])
def wsX4_namesUnder_r1 : List Cond := [Cond.methodLink RX4 98 yX4_formOf, Cond.instanceMethod yX4_formOf, Cond.selects RX4 yX4_formOf yX4_formOf, Cond.initialized RX4, Cond.code yX4_formOf cX4_formOf 2 (some .int), Cond.fieldLink RX4 24 "BlackBars$Sheet" "formsOfWords" "LBlackBars$Row;", Cond.methodLink RX4 87 yX3_at, Cond.instanceMethod yX3_at, Cond.selects RX3 yX3_at yX3_at, Cond.initialized RX3, Cond.code yX3_at cX3_at 2 (some .int), Cond.fieldLink RX3 13 "BlackBars$Row" "cells" "[I", Cond.methodLink RX4 101 yX0_widthOf, Cond.instanceMethod yX0_widthOf, Cond.selects RX0 yX0_widthOf yX0_widthOf, Cond.initialized RX0, Cond.code yX0_widthOf cX0_widthOf 2 (some .int), Cond.fieldLink RX0 20 "BlackBars$Bars" "widths" "LBlackBars$Row;", Cond.methodLink RX0 55 yX3_at, Cond.methodLink RX4 118 yX0_namesUnder, Cond.instanceMethod yX0_namesUnder, Cond.selects RX0 yX0_namesUnder yX0_namesUnder, Cond.code yX0_namesUnder cX0_namesUnder 4 (some .int), Cond.fieldLink RX0 9 "BlackBars$Bars" "forms" "LBlackBars$Forms;"]
def wsX4_namesUnder_r2 : List Cond := [Cond.methodLink RX0 24 yX1_size, Cond.instanceMethod yX1_size, Cond.selects RX1 yX1_size yX1_size, Cond.initialized RX1, Cond.code yX1_size cX1_size 1 (some .int), Cond.fieldLink RX1 30 "BlackBars$Forms" "size" "I", Cond.methodLink RX0 58 yX1_nameOf, Cond.instanceMethod yX1_nameOf, Cond.selects RX1 yX1_nameOf yX1_nameOf, Cond.code yX1_nameOf cX1_nameOf 2 (some .int), Cond.fieldLink RX1 26 "BlackBars$Forms" "formsOfName" "I", Cond.methodLink RX4 120 yJ6_bitCount_0f7a4, Cond.static yJ6_bitCount_0f7a4, Cond.initialized RJ6, Cond.code yJ6_bitCount_0f7a4 cJ6_bitCount_0f7a4 1 (some .int), Cond.constant RJ6 265 (1431655765), Cond.constant RJ6 266 (858993459), Cond.constant RJ6 267 (252645135)]
def wsX4_namesUnder : List Cond := .code yX4_namesUnder cX4_namesUnder 3 (some .int) :: ((wsX4_namesUnder_r1 ++ wsX4_namesUnder_r2) ++ wsX40 ++ wsX30 ++ wsX00 ++ wsX10)
def wsX4_betrayedBars_r1 : List Cond := [Cond.fieldLink RX4 9 "BlackBars$Sheet" "state" "LBlackBars$State;", Cond.methodLink RX4 53 yX7_size, Cond.instanceMethod yX7_size, Cond.selects RX7 yX7_size yX7_size, Cond.initialized RX7, Cond.code yX7_size cX7_size 1 (some .int), Cond.fieldLink RX7 28 "BlackBars$Words" "size" "I", Cond.methodLink RX4 94 yX4_isHidden, Cond.instanceMethod yX4_isHidden, Cond.selects RX4 yX4_isHidden yX4_isHidden, Cond.initialized RX4, Cond.code yX4_isHidden cX4_isHidden 2 (some .boolean), Cond.fieldLink RX4 24 "BlackBars$Sheet" "formsOfWords" "LBlackBars$Row;", Cond.methodLink RX4 87 yX3_at, Cond.instanceMethod yX3_at, Cond.selects RX3 yX3_at yX3_at, Cond.initialized RX3, Cond.code yX3_at cX3_at 2 (some .int), Cond.fieldLink RX3 13 "BlackBars$Row" "cells" "[I", Cond.methodLink RX4 115 yX4_namesUnder, Cond.instanceMethod yX4_namesUnder, Cond.selects RX4 yX4_namesUnder yX4_namesUnder, Cond.code yX4_namesUnder cX4_namesUnder 3 (some .int), Cond.methodLink RX4 98 yX4_formOf]
def wsX4_betrayedBars_r2 : List Cond := [Cond.instanceMethod yX4_formOf, Cond.selects RX4 yX4_formOf yX4_formOf, Cond.code yX4_formOf cX4_formOf 2 (some .int), Cond.methodLink RX4 101 yX0_widthOf, Cond.instanceMethod yX0_widthOf, Cond.selects RX0 yX0_widthOf yX0_widthOf, Cond.initialized RX0, Cond.code yX0_widthOf cX0_widthOf 2 (some .int), Cond.fieldLink RX0 20 "BlackBars$Bars" "widths" "LBlackBars$Row;", Cond.methodLink RX0 55 yX3_at, Cond.methodLink RX4 118 yX0_namesUnder, Cond.instanceMethod yX0_namesUnder, Cond.selects RX0 yX0_namesUnder yX0_namesUnder, Cond.code yX0_namesUnder cX0_namesUnder 4 (some .int), Cond.fieldLink RX0 9 "BlackBars$Bars" "forms" "LBlackBars$Forms;", Cond.methodLink RX0 24 yX1_size, Cond.instanceMethod yX1_size, Cond.selects RX1 yX1_size yX1_size, Cond.initialized RX1, Cond.code yX1_size cX1_size 1 (some .int), Cond.fieldLink RX1 30 "BlackBars$Forms" "size" "I", Cond.methodLink RX0 58 yX1_nameOf, Cond.instanceMethod yX1_nameOf, Cond.selects RX1 yX1_nameOf yX1_nameOf]
def wsX4_betrayedBars_r3 : List Cond := [Cond.code yX1_nameOf cX1_nameOf 2 (some .int), Cond.fieldLink RX1 26 "BlackBars$Forms" "formsOfName" "I", Cond.methodLink RX4 120 yJ6_bitCount_0f7a4, Cond.static yJ6_bitCount_0f7a4, Cond.initialized RJ6, Cond.code yJ6_bitCount_0f7a4 cJ6_bitCount_0f7a4 1 (some .int), Cond.constant RJ6 265 (1431655765), Cond.constant RJ6 266 (858993459), Cond.constant RJ6 267 (252645135)]
def wsX4_betrayedBars : List Cond := .code yX4_betrayedBars cX4_betrayedBars 4 (some .int) :: ((wsX4_betrayedBars_r1 ++ (wsX4_betrayedBars_r2 ++ wsX4_betrayedBars_r3)) ++ wsX40 ++ wsX50 ++ wsX70 ++ wsX30 ++ wsX00 ++ wsX10)
def wsX6_init : List Cond := .code yX6_init cX6_init 1 none :: ([.methodLink RX6 3 objectInit, .instanceMethod objectInit, .code objectInit ⟨#[0xb1]⟩ 1 none, .classLink RX6 9 RX3, .instantiable RX3 1, .initialized RX3, .fieldLink RX6 14 "BlackBars$Text" "characters" "LBlackBars$Row;", .fieldLink RX6 20 "BlackBars$Text" "length" "I", .methodLink RX6 11 yX3_init, .instanceMethod yX3_init, .code yX3_init cX3_init 2 none, .methodLink RX3 1 objectInit, .methodLink RX3 7 Lib.Math.max.name, .static Lib.Math.max.name, .initialized "java/lang/Math", .code Lib.Math.max.name Lib.Math.max.code 2 (some .int), .arrayClass .int, .fieldLink RX3 13 "BlackBars$Row" "cells" "[I"] ++ wsX30 ++ wsX60)
def wsX6_size : List Cond := .code yX6_size cX6_size 1 (some .int) :: ([.fieldLink RX6 20 "BlackBars$Text" "length" "I"] ++ wsX60)
def wsX6_at : List Cond := .code yX6_at cX6_at 2 (some .int) :: ([.fieldLink RX6 14 "BlackBars$Text" "characters" "LBlackBars$Row;", .methodLink RX6 24 yX3_at, .instanceMethod yX3_at, .selects RX3 yX3_at yX3_at, .initialized RX3, .code yX3_at cX3_at 2 (some .int), .fieldLink RX3 13 "BlackBars$Row" "cells" "[I"] ++ wsX60 ++ wsX30)
def wsX6_append : List Cond := .code yX6_append cX6_append 2 none :: ([.fieldLink RX6 20 "BlackBars$Text" "length" "I", .fieldLink RX6 14 "BlackBars$Text" "characters" "LBlackBars$Row;", .methodLink RX6 28 yX3_put, .instanceMethod yX3_put, .selects RX3 yX3_put yX3_put, .initialized RX3, .code yX3_put cX3_put 3 none, .fieldLink RX3 13 "BlackBars$Row" "cells" "[I"] ++ wsX60 ++ wsX30)
def wsX6_empty : List Cond := .code yX6_empty cX6_empty 1 none :: ([.fieldLink RX6 20 "BlackBars$Text" "length" "I"] ++ wsX60)
def wsX8_isLetter : List Cond := .code yX8_isLetter cX8_isLetter 1 (some .boolean) :: ([])
def wsX6_isOneWord : List Cond := .code yX6_isOneWord cX6_isOneWord 3 (some .boolean) :: ([.fieldLink RX6 20 "BlackBars$Text" "length" "I", .fieldLink RX6 14 "BlackBars$Text" "characters" "LBlackBars$Row;", .methodLink RX6 24 yX3_at, .instanceMethod yX3_at, .selects RX3 yX3_at yX3_at, .initialized RX3, .code yX3_at cX3_at 2 (some .int), .fieldLink RX3 13 "BlackBars$Row" "cells" "[I", .static yX8_isLetter, .initialized RX8, .code yX8_isLetter cX8_isLetter 1 (some .boolean)] ++ wsX60 ++ wsX30)
def wsX6_lettersAhead : List Cond := .code yX6_lettersAhead cX6_lettersAhead 3 (some .int) :: ([.fieldLink RX6 14 "BlackBars$Text" "characters" "LBlackBars$Row;", .methodLink RX6 24 yX3_at, .instanceMethod yX3_at, .selects RX3 yX3_at yX3_at, .initialized RX3, .code yX3_at cX3_at 2 (some .int), .fieldLink RX3 13 "BlackBars$Row" "cells" "[I", .static yX8_isLetter, .initialized RX8, .code yX8_isLetter cX8_isLetter 1 (some .boolean)] ++ wsX60 ++ wsX30)
def wsX6_wordsAhead : List Cond := .code yX6_wordsAhead cX6_wordsAhead 4 (some .int) :: ([.fieldLink RX6 14 "BlackBars$Text" "characters" "LBlackBars$Row;", .methodLink RX6 24 yX3_at, .instanceMethod yX3_at, .selects RX3 yX3_at yX3_at, .initialized RX3, .code yX3_at cX3_at 2 (some .int), .fieldLink RX3 13 "BlackBars$Row" "cells" "[I", .static yX8_isLetter, .initialized RX8, .code yX8_isLetter cX8_isLetter 1 (some .boolean)] ++ wsX60 ++ wsX30)
def wsX6_faultReason : List Cond := .code yX6_faultReason cX6_faultReason 4 (some .int) :: ([.fieldLink RX6 14 "BlackBars$Text" "characters" "LBlackBars$Row;", .fieldLink RX6 20 "BlackBars$Text" "length" "I", .methodLink RX6 24 yX3_at, .instanceMethod yX3_at, .selects RX3 yX3_at yX3_at, .initialized RX3, .code yX3_at cX3_at 2 (some .int), .fieldLink RX3 13 "BlackBars$Row" "cells" "[I", .methodLink RX6 39 yX6_lettersAhead, .instanceMethod yX6_lettersAhead, .selects RX6 yX6_lettersAhead yX6_lettersAhead, .initialized RX6, .code yX6_lettersAhead cX6_lettersAhead 3 (some .int), .static yX8_isLetter, .initialized RX8, .code yX8_isLetter cX8_isLetter 1 (some .boolean), .methodLink RX6 42 yX6_wordsAhead, .instanceMethod yX6_wordsAhead, .selects RX6 yX6_wordsAhead yX6_wordsAhead, .code yX6_wordsAhead cX6_wordsAhead 4 (some .int)] ++ wsX60 ++ wsX30)
def wsX6_faultIndex : List Cond := .code yX6_faultIndex cX6_faultIndex 2 (some .int) :: ([.fieldLink RX6 20 "BlackBars$Text" "length" "I", .methodLink RX6 36 yX6_faultReason, .instanceMethod yX6_faultReason, .selects RX6 yX6_faultReason yX6_faultReason, .initialized RX6, .code yX6_faultReason cX6_faultReason 4 (some .int), .fieldLink RX6 14 "BlackBars$Text" "characters" "LBlackBars$Row;", .methodLink RX6 24 yX3_at, .instanceMethod yX3_at, .selects RX3 yX3_at yX3_at, .initialized RX3, .code yX3_at cX3_at 2 (some .int), .fieldLink RX3 13 "BlackBars$Row" "cells" "[I", .methodLink RX6 39 yX6_lettersAhead, .instanceMethod yX6_lettersAhead, .selects RX6 yX6_lettersAhead yX6_lettersAhead, .code yX6_lettersAhead cX6_lettersAhead 3 (some .int), .static yX8_isLetter, .initialized RX8, .code yX8_isLetter cX8_isLetter 1 (some .boolean), .methodLink RX6 42 yX6_wordsAhead, .instanceMethod yX6_wordsAhead, .selects RX6 yX6_wordsAhead yX6_wordsAhead, .code yX6_wordsAhead cX6_wordsAhead 4 (some .int)] ++ wsX60 ++ wsX30)
def wsX7_has : List Cond := .code yX7_has cX7_has 2 (some .boolean) :: ([.fieldLink RX7 28 "BlackBars$Words" "size" "I"] ++ wsX70)
def wsX7_isFull : List Cond := .code yX7_isFull cX7_isFull 1 (some .boolean) :: ([.fieldLink RX7 28 "BlackBars$Words" "size" "I", .fieldLink RX7 7 "BlackBars$Words" "mostWords" "I"] ++ wsX70)
def wsX7_greatestLength : List Cond := .code yX7_greatestLength cX7_greatestLength 1 (some .int) :: ([.fieldLink RX7 13 "BlackBars$Words" "mostLetters" "I"] ++ wsX70)
def wsX7_isWord_r1 : List Cond := [Cond.methodLink RX7 39 yX7_lengthOf, Cond.instanceMethod yX7_lengthOf, Cond.selects RX7 yX7_lengthOf yX7_lengthOf, Cond.initialized RX7, Cond.code yX7_lengthOf cX7_lengthOf 2 (some .int), Cond.fieldLink RX7 25 "BlackBars$Words" "lengths" "LBlackBars$Row;", Cond.methodLink RX7 31 yX3_at, Cond.instanceMethod yX3_at, Cond.selects RX3 yX3_at yX3_at, Cond.initialized RX3, Cond.code yX3_at cX3_at 2 (some .int), Cond.fieldLink RX3 13 "BlackBars$Row" "cells" "[I", Cond.methodLink RX7 42 yX6_size, Cond.instanceMethod yX6_size, Cond.selects RX6 yX6_size yX6_size, Cond.initialized RX6, Cond.code yX6_size cX6_size 1 (some .int), Cond.fieldLink RX6 20 "BlackBars$Text" "length" "I", Cond.methodLink RX7 47 yX7_letterOf, Cond.instanceMethod yX7_letterOf, Cond.selects RX7 yX7_letterOf yX7_letterOf, Cond.code yX7_letterOf cX7_letterOf 3 (some .int), Cond.fieldLink RX7 21 "BlackBars$Words" "letters" "LBlackBars$Row;", Cond.fieldLink RX7 13 "BlackBars$Words" "mostLetters" "I"]
def wsX7_isWord_r2 : List Cond := [Cond.methodLink RX7 51 yX6_at, Cond.instanceMethod yX6_at, Cond.selects RX6 yX6_at yX6_at, Cond.code yX6_at cX6_at 2 (some .int), Cond.fieldLink RX6 14 "BlackBars$Text" "characters" "LBlackBars$Row;", Cond.methodLink RX6 24 yX3_at]
def wsX7_isWord : List Cond := .code yX7_isWord cX7_isWord 4 (some .boolean) :: ((wsX7_isWord_r1 ++ wsX7_isWord_r2) ++ wsX70 ++ wsX30 ++ wsX60)
def wsX7_hasWord_r1 : List Cond := [Cond.fieldLink RX7 28 "BlackBars$Words" "size" "I", Cond.methodLink RX7 35 yX7_isWord, Cond.instanceMethod yX7_isWord, Cond.selects RX7 yX7_isWord yX7_isWord, Cond.initialized RX7, Cond.code yX7_isWord cX7_isWord 4 (some .boolean), Cond.methodLink RX7 39 yX7_lengthOf, Cond.instanceMethod yX7_lengthOf, Cond.selects RX7 yX7_lengthOf yX7_lengthOf, Cond.code yX7_lengthOf cX7_lengthOf 2 (some .int), Cond.fieldLink RX7 25 "BlackBars$Words" "lengths" "LBlackBars$Row;", Cond.methodLink RX7 31 yX3_at, Cond.instanceMethod yX3_at, Cond.selects RX3 yX3_at yX3_at, Cond.initialized RX3, Cond.code yX3_at cX3_at 2 (some .int), Cond.fieldLink RX3 13 "BlackBars$Row" "cells" "[I", Cond.methodLink RX7 42 yX6_size, Cond.instanceMethod yX6_size, Cond.selects RX6 yX6_size yX6_size, Cond.initialized RX6, Cond.code yX6_size cX6_size 1 (some .int), Cond.fieldLink RX6 20 "BlackBars$Text" "length" "I", Cond.methodLink RX7 47 yX7_letterOf]
def wsX7_hasWord_r2 : List Cond := [Cond.instanceMethod yX7_letterOf, Cond.selects RX7 yX7_letterOf yX7_letterOf, Cond.code yX7_letterOf cX7_letterOf 3 (some .int), Cond.fieldLink RX7 21 "BlackBars$Words" "letters" "LBlackBars$Row;", Cond.fieldLink RX7 13 "BlackBars$Words" "mostLetters" "I", Cond.methodLink RX7 51 yX6_at, Cond.instanceMethod yX6_at, Cond.selects RX6 yX6_at yX6_at, Cond.code yX6_at cX6_at 2 (some .int), Cond.fieldLink RX6 14 "BlackBars$Text" "characters" "LBlackBars$Row;", Cond.methodLink RX6 24 yX3_at]
def wsX7_hasWord : List Cond := .code yX7_hasWord cX7_hasWord 3 (some .boolean) :: ((wsX7_hasWord_r1 ++ wsX7_hasWord_r2) ++ wsX70 ++ wsX30 ++ wsX60)
def wsX7_empty : List Cond := .code yX7_empty cX7_empty 1 none :: ([.fieldLink RX7 28 "BlackBars$Words" "size" "I"] ++ wsX70)
def wsX7_beginWord : List Cond := .code yX7_beginWord cX7_beginWord 1 none :: ([.fieldLink RX7 28 "BlackBars$Words" "size" "I", .fieldLink RX7 7 "BlackBars$Words" "mostWords" "I", .fieldLink RX7 25 "BlackBars$Words" "lengths" "LBlackBars$Row;", .methodLink RX7 64 yX3_put, .instanceMethod yX3_put, .selects RX3 yX3_put yX3_put, .initialized RX3, .code yX3_put cX3_put 3 none, .fieldLink RX3 13 "BlackBars$Row" "cells" "[I"] ++ wsX70 ++ wsX30)
def wsX7_addLetter : List Cond := .code yX7_addLetter cX7_addLetter 4 none :: ([.fieldLink RX7 28 "BlackBars$Words" "size" "I", .fieldLink RX7 13 "BlackBars$Words" "mostLetters" "I", .fieldLink RX7 21 "BlackBars$Words" "letters" "LBlackBars$Row;", .fieldLink RX7 25 "BlackBars$Words" "lengths" "LBlackBars$Row;", .methodLink RX7 39 yX7_lengthOf, .instanceMethod yX7_lengthOf, .selects RX7 yX7_lengthOf yX7_lengthOf, .initialized RX7, .code yX7_lengthOf cX7_lengthOf 2 (some .int), .methodLink RX7 31 yX3_at, .instanceMethod yX3_at, .selects RX3 yX3_at yX3_at, .initialized RX3, .code yX3_at cX3_at 2 (some .int), .fieldLink RX3 13 "BlackBars$Row" "cells" "[I", .methodLink RX7 64 yX3_put, .instanceMethod yX3_put, .selects RX3 yX3_put yX3_put, .code yX3_put cX3_put 3 none] ++ wsX70 ++ wsX30)
def wsX7_addWordsOf_r1 : List Cond := [Cond.methodLink RX7 42 yX6_size, Cond.instanceMethod yX6_size, Cond.selects RX6 yX6_size yX6_size, Cond.initialized RX6, Cond.code yX6_size cX6_size 1 (some .int), Cond.fieldLink RX6 20 "BlackBars$Text" "length" "I", Cond.methodLink RX7 51 yX6_at, Cond.instanceMethod yX6_at, Cond.selects RX6 yX6_at yX6_at, Cond.code yX6_at cX6_at 2 (some .int), Cond.fieldLink RX6 14 "BlackBars$Text" "characters" "LBlackBars$Row;", Cond.methodLink RX6 24 yX3_at, Cond.instanceMethod yX3_at, Cond.selects RX3 yX3_at yX3_at, Cond.initialized RX3, Cond.code yX3_at cX3_at 2 (some .int), Cond.fieldLink RX3 13 "BlackBars$Row" "cells" "[I", Cond.static yX8_isLetter, Cond.initialized RX8, Cond.code yX8_isLetter cX8_isLetter 1 (some .boolean), Cond.methodLink RX7 58 yX7_beginWord, Cond.instanceMethod yX7_beginWord, Cond.selects RX7 yX7_beginWord yX7_beginWord, Cond.initialized RX7]
def wsX7_addWordsOf_r2 : List Cond := [Cond.code yX7_beginWord cX7_beginWord 1 none, Cond.fieldLink RX7 28 "BlackBars$Words" "size" "I", Cond.fieldLink RX7 7 "BlackBars$Words" "mostWords" "I", Cond.fieldLink RX7 25 "BlackBars$Words" "lengths" "LBlackBars$Row;", Cond.methodLink RX7 64 yX3_put, Cond.instanceMethod yX3_put, Cond.selects RX3 yX3_put yX3_put, Cond.code yX3_put cX3_put 3 none, Cond.methodLink RX7 61 yX7_addLetter, Cond.instanceMethod yX7_addLetter, Cond.selects RX7 yX7_addLetter yX7_addLetter, Cond.code yX7_addLetter cX7_addLetter 4 none, Cond.fieldLink RX7 13 "BlackBars$Words" "mostLetters" "I", Cond.fieldLink RX7 21 "BlackBars$Words" "letters" "LBlackBars$Row;", Cond.methodLink RX7 39 yX7_lengthOf, Cond.instanceMethod yX7_lengthOf, Cond.selects RX7 yX7_lengthOf yX7_lengthOf, Cond.code yX7_lengthOf cX7_lengthOf 2 (some .int), Cond.methodLink RX7 31 yX3_at]
def wsX7_addWordsOf : List Cond := .code yX7_addWordsOf cX7_addWordsOf 4 none :: ((wsX7_addWordsOf_r1 ++ wsX7_addWordsOf_r2) ++ wsX60 ++ wsX30 ++ wsX70)
def wsX7_remove_r1 : List Cond := [Cond.fieldLink RX7 28 "BlackBars$Words" "size" "I", Cond.fieldLink RX7 25 "BlackBars$Words" "lengths" "LBlackBars$Row;", Cond.fieldLink RX7 13 "BlackBars$Words" "mostLetters" "I", Cond.fieldLink RX7 21 "BlackBars$Words" "letters" "LBlackBars$Row;", Cond.methodLink RX7 68 yX7_has, Cond.instanceMethod yX7_has, Cond.selects RX7 yX7_has yX7_has, Cond.initialized RX7, Cond.code yX7_has cX7_has 2 (some .boolean), Cond.methodLink RX7 39 yX7_lengthOf, Cond.instanceMethod yX7_lengthOf, Cond.selects RX7 yX7_lengthOf yX7_lengthOf, Cond.code yX7_lengthOf cX7_lengthOf 2 (some .int), Cond.methodLink RX7 31 yX3_at, Cond.instanceMethod yX3_at, Cond.selects RX3 yX3_at yX3_at, Cond.initialized RX3, Cond.code yX3_at cX3_at 2 (some .int), Cond.fieldLink RX3 13 "BlackBars$Row" "cells" "[I", Cond.methodLink RX7 64 yX3_put, Cond.instanceMethod yX3_put, Cond.selects RX3 yX3_put yX3_put, Cond.code yX3_put cX3_put 3 none, Cond.methodLink RX7 47 yX7_letterOf]
def wsX7_remove_r2 : List Cond := [Cond.instanceMethod yX7_letterOf, Cond.selects RX7 yX7_letterOf yX7_letterOf, Cond.code yX7_letterOf cX7_letterOf 3 (some .int)]
def wsX7_remove : List Cond := .code yX7_remove cX7_remove 4 none :: ((wsX7_remove_r1 ++ wsX7_remove_r2) ++ wsX70 ++ wsX30)
def wsX8_init_r1 : List Cond := [Cond.methodLink RX8 3 objectInit, Cond.instanceMethod objectInit, Cond.code objectInit ⟨#[0xb1]⟩ 1 none, Cond.classLink RX8 9 RX6, Cond.instantiable RX6 2, Cond.initialized RX6, Cond.fieldLink RX8 12 "BlackBars" "text" "LBlackBars$Text;", Cond.classLink RX8 16 RX5, Cond.instantiable RX5 5, Cond.initialized RX5, Cond.fieldLink RX8 19 "BlackBars" "state" "LBlackBars$State;", Cond.classLink RX8 23 RX2, Cond.instantiable RX2 2, Cond.initialized RX2, Cond.fieldLink RX8 26 "BlackBars" "history" "LBlackBars$History;", Cond.classLink RX8 30 RX1, Cond.instantiable RX1 5, Cond.initialized RX1, Cond.fieldLink RX8 33 "BlackBars" "forms" "LBlackBars$Forms;", Cond.classLink RX8 37 RX0, Cond.instantiable RX0 2, Cond.initialized RX0, Cond.fieldLink RX8 42 "BlackBars" "bars" "LBlackBars$Bars;", Cond.fieldLink RX8 46 "BlackBars" "trialBars" "LBlackBars$Bars;"]
def wsX8_init_r2 : List Cond := [Cond.classLink RX8 49 RX4, Cond.instantiable RX4 9, Cond.initialized RX4, Cond.fieldLink RX8 54 "BlackBars" "sheet" "LBlackBars$Sheet;", Cond.methodLink RX8 11 yX6_init, Cond.instanceMethod yX6_init, Cond.code yX6_init cX6_init 1 none, Cond.methodLink RX6 3 objectInit, Cond.classLink RX6 9 RX3, Cond.instantiable RX3 1, Cond.initialized RX3, Cond.fieldLink RX6 14 "BlackBars$Text" "characters" "LBlackBars$Row;", Cond.fieldLink RX6 20 "BlackBars$Text" "length" "I", Cond.methodLink RX6 11 yX3_init, Cond.instanceMethod yX3_init, Cond.code yX3_init cX3_init 2 none, Cond.methodLink RX3 1 objectInit, Cond.methodLink RX3 7 Lib.Math.max.name, Cond.static Lib.Math.max.name, Cond.initialized "java/lang/Math", Cond.code Lib.Math.max.name Lib.Math.max.code 2 (some .int), Cond.arrayClass .int, Cond.fieldLink RX3 13 "BlackBars$Row" "cells" "[I", Cond.methodLink RX8 18 yX5_init]
def wsX8_init_r3 : List Cond := [Cond.instanceMethod yX5_init, Cond.code yX5_init cX5_init 1 none, Cond.methodLink RX5 3 objectInit, Cond.classLink RX5 9 RX7, Cond.instantiable RX7 5, Cond.initialized RX7, Cond.fieldLink RX5 14 "BlackBars$State" "page" "LBlackBars$Words;", Cond.fieldLink RX5 20 "BlackBars$State" "names" "LBlackBars$Words;", Cond.fieldLink RX5 23 "BlackBars$State" "endings" "LBlackBars$Words;", Cond.classLink RX5 26 RX3, Cond.fieldLink RX5 35 "BlackBars$State" "letterWidths" "LBlackBars$Row;", Cond.fieldLink RX5 42 "BlackBars$State" "settings" "LBlackBars$Row;", Cond.methodLink RX5 11 yX7_init, Cond.instanceMethod yX7_init, Cond.code yX7_init cX7_init 3 none, Cond.methodLink RX7 1 objectInit, Cond.fieldLink RX7 7 "BlackBars$Words" "mostWords" "I", Cond.fieldLink RX7 13 "BlackBars$Words" "mostLetters" "I", Cond.classLink RX7 16 RX3, Cond.fieldLink RX7 21 "BlackBars$Words" "letters" "LBlackBars$Row;", Cond.fieldLink RX7 25 "BlackBars$Words" "lengths" "LBlackBars$Row;", Cond.fieldLink RX7 28 "BlackBars$Words" "size" "I", Cond.methodLink RX7 18 yX3_init, Cond.methodLink RX5 32 yX3_init_]
def wsX8_init_r4 : List Cond := [Cond.instanceMethod yX3_init_, Cond.code yX3_init_ cX3_init_ 2 none, Cond.methodLink RX3 19 ⟨"[I", "clone", "()Ljava/lang/Object;"⟩, Cond.sameMethod "[I" "java/lang/Object" "clone" "()Ljava/lang/Object;", Cond.native ⟨"java/lang/Object", "clone", "()Ljava/lang/Object;"⟩, Cond.instanceMethod ⟨"java/lang/Object", "clone", "()Ljava/lang/Object;"⟩, Cond.selects "[I" ⟨"[I", "clone", "()Ljava/lang/Object;"⟩ ⟨"java/lang/Object", "clone", "()Ljava/lang/Object;"⟩, Cond.classLink RX3 20 "[I", Cond.methodLink RX8 25 yX2_init, Cond.instanceMethod yX2_init, Cond.code yX2_init cX2_init 2 none, Cond.methodLink RX2 3 objectInit, Cond.classLink RX2 9 RX5, Cond.fieldLink RX2 11 "BlackBars$History" "states" "[LBlackBars$State;", Cond.fieldLink RX2 18 "BlackBars$History" "size" "I", Cond.methodLink RX2 17 yX5_init, Cond.methodLink RX8 32 yX1_init, Cond.instanceMethod yX1_init, Cond.code yX1_init cX1_init 1 none, Cond.methodLink RX1 3 objectInit, Cond.classLink RX1 9 RX3, Cond.fieldLink RX1 14 "BlackBars$Forms" "widths" "LBlackBars$Row;", Cond.fieldLink RX1 20 "BlackBars$Forms" "ranks" "LBlackBars$Row;", Cond.fieldLink RX1 23 "BlackBars$Forms" "sortedWidths" "LBlackBars$Row;"]
def wsX8_init_r5 : List Cond := [Cond.fieldLink RX1 26 "BlackBars$Forms" "formsOfName" "I", Cond.fieldLink RX1 30 "BlackBars$Forms" "size" "I", Cond.methodLink RX1 11 yX3_init, Cond.methodLink RX8 39 yX0_init, Cond.instanceMethod yX0_init, Cond.code yX0_init cX0_init 2 none, Cond.methodLink RX0 3 objectInit, Cond.fieldLink RX0 9 "BlackBars$Bars" "forms" "LBlackBars$Forms;", Cond.classLink RX0 15 RX3, Cond.fieldLink RX0 20 "BlackBars$Bars" "widths" "LBlackBars$Row;", Cond.methodLink RX0 17 yX3_init, Cond.methodLink RX8 51 yX4_init, Cond.instanceMethod yX4_init, Cond.code yX4_init cX4_init 3 none, Cond.methodLink RX4 3 objectInit, Cond.fieldLink RX4 9 "BlackBars$Sheet" "state" "LBlackBars$State;", Cond.fieldLink RX4 15 "BlackBars$Sheet" "forms" "LBlackBars$Forms;", Cond.classLink RX4 19 RX3, Cond.fieldLink RX4 24 "BlackBars$Sheet" "formsOfWords" "LBlackBars$Row;", Cond.fieldLink RX4 28 "BlackBars$Sheet" "ownWidths" "LBlackBars$Row;", Cond.fieldLink RX4 31 "BlackBars$Sheet" "shownWidths" "LBlackBars$Row;", Cond.fieldLink RX4 34 "BlackBars$Sheet" "linesOfWords" "LBlackBars$Row;", Cond.fieldLink RX4 37 "BlackBars$Sheet" "places" "LBlackBars$Row;", Cond.fieldLink RX4 40 "BlackBars$Sheet" "firstWords" "LBlackBars$Row;"]
def wsX8_init_r6 : List Cond := [Cond.fieldLink RX4 43 "BlackBars$Sheet" "lines" "I", Cond.methodLink RX4 21 yX3_init]
def wsX8_init : List Cond := .code yX8_init cX8_init 1 none :: ((wsX8_init_r1 ++ (wsX8_init_r2 ++ (wsX8_init_r3 ++ (wsX8_init_r4 ++ (wsX8_init_r5 ++ wsX8_init_r6))))) ++ wsX60 ++ wsX80 ++ wsX50 ++ wsX20 ++ wsX10 ++ wsX00 ++ wsX40 ++ wsX30 ++ wsX70)
def wsX8_type : List Cond := .code yX8_type cX8_type 2 (some .int) :: ([.fieldLink RX8 12 "BlackBars" "text" "LBlackBars$Text;", .methodLink RX8 58 yX6_size, .instanceMethod yX6_size, .selects RX6 yX6_size yX6_size, .initialized RX6, .code yX6_size cX6_size 1 (some .int), .fieldLink RX6 20 "BlackBars$Text" "length" "I", .methodLink RX8 62 yX6_append, .instanceMethod yX6_append, .selects RX6 yX6_append yX6_append, .code yX6_append cX6_append 2 none, .fieldLink RX6 14 "BlackBars$Text" "characters" "LBlackBars$Row;", .methodLink RX6 28 yX3_put, .instanceMethod yX3_put, .selects RX3 yX3_put yX3_put, .initialized RX3, .code yX3_put cX3_put 3 none, .fieldLink RX3 13 "BlackBars$Row" "cells" "[I"] ++ wsX80 ++ wsX60 ++ wsX30)
def wsX8_clearText : List Cond := .code yX8_clearText cX8_clearText 2 (some .int) :: ([.fieldLink RX8 12 "BlackBars" "text" "LBlackBars$Text;", .methodLink RX8 58 yX6_size, .instanceMethod yX6_size, .selects RX6 yX6_size yX6_size, .initialized RX6, .code yX6_size cX6_size 1 (some .int), .fieldLink RX6 20 "BlackBars$Text" "length" "I", .methodLink RX8 66 yX6_empty, .instanceMethod yX6_empty, .selects RX6 yX6_empty yX6_empty, .code yX6_empty cX6_empty 1 none] ++ wsX80 ++ wsX60)
def wsX8_workOut_r1 : List Cond := [Cond.fieldLink RX8 33 "BlackBars" "forms" "LBlackBars$Forms;", Cond.fieldLink RX8 19 "BlackBars" "state" "LBlackBars$State;", Cond.fieldLink RX8 42 "BlackBars" "bars" "LBlackBars$Bars;", Cond.fieldLink RX8 54 "BlackBars" "sheet" "LBlackBars$Sheet;", Cond.methodLink RX8 240 yX1_measure, Cond.instanceMethod yX1_measure, Cond.selects RX1 yX1_measure yX1_measure, Cond.initialized RX1, Cond.code yX1_measure cX1_measure 4 none, Cond.fieldLink RX1 26 "BlackBars$Forms" "formsOfName" "I", Cond.fieldLink RX1 30 "BlackBars$Forms" "size" "I", Cond.fieldLink RX1 14 "BlackBars$Forms" "widths" "LBlackBars$Row;", Cond.fieldLink RX1 20 "BlackBars$Forms" "ranks" "LBlackBars$Row;", Cond.fieldLink RX1 23 "BlackBars$Forms" "sortedWidths" "LBlackBars$Row;", Cond.methodLink RX1 43 yX7_size, Cond.instanceMethod yX7_size, Cond.selects RX7 yX7_size yX7_size, Cond.initialized RX7, Cond.code yX7_size cX7_size 1 (some .int), Cond.fieldLink RX7 28 "BlackBars$Words" "size" "I", Cond.methodLink RX1 51 yX1_nameOf, Cond.instanceMethod yX1_nameOf, Cond.selects RX1 yX1_nameOf yX1_nameOf, Cond.code yX1_nameOf cX1_nameOf 2 (some .int)]
def wsX8_workOut_r2 : List Cond := [Cond.methodLink RX1 54 yX1_endingOf, Cond.instanceMethod yX1_endingOf, Cond.selects RX1 yX1_endingOf yX1_endingOf, Cond.code yX1_endingOf cX1_endingOf 2 (some .int), Cond.methodLink RX1 57 yX5_widthOfForm, Cond.instanceMethod yX5_widthOfForm, Cond.selects RX5 yX5_widthOfForm yX5_widthOfForm, Cond.initialized RX5, Cond.code yX5_widthOfForm cX5_widthOfForm 3 (some .int), Cond.fieldLink RX5 20 "BlackBars$State" "names" "LBlackBars$Words;", Cond.fieldLink RX5 35 "BlackBars$State" "letterWidths" "LBlackBars$Row;", Cond.fieldLink RX5 23 "BlackBars$State" "endings" "LBlackBars$Words;", Cond.methodLink RX5 49 yX7_widthOf, Cond.instanceMethod yX7_widthOf, Cond.selects RX7 yX7_widthOf yX7_widthOf, Cond.code yX7_widthOf cX7_widthOf 7 (some .int), Cond.fieldLink RX7 13 "BlackBars$Words" "mostLetters" "I", Cond.fieldLink RX7 25 "BlackBars$Words" "lengths" "LBlackBars$Row;", Cond.fieldLink RX7 21 "BlackBars$Words" "letters" "LBlackBars$Row;", Cond.methodLink RX7 31 yX3_at, Cond.instanceMethod yX3_at, Cond.selects RX3 yX3_at yX3_at, Cond.initialized RX3, Cond.code yX3_at cX3_at 2 (some .int)]
def wsX8_workOut_r3 : List Cond := [Cond.fieldLink RX3 13 "BlackBars$Row" "cells" "[I", Cond.methodLink RX1 61 yX3_put, Cond.instanceMethod yX3_put, Cond.selects RX3 yX3_put yX3_put, Cond.code yX3_put cX3_put 3 none, Cond.methodLink RX1 65 yX1_formsAheadOf, Cond.instanceMethod yX1_formsAheadOf, Cond.selects RX1 yX1_formsAheadOf yX1_formsAheadOf, Cond.code yX1_formsAheadOf cX1_formsAheadOf 6 (some .int), Cond.methodLink RX1 33 yX3_at, Cond.methodLink RX8 117 yX3_at, Cond.methodLink RX8 229 yX0_draw, Cond.instanceMethod yX0_draw, Cond.selects RX0 yX0_draw yX0_draw, Cond.initialized RX0, Cond.code yX0_draw cX0_draw 5 none, Cond.fieldLink RX0 9 "BlackBars$Bars" "forms" "LBlackBars$Forms;", Cond.fieldLink RX0 20 "BlackBars$Bars" "widths" "LBlackBars$Row;", Cond.methodLink RX0 24 yX1_size, Cond.instanceMethod yX1_size, Cond.selects RX1 yX1_size yX1_size, Cond.code yX1_size cX1_size 1 (some .int), Cond.methodLink RX0 30 yX0_barWidth, Cond.instanceMethod yX0_barWidth]
def wsX8_workOut_r4 : List Cond := [Cond.selects RX0 yX0_barWidth yX0_barWidth, Cond.code yX0_barWidth cX0_barWidth 5 (some .int), Cond.methodLink RX0 38 yX1_widthOf, Cond.instanceMethod yX1_widthOf, Cond.selects RX1 yX1_widthOf yX1_widthOf, Cond.code yX1_widthOf cX1_widthOf 2 (some .int), Cond.methodLink RX0 42 yX0_upToMultiple, Cond.static yX0_upToMultiple, Cond.code yX0_upToMultiple cX0_upToMultiple 2 (some .int), Cond.methodLink RX0 46 yX1_rankOf, Cond.instanceMethod yX1_rankOf, Cond.selects RX1 yX1_rankOf yX1_rankOf, Cond.code yX1_rankOf cX1_rankOf 2 (some .int), Cond.methodLink RX0 49 yX0_lastRankOfGroup, Cond.instanceMethod yX0_lastRankOfGroup, Cond.selects RX0 yX0_lastRankOfGroup yX0_lastRankOfGroup, Cond.code yX0_lastRankOfGroup cX0_lastRankOfGroup 5 (some .int), Cond.methodLink RX0 52 yX1_widthAtRank, Cond.instanceMethod yX1_widthAtRank, Cond.selects RX1 yX1_widthAtRank yX1_widthAtRank, Cond.code yX1_widthAtRank cX1_widthAtRank 2 (some .int), Cond.methodLink RX0 34 yX3_put, Cond.methodLink RX8 243 yX4_hideWords, Cond.instanceMethod yX4_hideWords]
def wsX8_workOut_r5 : List Cond := [Cond.selects RX4 yX4_hideWords yX4_hideWords, Cond.initialized RX4, Cond.code yX4_hideWords cX4_hideWords 4 none, Cond.fieldLink RX4 9 "BlackBars$Sheet" "state" "LBlackBars$State;", Cond.fieldLink RX4 15 "BlackBars$Sheet" "forms" "LBlackBars$Forms;", Cond.fieldLink RX4 24 "BlackBars$Sheet" "formsOfWords" "LBlackBars$Row;", Cond.fieldLink RX4 28 "BlackBars$Sheet" "ownWidths" "LBlackBars$Row;", Cond.methodLink RX4 53 yX7_size, Cond.methodLink RX4 59 yX1_size, Cond.methodLink RX4 62 yX1_nameOf, Cond.methodLink RX4 66 yX1_endingOf, Cond.methodLink RX4 69 yX5_isForm, Cond.instanceMethod yX5_isForm, Cond.selects RX5 yX5_isForm yX5_isForm, Cond.code yX5_isForm cX5_isForm 8 (some .boolean), Cond.fieldLink RX5 14 "BlackBars$State" "page" "LBlackBars$Words;", Cond.methodLink RX5 45 yX7_lengthOf, Cond.instanceMethod yX7_lengthOf, Cond.selects RX7 yX7_lengthOf yX7_lengthOf, Cond.code yX7_lengthOf cX7_lengthOf 2 (some .int), Cond.methodLink RX5 53 yX7_letterOf, Cond.instanceMethod yX7_letterOf, Cond.selects RX7 yX7_letterOf yX7_letterOf, Cond.code yX7_letterOf cX7_letterOf 3 (some .int)]
def wsX8_workOut_r6 : List Cond := [Cond.methodLink RX4 73 yX3_put, Cond.methodLink RX4 80 yX7_widthOf, Cond.methodLink RX8 246 yX4_flow, Cond.instanceMethod yX4_flow, Cond.selects RX4 yX4_flow yX4_flow, Cond.code yX4_flow cX4_flow 8 none, Cond.fieldLink RX4 43 "BlackBars$Sheet" "lines" "I", Cond.fieldLink RX4 40 "BlackBars$Sheet" "firstWords" "LBlackBars$Row;", Cond.fieldLink RX4 31 "BlackBars$Sheet" "shownWidths" "LBlackBars$Row;", Cond.fieldLink RX4 34 "BlackBars$Sheet" "linesOfWords" "LBlackBars$Row;", Cond.fieldLink RX4 37 "BlackBars$Sheet" "places" "LBlackBars$Row;", Cond.methodLink RX4 87 yX3_at, Cond.methodLink RX4 90 yX4_widthUnder, Cond.instanceMethod yX4_widthUnder, Cond.selects RX4 yX4_widthUnder yX4_widthUnder, Cond.code yX4_widthUnder cX4_widthUnder 3 (some .int), Cond.methodLink RX4 94 yX4_isHidden, Cond.instanceMethod yX4_isHidden, Cond.selects RX4 yX4_isHidden yX4_isHidden, Cond.code yX4_isHidden cX4_isHidden 2 (some .boolean), Cond.methodLink RX4 98 yX4_formOf, Cond.instanceMethod yX4_formOf, Cond.selects RX4 yX4_formOf yX4_formOf, Cond.code yX4_formOf cX4_formOf 2 (some .int)]
def wsX8_workOut_r7 : List Cond := [Cond.methodLink RX4 101 yX0_widthOf, Cond.instanceMethod yX0_widthOf, Cond.selects RX0 yX0_widthOf yX0_widthOf, Cond.code yX0_widthOf cX0_widthOf 2 (some .int), Cond.methodLink RX0 55 yX3_at, Cond.methodLink RX4 105 yX4_ownWidthOf, Cond.instanceMethod yX4_ownWidthOf, Cond.selects RX4 yX4_ownWidthOf yX4_ownWidthOf, Cond.code yX4_ownWidthOf cX4_ownWidthOf 2 (some .int)]
def wsX8_workOut : List Cond := .code yX8_workOut cX8_workOut 1 none :: ((wsX8_workOut_r1 ++ (wsX8_workOut_r2 ++ (wsX8_workOut_r3 ++ (wsX8_workOut_r4 ++ (wsX8_workOut_r5 ++ (wsX8_workOut_r6 ++ wsX8_workOut_r7)))))) ++ wsX80 ++ wsX50 ++ wsX10 ++ wsX70 ++ wsX30 ++ wsX00 ++ wsX40)
def wsX8_page_r1 : List Cond := [Cond.fieldLink RX8 12 "BlackBars" "text" "LBlackBars$Text;", Cond.fieldLink RX8 26 "BlackBars" "history" "LBlackBars$History;", Cond.fieldLink RX8 19 "BlackBars" "state" "LBlackBars$State;", Cond.methodLink RX8 69 yX6_faultIndex, Cond.instanceMethod yX6_faultIndex, Cond.selects RX6 yX6_faultIndex yX6_faultIndex, Cond.initialized RX6, Cond.code yX6_faultIndex cX6_faultIndex 2 (some .int), Cond.fieldLink RX6 20 "BlackBars$Text" "length" "I", Cond.methodLink RX6 36 yX6_faultReason, Cond.instanceMethod yX6_faultReason, Cond.selects RX6 yX6_faultReason yX6_faultReason, Cond.code yX6_faultReason cX6_faultReason 4 (some .int), Cond.fieldLink RX6 14 "BlackBars$Text" "characters" "LBlackBars$Row;", Cond.methodLink RX6 24 yX3_at, Cond.instanceMethod yX3_at, Cond.selects RX3 yX3_at yX3_at, Cond.initialized RX3, Cond.code yX3_at cX3_at 2 (some .int), Cond.fieldLink RX3 13 "BlackBars$Row" "cells" "[I", Cond.methodLink RX6 39 yX6_lettersAhead, Cond.instanceMethod yX6_lettersAhead, Cond.selects RX6 yX6_lettersAhead yX6_lettersAhead, Cond.code yX6_lettersAhead cX6_lettersAhead 3 (some .int)]
def wsX8_page_r2 : List Cond := [Cond.static yX8_isLetter, Cond.initialized RX8, Cond.code yX8_isLetter cX8_isLetter 1 (some .boolean), Cond.methodLink RX6 42 yX6_wordsAhead, Cond.instanceMethod yX6_wordsAhead, Cond.selects RX6 yX6_wordsAhead yX6_wordsAhead, Cond.code yX6_wordsAhead cX6_wordsAhead 4 (some .int), Cond.methodLink RX8 76 yX2_keep, Cond.instanceMethod yX2_keep, Cond.selects RX2 yX2_keep yX2_keep, Cond.initialized RX2, Cond.code yX2_keep cX2_keep 3 none, Cond.fieldLink RX2 18 "BlackBars$History" "size" "I", Cond.fieldLink RX2 11 "BlackBars$History" "states" "[LBlackBars$State;", Cond.methodLink RX2 22 yX2_moveOldestToEnd, Cond.instanceMethod yX2_moveOldestToEnd, Cond.selects RX2 yX2_moveOldestToEnd yX2_moveOldestToEnd, Cond.code yX2_moveOldestToEnd cX2_moveOldestToEnd 3 none, Cond.methodLink RX2 25 yX2_latest, Cond.instanceMethod yX2_latest, Cond.selects RX2 yX2_latest yX2_latest, Cond.code yX2_latest cX2_latest 1 (some (.object "BlackBars$State")), Cond.methodLink RX2 29 yX5_copyFrom, Cond.instanceMethod yX5_copyFrom]
def wsX8_page_r3 : List Cond := [Cond.selects RX5 yX5_copyFrom yX5_copyFrom, Cond.initialized RX5, Cond.code yX5_copyFrom cX5_copyFrom 2 none, Cond.fieldLink RX5 14 "BlackBars$State" "page" "LBlackBars$Words;", Cond.fieldLink RX5 20 "BlackBars$State" "names" "LBlackBars$Words;", Cond.fieldLink RX5 23 "BlackBars$State" "endings" "LBlackBars$Words;", Cond.fieldLink RX5 35 "BlackBars$State" "letterWidths" "LBlackBars$Row;", Cond.fieldLink RX5 42 "BlackBars$State" "settings" "LBlackBars$Row;", Cond.methodLink RX5 57 yX7_copyFrom, Cond.instanceMethod yX7_copyFrom, Cond.selects RX7 yX7_copyFrom yX7_copyFrom, Cond.initialized RX7, Cond.code yX7_copyFrom cX7_copyFrom 2 none, Cond.fieldLink RX7 21 "BlackBars$Words" "letters" "LBlackBars$Row;", Cond.fieldLink RX7 25 "BlackBars$Words" "lengths" "LBlackBars$Row;", Cond.fieldLink RX7 7 "BlackBars$Words" "mostWords" "I", Cond.fieldLink RX7 28 "BlackBars$Words" "size" "I", Cond.methodLink RX7 75 Lib.Math.min.name, Cond.static Lib.Math.min.name, Cond.initialized "java/lang/Math", Cond.code Lib.Math.min.name Lib.Math.min.code 2 (some .int), Cond.methodLink RX7 71 yX3_copyFrom, Cond.instanceMethod yX3_copyFrom, Cond.selects RX3 yX3_copyFrom yX3_copyFrom]
def wsX8_page_r4 : List Cond := [Cond.code yX3_copyFrom cX3_copyFrom 2 none, Cond.methodLink RX3 24 Lib.Math.min.name, Cond.methodLink RX3 27 arraycopyName, Cond.native arraycopyName, Cond.static arraycopyName, Cond.initialized "java/lang/System", Cond.methodLink RX5 61 yX3_copyFrom, Cond.methodLink RX8 84 yX7_empty, Cond.instanceMethod yX7_empty, Cond.selects RX7 yX7_empty yX7_empty, Cond.code yX7_empty cX7_empty 1 none, Cond.methodLink RX8 87 yX7_addWordsOf, Cond.instanceMethod yX7_addWordsOf, Cond.selects RX7 yX7_addWordsOf yX7_addWordsOf, Cond.code yX7_addWordsOf cX7_addWordsOf 4 none, Cond.methodLink RX7 42 yX6_size, Cond.instanceMethod yX6_size, Cond.selects RX6 yX6_size yX6_size, Cond.code yX6_size cX6_size 1 (some .int), Cond.methodLink RX7 51 yX6_at, Cond.instanceMethod yX6_at, Cond.selects RX6 yX6_at yX6_at, Cond.code yX6_at cX6_at 2 (some .int), Cond.methodLink RX7 58 yX7_beginWord]
def wsX8_page_r5 : List Cond := [Cond.instanceMethod yX7_beginWord, Cond.selects RX7 yX7_beginWord yX7_beginWord, Cond.code yX7_beginWord cX7_beginWord 1 none, Cond.methodLink RX7 64 yX3_put, Cond.instanceMethod yX3_put, Cond.selects RX3 yX3_put yX3_put, Cond.code yX3_put cX3_put 3 none, Cond.methodLink RX7 61 yX7_addLetter, Cond.instanceMethod yX7_addLetter, Cond.selects RX7 yX7_addLetter yX7_addLetter, Cond.code yX7_addLetter cX7_addLetter 4 none, Cond.fieldLink RX7 13 "BlackBars$Words" "mostLetters" "I", Cond.methodLink RX7 39 yX7_lengthOf, Cond.instanceMethod yX7_lengthOf, Cond.selects RX7 yX7_lengthOf yX7_lengthOf, Cond.code yX7_lengthOf cX7_lengthOf 2 (some .int), Cond.methodLink RX7 31 yX3_at, Cond.methodLink RX8 91 yX8_workOut, Cond.instanceMethod yX8_workOut, Cond.selects RX8 yX8_workOut yX8_workOut, Cond.code yX8_workOut cX8_workOut 1 none, Cond.fieldLink RX8 33 "BlackBars" "forms" "LBlackBars$Forms;", Cond.fieldLink RX8 42 "BlackBars" "bars" "LBlackBars$Bars;", Cond.fieldLink RX8 54 "BlackBars" "sheet" "LBlackBars$Sheet;"]
def wsX8_page_r6 : List Cond := [Cond.methodLink RX8 240 yX1_measure, Cond.instanceMethod yX1_measure, Cond.selects RX1 yX1_measure yX1_measure, Cond.initialized RX1, Cond.code yX1_measure cX1_measure 4 none, Cond.fieldLink RX1 26 "BlackBars$Forms" "formsOfName" "I", Cond.fieldLink RX1 30 "BlackBars$Forms" "size" "I", Cond.fieldLink RX1 14 "BlackBars$Forms" "widths" "LBlackBars$Row;", Cond.fieldLink RX1 20 "BlackBars$Forms" "ranks" "LBlackBars$Row;", Cond.fieldLink RX1 23 "BlackBars$Forms" "sortedWidths" "LBlackBars$Row;", Cond.methodLink RX1 43 yX7_size, Cond.instanceMethod yX7_size, Cond.selects RX7 yX7_size yX7_size, Cond.code yX7_size cX7_size 1 (some .int), Cond.methodLink RX1 51 yX1_nameOf, Cond.instanceMethod yX1_nameOf, Cond.selects RX1 yX1_nameOf yX1_nameOf, Cond.code yX1_nameOf cX1_nameOf 2 (some .int), Cond.methodLink RX1 54 yX1_endingOf, Cond.instanceMethod yX1_endingOf, Cond.selects RX1 yX1_endingOf yX1_endingOf, Cond.code yX1_endingOf cX1_endingOf 2 (some .int), Cond.methodLink RX1 57 yX5_widthOfForm, Cond.instanceMethod yX5_widthOfForm]
def wsX8_page_r7 : List Cond := [Cond.selects RX5 yX5_widthOfForm yX5_widthOfForm, Cond.code yX5_widthOfForm cX5_widthOfForm 3 (some .int), Cond.methodLink RX5 49 yX7_widthOf, Cond.instanceMethod yX7_widthOf, Cond.selects RX7 yX7_widthOf yX7_widthOf, Cond.code yX7_widthOf cX7_widthOf 7 (some .int), Cond.methodLink RX1 61 yX3_put, Cond.methodLink RX1 65 yX1_formsAheadOf, Cond.instanceMethod yX1_formsAheadOf, Cond.selects RX1 yX1_formsAheadOf yX1_formsAheadOf, Cond.code yX1_formsAheadOf cX1_formsAheadOf 6 (some .int), Cond.methodLink RX1 33 yX3_at, Cond.methodLink RX8 117 yX3_at, Cond.methodLink RX8 229 yX0_draw, Cond.instanceMethod yX0_draw, Cond.selects RX0 yX0_draw yX0_draw, Cond.initialized RX0, Cond.code yX0_draw cX0_draw 5 none, Cond.fieldLink RX0 9 "BlackBars$Bars" "forms" "LBlackBars$Forms;", Cond.fieldLink RX0 20 "BlackBars$Bars" "widths" "LBlackBars$Row;", Cond.methodLink RX0 24 yX1_size, Cond.instanceMethod yX1_size, Cond.selects RX1 yX1_size yX1_size, Cond.code yX1_size cX1_size 1 (some .int)]
def wsX8_page_r8 : List Cond := [Cond.methodLink RX0 30 yX0_barWidth, Cond.instanceMethod yX0_barWidth, Cond.selects RX0 yX0_barWidth yX0_barWidth, Cond.code yX0_barWidth cX0_barWidth 5 (some .int), Cond.methodLink RX0 38 yX1_widthOf, Cond.instanceMethod yX1_widthOf, Cond.selects RX1 yX1_widthOf yX1_widthOf, Cond.code yX1_widthOf cX1_widthOf 2 (some .int), Cond.methodLink RX0 42 yX0_upToMultiple, Cond.static yX0_upToMultiple, Cond.code yX0_upToMultiple cX0_upToMultiple 2 (some .int), Cond.methodLink RX0 46 yX1_rankOf, Cond.instanceMethod yX1_rankOf, Cond.selects RX1 yX1_rankOf yX1_rankOf, Cond.code yX1_rankOf cX1_rankOf 2 (some .int), Cond.methodLink RX0 49 yX0_lastRankOfGroup, Cond.instanceMethod yX0_lastRankOfGroup, Cond.selects RX0 yX0_lastRankOfGroup yX0_lastRankOfGroup, Cond.code yX0_lastRankOfGroup cX0_lastRankOfGroup 5 (some .int), Cond.methodLink RX0 52 yX1_widthAtRank, Cond.instanceMethod yX1_widthAtRank, Cond.selects RX1 yX1_widthAtRank yX1_widthAtRank, Cond.code yX1_widthAtRank cX1_widthAtRank 2 (some .int), Cond.methodLink RX0 34 yX3_put]
def wsX8_page_r9 : List Cond := [Cond.methodLink RX8 243 yX4_hideWords, Cond.instanceMethod yX4_hideWords, Cond.selects RX4 yX4_hideWords yX4_hideWords, Cond.initialized RX4, Cond.code yX4_hideWords cX4_hideWords 4 none, Cond.fieldLink RX4 9 "BlackBars$Sheet" "state" "LBlackBars$State;", Cond.fieldLink RX4 15 "BlackBars$Sheet" "forms" "LBlackBars$Forms;", Cond.fieldLink RX4 24 "BlackBars$Sheet" "formsOfWords" "LBlackBars$Row;", Cond.fieldLink RX4 28 "BlackBars$Sheet" "ownWidths" "LBlackBars$Row;", Cond.methodLink RX4 53 yX7_size, Cond.methodLink RX4 59 yX1_size, Cond.methodLink RX4 62 yX1_nameOf, Cond.methodLink RX4 66 yX1_endingOf, Cond.methodLink RX4 69 yX5_isForm, Cond.instanceMethod yX5_isForm, Cond.selects RX5 yX5_isForm yX5_isForm, Cond.code yX5_isForm cX5_isForm 8 (some .boolean), Cond.methodLink RX5 45 yX7_lengthOf, Cond.methodLink RX5 53 yX7_letterOf, Cond.instanceMethod yX7_letterOf, Cond.selects RX7 yX7_letterOf yX7_letterOf, Cond.code yX7_letterOf cX7_letterOf 3 (some .int), Cond.methodLink RX4 73 yX3_put, Cond.methodLink RX4 80 yX7_widthOf]
def wsX8_page_r10 : List Cond := [Cond.methodLink RX8 246 yX4_flow, Cond.instanceMethod yX4_flow, Cond.selects RX4 yX4_flow yX4_flow, Cond.code yX4_flow cX4_flow 8 none, Cond.fieldLink RX4 43 "BlackBars$Sheet" "lines" "I", Cond.fieldLink RX4 40 "BlackBars$Sheet" "firstWords" "LBlackBars$Row;", Cond.fieldLink RX4 31 "BlackBars$Sheet" "shownWidths" "LBlackBars$Row;", Cond.fieldLink RX4 34 "BlackBars$Sheet" "linesOfWords" "LBlackBars$Row;", Cond.fieldLink RX4 37 "BlackBars$Sheet" "places" "LBlackBars$Row;", Cond.methodLink RX4 87 yX3_at, Cond.methodLink RX4 90 yX4_widthUnder, Cond.instanceMethod yX4_widthUnder, Cond.selects RX4 yX4_widthUnder yX4_widthUnder, Cond.code yX4_widthUnder cX4_widthUnder 3 (some .int), Cond.methodLink RX4 94 yX4_isHidden, Cond.instanceMethod yX4_isHidden, Cond.selects RX4 yX4_isHidden yX4_isHidden, Cond.code yX4_isHidden cX4_isHidden 2 (some .boolean), Cond.methodLink RX4 98 yX4_formOf, Cond.instanceMethod yX4_formOf, Cond.selects RX4 yX4_formOf yX4_formOf, Cond.code yX4_formOf cX4_formOf 2 (some .int), Cond.methodLink RX4 101 yX0_widthOf, Cond.instanceMethod yX0_widthOf]
def wsX8_page_r11 : List Cond := [Cond.selects RX0 yX0_widthOf yX0_widthOf, Cond.code yX0_widthOf cX0_widthOf 2 (some .int), Cond.methodLink RX0 55 yX3_at, Cond.methodLink RX4 105 yX4_ownWidthOf, Cond.instanceMethod yX4_ownWidthOf, Cond.selects RX4 yX4_ownWidthOf yX4_ownWidthOf, Cond.code yX4_ownWidthOf cX4_ownWidthOf 2 (some .int), Cond.methodLink RX8 94 yX7_size]
def wsX8_page : List Cond := .code yX8_page cX8_page 1 (some .int) :: ((wsX8_page_r1 ++ (wsX8_page_r2 ++ (wsX8_page_r3 ++ (wsX8_page_r4 ++ (wsX8_page_r5 ++ (wsX8_page_r6 ++ (wsX8_page_r7 ++ (wsX8_page_r8 ++ (wsX8_page_r9 ++ (wsX8_page_r10 ++ wsX8_page_r11)))))))))) ++ wsX80 ++ wsX50 ++ wsX60 ++ wsX30 ++ wsX20 ++ wsX70 ++ wsX10 ++ wsX00 ++ wsX40)
def wsX8_addTextTo_r1 : List Cond := [Cond.fieldLink RX8 12 "BlackBars" "text" "LBlackBars$Text;", Cond.fieldLink RX8 26 "BlackBars" "history" "LBlackBars$History;", Cond.fieldLink RX8 19 "BlackBars" "state" "LBlackBars$State;", Cond.methodLink RX8 250 yX7_greatestLength, Cond.instanceMethod yX7_greatestLength, Cond.selects RX7 yX7_greatestLength yX7_greatestLength, Cond.initialized RX7, Cond.code yX7_greatestLength cX7_greatestLength 1 (some .int), Cond.fieldLink RX7 13 "BlackBars$Words" "mostLetters" "I", Cond.methodLink RX8 253 yX6_isOneWord, Cond.instanceMethod yX6_isOneWord, Cond.selects RX6 yX6_isOneWord yX6_isOneWord, Cond.initialized RX6, Cond.code yX6_isOneWord cX6_isOneWord 3 (some .boolean), Cond.fieldLink RX6 20 "BlackBars$Text" "length" "I", Cond.fieldLink RX6 14 "BlackBars$Text" "characters" "LBlackBars$Row;", Cond.methodLink RX6 24 yX3_at, Cond.instanceMethod yX3_at, Cond.selects RX3 yX3_at yX3_at, Cond.initialized RX3, Cond.code yX3_at cX3_at 2 (some .int), Cond.fieldLink RX3 13 "BlackBars$Row" "cells" "[I", Cond.static yX8_isLetter, Cond.initialized RX8]
def wsX8_addTextTo_r2 : List Cond := [Cond.code yX8_isLetter cX8_isLetter 1 (some .boolean), Cond.methodLink RX8 256 yX7_hasWord, Cond.instanceMethod yX7_hasWord, Cond.selects RX7 yX7_hasWord yX7_hasWord, Cond.code yX7_hasWord cX7_hasWord 3 (some .boolean), Cond.fieldLink RX7 28 "BlackBars$Words" "size" "I", Cond.methodLink RX7 35 yX7_isWord, Cond.instanceMethod yX7_isWord, Cond.selects RX7 yX7_isWord yX7_isWord, Cond.code yX7_isWord cX7_isWord 4 (some .boolean), Cond.methodLink RX7 39 yX7_lengthOf, Cond.instanceMethod yX7_lengthOf, Cond.selects RX7 yX7_lengthOf yX7_lengthOf, Cond.code yX7_lengthOf cX7_lengthOf 2 (some .int), Cond.fieldLink RX7 25 "BlackBars$Words" "lengths" "LBlackBars$Row;", Cond.methodLink RX7 31 yX3_at, Cond.methodLink RX7 42 yX6_size, Cond.instanceMethod yX6_size, Cond.selects RX6 yX6_size yX6_size, Cond.code yX6_size cX6_size 1 (some .int), Cond.methodLink RX7 47 yX7_letterOf, Cond.instanceMethod yX7_letterOf, Cond.selects RX7 yX7_letterOf yX7_letterOf, Cond.code yX7_letterOf cX7_letterOf 3 (some .int)]
def wsX8_addTextTo_r3 : List Cond := [Cond.fieldLink RX7 21 "BlackBars$Words" "letters" "LBlackBars$Row;", Cond.methodLink RX7 51 yX6_at, Cond.instanceMethod yX6_at, Cond.selects RX6 yX6_at yX6_at, Cond.code yX6_at cX6_at 2 (some .int), Cond.methodLink RX8 260 yX7_isFull, Cond.instanceMethod yX7_isFull, Cond.selects RX7 yX7_isFull yX7_isFull, Cond.code yX7_isFull cX7_isFull 1 (some .boolean), Cond.fieldLink RX7 7 "BlackBars$Words" "mostWords" "I", Cond.methodLink RX8 76 yX2_keep, Cond.instanceMethod yX2_keep, Cond.selects RX2 yX2_keep yX2_keep, Cond.initialized RX2, Cond.code yX2_keep cX2_keep 3 none, Cond.fieldLink RX2 18 "BlackBars$History" "size" "I", Cond.fieldLink RX2 11 "BlackBars$History" "states" "[LBlackBars$State;", Cond.methodLink RX2 22 yX2_moveOldestToEnd, Cond.instanceMethod yX2_moveOldestToEnd, Cond.selects RX2 yX2_moveOldestToEnd yX2_moveOldestToEnd, Cond.code yX2_moveOldestToEnd cX2_moveOldestToEnd 3 none, Cond.methodLink RX2 25 yX2_latest, Cond.instanceMethod yX2_latest, Cond.selects RX2 yX2_latest yX2_latest]
def wsX8_addTextTo_r4 : List Cond := [Cond.code yX2_latest cX2_latest 1 (some (.object "BlackBars$State")), Cond.methodLink RX2 29 yX5_copyFrom, Cond.instanceMethod yX5_copyFrom, Cond.selects RX5 yX5_copyFrom yX5_copyFrom, Cond.initialized RX5, Cond.code yX5_copyFrom cX5_copyFrom 2 none, Cond.fieldLink RX5 14 "BlackBars$State" "page" "LBlackBars$Words;", Cond.fieldLink RX5 20 "BlackBars$State" "names" "LBlackBars$Words;", Cond.fieldLink RX5 23 "BlackBars$State" "endings" "LBlackBars$Words;", Cond.fieldLink RX5 35 "BlackBars$State" "letterWidths" "LBlackBars$Row;", Cond.fieldLink RX5 42 "BlackBars$State" "settings" "LBlackBars$Row;", Cond.methodLink RX5 57 yX7_copyFrom, Cond.instanceMethod yX7_copyFrom, Cond.selects RX7 yX7_copyFrom yX7_copyFrom, Cond.code yX7_copyFrom cX7_copyFrom 2 none, Cond.methodLink RX7 75 Lib.Math.min.name, Cond.static Lib.Math.min.name, Cond.initialized "java/lang/Math", Cond.code Lib.Math.min.name Lib.Math.min.code 2 (some .int), Cond.methodLink RX7 71 yX3_copyFrom, Cond.instanceMethod yX3_copyFrom, Cond.selects RX3 yX3_copyFrom yX3_copyFrom, Cond.code yX3_copyFrom cX3_copyFrom 2 none, Cond.methodLink RX3 24 Lib.Math.min.name]
def wsX8_addTextTo_r5 : List Cond := [Cond.methodLink RX3 27 arraycopyName, Cond.native arraycopyName, Cond.static arraycopyName, Cond.initialized "java/lang/System", Cond.methodLink RX5 61 yX3_copyFrom, Cond.methodLink RX8 87 yX7_addWordsOf, Cond.instanceMethod yX7_addWordsOf, Cond.selects RX7 yX7_addWordsOf yX7_addWordsOf, Cond.code yX7_addWordsOf cX7_addWordsOf 4 none, Cond.methodLink RX7 58 yX7_beginWord, Cond.instanceMethod yX7_beginWord, Cond.selects RX7 yX7_beginWord yX7_beginWord, Cond.code yX7_beginWord cX7_beginWord 1 none, Cond.methodLink RX7 64 yX3_put, Cond.instanceMethod yX3_put, Cond.selects RX3 yX3_put yX3_put, Cond.code yX3_put cX3_put 3 none, Cond.methodLink RX7 61 yX7_addLetter, Cond.instanceMethod yX7_addLetter, Cond.selects RX7 yX7_addLetter yX7_addLetter, Cond.code yX7_addLetter cX7_addLetter 4 none, Cond.methodLink RX8 91 yX8_workOut, Cond.instanceMethod yX8_workOut, Cond.selects RX8 yX8_workOut yX8_workOut]
def wsX8_addTextTo_r6 : List Cond := [Cond.code yX8_workOut cX8_workOut 1 none, Cond.fieldLink RX8 33 "BlackBars" "forms" "LBlackBars$Forms;", Cond.fieldLink RX8 42 "BlackBars" "bars" "LBlackBars$Bars;", Cond.fieldLink RX8 54 "BlackBars" "sheet" "LBlackBars$Sheet;", Cond.methodLink RX8 240 yX1_measure, Cond.instanceMethod yX1_measure, Cond.selects RX1 yX1_measure yX1_measure, Cond.initialized RX1, Cond.code yX1_measure cX1_measure 4 none, Cond.fieldLink RX1 26 "BlackBars$Forms" "formsOfName" "I", Cond.fieldLink RX1 30 "BlackBars$Forms" "size" "I", Cond.fieldLink RX1 14 "BlackBars$Forms" "widths" "LBlackBars$Row;", Cond.fieldLink RX1 20 "BlackBars$Forms" "ranks" "LBlackBars$Row;", Cond.fieldLink RX1 23 "BlackBars$Forms" "sortedWidths" "LBlackBars$Row;", Cond.methodLink RX1 43 yX7_size, Cond.instanceMethod yX7_size, Cond.selects RX7 yX7_size yX7_size, Cond.code yX7_size cX7_size 1 (some .int), Cond.methodLink RX1 51 yX1_nameOf, Cond.instanceMethod yX1_nameOf, Cond.selects RX1 yX1_nameOf yX1_nameOf, Cond.code yX1_nameOf cX1_nameOf 2 (some .int), Cond.methodLink RX1 54 yX1_endingOf, Cond.instanceMethod yX1_endingOf]
def wsX8_addTextTo_r7 : List Cond := [Cond.selects RX1 yX1_endingOf yX1_endingOf, Cond.code yX1_endingOf cX1_endingOf 2 (some .int), Cond.methodLink RX1 57 yX5_widthOfForm, Cond.instanceMethod yX5_widthOfForm, Cond.selects RX5 yX5_widthOfForm yX5_widthOfForm, Cond.code yX5_widthOfForm cX5_widthOfForm 3 (some .int), Cond.methodLink RX5 49 yX7_widthOf, Cond.instanceMethod yX7_widthOf, Cond.selects RX7 yX7_widthOf yX7_widthOf, Cond.code yX7_widthOf cX7_widthOf 7 (some .int), Cond.methodLink RX1 61 yX3_put, Cond.methodLink RX1 65 yX1_formsAheadOf, Cond.instanceMethod yX1_formsAheadOf, Cond.selects RX1 yX1_formsAheadOf yX1_formsAheadOf, Cond.code yX1_formsAheadOf cX1_formsAheadOf 6 (some .int), Cond.methodLink RX1 33 yX3_at, Cond.methodLink RX8 117 yX3_at, Cond.methodLink RX8 229 yX0_draw, Cond.instanceMethod yX0_draw, Cond.selects RX0 yX0_draw yX0_draw, Cond.initialized RX0, Cond.code yX0_draw cX0_draw 5 none, Cond.fieldLink RX0 9 "BlackBars$Bars" "forms" "LBlackBars$Forms;", Cond.fieldLink RX0 20 "BlackBars$Bars" "widths" "LBlackBars$Row;"]
def wsX8_addTextTo_r8 : List Cond := [Cond.methodLink RX0 24 yX1_size, Cond.instanceMethod yX1_size, Cond.selects RX1 yX1_size yX1_size, Cond.code yX1_size cX1_size 1 (some .int), Cond.methodLink RX0 30 yX0_barWidth, Cond.instanceMethod yX0_barWidth, Cond.selects RX0 yX0_barWidth yX0_barWidth, Cond.code yX0_barWidth cX0_barWidth 5 (some .int), Cond.methodLink RX0 38 yX1_widthOf, Cond.instanceMethod yX1_widthOf, Cond.selects RX1 yX1_widthOf yX1_widthOf, Cond.code yX1_widthOf cX1_widthOf 2 (some .int), Cond.methodLink RX0 42 yX0_upToMultiple, Cond.static yX0_upToMultiple, Cond.code yX0_upToMultiple cX0_upToMultiple 2 (some .int), Cond.methodLink RX0 46 yX1_rankOf, Cond.instanceMethod yX1_rankOf, Cond.selects RX1 yX1_rankOf yX1_rankOf, Cond.code yX1_rankOf cX1_rankOf 2 (some .int), Cond.methodLink RX0 49 yX0_lastRankOfGroup, Cond.instanceMethod yX0_lastRankOfGroup, Cond.selects RX0 yX0_lastRankOfGroup yX0_lastRankOfGroup, Cond.code yX0_lastRankOfGroup cX0_lastRankOfGroup 5 (some .int), Cond.methodLink RX0 52 yX1_widthAtRank]
def wsX8_addTextTo_r9 : List Cond := [Cond.instanceMethod yX1_widthAtRank, Cond.selects RX1 yX1_widthAtRank yX1_widthAtRank, Cond.code yX1_widthAtRank cX1_widthAtRank 2 (some .int), Cond.methodLink RX0 34 yX3_put, Cond.methodLink RX8 243 yX4_hideWords, Cond.instanceMethod yX4_hideWords, Cond.selects RX4 yX4_hideWords yX4_hideWords, Cond.initialized RX4, Cond.code yX4_hideWords cX4_hideWords 4 none, Cond.fieldLink RX4 9 "BlackBars$Sheet" "state" "LBlackBars$State;", Cond.fieldLink RX4 15 "BlackBars$Sheet" "forms" "LBlackBars$Forms;", Cond.fieldLink RX4 24 "BlackBars$Sheet" "formsOfWords" "LBlackBars$Row;", Cond.fieldLink RX4 28 "BlackBars$Sheet" "ownWidths" "LBlackBars$Row;", Cond.methodLink RX4 53 yX7_size, Cond.methodLink RX4 59 yX1_size, Cond.methodLink RX4 62 yX1_nameOf, Cond.methodLink RX4 66 yX1_endingOf, Cond.methodLink RX4 69 yX5_isForm, Cond.instanceMethod yX5_isForm, Cond.selects RX5 yX5_isForm yX5_isForm, Cond.code yX5_isForm cX5_isForm 8 (some .boolean), Cond.methodLink RX5 45 yX7_lengthOf, Cond.methodLink RX5 53 yX7_letterOf, Cond.methodLink RX4 73 yX3_put]
def wsX8_addTextTo_r10 : List Cond := [Cond.methodLink RX4 80 yX7_widthOf, Cond.methodLink RX8 246 yX4_flow, Cond.instanceMethod yX4_flow, Cond.selects RX4 yX4_flow yX4_flow, Cond.code yX4_flow cX4_flow 8 none, Cond.fieldLink RX4 43 "BlackBars$Sheet" "lines" "I", Cond.fieldLink RX4 40 "BlackBars$Sheet" "firstWords" "LBlackBars$Row;", Cond.fieldLink RX4 31 "BlackBars$Sheet" "shownWidths" "LBlackBars$Row;", Cond.fieldLink RX4 34 "BlackBars$Sheet" "linesOfWords" "LBlackBars$Row;", Cond.fieldLink RX4 37 "BlackBars$Sheet" "places" "LBlackBars$Row;", Cond.methodLink RX4 87 yX3_at, Cond.methodLink RX4 90 yX4_widthUnder, Cond.instanceMethod yX4_widthUnder, Cond.selects RX4 yX4_widthUnder yX4_widthUnder, Cond.code yX4_widthUnder cX4_widthUnder 3 (some .int), Cond.methodLink RX4 94 yX4_isHidden, Cond.instanceMethod yX4_isHidden, Cond.selects RX4 yX4_isHidden yX4_isHidden, Cond.code yX4_isHidden cX4_isHidden 2 (some .boolean), Cond.methodLink RX4 98 yX4_formOf, Cond.instanceMethod yX4_formOf, Cond.selects RX4 yX4_formOf yX4_formOf, Cond.code yX4_formOf cX4_formOf 2 (some .int), Cond.methodLink RX4 101 yX0_widthOf]
def wsX8_addTextTo_r11 : List Cond := [Cond.instanceMethod yX0_widthOf, Cond.selects RX0 yX0_widthOf yX0_widthOf, Cond.code yX0_widthOf cX0_widthOf 2 (some .int), Cond.methodLink RX0 55 yX3_at, Cond.methodLink RX4 105 yX4_ownWidthOf, Cond.instanceMethod yX4_ownWidthOf, Cond.selects RX4 yX4_ownWidthOf yX4_ownWidthOf, Cond.code yX4_ownWidthOf cX4_ownWidthOf 2 (some .int), Cond.methodLink RX8 94 yX7_size]
def wsX8_addTextTo : List Cond := .code yX8_addTextTo cX8_addTextTo 2 (some .int) :: ((wsX8_addTextTo_r1 ++ (wsX8_addTextTo_r2 ++ (wsX8_addTextTo_r3 ++ (wsX8_addTextTo_r4 ++ (wsX8_addTextTo_r5 ++ (wsX8_addTextTo_r6 ++ (wsX8_addTextTo_r7 ++ (wsX8_addTextTo_r8 ++ (wsX8_addTextTo_r9 ++ (wsX8_addTextTo_r10 ++ wsX8_addTextTo_r11)))))))))) ++ wsX80 ++ wsX70 ++ wsX60 ++ wsX30 ++ wsX20 ++ wsX50 ++ wsX10 ++ wsX00 ++ wsX40)
def wsX8_name_r1 : List Cond := [Cond.fieldLink RX8 19 "BlackBars" "state" "LBlackBars$State;", Cond.methodLink RX8 98 yX8_addTextTo, Cond.instanceMethod yX8_addTextTo, Cond.selects RX8 yX8_addTextTo yX8_addTextTo, Cond.initialized RX8, Cond.code yX8_addTextTo cX8_addTextTo 2 (some .int), Cond.fieldLink RX8 12 "BlackBars" "text" "LBlackBars$Text;", Cond.fieldLink RX8 26 "BlackBars" "history" "LBlackBars$History;", Cond.methodLink RX8 250 yX7_greatestLength, Cond.instanceMethod yX7_greatestLength, Cond.selects RX7 yX7_greatestLength yX7_greatestLength, Cond.initialized RX7, Cond.code yX7_greatestLength cX7_greatestLength 1 (some .int), Cond.fieldLink RX7 13 "BlackBars$Words" "mostLetters" "I", Cond.methodLink RX8 253 yX6_isOneWord, Cond.instanceMethod yX6_isOneWord, Cond.selects RX6 yX6_isOneWord yX6_isOneWord, Cond.initialized RX6, Cond.code yX6_isOneWord cX6_isOneWord 3 (some .boolean), Cond.fieldLink RX6 20 "BlackBars$Text" "length" "I", Cond.fieldLink RX6 14 "BlackBars$Text" "characters" "LBlackBars$Row;", Cond.methodLink RX6 24 yX3_at, Cond.instanceMethod yX3_at, Cond.selects RX3 yX3_at yX3_at]
def wsX8_name_r2 : List Cond := [Cond.initialized RX3, Cond.code yX3_at cX3_at 2 (some .int), Cond.fieldLink RX3 13 "BlackBars$Row" "cells" "[I", Cond.static yX8_isLetter, Cond.code yX8_isLetter cX8_isLetter 1 (some .boolean), Cond.methodLink RX8 256 yX7_hasWord, Cond.instanceMethod yX7_hasWord, Cond.selects RX7 yX7_hasWord yX7_hasWord, Cond.code yX7_hasWord cX7_hasWord 3 (some .boolean), Cond.fieldLink RX7 28 "BlackBars$Words" "size" "I", Cond.methodLink RX7 35 yX7_isWord, Cond.instanceMethod yX7_isWord, Cond.selects RX7 yX7_isWord yX7_isWord, Cond.code yX7_isWord cX7_isWord 4 (some .boolean), Cond.methodLink RX7 39 yX7_lengthOf, Cond.instanceMethod yX7_lengthOf, Cond.selects RX7 yX7_lengthOf yX7_lengthOf, Cond.code yX7_lengthOf cX7_lengthOf 2 (some .int), Cond.fieldLink RX7 25 "BlackBars$Words" "lengths" "LBlackBars$Row;", Cond.methodLink RX7 31 yX3_at, Cond.methodLink RX7 42 yX6_size, Cond.instanceMethod yX6_size, Cond.selects RX6 yX6_size yX6_size, Cond.code yX6_size cX6_size 1 (some .int)]
def wsX8_name_r3 : List Cond := [Cond.methodLink RX7 47 yX7_letterOf, Cond.instanceMethod yX7_letterOf, Cond.selects RX7 yX7_letterOf yX7_letterOf, Cond.code yX7_letterOf cX7_letterOf 3 (some .int), Cond.fieldLink RX7 21 "BlackBars$Words" "letters" "LBlackBars$Row;", Cond.methodLink RX7 51 yX6_at, Cond.instanceMethod yX6_at, Cond.selects RX6 yX6_at yX6_at, Cond.code yX6_at cX6_at 2 (some .int), Cond.methodLink RX8 260 yX7_isFull, Cond.instanceMethod yX7_isFull, Cond.selects RX7 yX7_isFull yX7_isFull, Cond.code yX7_isFull cX7_isFull 1 (some .boolean), Cond.fieldLink RX7 7 "BlackBars$Words" "mostWords" "I", Cond.methodLink RX8 76 yX2_keep, Cond.instanceMethod yX2_keep, Cond.selects RX2 yX2_keep yX2_keep, Cond.initialized RX2, Cond.code yX2_keep cX2_keep 3 none, Cond.fieldLink RX2 18 "BlackBars$History" "size" "I", Cond.fieldLink RX2 11 "BlackBars$History" "states" "[LBlackBars$State;", Cond.methodLink RX2 22 yX2_moveOldestToEnd, Cond.instanceMethod yX2_moveOldestToEnd, Cond.selects RX2 yX2_moveOldestToEnd yX2_moveOldestToEnd]
def wsX8_name_r4 : List Cond := [Cond.code yX2_moveOldestToEnd cX2_moveOldestToEnd 3 none, Cond.methodLink RX2 25 yX2_latest, Cond.instanceMethod yX2_latest, Cond.selects RX2 yX2_latest yX2_latest, Cond.code yX2_latest cX2_latest 1 (some (.object "BlackBars$State")), Cond.methodLink RX2 29 yX5_copyFrom, Cond.instanceMethod yX5_copyFrom, Cond.selects RX5 yX5_copyFrom yX5_copyFrom, Cond.initialized RX5, Cond.code yX5_copyFrom cX5_copyFrom 2 none, Cond.fieldLink RX5 14 "BlackBars$State" "page" "LBlackBars$Words;", Cond.fieldLink RX5 20 "BlackBars$State" "names" "LBlackBars$Words;", Cond.fieldLink RX5 23 "BlackBars$State" "endings" "LBlackBars$Words;", Cond.fieldLink RX5 35 "BlackBars$State" "letterWidths" "LBlackBars$Row;", Cond.fieldLink RX5 42 "BlackBars$State" "settings" "LBlackBars$Row;", Cond.methodLink RX5 57 yX7_copyFrom, Cond.instanceMethod yX7_copyFrom, Cond.selects RX7 yX7_copyFrom yX7_copyFrom, Cond.code yX7_copyFrom cX7_copyFrom 2 none, Cond.methodLink RX7 75 Lib.Math.min.name, Cond.static Lib.Math.min.name, Cond.initialized "java/lang/Math", Cond.code Lib.Math.min.name Lib.Math.min.code 2 (some .int), Cond.methodLink RX7 71 yX3_copyFrom]
def wsX8_name_r5 : List Cond := [Cond.instanceMethod yX3_copyFrom, Cond.selects RX3 yX3_copyFrom yX3_copyFrom, Cond.code yX3_copyFrom cX3_copyFrom 2 none, Cond.methodLink RX3 24 Lib.Math.min.name, Cond.methodLink RX3 27 arraycopyName, Cond.native arraycopyName, Cond.static arraycopyName, Cond.initialized "java/lang/System", Cond.methodLink RX5 61 yX3_copyFrom, Cond.methodLink RX8 87 yX7_addWordsOf, Cond.instanceMethod yX7_addWordsOf, Cond.selects RX7 yX7_addWordsOf yX7_addWordsOf, Cond.code yX7_addWordsOf cX7_addWordsOf 4 none, Cond.methodLink RX7 58 yX7_beginWord, Cond.instanceMethod yX7_beginWord, Cond.selects RX7 yX7_beginWord yX7_beginWord, Cond.code yX7_beginWord cX7_beginWord 1 none, Cond.methodLink RX7 64 yX3_put, Cond.instanceMethod yX3_put, Cond.selects RX3 yX3_put yX3_put, Cond.code yX3_put cX3_put 3 none, Cond.methodLink RX7 61 yX7_addLetter, Cond.instanceMethod yX7_addLetter, Cond.selects RX7 yX7_addLetter yX7_addLetter]
def wsX8_name_r6 : List Cond := [Cond.code yX7_addLetter cX7_addLetter 4 none, Cond.methodLink RX8 91 yX8_workOut, Cond.instanceMethod yX8_workOut, Cond.selects RX8 yX8_workOut yX8_workOut, Cond.code yX8_workOut cX8_workOut 1 none, Cond.fieldLink RX8 33 "BlackBars" "forms" "LBlackBars$Forms;", Cond.fieldLink RX8 42 "BlackBars" "bars" "LBlackBars$Bars;", Cond.fieldLink RX8 54 "BlackBars" "sheet" "LBlackBars$Sheet;", Cond.methodLink RX8 240 yX1_measure, Cond.instanceMethod yX1_measure, Cond.selects RX1 yX1_measure yX1_measure, Cond.initialized RX1, Cond.code yX1_measure cX1_measure 4 none, Cond.fieldLink RX1 26 "BlackBars$Forms" "formsOfName" "I", Cond.fieldLink RX1 30 "BlackBars$Forms" "size" "I", Cond.fieldLink RX1 14 "BlackBars$Forms" "widths" "LBlackBars$Row;", Cond.fieldLink RX1 20 "BlackBars$Forms" "ranks" "LBlackBars$Row;", Cond.fieldLink RX1 23 "BlackBars$Forms" "sortedWidths" "LBlackBars$Row;", Cond.methodLink RX1 43 yX7_size, Cond.instanceMethod yX7_size, Cond.selects RX7 yX7_size yX7_size, Cond.code yX7_size cX7_size 1 (some .int), Cond.methodLink RX1 51 yX1_nameOf, Cond.instanceMethod yX1_nameOf]
def wsX8_name_r7 : List Cond := [Cond.selects RX1 yX1_nameOf yX1_nameOf, Cond.code yX1_nameOf cX1_nameOf 2 (some .int), Cond.methodLink RX1 54 yX1_endingOf, Cond.instanceMethod yX1_endingOf, Cond.selects RX1 yX1_endingOf yX1_endingOf, Cond.code yX1_endingOf cX1_endingOf 2 (some .int), Cond.methodLink RX1 57 yX5_widthOfForm, Cond.instanceMethod yX5_widthOfForm, Cond.selects RX5 yX5_widthOfForm yX5_widthOfForm, Cond.code yX5_widthOfForm cX5_widthOfForm 3 (some .int), Cond.methodLink RX5 49 yX7_widthOf, Cond.instanceMethod yX7_widthOf, Cond.selects RX7 yX7_widthOf yX7_widthOf, Cond.code yX7_widthOf cX7_widthOf 7 (some .int), Cond.methodLink RX1 61 yX3_put, Cond.methodLink RX1 65 yX1_formsAheadOf, Cond.instanceMethod yX1_formsAheadOf, Cond.selects RX1 yX1_formsAheadOf yX1_formsAheadOf, Cond.code yX1_formsAheadOf cX1_formsAheadOf 6 (some .int), Cond.methodLink RX1 33 yX3_at, Cond.methodLink RX8 117 yX3_at, Cond.methodLink RX8 229 yX0_draw, Cond.instanceMethod yX0_draw, Cond.selects RX0 yX0_draw yX0_draw]
def wsX8_name_r8 : List Cond := [Cond.initialized RX0, Cond.code yX0_draw cX0_draw 5 none, Cond.fieldLink RX0 9 "BlackBars$Bars" "forms" "LBlackBars$Forms;", Cond.fieldLink RX0 20 "BlackBars$Bars" "widths" "LBlackBars$Row;", Cond.methodLink RX0 24 yX1_size, Cond.instanceMethod yX1_size, Cond.selects RX1 yX1_size yX1_size, Cond.code yX1_size cX1_size 1 (some .int), Cond.methodLink RX0 30 yX0_barWidth, Cond.instanceMethod yX0_barWidth, Cond.selects RX0 yX0_barWidth yX0_barWidth, Cond.code yX0_barWidth cX0_barWidth 5 (some .int), Cond.methodLink RX0 38 yX1_widthOf, Cond.instanceMethod yX1_widthOf, Cond.selects RX1 yX1_widthOf yX1_widthOf, Cond.code yX1_widthOf cX1_widthOf 2 (some .int), Cond.methodLink RX0 42 yX0_upToMultiple, Cond.static yX0_upToMultiple, Cond.code yX0_upToMultiple cX0_upToMultiple 2 (some .int), Cond.methodLink RX0 46 yX1_rankOf, Cond.instanceMethod yX1_rankOf, Cond.selects RX1 yX1_rankOf yX1_rankOf, Cond.code yX1_rankOf cX1_rankOf 2 (some .int), Cond.methodLink RX0 49 yX0_lastRankOfGroup]
def wsX8_name_r9 : List Cond := [Cond.instanceMethod yX0_lastRankOfGroup, Cond.selects RX0 yX0_lastRankOfGroup yX0_lastRankOfGroup, Cond.code yX0_lastRankOfGroup cX0_lastRankOfGroup 5 (some .int), Cond.methodLink RX0 52 yX1_widthAtRank, Cond.instanceMethod yX1_widthAtRank, Cond.selects RX1 yX1_widthAtRank yX1_widthAtRank, Cond.code yX1_widthAtRank cX1_widthAtRank 2 (some .int), Cond.methodLink RX0 34 yX3_put, Cond.methodLink RX8 243 yX4_hideWords, Cond.instanceMethod yX4_hideWords, Cond.selects RX4 yX4_hideWords yX4_hideWords, Cond.initialized RX4, Cond.code yX4_hideWords cX4_hideWords 4 none, Cond.fieldLink RX4 9 "BlackBars$Sheet" "state" "LBlackBars$State;", Cond.fieldLink RX4 15 "BlackBars$Sheet" "forms" "LBlackBars$Forms;", Cond.fieldLink RX4 24 "BlackBars$Sheet" "formsOfWords" "LBlackBars$Row;", Cond.fieldLink RX4 28 "BlackBars$Sheet" "ownWidths" "LBlackBars$Row;", Cond.methodLink RX4 53 yX7_size, Cond.methodLink RX4 59 yX1_size, Cond.methodLink RX4 62 yX1_nameOf, Cond.methodLink RX4 66 yX1_endingOf, Cond.methodLink RX4 69 yX5_isForm, Cond.instanceMethod yX5_isForm, Cond.selects RX5 yX5_isForm yX5_isForm]
def wsX8_name_r10 : List Cond := [Cond.code yX5_isForm cX5_isForm 8 (some .boolean), Cond.methodLink RX5 45 yX7_lengthOf, Cond.methodLink RX5 53 yX7_letterOf, Cond.methodLink RX4 73 yX3_put, Cond.methodLink RX4 80 yX7_widthOf, Cond.methodLink RX8 246 yX4_flow, Cond.instanceMethod yX4_flow, Cond.selects RX4 yX4_flow yX4_flow, Cond.code yX4_flow cX4_flow 8 none, Cond.fieldLink RX4 43 "BlackBars$Sheet" "lines" "I", Cond.fieldLink RX4 40 "BlackBars$Sheet" "firstWords" "LBlackBars$Row;", Cond.fieldLink RX4 31 "BlackBars$Sheet" "shownWidths" "LBlackBars$Row;", Cond.fieldLink RX4 34 "BlackBars$Sheet" "linesOfWords" "LBlackBars$Row;", Cond.fieldLink RX4 37 "BlackBars$Sheet" "places" "LBlackBars$Row;", Cond.methodLink RX4 87 yX3_at, Cond.methodLink RX4 90 yX4_widthUnder, Cond.instanceMethod yX4_widthUnder, Cond.selects RX4 yX4_widthUnder yX4_widthUnder, Cond.code yX4_widthUnder cX4_widthUnder 3 (some .int), Cond.methodLink RX4 94 yX4_isHidden, Cond.instanceMethod yX4_isHidden, Cond.selects RX4 yX4_isHidden yX4_isHidden, Cond.code yX4_isHidden cX4_isHidden 2 (some .boolean), Cond.methodLink RX4 98 yX4_formOf]
def wsX8_name_r11 : List Cond := [Cond.instanceMethod yX4_formOf, Cond.selects RX4 yX4_formOf yX4_formOf, Cond.code yX4_formOf cX4_formOf 2 (some .int), Cond.methodLink RX4 101 yX0_widthOf, Cond.instanceMethod yX0_widthOf, Cond.selects RX0 yX0_widthOf yX0_widthOf, Cond.code yX0_widthOf cX0_widthOf 2 (some .int), Cond.methodLink RX0 55 yX3_at, Cond.methodLink RX4 105 yX4_ownWidthOf, Cond.instanceMethod yX4_ownWidthOf, Cond.selects RX4 yX4_ownWidthOf yX4_ownWidthOf, Cond.code yX4_ownWidthOf cX4_ownWidthOf 2 (some .int), Cond.methodLink RX8 94 yX7_size]
def wsX8_name : List Cond := .code yX8_name cX8_name 1 (some .int) :: ((wsX8_name_r1 ++ (wsX8_name_r2 ++ (wsX8_name_r3 ++ (wsX8_name_r4 ++ (wsX8_name_r5 ++ (wsX8_name_r6 ++ (wsX8_name_r7 ++ (wsX8_name_r8 ++ (wsX8_name_r9 ++ (wsX8_name_r10 ++ wsX8_name_r11)))))))))) ++ wsX80 ++ wsX50 ++ wsX70 ++ wsX60 ++ wsX30 ++ wsX20 ++ wsX10 ++ wsX00 ++ wsX40)
def wsX8_ending_r1 : List Cond := [Cond.fieldLink RX8 19 "BlackBars" "state" "LBlackBars$State;", Cond.methodLink RX8 98 yX8_addTextTo, Cond.instanceMethod yX8_addTextTo, Cond.selects RX8 yX8_addTextTo yX8_addTextTo, Cond.initialized RX8, Cond.code yX8_addTextTo cX8_addTextTo 2 (some .int), Cond.fieldLink RX8 12 "BlackBars" "text" "LBlackBars$Text;", Cond.fieldLink RX8 26 "BlackBars" "history" "LBlackBars$History;", Cond.methodLink RX8 250 yX7_greatestLength, Cond.instanceMethod yX7_greatestLength, Cond.selects RX7 yX7_greatestLength yX7_greatestLength, Cond.initialized RX7, Cond.code yX7_greatestLength cX7_greatestLength 1 (some .int), Cond.fieldLink RX7 13 "BlackBars$Words" "mostLetters" "I", Cond.methodLink RX8 253 yX6_isOneWord, Cond.instanceMethod yX6_isOneWord, Cond.selects RX6 yX6_isOneWord yX6_isOneWord, Cond.initialized RX6, Cond.code yX6_isOneWord cX6_isOneWord 3 (some .boolean), Cond.fieldLink RX6 20 "BlackBars$Text" "length" "I", Cond.fieldLink RX6 14 "BlackBars$Text" "characters" "LBlackBars$Row;", Cond.methodLink RX6 24 yX3_at, Cond.instanceMethod yX3_at, Cond.selects RX3 yX3_at yX3_at]
def wsX8_ending_r2 : List Cond := [Cond.initialized RX3, Cond.code yX3_at cX3_at 2 (some .int), Cond.fieldLink RX3 13 "BlackBars$Row" "cells" "[I", Cond.static yX8_isLetter, Cond.code yX8_isLetter cX8_isLetter 1 (some .boolean), Cond.methodLink RX8 256 yX7_hasWord, Cond.instanceMethod yX7_hasWord, Cond.selects RX7 yX7_hasWord yX7_hasWord, Cond.code yX7_hasWord cX7_hasWord 3 (some .boolean), Cond.fieldLink RX7 28 "BlackBars$Words" "size" "I", Cond.methodLink RX7 35 yX7_isWord, Cond.instanceMethod yX7_isWord, Cond.selects RX7 yX7_isWord yX7_isWord, Cond.code yX7_isWord cX7_isWord 4 (some .boolean), Cond.methodLink RX7 39 yX7_lengthOf, Cond.instanceMethod yX7_lengthOf, Cond.selects RX7 yX7_lengthOf yX7_lengthOf, Cond.code yX7_lengthOf cX7_lengthOf 2 (some .int), Cond.fieldLink RX7 25 "BlackBars$Words" "lengths" "LBlackBars$Row;", Cond.methodLink RX7 31 yX3_at, Cond.methodLink RX7 42 yX6_size, Cond.instanceMethod yX6_size, Cond.selects RX6 yX6_size yX6_size, Cond.code yX6_size cX6_size 1 (some .int)]
def wsX8_ending_r3 : List Cond := [Cond.methodLink RX7 47 yX7_letterOf, Cond.instanceMethod yX7_letterOf, Cond.selects RX7 yX7_letterOf yX7_letterOf, Cond.code yX7_letterOf cX7_letterOf 3 (some .int), Cond.fieldLink RX7 21 "BlackBars$Words" "letters" "LBlackBars$Row;", Cond.methodLink RX7 51 yX6_at, Cond.instanceMethod yX6_at, Cond.selects RX6 yX6_at yX6_at, Cond.code yX6_at cX6_at 2 (some .int), Cond.methodLink RX8 260 yX7_isFull, Cond.instanceMethod yX7_isFull, Cond.selects RX7 yX7_isFull yX7_isFull, Cond.code yX7_isFull cX7_isFull 1 (some .boolean), Cond.fieldLink RX7 7 "BlackBars$Words" "mostWords" "I", Cond.methodLink RX8 76 yX2_keep, Cond.instanceMethod yX2_keep, Cond.selects RX2 yX2_keep yX2_keep, Cond.initialized RX2, Cond.code yX2_keep cX2_keep 3 none, Cond.fieldLink RX2 18 "BlackBars$History" "size" "I", Cond.fieldLink RX2 11 "BlackBars$History" "states" "[LBlackBars$State;", Cond.methodLink RX2 22 yX2_moveOldestToEnd, Cond.instanceMethod yX2_moveOldestToEnd, Cond.selects RX2 yX2_moveOldestToEnd yX2_moveOldestToEnd]
def wsX8_ending_r4 : List Cond := [Cond.code yX2_moveOldestToEnd cX2_moveOldestToEnd 3 none, Cond.methodLink RX2 25 yX2_latest, Cond.instanceMethod yX2_latest, Cond.selects RX2 yX2_latest yX2_latest, Cond.code yX2_latest cX2_latest 1 (some (.object "BlackBars$State")), Cond.methodLink RX2 29 yX5_copyFrom, Cond.instanceMethod yX5_copyFrom, Cond.selects RX5 yX5_copyFrom yX5_copyFrom, Cond.initialized RX5, Cond.code yX5_copyFrom cX5_copyFrom 2 none, Cond.fieldLink RX5 14 "BlackBars$State" "page" "LBlackBars$Words;", Cond.fieldLink RX5 20 "BlackBars$State" "names" "LBlackBars$Words;", Cond.fieldLink RX5 23 "BlackBars$State" "endings" "LBlackBars$Words;", Cond.fieldLink RX5 35 "BlackBars$State" "letterWidths" "LBlackBars$Row;", Cond.fieldLink RX5 42 "BlackBars$State" "settings" "LBlackBars$Row;", Cond.methodLink RX5 57 yX7_copyFrom, Cond.instanceMethod yX7_copyFrom, Cond.selects RX7 yX7_copyFrom yX7_copyFrom, Cond.code yX7_copyFrom cX7_copyFrom 2 none, Cond.methodLink RX7 75 Lib.Math.min.name, Cond.static Lib.Math.min.name, Cond.initialized "java/lang/Math", Cond.code Lib.Math.min.name Lib.Math.min.code 2 (some .int), Cond.methodLink RX7 71 yX3_copyFrom]
def wsX8_ending_r5 : List Cond := [Cond.instanceMethod yX3_copyFrom, Cond.selects RX3 yX3_copyFrom yX3_copyFrom, Cond.code yX3_copyFrom cX3_copyFrom 2 none, Cond.methodLink RX3 24 Lib.Math.min.name, Cond.methodLink RX3 27 arraycopyName, Cond.native arraycopyName, Cond.static arraycopyName, Cond.initialized "java/lang/System", Cond.methodLink RX5 61 yX3_copyFrom, Cond.methodLink RX8 87 yX7_addWordsOf, Cond.instanceMethod yX7_addWordsOf, Cond.selects RX7 yX7_addWordsOf yX7_addWordsOf, Cond.code yX7_addWordsOf cX7_addWordsOf 4 none, Cond.methodLink RX7 58 yX7_beginWord, Cond.instanceMethod yX7_beginWord, Cond.selects RX7 yX7_beginWord yX7_beginWord, Cond.code yX7_beginWord cX7_beginWord 1 none, Cond.methodLink RX7 64 yX3_put, Cond.instanceMethod yX3_put, Cond.selects RX3 yX3_put yX3_put, Cond.code yX3_put cX3_put 3 none, Cond.methodLink RX7 61 yX7_addLetter, Cond.instanceMethod yX7_addLetter, Cond.selects RX7 yX7_addLetter yX7_addLetter]
def wsX8_ending_r6 : List Cond := [Cond.code yX7_addLetter cX7_addLetter 4 none, Cond.methodLink RX8 91 yX8_workOut, Cond.instanceMethod yX8_workOut, Cond.selects RX8 yX8_workOut yX8_workOut, Cond.code yX8_workOut cX8_workOut 1 none, Cond.fieldLink RX8 33 "BlackBars" "forms" "LBlackBars$Forms;", Cond.fieldLink RX8 42 "BlackBars" "bars" "LBlackBars$Bars;", Cond.fieldLink RX8 54 "BlackBars" "sheet" "LBlackBars$Sheet;", Cond.methodLink RX8 240 yX1_measure, Cond.instanceMethod yX1_measure, Cond.selects RX1 yX1_measure yX1_measure, Cond.initialized RX1, Cond.code yX1_measure cX1_measure 4 none, Cond.fieldLink RX1 26 "BlackBars$Forms" "formsOfName" "I", Cond.fieldLink RX1 30 "BlackBars$Forms" "size" "I", Cond.fieldLink RX1 14 "BlackBars$Forms" "widths" "LBlackBars$Row;", Cond.fieldLink RX1 20 "BlackBars$Forms" "ranks" "LBlackBars$Row;", Cond.fieldLink RX1 23 "BlackBars$Forms" "sortedWidths" "LBlackBars$Row;", Cond.methodLink RX1 43 yX7_size, Cond.instanceMethod yX7_size, Cond.selects RX7 yX7_size yX7_size, Cond.code yX7_size cX7_size 1 (some .int), Cond.methodLink RX1 51 yX1_nameOf, Cond.instanceMethod yX1_nameOf]
def wsX8_ending_r7 : List Cond := [Cond.selects RX1 yX1_nameOf yX1_nameOf, Cond.code yX1_nameOf cX1_nameOf 2 (some .int), Cond.methodLink RX1 54 yX1_endingOf, Cond.instanceMethod yX1_endingOf, Cond.selects RX1 yX1_endingOf yX1_endingOf, Cond.code yX1_endingOf cX1_endingOf 2 (some .int), Cond.methodLink RX1 57 yX5_widthOfForm, Cond.instanceMethod yX5_widthOfForm, Cond.selects RX5 yX5_widthOfForm yX5_widthOfForm, Cond.code yX5_widthOfForm cX5_widthOfForm 3 (some .int), Cond.methodLink RX5 49 yX7_widthOf, Cond.instanceMethod yX7_widthOf, Cond.selects RX7 yX7_widthOf yX7_widthOf, Cond.code yX7_widthOf cX7_widthOf 7 (some .int), Cond.methodLink RX1 61 yX3_put, Cond.methodLink RX1 65 yX1_formsAheadOf, Cond.instanceMethod yX1_formsAheadOf, Cond.selects RX1 yX1_formsAheadOf yX1_formsAheadOf, Cond.code yX1_formsAheadOf cX1_formsAheadOf 6 (some .int), Cond.methodLink RX1 33 yX3_at, Cond.methodLink RX8 117 yX3_at, Cond.methodLink RX8 229 yX0_draw, Cond.instanceMethod yX0_draw, Cond.selects RX0 yX0_draw yX0_draw]
def wsX8_ending_r8 : List Cond := [Cond.initialized RX0, Cond.code yX0_draw cX0_draw 5 none, Cond.fieldLink RX0 9 "BlackBars$Bars" "forms" "LBlackBars$Forms;", Cond.fieldLink RX0 20 "BlackBars$Bars" "widths" "LBlackBars$Row;", Cond.methodLink RX0 24 yX1_size, Cond.instanceMethod yX1_size, Cond.selects RX1 yX1_size yX1_size, Cond.code yX1_size cX1_size 1 (some .int), Cond.methodLink RX0 30 yX0_barWidth, Cond.instanceMethod yX0_barWidth, Cond.selects RX0 yX0_barWidth yX0_barWidth, Cond.code yX0_barWidth cX0_barWidth 5 (some .int), Cond.methodLink RX0 38 yX1_widthOf, Cond.instanceMethod yX1_widthOf, Cond.selects RX1 yX1_widthOf yX1_widthOf, Cond.code yX1_widthOf cX1_widthOf 2 (some .int), Cond.methodLink RX0 42 yX0_upToMultiple, Cond.static yX0_upToMultiple, Cond.code yX0_upToMultiple cX0_upToMultiple 2 (some .int), Cond.methodLink RX0 46 yX1_rankOf, Cond.instanceMethod yX1_rankOf, Cond.selects RX1 yX1_rankOf yX1_rankOf, Cond.code yX1_rankOf cX1_rankOf 2 (some .int), Cond.methodLink RX0 49 yX0_lastRankOfGroup]
def wsX8_ending_r9 : List Cond := [Cond.instanceMethod yX0_lastRankOfGroup, Cond.selects RX0 yX0_lastRankOfGroup yX0_lastRankOfGroup, Cond.code yX0_lastRankOfGroup cX0_lastRankOfGroup 5 (some .int), Cond.methodLink RX0 52 yX1_widthAtRank, Cond.instanceMethod yX1_widthAtRank, Cond.selects RX1 yX1_widthAtRank yX1_widthAtRank, Cond.code yX1_widthAtRank cX1_widthAtRank 2 (some .int), Cond.methodLink RX0 34 yX3_put, Cond.methodLink RX8 243 yX4_hideWords, Cond.instanceMethod yX4_hideWords, Cond.selects RX4 yX4_hideWords yX4_hideWords, Cond.initialized RX4, Cond.code yX4_hideWords cX4_hideWords 4 none, Cond.fieldLink RX4 9 "BlackBars$Sheet" "state" "LBlackBars$State;", Cond.fieldLink RX4 15 "BlackBars$Sheet" "forms" "LBlackBars$Forms;", Cond.fieldLink RX4 24 "BlackBars$Sheet" "formsOfWords" "LBlackBars$Row;", Cond.fieldLink RX4 28 "BlackBars$Sheet" "ownWidths" "LBlackBars$Row;", Cond.methodLink RX4 53 yX7_size, Cond.methodLink RX4 59 yX1_size, Cond.methodLink RX4 62 yX1_nameOf, Cond.methodLink RX4 66 yX1_endingOf, Cond.methodLink RX4 69 yX5_isForm, Cond.instanceMethod yX5_isForm, Cond.selects RX5 yX5_isForm yX5_isForm]
def wsX8_ending_r10 : List Cond := [Cond.code yX5_isForm cX5_isForm 8 (some .boolean), Cond.methodLink RX5 45 yX7_lengthOf, Cond.methodLink RX5 53 yX7_letterOf, Cond.methodLink RX4 73 yX3_put, Cond.methodLink RX4 80 yX7_widthOf, Cond.methodLink RX8 246 yX4_flow, Cond.instanceMethod yX4_flow, Cond.selects RX4 yX4_flow yX4_flow, Cond.code yX4_flow cX4_flow 8 none, Cond.fieldLink RX4 43 "BlackBars$Sheet" "lines" "I", Cond.fieldLink RX4 40 "BlackBars$Sheet" "firstWords" "LBlackBars$Row;", Cond.fieldLink RX4 31 "BlackBars$Sheet" "shownWidths" "LBlackBars$Row;", Cond.fieldLink RX4 34 "BlackBars$Sheet" "linesOfWords" "LBlackBars$Row;", Cond.fieldLink RX4 37 "BlackBars$Sheet" "places" "LBlackBars$Row;", Cond.methodLink RX4 87 yX3_at, Cond.methodLink RX4 90 yX4_widthUnder, Cond.instanceMethod yX4_widthUnder, Cond.selects RX4 yX4_widthUnder yX4_widthUnder, Cond.code yX4_widthUnder cX4_widthUnder 3 (some .int), Cond.methodLink RX4 94 yX4_isHidden, Cond.instanceMethod yX4_isHidden, Cond.selects RX4 yX4_isHidden yX4_isHidden, Cond.code yX4_isHidden cX4_isHidden 2 (some .boolean), Cond.methodLink RX4 98 yX4_formOf]
def wsX8_ending_r11 : List Cond := [Cond.instanceMethod yX4_formOf, Cond.selects RX4 yX4_formOf yX4_formOf, Cond.code yX4_formOf cX4_formOf 2 (some .int), Cond.methodLink RX4 101 yX0_widthOf, Cond.instanceMethod yX0_widthOf, Cond.selects RX0 yX0_widthOf yX0_widthOf, Cond.code yX0_widthOf cX0_widthOf 2 (some .int), Cond.methodLink RX0 55 yX3_at, Cond.methodLink RX4 105 yX4_ownWidthOf, Cond.instanceMethod yX4_ownWidthOf, Cond.selects RX4 yX4_ownWidthOf yX4_ownWidthOf, Cond.code yX4_ownWidthOf cX4_ownWidthOf 2 (some .int), Cond.methodLink RX8 94 yX7_size]
def wsX8_ending : List Cond := .code yX8_ending cX8_ending 1 (some .int) :: ((wsX8_ending_r1 ++ (wsX8_ending_r2 ++ (wsX8_ending_r3 ++ (wsX8_ending_r4 ++ (wsX8_ending_r5 ++ (wsX8_ending_r6 ++ (wsX8_ending_r7 ++ (wsX8_ending_r8 ++ (wsX8_ending_r9 ++ (wsX8_ending_r10 ++ wsX8_ending_r11)))))))))) ++ wsX80 ++ wsX50 ++ wsX70 ++ wsX60 ++ wsX30 ++ wsX20 ++ wsX10 ++ wsX00 ++ wsX40)
def wsX8_dropFrom_r1 : List Cond := [Cond.fieldLink RX8 26 "BlackBars" "history" "LBlackBars$History;", Cond.fieldLink RX8 19 "BlackBars" "state" "LBlackBars$State;", Cond.methodLink RX8 158 yX7_has, Cond.instanceMethod yX7_has, Cond.selects RX7 yX7_has yX7_has, Cond.initialized RX7, Cond.code yX7_has cX7_has 2 (some .boolean), Cond.fieldLink RX7 28 "BlackBars$Words" "size" "I", Cond.methodLink RX8 76 yX2_keep, Cond.instanceMethod yX2_keep, Cond.selects RX2 yX2_keep yX2_keep, Cond.initialized RX2, Cond.code yX2_keep cX2_keep 3 none, Cond.fieldLink RX2 18 "BlackBars$History" "size" "I", Cond.fieldLink RX2 11 "BlackBars$History" "states" "[LBlackBars$State;", Cond.methodLink RX2 22 yX2_moveOldestToEnd, Cond.instanceMethod yX2_moveOldestToEnd, Cond.selects RX2 yX2_moveOldestToEnd yX2_moveOldestToEnd, Cond.code yX2_moveOldestToEnd cX2_moveOldestToEnd 3 none, Cond.methodLink RX2 25 yX2_latest, Cond.instanceMethod yX2_latest, Cond.selects RX2 yX2_latest yX2_latest, Cond.code yX2_latest cX2_latest 1 (some (.object "BlackBars$State")), Cond.methodLink RX2 29 yX5_copyFrom]
def wsX8_dropFrom_r2 : List Cond := [Cond.instanceMethod yX5_copyFrom, Cond.selects RX5 yX5_copyFrom yX5_copyFrom, Cond.initialized RX5, Cond.code yX5_copyFrom cX5_copyFrom 2 none, Cond.fieldLink RX5 14 "BlackBars$State" "page" "LBlackBars$Words;", Cond.fieldLink RX5 20 "BlackBars$State" "names" "LBlackBars$Words;", Cond.fieldLink RX5 23 "BlackBars$State" "endings" "LBlackBars$Words;", Cond.fieldLink RX5 35 "BlackBars$State" "letterWidths" "LBlackBars$Row;", Cond.fieldLink RX5 42 "BlackBars$State" "settings" "LBlackBars$Row;", Cond.methodLink RX5 57 yX7_copyFrom, Cond.instanceMethod yX7_copyFrom, Cond.selects RX7 yX7_copyFrom yX7_copyFrom, Cond.code yX7_copyFrom cX7_copyFrom 2 none, Cond.fieldLink RX7 21 "BlackBars$Words" "letters" "LBlackBars$Row;", Cond.fieldLink RX7 25 "BlackBars$Words" "lengths" "LBlackBars$Row;", Cond.fieldLink RX7 7 "BlackBars$Words" "mostWords" "I", Cond.methodLink RX7 75 Lib.Math.min.name, Cond.static Lib.Math.min.name, Cond.initialized "java/lang/Math", Cond.code Lib.Math.min.name Lib.Math.min.code 2 (some .int), Cond.methodLink RX7 71 yX3_copyFrom, Cond.instanceMethod yX3_copyFrom, Cond.selects RX3 yX3_copyFrom yX3_copyFrom, Cond.initialized RX3]
def wsX8_dropFrom_r3 : List Cond := [Cond.code yX3_copyFrom cX3_copyFrom 2 none, Cond.fieldLink RX3 13 "BlackBars$Row" "cells" "[I", Cond.methodLink RX3 24 Lib.Math.min.name, Cond.methodLink RX3 27 arraycopyName, Cond.native arraycopyName, Cond.static arraycopyName, Cond.initialized "java/lang/System", Cond.methodLink RX5 61 yX3_copyFrom, Cond.methodLink RX8 264 yX7_remove, Cond.instanceMethod yX7_remove, Cond.selects RX7 yX7_remove yX7_remove, Cond.code yX7_remove cX7_remove 4 none, Cond.fieldLink RX7 13 "BlackBars$Words" "mostLetters" "I", Cond.methodLink RX7 68 yX7_has, Cond.methodLink RX7 39 yX7_lengthOf, Cond.instanceMethod yX7_lengthOf, Cond.selects RX7 yX7_lengthOf yX7_lengthOf, Cond.code yX7_lengthOf cX7_lengthOf 2 (some .int), Cond.methodLink RX7 31 yX3_at, Cond.instanceMethod yX3_at, Cond.selects RX3 yX3_at yX3_at, Cond.code yX3_at cX3_at 2 (some .int), Cond.methodLink RX7 64 yX3_put, Cond.instanceMethod yX3_put]
def wsX8_dropFrom_r4 : List Cond := [Cond.selects RX3 yX3_put yX3_put, Cond.code yX3_put cX3_put 3 none, Cond.methodLink RX7 47 yX7_letterOf, Cond.instanceMethod yX7_letterOf, Cond.selects RX7 yX7_letterOf yX7_letterOf, Cond.code yX7_letterOf cX7_letterOf 3 (some .int), Cond.methodLink RX8 91 yX8_workOut, Cond.instanceMethod yX8_workOut, Cond.selects RX8 yX8_workOut yX8_workOut, Cond.initialized RX8, Cond.code yX8_workOut cX8_workOut 1 none, Cond.fieldLink RX8 33 "BlackBars" "forms" "LBlackBars$Forms;", Cond.fieldLink RX8 42 "BlackBars" "bars" "LBlackBars$Bars;", Cond.fieldLink RX8 54 "BlackBars" "sheet" "LBlackBars$Sheet;", Cond.methodLink RX8 240 yX1_measure, Cond.instanceMethod yX1_measure, Cond.selects RX1 yX1_measure yX1_measure, Cond.initialized RX1, Cond.code yX1_measure cX1_measure 4 none, Cond.fieldLink RX1 26 "BlackBars$Forms" "formsOfName" "I", Cond.fieldLink RX1 30 "BlackBars$Forms" "size" "I", Cond.fieldLink RX1 14 "BlackBars$Forms" "widths" "LBlackBars$Row;", Cond.fieldLink RX1 20 "BlackBars$Forms" "ranks" "LBlackBars$Row;", Cond.fieldLink RX1 23 "BlackBars$Forms" "sortedWidths" "LBlackBars$Row;"]
def wsX8_dropFrom_r5 : List Cond := [Cond.methodLink RX1 43 yX7_size, Cond.instanceMethod yX7_size, Cond.selects RX7 yX7_size yX7_size, Cond.code yX7_size cX7_size 1 (some .int), Cond.methodLink RX1 51 yX1_nameOf, Cond.instanceMethod yX1_nameOf, Cond.selects RX1 yX1_nameOf yX1_nameOf, Cond.code yX1_nameOf cX1_nameOf 2 (some .int), Cond.methodLink RX1 54 yX1_endingOf, Cond.instanceMethod yX1_endingOf, Cond.selects RX1 yX1_endingOf yX1_endingOf, Cond.code yX1_endingOf cX1_endingOf 2 (some .int), Cond.methodLink RX1 57 yX5_widthOfForm, Cond.instanceMethod yX5_widthOfForm, Cond.selects RX5 yX5_widthOfForm yX5_widthOfForm, Cond.code yX5_widthOfForm cX5_widthOfForm 3 (some .int), Cond.methodLink RX5 49 yX7_widthOf, Cond.instanceMethod yX7_widthOf, Cond.selects RX7 yX7_widthOf yX7_widthOf, Cond.code yX7_widthOf cX7_widthOf 7 (some .int), Cond.methodLink RX1 61 yX3_put, Cond.methodLink RX1 65 yX1_formsAheadOf, Cond.instanceMethod yX1_formsAheadOf, Cond.selects RX1 yX1_formsAheadOf yX1_formsAheadOf]
def wsX8_dropFrom_r6 : List Cond := [Cond.code yX1_formsAheadOf cX1_formsAheadOf 6 (some .int), Cond.methodLink RX1 33 yX3_at, Cond.methodLink RX8 117 yX3_at, Cond.methodLink RX8 229 yX0_draw, Cond.instanceMethod yX0_draw, Cond.selects RX0 yX0_draw yX0_draw, Cond.initialized RX0, Cond.code yX0_draw cX0_draw 5 none, Cond.fieldLink RX0 9 "BlackBars$Bars" "forms" "LBlackBars$Forms;", Cond.fieldLink RX0 20 "BlackBars$Bars" "widths" "LBlackBars$Row;", Cond.methodLink RX0 24 yX1_size, Cond.instanceMethod yX1_size, Cond.selects RX1 yX1_size yX1_size, Cond.code yX1_size cX1_size 1 (some .int), Cond.methodLink RX0 30 yX0_barWidth, Cond.instanceMethod yX0_barWidth, Cond.selects RX0 yX0_barWidth yX0_barWidth, Cond.code yX0_barWidth cX0_barWidth 5 (some .int), Cond.methodLink RX0 38 yX1_widthOf, Cond.instanceMethod yX1_widthOf, Cond.selects RX1 yX1_widthOf yX1_widthOf, Cond.code yX1_widthOf cX1_widthOf 2 (some .int), Cond.methodLink RX0 42 yX0_upToMultiple, Cond.static yX0_upToMultiple]
def wsX8_dropFrom_r7 : List Cond := [Cond.code yX0_upToMultiple cX0_upToMultiple 2 (some .int), Cond.methodLink RX0 46 yX1_rankOf, Cond.instanceMethod yX1_rankOf, Cond.selects RX1 yX1_rankOf yX1_rankOf, Cond.code yX1_rankOf cX1_rankOf 2 (some .int), Cond.methodLink RX0 49 yX0_lastRankOfGroup, Cond.instanceMethod yX0_lastRankOfGroup, Cond.selects RX0 yX0_lastRankOfGroup yX0_lastRankOfGroup, Cond.code yX0_lastRankOfGroup cX0_lastRankOfGroup 5 (some .int), Cond.methodLink RX0 52 yX1_widthAtRank, Cond.instanceMethod yX1_widthAtRank, Cond.selects RX1 yX1_widthAtRank yX1_widthAtRank, Cond.code yX1_widthAtRank cX1_widthAtRank 2 (some .int), Cond.methodLink RX0 34 yX3_put, Cond.methodLink RX8 243 yX4_hideWords, Cond.instanceMethod yX4_hideWords, Cond.selects RX4 yX4_hideWords yX4_hideWords, Cond.initialized RX4, Cond.code yX4_hideWords cX4_hideWords 4 none, Cond.fieldLink RX4 9 "BlackBars$Sheet" "state" "LBlackBars$State;", Cond.fieldLink RX4 15 "BlackBars$Sheet" "forms" "LBlackBars$Forms;", Cond.fieldLink RX4 24 "BlackBars$Sheet" "formsOfWords" "LBlackBars$Row;", Cond.fieldLink RX4 28 "BlackBars$Sheet" "ownWidths" "LBlackBars$Row;", Cond.methodLink RX4 53 yX7_size]
def wsX8_dropFrom_r8 : List Cond := [Cond.methodLink RX4 59 yX1_size, Cond.methodLink RX4 62 yX1_nameOf, Cond.methodLink RX4 66 yX1_endingOf, Cond.methodLink RX4 69 yX5_isForm, Cond.instanceMethod yX5_isForm, Cond.selects RX5 yX5_isForm yX5_isForm, Cond.code yX5_isForm cX5_isForm 8 (some .boolean), Cond.methodLink RX5 45 yX7_lengthOf, Cond.methodLink RX5 53 yX7_letterOf, Cond.methodLink RX4 73 yX3_put, Cond.methodLink RX4 80 yX7_widthOf, Cond.methodLink RX8 246 yX4_flow, Cond.instanceMethod yX4_flow, Cond.selects RX4 yX4_flow yX4_flow, Cond.code yX4_flow cX4_flow 8 none, Cond.fieldLink RX4 43 "BlackBars$Sheet" "lines" "I", Cond.fieldLink RX4 40 "BlackBars$Sheet" "firstWords" "LBlackBars$Row;", Cond.fieldLink RX4 31 "BlackBars$Sheet" "shownWidths" "LBlackBars$Row;", Cond.fieldLink RX4 34 "BlackBars$Sheet" "linesOfWords" "LBlackBars$Row;", Cond.fieldLink RX4 37 "BlackBars$Sheet" "places" "LBlackBars$Row;", Cond.methodLink RX4 87 yX3_at, Cond.methodLink RX4 90 yX4_widthUnder, Cond.instanceMethod yX4_widthUnder, Cond.selects RX4 yX4_widthUnder yX4_widthUnder]
def wsX8_dropFrom_r9 : List Cond := [Cond.code yX4_widthUnder cX4_widthUnder 3 (some .int), Cond.methodLink RX4 94 yX4_isHidden, Cond.instanceMethod yX4_isHidden, Cond.selects RX4 yX4_isHidden yX4_isHidden, Cond.code yX4_isHidden cX4_isHidden 2 (some .boolean), Cond.methodLink RX4 98 yX4_formOf, Cond.instanceMethod yX4_formOf, Cond.selects RX4 yX4_formOf yX4_formOf, Cond.code yX4_formOf cX4_formOf 2 (some .int), Cond.methodLink RX4 101 yX0_widthOf, Cond.instanceMethod yX0_widthOf, Cond.selects RX0 yX0_widthOf yX0_widthOf, Cond.code yX0_widthOf cX0_widthOf 2 (some .int), Cond.methodLink RX0 55 yX3_at, Cond.methodLink RX4 105 yX4_ownWidthOf, Cond.instanceMethod yX4_ownWidthOf, Cond.selects RX4 yX4_ownWidthOf yX4_ownWidthOf, Cond.code yX4_ownWidthOf cX4_ownWidthOf 2 (some .int), Cond.methodLink RX8 94 yX7_size]
def wsX8_dropFrom : List Cond := .code yX8_dropFrom cX8_dropFrom 3 (some .int) :: ((wsX8_dropFrom_r1 ++ (wsX8_dropFrom_r2 ++ (wsX8_dropFrom_r3 ++ (wsX8_dropFrom_r4 ++ (wsX8_dropFrom_r5 ++ (wsX8_dropFrom_r6 ++ (wsX8_dropFrom_r7 ++ (wsX8_dropFrom_r8 ++ wsX8_dropFrom_r9)))))))) ++ wsX80 ++ wsX70 ++ wsX20 ++ wsX50 ++ wsX30 ++ wsX10 ++ wsX00 ++ wsX40)
def wsX8_dropName_r1 : List Cond := [Cond.fieldLink RX8 19 "BlackBars" "state" "LBlackBars$State;", Cond.methodLink RX8 105 yX8_dropFrom, Cond.instanceMethod yX8_dropFrom, Cond.selects RX8 yX8_dropFrom yX8_dropFrom, Cond.initialized RX8, Cond.code yX8_dropFrom cX8_dropFrom 3 (some .int), Cond.fieldLink RX8 26 "BlackBars" "history" "LBlackBars$History;", Cond.methodLink RX8 158 yX7_has, Cond.instanceMethod yX7_has, Cond.selects RX7 yX7_has yX7_has, Cond.initialized RX7, Cond.code yX7_has cX7_has 2 (some .boolean), Cond.fieldLink RX7 28 "BlackBars$Words" "size" "I", Cond.methodLink RX8 76 yX2_keep, Cond.instanceMethod yX2_keep, Cond.selects RX2 yX2_keep yX2_keep, Cond.initialized RX2, Cond.code yX2_keep cX2_keep 3 none, Cond.fieldLink RX2 18 "BlackBars$History" "size" "I", Cond.fieldLink RX2 11 "BlackBars$History" "states" "[LBlackBars$State;", Cond.methodLink RX2 22 yX2_moveOldestToEnd, Cond.instanceMethod yX2_moveOldestToEnd, Cond.selects RX2 yX2_moveOldestToEnd yX2_moveOldestToEnd, Cond.code yX2_moveOldestToEnd cX2_moveOldestToEnd 3 none]
def wsX8_dropName_r2 : List Cond := [Cond.methodLink RX2 25 yX2_latest, Cond.instanceMethod yX2_latest, Cond.selects RX2 yX2_latest yX2_latest, Cond.code yX2_latest cX2_latest 1 (some (.object "BlackBars$State")), Cond.methodLink RX2 29 yX5_copyFrom, Cond.instanceMethod yX5_copyFrom, Cond.selects RX5 yX5_copyFrom yX5_copyFrom, Cond.initialized RX5, Cond.code yX5_copyFrom cX5_copyFrom 2 none, Cond.fieldLink RX5 14 "BlackBars$State" "page" "LBlackBars$Words;", Cond.fieldLink RX5 20 "BlackBars$State" "names" "LBlackBars$Words;", Cond.fieldLink RX5 23 "BlackBars$State" "endings" "LBlackBars$Words;", Cond.fieldLink RX5 35 "BlackBars$State" "letterWidths" "LBlackBars$Row;", Cond.fieldLink RX5 42 "BlackBars$State" "settings" "LBlackBars$Row;", Cond.methodLink RX5 57 yX7_copyFrom, Cond.instanceMethod yX7_copyFrom, Cond.selects RX7 yX7_copyFrom yX7_copyFrom, Cond.code yX7_copyFrom cX7_copyFrom 2 none, Cond.fieldLink RX7 21 "BlackBars$Words" "letters" "LBlackBars$Row;", Cond.fieldLink RX7 25 "BlackBars$Words" "lengths" "LBlackBars$Row;", Cond.fieldLink RX7 7 "BlackBars$Words" "mostWords" "I", Cond.methodLink RX7 75 Lib.Math.min.name, Cond.static Lib.Math.min.name, Cond.initialized "java/lang/Math"]
def wsX8_dropName_r3 : List Cond := [Cond.code Lib.Math.min.name Lib.Math.min.code 2 (some .int), Cond.methodLink RX7 71 yX3_copyFrom, Cond.instanceMethod yX3_copyFrom, Cond.selects RX3 yX3_copyFrom yX3_copyFrom, Cond.initialized RX3, Cond.code yX3_copyFrom cX3_copyFrom 2 none, Cond.fieldLink RX3 13 "BlackBars$Row" "cells" "[I", Cond.methodLink RX3 24 Lib.Math.min.name, Cond.methodLink RX3 27 arraycopyName, Cond.native arraycopyName, Cond.static arraycopyName, Cond.initialized "java/lang/System", Cond.methodLink RX5 61 yX3_copyFrom, Cond.methodLink RX8 264 yX7_remove, Cond.instanceMethod yX7_remove, Cond.selects RX7 yX7_remove yX7_remove, Cond.code yX7_remove cX7_remove 4 none, Cond.fieldLink RX7 13 "BlackBars$Words" "mostLetters" "I", Cond.methodLink RX7 68 yX7_has, Cond.methodLink RX7 39 yX7_lengthOf, Cond.instanceMethod yX7_lengthOf, Cond.selects RX7 yX7_lengthOf yX7_lengthOf, Cond.code yX7_lengthOf cX7_lengthOf 2 (some .int), Cond.methodLink RX7 31 yX3_at]
def wsX8_dropName_r4 : List Cond := [Cond.instanceMethod yX3_at, Cond.selects RX3 yX3_at yX3_at, Cond.code yX3_at cX3_at 2 (some .int), Cond.methodLink RX7 64 yX3_put, Cond.instanceMethod yX3_put, Cond.selects RX3 yX3_put yX3_put, Cond.code yX3_put cX3_put 3 none, Cond.methodLink RX7 47 yX7_letterOf, Cond.instanceMethod yX7_letterOf, Cond.selects RX7 yX7_letterOf yX7_letterOf, Cond.code yX7_letterOf cX7_letterOf 3 (some .int), Cond.methodLink RX8 91 yX8_workOut, Cond.instanceMethod yX8_workOut, Cond.selects RX8 yX8_workOut yX8_workOut, Cond.code yX8_workOut cX8_workOut 1 none, Cond.fieldLink RX8 33 "BlackBars" "forms" "LBlackBars$Forms;", Cond.fieldLink RX8 42 "BlackBars" "bars" "LBlackBars$Bars;", Cond.fieldLink RX8 54 "BlackBars" "sheet" "LBlackBars$Sheet;", Cond.methodLink RX8 240 yX1_measure, Cond.instanceMethod yX1_measure, Cond.selects RX1 yX1_measure yX1_measure, Cond.initialized RX1, Cond.code yX1_measure cX1_measure 4 none, Cond.fieldLink RX1 26 "BlackBars$Forms" "formsOfName" "I"]
def wsX8_dropName_r5 : List Cond := [Cond.fieldLink RX1 30 "BlackBars$Forms" "size" "I", Cond.fieldLink RX1 14 "BlackBars$Forms" "widths" "LBlackBars$Row;", Cond.fieldLink RX1 20 "BlackBars$Forms" "ranks" "LBlackBars$Row;", Cond.fieldLink RX1 23 "BlackBars$Forms" "sortedWidths" "LBlackBars$Row;", Cond.methodLink RX1 43 yX7_size, Cond.instanceMethod yX7_size, Cond.selects RX7 yX7_size yX7_size, Cond.code yX7_size cX7_size 1 (some .int), Cond.methodLink RX1 51 yX1_nameOf, Cond.instanceMethod yX1_nameOf, Cond.selects RX1 yX1_nameOf yX1_nameOf, Cond.code yX1_nameOf cX1_nameOf 2 (some .int), Cond.methodLink RX1 54 yX1_endingOf, Cond.instanceMethod yX1_endingOf, Cond.selects RX1 yX1_endingOf yX1_endingOf, Cond.code yX1_endingOf cX1_endingOf 2 (some .int), Cond.methodLink RX1 57 yX5_widthOfForm, Cond.instanceMethod yX5_widthOfForm, Cond.selects RX5 yX5_widthOfForm yX5_widthOfForm, Cond.code yX5_widthOfForm cX5_widthOfForm 3 (some .int), Cond.methodLink RX5 49 yX7_widthOf, Cond.instanceMethod yX7_widthOf, Cond.selects RX7 yX7_widthOf yX7_widthOf, Cond.code yX7_widthOf cX7_widthOf 7 (some .int)]
def wsX8_dropName_r6 : List Cond := [Cond.methodLink RX1 61 yX3_put, Cond.methodLink RX1 65 yX1_formsAheadOf, Cond.instanceMethod yX1_formsAheadOf, Cond.selects RX1 yX1_formsAheadOf yX1_formsAheadOf, Cond.code yX1_formsAheadOf cX1_formsAheadOf 6 (some .int), Cond.methodLink RX1 33 yX3_at, Cond.methodLink RX8 117 yX3_at, Cond.methodLink RX8 229 yX0_draw, Cond.instanceMethod yX0_draw, Cond.selects RX0 yX0_draw yX0_draw, Cond.initialized RX0, Cond.code yX0_draw cX0_draw 5 none, Cond.fieldLink RX0 9 "BlackBars$Bars" "forms" "LBlackBars$Forms;", Cond.fieldLink RX0 20 "BlackBars$Bars" "widths" "LBlackBars$Row;", Cond.methodLink RX0 24 yX1_size, Cond.instanceMethod yX1_size, Cond.selects RX1 yX1_size yX1_size, Cond.code yX1_size cX1_size 1 (some .int), Cond.methodLink RX0 30 yX0_barWidth, Cond.instanceMethod yX0_barWidth, Cond.selects RX0 yX0_barWidth yX0_barWidth, Cond.code yX0_barWidth cX0_barWidth 5 (some .int), Cond.methodLink RX0 38 yX1_widthOf, Cond.instanceMethod yX1_widthOf]
def wsX8_dropName_r7 : List Cond := [Cond.selects RX1 yX1_widthOf yX1_widthOf, Cond.code yX1_widthOf cX1_widthOf 2 (some .int), Cond.methodLink RX0 42 yX0_upToMultiple, Cond.static yX0_upToMultiple, Cond.code yX0_upToMultiple cX0_upToMultiple 2 (some .int), Cond.methodLink RX0 46 yX1_rankOf, Cond.instanceMethod yX1_rankOf, Cond.selects RX1 yX1_rankOf yX1_rankOf, Cond.code yX1_rankOf cX1_rankOf 2 (some .int), Cond.methodLink RX0 49 yX0_lastRankOfGroup, Cond.instanceMethod yX0_lastRankOfGroup, Cond.selects RX0 yX0_lastRankOfGroup yX0_lastRankOfGroup, Cond.code yX0_lastRankOfGroup cX0_lastRankOfGroup 5 (some .int), Cond.methodLink RX0 52 yX1_widthAtRank, Cond.instanceMethod yX1_widthAtRank, Cond.selects RX1 yX1_widthAtRank yX1_widthAtRank, Cond.code yX1_widthAtRank cX1_widthAtRank 2 (some .int), Cond.methodLink RX0 34 yX3_put, Cond.methodLink RX8 243 yX4_hideWords, Cond.instanceMethod yX4_hideWords, Cond.selects RX4 yX4_hideWords yX4_hideWords, Cond.initialized RX4, Cond.code yX4_hideWords cX4_hideWords 4 none, Cond.fieldLink RX4 9 "BlackBars$Sheet" "state" "LBlackBars$State;"]
def wsX8_dropName_r8 : List Cond := [Cond.fieldLink RX4 15 "BlackBars$Sheet" "forms" "LBlackBars$Forms;", Cond.fieldLink RX4 24 "BlackBars$Sheet" "formsOfWords" "LBlackBars$Row;", Cond.fieldLink RX4 28 "BlackBars$Sheet" "ownWidths" "LBlackBars$Row;", Cond.methodLink RX4 53 yX7_size, Cond.methodLink RX4 59 yX1_size, Cond.methodLink RX4 62 yX1_nameOf, Cond.methodLink RX4 66 yX1_endingOf, Cond.methodLink RX4 69 yX5_isForm, Cond.instanceMethod yX5_isForm, Cond.selects RX5 yX5_isForm yX5_isForm, Cond.code yX5_isForm cX5_isForm 8 (some .boolean), Cond.methodLink RX5 45 yX7_lengthOf, Cond.methodLink RX5 53 yX7_letterOf, Cond.methodLink RX4 73 yX3_put, Cond.methodLink RX4 80 yX7_widthOf, Cond.methodLink RX8 246 yX4_flow, Cond.instanceMethod yX4_flow, Cond.selects RX4 yX4_flow yX4_flow, Cond.code yX4_flow cX4_flow 8 none, Cond.fieldLink RX4 43 "BlackBars$Sheet" "lines" "I", Cond.fieldLink RX4 40 "BlackBars$Sheet" "firstWords" "LBlackBars$Row;", Cond.fieldLink RX4 31 "BlackBars$Sheet" "shownWidths" "LBlackBars$Row;", Cond.fieldLink RX4 34 "BlackBars$Sheet" "linesOfWords" "LBlackBars$Row;", Cond.fieldLink RX4 37 "BlackBars$Sheet" "places" "LBlackBars$Row;"]
def wsX8_dropName_r9 : List Cond := [Cond.methodLink RX4 87 yX3_at, Cond.methodLink RX4 90 yX4_widthUnder, Cond.instanceMethod yX4_widthUnder, Cond.selects RX4 yX4_widthUnder yX4_widthUnder, Cond.code yX4_widthUnder cX4_widthUnder 3 (some .int), Cond.methodLink RX4 94 yX4_isHidden, Cond.instanceMethod yX4_isHidden, Cond.selects RX4 yX4_isHidden yX4_isHidden, Cond.code yX4_isHidden cX4_isHidden 2 (some .boolean), Cond.methodLink RX4 98 yX4_formOf, Cond.instanceMethod yX4_formOf, Cond.selects RX4 yX4_formOf yX4_formOf, Cond.code yX4_formOf cX4_formOf 2 (some .int), Cond.methodLink RX4 101 yX0_widthOf, Cond.instanceMethod yX0_widthOf, Cond.selects RX0 yX0_widthOf yX0_widthOf, Cond.code yX0_widthOf cX0_widthOf 2 (some .int), Cond.methodLink RX0 55 yX3_at, Cond.methodLink RX4 105 yX4_ownWidthOf, Cond.instanceMethod yX4_ownWidthOf, Cond.selects RX4 yX4_ownWidthOf yX4_ownWidthOf, Cond.code yX4_ownWidthOf cX4_ownWidthOf 2 (some .int), Cond.methodLink RX8 94 yX7_size]
def wsX8_dropName : List Cond := .code yX8_dropName cX8_dropName 2 (some .int) :: ((wsX8_dropName_r1 ++ (wsX8_dropName_r2 ++ (wsX8_dropName_r3 ++ (wsX8_dropName_r4 ++ (wsX8_dropName_r5 ++ (wsX8_dropName_r6 ++ (wsX8_dropName_r7 ++ (wsX8_dropName_r8 ++ wsX8_dropName_r9)))))))) ++ wsX80 ++ wsX50 ++ wsX70 ++ wsX20 ++ wsX30 ++ wsX10 ++ wsX00 ++ wsX40)
def wsX8_dropEnding_r1 : List Cond := [Cond.fieldLink RX8 19 "BlackBars" "state" "LBlackBars$State;", Cond.methodLink RX8 105 yX8_dropFrom, Cond.instanceMethod yX8_dropFrom, Cond.selects RX8 yX8_dropFrom yX8_dropFrom, Cond.initialized RX8, Cond.code yX8_dropFrom cX8_dropFrom 3 (some .int), Cond.fieldLink RX8 26 "BlackBars" "history" "LBlackBars$History;", Cond.methodLink RX8 158 yX7_has, Cond.instanceMethod yX7_has, Cond.selects RX7 yX7_has yX7_has, Cond.initialized RX7, Cond.code yX7_has cX7_has 2 (some .boolean), Cond.fieldLink RX7 28 "BlackBars$Words" "size" "I", Cond.methodLink RX8 76 yX2_keep, Cond.instanceMethod yX2_keep, Cond.selects RX2 yX2_keep yX2_keep, Cond.initialized RX2, Cond.code yX2_keep cX2_keep 3 none, Cond.fieldLink RX2 18 "BlackBars$History" "size" "I", Cond.fieldLink RX2 11 "BlackBars$History" "states" "[LBlackBars$State;", Cond.methodLink RX2 22 yX2_moveOldestToEnd, Cond.instanceMethod yX2_moveOldestToEnd, Cond.selects RX2 yX2_moveOldestToEnd yX2_moveOldestToEnd, Cond.code yX2_moveOldestToEnd cX2_moveOldestToEnd 3 none]
def wsX8_dropEnding_r2 : List Cond := [Cond.methodLink RX2 25 yX2_latest, Cond.instanceMethod yX2_latest, Cond.selects RX2 yX2_latest yX2_latest, Cond.code yX2_latest cX2_latest 1 (some (.object "BlackBars$State")), Cond.methodLink RX2 29 yX5_copyFrom, Cond.instanceMethod yX5_copyFrom, Cond.selects RX5 yX5_copyFrom yX5_copyFrom, Cond.initialized RX5, Cond.code yX5_copyFrom cX5_copyFrom 2 none, Cond.fieldLink RX5 14 "BlackBars$State" "page" "LBlackBars$Words;", Cond.fieldLink RX5 20 "BlackBars$State" "names" "LBlackBars$Words;", Cond.fieldLink RX5 23 "BlackBars$State" "endings" "LBlackBars$Words;", Cond.fieldLink RX5 35 "BlackBars$State" "letterWidths" "LBlackBars$Row;", Cond.fieldLink RX5 42 "BlackBars$State" "settings" "LBlackBars$Row;", Cond.methodLink RX5 57 yX7_copyFrom, Cond.instanceMethod yX7_copyFrom, Cond.selects RX7 yX7_copyFrom yX7_copyFrom, Cond.code yX7_copyFrom cX7_copyFrom 2 none, Cond.fieldLink RX7 21 "BlackBars$Words" "letters" "LBlackBars$Row;", Cond.fieldLink RX7 25 "BlackBars$Words" "lengths" "LBlackBars$Row;", Cond.fieldLink RX7 7 "BlackBars$Words" "mostWords" "I", Cond.methodLink RX7 75 Lib.Math.min.name, Cond.static Lib.Math.min.name, Cond.initialized "java/lang/Math"]
def wsX8_dropEnding_r3 : List Cond := [Cond.code Lib.Math.min.name Lib.Math.min.code 2 (some .int), Cond.methodLink RX7 71 yX3_copyFrom, Cond.instanceMethod yX3_copyFrom, Cond.selects RX3 yX3_copyFrom yX3_copyFrom, Cond.initialized RX3, Cond.code yX3_copyFrom cX3_copyFrom 2 none, Cond.fieldLink RX3 13 "BlackBars$Row" "cells" "[I", Cond.methodLink RX3 24 Lib.Math.min.name, Cond.methodLink RX3 27 arraycopyName, Cond.native arraycopyName, Cond.static arraycopyName, Cond.initialized "java/lang/System", Cond.methodLink RX5 61 yX3_copyFrom, Cond.methodLink RX8 264 yX7_remove, Cond.instanceMethod yX7_remove, Cond.selects RX7 yX7_remove yX7_remove, Cond.code yX7_remove cX7_remove 4 none, Cond.fieldLink RX7 13 "BlackBars$Words" "mostLetters" "I", Cond.methodLink RX7 68 yX7_has, Cond.methodLink RX7 39 yX7_lengthOf, Cond.instanceMethod yX7_lengthOf, Cond.selects RX7 yX7_lengthOf yX7_lengthOf, Cond.code yX7_lengthOf cX7_lengthOf 2 (some .int), Cond.methodLink RX7 31 yX3_at]
def wsX8_dropEnding_r4 : List Cond := [Cond.instanceMethod yX3_at, Cond.selects RX3 yX3_at yX3_at, Cond.code yX3_at cX3_at 2 (some .int), Cond.methodLink RX7 64 yX3_put, Cond.instanceMethod yX3_put, Cond.selects RX3 yX3_put yX3_put, Cond.code yX3_put cX3_put 3 none, Cond.methodLink RX7 47 yX7_letterOf, Cond.instanceMethod yX7_letterOf, Cond.selects RX7 yX7_letterOf yX7_letterOf, Cond.code yX7_letterOf cX7_letterOf 3 (some .int), Cond.methodLink RX8 91 yX8_workOut, Cond.instanceMethod yX8_workOut, Cond.selects RX8 yX8_workOut yX8_workOut, Cond.code yX8_workOut cX8_workOut 1 none, Cond.fieldLink RX8 33 "BlackBars" "forms" "LBlackBars$Forms;", Cond.fieldLink RX8 42 "BlackBars" "bars" "LBlackBars$Bars;", Cond.fieldLink RX8 54 "BlackBars" "sheet" "LBlackBars$Sheet;", Cond.methodLink RX8 240 yX1_measure, Cond.instanceMethod yX1_measure, Cond.selects RX1 yX1_measure yX1_measure, Cond.initialized RX1, Cond.code yX1_measure cX1_measure 4 none, Cond.fieldLink RX1 26 "BlackBars$Forms" "formsOfName" "I"]
def wsX8_dropEnding_r5 : List Cond := [Cond.fieldLink RX1 30 "BlackBars$Forms" "size" "I", Cond.fieldLink RX1 14 "BlackBars$Forms" "widths" "LBlackBars$Row;", Cond.fieldLink RX1 20 "BlackBars$Forms" "ranks" "LBlackBars$Row;", Cond.fieldLink RX1 23 "BlackBars$Forms" "sortedWidths" "LBlackBars$Row;", Cond.methodLink RX1 43 yX7_size, Cond.instanceMethod yX7_size, Cond.selects RX7 yX7_size yX7_size, Cond.code yX7_size cX7_size 1 (some .int), Cond.methodLink RX1 51 yX1_nameOf, Cond.instanceMethod yX1_nameOf, Cond.selects RX1 yX1_nameOf yX1_nameOf, Cond.code yX1_nameOf cX1_nameOf 2 (some .int), Cond.methodLink RX1 54 yX1_endingOf, Cond.instanceMethod yX1_endingOf, Cond.selects RX1 yX1_endingOf yX1_endingOf, Cond.code yX1_endingOf cX1_endingOf 2 (some .int), Cond.methodLink RX1 57 yX5_widthOfForm, Cond.instanceMethod yX5_widthOfForm, Cond.selects RX5 yX5_widthOfForm yX5_widthOfForm, Cond.code yX5_widthOfForm cX5_widthOfForm 3 (some .int), Cond.methodLink RX5 49 yX7_widthOf, Cond.instanceMethod yX7_widthOf, Cond.selects RX7 yX7_widthOf yX7_widthOf, Cond.code yX7_widthOf cX7_widthOf 7 (some .int)]
def wsX8_dropEnding_r6 : List Cond := [Cond.methodLink RX1 61 yX3_put, Cond.methodLink RX1 65 yX1_formsAheadOf, Cond.instanceMethod yX1_formsAheadOf, Cond.selects RX1 yX1_formsAheadOf yX1_formsAheadOf, Cond.code yX1_formsAheadOf cX1_formsAheadOf 6 (some .int), Cond.methodLink RX1 33 yX3_at, Cond.methodLink RX8 117 yX3_at, Cond.methodLink RX8 229 yX0_draw, Cond.instanceMethod yX0_draw, Cond.selects RX0 yX0_draw yX0_draw, Cond.initialized RX0, Cond.code yX0_draw cX0_draw 5 none, Cond.fieldLink RX0 9 "BlackBars$Bars" "forms" "LBlackBars$Forms;", Cond.fieldLink RX0 20 "BlackBars$Bars" "widths" "LBlackBars$Row;", Cond.methodLink RX0 24 yX1_size, Cond.instanceMethod yX1_size, Cond.selects RX1 yX1_size yX1_size, Cond.code yX1_size cX1_size 1 (some .int), Cond.methodLink RX0 30 yX0_barWidth, Cond.instanceMethod yX0_barWidth, Cond.selects RX0 yX0_barWidth yX0_barWidth, Cond.code yX0_barWidth cX0_barWidth 5 (some .int), Cond.methodLink RX0 38 yX1_widthOf, Cond.instanceMethod yX1_widthOf]
def wsX8_dropEnding_r7 : List Cond := [Cond.selects RX1 yX1_widthOf yX1_widthOf, Cond.code yX1_widthOf cX1_widthOf 2 (some .int), Cond.methodLink RX0 42 yX0_upToMultiple, Cond.static yX0_upToMultiple, Cond.code yX0_upToMultiple cX0_upToMultiple 2 (some .int), Cond.methodLink RX0 46 yX1_rankOf, Cond.instanceMethod yX1_rankOf, Cond.selects RX1 yX1_rankOf yX1_rankOf, Cond.code yX1_rankOf cX1_rankOf 2 (some .int), Cond.methodLink RX0 49 yX0_lastRankOfGroup, Cond.instanceMethod yX0_lastRankOfGroup, Cond.selects RX0 yX0_lastRankOfGroup yX0_lastRankOfGroup, Cond.code yX0_lastRankOfGroup cX0_lastRankOfGroup 5 (some .int), Cond.methodLink RX0 52 yX1_widthAtRank, Cond.instanceMethod yX1_widthAtRank, Cond.selects RX1 yX1_widthAtRank yX1_widthAtRank, Cond.code yX1_widthAtRank cX1_widthAtRank 2 (some .int), Cond.methodLink RX0 34 yX3_put, Cond.methodLink RX8 243 yX4_hideWords, Cond.instanceMethod yX4_hideWords, Cond.selects RX4 yX4_hideWords yX4_hideWords, Cond.initialized RX4, Cond.code yX4_hideWords cX4_hideWords 4 none, Cond.fieldLink RX4 9 "BlackBars$Sheet" "state" "LBlackBars$State;"]
def wsX8_dropEnding_r8 : List Cond := [Cond.fieldLink RX4 15 "BlackBars$Sheet" "forms" "LBlackBars$Forms;", Cond.fieldLink RX4 24 "BlackBars$Sheet" "formsOfWords" "LBlackBars$Row;", Cond.fieldLink RX4 28 "BlackBars$Sheet" "ownWidths" "LBlackBars$Row;", Cond.methodLink RX4 53 yX7_size, Cond.methodLink RX4 59 yX1_size, Cond.methodLink RX4 62 yX1_nameOf, Cond.methodLink RX4 66 yX1_endingOf, Cond.methodLink RX4 69 yX5_isForm, Cond.instanceMethod yX5_isForm, Cond.selects RX5 yX5_isForm yX5_isForm, Cond.code yX5_isForm cX5_isForm 8 (some .boolean), Cond.methodLink RX5 45 yX7_lengthOf, Cond.methodLink RX5 53 yX7_letterOf, Cond.methodLink RX4 73 yX3_put, Cond.methodLink RX4 80 yX7_widthOf, Cond.methodLink RX8 246 yX4_flow, Cond.instanceMethod yX4_flow, Cond.selects RX4 yX4_flow yX4_flow, Cond.code yX4_flow cX4_flow 8 none, Cond.fieldLink RX4 43 "BlackBars$Sheet" "lines" "I", Cond.fieldLink RX4 40 "BlackBars$Sheet" "firstWords" "LBlackBars$Row;", Cond.fieldLink RX4 31 "BlackBars$Sheet" "shownWidths" "LBlackBars$Row;", Cond.fieldLink RX4 34 "BlackBars$Sheet" "linesOfWords" "LBlackBars$Row;", Cond.fieldLink RX4 37 "BlackBars$Sheet" "places" "LBlackBars$Row;"]
def wsX8_dropEnding_r9 : List Cond := [Cond.methodLink RX4 87 yX3_at, Cond.methodLink RX4 90 yX4_widthUnder, Cond.instanceMethod yX4_widthUnder, Cond.selects RX4 yX4_widthUnder yX4_widthUnder, Cond.code yX4_widthUnder cX4_widthUnder 3 (some .int), Cond.methodLink RX4 94 yX4_isHidden, Cond.instanceMethod yX4_isHidden, Cond.selects RX4 yX4_isHidden yX4_isHidden, Cond.code yX4_isHidden cX4_isHidden 2 (some .boolean), Cond.methodLink RX4 98 yX4_formOf, Cond.instanceMethod yX4_formOf, Cond.selects RX4 yX4_formOf yX4_formOf, Cond.code yX4_formOf cX4_formOf 2 (some .int), Cond.methodLink RX4 101 yX0_widthOf, Cond.instanceMethod yX0_widthOf, Cond.selects RX0 yX0_widthOf yX0_widthOf, Cond.code yX0_widthOf cX0_widthOf 2 (some .int), Cond.methodLink RX0 55 yX3_at, Cond.methodLink RX4 105 yX4_ownWidthOf, Cond.instanceMethod yX4_ownWidthOf, Cond.selects RX4 yX4_ownWidthOf yX4_ownWidthOf, Cond.code yX4_ownWidthOf cX4_ownWidthOf 2 (some .int), Cond.methodLink RX8 94 yX7_size]
def wsX8_dropEnding : List Cond := .code yX8_dropEnding cX8_dropEnding 2 (some .int) :: ((wsX8_dropEnding_r1 ++ (wsX8_dropEnding_r2 ++ (wsX8_dropEnding_r3 ++ (wsX8_dropEnding_r4 ++ (wsX8_dropEnding_r5 ++ (wsX8_dropEnding_r6 ++ (wsX8_dropEnding_r7 ++ (wsX8_dropEnding_r8 ++ wsX8_dropEnding_r9)))))))) ++ wsX80 ++ wsX50 ++ wsX70 ++ wsX20 ++ wsX30 ++ wsX10 ++ wsX00 ++ wsX40)
def wsX8_widen_r1 : List Cond := [Cond.fieldLink RX8 19 "BlackBars" "state" "LBlackBars$State;", Cond.fieldLink RX8 26 "BlackBars" "history" "LBlackBars$History;", Cond.methodLink RX8 109 yX8_isLetter, Cond.static yX8_isLetter, Cond.initialized RX8, Cond.code yX8_isLetter cX8_isLetter 1 (some .boolean), Cond.methodLink RX8 117 yX3_at, Cond.instanceMethod yX3_at, Cond.selects RX3 yX3_at yX3_at, Cond.initialized RX3, Cond.code yX3_at cX3_at 2 (some .int), Cond.fieldLink RX3 13 "BlackBars$Row" "cells" "[I", Cond.methodLink RX8 76 yX2_keep, Cond.instanceMethod yX2_keep, Cond.selects RX2 yX2_keep yX2_keep, Cond.initialized RX2, Cond.code yX2_keep cX2_keep 3 none, Cond.fieldLink RX2 18 "BlackBars$History" "size" "I", Cond.fieldLink RX2 11 "BlackBars$History" "states" "[LBlackBars$State;", Cond.methodLink RX2 22 yX2_moveOldestToEnd, Cond.instanceMethod yX2_moveOldestToEnd, Cond.selects RX2 yX2_moveOldestToEnd yX2_moveOldestToEnd, Cond.code yX2_moveOldestToEnd cX2_moveOldestToEnd 3 none, Cond.methodLink RX2 25 yX2_latest]
def wsX8_widen_r2 : List Cond := [Cond.instanceMethod yX2_latest, Cond.selects RX2 yX2_latest yX2_latest, Cond.code yX2_latest cX2_latest 1 (some (.object "BlackBars$State")), Cond.methodLink RX2 29 yX5_copyFrom, Cond.instanceMethod yX5_copyFrom, Cond.selects RX5 yX5_copyFrom yX5_copyFrom, Cond.initialized RX5, Cond.code yX5_copyFrom cX5_copyFrom 2 none, Cond.fieldLink RX5 14 "BlackBars$State" "page" "LBlackBars$Words;", Cond.fieldLink RX5 20 "BlackBars$State" "names" "LBlackBars$Words;", Cond.fieldLink RX5 23 "BlackBars$State" "endings" "LBlackBars$Words;", Cond.fieldLink RX5 35 "BlackBars$State" "letterWidths" "LBlackBars$Row;", Cond.fieldLink RX5 42 "BlackBars$State" "settings" "LBlackBars$Row;", Cond.methodLink RX5 57 yX7_copyFrom, Cond.instanceMethod yX7_copyFrom, Cond.selects RX7 yX7_copyFrom yX7_copyFrom, Cond.initialized RX7, Cond.code yX7_copyFrom cX7_copyFrom 2 none, Cond.fieldLink RX7 21 "BlackBars$Words" "letters" "LBlackBars$Row;", Cond.fieldLink RX7 25 "BlackBars$Words" "lengths" "LBlackBars$Row;", Cond.fieldLink RX7 7 "BlackBars$Words" "mostWords" "I", Cond.fieldLink RX7 28 "BlackBars$Words" "size" "I", Cond.methodLink RX7 75 Lib.Math.min.name, Cond.static Lib.Math.min.name]
def wsX8_widen_r3 : List Cond := [Cond.initialized "java/lang/Math", Cond.code Lib.Math.min.name Lib.Math.min.code 2 (some .int), Cond.methodLink RX7 71 yX3_copyFrom, Cond.instanceMethod yX3_copyFrom, Cond.selects RX3 yX3_copyFrom yX3_copyFrom, Cond.code yX3_copyFrom cX3_copyFrom 2 none, Cond.methodLink RX3 24 Lib.Math.min.name, Cond.methodLink RX3 27 arraycopyName, Cond.native arraycopyName, Cond.static arraycopyName, Cond.initialized "java/lang/System", Cond.methodLink RX5 61 yX3_copyFrom, Cond.methodLink RX8 122 yX3_put, Cond.instanceMethod yX3_put, Cond.selects RX3 yX3_put yX3_put, Cond.code yX3_put cX3_put 3 none, Cond.methodLink RX8 91 yX8_workOut, Cond.instanceMethod yX8_workOut, Cond.selects RX8 yX8_workOut yX8_workOut, Cond.code yX8_workOut cX8_workOut 1 none, Cond.fieldLink RX8 33 "BlackBars" "forms" "LBlackBars$Forms;", Cond.fieldLink RX8 42 "BlackBars" "bars" "LBlackBars$Bars;", Cond.fieldLink RX8 54 "BlackBars" "sheet" "LBlackBars$Sheet;", Cond.methodLink RX8 240 yX1_measure]
def wsX8_widen_r4 : List Cond := [Cond.instanceMethod yX1_measure, Cond.selects RX1 yX1_measure yX1_measure, Cond.initialized RX1, Cond.code yX1_measure cX1_measure 4 none, Cond.fieldLink RX1 26 "BlackBars$Forms" "formsOfName" "I", Cond.fieldLink RX1 30 "BlackBars$Forms" "size" "I", Cond.fieldLink RX1 14 "BlackBars$Forms" "widths" "LBlackBars$Row;", Cond.fieldLink RX1 20 "BlackBars$Forms" "ranks" "LBlackBars$Row;", Cond.fieldLink RX1 23 "BlackBars$Forms" "sortedWidths" "LBlackBars$Row;", Cond.methodLink RX1 43 yX7_size, Cond.instanceMethod yX7_size, Cond.selects RX7 yX7_size yX7_size, Cond.code yX7_size cX7_size 1 (some .int), Cond.methodLink RX1 51 yX1_nameOf, Cond.instanceMethod yX1_nameOf, Cond.selects RX1 yX1_nameOf yX1_nameOf, Cond.code yX1_nameOf cX1_nameOf 2 (some .int), Cond.methodLink RX1 54 yX1_endingOf, Cond.instanceMethod yX1_endingOf, Cond.selects RX1 yX1_endingOf yX1_endingOf, Cond.code yX1_endingOf cX1_endingOf 2 (some .int), Cond.methodLink RX1 57 yX5_widthOfForm, Cond.instanceMethod yX5_widthOfForm, Cond.selects RX5 yX5_widthOfForm yX5_widthOfForm]
def wsX8_widen_r5 : List Cond := [Cond.code yX5_widthOfForm cX5_widthOfForm 3 (some .int), Cond.methodLink RX5 49 yX7_widthOf, Cond.instanceMethod yX7_widthOf, Cond.selects RX7 yX7_widthOf yX7_widthOf, Cond.code yX7_widthOf cX7_widthOf 7 (some .int), Cond.fieldLink RX7 13 "BlackBars$Words" "mostLetters" "I", Cond.methodLink RX7 31 yX3_at, Cond.methodLink RX1 61 yX3_put, Cond.methodLink RX1 65 yX1_formsAheadOf, Cond.instanceMethod yX1_formsAheadOf, Cond.selects RX1 yX1_formsAheadOf yX1_formsAheadOf, Cond.code yX1_formsAheadOf cX1_formsAheadOf 6 (some .int), Cond.methodLink RX1 33 yX3_at, Cond.methodLink RX8 229 yX0_draw, Cond.instanceMethod yX0_draw, Cond.selects RX0 yX0_draw yX0_draw, Cond.initialized RX0, Cond.code yX0_draw cX0_draw 5 none, Cond.fieldLink RX0 9 "BlackBars$Bars" "forms" "LBlackBars$Forms;", Cond.fieldLink RX0 20 "BlackBars$Bars" "widths" "LBlackBars$Row;", Cond.methodLink RX0 24 yX1_size, Cond.instanceMethod yX1_size, Cond.selects RX1 yX1_size yX1_size, Cond.code yX1_size cX1_size 1 (some .int)]
def wsX8_widen_r6 : List Cond := [Cond.methodLink RX0 30 yX0_barWidth, Cond.instanceMethod yX0_barWidth, Cond.selects RX0 yX0_barWidth yX0_barWidth, Cond.code yX0_barWidth cX0_barWidth 5 (some .int), Cond.methodLink RX0 38 yX1_widthOf, Cond.instanceMethod yX1_widthOf, Cond.selects RX1 yX1_widthOf yX1_widthOf, Cond.code yX1_widthOf cX1_widthOf 2 (some .int), Cond.methodLink RX0 42 yX0_upToMultiple, Cond.static yX0_upToMultiple, Cond.code yX0_upToMultiple cX0_upToMultiple 2 (some .int), Cond.methodLink RX0 46 yX1_rankOf, Cond.instanceMethod yX1_rankOf, Cond.selects RX1 yX1_rankOf yX1_rankOf, Cond.code yX1_rankOf cX1_rankOf 2 (some .int), Cond.methodLink RX0 49 yX0_lastRankOfGroup, Cond.instanceMethod yX0_lastRankOfGroup, Cond.selects RX0 yX0_lastRankOfGroup yX0_lastRankOfGroup, Cond.code yX0_lastRankOfGroup cX0_lastRankOfGroup 5 (some .int), Cond.methodLink RX0 52 yX1_widthAtRank, Cond.instanceMethod yX1_widthAtRank, Cond.selects RX1 yX1_widthAtRank yX1_widthAtRank, Cond.code yX1_widthAtRank cX1_widthAtRank 2 (some .int), Cond.methodLink RX0 34 yX3_put]
def wsX8_widen_r7 : List Cond := [Cond.methodLink RX8 243 yX4_hideWords, Cond.instanceMethod yX4_hideWords, Cond.selects RX4 yX4_hideWords yX4_hideWords, Cond.initialized RX4, Cond.code yX4_hideWords cX4_hideWords 4 none, Cond.fieldLink RX4 9 "BlackBars$Sheet" "state" "LBlackBars$State;", Cond.fieldLink RX4 15 "BlackBars$Sheet" "forms" "LBlackBars$Forms;", Cond.fieldLink RX4 24 "BlackBars$Sheet" "formsOfWords" "LBlackBars$Row;", Cond.fieldLink RX4 28 "BlackBars$Sheet" "ownWidths" "LBlackBars$Row;", Cond.methodLink RX4 53 yX7_size, Cond.methodLink RX4 59 yX1_size, Cond.methodLink RX4 62 yX1_nameOf, Cond.methodLink RX4 66 yX1_endingOf, Cond.methodLink RX4 69 yX5_isForm, Cond.instanceMethod yX5_isForm, Cond.selects RX5 yX5_isForm yX5_isForm, Cond.code yX5_isForm cX5_isForm 8 (some .boolean), Cond.methodLink RX5 45 yX7_lengthOf, Cond.instanceMethod yX7_lengthOf, Cond.selects RX7 yX7_lengthOf yX7_lengthOf, Cond.code yX7_lengthOf cX7_lengthOf 2 (some .int), Cond.methodLink RX5 53 yX7_letterOf, Cond.instanceMethod yX7_letterOf, Cond.selects RX7 yX7_letterOf yX7_letterOf]
def wsX8_widen_r8 : List Cond := [Cond.code yX7_letterOf cX7_letterOf 3 (some .int), Cond.methodLink RX4 73 yX3_put, Cond.methodLink RX4 80 yX7_widthOf, Cond.methodLink RX8 246 yX4_flow, Cond.instanceMethod yX4_flow, Cond.selects RX4 yX4_flow yX4_flow, Cond.code yX4_flow cX4_flow 8 none, Cond.fieldLink RX4 43 "BlackBars$Sheet" "lines" "I", Cond.fieldLink RX4 40 "BlackBars$Sheet" "firstWords" "LBlackBars$Row;", Cond.fieldLink RX4 31 "BlackBars$Sheet" "shownWidths" "LBlackBars$Row;", Cond.fieldLink RX4 34 "BlackBars$Sheet" "linesOfWords" "LBlackBars$Row;", Cond.fieldLink RX4 37 "BlackBars$Sheet" "places" "LBlackBars$Row;", Cond.methodLink RX4 87 yX3_at, Cond.methodLink RX4 90 yX4_widthUnder, Cond.instanceMethod yX4_widthUnder, Cond.selects RX4 yX4_widthUnder yX4_widthUnder, Cond.code yX4_widthUnder cX4_widthUnder 3 (some .int), Cond.methodLink RX4 94 yX4_isHidden, Cond.instanceMethod yX4_isHidden, Cond.selects RX4 yX4_isHidden yX4_isHidden, Cond.code yX4_isHidden cX4_isHidden 2 (some .boolean), Cond.methodLink RX4 98 yX4_formOf, Cond.instanceMethod yX4_formOf, Cond.selects RX4 yX4_formOf yX4_formOf]
def wsX8_widen_r9 : List Cond := [Cond.code yX4_formOf cX4_formOf 2 (some .int), Cond.methodLink RX4 101 yX0_widthOf, Cond.instanceMethod yX0_widthOf, Cond.selects RX0 yX0_widthOf yX0_widthOf, Cond.code yX0_widthOf cX0_widthOf 2 (some .int), Cond.methodLink RX0 55 yX3_at, Cond.methodLink RX4 105 yX4_ownWidthOf, Cond.instanceMethod yX4_ownWidthOf, Cond.selects RX4 yX4_ownWidthOf yX4_ownWidthOf, Cond.code yX4_ownWidthOf cX4_ownWidthOf 2 (some .int)]
def wsX8_widen : List Cond := .code yX8_widen cX8_widen 4 (some .int) :: ((wsX8_widen_r1 ++ (wsX8_widen_r2 ++ (wsX8_widen_r3 ++ (wsX8_widen_r4 ++ (wsX8_widen_r5 ++ (wsX8_widen_r6 ++ (wsX8_widen_r7 ++ (wsX8_widen_r8 ++ wsX8_widen_r9)))))))) ++ wsX80 ++ wsX50 ++ wsX30 ++ wsX20 ++ wsX70 ++ wsX10 ++ wsX00 ++ wsX40)
def wsX8_set_r1 : List Cond := [Cond.fieldLink RX8 126 "BlackBars" "LEAST_VALUES" "[I", Cond.fieldLink RX8 130 "BlackBars" "GREATEST_VALUES" "[I", Cond.fieldLink RX8 19 "BlackBars" "state" "LBlackBars$State;", Cond.fieldLink RX8 26 "BlackBars" "history" "LBlackBars$History;", Cond.methodLink RX8 117 yX3_at, Cond.instanceMethod yX3_at, Cond.selects RX3 yX3_at yX3_at, Cond.initialized RX3, Cond.code yX3_at cX3_at 2 (some .int), Cond.fieldLink RX3 13 "BlackBars$Row" "cells" "[I", Cond.methodLink RX8 76 yX2_keep, Cond.instanceMethod yX2_keep, Cond.selects RX2 yX2_keep yX2_keep, Cond.initialized RX2, Cond.code yX2_keep cX2_keep 3 none, Cond.fieldLink RX2 18 "BlackBars$History" "size" "I", Cond.fieldLink RX2 11 "BlackBars$History" "states" "[LBlackBars$State;", Cond.methodLink RX2 22 yX2_moveOldestToEnd, Cond.instanceMethod yX2_moveOldestToEnd, Cond.selects RX2 yX2_moveOldestToEnd yX2_moveOldestToEnd, Cond.code yX2_moveOldestToEnd cX2_moveOldestToEnd 3 none, Cond.methodLink RX2 25 yX2_latest, Cond.instanceMethod yX2_latest, Cond.selects RX2 yX2_latest yX2_latest]
def wsX8_set_r2 : List Cond := [Cond.code yX2_latest cX2_latest 1 (some (.object "BlackBars$State")), Cond.methodLink RX2 29 yX5_copyFrom, Cond.instanceMethod yX5_copyFrom, Cond.selects RX5 yX5_copyFrom yX5_copyFrom, Cond.initialized RX5, Cond.code yX5_copyFrom cX5_copyFrom 2 none, Cond.fieldLink RX5 14 "BlackBars$State" "page" "LBlackBars$Words;", Cond.fieldLink RX5 20 "BlackBars$State" "names" "LBlackBars$Words;", Cond.fieldLink RX5 23 "BlackBars$State" "endings" "LBlackBars$Words;", Cond.fieldLink RX5 35 "BlackBars$State" "letterWidths" "LBlackBars$Row;", Cond.fieldLink RX5 42 "BlackBars$State" "settings" "LBlackBars$Row;", Cond.methodLink RX5 57 yX7_copyFrom, Cond.instanceMethod yX7_copyFrom, Cond.selects RX7 yX7_copyFrom yX7_copyFrom, Cond.initialized RX7, Cond.code yX7_copyFrom cX7_copyFrom 2 none, Cond.fieldLink RX7 21 "BlackBars$Words" "letters" "LBlackBars$Row;", Cond.fieldLink RX7 25 "BlackBars$Words" "lengths" "LBlackBars$Row;", Cond.fieldLink RX7 7 "BlackBars$Words" "mostWords" "I", Cond.fieldLink RX7 28 "BlackBars$Words" "size" "I", Cond.methodLink RX7 75 Lib.Math.min.name, Cond.static Lib.Math.min.name, Cond.initialized "java/lang/Math", Cond.code Lib.Math.min.name Lib.Math.min.code 2 (some .int)]
def wsX8_set_r3 : List Cond := [Cond.methodLink RX7 71 yX3_copyFrom, Cond.instanceMethod yX3_copyFrom, Cond.selects RX3 yX3_copyFrom yX3_copyFrom, Cond.code yX3_copyFrom cX3_copyFrom 2 none, Cond.methodLink RX3 24 Lib.Math.min.name, Cond.methodLink RX3 27 arraycopyName, Cond.native arraycopyName, Cond.static arraycopyName, Cond.initialized "java/lang/System", Cond.methodLink RX5 61 yX3_copyFrom, Cond.methodLink RX8 122 yX3_put, Cond.instanceMethod yX3_put, Cond.selects RX3 yX3_put yX3_put, Cond.code yX3_put cX3_put 3 none, Cond.methodLink RX8 91 yX8_workOut, Cond.instanceMethod yX8_workOut, Cond.selects RX8 yX8_workOut yX8_workOut, Cond.initialized RX8, Cond.code yX8_workOut cX8_workOut 1 none, Cond.fieldLink RX8 33 "BlackBars" "forms" "LBlackBars$Forms;", Cond.fieldLink RX8 42 "BlackBars" "bars" "LBlackBars$Bars;", Cond.fieldLink RX8 54 "BlackBars" "sheet" "LBlackBars$Sheet;", Cond.methodLink RX8 240 yX1_measure, Cond.instanceMethod yX1_measure]
def wsX8_set_r4 : List Cond := [Cond.selects RX1 yX1_measure yX1_measure, Cond.initialized RX1, Cond.code yX1_measure cX1_measure 4 none, Cond.fieldLink RX1 26 "BlackBars$Forms" "formsOfName" "I", Cond.fieldLink RX1 30 "BlackBars$Forms" "size" "I", Cond.fieldLink RX1 14 "BlackBars$Forms" "widths" "LBlackBars$Row;", Cond.fieldLink RX1 20 "BlackBars$Forms" "ranks" "LBlackBars$Row;", Cond.fieldLink RX1 23 "BlackBars$Forms" "sortedWidths" "LBlackBars$Row;", Cond.methodLink RX1 43 yX7_size, Cond.instanceMethod yX7_size, Cond.selects RX7 yX7_size yX7_size, Cond.code yX7_size cX7_size 1 (some .int), Cond.methodLink RX1 51 yX1_nameOf, Cond.instanceMethod yX1_nameOf, Cond.selects RX1 yX1_nameOf yX1_nameOf, Cond.code yX1_nameOf cX1_nameOf 2 (some .int), Cond.methodLink RX1 54 yX1_endingOf, Cond.instanceMethod yX1_endingOf, Cond.selects RX1 yX1_endingOf yX1_endingOf, Cond.code yX1_endingOf cX1_endingOf 2 (some .int), Cond.methodLink RX1 57 yX5_widthOfForm, Cond.instanceMethod yX5_widthOfForm, Cond.selects RX5 yX5_widthOfForm yX5_widthOfForm, Cond.code yX5_widthOfForm cX5_widthOfForm 3 (some .int)]
def wsX8_set_r5 : List Cond := [Cond.methodLink RX5 49 yX7_widthOf, Cond.instanceMethod yX7_widthOf, Cond.selects RX7 yX7_widthOf yX7_widthOf, Cond.code yX7_widthOf cX7_widthOf 7 (some .int), Cond.fieldLink RX7 13 "BlackBars$Words" "mostLetters" "I", Cond.methodLink RX7 31 yX3_at, Cond.methodLink RX1 61 yX3_put, Cond.methodLink RX1 65 yX1_formsAheadOf, Cond.instanceMethod yX1_formsAheadOf, Cond.selects RX1 yX1_formsAheadOf yX1_formsAheadOf, Cond.code yX1_formsAheadOf cX1_formsAheadOf 6 (some .int), Cond.methodLink RX1 33 yX3_at, Cond.methodLink RX8 229 yX0_draw, Cond.instanceMethod yX0_draw, Cond.selects RX0 yX0_draw yX0_draw, Cond.initialized RX0, Cond.code yX0_draw cX0_draw 5 none, Cond.fieldLink RX0 9 "BlackBars$Bars" "forms" "LBlackBars$Forms;", Cond.fieldLink RX0 20 "BlackBars$Bars" "widths" "LBlackBars$Row;", Cond.methodLink RX0 24 yX1_size, Cond.instanceMethod yX1_size, Cond.selects RX1 yX1_size yX1_size, Cond.code yX1_size cX1_size 1 (some .int), Cond.methodLink RX0 30 yX0_barWidth]
def wsX8_set_r6 : List Cond := [Cond.instanceMethod yX0_barWidth, Cond.selects RX0 yX0_barWidth yX0_barWidth, Cond.code yX0_barWidth cX0_barWidth 5 (some .int), Cond.methodLink RX0 38 yX1_widthOf, Cond.instanceMethod yX1_widthOf, Cond.selects RX1 yX1_widthOf yX1_widthOf, Cond.code yX1_widthOf cX1_widthOf 2 (some .int), Cond.methodLink RX0 42 yX0_upToMultiple, Cond.static yX0_upToMultiple, Cond.code yX0_upToMultiple cX0_upToMultiple 2 (some .int), Cond.methodLink RX0 46 yX1_rankOf, Cond.instanceMethod yX1_rankOf, Cond.selects RX1 yX1_rankOf yX1_rankOf, Cond.code yX1_rankOf cX1_rankOf 2 (some .int), Cond.methodLink RX0 49 yX0_lastRankOfGroup, Cond.instanceMethod yX0_lastRankOfGroup, Cond.selects RX0 yX0_lastRankOfGroup yX0_lastRankOfGroup, Cond.code yX0_lastRankOfGroup cX0_lastRankOfGroup 5 (some .int), Cond.methodLink RX0 52 yX1_widthAtRank, Cond.instanceMethod yX1_widthAtRank, Cond.selects RX1 yX1_widthAtRank yX1_widthAtRank, Cond.code yX1_widthAtRank cX1_widthAtRank 2 (some .int), Cond.methodLink RX0 34 yX3_put, Cond.methodLink RX8 243 yX4_hideWords]
def wsX8_set_r7 : List Cond := [Cond.instanceMethod yX4_hideWords, Cond.selects RX4 yX4_hideWords yX4_hideWords, Cond.initialized RX4, Cond.code yX4_hideWords cX4_hideWords 4 none, Cond.fieldLink RX4 9 "BlackBars$Sheet" "state" "LBlackBars$State;", Cond.fieldLink RX4 15 "BlackBars$Sheet" "forms" "LBlackBars$Forms;", Cond.fieldLink RX4 24 "BlackBars$Sheet" "formsOfWords" "LBlackBars$Row;", Cond.fieldLink RX4 28 "BlackBars$Sheet" "ownWidths" "LBlackBars$Row;", Cond.methodLink RX4 53 yX7_size, Cond.methodLink RX4 59 yX1_size, Cond.methodLink RX4 62 yX1_nameOf, Cond.methodLink RX4 66 yX1_endingOf, Cond.methodLink RX4 69 yX5_isForm, Cond.instanceMethod yX5_isForm, Cond.selects RX5 yX5_isForm yX5_isForm, Cond.code yX5_isForm cX5_isForm 8 (some .boolean), Cond.methodLink RX5 45 yX7_lengthOf, Cond.instanceMethod yX7_lengthOf, Cond.selects RX7 yX7_lengthOf yX7_lengthOf, Cond.code yX7_lengthOf cX7_lengthOf 2 (some .int), Cond.methodLink RX5 53 yX7_letterOf, Cond.instanceMethod yX7_letterOf, Cond.selects RX7 yX7_letterOf yX7_letterOf, Cond.code yX7_letterOf cX7_letterOf 3 (some .int)]
def wsX8_set_r8 : List Cond := [Cond.methodLink RX4 73 yX3_put, Cond.methodLink RX4 80 yX7_widthOf, Cond.methodLink RX8 246 yX4_flow, Cond.instanceMethod yX4_flow, Cond.selects RX4 yX4_flow yX4_flow, Cond.code yX4_flow cX4_flow 8 none, Cond.fieldLink RX4 43 "BlackBars$Sheet" "lines" "I", Cond.fieldLink RX4 40 "BlackBars$Sheet" "firstWords" "LBlackBars$Row;", Cond.fieldLink RX4 31 "BlackBars$Sheet" "shownWidths" "LBlackBars$Row;", Cond.fieldLink RX4 34 "BlackBars$Sheet" "linesOfWords" "LBlackBars$Row;", Cond.fieldLink RX4 37 "BlackBars$Sheet" "places" "LBlackBars$Row;", Cond.methodLink RX4 87 yX3_at, Cond.methodLink RX4 90 yX4_widthUnder, Cond.instanceMethod yX4_widthUnder, Cond.selects RX4 yX4_widthUnder yX4_widthUnder, Cond.code yX4_widthUnder cX4_widthUnder 3 (some .int), Cond.methodLink RX4 94 yX4_isHidden, Cond.instanceMethod yX4_isHidden, Cond.selects RX4 yX4_isHidden yX4_isHidden, Cond.code yX4_isHidden cX4_isHidden 2 (some .boolean), Cond.methodLink RX4 98 yX4_formOf, Cond.instanceMethod yX4_formOf, Cond.selects RX4 yX4_formOf yX4_formOf, Cond.code yX4_formOf cX4_formOf 2 (some .int)]
def wsX8_set_r9 : List Cond := [Cond.methodLink RX4 101 yX0_widthOf, Cond.instanceMethod yX0_widthOf, Cond.selects RX0 yX0_widthOf yX0_widthOf, Cond.code yX0_widthOf cX0_widthOf 2 (some .int), Cond.methodLink RX0 55 yX3_at, Cond.methodLink RX4 105 yX4_ownWidthOf, Cond.instanceMethod yX4_ownWidthOf, Cond.selects RX4 yX4_ownWidthOf yX4_ownWidthOf, Cond.code yX4_ownWidthOf cX4_ownWidthOf 2 (some .int)]
def wsX8_set : List Cond := .code yX8_set cX8_set 4 (some .int) :: ((wsX8_set_r1 ++ (wsX8_set_r2 ++ (wsX8_set_r3 ++ (wsX8_set_r4 ++ (wsX8_set_r5 ++ (wsX8_set_r6 ++ (wsX8_set_r7 ++ (wsX8_set_r8 ++ wsX8_set_r9)))))))) ++ wsX80 ++ wsX50 ++ wsX30 ++ wsX20 ++ wsX70 ++ wsX10 ++ wsX00 ++ wsX40)
def wsX8_count_r1 : List Cond := [Cond.fieldLink RX8 19 "BlackBars" "state" "LBlackBars$State;", Cond.fieldLink RX8 54 "BlackBars" "sheet" "LBlackBars$Sheet;", Cond.fieldLink RX8 33 "BlackBars" "forms" "LBlackBars$Forms;", Cond.fieldLink RX8 42 "BlackBars" "bars" "LBlackBars$Bars;", Cond.fieldLink RX8 26 "BlackBars" "history" "LBlackBars$History;", Cond.fieldLink RX8 12 "BlackBars" "text" "LBlackBars$Text;", Cond.methodLink RX8 94 yX7_size, Cond.instanceMethod yX7_size, Cond.selects RX7 yX7_size yX7_size, Cond.initialized RX7, Cond.code yX7_size cX7_size 1 (some .int), Cond.fieldLink RX7 28 "BlackBars$Words" "size" "I", Cond.methodLink RX8 136 yX4_barsBetween, Cond.instanceMethod yX4_barsBetween, Cond.selects RX4 yX4_barsBetween yX4_barsBetween, Cond.initialized RX4, Cond.code yX4_barsBetween cX4_barsBetween 5 (some .int), Cond.methodLink RX4 94 yX4_isHidden, Cond.instanceMethod yX4_isHidden, Cond.selects RX4 yX4_isHidden yX4_isHidden, Cond.code yX4_isHidden cX4_isHidden 2 (some .boolean), Cond.fieldLink RX4 24 "BlackBars$Sheet" "formsOfWords" "LBlackBars$Row;", Cond.methodLink RX4 87 yX3_at, Cond.instanceMethod yX3_at]
def wsX8_count_r2 : List Cond := [Cond.selects RX3 yX3_at yX3_at, Cond.initialized RX3, Cond.code yX3_at cX3_at 2 (some .int), Cond.fieldLink RX3 13 "BlackBars$Row" "cells" "[I", Cond.methodLink RX8 140 yX4_lineCount, Cond.instanceMethod yX4_lineCount, Cond.selects RX4 yX4_lineCount yX4_lineCount, Cond.code yX4_lineCount cX4_lineCount 1 (some .int), Cond.fieldLink RX4 43 "BlackBars$Sheet" "lines" "I", Cond.methodLink RX8 143 yX1_size, Cond.instanceMethod yX1_size, Cond.selects RX1 yX1_size yX1_size, Cond.initialized RX1, Cond.code yX1_size cX1_size 1 (some .int), Cond.fieldLink RX1 30 "BlackBars$Forms" "size" "I", Cond.methodLink RX8 117 yX3_at, Cond.methodLink RX8 144 yX4_betrayedBars, Cond.instanceMethod yX4_betrayedBars, Cond.selects RX4 yX4_betrayedBars yX4_betrayedBars, Cond.code yX4_betrayedBars cX4_betrayedBars 4 (some .int), Cond.fieldLink RX4 9 "BlackBars$Sheet" "state" "LBlackBars$State;", Cond.methodLink RX4 53 yX7_size, Cond.methodLink RX4 115 yX4_namesUnder, Cond.instanceMethod yX4_namesUnder]
def wsX8_count_r3 : List Cond := [Cond.selects RX4 yX4_namesUnder yX4_namesUnder, Cond.code yX4_namesUnder cX4_namesUnder 3 (some .int), Cond.methodLink RX4 98 yX4_formOf, Cond.instanceMethod yX4_formOf, Cond.selects RX4 yX4_formOf yX4_formOf, Cond.code yX4_formOf cX4_formOf 2 (some .int), Cond.methodLink RX4 101 yX0_widthOf, Cond.instanceMethod yX0_widthOf, Cond.selects RX0 yX0_widthOf yX0_widthOf, Cond.initialized RX0, Cond.code yX0_widthOf cX0_widthOf 2 (some .int), Cond.fieldLink RX0 20 "BlackBars$Bars" "widths" "LBlackBars$Row;", Cond.methodLink RX0 55 yX3_at, Cond.methodLink RX4 118 yX0_namesUnder, Cond.instanceMethod yX0_namesUnder, Cond.selects RX0 yX0_namesUnder yX0_namesUnder, Cond.code yX0_namesUnder cX0_namesUnder 4 (some .int), Cond.fieldLink RX0 9 "BlackBars$Bars" "forms" "LBlackBars$Forms;", Cond.methodLink RX0 24 yX1_size, Cond.methodLink RX0 58 yX1_nameOf, Cond.instanceMethod yX1_nameOf, Cond.selects RX1 yX1_nameOf yX1_nameOf, Cond.code yX1_nameOf cX1_nameOf 2 (some .int), Cond.fieldLink RX1 26 "BlackBars$Forms" "formsOfName" "I"]
def wsX8_count_r4 : List Cond := [Cond.methodLink RX4 120 yJ6_bitCount_0f7a4, Cond.static yJ6_bitCount_0f7a4, Cond.initialized RJ6, Cond.code yJ6_bitCount_0f7a4 cJ6_bitCount_0f7a4 1 (some .int), Cond.constant RJ6 265 (1431655765), Cond.constant RJ6 266 (858993459), Cond.constant RJ6 267 (252645135), Cond.methodLink RX8 148 yX4_sumOfShownWidths, Cond.instanceMethod yX4_sumOfShownWidths, Cond.selects RX4 yX4_sumOfShownWidths yX4_sumOfShownWidths, Cond.code yX4_sumOfShownWidths cX4_sumOfShownWidths 4 (some .int), Cond.methodLink RX4 90 yX4_widthUnder, Cond.instanceMethod yX4_widthUnder, Cond.selects RX4 yX4_widthUnder yX4_widthUnder, Cond.code yX4_widthUnder cX4_widthUnder 3 (some .int), Cond.methodLink RX4 105 yX4_ownWidthOf, Cond.instanceMethod yX4_ownWidthOf, Cond.selects RX4 yX4_ownWidthOf yX4_ownWidthOf, Cond.code yX4_ownWidthOf cX4_ownWidthOf 2 (some .int), Cond.fieldLink RX4 28 "BlackBars$Sheet" "ownWidths" "LBlackBars$Row;", Cond.methodLink RX8 151 yX4_sumOfGaps, Cond.instanceMethod yX4_sumOfGaps, Cond.selects RX4 yX4_sumOfGaps yX4_sumOfGaps, Cond.code yX4_sumOfGaps cX4_sumOfGaps 4 (some .int)]
def wsX8_count_r5 : List Cond := [Cond.fieldLink RX4 15 "BlackBars$Sheet" "forms" "LBlackBars$Forms;", Cond.methodLink RX4 111 yX1_widthOf, Cond.instanceMethod yX1_widthOf, Cond.selects RX1 yX1_widthOf yX1_widthOf, Cond.code yX1_widthOf cX1_widthOf 2 (some .int), Cond.fieldLink RX1 14 "BlackBars$Forms" "widths" "LBlackBars$Row;", Cond.methodLink RX1 33 yX3_at, Cond.methodLink RX8 154 yX4_differentBarWidths, Cond.instanceMethod yX4_differentBarWidths, Cond.selects RX4 yX4_differentBarWidths yX4_differentBarWidths, Cond.code yX4_differentBarWidths cX4_differentBarWidths 3 (some .int), Cond.methodLink RX4 112 yX4_hasBarAhead, Cond.instanceMethod yX4_hasBarAhead, Cond.selects RX4 yX4_hasBarAhead yX4_hasBarAhead, Cond.code yX4_hasBarAhead cX4_hasBarAhead 3 (some .boolean), Cond.methodLink RX4 108 yX4_shownWidthOf, Cond.instanceMethod yX4_shownWidthOf, Cond.selects RX4 yX4_shownWidthOf yX4_shownWidthOf, Cond.code yX4_shownWidthOf cX4_shownWidthOf 2 (some .int), Cond.fieldLink RX4 31 "BlackBars$Sheet" "shownWidths" "LBlackBars$Row;", Cond.methodLink RX8 157 yX2_size, Cond.instanceMethod yX2_size, Cond.selects RX2 yX2_size yX2_size, Cond.initialized RX2]
def wsX8_count_r6 : List Cond := [Cond.code yX2_size cX2_size 1 (some .int), Cond.fieldLink RX2 18 "BlackBars$History" "size" "I", Cond.methodLink RX8 58 yX6_size, Cond.instanceMethod yX6_size, Cond.selects RX6 yX6_size yX6_size, Cond.initialized RX6, Cond.code yX6_size cX6_size 1 (some .int), Cond.fieldLink RX6 20 "BlackBars$Text" "length" "I"]
def wsX8_count : List Cond := .code yX8_count cX8_count 2 (some .int) :: ((wsX8_count_r1 ++ (wsX8_count_r2 ++ (wsX8_count_r3 ++ (wsX8_count_r4 ++ (wsX8_count_r5 ++ wsX8_count_r6))))) ++ wsX80 ++ wsX50 ++ wsX70 ++ wsX40 ++ wsX30 ++ wsX10 ++ wsX00 ++ wsX20 ++ wsX60)
def wsX8_hiddenWord_r1 : List Cond := [Cond.fieldLink RX8 54 "BlackBars" "sheet" "LBlackBars$Sheet;", Cond.fieldLink RX8 42 "BlackBars" "bars" "LBlackBars$Bars;", Cond.fieldLink RX8 33 "BlackBars" "forms" "LBlackBars$Forms;", Cond.methodLink RX8 170 yX4_isHidden, Cond.instanceMethod yX4_isHidden, Cond.selects RX4 yX4_isHidden yX4_isHidden, Cond.initialized RX4, Cond.code yX4_isHidden cX4_isHidden 2 (some .boolean), Cond.fieldLink RX4 24 "BlackBars$Sheet" "formsOfWords" "LBlackBars$Row;", Cond.methodLink RX4 87 yX3_at, Cond.instanceMethod yX3_at, Cond.selects RX3 yX3_at yX3_at, Cond.initialized RX3, Cond.code yX3_at cX3_at 2 (some .int), Cond.fieldLink RX3 13 "BlackBars$Row" "cells" "[I", Cond.methodLink RX8 167 yX4_shownWidthOf, Cond.instanceMethod yX4_shownWidthOf, Cond.selects RX4 yX4_shownWidthOf yX4_shownWidthOf, Cond.code yX4_shownWidthOf cX4_shownWidthOf 2 (some .int), Cond.fieldLink RX4 31 "BlackBars$Sheet" "shownWidths" "LBlackBars$Row;", Cond.methodLink RX8 215 yX0_namesUnder, Cond.instanceMethod yX0_namesUnder, Cond.selects RX0 yX0_namesUnder yX0_namesUnder, Cond.initialized RX0]
def wsX8_hiddenWord_r2 : List Cond := [Cond.code yX0_namesUnder cX0_namesUnder 4 (some .int), Cond.fieldLink RX0 9 "BlackBars$Bars" "forms" "LBlackBars$Forms;", Cond.fieldLink RX0 20 "BlackBars$Bars" "widths" "LBlackBars$Row;", Cond.methodLink RX0 24 yX1_size, Cond.instanceMethod yX1_size, Cond.selects RX1 yX1_size yX1_size, Cond.initialized RX1, Cond.code yX1_size cX1_size 1 (some .int), Cond.fieldLink RX1 30 "BlackBars$Forms" "size" "I", Cond.methodLink RX0 55 yX3_at, Cond.methodLink RX0 58 yX1_nameOf, Cond.instanceMethod yX1_nameOf, Cond.selects RX1 yX1_nameOf yX1_nameOf, Cond.code yX1_nameOf cX1_nameOf 2 (some .int), Cond.fieldLink RX1 26 "BlackBars$Forms" "formsOfName" "I", Cond.methodLink RX8 267 yX4_formOf, Cond.instanceMethod yX4_formOf, Cond.selects RX4 yX4_formOf yX4_formOf, Cond.code yX4_formOf cX4_formOf 2 (some .int), Cond.methodLink RX8 270 yX1_nameOf, Cond.methodLink RX8 273 yX1_endingOf, Cond.instanceMethod yX1_endingOf, Cond.selects RX1 yX1_endingOf yX1_endingOf, Cond.code yX1_endingOf cX1_endingOf 2 (some .int)]
def wsX8_hiddenWord_r3 : List Cond := [Cond.methodLink RX8 276 yJ6_bitCount_0f7a4, Cond.static yJ6_bitCount_0f7a4, Cond.initialized RJ6, Cond.code yJ6_bitCount_0f7a4 cJ6_bitCount_0f7a4 1 (some .int), Cond.constant RJ6 265 (1431655765), Cond.constant RJ6 266 (858993459), Cond.constant RJ6 267 (252645135)]
def wsX8_hiddenWord : List Cond := .code yX8_hiddenWord cX8_hiddenWord 4 (some .int) :: ((wsX8_hiddenWord_r1 ++ (wsX8_hiddenWord_r2 ++ wsX8_hiddenWord_r3)) ++ wsX80 ++ wsX40 ++ wsX30 ++ wsX00 ++ wsX10)
def wsX8_word_r1 : List Cond := [Cond.fieldLink RX8 19 "BlackBars" "state" "LBlackBars$State;", Cond.fieldLink RX8 54 "BlackBars" "sheet" "LBlackBars$Sheet;", Cond.methodLink RX8 158 yX7_has, Cond.instanceMethod yX7_has, Cond.selects RX7 yX7_has yX7_has, Cond.initialized RX7, Cond.code yX7_has cX7_has 2 (some .boolean), Cond.fieldLink RX7 28 "BlackBars$Words" "size" "I", Cond.methodLink RX8 161 yX7_lengthOf, Cond.instanceMethod yX7_lengthOf, Cond.selects RX7 yX7_lengthOf yX7_lengthOf, Cond.code yX7_lengthOf cX7_lengthOf 2 (some .int), Cond.fieldLink RX7 25 "BlackBars$Words" "lengths" "LBlackBars$Row;", Cond.methodLink RX7 31 yX3_at, Cond.instanceMethod yX3_at, Cond.selects RX3 yX3_at yX3_at, Cond.initialized RX3, Cond.code yX3_at cX3_at 2 (some .int), Cond.fieldLink RX3 13 "BlackBars$Row" "cells" "[I", Cond.methodLink RX8 164 yX4_ownWidthOf, Cond.instanceMethod yX4_ownWidthOf, Cond.selects RX4 yX4_ownWidthOf yX4_ownWidthOf, Cond.initialized RX4, Cond.code yX4_ownWidthOf cX4_ownWidthOf 2 (some .int)]
def wsX8_word_r2 : List Cond := [Cond.fieldLink RX4 28 "BlackBars$Sheet" "ownWidths" "LBlackBars$Row;", Cond.methodLink RX4 87 yX3_at, Cond.methodLink RX8 167 yX4_shownWidthOf, Cond.instanceMethod yX4_shownWidthOf, Cond.selects RX4 yX4_shownWidthOf yX4_shownWidthOf, Cond.code yX4_shownWidthOf cX4_shownWidthOf 2 (some .int), Cond.fieldLink RX4 31 "BlackBars$Sheet" "shownWidths" "LBlackBars$Row;", Cond.methodLink RX8 170 yX4_isHidden, Cond.instanceMethod yX4_isHidden, Cond.selects RX4 yX4_isHidden yX4_isHidden, Cond.code yX4_isHidden cX4_isHidden 2 (some .boolean), Cond.fieldLink RX4 24 "BlackBars$Sheet" "formsOfWords" "LBlackBars$Row;", Cond.methodLink RX8 173 yX4_lineOf, Cond.instanceMethod yX4_lineOf, Cond.selects RX4 yX4_lineOf yX4_lineOf, Cond.code yX4_lineOf cX4_lineOf 2 (some .int), Cond.fieldLink RX4 34 "BlackBars$Sheet" "linesOfWords" "LBlackBars$Row;", Cond.methodLink RX8 176 yX4_placeOf, Cond.instanceMethod yX4_placeOf, Cond.selects RX4 yX4_placeOf yX4_placeOf, Cond.code yX4_placeOf cX4_placeOf 2 (some .int), Cond.fieldLink RX4 37 "BlackBars$Sheet" "places" "LBlackBars$Row;", Cond.methodLink RX8 179 yX8_hiddenWord, Cond.instanceMethod yX8_hiddenWord]
def wsX8_word_r3 : List Cond := [Cond.selects RX8 yX8_hiddenWord yX8_hiddenWord, Cond.initialized RX8, Cond.code yX8_hiddenWord cX8_hiddenWord 4 (some .int), Cond.fieldLink RX8 42 "BlackBars" "bars" "LBlackBars$Bars;", Cond.fieldLink RX8 33 "BlackBars" "forms" "LBlackBars$Forms;", Cond.methodLink RX8 215 yX0_namesUnder, Cond.instanceMethod yX0_namesUnder, Cond.selects RX0 yX0_namesUnder yX0_namesUnder, Cond.initialized RX0, Cond.code yX0_namesUnder cX0_namesUnder 4 (some .int), Cond.fieldLink RX0 9 "BlackBars$Bars" "forms" "LBlackBars$Forms;", Cond.fieldLink RX0 20 "BlackBars$Bars" "widths" "LBlackBars$Row;", Cond.methodLink RX0 24 yX1_size, Cond.instanceMethod yX1_size, Cond.selects RX1 yX1_size yX1_size, Cond.initialized RX1, Cond.code yX1_size cX1_size 1 (some .int), Cond.fieldLink RX1 30 "BlackBars$Forms" "size" "I", Cond.methodLink RX0 55 yX3_at, Cond.methodLink RX0 58 yX1_nameOf, Cond.instanceMethod yX1_nameOf, Cond.selects RX1 yX1_nameOf yX1_nameOf, Cond.code yX1_nameOf cX1_nameOf 2 (some .int), Cond.fieldLink RX1 26 "BlackBars$Forms" "formsOfName" "I"]
def wsX8_word_r4 : List Cond := [Cond.methodLink RX8 267 yX4_formOf, Cond.instanceMethod yX4_formOf, Cond.selects RX4 yX4_formOf yX4_formOf, Cond.code yX4_formOf cX4_formOf 2 (some .int), Cond.methodLink RX8 270 yX1_nameOf, Cond.methodLink RX8 273 yX1_endingOf, Cond.instanceMethod yX1_endingOf, Cond.selects RX1 yX1_endingOf yX1_endingOf, Cond.code yX1_endingOf cX1_endingOf 2 (some .int), Cond.methodLink RX8 276 yJ6_bitCount_0f7a4, Cond.static yJ6_bitCount_0f7a4, Cond.initialized RJ6, Cond.code yJ6_bitCount_0f7a4 cJ6_bitCount_0f7a4 1 (some .int), Cond.constant RJ6 265 (1431655765), Cond.constant RJ6 266 (858993459), Cond.constant RJ6 267 (252645135)]
def wsX8_word : List Cond := .code yX8_word cX8_word 3 (some .int) :: ((wsX8_word_r1 ++ (wsX8_word_r2 ++ (wsX8_word_r3 ++ wsX8_word_r4))) ++ wsX80 ++ wsX50 ++ wsX70 ++ wsX30 ++ wsX40 ++ wsX00 ++ wsX10)
def wsX8_letter_r1 : List Cond := [Cond.fieldLink RX8 19 "BlackBars" "state" "LBlackBars$State;", Cond.fieldLink RX8 54 "BlackBars" "sheet" "LBlackBars$Sheet;", Cond.methodLink RX8 158 yX7_has, Cond.instanceMethod yX7_has, Cond.selects RX7 yX7_has yX7_has, Cond.initialized RX7, Cond.code yX7_has cX7_has 2 (some .boolean), Cond.fieldLink RX7 28 "BlackBars$Words" "size" "I", Cond.methodLink RX8 170 yX4_isHidden, Cond.instanceMethod yX4_isHidden, Cond.selects RX4 yX4_isHidden yX4_isHidden, Cond.initialized RX4, Cond.code yX4_isHidden cX4_isHidden 2 (some .boolean), Cond.fieldLink RX4 24 "BlackBars$Sheet" "formsOfWords" "LBlackBars$Row;", Cond.methodLink RX4 87 yX3_at, Cond.instanceMethod yX3_at, Cond.selects RX3 yX3_at yX3_at, Cond.initialized RX3, Cond.code yX3_at cX3_at 2 (some .int), Cond.fieldLink RX3 13 "BlackBars$Row" "cells" "[I", Cond.methodLink RX8 161 yX7_lengthOf, Cond.instanceMethod yX7_lengthOf, Cond.selects RX7 yX7_lengthOf yX7_lengthOf, Cond.code yX7_lengthOf cX7_lengthOf 2 (some .int)]
def wsX8_letter_r2 : List Cond := [Cond.fieldLink RX7 25 "BlackBars$Words" "lengths" "LBlackBars$Row;", Cond.methodLink RX7 31 yX3_at, Cond.methodLink RX8 182 yX7_letterOf, Cond.instanceMethod yX7_letterOf, Cond.selects RX7 yX7_letterOf yX7_letterOf, Cond.code yX7_letterOf cX7_letterOf 3 (some .int), Cond.fieldLink RX7 21 "BlackBars$Words" "letters" "LBlackBars$Row;", Cond.fieldLink RX7 13 "BlackBars$Words" "mostLetters" "I"]
def wsX8_letter : List Cond := .code yX8_letter cX8_letter 3 (some .int) :: ((wsX8_letter_r1 ++ wsX8_letter_r2) ++ wsX80 ++ wsX50 ++ wsX70 ++ wsX40 ++ wsX30)
def wsX8_line_r1 : List Cond := [Cond.fieldLink RX8 54 "BlackBars" "sheet" "LBlackBars$Sheet;", Cond.fieldLink RX8 19 "BlackBars" "state" "LBlackBars$State;", Cond.methodLink RX8 197 Lib.Math.max.name, Cond.static Lib.Math.max.name, Cond.initialized "java/lang/Math", Cond.code Lib.Math.max.name Lib.Math.max.code 2 (some .int), Cond.methodLink RX8 185 yX4_hasLine, Cond.instanceMethod yX4_hasLine, Cond.selects RX4 yX4_hasLine yX4_hasLine, Cond.initialized RX4, Cond.code yX4_hasLine cX4_hasLine 2 (some .boolean), Cond.fieldLink RX4 43 "BlackBars$Sheet" "lines" "I", Cond.methodLink RX8 188 yX4_firstWordOf, Cond.instanceMethod yX4_firstWordOf, Cond.selects RX4 yX4_firstWordOf yX4_firstWordOf, Cond.code yX4_firstWordOf cX4_firstWordOf 2 (some .int), Cond.fieldLink RX4 40 "BlackBars$Sheet" "firstWords" "LBlackBars$Row;", Cond.methodLink RX4 87 yX3_at, Cond.instanceMethod yX3_at, Cond.selects RX3 yX3_at yX3_at, Cond.initialized RX3, Cond.code yX3_at cX3_at 2 (some .int), Cond.fieldLink RX3 13 "BlackBars$Row" "cells" "[I", Cond.methodLink RX8 191 yX4_firstWordBehind]
def wsX8_line_r2 : List Cond := [Cond.instanceMethod yX4_firstWordBehind, Cond.selects RX4 yX4_firstWordBehind yX4_firstWordBehind, Cond.code yX4_firstWordBehind cX4_firstWordBehind 2 (some .int), Cond.fieldLink RX4 9 "BlackBars$Sheet" "state" "LBlackBars$State;", Cond.methodLink RX4 53 yX7_size, Cond.instanceMethod yX7_size, Cond.selects RX7 yX7_size yX7_size, Cond.initialized RX7, Cond.code yX7_size cX7_size 1 (some .int), Cond.fieldLink RX7 28 "BlackBars$Words" "size" "I", Cond.methodLink RX8 194 yX4_widthBetween, Cond.instanceMethod yX4_widthBetween, Cond.selects RX4 yX4_widthBetween yX4_widthBetween, Cond.code yX4_widthBetween cX4_widthBetween 5 (some .int), Cond.methodLink RX4 108 yX4_shownWidthOf, Cond.instanceMethod yX4_shownWidthOf, Cond.selects RX4 yX4_shownWidthOf yX4_shownWidthOf, Cond.code yX4_shownWidthOf cX4_shownWidthOf 2 (some .int), Cond.fieldLink RX4 31 "BlackBars$Sheet" "shownWidths" "LBlackBars$Row;", Cond.methodLink RX8 117 yX3_at, Cond.methodLink RX8 136 yX4_barsBetween, Cond.instanceMethod yX4_barsBetween, Cond.selects RX4 yX4_barsBetween yX4_barsBetween, Cond.code yX4_barsBetween cX4_barsBetween 5 (some .int)]
def wsX8_line_r3 : List Cond := [Cond.methodLink RX4 94 yX4_isHidden, Cond.instanceMethod yX4_isHidden, Cond.selects RX4 yX4_isHidden yX4_isHidden, Cond.code yX4_isHidden cX4_isHidden 2 (some .boolean), Cond.fieldLink RX4 24 "BlackBars$Sheet" "formsOfWords" "LBlackBars$Row;"]
def wsX8_line : List Cond := .code yX8_line cX8_line 5 (some .int) :: ((wsX8_line_r1 ++ (wsX8_line_r2 ++ wsX8_line_r3)) ++ wsX80 ++ wsX50 ++ wsX40 ++ wsX30 ++ wsX70)
def wsX8_widthAgain_r1 : List Cond := [Cond.fieldLink RX8 54 "BlackBars" "sheet" "LBlackBars$Sheet;", Cond.methodLink RX8 185 yX4_hasLine, Cond.instanceMethod yX4_hasLine, Cond.selects RX4 yX4_hasLine yX4_hasLine, Cond.initialized RX4, Cond.code yX4_hasLine cX4_hasLine 2 (some .boolean), Cond.fieldLink RX4 43 "BlackBars$Sheet" "lines" "I", Cond.methodLink RX8 191 yX4_firstWordBehind, Cond.instanceMethod yX4_firstWordBehind, Cond.selects RX4 yX4_firstWordBehind yX4_firstWordBehind, Cond.code yX4_firstWordBehind cX4_firstWordBehind 2 (some .int), Cond.fieldLink RX4 40 "BlackBars$Sheet" "firstWords" "LBlackBars$Row;", Cond.fieldLink RX4 9 "BlackBars$Sheet" "state" "LBlackBars$State;", Cond.methodLink RX4 87 yX3_at, Cond.instanceMethod yX3_at, Cond.selects RX3 yX3_at yX3_at, Cond.initialized RX3, Cond.code yX3_at cX3_at 2 (some .int), Cond.fieldLink RX3 13 "BlackBars$Row" "cells" "[I", Cond.methodLink RX4 53 yX7_size, Cond.instanceMethod yX7_size, Cond.selects RX7 yX7_size yX7_size, Cond.initialized RX7, Cond.code yX7_size cX7_size 1 (some .int)]
def wsX8_widthAgain_r2 : List Cond := [Cond.fieldLink RX7 28 "BlackBars$Words" "size" "I", Cond.methodLink RX8 176 yX4_placeOf, Cond.instanceMethod yX4_placeOf, Cond.selects RX4 yX4_placeOf yX4_placeOf, Cond.code yX4_placeOf cX4_placeOf 2 (some .int), Cond.fieldLink RX4 37 "BlackBars$Sheet" "places" "LBlackBars$Row;", Cond.methodLink RX8 167 yX4_shownWidthOf, Cond.instanceMethod yX4_shownWidthOf, Cond.selects RX4 yX4_shownWidthOf yX4_shownWidthOf, Cond.code yX4_shownWidthOf cX4_shownWidthOf 2 (some .int), Cond.fieldLink RX4 31 "BlackBars$Sheet" "shownWidths" "LBlackBars$Row;"]
def wsX8_widthAgain : List Cond := .code yX8_widthAgain cX8_widthAgain 3 (some .int) :: ((wsX8_widthAgain_r1 ++ wsX8_widthAgain_r2) ++ wsX80 ++ wsX40 ++ wsX50 ++ wsX30 ++ wsX70)
def wsJ9_max_7cf53 : List Cond := .code yJ9_max_7cf53 cJ9_max_7cf53 2 (some .int) :: ([])
def wsJ9_min_7cf53 : List Cond := .code yJ9_min_7cf53 cJ9_min_7cf53 2 (some .int) :: ([])
def wsL_cell : List Cond := .code yL_cell cL_cell 2 (some .int) :: ([.constant RL 7 (40503)])
def wsL_low : List Cond := .code yL_low cL_low 2 (some .int) :: ([.constant RL 8 (2147483647)])
def wsL_length : List Cond := .code yL_length cL_length 3 (some .int) :: ([])
def wsL_width : List Cond := .code yL_width cL_width 5 (some .int) :: ([.constantLong RL 15 (31), .methodLink RL 9 yL_length, .static yL_length, .initialized RL, .code yL_length cL_length 3 (some .int)])
def wsL_form : List Cond := .code yL_form cL_form 6 (some .long) :: ([.methodLink RL 9 yL_length, .static yL_length, .initialized RL, .code yL_length cL_length 3 (some .int)])
def wsL_bar : List Cond := .code yL_bar cL_bar 12 (some .int) :: ([.arrayClass .int, .methodLink RL 17 yL_form, .static yL_form, .initialized RL, .code yL_form cL_form 6 (some .long), .methodLink RL 9 yL_length, .static yL_length, .code yL_length cL_length 3 (some .int), .methodLink RL 21 yL_width, .static yL_width, .code yL_width cL_width 5 (some .int), .constantLong RL 15 (31)])
def wsL_formOf : List Cond := .code yL_formOf cL_formOf 5 (some .int) :: ([.methodLink RL 17 yL_form, .static yL_form, .initialized RL, .code yL_form cL_form 6 (some .long), .methodLink RL 9 yL_length, .static yL_length, .code yL_length cL_length 3 (some .int)])
def wsL_shown : List Cond := .code yL_shown cL_shown 7 (some .int) :: ([.methodLink RL 25 yL_formOf, .static yL_formOf, .initialized RL, .code yL_formOf cL_formOf 5 (some .int), .methodLink RL 17 yL_form, .static yL_form, .code yL_form cL_form 6 (some .long), .methodLink RL 9 yL_length, .static yL_length, .code yL_length cL_length 3 (some .int), .methodLink RL 21 yL_width, .static yL_width, .code yL_width cL_width 5 (some .int), .constantLong RL 15 (31), .methodLink RL 29 yL_bar, .static yL_bar, .code yL_bar cL_bar 12 (some .int), .arrayClass .int])
def wsL_under : List Cond := .code yL_under cL_under 8 (some .int) :: ([.methodLink RL 17 yL_form, .static yL_form, .initialized RL, .code yL_form cL_form 6 (some .long), .methodLink RL 9 yL_length, .static yL_length, .code yL_length cL_length 3 (some .int), .methodLink RL 29 yL_bar, .static yL_bar, .code yL_bar cL_bar 12 (some .int), .arrayClass .int, .methodLink RL 21 yL_width, .static yL_width, .code yL_width cL_width 5 (some .int), .constantLong RL 15 (31)])
def wsL_ones : List Cond := .code yL_ones cL_ones 3 (some .int) :: ([])
def wsL_says_r1 : List Cond := [Cond.constantLong RL 15 (31), Cond.methodLink RL 9 yL_length, Cond.static yL_length, Cond.initialized RL, Cond.code yL_length cL_length 3 (some .int), Cond.methodLink RL 33 yX8_type, Cond.instanceMethod yX8_type, Cond.selects RX8 yX8_type yX8_type, Cond.initialized RX8, Cond.code yX8_type cX8_type 2 (some .int), Cond.fieldLink RX8 12 "BlackBars" "text" "LBlackBars$Text;", Cond.methodLink RX8 58 yX6_size, Cond.instanceMethod yX6_size, Cond.selects RX6 yX6_size yX6_size, Cond.initialized RX6, Cond.code yX6_size cX6_size 1 (some .int), Cond.fieldLink RX6 20 "BlackBars$Text" "length" "I", Cond.methodLink RX8 62 yX6_append, Cond.instanceMethod yX6_append, Cond.selects RX6 yX6_append yX6_append, Cond.code yX6_append cX6_append 2 none, Cond.fieldLink RX6 14 "BlackBars$Text" "characters" "LBlackBars$Row;", Cond.methodLink RX6 28 yX3_put, Cond.instanceMethod yX3_put]
def wsL_says_r2 : List Cond := [Cond.selects RX3 yX3_put yX3_put, Cond.initialized RX3, Cond.code yX3_put cX3_put 3 none, Cond.fieldLink RX3 13 "BlackBars$Row" "cells" "[I"]
def wsL_says : List Cond := .code yL_says cL_says 5 (some .boolean) :: ((wsL_says_r1 ++ wsL_says_r2) ++ wsX80 ++ wsX60 ++ wsX30)
def wsL_letters : List Cond := .code yL_letters cL_letters 6 (some .long) :: ([.methodLink RL 39 yL_low, .static yL_low, .initialized RL, .code yL_low cL_low 2 (some .int), .constant RL 8 (2147483647)])
def wsL_acts_r1 : List Cond := [Cond.constant RL 43 (10000000), Cond.methodLink RL 39 yL_low, Cond.static yL_low, Cond.initialized RL, Cond.code yL_low cL_low 2 (some .int), Cond.constant RL 8 (2147483647), Cond.methodLink RL 44 yX8_clearText, Cond.instanceMethod yX8_clearText, Cond.selects RX8 yX8_clearText yX8_clearText, Cond.initialized RX8, Cond.code yX8_clearText cX8_clearText 2 (some .int), Cond.fieldLink RX8 12 "BlackBars" "text" "LBlackBars$Text;", Cond.methodLink RX8 58 yX6_size, Cond.instanceMethod yX6_size, Cond.selects RX6 yX6_size yX6_size, Cond.initialized RX6, Cond.code yX6_size cX6_size 1 (some .int), Cond.fieldLink RX6 20 "BlackBars$Text" "length" "I", Cond.methodLink RX8 66 yX6_empty, Cond.instanceMethod yX6_empty, Cond.selects RX6 yX6_empty yX6_empty, Cond.code yX6_empty cX6_empty 1 none, Cond.methodLink RL 17 yL_form, Cond.static yL_form]
def wsL_acts_r2 : List Cond := [Cond.code yL_form cL_form 6 (some .long), Cond.methodLink RL 9 yL_length, Cond.static yL_length, Cond.code yL_length cL_length 3 (some .int), Cond.methodLink RL 48 yL_letters, Cond.static yL_letters, Cond.code yL_letters cL_letters 6 (some .long), Cond.methodLink RL 33 yX8_type, Cond.instanceMethod yX8_type, Cond.selects RX8 yX8_type yX8_type, Cond.code yX8_type cX8_type 2 (some .int), Cond.methodLink RX8 62 yX6_append, Cond.instanceMethod yX6_append, Cond.selects RX6 yX6_append yX6_append, Cond.code yX6_append cX6_append 2 none, Cond.fieldLink RX6 14 "BlackBars$Text" "characters" "LBlackBars$Row;", Cond.methodLink RX6 28 yX3_put, Cond.instanceMethod yX3_put, Cond.selects RX3 yX3_put yX3_put, Cond.initialized RX3, Cond.code yX3_put cX3_put 3 none, Cond.fieldLink RX3 13 "BlackBars$Row" "cells" "[I", Cond.methodLink RL 52 yL_says, Cond.static yL_says]
def wsL_acts_r3 : List Cond := [Cond.code yL_says cL_says 5 (some .boolean), Cond.constantLong RL 15 (31), Cond.methodLink RL 56 yX8_page, Cond.instanceMethod yX8_page, Cond.selects RX8 yX8_page yX8_page, Cond.code yX8_page cX8_page 1 (some .int), Cond.fieldLink RX8 26 "BlackBars" "history" "LBlackBars$History;", Cond.fieldLink RX8 19 "BlackBars" "state" "LBlackBars$State;", Cond.methodLink RX8 69 yX6_faultIndex, Cond.instanceMethod yX6_faultIndex, Cond.selects RX6 yX6_faultIndex yX6_faultIndex, Cond.code yX6_faultIndex cX6_faultIndex 2 (some .int), Cond.methodLink RX6 36 yX6_faultReason, Cond.instanceMethod yX6_faultReason, Cond.selects RX6 yX6_faultReason yX6_faultReason, Cond.code yX6_faultReason cX6_faultReason 4 (some .int), Cond.methodLink RX6 24 yX3_at, Cond.instanceMethod yX3_at, Cond.selects RX3 yX3_at yX3_at, Cond.code yX3_at cX3_at 2 (some .int), Cond.methodLink RX6 39 yX6_lettersAhead, Cond.instanceMethod yX6_lettersAhead, Cond.selects RX6 yX6_lettersAhead yX6_lettersAhead, Cond.code yX6_lettersAhead cX6_lettersAhead 3 (some .int)]
def wsL_acts_r4 : List Cond := [Cond.static yX8_isLetter, Cond.code yX8_isLetter cX8_isLetter 1 (some .boolean), Cond.methodLink RX6 42 yX6_wordsAhead, Cond.instanceMethod yX6_wordsAhead, Cond.selects RX6 yX6_wordsAhead yX6_wordsAhead, Cond.code yX6_wordsAhead cX6_wordsAhead 4 (some .int), Cond.methodLink RX8 76 yX2_keep, Cond.instanceMethod yX2_keep, Cond.selects RX2 yX2_keep yX2_keep, Cond.initialized RX2, Cond.code yX2_keep cX2_keep 3 none, Cond.fieldLink RX2 18 "BlackBars$History" "size" "I", Cond.fieldLink RX2 11 "BlackBars$History" "states" "[LBlackBars$State;", Cond.methodLink RX2 22 yX2_moveOldestToEnd, Cond.instanceMethod yX2_moveOldestToEnd, Cond.selects RX2 yX2_moveOldestToEnd yX2_moveOldestToEnd, Cond.code yX2_moveOldestToEnd cX2_moveOldestToEnd 3 none, Cond.methodLink RX2 25 yX2_latest, Cond.instanceMethod yX2_latest, Cond.selects RX2 yX2_latest yX2_latest, Cond.code yX2_latest cX2_latest 1 (some (.object "BlackBars$State")), Cond.methodLink RX2 29 yX5_copyFrom, Cond.instanceMethod yX5_copyFrom, Cond.selects RX5 yX5_copyFrom yX5_copyFrom]
def wsL_acts_r5 : List Cond := [Cond.initialized RX5, Cond.code yX5_copyFrom cX5_copyFrom 2 none, Cond.fieldLink RX5 14 "BlackBars$State" "page" "LBlackBars$Words;", Cond.fieldLink RX5 20 "BlackBars$State" "names" "LBlackBars$Words;", Cond.fieldLink RX5 23 "BlackBars$State" "endings" "LBlackBars$Words;", Cond.fieldLink RX5 35 "BlackBars$State" "letterWidths" "LBlackBars$Row;", Cond.fieldLink RX5 42 "BlackBars$State" "settings" "LBlackBars$Row;", Cond.methodLink RX5 57 yX7_copyFrom, Cond.instanceMethod yX7_copyFrom, Cond.selects RX7 yX7_copyFrom yX7_copyFrom, Cond.initialized RX7, Cond.code yX7_copyFrom cX7_copyFrom 2 none, Cond.fieldLink RX7 21 "BlackBars$Words" "letters" "LBlackBars$Row;", Cond.fieldLink RX7 25 "BlackBars$Words" "lengths" "LBlackBars$Row;", Cond.fieldLink RX7 7 "BlackBars$Words" "mostWords" "I", Cond.fieldLink RX7 28 "BlackBars$Words" "size" "I", Cond.methodLink RX7 75 Lib.Math.min.name, Cond.static Lib.Math.min.name, Cond.initialized "java/lang/Math", Cond.code Lib.Math.min.name Lib.Math.min.code 2 (some .int), Cond.methodLink RX7 71 yX3_copyFrom, Cond.instanceMethod yX3_copyFrom, Cond.selects RX3 yX3_copyFrom yX3_copyFrom, Cond.code yX3_copyFrom cX3_copyFrom 2 none]
def wsL_acts_r6 : List Cond := [Cond.methodLink RX3 24 Lib.Math.min.name, Cond.methodLink RX3 27 arraycopyName, Cond.native arraycopyName, Cond.static arraycopyName, Cond.initialized "java/lang/System", Cond.methodLink RX5 61 yX3_copyFrom, Cond.methodLink RX8 84 yX7_empty, Cond.instanceMethod yX7_empty, Cond.selects RX7 yX7_empty yX7_empty, Cond.code yX7_empty cX7_empty 1 none, Cond.methodLink RX8 87 yX7_addWordsOf, Cond.instanceMethod yX7_addWordsOf, Cond.selects RX7 yX7_addWordsOf yX7_addWordsOf, Cond.code yX7_addWordsOf cX7_addWordsOf 4 none, Cond.methodLink RX7 42 yX6_size, Cond.methodLink RX7 51 yX6_at, Cond.instanceMethod yX6_at, Cond.selects RX6 yX6_at yX6_at, Cond.code yX6_at cX6_at 2 (some .int), Cond.methodLink RX7 58 yX7_beginWord, Cond.instanceMethod yX7_beginWord, Cond.selects RX7 yX7_beginWord yX7_beginWord, Cond.code yX7_beginWord cX7_beginWord 1 none, Cond.methodLink RX7 64 yX3_put]
def wsL_acts_r7 : List Cond := [Cond.methodLink RX7 61 yX7_addLetter, Cond.instanceMethod yX7_addLetter, Cond.selects RX7 yX7_addLetter yX7_addLetter, Cond.code yX7_addLetter cX7_addLetter 4 none, Cond.fieldLink RX7 13 "BlackBars$Words" "mostLetters" "I", Cond.methodLink RX7 39 yX7_lengthOf, Cond.instanceMethod yX7_lengthOf, Cond.selects RX7 yX7_lengthOf yX7_lengthOf, Cond.code yX7_lengthOf cX7_lengthOf 2 (some .int), Cond.methodLink RX7 31 yX3_at, Cond.methodLink RX8 91 yX8_workOut, Cond.instanceMethod yX8_workOut, Cond.selects RX8 yX8_workOut yX8_workOut, Cond.code yX8_workOut cX8_workOut 1 none, Cond.fieldLink RX8 33 "BlackBars" "forms" "LBlackBars$Forms;", Cond.fieldLink RX8 42 "BlackBars" "bars" "LBlackBars$Bars;", Cond.fieldLink RX8 54 "BlackBars" "sheet" "LBlackBars$Sheet;", Cond.methodLink RX8 240 yX1_measure, Cond.instanceMethod yX1_measure, Cond.selects RX1 yX1_measure yX1_measure, Cond.initialized RX1, Cond.code yX1_measure cX1_measure 4 none, Cond.fieldLink RX1 26 "BlackBars$Forms" "formsOfName" "I", Cond.fieldLink RX1 30 "BlackBars$Forms" "size" "I"]
def wsL_acts_r8 : List Cond := [Cond.fieldLink RX1 14 "BlackBars$Forms" "widths" "LBlackBars$Row;", Cond.fieldLink RX1 20 "BlackBars$Forms" "ranks" "LBlackBars$Row;", Cond.fieldLink RX1 23 "BlackBars$Forms" "sortedWidths" "LBlackBars$Row;", Cond.methodLink RX1 43 yX7_size, Cond.instanceMethod yX7_size, Cond.selects RX7 yX7_size yX7_size, Cond.code yX7_size cX7_size 1 (some .int), Cond.methodLink RX1 51 yX1_nameOf, Cond.instanceMethod yX1_nameOf, Cond.selects RX1 yX1_nameOf yX1_nameOf, Cond.code yX1_nameOf cX1_nameOf 2 (some .int), Cond.methodLink RX1 54 yX1_endingOf, Cond.instanceMethod yX1_endingOf, Cond.selects RX1 yX1_endingOf yX1_endingOf, Cond.code yX1_endingOf cX1_endingOf 2 (some .int), Cond.methodLink RX1 57 yX5_widthOfForm, Cond.instanceMethod yX5_widthOfForm, Cond.selects RX5 yX5_widthOfForm yX5_widthOfForm, Cond.code yX5_widthOfForm cX5_widthOfForm 3 (some .int), Cond.methodLink RX5 49 yX7_widthOf, Cond.instanceMethod yX7_widthOf, Cond.selects RX7 yX7_widthOf yX7_widthOf, Cond.code yX7_widthOf cX7_widthOf 7 (some .int), Cond.methodLink RX1 61 yX3_put]
def wsL_acts_r9 : List Cond := [Cond.methodLink RX1 65 yX1_formsAheadOf, Cond.instanceMethod yX1_formsAheadOf, Cond.selects RX1 yX1_formsAheadOf yX1_formsAheadOf, Cond.code yX1_formsAheadOf cX1_formsAheadOf 6 (some .int), Cond.methodLink RX1 33 yX3_at, Cond.methodLink RX8 117 yX3_at, Cond.methodLink RX8 229 yX0_draw, Cond.instanceMethod yX0_draw, Cond.selects RX0 yX0_draw yX0_draw, Cond.initialized RX0, Cond.code yX0_draw cX0_draw 5 none, Cond.fieldLink RX0 9 "BlackBars$Bars" "forms" "LBlackBars$Forms;", Cond.fieldLink RX0 20 "BlackBars$Bars" "widths" "LBlackBars$Row;", Cond.methodLink RX0 24 yX1_size, Cond.instanceMethod yX1_size, Cond.selects RX1 yX1_size yX1_size, Cond.code yX1_size cX1_size 1 (some .int), Cond.methodLink RX0 30 yX0_barWidth, Cond.instanceMethod yX0_barWidth, Cond.selects RX0 yX0_barWidth yX0_barWidth, Cond.code yX0_barWidth cX0_barWidth 5 (some .int), Cond.methodLink RX0 38 yX1_widthOf, Cond.instanceMethod yX1_widthOf, Cond.selects RX1 yX1_widthOf yX1_widthOf]
def wsL_acts_r10 : List Cond := [Cond.code yX1_widthOf cX1_widthOf 2 (some .int), Cond.methodLink RX0 42 yX0_upToMultiple, Cond.static yX0_upToMultiple, Cond.code yX0_upToMultiple cX0_upToMultiple 2 (some .int), Cond.methodLink RX0 46 yX1_rankOf, Cond.instanceMethod yX1_rankOf, Cond.selects RX1 yX1_rankOf yX1_rankOf, Cond.code yX1_rankOf cX1_rankOf 2 (some .int), Cond.methodLink RX0 49 yX0_lastRankOfGroup, Cond.instanceMethod yX0_lastRankOfGroup, Cond.selects RX0 yX0_lastRankOfGroup yX0_lastRankOfGroup, Cond.code yX0_lastRankOfGroup cX0_lastRankOfGroup 5 (some .int), Cond.methodLink RX0 52 yX1_widthAtRank, Cond.instanceMethod yX1_widthAtRank, Cond.selects RX1 yX1_widthAtRank yX1_widthAtRank, Cond.code yX1_widthAtRank cX1_widthAtRank 2 (some .int), Cond.methodLink RX0 34 yX3_put, Cond.methodLink RX8 243 yX4_hideWords, Cond.instanceMethod yX4_hideWords, Cond.selects RX4 yX4_hideWords yX4_hideWords, Cond.initialized RX4, Cond.code yX4_hideWords cX4_hideWords 4 none, Cond.fieldLink RX4 9 "BlackBars$Sheet" "state" "LBlackBars$State;", Cond.fieldLink RX4 15 "BlackBars$Sheet" "forms" "LBlackBars$Forms;"]
def wsL_acts_r11 : List Cond := [Cond.fieldLink RX4 24 "BlackBars$Sheet" "formsOfWords" "LBlackBars$Row;", Cond.fieldLink RX4 28 "BlackBars$Sheet" "ownWidths" "LBlackBars$Row;", Cond.methodLink RX4 53 yX7_size, Cond.methodLink RX4 59 yX1_size, Cond.methodLink RX4 62 yX1_nameOf, Cond.methodLink RX4 66 yX1_endingOf, Cond.methodLink RX4 69 yX5_isForm, Cond.instanceMethod yX5_isForm, Cond.selects RX5 yX5_isForm yX5_isForm, Cond.code yX5_isForm cX5_isForm 8 (some .boolean), Cond.methodLink RX5 45 yX7_lengthOf, Cond.methodLink RX5 53 yX7_letterOf, Cond.instanceMethod yX7_letterOf, Cond.selects RX7 yX7_letterOf yX7_letterOf, Cond.code yX7_letterOf cX7_letterOf 3 (some .int), Cond.methodLink RX4 73 yX3_put, Cond.methodLink RX4 80 yX7_widthOf, Cond.methodLink RX8 246 yX4_flow, Cond.instanceMethod yX4_flow, Cond.selects RX4 yX4_flow yX4_flow, Cond.code yX4_flow cX4_flow 8 none, Cond.fieldLink RX4 43 "BlackBars$Sheet" "lines" "I", Cond.fieldLink RX4 40 "BlackBars$Sheet" "firstWords" "LBlackBars$Row;", Cond.fieldLink RX4 31 "BlackBars$Sheet" "shownWidths" "LBlackBars$Row;"]
def wsL_acts_r12 : List Cond := [Cond.fieldLink RX4 34 "BlackBars$Sheet" "linesOfWords" "LBlackBars$Row;", Cond.fieldLink RX4 37 "BlackBars$Sheet" "places" "LBlackBars$Row;", Cond.methodLink RX4 87 yX3_at, Cond.methodLink RX4 90 yX4_widthUnder, Cond.instanceMethod yX4_widthUnder, Cond.selects RX4 yX4_widthUnder yX4_widthUnder, Cond.code yX4_widthUnder cX4_widthUnder 3 (some .int), Cond.methodLink RX4 94 yX4_isHidden, Cond.instanceMethod yX4_isHidden, Cond.selects RX4 yX4_isHidden yX4_isHidden, Cond.code yX4_isHidden cX4_isHidden 2 (some .boolean), Cond.methodLink RX4 98 yX4_formOf, Cond.instanceMethod yX4_formOf, Cond.selects RX4 yX4_formOf yX4_formOf, Cond.code yX4_formOf cX4_formOf 2 (some .int), Cond.methodLink RX4 101 yX0_widthOf, Cond.instanceMethod yX0_widthOf, Cond.selects RX0 yX0_widthOf yX0_widthOf, Cond.code yX0_widthOf cX0_widthOf 2 (some .int), Cond.methodLink RX0 55 yX3_at, Cond.methodLink RX4 105 yX4_ownWidthOf, Cond.instanceMethod yX4_ownWidthOf, Cond.selects RX4 yX4_ownWidthOf yX4_ownWidthOf, Cond.code yX4_ownWidthOf cX4_ownWidthOf 2 (some .int)]
def wsL_acts_r13 : List Cond := [Cond.methodLink RX8 94 yX7_size, Cond.methodLink RL 59 yX8_name, Cond.instanceMethod yX8_name, Cond.selects RX8 yX8_name yX8_name, Cond.code yX8_name cX8_name 1 (some .int), Cond.methodLink RX8 98 yX8_addTextTo, Cond.instanceMethod yX8_addTextTo, Cond.selects RX8 yX8_addTextTo yX8_addTextTo, Cond.code yX8_addTextTo cX8_addTextTo 2 (some .int), Cond.methodLink RX8 250 yX7_greatestLength, Cond.instanceMethod yX7_greatestLength, Cond.selects RX7 yX7_greatestLength yX7_greatestLength, Cond.code yX7_greatestLength cX7_greatestLength 1 (some .int), Cond.methodLink RX8 253 yX6_isOneWord, Cond.instanceMethod yX6_isOneWord, Cond.selects RX6 yX6_isOneWord yX6_isOneWord, Cond.code yX6_isOneWord cX6_isOneWord 3 (some .boolean), Cond.methodLink RX8 256 yX7_hasWord, Cond.instanceMethod yX7_hasWord, Cond.selects RX7 yX7_hasWord yX7_hasWord, Cond.code yX7_hasWord cX7_hasWord 3 (some .boolean), Cond.methodLink RX7 35 yX7_isWord, Cond.instanceMethod yX7_isWord, Cond.selects RX7 yX7_isWord yX7_isWord]
def wsL_acts_r14 : List Cond := [Cond.code yX7_isWord cX7_isWord 4 (some .boolean), Cond.methodLink RX7 47 yX7_letterOf, Cond.methodLink RX8 260 yX7_isFull, Cond.instanceMethod yX7_isFull, Cond.selects RX7 yX7_isFull yX7_isFull, Cond.code yX7_isFull cX7_isFull 1 (some .boolean), Cond.methodLink RL 62 yX8_ending, Cond.instanceMethod yX8_ending, Cond.selects RX8 yX8_ending yX8_ending, Cond.code yX8_ending cX8_ending 1 (some .int), Cond.methodLink RL 65 yX8_dropName, Cond.instanceMethod yX8_dropName, Cond.selects RX8 yX8_dropName yX8_dropName, Cond.code yX8_dropName cX8_dropName 2 (some .int), Cond.methodLink RX8 105 yX8_dropFrom, Cond.instanceMethod yX8_dropFrom, Cond.selects RX8 yX8_dropFrom yX8_dropFrom, Cond.code yX8_dropFrom cX8_dropFrom 3 (some .int), Cond.methodLink RX8 158 yX7_has, Cond.instanceMethod yX7_has, Cond.selects RX7 yX7_has yX7_has, Cond.code yX7_has cX7_has 2 (some .boolean), Cond.methodLink RX8 264 yX7_remove, Cond.instanceMethod yX7_remove]
def wsL_acts_r15 : List Cond := [Cond.selects RX7 yX7_remove yX7_remove, Cond.code yX7_remove cX7_remove 4 none, Cond.methodLink RX7 68 yX7_has, Cond.methodLink RL 68 yX8_dropEnding, Cond.instanceMethod yX8_dropEnding, Cond.selects RX8 yX8_dropEnding yX8_dropEnding, Cond.code yX8_dropEnding cX8_dropEnding 2 (some .int), Cond.methodLink RL 71 yX8_widen, Cond.instanceMethod yX8_widen, Cond.selects RX8 yX8_widen yX8_widen, Cond.code yX8_widen cX8_widen 4 (some .int), Cond.methodLink RX8 109 yX8_isLetter, Cond.methodLink RX8 122 yX3_put, Cond.methodLink RL 74 yX8_set, Cond.instanceMethod yX8_set, Cond.selects RX8 yX8_set yX8_set, Cond.code yX8_set cX8_set 4 (some .int), Cond.fieldLink RX8 126 "BlackBars" "LEAST_VALUES" "[I", Cond.fieldLink RX8 130 "BlackBars" "GREATEST_VALUES" "[I"]
def wsL_acts : List Cond := .code yL_acts cL_acts 19 (some .boolean) :: ((wsL_acts_r1 ++ (wsL_acts_r2 ++ (wsL_acts_r3 ++ (wsL_acts_r4 ++ (wsL_acts_r5 ++ (wsL_acts_r6 ++ (wsL_acts_r7 ++ (wsL_acts_r8 ++ (wsL_acts_r9 ++ (wsL_acts_r10 ++ (wsL_acts_r11 ++ (wsL_acts_r12 ++ (wsL_acts_r13 ++ (wsL_acts_r14 ++ wsL_acts_r15)))))))))))))) ++ wsX80 ++ wsX60 ++ wsX30 ++ wsX50 ++ wsX20 ++ wsX70 ++ wsX10 ++ wsX00 ++ wsX40)
def wsL_begins : List Cond := .code yL_begins cL_begins 3 none :: ([])
def wsL_isSo_r1 : List Cond := [Cond.arrayClass .int, Cond.constantLong RL 15 (31), Cond.methodLink RL 77 yX8_count, Cond.instanceMethod yX8_count, Cond.selects RX8 yX8_count yX8_count, Cond.initialized RX8, Cond.code yX8_count cX8_count 2 (some .int), Cond.fieldLink RX8 19 "BlackBars" "state" "LBlackBars$State;", Cond.fieldLink RX8 54 "BlackBars" "sheet" "LBlackBars$Sheet;", Cond.fieldLink RX8 33 "BlackBars" "forms" "LBlackBars$Forms;", Cond.fieldLink RX8 42 "BlackBars" "bars" "LBlackBars$Bars;", Cond.fieldLink RX8 26 "BlackBars" "history" "LBlackBars$History;", Cond.fieldLink RX8 12 "BlackBars" "text" "LBlackBars$Text;", Cond.methodLink RX8 94 yX7_size, Cond.instanceMethod yX7_size, Cond.selects RX7 yX7_size yX7_size, Cond.initialized RX7, Cond.code yX7_size cX7_size 1 (some .int), Cond.fieldLink RX7 28 "BlackBars$Words" "size" "I", Cond.methodLink RX8 136 yX4_barsBetween, Cond.instanceMethod yX4_barsBetween, Cond.selects RX4 yX4_barsBetween yX4_barsBetween, Cond.initialized RX4, Cond.code yX4_barsBetween cX4_barsBetween 5 (some .int)]
def wsL_isSo_r2 : List Cond := [Cond.methodLink RX4 94 yX4_isHidden, Cond.instanceMethod yX4_isHidden, Cond.selects RX4 yX4_isHidden yX4_isHidden, Cond.code yX4_isHidden cX4_isHidden 2 (some .boolean), Cond.fieldLink RX4 24 "BlackBars$Sheet" "formsOfWords" "LBlackBars$Row;", Cond.methodLink RX4 87 yX3_at, Cond.instanceMethod yX3_at, Cond.selects RX3 yX3_at yX3_at, Cond.initialized RX3, Cond.code yX3_at cX3_at 2 (some .int), Cond.fieldLink RX3 13 "BlackBars$Row" "cells" "[I", Cond.methodLink RX8 140 yX4_lineCount, Cond.instanceMethod yX4_lineCount, Cond.selects RX4 yX4_lineCount yX4_lineCount, Cond.code yX4_lineCount cX4_lineCount 1 (some .int), Cond.fieldLink RX4 43 "BlackBars$Sheet" "lines" "I", Cond.methodLink RX8 143 yX1_size, Cond.instanceMethod yX1_size, Cond.selects RX1 yX1_size yX1_size, Cond.initialized RX1, Cond.code yX1_size cX1_size 1 (some .int), Cond.fieldLink RX1 30 "BlackBars$Forms" "size" "I", Cond.methodLink RX8 117 yX3_at, Cond.methodLink RX8 144 yX4_betrayedBars]
def wsL_isSo_r3 : List Cond := [Cond.instanceMethod yX4_betrayedBars, Cond.selects RX4 yX4_betrayedBars yX4_betrayedBars, Cond.code yX4_betrayedBars cX4_betrayedBars 4 (some .int), Cond.fieldLink RX4 9 "BlackBars$Sheet" "state" "LBlackBars$State;", Cond.methodLink RX4 53 yX7_size, Cond.methodLink RX4 115 yX4_namesUnder, Cond.instanceMethod yX4_namesUnder, Cond.selects RX4 yX4_namesUnder yX4_namesUnder, Cond.code yX4_namesUnder cX4_namesUnder 3 (some .int), Cond.methodLink RX4 98 yX4_formOf, Cond.instanceMethod yX4_formOf, Cond.selects RX4 yX4_formOf yX4_formOf, Cond.code yX4_formOf cX4_formOf 2 (some .int), Cond.methodLink RX4 101 yX0_widthOf, Cond.instanceMethod yX0_widthOf, Cond.selects RX0 yX0_widthOf yX0_widthOf, Cond.initialized RX0, Cond.code yX0_widthOf cX0_widthOf 2 (some .int), Cond.fieldLink RX0 20 "BlackBars$Bars" "widths" "LBlackBars$Row;", Cond.methodLink RX0 55 yX3_at, Cond.methodLink RX4 118 yX0_namesUnder, Cond.instanceMethod yX0_namesUnder, Cond.selects RX0 yX0_namesUnder yX0_namesUnder, Cond.code yX0_namesUnder cX0_namesUnder 4 (some .int)]
def wsL_isSo_r4 : List Cond := [Cond.fieldLink RX0 9 "BlackBars$Bars" "forms" "LBlackBars$Forms;", Cond.methodLink RX0 24 yX1_size, Cond.methodLink RX0 58 yX1_nameOf, Cond.instanceMethod yX1_nameOf, Cond.selects RX1 yX1_nameOf yX1_nameOf, Cond.code yX1_nameOf cX1_nameOf 2 (some .int), Cond.fieldLink RX1 26 "BlackBars$Forms" "formsOfName" "I", Cond.methodLink RX4 120 yJ6_bitCount_0f7a4, Cond.static yJ6_bitCount_0f7a4, Cond.initialized RJ6, Cond.code yJ6_bitCount_0f7a4 cJ6_bitCount_0f7a4 1 (some .int), Cond.constant RJ6 265 (1431655765), Cond.constant RJ6 266 (858993459), Cond.constant RJ6 267 (252645135), Cond.methodLink RX8 148 yX4_sumOfShownWidths, Cond.instanceMethod yX4_sumOfShownWidths, Cond.selects RX4 yX4_sumOfShownWidths yX4_sumOfShownWidths, Cond.code yX4_sumOfShownWidths cX4_sumOfShownWidths 4 (some .int), Cond.methodLink RX4 90 yX4_widthUnder, Cond.instanceMethod yX4_widthUnder, Cond.selects RX4 yX4_widthUnder yX4_widthUnder, Cond.code yX4_widthUnder cX4_widthUnder 3 (some .int), Cond.methodLink RX4 105 yX4_ownWidthOf, Cond.instanceMethod yX4_ownWidthOf]
def wsL_isSo_r5 : List Cond := [Cond.selects RX4 yX4_ownWidthOf yX4_ownWidthOf, Cond.code yX4_ownWidthOf cX4_ownWidthOf 2 (some .int), Cond.fieldLink RX4 28 "BlackBars$Sheet" "ownWidths" "LBlackBars$Row;", Cond.methodLink RX8 151 yX4_sumOfGaps, Cond.instanceMethod yX4_sumOfGaps, Cond.selects RX4 yX4_sumOfGaps yX4_sumOfGaps, Cond.code yX4_sumOfGaps cX4_sumOfGaps 4 (some .int), Cond.fieldLink RX4 15 "BlackBars$Sheet" "forms" "LBlackBars$Forms;", Cond.methodLink RX4 111 yX1_widthOf, Cond.instanceMethod yX1_widthOf, Cond.selects RX1 yX1_widthOf yX1_widthOf, Cond.code yX1_widthOf cX1_widthOf 2 (some .int), Cond.fieldLink RX1 14 "BlackBars$Forms" "widths" "LBlackBars$Row;", Cond.methodLink RX1 33 yX3_at, Cond.methodLink RX8 154 yX4_differentBarWidths, Cond.instanceMethod yX4_differentBarWidths, Cond.selects RX4 yX4_differentBarWidths yX4_differentBarWidths, Cond.code yX4_differentBarWidths cX4_differentBarWidths 3 (some .int), Cond.methodLink RX4 112 yX4_hasBarAhead, Cond.instanceMethod yX4_hasBarAhead, Cond.selects RX4 yX4_hasBarAhead yX4_hasBarAhead, Cond.code yX4_hasBarAhead cX4_hasBarAhead 3 (some .boolean), Cond.methodLink RX4 108 yX4_shownWidthOf, Cond.instanceMethod yX4_shownWidthOf]
def wsL_isSo_r6 : List Cond := [Cond.selects RX4 yX4_shownWidthOf yX4_shownWidthOf, Cond.code yX4_shownWidthOf cX4_shownWidthOf 2 (some .int), Cond.fieldLink RX4 31 "BlackBars$Sheet" "shownWidths" "LBlackBars$Row;", Cond.methodLink RX8 157 yX2_size, Cond.instanceMethod yX2_size, Cond.selects RX2 yX2_size yX2_size, Cond.initialized RX2, Cond.code yX2_size cX2_size 1 (some .int), Cond.fieldLink RX2 18 "BlackBars$History" "size" "I", Cond.methodLink RX8 58 yX6_size, Cond.instanceMethod yX6_size, Cond.selects RX6 yX6_size yX6_size, Cond.initialized RX6, Cond.code yX6_size cX6_size 1 (some .int), Cond.fieldLink RX6 20 "BlackBars$Text" "length" "I", Cond.methodLink RL 25 yL_formOf, Cond.static yL_formOf, Cond.initialized RL, Cond.code yL_formOf cL_formOf 5 (some .int), Cond.methodLink RL 17 yL_form, Cond.static yL_form, Cond.code yL_form cL_form 6 (some .long), Cond.methodLink RL 9 yL_length, Cond.static yL_length]
def wsL_isSo_r7 : List Cond := [Cond.code yL_length cL_length 3 (some .int), Cond.methodLink RL 21 yL_width, Cond.static yL_width, Cond.code yL_width cL_width 5 (some .int), Cond.methodLink RL 80 yL_shown, Cond.static yL_shown, Cond.code yL_shown cL_shown 7 (some .int), Cond.methodLink RL 29 yL_bar, Cond.static yL_bar, Cond.code yL_bar cL_bar 12 (some .int), Cond.methodLink RL 83 yL_under, Cond.static yL_under, Cond.code yL_under cL_under 8 (some .int), Cond.methodLink RL 86 yX8_line, Cond.instanceMethod yX8_line, Cond.selects RX8 yX8_line yX8_line, Cond.code yX8_line cX8_line 5 (some .int), Cond.methodLink RX8 197 Lib.Math.max.name, Cond.static Lib.Math.max.name, Cond.initialized "java/lang/Math", Cond.code Lib.Math.max.name Lib.Math.max.code 2 (some .int), Cond.methodLink RX8 185 yX4_hasLine, Cond.instanceMethod yX4_hasLine, Cond.selects RX4 yX4_hasLine yX4_hasLine]
def wsL_isSo_r8 : List Cond := [Cond.code yX4_hasLine cX4_hasLine 2 (some .boolean), Cond.methodLink RX8 188 yX4_firstWordOf, Cond.instanceMethod yX4_firstWordOf, Cond.selects RX4 yX4_firstWordOf yX4_firstWordOf, Cond.code yX4_firstWordOf cX4_firstWordOf 2 (some .int), Cond.fieldLink RX4 40 "BlackBars$Sheet" "firstWords" "LBlackBars$Row;", Cond.methodLink RX8 191 yX4_firstWordBehind, Cond.instanceMethod yX4_firstWordBehind, Cond.selects RX4 yX4_firstWordBehind yX4_firstWordBehind, Cond.code yX4_firstWordBehind cX4_firstWordBehind 2 (some .int), Cond.methodLink RX8 194 yX4_widthBetween, Cond.instanceMethod yX4_widthBetween, Cond.selects RX4 yX4_widthBetween yX4_widthBetween, Cond.code yX4_widthBetween cX4_widthBetween 5 (some .int), Cond.methodLink RL 89 yX8_widthAgain, Cond.instanceMethod yX8_widthAgain, Cond.selects RX8 yX8_widthAgain yX8_widthAgain, Cond.code yX8_widthAgain cX8_widthAgain 3 (some .int), Cond.methodLink RX8 176 yX4_placeOf, Cond.instanceMethod yX4_placeOf, Cond.selects RX4 yX4_placeOf yX4_placeOf, Cond.code yX4_placeOf cX4_placeOf 2 (some .int), Cond.fieldLink RX4 37 "BlackBars$Sheet" "places" "LBlackBars$Row;", Cond.methodLink RX8 167 yX4_shownWidthOf]
def wsL_isSo_r9 : List Cond := [Cond.methodLink RL 92 yX8_word, Cond.instanceMethod yX8_word, Cond.selects RX8 yX8_word yX8_word, Cond.code yX8_word cX8_word 3 (some .int), Cond.methodLink RX8 158 yX7_has, Cond.instanceMethod yX7_has, Cond.selects RX7 yX7_has yX7_has, Cond.code yX7_has cX7_has 2 (some .boolean), Cond.methodLink RX8 161 yX7_lengthOf, Cond.instanceMethod yX7_lengthOf, Cond.selects RX7 yX7_lengthOf yX7_lengthOf, Cond.code yX7_lengthOf cX7_lengthOf 2 (some .int), Cond.fieldLink RX7 25 "BlackBars$Words" "lengths" "LBlackBars$Row;", Cond.methodLink RX7 31 yX3_at, Cond.methodLink RX8 164 yX4_ownWidthOf, Cond.methodLink RX8 170 yX4_isHidden, Cond.methodLink RX8 173 yX4_lineOf, Cond.instanceMethod yX4_lineOf, Cond.selects RX4 yX4_lineOf yX4_lineOf, Cond.code yX4_lineOf cX4_lineOf 2 (some .int), Cond.fieldLink RX4 34 "BlackBars$Sheet" "linesOfWords" "LBlackBars$Row;", Cond.methodLink RX8 179 yX8_hiddenWord, Cond.instanceMethod yX8_hiddenWord, Cond.selects RX8 yX8_hiddenWord yX8_hiddenWord]
def wsL_isSo_r10 : List Cond := [Cond.code yX8_hiddenWord cX8_hiddenWord 4 (some .int), Cond.methodLink RX8 215 yX0_namesUnder, Cond.methodLink RX8 267 yX4_formOf, Cond.methodLink RX8 270 yX1_nameOf, Cond.methodLink RX8 273 yX1_endingOf, Cond.instanceMethod yX1_endingOf, Cond.selects RX1 yX1_endingOf yX1_endingOf, Cond.code yX1_endingOf cX1_endingOf 2 (some .int), Cond.methodLink RX8 276 yJ6_bitCount_0f7a4, Cond.methodLink RL 95 yL_ones, Cond.static yL_ones, Cond.code yL_ones cL_ones 3 (some .int), Cond.methodLink RL 98 yX8_letter, Cond.instanceMethod yX8_letter, Cond.selects RX8 yX8_letter yX8_letter, Cond.code yX8_letter cX8_letter 3 (some .int), Cond.methodLink RX8 182 yX7_letterOf, Cond.instanceMethod yX7_letterOf, Cond.selects RX7 yX7_letterOf yX7_letterOf, Cond.code yX7_letterOf cX7_letterOf 3 (some .int), Cond.fieldLink RX7 21 "BlackBars$Words" "letters" "LBlackBars$Row;", Cond.fieldLink RX7 13 "BlackBars$Words" "mostLetters" "I"]
def wsL_isSo : List Cond := .code yL_isSo cL_isSo 17 (some .boolean) :: ((wsL_isSo_r1 ++ (wsL_isSo_r2 ++ (wsL_isSo_r3 ++ (wsL_isSo_r4 ++ (wsL_isSo_r5 ++ (wsL_isSo_r6 ++ (wsL_isSo_r7 ++ (wsL_isSo_r8 ++ (wsL_isSo_r9 ++ wsL_isSo_r10))))))))) ++ wsX80 ++ wsX50 ++ wsX70 ++ wsX40 ++ wsX30 ++ wsX10 ++ wsX00 ++ wsX20 ++ wsX60)
def wsL_law_r1 : List Cond := [Cond.classLink RL 34 RX8, Cond.instantiable RX8 7, Cond.initialized RX8, Cond.arrayClass .int, Cond.arrayClass .long, Cond.constant RL 8 (2147483647), Cond.methodLink RL 101 yX8_init, Cond.instanceMethod yX8_init, Cond.code yX8_init cX8_init 1 none, Cond.methodLink RX8 3 objectInit, Cond.instanceMethod objectInit, Cond.code objectInit ⟨#[0xb1]⟩ 1 none, Cond.classLink RX8 9 RX6, Cond.instantiable RX6 2, Cond.initialized RX6, Cond.fieldLink RX8 12 "BlackBars" "text" "LBlackBars$Text;", Cond.classLink RX8 16 RX5, Cond.instantiable RX5 5, Cond.initialized RX5, Cond.fieldLink RX8 19 "BlackBars" "state" "LBlackBars$State;", Cond.classLink RX8 23 RX2, Cond.instantiable RX2 2, Cond.initialized RX2, Cond.fieldLink RX8 26 "BlackBars" "history" "LBlackBars$History;"]
def wsL_law_r2 : List Cond := [Cond.classLink RX8 30 RX1, Cond.instantiable RX1 5, Cond.initialized RX1, Cond.fieldLink RX8 33 "BlackBars" "forms" "LBlackBars$Forms;", Cond.classLink RX8 37 RX0, Cond.instantiable RX0 2, Cond.initialized RX0, Cond.fieldLink RX8 42 "BlackBars" "bars" "LBlackBars$Bars;", Cond.fieldLink RX8 46 "BlackBars" "trialBars" "LBlackBars$Bars;", Cond.classLink RX8 49 RX4, Cond.instantiable RX4 9, Cond.initialized RX4, Cond.fieldLink RX8 54 "BlackBars" "sheet" "LBlackBars$Sheet;", Cond.methodLink RX8 11 yX6_init, Cond.instanceMethod yX6_init, Cond.code yX6_init cX6_init 1 none, Cond.methodLink RX6 3 objectInit, Cond.classLink RX6 9 RX3, Cond.instantiable RX3 1, Cond.initialized RX3, Cond.fieldLink RX6 14 "BlackBars$Text" "characters" "LBlackBars$Row;", Cond.fieldLink RX6 20 "BlackBars$Text" "length" "I", Cond.methodLink RX6 11 yX3_init, Cond.instanceMethod yX3_init]
def wsL_law_r3 : List Cond := [Cond.code yX3_init cX3_init 2 none, Cond.methodLink RX3 1 objectInit, Cond.methodLink RX3 7 Lib.Math.max.name, Cond.static Lib.Math.max.name, Cond.initialized "java/lang/Math", Cond.code Lib.Math.max.name Lib.Math.max.code 2 (some .int), Cond.fieldLink RX3 13 "BlackBars$Row" "cells" "[I", Cond.methodLink RX8 18 yX5_init, Cond.instanceMethod yX5_init, Cond.code yX5_init cX5_init 1 none, Cond.methodLink RX5 3 objectInit, Cond.classLink RX5 9 RX7, Cond.instantiable RX7 5, Cond.initialized RX7, Cond.fieldLink RX5 14 "BlackBars$State" "page" "LBlackBars$Words;", Cond.fieldLink RX5 20 "BlackBars$State" "names" "LBlackBars$Words;", Cond.fieldLink RX5 23 "BlackBars$State" "endings" "LBlackBars$Words;", Cond.classLink RX5 26 RX3, Cond.fieldLink RX5 35 "BlackBars$State" "letterWidths" "LBlackBars$Row;", Cond.fieldLink RX5 42 "BlackBars$State" "settings" "LBlackBars$Row;", Cond.methodLink RX5 11 yX7_init, Cond.instanceMethod yX7_init, Cond.code yX7_init cX7_init 3 none, Cond.methodLink RX7 1 objectInit]
def wsL_law_r4 : List Cond := [Cond.fieldLink RX7 7 "BlackBars$Words" "mostWords" "I", Cond.fieldLink RX7 13 "BlackBars$Words" "mostLetters" "I", Cond.classLink RX7 16 RX3, Cond.fieldLink RX7 21 "BlackBars$Words" "letters" "LBlackBars$Row;", Cond.fieldLink RX7 25 "BlackBars$Words" "lengths" "LBlackBars$Row;", Cond.fieldLink RX7 28 "BlackBars$Words" "size" "I", Cond.methodLink RX7 18 yX3_init, Cond.methodLink RX5 32 yX3_init_, Cond.instanceMethod yX3_init_, Cond.code yX3_init_ cX3_init_ 2 none, Cond.methodLink RX3 19 ⟨"[I", "clone", "()Ljava/lang/Object;"⟩, Cond.sameMethod "[I" "java/lang/Object" "clone" "()Ljava/lang/Object;", Cond.native ⟨"java/lang/Object", "clone", "()Ljava/lang/Object;"⟩, Cond.instanceMethod ⟨"java/lang/Object", "clone", "()Ljava/lang/Object;"⟩, Cond.selects "[I" ⟨"[I", "clone", "()Ljava/lang/Object;"⟩ ⟨"java/lang/Object", "clone", "()Ljava/lang/Object;"⟩, Cond.classLink RX3 20 "[I", Cond.methodLink RX8 25 yX2_init, Cond.instanceMethod yX2_init, Cond.code yX2_init cX2_init 2 none, Cond.methodLink RX2 3 objectInit, Cond.classLink RX2 9 RX5, Cond.fieldLink RX2 11 "BlackBars$History" "states" "[LBlackBars$State;", Cond.fieldLink RX2 18 "BlackBars$History" "size" "I", Cond.methodLink RX2 17 yX5_init]
def wsL_law_r5 : List Cond := [Cond.methodLink RX8 32 yX1_init, Cond.instanceMethod yX1_init, Cond.code yX1_init cX1_init 1 none, Cond.methodLink RX1 3 objectInit, Cond.classLink RX1 9 RX3, Cond.fieldLink RX1 14 "BlackBars$Forms" "widths" "LBlackBars$Row;", Cond.fieldLink RX1 20 "BlackBars$Forms" "ranks" "LBlackBars$Row;", Cond.fieldLink RX1 23 "BlackBars$Forms" "sortedWidths" "LBlackBars$Row;", Cond.fieldLink RX1 26 "BlackBars$Forms" "formsOfName" "I", Cond.fieldLink RX1 30 "BlackBars$Forms" "size" "I", Cond.methodLink RX1 11 yX3_init, Cond.methodLink RX8 39 yX0_init, Cond.instanceMethod yX0_init, Cond.code yX0_init cX0_init 2 none, Cond.methodLink RX0 3 objectInit, Cond.fieldLink RX0 9 "BlackBars$Bars" "forms" "LBlackBars$Forms;", Cond.classLink RX0 15 RX3, Cond.fieldLink RX0 20 "BlackBars$Bars" "widths" "LBlackBars$Row;", Cond.methodLink RX0 17 yX3_init, Cond.methodLink RX8 51 yX4_init, Cond.instanceMethod yX4_init, Cond.code yX4_init cX4_init 3 none, Cond.methodLink RX4 3 objectInit, Cond.fieldLink RX4 9 "BlackBars$Sheet" "state" "LBlackBars$State;"]
def wsL_law_r6 : List Cond := [Cond.fieldLink RX4 15 "BlackBars$Sheet" "forms" "LBlackBars$Forms;", Cond.classLink RX4 19 RX3, Cond.fieldLink RX4 24 "BlackBars$Sheet" "formsOfWords" "LBlackBars$Row;", Cond.fieldLink RX4 28 "BlackBars$Sheet" "ownWidths" "LBlackBars$Row;", Cond.fieldLink RX4 31 "BlackBars$Sheet" "shownWidths" "LBlackBars$Row;", Cond.fieldLink RX4 34 "BlackBars$Sheet" "linesOfWords" "LBlackBars$Row;", Cond.fieldLink RX4 37 "BlackBars$Sheet" "places" "LBlackBars$Row;", Cond.fieldLink RX4 40 "BlackBars$Sheet" "firstWords" "LBlackBars$Row;", Cond.fieldLink RX4 43 "BlackBars$Sheet" "lines" "I", Cond.methodLink RX4 21 yX3_init, Cond.methodLink RL 102 yL_begins, Cond.static yL_begins, Cond.initialized RL, Cond.code yL_begins cL_begins 3 none, Cond.methodLink RL 106 yL_isSo, Cond.static yL_isSo, Cond.code yL_isSo cL_isSo 17 (some .boolean), Cond.constantLong RL 15 (31), Cond.methodLink RL 77 yX8_count, Cond.instanceMethod yX8_count, Cond.selects RX8 yX8_count yX8_count, Cond.code yX8_count cX8_count 2 (some .int), Cond.methodLink RX8 94 yX7_size, Cond.instanceMethod yX7_size]
def wsL_law_r7 : List Cond := [Cond.selects RX7 yX7_size yX7_size, Cond.code yX7_size cX7_size 1 (some .int), Cond.methodLink RX8 136 yX4_barsBetween, Cond.instanceMethod yX4_barsBetween, Cond.selects RX4 yX4_barsBetween yX4_barsBetween, Cond.code yX4_barsBetween cX4_barsBetween 5 (some .int), Cond.methodLink RX4 94 yX4_isHidden, Cond.instanceMethod yX4_isHidden, Cond.selects RX4 yX4_isHidden yX4_isHidden, Cond.code yX4_isHidden cX4_isHidden 2 (some .boolean), Cond.methodLink RX4 87 yX3_at, Cond.instanceMethod yX3_at, Cond.selects RX3 yX3_at yX3_at, Cond.code yX3_at cX3_at 2 (some .int), Cond.methodLink RX8 140 yX4_lineCount, Cond.instanceMethod yX4_lineCount, Cond.selects RX4 yX4_lineCount yX4_lineCount, Cond.code yX4_lineCount cX4_lineCount 1 (some .int), Cond.methodLink RX8 143 yX1_size, Cond.instanceMethod yX1_size, Cond.selects RX1 yX1_size yX1_size, Cond.code yX1_size cX1_size 1 (some .int), Cond.methodLink RX8 117 yX3_at, Cond.methodLink RX8 144 yX4_betrayedBars]
def wsL_law_r8 : List Cond := [Cond.instanceMethod yX4_betrayedBars, Cond.selects RX4 yX4_betrayedBars yX4_betrayedBars, Cond.code yX4_betrayedBars cX4_betrayedBars 4 (some .int), Cond.methodLink RX4 53 yX7_size, Cond.methodLink RX4 115 yX4_namesUnder, Cond.instanceMethod yX4_namesUnder, Cond.selects RX4 yX4_namesUnder yX4_namesUnder, Cond.code yX4_namesUnder cX4_namesUnder 3 (some .int), Cond.methodLink RX4 98 yX4_formOf, Cond.instanceMethod yX4_formOf, Cond.selects RX4 yX4_formOf yX4_formOf, Cond.code yX4_formOf cX4_formOf 2 (some .int), Cond.methodLink RX4 101 yX0_widthOf, Cond.instanceMethod yX0_widthOf, Cond.selects RX0 yX0_widthOf yX0_widthOf, Cond.code yX0_widthOf cX0_widthOf 2 (some .int), Cond.methodLink RX0 55 yX3_at, Cond.methodLink RX4 118 yX0_namesUnder, Cond.instanceMethod yX0_namesUnder, Cond.selects RX0 yX0_namesUnder yX0_namesUnder, Cond.code yX0_namesUnder cX0_namesUnder 4 (some .int), Cond.methodLink RX0 24 yX1_size, Cond.methodLink RX0 58 yX1_nameOf, Cond.instanceMethod yX1_nameOf]
def wsL_law_r9 : List Cond := [Cond.selects RX1 yX1_nameOf yX1_nameOf, Cond.code yX1_nameOf cX1_nameOf 2 (some .int), Cond.methodLink RX4 120 yJ6_bitCount_0f7a4, Cond.static yJ6_bitCount_0f7a4, Cond.initialized RJ6, Cond.code yJ6_bitCount_0f7a4 cJ6_bitCount_0f7a4 1 (some .int), Cond.constant RJ6 265 (1431655765), Cond.constant RJ6 266 (858993459), Cond.constant RJ6 267 (252645135), Cond.methodLink RX8 148 yX4_sumOfShownWidths, Cond.instanceMethod yX4_sumOfShownWidths, Cond.selects RX4 yX4_sumOfShownWidths yX4_sumOfShownWidths, Cond.code yX4_sumOfShownWidths cX4_sumOfShownWidths 4 (some .int), Cond.methodLink RX4 90 yX4_widthUnder, Cond.instanceMethod yX4_widthUnder, Cond.selects RX4 yX4_widthUnder yX4_widthUnder, Cond.code yX4_widthUnder cX4_widthUnder 3 (some .int), Cond.methodLink RX4 105 yX4_ownWidthOf, Cond.instanceMethod yX4_ownWidthOf, Cond.selects RX4 yX4_ownWidthOf yX4_ownWidthOf, Cond.code yX4_ownWidthOf cX4_ownWidthOf 2 (some .int), Cond.methodLink RX8 151 yX4_sumOfGaps, Cond.instanceMethod yX4_sumOfGaps, Cond.selects RX4 yX4_sumOfGaps yX4_sumOfGaps]
def wsL_law_r10 : List Cond := [Cond.code yX4_sumOfGaps cX4_sumOfGaps 4 (some .int), Cond.methodLink RX4 111 yX1_widthOf, Cond.instanceMethod yX1_widthOf, Cond.selects RX1 yX1_widthOf yX1_widthOf, Cond.code yX1_widthOf cX1_widthOf 2 (some .int), Cond.methodLink RX1 33 yX3_at, Cond.methodLink RX8 154 yX4_differentBarWidths, Cond.instanceMethod yX4_differentBarWidths, Cond.selects RX4 yX4_differentBarWidths yX4_differentBarWidths, Cond.code yX4_differentBarWidths cX4_differentBarWidths 3 (some .int), Cond.methodLink RX4 112 yX4_hasBarAhead, Cond.instanceMethod yX4_hasBarAhead, Cond.selects RX4 yX4_hasBarAhead yX4_hasBarAhead, Cond.code yX4_hasBarAhead cX4_hasBarAhead 3 (some .boolean), Cond.methodLink RX4 108 yX4_shownWidthOf, Cond.instanceMethod yX4_shownWidthOf, Cond.selects RX4 yX4_shownWidthOf yX4_shownWidthOf, Cond.code yX4_shownWidthOf cX4_shownWidthOf 2 (some .int), Cond.methodLink RX8 157 yX2_size, Cond.instanceMethod yX2_size, Cond.selects RX2 yX2_size yX2_size, Cond.code yX2_size cX2_size 1 (some .int), Cond.methodLink RX8 58 yX6_size, Cond.instanceMethod yX6_size]
def wsL_law_r11 : List Cond := [Cond.selects RX6 yX6_size yX6_size, Cond.code yX6_size cX6_size 1 (some .int), Cond.methodLink RL 25 yL_formOf, Cond.static yL_formOf, Cond.code yL_formOf cL_formOf 5 (some .int), Cond.methodLink RL 17 yL_form, Cond.static yL_form, Cond.code yL_form cL_form 6 (some .long), Cond.methodLink RL 9 yL_length, Cond.static yL_length, Cond.code yL_length cL_length 3 (some .int), Cond.methodLink RL 21 yL_width, Cond.static yL_width, Cond.code yL_width cL_width 5 (some .int), Cond.methodLink RL 80 yL_shown, Cond.static yL_shown, Cond.code yL_shown cL_shown 7 (some .int), Cond.methodLink RL 29 yL_bar, Cond.static yL_bar, Cond.code yL_bar cL_bar 12 (some .int), Cond.methodLink RL 83 yL_under, Cond.static yL_under, Cond.code yL_under cL_under 8 (some .int), Cond.methodLink RL 86 yX8_line]
def wsL_law_r12 : List Cond := [Cond.instanceMethod yX8_line, Cond.selects RX8 yX8_line yX8_line, Cond.code yX8_line cX8_line 5 (some .int), Cond.methodLink RX8 197 Lib.Math.max.name, Cond.methodLink RX8 185 yX4_hasLine, Cond.instanceMethod yX4_hasLine, Cond.selects RX4 yX4_hasLine yX4_hasLine, Cond.code yX4_hasLine cX4_hasLine 2 (some .boolean), Cond.methodLink RX8 188 yX4_firstWordOf, Cond.instanceMethod yX4_firstWordOf, Cond.selects RX4 yX4_firstWordOf yX4_firstWordOf, Cond.code yX4_firstWordOf cX4_firstWordOf 2 (some .int), Cond.methodLink RX8 191 yX4_firstWordBehind, Cond.instanceMethod yX4_firstWordBehind, Cond.selects RX4 yX4_firstWordBehind yX4_firstWordBehind, Cond.code yX4_firstWordBehind cX4_firstWordBehind 2 (some .int), Cond.methodLink RX8 194 yX4_widthBetween, Cond.instanceMethod yX4_widthBetween, Cond.selects RX4 yX4_widthBetween yX4_widthBetween, Cond.code yX4_widthBetween cX4_widthBetween 5 (some .int), Cond.methodLink RL 89 yX8_widthAgain, Cond.instanceMethod yX8_widthAgain, Cond.selects RX8 yX8_widthAgain yX8_widthAgain, Cond.code yX8_widthAgain cX8_widthAgain 3 (some .int)]
def wsL_law_r13 : List Cond := [Cond.methodLink RX8 176 yX4_placeOf, Cond.instanceMethod yX4_placeOf, Cond.selects RX4 yX4_placeOf yX4_placeOf, Cond.code yX4_placeOf cX4_placeOf 2 (some .int), Cond.methodLink RX8 167 yX4_shownWidthOf, Cond.methodLink RL 92 yX8_word, Cond.instanceMethod yX8_word, Cond.selects RX8 yX8_word yX8_word, Cond.code yX8_word cX8_word 3 (some .int), Cond.methodLink RX8 158 yX7_has, Cond.instanceMethod yX7_has, Cond.selects RX7 yX7_has yX7_has, Cond.code yX7_has cX7_has 2 (some .boolean), Cond.methodLink RX8 161 yX7_lengthOf, Cond.instanceMethod yX7_lengthOf, Cond.selects RX7 yX7_lengthOf yX7_lengthOf, Cond.code yX7_lengthOf cX7_lengthOf 2 (some .int), Cond.methodLink RX7 31 yX3_at, Cond.methodLink RX8 164 yX4_ownWidthOf, Cond.methodLink RX8 170 yX4_isHidden, Cond.methodLink RX8 173 yX4_lineOf, Cond.instanceMethod yX4_lineOf, Cond.selects RX4 yX4_lineOf yX4_lineOf, Cond.code yX4_lineOf cX4_lineOf 2 (some .int)]
def wsL_law_r14 : List Cond := [Cond.methodLink RX8 179 yX8_hiddenWord, Cond.instanceMethod yX8_hiddenWord, Cond.selects RX8 yX8_hiddenWord yX8_hiddenWord, Cond.code yX8_hiddenWord cX8_hiddenWord 4 (some .int), Cond.methodLink RX8 215 yX0_namesUnder, Cond.methodLink RX8 267 yX4_formOf, Cond.methodLink RX8 270 yX1_nameOf, Cond.methodLink RX8 273 yX1_endingOf, Cond.instanceMethod yX1_endingOf, Cond.selects RX1 yX1_endingOf yX1_endingOf, Cond.code yX1_endingOf cX1_endingOf 2 (some .int), Cond.methodLink RX8 276 yJ6_bitCount_0f7a4, Cond.methodLink RL 95 yL_ones, Cond.static yL_ones, Cond.code yL_ones cL_ones 3 (some .int), Cond.methodLink RL 98 yX8_letter, Cond.instanceMethod yX8_letter, Cond.selects RX8 yX8_letter yX8_letter, Cond.code yX8_letter cX8_letter 3 (some .int), Cond.methodLink RX8 182 yX7_letterOf, Cond.instanceMethod yX7_letterOf, Cond.selects RX7 yX7_letterOf yX7_letterOf, Cond.code yX7_letterOf cX7_letterOf 3 (some .int), Cond.methodLink RL 110 yL_cell]
def wsL_law_r15 : List Cond := [Cond.static yL_cell, Cond.code yL_cell cL_cell 2 (some .int), Cond.constant RL 7 (40503), Cond.methodLink RL 114 yL_acts, Cond.static yL_acts, Cond.code yL_acts cL_acts 19 (some .boolean), Cond.constant RL 43 (10000000), Cond.methodLink RL 39 yL_low, Cond.static yL_low, Cond.code yL_low cL_low 2 (some .int), Cond.methodLink RL 44 yX8_clearText, Cond.instanceMethod yX8_clearText, Cond.selects RX8 yX8_clearText yX8_clearText, Cond.code yX8_clearText cX8_clearText 2 (some .int), Cond.methodLink RX8 66 yX6_empty, Cond.instanceMethod yX6_empty, Cond.selects RX6 yX6_empty yX6_empty, Cond.code yX6_empty cX6_empty 1 none, Cond.methodLink RL 48 yL_letters, Cond.static yL_letters, Cond.code yL_letters cL_letters 6 (some .long), Cond.methodLink RL 33 yX8_type, Cond.instanceMethod yX8_type, Cond.selects RX8 yX8_type yX8_type]
def wsL_law_r16 : List Cond := [Cond.code yX8_type cX8_type 2 (some .int), Cond.methodLink RX8 62 yX6_append, Cond.instanceMethod yX6_append, Cond.selects RX6 yX6_append yX6_append, Cond.code yX6_append cX6_append 2 none, Cond.methodLink RX6 28 yX3_put, Cond.instanceMethod yX3_put, Cond.selects RX3 yX3_put yX3_put, Cond.code yX3_put cX3_put 3 none, Cond.methodLink RL 52 yL_says, Cond.static yL_says, Cond.code yL_says cL_says 5 (some .boolean), Cond.methodLink RL 56 yX8_page, Cond.instanceMethod yX8_page, Cond.selects RX8 yX8_page yX8_page, Cond.code yX8_page cX8_page 1 (some .int), Cond.methodLink RX8 69 yX6_faultIndex, Cond.instanceMethod yX6_faultIndex, Cond.selects RX6 yX6_faultIndex yX6_faultIndex, Cond.code yX6_faultIndex cX6_faultIndex 2 (some .int), Cond.methodLink RX6 36 yX6_faultReason, Cond.instanceMethod yX6_faultReason, Cond.selects RX6 yX6_faultReason yX6_faultReason, Cond.code yX6_faultReason cX6_faultReason 4 (some .int)]
def wsL_law_r17 : List Cond := [Cond.methodLink RX6 24 yX3_at, Cond.methodLink RX6 39 yX6_lettersAhead, Cond.instanceMethod yX6_lettersAhead, Cond.selects RX6 yX6_lettersAhead yX6_lettersAhead, Cond.code yX6_lettersAhead cX6_lettersAhead 3 (some .int), Cond.static yX8_isLetter, Cond.code yX8_isLetter cX8_isLetter 1 (some .boolean), Cond.methodLink RX6 42 yX6_wordsAhead, Cond.instanceMethod yX6_wordsAhead, Cond.selects RX6 yX6_wordsAhead yX6_wordsAhead, Cond.code yX6_wordsAhead cX6_wordsAhead 4 (some .int), Cond.methodLink RX8 76 yX2_keep, Cond.instanceMethod yX2_keep, Cond.selects RX2 yX2_keep yX2_keep, Cond.code yX2_keep cX2_keep 3 none, Cond.methodLink RX2 22 yX2_moveOldestToEnd, Cond.instanceMethod yX2_moveOldestToEnd, Cond.selects RX2 yX2_moveOldestToEnd yX2_moveOldestToEnd, Cond.code yX2_moveOldestToEnd cX2_moveOldestToEnd 3 none, Cond.methodLink RX2 25 yX2_latest, Cond.instanceMethod yX2_latest, Cond.selects RX2 yX2_latest yX2_latest, Cond.code yX2_latest cX2_latest 1 (some (.object "BlackBars$State")), Cond.methodLink RX2 29 yX5_copyFrom]
def wsL_law_r18 : List Cond := [Cond.instanceMethod yX5_copyFrom, Cond.selects RX5 yX5_copyFrom yX5_copyFrom, Cond.code yX5_copyFrom cX5_copyFrom 2 none, Cond.methodLink RX5 57 yX7_copyFrom, Cond.instanceMethod yX7_copyFrom, Cond.selects RX7 yX7_copyFrom yX7_copyFrom, Cond.code yX7_copyFrom cX7_copyFrom 2 none, Cond.methodLink RX7 75 Lib.Math.min.name, Cond.static Lib.Math.min.name, Cond.code Lib.Math.min.name Lib.Math.min.code 2 (some .int), Cond.methodLink RX7 71 yX3_copyFrom, Cond.instanceMethod yX3_copyFrom, Cond.selects RX3 yX3_copyFrom yX3_copyFrom, Cond.code yX3_copyFrom cX3_copyFrom 2 none, Cond.methodLink RX3 24 Lib.Math.min.name, Cond.methodLink RX3 27 arraycopyName, Cond.native arraycopyName, Cond.static arraycopyName, Cond.initialized "java/lang/System", Cond.methodLink RX5 61 yX3_copyFrom, Cond.methodLink RX8 84 yX7_empty, Cond.instanceMethod yX7_empty, Cond.selects RX7 yX7_empty yX7_empty, Cond.code yX7_empty cX7_empty 1 none]
def wsL_law_r19 : List Cond := [Cond.methodLink RX8 87 yX7_addWordsOf, Cond.instanceMethod yX7_addWordsOf, Cond.selects RX7 yX7_addWordsOf yX7_addWordsOf, Cond.code yX7_addWordsOf cX7_addWordsOf 4 none, Cond.methodLink RX7 42 yX6_size, Cond.methodLink RX7 51 yX6_at, Cond.instanceMethod yX6_at, Cond.selects RX6 yX6_at yX6_at, Cond.code yX6_at cX6_at 2 (some .int), Cond.methodLink RX7 58 yX7_beginWord, Cond.instanceMethod yX7_beginWord, Cond.selects RX7 yX7_beginWord yX7_beginWord, Cond.code yX7_beginWord cX7_beginWord 1 none, Cond.methodLink RX7 64 yX3_put, Cond.methodLink RX7 61 yX7_addLetter, Cond.instanceMethod yX7_addLetter, Cond.selects RX7 yX7_addLetter yX7_addLetter, Cond.code yX7_addLetter cX7_addLetter 4 none, Cond.methodLink RX7 39 yX7_lengthOf, Cond.methodLink RX8 91 yX8_workOut, Cond.instanceMethod yX8_workOut, Cond.selects RX8 yX8_workOut yX8_workOut, Cond.code yX8_workOut cX8_workOut 1 none, Cond.methodLink RX8 240 yX1_measure]
def wsL_law_r20 : List Cond := [Cond.instanceMethod yX1_measure, Cond.selects RX1 yX1_measure yX1_measure, Cond.code yX1_measure cX1_measure 4 none, Cond.methodLink RX1 43 yX7_size, Cond.methodLink RX1 51 yX1_nameOf, Cond.methodLink RX1 54 yX1_endingOf, Cond.methodLink RX1 57 yX5_widthOfForm, Cond.instanceMethod yX5_widthOfForm, Cond.selects RX5 yX5_widthOfForm yX5_widthOfForm, Cond.code yX5_widthOfForm cX5_widthOfForm 3 (some .int), Cond.methodLink RX5 49 yX7_widthOf, Cond.instanceMethod yX7_widthOf, Cond.selects RX7 yX7_widthOf yX7_widthOf, Cond.code yX7_widthOf cX7_widthOf 7 (some .int), Cond.methodLink RX1 61 yX3_put, Cond.methodLink RX1 65 yX1_formsAheadOf, Cond.instanceMethod yX1_formsAheadOf, Cond.selects RX1 yX1_formsAheadOf yX1_formsAheadOf, Cond.code yX1_formsAheadOf cX1_formsAheadOf 6 (some .int), Cond.methodLink RX8 229 yX0_draw, Cond.instanceMethod yX0_draw, Cond.selects RX0 yX0_draw yX0_draw, Cond.code yX0_draw cX0_draw 5 none, Cond.methodLink RX0 30 yX0_barWidth]
def wsL_law_r21 : List Cond := [Cond.instanceMethod yX0_barWidth, Cond.selects RX0 yX0_barWidth yX0_barWidth, Cond.code yX0_barWidth cX0_barWidth 5 (some .int), Cond.methodLink RX0 38 yX1_widthOf, Cond.methodLink RX0 42 yX0_upToMultiple, Cond.static yX0_upToMultiple, Cond.code yX0_upToMultiple cX0_upToMultiple 2 (some .int), Cond.methodLink RX0 46 yX1_rankOf, Cond.instanceMethod yX1_rankOf, Cond.selects RX1 yX1_rankOf yX1_rankOf, Cond.code yX1_rankOf cX1_rankOf 2 (some .int), Cond.methodLink RX0 49 yX0_lastRankOfGroup, Cond.instanceMethod yX0_lastRankOfGroup, Cond.selects RX0 yX0_lastRankOfGroup yX0_lastRankOfGroup, Cond.code yX0_lastRankOfGroup cX0_lastRankOfGroup 5 (some .int), Cond.methodLink RX0 52 yX1_widthAtRank, Cond.instanceMethod yX1_widthAtRank, Cond.selects RX1 yX1_widthAtRank yX1_widthAtRank, Cond.code yX1_widthAtRank cX1_widthAtRank 2 (some .int), Cond.methodLink RX0 34 yX3_put, Cond.methodLink RX8 243 yX4_hideWords, Cond.instanceMethod yX4_hideWords, Cond.selects RX4 yX4_hideWords yX4_hideWords, Cond.code yX4_hideWords cX4_hideWords 4 none]
def wsL_law_r22 : List Cond := [Cond.methodLink RX4 59 yX1_size, Cond.methodLink RX4 62 yX1_nameOf, Cond.methodLink RX4 66 yX1_endingOf, Cond.methodLink RX4 69 yX5_isForm, Cond.instanceMethod yX5_isForm, Cond.selects RX5 yX5_isForm yX5_isForm, Cond.code yX5_isForm cX5_isForm 8 (some .boolean), Cond.methodLink RX5 45 yX7_lengthOf, Cond.methodLink RX5 53 yX7_letterOf, Cond.methodLink RX4 73 yX3_put, Cond.methodLink RX4 80 yX7_widthOf, Cond.methodLink RX8 246 yX4_flow, Cond.instanceMethod yX4_flow, Cond.selects RX4 yX4_flow yX4_flow, Cond.code yX4_flow cX4_flow 8 none, Cond.methodLink RL 59 yX8_name, Cond.instanceMethod yX8_name, Cond.selects RX8 yX8_name yX8_name, Cond.code yX8_name cX8_name 1 (some .int), Cond.methodLink RX8 98 yX8_addTextTo, Cond.instanceMethod yX8_addTextTo, Cond.selects RX8 yX8_addTextTo yX8_addTextTo, Cond.code yX8_addTextTo cX8_addTextTo 2 (some .int), Cond.methodLink RX8 250 yX7_greatestLength]
def wsL_law_r23 : List Cond := [Cond.instanceMethod yX7_greatestLength, Cond.selects RX7 yX7_greatestLength yX7_greatestLength, Cond.code yX7_greatestLength cX7_greatestLength 1 (some .int), Cond.methodLink RX8 253 yX6_isOneWord, Cond.instanceMethod yX6_isOneWord, Cond.selects RX6 yX6_isOneWord yX6_isOneWord, Cond.code yX6_isOneWord cX6_isOneWord 3 (some .boolean), Cond.methodLink RX8 256 yX7_hasWord, Cond.instanceMethod yX7_hasWord, Cond.selects RX7 yX7_hasWord yX7_hasWord, Cond.code yX7_hasWord cX7_hasWord 3 (some .boolean), Cond.methodLink RX7 35 yX7_isWord, Cond.instanceMethod yX7_isWord, Cond.selects RX7 yX7_isWord yX7_isWord, Cond.code yX7_isWord cX7_isWord 4 (some .boolean), Cond.methodLink RX7 47 yX7_letterOf, Cond.methodLink RX8 260 yX7_isFull, Cond.instanceMethod yX7_isFull, Cond.selects RX7 yX7_isFull yX7_isFull, Cond.code yX7_isFull cX7_isFull 1 (some .boolean), Cond.methodLink RL 62 yX8_ending, Cond.instanceMethod yX8_ending, Cond.selects RX8 yX8_ending yX8_ending, Cond.code yX8_ending cX8_ending 1 (some .int)]
def wsL_law_r24 : List Cond := [Cond.methodLink RL 65 yX8_dropName, Cond.instanceMethod yX8_dropName, Cond.selects RX8 yX8_dropName yX8_dropName, Cond.code yX8_dropName cX8_dropName 2 (some .int), Cond.methodLink RX8 105 yX8_dropFrom, Cond.instanceMethod yX8_dropFrom, Cond.selects RX8 yX8_dropFrom yX8_dropFrom, Cond.code yX8_dropFrom cX8_dropFrom 3 (some .int), Cond.methodLink RX8 264 yX7_remove, Cond.instanceMethod yX7_remove, Cond.selects RX7 yX7_remove yX7_remove, Cond.code yX7_remove cX7_remove 4 none, Cond.methodLink RX7 68 yX7_has, Cond.methodLink RL 68 yX8_dropEnding, Cond.instanceMethod yX8_dropEnding, Cond.selects RX8 yX8_dropEnding yX8_dropEnding, Cond.code yX8_dropEnding cX8_dropEnding 2 (some .int), Cond.methodLink RL 71 yX8_widen, Cond.instanceMethod yX8_widen, Cond.selects RX8 yX8_widen yX8_widen, Cond.code yX8_widen cX8_widen 4 (some .int), Cond.methodLink RX8 109 yX8_isLetter, Cond.methodLink RX8 122 yX3_put, Cond.methodLink RL 74 yX8_set]
def wsL_law_r25 : List Cond := [Cond.instanceMethod yX8_set, Cond.selects RX8 yX8_set yX8_set, Cond.code yX8_set cX8_set 4 (some .int), Cond.fieldLink RX8 126 "BlackBars" "LEAST_VALUES" "[I", Cond.fieldLink RX8 130 "BlackBars" "GREATEST_VALUES" "[I"]
def wsL_law : List Cond := (wsL_law_r1 ++ (wsL_law_r2 ++ (wsL_law_r3 ++ (wsL_law_r4 ++ (wsL_law_r5 ++ (wsL_law_r6 ++ (wsL_law_r7 ++ (wsL_law_r8 ++ (wsL_law_r9 ++ (wsL_law_r10 ++ (wsL_law_r11 ++ (wsL_law_r12 ++ (wsL_law_r13 ++ (wsL_law_r14 ++ (wsL_law_r15 ++ (wsL_law_r16 ++ (wsL_law_r17 ++ (wsL_law_r18 ++ (wsL_law_r19 ++ (wsL_law_r20 ++ (wsL_law_r21 ++ (wsL_law_r22 ++ (wsL_law_r23 ++ (wsL_law_r24 ++ wsL_law_r25)))))))))))))))))))))))) ++ wsX80 ++ wsX60 ++ wsX50 ++ wsX20 ++ wsX10 ++ wsX00 ++ wsX40 ++ wsX30 ++ wsX70 ++ ([] : List Cond)
abbrev vwCl : List vw_C := [(RX0, TX0, 2), (RX1, TX1, 5), (RX2, TX2, 2), (RX3, TX3, 1), (RX4, TX4, 9), (RX5, TX5, 5), (RX6, TX6, 2), (RX7, TX7, 5), (RX8, TX8, 7)]
end
section
/-! ===== the walking judgement: a state of the system is a function of two numbers (cell, place); J says that from a program counter, with known locals and stack, over any heap that holds the state, the machine comes to the goal ===== -/
abbrev kS : Type := Nat → Nat → Int32
def kWe : kS → va_W := fun _ => []
def kC0 : kS := fun _ _ => 0
def kO (ls : Array Slot) (nL : Nat) (lv : List (Option Value)) : Prop := lv.length = nL ∧ ls.size = nL ∧ lv_wf ls ∧ ∀ (i : Nat) (v : Value), lv[i]? = some (some v) → ls[i]? = some (.val v)
/-- no long begins at the place ahead -/
def kNL (lv : List (Option Value)) : Nat → Bool
  | 0 => true
  | j + 1 => match lv[j]? with
    | some (some v) => v.category == 1
    | _ => true
theorem kNL_s {lv : List (Option Value)} {i j : Nat} {v : Value} (h : kNL lv i = true) (hij : j + 1 = i) (hv : lv[j]? = some (some v)) : v.category = 1 := by
  subst hij
  have h1 : (match lv[j]? with
    | some (some v) => v.category == 1
    | _ => true) = true := h
  rw [hv] at h1
  simpa using h1
def kPr : Nat → List (Option Value) → List (Nat × Value)
  | _, [] => []
  | i, none :: r => kPr (i + 1) r
  | i, some v :: r => (i, v) :: kPr (i + 1) r
theorem kPr_of : ∀ (lv : List (Option Value)) (i0 : Nat) (q : Nat × Value), q ∈ kPr i0 lv → ∃ j, q.1 = i0 + j ∧ lv[j]? = some (some q.2)
  | [], _, q, h => by cases h
  | none :: r, i0, q, h => by
    obtain ⟨j, h1, h2⟩ := kPr_of r (i0 + 1) q h
    exact ⟨j + 1, by omega, by simpa using h2⟩
  | some v :: r, i0, q, h => by
    rcases List.mem_cons.mp h with rfl | h
    · exact ⟨0, rfl, rfl⟩
    · obtain ⟨j, h1, h2⟩ := kPr_of r (i0 + 1) q h
      exact ⟨j + 1, by omega, by simpa using h2⟩
theorem kPr_in : ∀ (lv : List (Option Value)) (i0 j : Nat) (v : Value), lv[j]? = some (some v) → (i0 + j, v) ∈ kPr i0 lv
  | [], i0, j, v, h => by simp at h
  | none :: r, i0, 0, v, h => by simp at h
  | none :: r, i0, j + 1, v, h => by
    have h1 := kPr_in r (i0 + 1) j v (by simpa using h)
    rw [show i0 + (j + 1) = i0 + 1 + j by omega]
    exact h1
  | some w :: r, i0, 0, v, h => by
    have h1 : w = v := by simpa using h
    subst h1
    exact List.mem_cons_self
  | some w :: r, i0, j + 1, v, h => by
    have h1 := kPr_in r (i0 + 1) j v (by simpa using h)
    rw [show i0 + (j + 1) = i0 + 1 + j by omega]
    exact List.mem_cons_of_mem _ h1
theorem kO.has {ls : Array Slot} {nL : Nat} {lv : List (Option Value)} (h : kO ls nL lv) : lv_has ls nL (kPr 0 lv) := ⟨h.2.1, h.2.2.1, fun q hq => by
  obtain ⟨j, h1, h2⟩ := kPr_of lv 0 q hq
  rw [h1, Nat.zero_add]
  exact h.2.2.2 j q.2 h2⟩
theorem kO.at {ls : Array Slot} {nL : Nat} {lv : List (Option Value)} (h : kO ls nL lv) {i : Nat} {v : Value} (hv : lv[i]? = some (some v)) : ls[i]? = some (.val v) := h.2.2.2 i v hv
theorem kO.set {ls ls' : Array Slot} {nL : Nat} {lv : List (Option Value)} (h : kO ls nL lv) {i : Nat} {v : Value} (hi : i < nL) (_ : v.category = 1) (h' : lv_has ls' nL ((i, v) :: (kPr 0 lv).filter (fun q => !(q.1 == i) && !(q.1 + 1 == i && q.2.category == 2)))) (hnl : kNL lv i = true := by rfl) : kO ls' nL (lv.set i (some v)) := by
  refine ⟨by rw [List.length_set]; exact h.1, h'.1, h'.2.1, fun j w hw => ?_⟩
  rw [List.getElem?_set] at hw
  by_cases hij : i = j
  · subst hij
    rw [if_pos rfl, if_pos (by rw [h.1]; exact hi)] at hw
    have h1 : v = w := by simpa using hw
    subst h1
    exact h'.2.2 (i, v) List.mem_cons_self
  · rw [if_neg hij] at hw
    refine h'.2.2 (j, w) (List.mem_cons_of_mem _ (List.mem_filter.mpr ⟨by simpa using kPr_in lv 0 j w hw, ?_⟩))
    have h3 : ¬ j = i := fun e => hij e.symm
    by_cases h4 : j + 1 = i
    · have h5 := kNL_s hnl h4 hw
      simp [h5, h3]
    · simp [h3, h4]
theorem kO.set2 {ls ls' : Array Slot} {nL : Nat} {lv : List (Option Value)} (h : kO ls nL lv) {i : Nat} {v : Value} (hi : i + 1 < nL) (h' : lv_has ls' nL ((i, v) :: (kPr 0 lv).filter (fun q => !(q.1 == i) && (!(q.1 == i + 1) && !(q.1 + 1 == i && q.2.category == 2))))) (hnl : kNL lv i = true := by rfl) : kO ls' nL ((lv.set i (some v)).set (i + 1) none) := by
  refine ⟨by rw [List.length_set, List.length_set]; exact h.1, h'.1, h'.2.1, fun j w hw => ?_⟩
  rw [List.getElem?_set] at hw
  by_cases hij1 : i + 1 = j
  · rw [if_pos hij1] at hw
    split at hw <;> cases hw
  · rw [if_neg hij1, List.getElem?_set] at hw
    by_cases hij : i = j
    · subst hij
      rw [if_pos rfl, if_pos (by rw [h.1]; omega)] at hw
      have h1 : v = w := by simpa using hw
      subst h1
      exact h'.2.2 (i, v) List.mem_cons_self
    · rw [if_neg hij] at hw
      refine h'.2.2 (j, w) (List.mem_cons_of_mem _ (List.mem_filter.mpr ⟨by simpa using kPr_in lv 0 j w hw, ?_⟩))
      have h3 : ¬ j = i := fun e => hij e.symm
      have h6 : ¬ j = i + 1 := fun e => hij1 e.symm
      by_cases h4 : j + 1 = i
      · have h5 := kNL_s hnl h4 hw
        simp [h5, h3, h6]
      · simp [h3, h4, h6]
theorem kArgs_in : ∀ (vs : List Value) (i j : Nat) (v : Value), (∀ w ∈ vs, w.category = 1) → vs[j]? = some v → (i + j, v) ∈ lv_args i vs
  | [], i, j, v, _, h => by simp at h
  | w :: r, i, 0, v, _, h => by
    have h1 : w = v := by simpa using h
    subst h1
    exact List.mem_cons_self
  | w :: r, i, j + 1, v, hc, h => by
    have h1 := kArgs_in r (i + 1) j v (fun z hz => hc z (List.mem_cons_of_mem _ hz)) (by simpa using h)
    have h2 : ¬ w.category = 2 := by rw [hc w List.mem_cons_self]; decide
    rw [show i + (j + 1) = i + 1 + j by omega]
    refine List.mem_cons_of_mem _ ?_
    rw [if_neg h2]
    exact h1
theorem kSl_len : ∀ (vs : List Value), (∀ w ∈ vs, w.category = 1) → (lg_sl vs).length = vs.length
  | [], _ => rfl
  | w :: r, hc => by
    have h2 : ¬ w.category = 2 := by rw [hc w List.mem_cons_self]; decide
    have h1 := kSl_len r (fun z hz => hc z (List.mem_cons_of_mem _ hz))
    show ((if w.category = 2 then [Slot.val w, Slot.second] else [Slot.val w]) ++ lg_sl r).length = r.length + 1
    rw [if_neg h2, List.length_append, h1, List.length_singleton]
    omega
theorem kO.entry {vs : List Value} {n : Nat} (hc : ∀ w ∈ vs, w.category = 1) (h : vs.length ≤ n) : kO ((lg_sl vs ++ List.replicate (n - (lg_sl vs).length) Slot.unset).toArray) n (vs.map some ++ List.replicate (n - vs.length) none) := by
  have h0 := lv_entry vs (n := n) (by rw [kSl_len vs hc]; exact h)
  refine ⟨by simp; omega, h0.1, h0.2.1, fun j v hv => ?_⟩
  have h1 : vs[j]? = some v := by
    rcases Nat.lt_or_ge j vs.length with q | q
    · rw [List.getElem?_append_left (by simpa using q), List.getElem?_map] at hv
      cases hq : vs[j]? with
      | none => rw [hq] at hv; cases hv
      | some w => rw [hq] at hv; cases hv; rfl
    · rw [List.getElem?_append_right (by simpa using q)] at hv
      have h2 := List.eq_of_mem_replicate (List.mem_of_getElem? hv)
      cases h2
  have h2 := h0.2.2 (0 + j, v) (kArgs_in vs 0 j v hc h1)
  rw [Nat.zero_add] at h2
  exact h2
/-- arguments of which some are longs -/
def kLay : List Value → List (Option Value)
  | [] => []
  | v :: r => if v.category = 2 then some v :: none :: kLay r else some v :: kLay r
theorem kLay_in : ∀ (vs : List Value) (i j : Nat) (v : Value), (kLay vs)[j]? = some (some v) → (i + j, v) ∈ lv_args i vs
  | [], i, j, v, h => by simp [kLay] at h
  | w :: r, i, j, v, h => by
    unfold kLay at h
    show (i + j, v) ∈ (i, w) :: lv_args (if w.category = 2 then i + 2 else i + 1) r
    by_cases c : w.category = 2
    · rw [if_pos c] at h
      rw [if_pos c]
      match j, h with
      | 0, h =>
        have h1 : w = v := by simpa using h
        subst h1
        exact List.mem_cons_self
      | 1, h => simp at h
      | j + 2, h =>
        have h1 := kLay_in r (i + 2) j v (by simpa using h)
        rw [show i + (j + 2) = i + 2 + j by omega]
        exact List.mem_cons_of_mem _ h1
    · rw [if_neg c] at h
      rw [if_neg c]
      match j, h with
      | 0, h =>
        have h1 : w = v := by simpa using h
        subst h1
        exact List.mem_cons_self
      | j + 1, h =>
        have h1 := kLay_in r (i + 1) j v (by simpa using h)
        rw [show i + (j + 1) = i + 1 + j by omega]
        exact List.mem_cons_of_mem _ h1
theorem kLay_len : ∀ vs : List Value, (lg_sl vs).length = (kLay vs).length
  | [] => rfl
  | w :: r => by
    have h1 := kLay_len r
    show ((if w.category = 2 then [Slot.val w, Slot.second] else [Slot.val w]) ++ lg_sl r).length = (kLay (w :: r)).length
    unfold kLay
    by_cases c : w.category = 2
    · rw [if_pos c, if_pos c, List.length_append, h1]
      simp
      omega
    · rw [if_neg c, if_neg c, List.length_append, h1]
      simp
      omega
theorem kO.entry2 {vs : List Value} {n : Nat} (h : (kLay vs).length ≤ n) : kO ((lg_sl vs ++ List.replicate (n - (lg_sl vs).length) Slot.unset).toArray) n (kLay vs ++ List.replicate (n - (kLay vs).length) none) := by
  have h0 := lv_entry vs (n := n) (by rw [kLay_len vs]; exact h)
  refine ⟨by simp; omega, h0.1, h0.2.1, fun j v hv => ?_⟩
  have h1 : (kLay vs)[j]? = some (some v) := by
    rcases Nat.lt_or_ge j (kLay vs).length with q | q
    · rw [List.getElem?_append_left q] at hv
      exact hv
    · rw [List.getElem?_append_right q] at hv
      have h2 := List.eq_of_mem_replicate (List.mem_of_getElem? hv)
      cases h2
  have h2 := h0.2.2 (0 + j, v) (kLay_in vs 0 j v h1)
  rw [Nat.zero_add] at h2
  exact h2
/-- the fixed things of a walk -/
abbrev kG : Type := (Program × Launch × Env × Room × State) × (MethodId × Array Value × List Frame × Method × Code) × (Heap → List Loc → Prop) × va_G × (Nat × Nat) × (State → Prop)
def J (g : kG) (Wf : kS → va_W) (nL : Nat) (C : kS) (pc : Nat) (lv : List (Option Value)) (st : List Value) : Prop :=
  ∀ (H : Heap) (locs : List Loc) (ls : Array Slot), va_P g.2.2.2.1 vwCl (Wf C) H → g.2.2.1 H locs → kO ls nL lv → W g.1.1 g.1.2.1 g.1.2.2.1 g.1.2.2.2.1 g.1.2.2.2.2 g.2.1.1 g.2.1.2.1 g.2.1.2.2.1 g.2.1.2.2.2.1 g.2.1.2.2.2.2 H locs g.2.2.2.2.1.1 g.2.2.2.2.1.2 g.2.2.2.2.2 (F0 g.2.1.1 pc ls st)
abbrev kTy (cI cS : ClassId) : List (ClassId × FieldType) := [(cI, .int), (cS, .object RX5)]
/-- the private fields and the private function that nest mates use: words that no reader of steady words carries -/
def kNF : List (String × Nat × String × String × String) := [(RX8, 102, RX5, "endings", "LBlackBars$Words;"), (RX8, 113, RX5, "letterWidths", "LBlackBars$Row;"), (RX8, 133, RX5, "settings", "LBlackBars$Row;"), (RX8, 80, RX5, "page", "LBlackBars$Words;"), (RX8, 95, RX5, "names", "LBlackBars$Words;"), (RX1, 37, RX5, "endings", "LBlackBars$Words;"), (RX1, 48, RX5, "names", "LBlackBars$Words;"), (RX4, 47, RX5, "page", "LBlackBars$Words;"), (RX4, 77, RX5, "letterWidths", "LBlackBars$Row;"), (RX4, 84, RX5, "settings", "LBlackBars$Row;"), (RX5, 28, RX8, "FIRST_WIDTHS", "[I"), (RX5, 39, RX8, "FIRST_VALUES", "[I")]
def kN (U : State) : Prop := (∀ q ∈ kNF, va_Nw (.fieldLinkNest q.1 q.2.1 q.2.2.1 q.2.2.2.1 q.2.2.2.2 RX8) U) ∧ va_Nw (.methodLinkNest RX6 32 yX8_isLetter RX8) U ∧ va_Nw (.methodLinkNest RX7 52 yX8_isLetter RX8) U
theorem kN.warm {s U : State} (hW : s.WarmedH U.vm) (h : kN s) : kN U := ⟨fun q hq => (h.1 q hq).warmF hW, h.2.1.warmM hW, h.2.2.warmM hW⟩
def kK (D : va_G) (cI cS : ClassId) (U : State) : Prop := va_K D vwCl (kTy cI cS) U ∧ kN U
theorem kK.warm {D : va_G} {cI cS : ClassId} {s U : State} (hW : s.WarmedH U.vm) (h : kK D cI cS s) : kK D cI cS U := ⟨va_K.moved hW.alike h.1, h.2.warm hW⟩
theorem kK.blind {D : va_G} {cI cS : ClassId} {U : State} {f : JFrame} {mk : MethodId} {a : Array Value} (h : kK D cI cS U) : kK D cI cS (U.calling f mk a) := ⟨va_K.moved (Vm.Alike.refl U.vm) h.1, fun q hq => (h.2.1 q hq).same rfl rfl, h.2.2.1.same rfl rfl, h.2.2.2.same rfl rfl⟩
/-- what a walk knows of its method -/
def Kx (g : kG) (cI cS : ClassId) (cc : ByteArray) (own : String) (Ts : List Cond) (nL : Nat) (rm : Room) : Prop :=
  g.1.1.tables.exec = Jvm.exec ∧ g.2.1.2.2.2.2.code = cc ∧ g.2.1.2.2.2.2.maxLocals = nL ∧ g.1.2.2.2.2.vm.findClass own = some g.2.1.1.cls ∧ (∀ w ∈ Ts, w.before g.2.1.2.1 g.1.2.2.2.2 = true) ∧ kK g.2.2.2.1 cI cS g.1.2.2.2.2 ∧ g.1.2.2.2.1 = rm ∧ g.2.2.2.2.1.1 ≤ rm.cells ∧ g.2.2.2.2.1.2 ≤ rm.slots
/-- .. and of its right to write -/
def Kw (g : kG) (Wf : kS → va_W) (A : Nat → Prop) : Prop := g.2.2.1 = va_S A g.1.2.2.2.2.heap ∧ ∀ C : kS, va_D A (Wf C)
section KJ
variable {g : kG} {cI cS : ClassId} {cc : ByteArray} {own : String} {Ts : List Cond} {nL : Nat} {rm : Room} {Wf : kS → va_W} {C C' : kS} {pc : Nat} {lv lv' : List (Option Value)} {st : List Value} {A : Nat → Prop}
theorem j_iconst (X : Kx g cI cS cc own Ts nL rm) {n : Int} {v : Int32} (hdg : decode cc pc = .ok (.iconst n, 1)) (hv : Int32.ofInt n = v) (k : J g Wf nL C (pc + 1) lv (.int v :: st)) : J g Wf nL C pc lv st := fun H locs ls hP hS hl => lv_iconst X.1 X.2.1 hdg hv (k H locs ls hP hS hl)
theorem j_bipush (X : Kx g cI cS cc own Ts nL rm) {n : Int} {v : Int32} (hdg : decode cc pc = .ok (.bipush n, 2)) (hv : (Int8.ofInt n).toInt32 = v) (k : J g Wf nL C (pc + 2) lv (.int v :: st)) : J g Wf nL C pc lv st := fun H locs ls hP hS hl => lv_bipush X.1 X.2.1 hdg hv (k H locs ls hP hS hl)
theorem j_sipush (X : Kx g cI cS cc own Ts nL rm) {n : Int} {v : Int32} (hdg : decode cc pc = .ok (.sipush n, 3)) (hv : (Int16.ofInt n).toInt32 = v) (k : J g Wf nL C (pc + 3) lv (.int v :: st)) : J g Wf nL C pc lv st := fun H locs ls hP hS hl => lv_sipush X.1 X.2.1 hdg hv (k H locs ls hP hS hl)
theorem j_iload_n (X : Kx g cI cS cc own Ts nL rm) {i : Fin 4} {x : Int32} (hdg : decode cc pc = .ok (.iload_n i, 1)) (hl : lv[(i : Nat)]? = some (some (.int x))) (k : J g Wf nL C (pc + 1) lv (.int x :: st)) : J g Wf nL C pc lv st := fun H locs ls hP hS h => lv_iload_n X.1 X.2.1 hdg rfl (h.at hl) (k H locs ls hP hS h)
theorem j_iload (X : Kx g cI cS cc own Ts nL rm) {i : Nat} {x : Int32} (hdg : decode cc pc = .ok (.iload i, 2)) (hl : lv[i]? = some (some (.int x))) (k : J g Wf nL C (pc + 2) lv (.int x :: st)) : J g Wf nL C pc lv st := fun H locs ls hP hS h => lv_iload X.1 X.2.1 hdg (h.at hl) (k H locs ls hP hS h)
theorem j_aload_n (X : Kx g cI cS cc own Ts nL rm) {i : Fin 4} {x : Nat} (hdg : decode cc pc = .ok (.aload_n i, 1)) (hl : lv[(i : Nat)]? = some (some (.ref x))) (k : J g Wf nL C (pc + 1) lv (.ref x :: st)) : J g Wf nL C pc lv st := fun H locs ls hP hS h => lv_aload_n X.1 X.2.1 hdg rfl (h.at hl) (k H locs ls hP hS h)
theorem j_aload (X : Kx g cI cS cc own Ts nL rm) {i : Nat} {x : Nat} (hdg : decode cc pc = .ok (.aload i, 2)) (hl : lv[i]? = some (some (.ref x))) (k : J g Wf nL C (pc + 2) lv (.ref x :: st)) : J g Wf nL C pc lv st := fun H locs ls hP hS h => lv_aload X.1 X.2.1 hdg (h.at hl) (k H locs ls hP hS h)
theorem j_istore_n (X : Kx g cI cS cc own Ts nL rm) {i : Fin 4} {x : Int32} (hdg : decode cc pc = .ok (.istore_n i, 1)) (hi : (i : Nat) < nL) (hl : lv.set (i : Nat) (some (.int x)) = lv') (k : J g Wf nL C (pc + 1) lv' st) (hnl : kNL lv (i : Nat) = true := by rfl) : J g Wf nL C pc lv (.int x :: st) := fun H locs ls hP hS h => lv_istore_n X.1 X.2.1 hdg rfl h.has hi rfl (fun ls' h' => k H locs ls' hP hS (hl ▸ h.set hi rfl h' hnl))
theorem j_istore (X : Kx g cI cS cc own Ts nL rm) {i : Nat} {x : Int32} (hdg : decode cc pc = .ok (.istore i, 2)) (hi : i < nL) (hl : lv.set i (some (.int x)) = lv') (k : J g Wf nL C (pc + 2) lv' st) (hnl : kNL lv i = true := by rfl) : J g Wf nL C pc lv (.int x :: st) := fun H locs ls hP hS h => lv_istore X.1 X.2.1 hdg h.has hi rfl (fun ls' h' => k H locs ls' hP hS (hl ▸ h.set hi rfl h' hnl))
theorem j_astore_n (X : Kx g cI cS cc own Ts nL rm) {i : Fin 4} {x : Nat} (hdg : decode cc pc = .ok (.astore_n i, 1)) (hi : (i : Nat) < nL) (hl : lv.set (i : Nat) (some (.ref x)) = lv') (k : J g Wf nL C (pc + 1) lv' st) (hnl : kNL lv (i : Nat) = true := by rfl) : J g Wf nL C pc lv (.ref x :: st) := fun H locs ls hP hS h => lv_astore_n X.1 X.2.1 hdg rfl h.has hi rfl (fun ls' h' => k H locs ls' hP hS (hl ▸ h.set hi rfl h' hnl))
theorem j_iinc (X : Kx g cI cS cc own Ts nL rm) {i : Nat} {n : Int} {x v : Int32} (hdg : decode cc pc = .ok (.iinc i n, 3)) (hx : lv[i]? = some (some (.int x))) (hv : x + Int32.ofInt n = v) (hi : i < nL) (hl : lv.set i (some (.int v)) = lv') (k : J g Wf nL C (pc + 3) lv' st) (hnl : kNL lv i = true := by rfl) : J g Wf nL C pc lv st := fun H locs ls hP hS h => by
  obtain ⟨j, hj⟩ := List.getElem?_of_mem (kPr_in lv 0 i _ hx)
  rw [Nat.zero_add] at hj
  exact lv_iinc X.1 X.2.1 hdg h.has hj hv hi rfl (fun ls' h' => k H locs ls' hP hS (hl ▸ h.set hi rfl h' hnl))
theorem j_iadd (X : Kx g cI cS cc own Ts nL rm) {x y : Int32} (hdg : decode cc pc = .ok (.iadd, 1)) (k : J g Wf nL C (pc + 1) lv (.int (x + y) :: st)) : J g Wf nL C pc lv (.int y :: .int x :: st) := fun H locs ls hP hS h => lv_iadd X.1 X.2.1 hdg (k H locs ls hP hS h)
theorem j_isub (X : Kx g cI cS cc own Ts nL rm) {x y : Int32} (hdg : decode cc pc = .ok (.isub, 1)) (k : J g Wf nL C (pc + 1) lv (.int (x - y) :: st)) : J g Wf nL C pc lv (.int y :: .int x :: st) := fun H locs ls hP hS h => lv_isub X.1 X.2.1 hdg (k H locs ls hP hS h)
theorem j_imul (X : Kx g cI cS cc own Ts nL rm) {x y : Int32} (hdg : decode cc pc = .ok (.imul, 1)) (k : J g Wf nL C (pc + 1) lv (.int (x * y) :: st)) : J g Wf nL C pc lv (.int y :: .int x :: st) := fun H locs ls hP hS h => lv_imul X.1 X.2.1 hdg (k H locs ls hP hS h)
theorem j_iand (X : Kx g cI cS cc own Ts nL rm) {x y : Int32} (hdg : decode cc pc = .ok (.iand, 1)) (k : J g Wf nL C (pc + 1) lv (.int (x &&& y) :: st)) : J g Wf nL C pc lv (.int y :: .int x :: st) := fun H locs ls hP hS h => lv_iand X.1 X.2.1 hdg (k H locs ls hP hS h)
theorem j_ior (X : Kx g cI cS cc own Ts nL rm) {x y : Int32} (hdg : decode cc pc = .ok (.ior, 1)) (k : J g Wf nL C (pc + 1) lv (.int (x ||| y) :: st)) : J g Wf nL C pc lv (.int y :: .int x :: st) := fun H locs ls hP hS h => lv_ior X.1 X.2.1 hdg (k H locs ls hP hS h)
theorem j_ishl (X : Kx g cI cS cc own Ts nL rm) {x y : Int32} (hdg : decode cc pc = .ok (.ishl, 1)) (k : J g Wf nL C (pc + 1) lv (.int (x <<< (y &&& 31)) :: st)) : J g Wf nL C pc lv (.int y :: .int x :: st) := fun H locs ls hP hS h => lv_ishl X.1 X.2.1 hdg (k H locs ls hP hS h)
theorem j_ishr (X : Kx g cI cS cc own Ts nL rm) {x y : Int32} (hdg : decode cc pc = .ok (.ishr, 1)) (k : J g Wf nL C (pc + 1) lv (.int (x >>> (y &&& 31)) :: st)) : J g Wf nL C pc lv (.int y :: .int x :: st) := fun H locs ls hP hS h => lv_ishr X.1 X.2.1 hdg (k H locs ls hP hS h)
theorem j_iushr (X : Kx g cI cS cc own Ts nL rm) {x y : Int32} (hdg : decode cc pc = .ok (.iushr, 1)) (k : J g Wf nL C (pc + 1) lv (.int ((x.toUInt32 >>> (y.toUInt32 &&& Int32.toUInt32 31)).toInt32) :: st)) : J g Wf nL C pc lv (.int y :: .int x :: st) := fun H locs ls hP hS h => lv_iushr X.1 X.2.1 hdg rfl (k H locs ls hP hS h)
theorem j_idiv (X : Kx g cI cS cc own Ts nL rm) {x y : Int32} (hdg : decode cc pc = .ok (.idiv, 1)) (hne : ¬ y = 0) (k : J g Wf nL C (pc + 1) lv (.int (x / y) :: st)) : J g Wf nL C pc lv (.int y :: .int x :: st) := fun H locs ls hP hS h => lv_idiv X.1 X.2.1 hdg hne (k H locs ls hP hS h)
theorem j_irem (X : Kx g cI cS cc own Ts nL rm) {x y : Int32} (hdg : decode cc pc = .ok (.irem, 1)) (hne : ¬ y = 0) (k : J g Wf nL C (pc + 1) lv (.int (x - x / y * y) :: st)) : J g Wf nL C pc lv (.int y :: .int x :: st) := fun H locs ls hP hS h => lv_irem X.1 X.2.1 hdg hne (k H locs ls hP hS h)
theorem j_dup (X : Kx g cI cS cc own Ts nL rm) {v : Value} (hdg : decode cc pc = .ok (.dup, 1)) (hv : v.category = 1) (k : J g Wf nL C (pc + 1) lv (v :: v :: st)) : J g Wf nL C pc lv (v :: st) := fun H locs ls hP hS h => lv_dup X.1 X.2.1 hdg hv (k H locs ls hP hS h)
theorem j_dup2 (X : Kx g cI cS cc own Ts nL rm) {v w : Value} (hdg : decode cc pc = .ok (.dup2, 1)) (hv : v.category = 1) (hw : w.category = 1) (k : J g Wf nL C (pc + 1) lv (v :: w :: v :: w :: st)) : J g Wf nL C pc lv (v :: w :: st) := fun H locs ls hP hS h => lv_dup2_11 X.1 X.2.1 hdg hv hw (k H locs ls hP hS h)
theorem j_goto (X : Kx g cI cS cc own Ts nL rm) {off : Int} {tgt : Nat} (hdg : decode cc pc = .ok (.goto off, 3)) (ht : (pc : Int) + off = (tgt : Int)) (k : J g Wf nL C tgt lv st) : J g Wf nL C pc lv st := fun H locs ls hP hS h => lv_goto X.1 X.2.1 hdg ht (k H locs ls hP hS h)
theorem j_if_eq (X : Kx g cI cS cc own Ts nL rm) {x : Int32} {off : Int} {tgt : Nat} (hdg : decode cc pc = .ok (.ifCond .eq off, 3)) (ht : (pc : Int) + off = (tgt : Int)) (kt : x = 0 → J g Wf nL C tgt lv st) (kf : ¬ x = 0 → J g Wf nL C (pc + 3) lv st) : J g Wf nL C pc lv (.int x :: st) := fun H locs ls hP hS h => lv_if_eq X.1 X.2.1 hdg ht (fun q => kt q H locs ls hP hS h) (fun q => kf q H locs ls hP hS h)
theorem j_icmp_eq (X : Kx g cI cS cc own Ts nL rm) {x y : Int32} {off : Int} {tgt : Nat} (hdg : decode cc pc = .ok (.if_icmp .eq off, 3)) (ht : (pc : Int) + off = (tgt : Int)) (kt : x = y → J g Wf nL C tgt lv st) (kf : ¬ x = y → J g Wf nL C (pc + 3) lv st) : J g Wf nL C pc lv (.int y :: .int x :: st) := fun H locs ls hP hS h => lv_icmp_eq X.1 X.2.1 hdg ht (fun q => kt q H locs ls hP hS h) (fun q => kf q H locs ls hP hS h)
theorem j_if_ne (X : Kx g cI cS cc own Ts nL rm) {x : Int32} {off : Int} {tgt : Nat} (hdg : decode cc pc = .ok (.ifCond .ne off, 3)) (ht : (pc : Int) + off = (tgt : Int)) (kt : ¬ x = 0 → J g Wf nL C tgt lv st) (kf : x = 0 → J g Wf nL C (pc + 3) lv st) : J g Wf nL C pc lv (.int x :: st) := fun H locs ls hP hS h => lv_if_ne X.1 X.2.1 hdg ht (fun q => kt q H locs ls hP hS h) (fun q => kf q H locs ls hP hS h)
theorem j_icmp_ne (X : Kx g cI cS cc own Ts nL rm) {x y : Int32} {off : Int} {tgt : Nat} (hdg : decode cc pc = .ok (.if_icmp .ne off, 3)) (ht : (pc : Int) + off = (tgt : Int)) (kt : ¬ x = y → J g Wf nL C tgt lv st) (kf : x = y → J g Wf nL C (pc + 3) lv st) : J g Wf nL C pc lv (.int y :: .int x :: st) := fun H locs ls hP hS h => lv_icmp_ne X.1 X.2.1 hdg ht (fun q => kt q H locs ls hP hS h) (fun q => kf q H locs ls hP hS h)
theorem j_if_lt (X : Kx g cI cS cc own Ts nL rm) {x : Int32} {off : Int} {tgt : Nat} (hdg : decode cc pc = .ok (.ifCond .lt off, 3)) (ht : (pc : Int) + off = (tgt : Int)) (kt : x < 0 → J g Wf nL C tgt lv st) (kf : ¬ x < 0 → J g Wf nL C (pc + 3) lv st) : J g Wf nL C pc lv (.int x :: st) := fun H locs ls hP hS h => lv_if_lt X.1 X.2.1 hdg ht (fun q => kt q H locs ls hP hS h) (fun q => kf q H locs ls hP hS h)
theorem j_icmp_lt (X : Kx g cI cS cc own Ts nL rm) {x y : Int32} {off : Int} {tgt : Nat} (hdg : decode cc pc = .ok (.if_icmp .lt off, 3)) (ht : (pc : Int) + off = (tgt : Int)) (kt : x < y → J g Wf nL C tgt lv st) (kf : ¬ x < y → J g Wf nL C (pc + 3) lv st) : J g Wf nL C pc lv (.int y :: .int x :: st) := fun H locs ls hP hS h => lv_icmp_lt X.1 X.2.1 hdg ht (fun q => kt q H locs ls hP hS h) (fun q => kf q H locs ls hP hS h)
theorem j_if_ge (X : Kx g cI cS cc own Ts nL rm) {x : Int32} {off : Int} {tgt : Nat} (hdg : decode cc pc = .ok (.ifCond .ge off, 3)) (ht : (pc : Int) + off = (tgt : Int)) (kt : 0 ≤ x → J g Wf nL C tgt lv st) (kf : ¬ 0 ≤ x → J g Wf nL C (pc + 3) lv st) : J g Wf nL C pc lv (.int x :: st) := fun H locs ls hP hS h => lv_if_ge X.1 X.2.1 hdg ht (fun q => kt q H locs ls hP hS h) (fun q => kf q H locs ls hP hS h)
theorem j_icmp_ge (X : Kx g cI cS cc own Ts nL rm) {x y : Int32} {off : Int} {tgt : Nat} (hdg : decode cc pc = .ok (.if_icmp .ge off, 3)) (ht : (pc : Int) + off = (tgt : Int)) (kt : y ≤ x → J g Wf nL C tgt lv st) (kf : ¬ y ≤ x → J g Wf nL C (pc + 3) lv st) : J g Wf nL C pc lv (.int y :: .int x :: st) := fun H locs ls hP hS h => lv_icmp_ge X.1 X.2.1 hdg ht (fun q => kt q H locs ls hP hS h) (fun q => kf q H locs ls hP hS h)
theorem j_if_gt (X : Kx g cI cS cc own Ts nL rm) {x : Int32} {off : Int} {tgt : Nat} (hdg : decode cc pc = .ok (.ifCond .gt off, 3)) (ht : (pc : Int) + off = (tgt : Int)) (kt : 0 < x → J g Wf nL C tgt lv st) (kf : ¬ 0 < x → J g Wf nL C (pc + 3) lv st) : J g Wf nL C pc lv (.int x :: st) := fun H locs ls hP hS h => lv_if_gt X.1 X.2.1 hdg ht (fun q => kt q H locs ls hP hS h) (fun q => kf q H locs ls hP hS h)
theorem j_icmp_gt (X : Kx g cI cS cc own Ts nL rm) {x y : Int32} {off : Int} {tgt : Nat} (hdg : decode cc pc = .ok (.if_icmp .gt off, 3)) (ht : (pc : Int) + off = (tgt : Int)) (kt : y < x → J g Wf nL C tgt lv st) (kf : ¬ y < x → J g Wf nL C (pc + 3) lv st) : J g Wf nL C pc lv (.int y :: .int x :: st) := fun H locs ls hP hS h => lv_icmp_gt X.1 X.2.1 hdg ht (fun q => kt q H locs ls hP hS h) (fun q => kf q H locs ls hP hS h)
theorem j_if_le (X : Kx g cI cS cc own Ts nL rm) {x : Int32} {off : Int} {tgt : Nat} (hdg : decode cc pc = .ok (.ifCond .le off, 3)) (ht : (pc : Int) + off = (tgt : Int)) (kt : x ≤ 0 → J g Wf nL C tgt lv st) (kf : ¬ x ≤ 0 → J g Wf nL C (pc + 3) lv st) : J g Wf nL C pc lv (.int x :: st) := fun H locs ls hP hS h => lv_if_le X.1 X.2.1 hdg ht (fun q => kt q H locs ls hP hS h) (fun q => kf q H locs ls hP hS h)
theorem j_icmp_le (X : Kx g cI cS cc own Ts nL rm) {x y : Int32} {off : Int} {tgt : Nat} (hdg : decode cc pc = .ok (.if_icmp .le off, 3)) (ht : (pc : Int) + off = (tgt : Int)) (kt : x ≤ y → J g Wf nL C tgt lv st) (kf : ¬ x ≤ y → J g Wf nL C (pc + 3) lv st) : J g Wf nL C pc lv (.int y :: .int x :: st) := fun H locs ls hP hS h => lv_icmp_le X.1 X.2.1 hdg ht (fun q => kt q H locs ls hP hS h) (fun q => kf q H locs ls hP hS h)
theorem j_tabIn (X : Kx g cI cS cc own Ts nL rm) {dflt lo hi : Int} {offs : Array Int} {len : Nat} {x v : Int32} {off : Int} {tgt : Nat} (hdg : decode cc pc = .ok (.tableswitch dflt lo hi offs, len)) (hx : x = v) (h1 : ¬ v.toInt < lo) (h2 : ¬ hi < v.toInt) (ho : offs[(v.toInt - lo).toNat]? = some off) (ht : (pc : Int) + off = (tgt : Int)) (k : J g Wf nL C tgt lv st) : J g Wf nL C pc lv (.int x :: st) := fun H locs ls hP hS h => by
  subst hx
  exact lv_tableIn X.1 X.2.1 hdg h1 h2 ho ht (k H locs ls hP hS h)
theorem j_tabOut (X : Kx g cI cS cc own Ts nL rm) {dflt lo hi : Int} {offs : Array Int} {len : Nat} {x : Int32} {tgt : Nat} (hdg : decode cc pc = .ok (.tableswitch dflt lo hi offs, len)) (h : x.toInt < lo ∨ hi < x.toInt) (ht : (pc : Int) + dflt = (tgt : Int)) (k : J g Wf nL C tgt lv st) : J g Wf nL C pc lv (.int x :: st) := fun H locs ls hP hS hl => lv_tableOut X.1 X.2.1 hdg h ht (k H locs ls hP hS hl)
theorem j_get (X : Kx g cI cS cc own Ts nL rm) {Cn : String} {T : u_T} {N ci index : Nat} (hin : ∀ w ∈ u_ws Cn T N, w ∈ Ts) {b q0 : Nat} {fs : List Value} (he : (Wf C)[q0]? = some (b, .inr (ci, fs))) (hc : vwCl[ci]? = some (Cn, T, N)) (k : Nat) (hk : k < N) (hlk : Cond.fieldLink own index (T k).1 (T k).2.1 (T k).2.2.1 ∈ Ts) {v : Value} (hv : fs[k]? = some v) (hdg : decode cc pc = .ok (.getfield index, 3)) (kk : J g Wf nL C (pc + 3) lv (v :: st)) : J g Wf nL C pc lv (.ref b :: st) := fun H locs ls hP hS h => va_get X.1 X.2.1 X.2.2.2.2.1 hin X.2.2.2.1 X.2.2.2.2.2.1.1 hP q0 he hc k hk (X.2.2.2.2.1 _ hlk) (fun _ h9 => h9) hv hdg (kk H locs ls hP hS h)
theorem j_getN (X : Kx g cI cS cc own Ts nL rm) {Cn : String} {T : u_T} {N ci index : Nat} (hin : ∀ w ∈ u_ws Cn T N, w ∈ Ts) {b q0 : Nat} {fs : List Value} (he : (Wf C)[q0]? = some (b, .inr (ci, fs))) (hc : vwCl[ci]? = some (Cn, T, N)) (k : Nat) (hk : k < N) (hlk : (own, index, (T k).1, (T k).2.1, (T k).2.2.1) ∈ kNF) {v : Value} (hv : fs[k]? = some v) (hdg : decode cc pc = .ok (.getfield index, 3)) (kk : J g Wf nL C (pc + 3) lv (v :: st)) : J g Wf nL C pc lv (.ref b :: st) := fun H locs ls hP hS h => va_getN X.1 X.2.1 X.2.2.2.2.1 hin X.2.2.2.1 X.2.2.2.2.2.1.1 hP q0 he hc k hk (va_Nw.use rfl (X.2.2.2.2.2.1.2.1 _ hlk)) (fun _ h9 => h9) hv hdg (kk H locs ls hP hS h)
theorem j_put (X : Kx g cI cS cc own Ts nL rm) (Y : Kw g Wf A) {Cn : String} {T : u_T} {N ci index : Nat} (hin : ∀ w ∈ u_ws Cn T N, w ∈ Ts) (ty0 : Nat → FieldType) (hty : ∀ k, k < N → parseFieldDescriptor (T k).2.2.1 = some (ty0 k)) (hnm : ∀ a, a < N → ∀ b, b < N → a ≠ b → (T a).2.1 ≠ (T b).2.1) {b q0 : Nat} {fs : List Value} (he : (Wf C)[q0]? = some (b, .inr (ci, fs))) (hc : vwCl[ci]? = some (Cn, T, N)) (k : Nat) (hk : k < N) (hlk : Cond.fieldLink own index (T k).1 (T k).2.1 (T k).2.2.1 ∈ Ts) (hfin : (T k).2.2.2 = false) {v : Int32} (hd : parseFieldDescriptor (T k).2.2.1 = some .int) (hl : k < fs.length) (hdg : decode cc pc = .ok (.putfield index, 3)) (hset : (Wf C).set q0 (b, .inr (ci, fs.set k (.int v))) = Wf C') (kk : J g Wf nL C' (pc + 3) lv st) : J g Wf nL C pc lv (.int v :: .ref b :: st) := fun H locs ls hP hS h =>
  va_put X.1 X.2.1 X.2.2.2.2.1 hin ty0 hty hnm X.2.2.2.1 X.2.2.2.2.2.1.1 hP (Y.2 C) (Eq.mp (congrFun (congrFun Y.1 H) locs) hS) q0 he hc k hk (X.2.2.2.2.1 _ hlk) (fun _ h9 => h9) hfin hd rfl rfl hl hdg (fun H1 locs1 hP1 _ hS1 => kk H1 locs1 ls (by rw [← hset]; exact hP1) (Eq.mpr (congrFun (congrFun Y.1 H1) locs1) hS1) h)
theorem j_alen (X : Kx g cI cS cc own Ts nL rm) {b q0 : Nat} {cA : ClassId} {y : vp_A} (ha : (Wf C)[q0]? = some (b, .inl (cA, y))) (t0 : Nat) {ty : FieldType} (ht : (kTy cI cS)[t0]? = some (cA, ty)) {v : Int32} (hv : Int32.ofNat y.1 = v) (hdg : decode cc pc = .ok (.arraylength, 1)) (kk : J g Wf nL C (pc + 1) lv (.int v :: st)) : J g Wf nL C pc lv (.ref b :: st) := fun H locs ls hP hS h => va_alen X.1 X.2.1 X.2.2.2.2.2.1.1 hP q0 t0 ha ht hv hdg (kk H locs ls hP hS h)
theorem j_iald (X : Kx g cI cS cc own Ts nL rm) {b q0 n : Nat} {f : Nat → Int32} (ha : (Wf C)[q0]? = some (b, .inl (cI, n, .inl f))) {i : Int32} (hin : vp_in i n) (hdg : decode cc pc = .ok (.iaload, 1)) (kk : J g Wf nL C (pc + 1) lv (.int (f i.toNatClampNeg) :: st)) : J g Wf nL C pc lv (.int i :: .ref b :: st) := fun H locs ls hP hS h => va_iald X.1 X.2.1 X.2.2.2.2.2.1.1 hP q0 0 ha rfl hin hdg (kk H locs ls hP hS h)
theorem j_iast (X : Kx g cI cS cc own Ts nL rm) (Y : Kw g Wf A) {b q0 n : Nat} {f : Nat → Int32} (ha : (Wf C)[q0]? = some (b, .inl (cI, n, .inl f))) {i x : Int32} (hin : vp_in i n) (hdg : decode cc pc = .ok (.iastore, 1)) (hset : (Wf C).set q0 (b, .inl (cI, n, .inl (upd f i.toNatClampNeg x))) = Wf C') (kk : J g Wf nL C' (pc + 1) lv st) : J g Wf nL C pc lv (.int x :: .int i :: .ref b :: st) := fun H locs ls hP hS h =>
  va_iast X.1 X.2.1 X.2.2.2.2.2.1.1 hP (Y.2 C) (Eq.mp (congrFun (congrFun Y.1 H) locs) hS) q0 0 ha rfl hin hdg (fun H1 locs1 hP1 _ hS1 => kk H1 locs1 ls (by rw [← hset]; exact hP1) (Eq.mpr (congrFun (congrFun Y.1 H1) locs1) hS1) h)
theorem j_aald (X : Kx g cI cS cc own Ts nL rm) {b q0 n v : Nat} {f : Nat → Option Nat} (ha : (Wf C)[q0]? = some (b, .inl (cS, n, .inr (.inr (.inr (.inr f)))))) {i : Int32} (hin : vp_in i n) (hv : f i.toNatClampNeg = some v) (hdg : decode cc pc = .ok (.aaload, 1)) (kk : J g Wf nL C (pc + 1) lv (.ref v :: st)) : J g Wf nL C pc lv (.int i :: .ref b :: st) := fun H locs ls hP hS h => va_aldq X.1 X.2.1 X.2.2.2.2.2.1.1 hP q0 1 ha rfl hin hdg (by rw [hv]; exact kk H locs ls hP hS h)
theorem j_aast (X : Kx g cI cS cc own Ts nL rm) (Y : Kw g Wf A) {b q0 n qk v : Nat} {vs : List Value} {f : Nat → Option Nat} (ha : (Wf C)[q0]? = some (b, .inl (cS, n, .inr (.inr (.inr (.inr f)))))) (hv : (Wf C)[qk]? = some (v, .inr (5, vs))) {i : Int32} (hin : vp_in i n) (hdg : decode cc pc = .ok (.aastore, 1)) (hset : (Wf C).set q0 (b, .inl (cS, n, .inr (.inr (.inr (.inr (va_up f i.toNatClampNeg (some v))))))) = Wf C') (kk : J g Wf nL C' (pc + 1) lv st) : J g Wf nL C pc lv (.ref v :: .int i :: .ref b :: st) := fun H locs ls hP hS h =>
  va_astq X.1 X.2.1 X.2.2.2.2.2.1.1 hP (Y.2 C) (Eq.mp (congrFun (congrFun Y.1 H) locs) hS) q0 1 qk 5 (r := (RX5, TX5, 5)) ha rfl hv rfl hin hdg (fun H1 locs1 hP1 _ hS1 => kk H1 locs1 ls (by rw [← hset]; exact hP1) (Eq.mpr (congrFun (congrFun Y.1 H1) locs1) hS1) h)
theorem j_nonnull (X : Kx g cI cS cc own Ts nL rm) {x : Nat} {off : Int} (hdg : decode cc pc = .ok (.ifnull off, 3)) (k : J g Wf nL C (pc + 3) lv st) : J g Wf nL C pc lv (.ref x :: st) := fun H locs ls hP hS h => lv_ifnull X.1 X.2.1 hdg (k H locs ls hP hS h)
theorem j_null (X : Kx g cI cS cc own Ts nL rm) {off : Int} {tgt : Nat} (hdg : decode cc pc = .ok (.ifnull off, 3)) (ht : (pc : Int) + off = (tgt : Int)) (k : J g Wf nL C tgt lv st) : J g Wf nL C pc lv (.null :: st) := fun H locs ls hP hS h => lv_ifnullN X.1 X.2.1 hdg ht (k H locs ls hP hS h)
theorem j_copyi (X : Kx g cI cS cc own Ts nL rm) (Y : Kw g Wf A) {index : Nat} (hlk : Cond.methodLink own index arraycopyName ∈ Ts) (hnat : Cond.native arraycopyName ∈ Ts) (hstat : Cond.static arraycopyName ∈ Ts) (hini : Cond.initialized "java/lang/System" ∈ Ts) {b0 b q0 q1 n0 n1 : Nat} {f f1 : Nat → Int32} (ha0 : (Wf C)[q0]? = some (b0, .inl (cI, n0, .inl f))) (ha1 : (Wf C)[q1]? = some (b, .inl (cI, n1, .inl f1))) {n : Int32} (h3 : ¬ n < 0) (h4 : n.toNatClampNeg ≤ n0) (h5 : n.toNatClampNeg ≤ n1) (hfr : 1 ≤ rm.frames) (hlo : (st.map fun v => v.category).sum + (nativeFrameWords "java/lang/System" "arraycopy" 5 + 11) ≤ rm.locals) (hdg : decode cc pc = .ok (.invokestatic index, 3)) (hset : (Wf C).set q1 (b, .inl (cI, n1, .inl (va_cpy f f1 0 0 n.toNatClampNeg))) = Wf C') (kk : J g Wf nL C' (pc + 3) lv st) : J g Wf nL C pc lv (.int n :: .int 0 :: .ref b :: .int 0 :: .ref b0 :: st) := fun H locs ls hP hS h =>
  va_copyi X.1 X.2.1 (X.2.2.1.trans h.2.1.symm) X.2.2.2.1 (X.2.2.2.2.1 _ hlk) (X.2.2.2.2.1 _ hnat) (X.2.2.2.2.1 _ hstat) (X.2.2.2.2.1 _ hini) X.2.2.2.2.2.1.1 hP (Y.2 C) (Eq.mp (congrFun (congrFun Y.1 H) locs) hS) q0 q1 0 0 (ty := .int) ha0 ha1 rfl rfl rfl (sp := 0) (dp := 0) (by decide) (by decide) h3 (by rw [show (0 : Int32).toNatClampNeg = 0 from by decide, Nat.zero_add]; exact h4) (by rw [show (0 : Int32).toNatClampNeg = 0 from by decide, Nat.zero_add]; exact h5) (fun _ _ => rfl) (by rw [X.2.2.2.2.2.2.1]; exact hfr) (by rw [X.2.2.2.2.2.2.1]; exact hlo) hdg (fun H1 locs1 hP1 _ hS1 => kk H1 locs1 ls (by rw [← hset]; exact hP1) (Eq.mpr (congrFun (congrFun Y.1 H1) locs1) hS1) h)
theorem j_mmax (X : Kx g cI cS cc own Ts nL rm) {index : Nat} (hlk : Cond.methodLink own index Lib.Math.max.name ∈ Ts) (hstat : Cond.static Lib.Math.max.name ∈ Ts) (hini : Cond.initialized "java/lang/Math" ∈ Ts) (hcode : Cond.code Lib.Math.max.name Lib.Math.max.code 2 (some .int) ∈ Ts) (hfr : 1 ≤ rm.frames) (hlo : (st.map fun v => v.category).sum + 13 ≤ rm.locals) {x y : Int32} (hdg : decode cc pc = .ok (.invokestatic index, 3)) (kk : J g Wf nL C (pc + 3) lv (.int (if x < y then y else x) :: st)) : J g Wf nL C pc lv (.int y :: .int x :: st) := fun H locs ls hP hS h =>
  va_mmax X.1 X.2.1 (X.2.2.1.trans h.2.1.symm) X.2.2.2.1 (X.2.2.2.2.1 _ hlk) (X.2.2.2.2.1 _ hstat) (X.2.2.2.2.1 _ hini) (X.2.2.2.2.1 _ hcode) (by rw [X.2.2.2.2.2.2.1]; exact hfr) (by rw [X.2.2.2.2.2.2.1]; exact hlo) (by rw [X.2.2.2.2.2.2.1]; exact X.2.2.2.2.2.2.2.1) (by rw [X.2.2.2.2.2.2.1]; exact X.2.2.2.2.2.2.2.2) hdg (kk H locs ls hP hS h)
theorem j_mmin (X : Kx g cI cS cc own Ts nL rm) {index : Nat} (hlk : Cond.methodLink own index Lib.Math.min.name ∈ Ts) (hstat : Cond.static Lib.Math.min.name ∈ Ts) (hini : Cond.initialized "java/lang/Math" ∈ Ts) (hcode : Cond.code Lib.Math.min.name Lib.Math.min.code 2 (some .int) ∈ Ts) (hfr : 1 ≤ rm.frames) (hlo : (st.map fun v => v.category).sum + 13 ≤ rm.locals) {x y : Int32} (hdg : decode cc pc = .ok (.invokestatic index, 3)) (kk : J g Wf nL C (pc + 3) lv (.int (if y < x then y else x) :: st)) : J g Wf nL C pc lv (.int y :: .int x :: st) := fun H locs ls hP hS h =>
  va_mmin X.1 X.2.1 (X.2.2.1.trans h.2.1.symm) X.2.2.2.1 (X.2.2.2.2.1 _ hlk) (X.2.2.2.2.1 _ hstat) (X.2.2.2.2.1 _ hini) (X.2.2.2.2.1 _ hcode) (by rw [X.2.2.2.2.2.2.1]; exact hfr) (by rw [X.2.2.2.2.2.2.1]; exact hlo) (by rw [X.2.2.2.2.2.2.1]; exact X.2.2.2.2.2.2.2.1) (by rw [X.2.2.2.2.2.2.1]; exact X.2.2.2.2.2.2.2.2) hdg (kk H locs ls hP hS h)
theorem j_ldcw (X : Kx g cI cS cc own Ts nL rm) {index : Nat} {v : Int32} (hlk : Cond.constant own index v ∈ Ts) (hdg : decode cc pc = .ok (.ldc_w index, 3)) (kk : J g Wf nL C (pc + 3) lv (.int v :: st)) : J g Wf nL C pc lv st := fun H locs ls hP hS h => lv_ldcw X.1 X.2.1 X.2.2.2.1 (X.2.2.2.2.1 _ hlk) hdg (kk H locs ls hP hS h)
end KJ
/-! contracts: a reader that answers an int; a writer; a writer that answers an int; a static function -/
def kPc (D : va_G) (cI cS : ClassId) (Wf : kS → va_W) (C : kS) (av : List Value) : Array Value → State → Prop := va_Pc av (fun U => va_P D vwCl (Wf C) U.heap ∧ kK D cI cS U)
def kPp (D : va_G) (cI cS : ClassId) (av : List Value) : Array Value → State → Prop := va_Pc av (fun U => kK D cI cS U)
def mI (l : Launch) (y : MethodName) (ws : List Cond) (rm : Room) (D : va_G) (cI cS : ClassId) (Wf : kS → va_W) (C : kS) (av : List Value) (r : Int32) : Prop := Met l y ws rm (kPc D cI cS Wf C av) (vp_Si (fun x => x = r)) 0 0 (fun _ => False)
def mV (l : Launch) (y : MethodName) (ws : List Cond) (rm : Room) (D : va_G) (cI cS : ClassId) (Wf : kS → va_W) (A : Nat → Prop) (C : kS) (av : List Value) (C' : kS) : Prop := Met l y ws rm (kPc D cI cS Wf C av) (va_Qv (fun _ : Unit => True) (fun _ t => va_P D vwCl (Wf C') t.heap) A) 0 0 A
def mW (l : Launch) (y : MethodName) (ws : List Cond) (rm : Room) (D : va_G) (cI cS : ClassId) (Wf : kS → va_W) (A : Nat → Prop) (C : kS) (av : List Value) (r : Int32) (C' : kS) : Prop := Met l y ws rm (kPc D cI cS Wf C av) (va_Qi (fun x (_ : Unit) => x = r) (fun _ t => va_P D vwCl (Wf C') t.heap) A) 0 0 A
def mP (l : Launch) (y : MethodName) (ws : List Cond) (rm : Room) (D : va_G) (cI cS : ClassId) (av : List Value) (r : Int32) : Prop := Met l y ws rm (kPp D cI cS av) (vp_Si (fun x => x = r)) 0 0 (fun _ => False)
abbrev kHd (y : MethodName) (n : Nat) : Prop := y.cls ≠ "java/lang/invoke/MethodHandle" ∧ y.cls ≠ "java/lang/invoke/VarHandle" ∧ (parseMethodDescriptor y.desc).map (fun d => d.parameters.length) = some n
abbrev kRm (rmc rm : Room) (maxL : Nat) : Prop := rmc.frames + 1 ≤ rm.frames ∧ 8 + (maxL + 11) + rmc.locals ≤ rm.locals
section KC
variable {g : kG} {cI cS : ClassId} {cc : ByteArray} {own : String} {Ts : List Cond} {nL : Nat} {rm : Room} {Wf : kS → va_W} {C C' : kS} {pc : Nat} {lv lv' : List (Option Value)} {st st0 : List Value} {A : Nat → Prop}
variable {y : MethodName} {wsc wsc' : List Cond} {rmc : Room} {bytes : ByteArray} {maxL index : Nat} {ret : Option FieldType} {As : List Value} {b : Nat} {r : Int32} {Cn : String}
theorem j_callI (X : Kx g cI cS cc own Ts nL rm) (hM : mI g.1.2.1 y wsc rmc g.2.2.2.1 cI cS Wf C (.ref b :: As) r) (hG : GoodIn Ts (wsV own index Cn y wsc)) (hw : wsc = Cond.code y bytes maxL ret :: wsc') (h0 : rmc.cells = 0 ∧ rmc.slots = 0) {n : Nat} (hC : y.cls = Cn) (hd : kHd y n) (hR : kRm rmc rm maxL) {q0 ci : Nat} {fs : List Value} {qq : vw_C} (he : (Wf C)[q0]? = some (b, .inr (ci, fs))) (hci : vwCl[ci]? = some qq) (hqn : qq.1 = Cn) (hn : As.length = n) (hsum : (st.map fun v => v.category).sum ≤ 8) (hst : st0 = As.reverse ++ .ref b :: st) (hdg : decode cc pc = .ok (.invokevirtual index, 3)) (kk : J g Wf nL C (pc + 3) lv (.int r :: st)) : J g Wf nL C pc lv st0 := by
  intro H locs ls hP hS hl
  subst hst
  have hk := X.2.2.2.2.2.1
  refine vp_callSi (W.runV (As := As) (rest := st) (nL := nL) ⟨X.1, X.2.1, X.2.2.1, X.2.2.2.1, X.2.2.2.2.1⟩ hM (cwV n X.2.2.2.2.1 hG hw h0.1 h0.2 ⟨hC, hd⟩ (by rw [X.2.2.2.2.2.2.1]; exact hR)) ⟨fun a U f mk q => ⟨q.1, q.2.1, q.2.2.blind⟩, ?_, fun U hU hW => ⟨rfl, by rw [hU]; exact hP, hk.warm hW⟩⟩ rfl hn hl.2.1 rfl (lv_room hsum) hdg ⟨by rw [X.2.2.2.2.2.2.1]; exact X.2.2.2.2.2.2.2.1, by rw [X.2.2.2.2.2.2.1]; exact X.2.2.2.2.2.2.2.2⟩) (fun r' hr' => ?_)
  · obtain ⟨cell, a1, a2, a3⟩ := va_recv hk.1 hP hci he
    exact ⟨cell, a1, a2, hqn ▸ a3⟩
  · subst hr'
    exact kk H locs ls hP hS hl
theorem j_callV (X : Kx g cI cS cc own Ts nL rm) (Y : Kw g Wf A) (hM : mV g.1.2.1 y wsc rmc g.2.2.2.1 cI cS Wf A C (.ref b :: As) C') (hG : GoodIn Ts (wsV own index Cn y wsc)) (hw : wsc = Cond.code y bytes maxL ret :: wsc') (h0 : rmc.cells = 0 ∧ rmc.slots = 0) {n : Nat} (hC : y.cls = Cn) (hd : kHd y n) (hR : kRm rmc rm maxL) {q0 ci : Nat} {fs : List Value} {qq : vw_C} (he : (Wf C)[q0]? = some (b, .inr (ci, fs))) (hci : vwCl[ci]? = some qq) (hqn : qq.1 = Cn) (hn : As.length = n) (hsum : (st.map fun v => v.category).sum ≤ 8) (hst : st0 = As.reverse ++ .ref b :: st) (hdg : decode cc pc = .ok (.invokevirtual index, 3)) (kk : J g Wf nL C' (pc + 3) lv st) : J g Wf nL C pc lv st0 := by
  intro H locs ls hP hS hl
  subst hst
  have hk := X.2.2.2.2.2.1
  refine va_callv (va_runV (As := As) (rest := st) (nL := nL) ⟨X.1, X.2.1, X.2.2.1, X.2.2.2.1, X.2.2.2.2.1⟩ hM (cwV n X.2.2.2.2.1 hG hw h0.1 h0.2 ⟨hC, hd⟩ (by rw [X.2.2.2.2.2.2.1]; exact hR)) ⟨fun a U f mk q => ⟨q.1, q.2.1, q.2.2.blind⟩, ?_, fun U hU hW => ⟨rfl, by rw [hU]; exact hP, hk.warm hW⟩⟩ rfl hn hl.2.1 rfl (lv_room hsum) hdg ⟨by rw [X.2.2.2.2.2.2.1]; exact X.2.2.2.2.2.2.2.1, by rw [X.2.2.2.2.2.2.1]; exact X.2.2.2.2.2.2.2.2⟩) (Eq.mp (congrFun (congrFun Y.1 H) locs) hS) (fun _ _ h => h) (fun _ h => h) (fun u t H1 locs1 ht hvm hw hB hz hk1 hS1 => ?_)
  · obtain ⟨cell, a1, a2, a3⟩ := va_recv hk.1 hP hci he
    exact ⟨cell, a1, a2, hqn ▸ a3⟩
  · exact kk H1 locs1 ls (by rw [← ht]; exact hB) (Eq.mpr (congrFun (congrFun Y.1 H1) locs1) hS1) hl
theorem j_callW (X : Kx g cI cS cc own Ts nL rm) (Y : Kw g Wf A) (hM : mW g.1.2.1 y wsc rmc g.2.2.2.1 cI cS Wf A C (.ref b :: As) r C') (hG : GoodIn Ts (wsV own index Cn y wsc)) (hw : wsc = Cond.code y bytes maxL ret :: wsc') (h0 : rmc.cells = 0 ∧ rmc.slots = 0) {n : Nat} (hC : y.cls = Cn) (hd : kHd y n) (hR : kRm rmc rm maxL) {q0 ci : Nat} {fs : List Value} {qq : vw_C} (he : (Wf C)[q0]? = some (b, .inr (ci, fs))) (hci : vwCl[ci]? = some qq) (hqn : qq.1 = Cn) (hn : As.length = n) (hsum : (st.map fun v => v.category).sum ≤ 8) (hst : st0 = As.reverse ++ .ref b :: st) (hdg : decode cc pc = .ok (.invokevirtual index, 3)) (kk : J g Wf nL C' (pc + 3) lv (.int r :: st)) : J g Wf nL C pc lv st0 := by
  intro H locs ls hP hS hl
  subst hst
  have hk := X.2.2.2.2.2.1
  refine va_calli (va_runV (As := As) (rest := st) (nL := nL) ⟨X.1, X.2.1, X.2.2.1, X.2.2.2.1, X.2.2.2.2.1⟩ hM (cwV n X.2.2.2.2.1 hG hw h0.1 h0.2 ⟨hC, hd⟩ (by rw [X.2.2.2.2.2.2.1]; exact hR)) ⟨fun a U f mk q => ⟨q.1, q.2.1, q.2.2.blind⟩, ?_, fun U hU hW => ⟨rfl, by rw [hU]; exact hP, hk.warm hW⟩⟩ rfl hn hl.2.1 rfl (lv_room hsum) hdg ⟨by rw [X.2.2.2.2.2.2.1]; exact X.2.2.2.2.2.2.2.1, by rw [X.2.2.2.2.2.2.1]; exact X.2.2.2.2.2.2.2.2⟩) (Eq.mp (congrFun (congrFun Y.1 H) locs) hS) (fun _ _ h => h) (fun _ h => h) (fun r' u t H1 locs1 ht hvm hw hB hz hk1 hS1 => ?_)
  · obtain ⟨cell, a1, a2, a3⟩ := va_recv hk.1 hP hci he
    exact ⟨cell, a1, a2, hqn ▸ a3⟩
  · have hw : r' = r := hw
    subst hw
    exact kk H1 locs1 ls (by rw [← ht]; exact hB) (Eq.mpr (congrFun (congrFun Y.1 H1) locs1) hS1) hl
theorem j_callP (X : Kx g cI cS cc own Ts nL rm) (hM : mP g.1.2.1 y wsc rmc g.2.2.2.1 cI cS As r) (hG : GoodIn Ts (va_wsS own index y wsc)) (hw : wsc = Cond.code y bytes maxL ret :: wsc') (h0 : rmc.cells = 0 ∧ rmc.slots = 0) {n : Nat} (hd : kHd y n) (hR : kRm rmc rm maxL) (hn : As.length = n) (hsum : (st.map fun v => v.category).sum ≤ 8) (hst : st0 = As.reverse ++ st) (hdg : decode cc pc = .ok (.invokestatic index, 3)) (kk : J g Wf nL C (pc + 3) lv (.int r :: st)) : J g Wf nL C pc lv st0 := by
  intro H locs ls hP hS hl
  subst hst
  have hk := X.2.2.2.2.2.1
  refine vp_callSi (W.runS (As := As) (rest := st) (nL := nL) ⟨X.1, X.2.1, X.2.2.1, X.2.2.2.1, X.2.2.2.2.1⟩ hM (va_cwS n X.2.2.2.2.1 hG hw h0.1 h0.2 hd (by rw [X.2.2.2.2.2.2.1]; exact hR)) ⟨fun a U f mk q => ⟨q.1, q.2.blind⟩, fun U hU hW => ⟨rfl, hk.warm hW⟩⟩ rfl hn hl.2.1 rfl (lv_room hsum) hdg ⟨by rw [X.2.2.2.2.2.2.1]; exact X.2.2.2.2.2.2.2.1, by rw [X.2.2.2.2.2.2.1]; exact X.2.2.2.2.2.2.2.2⟩) (fun r' hr' => ?_)
  subst hr'
  exact kk H locs ls hP hS hl
theorem j_callN (X : Kx g cI cS cc own Ts nL rm) (hM : mP g.1.2.1 y wsc rmc g.2.2.2.1 cI cS As r) (hG : GoodIn Ts wsc) (hw : wsc = Cond.code y bytes maxL ret :: wsc') (h0 : rmc.cells = 0 ∧ rmc.slots = 0) {n : Nat} {host : String} (hl0 : va_Nw (.methodLinkNest own index y host) g.1.2.2.2.2) (hini : Cond.initialized y.cls ∈ Ts) (hstat : Cond.static y ∈ Ts) (hd : kHd y n) (hR : kRm rmc rm maxL) (hn : As.length = n) (hsum : (st.map fun v => v.category).sum ≤ 8) (hst : st0 = As.reverse ++ st) (hdg : decode cc pc = .ok (.invokestatic index, 3)) (kk : J g Wf nL C (pc + 3) lv (.int r :: st)) : J g Wf nL C pc lv st0 := by
  intro H locs ls hP hS hl
  subst hst
  have hk := X.2.2.2.2.2.1
  refine vp_callSi (va_runSN (As := As) (rest := st) (nL := nL) ⟨X.1, X.2.1, X.2.2.1, X.2.2.2.1, X.2.2.2.2.1⟩ hM ⟨va_cnB n X.2.2.2.2.1 hG hw h0.1 h0.2 hl0 (X.2.2.2.2.1 _ hini) hd (by rw [X.2.2.2.2.2.2.1]; exact hR), X.2.2.2.2.1 _ hstat, trivial⟩ ⟨fun a U f mk q => ⟨q.1, q.2.blind⟩, fun U hU hW => ⟨rfl, hk.warm hW⟩⟩ rfl hn hl.2.1 rfl (lv_room hsum) hdg ⟨by rw [X.2.2.2.2.2.2.1]; exact X.2.2.2.2.2.2.2.1, by rw [X.2.2.2.2.2.2.1]; exact X.2.2.2.2.2.2.2.2⟩).run (fun r' hr' => ?_)
  subst hr'
  exact kk H locs ls hP hS hl
end KC
section KM
variable {p : Program} {l : Launch} {e : Env} {R : Room} {s : State} {m : MethodId} {args : Array Value} {below : List Frame} {meth : Method} {c : Code} {H : Heap} {locs : List Loc} {cells slots : Nat}
theorem W.zret2 {cc : ByteArray} {Qc : Array Value → State → Outcome → State → Prop} {free : Addr → Prop} {v r : Int32} {ty : FieldType} (hexec : p.tables.exec = Jvm.exec) (hb : c.code = cc) (hr : meth.sig.returnType = some ty) (hn : narrow ty (.int v) = .int r)
    (hq : ∀ t : State, t.heap = H → s.WarmedH t.vm → Qc args s (.returned (some (.int r))) t) (hf : ∀ q ∈ locs, free q.base)
    {pc : Nat} {ls : Array Slot} (hdg : decode cc pc = .ok (.ireturn, 1)) (hlocks : meth.locks = false) : W p l e R s m args below meth c H locs cells slots (MQ below Qc args s cells slots free) (F0 m pc ls [.int v]) := by
  intro T hT X
  obtain ⟨fs, hret, hrun, hended, hW, hframe⟩ := X.leave (v := some (.int r)) (hlocks := hlocks) (fun h => by rw [hr] at h; cases h)
  have hmeth' : T.vm.method? m = some meth := X.method'
  refine ⟨T.setFrames fs, ?_, .returned (some (.int r)), hrun, hended, hq _ hT hW, locs, ⟨⟨_, rfl⟩, hW, hframe⟩, hf⟩
  jvm_step X.here [X.here.top, hexec, hb, hdg, hmeth', hr, hn]
  (try refine ⟨rfl, ?_⟩); (try refine ⟨rfl, ?_⟩)
  first | (intro acts; rw [hret _ acts rfl rfl rfl]) | rw [hret _ _ rfl rfl rfl]
  exact Steps.refl _
end KM
section KS
variable {l : Launch} {y : MethodName} {ws ws' : List Cond} {rm : Room} {D : va_G} {cI cS : ClassId} {Wf : kS → va_W} {C C' : kS} {av : List Value} {r : Int32} {cc : ByteArray} {nL : Nat} {ty : FieldType} {A : Nat → Prop}
/-- what a body may use to answer r with the state C' -/
def kRI (g : kG) (Wf : kS → va_W) (nL : Nat) (cc : ByteArray) (ty : FieldType) (C' : kS) (r : Int32) : Prop := ∀ (pc : Nat) (lv : List (Option Value)) (v : Int32), decode cc pc = .ok (.ireturn, 1) → narrow ty (.int v) = .int r → J g Wf nL C' pc lv [.int v]
def kRV (g : kG) (Wf : kS → va_W) (nL : Nat) (cc : ByteArray) (C' : kS) : Prop := ∀ (pc : Nat) (lv : List (Option Value)), decode cc pc = .ok (.return_, 1) → J g Wf nL C' pc lv []
theorem mI.of (hy : plainName y.cls = true) (hw : ws = Cond.code y cc nL (some ty) :: ws') (hc0 : av.all (fun w => decide (w.category = 1)) = true) (hn : av.length ≤ nL) (body : ∀ g : kG, Kx g cI cS cc y.cls ws nL rm → kRI g Wf nL cc ty C r → J g Wf nL C 0 (av.map some ++ List.replicate (nL - av.length) none) []) : mI l y ws rm D cI cS Wf C av r := by
  refine Met.ofW (cc := cc) (maxL := nL) (ret := some ty) hy hw ?_
  intro p e s m args below meth c s₁ B hml hv
  obtain ⟨rfl, hP, hK⟩ := hv
  have hts := atoms_spec (ws := ws) B.pre
  rw [lg_entry_eq]
  exact body ((p, l, e, rm, s), (m, av.toArray, below, meth, c), (fun H L => H = s.heap ∧ L = []), D, (0, 0), MQ below (vp_Si (fun x => x = r)) av.toArray s 0 0 (fun _ => False)) ⟨B.exec, B.bytes, hml, findClass_of_methodNamed B.named, hts, hK, rfl, Nat.zero_le _, Nat.zero_le _⟩
    (fun pc lv v hdg hnar H locs ls hP hS hl => by
      have hS : H = s.heap ∧ locs = [] := hS
      show W p l e _ s m av.toArray below meth c H locs 0 0 (MQ below (vp_Si (fun x => x = r)) av.toArray s 0 0 (fun _ => False)) (F0 m pc ls [.int v])
      exact W.zret2 B.exec B.bytes B.returns hnar (fun t ht _ => ⟨r, rfl, rfl, by rw [ht]; exact hS.1⟩) (fun q hq => by rw [hS.2] at hq; cases hq) hdg B.notSynchronized) s.heap [] _ hP ⟨rfl, rfl⟩ (kO.entry (fun w h => of_decide_eq_true (List.all_eq_true.mp hc0 w h)) hn)
theorem mP.of (hy : plainName y.cls = true) (hw : ws = Cond.code y cc nL (some ty) :: ws') (hc0 : av.all (fun w => decide (w.category = 1)) = true) (hn : av.length ≤ nL) (body : ∀ g : kG, Kx g cI cS cc y.cls ws nL rm → kRI g kWe nL cc ty kC0 r → J g kWe nL kC0 0 (av.map some ++ List.replicate (nL - av.length) none) []) : mP l y ws rm D cI cS av r := by
  refine Met.ofW (cc := cc) (maxL := nL) (ret := some ty) hy hw ?_
  intro p e s m args below meth c s₁ B hml hv
  obtain ⟨rfl, hK⟩ := hv
  have hts := atoms_spec (ws := ws) B.pre
  rw [lg_entry_eq]
  exact body ((p, l, e, rm, s), (m, av.toArray, below, meth, c), (fun H L => H = s.heap ∧ L = []), D, (0, 0), MQ below (vp_Si (fun x => x = r)) av.toArray s 0 0 (fun _ => False)) ⟨B.exec, B.bytes, hml, findClass_of_methodNamed B.named, hts, hK, rfl, Nat.zero_le _, Nat.zero_le _⟩
    (fun pc lv v hdg hnar H locs ls hP hS hl => by
      have hS : H = s.heap ∧ locs = [] := hS
      show W p l e _ s m av.toArray below meth c H locs 0 0 (MQ below (vp_Si (fun x => x = r)) av.toArray s 0 0 (fun _ => False)) (F0 m pc ls [.int v])
      exact W.zret2 B.exec B.bytes B.returns hnar (fun t ht _ => ⟨r, rfl, rfl, by rw [ht]; exact hS.1⟩) (fun q hq => by rw [hS.2] at hq; cases hq) hdg B.notSynchronized) s.heap [] _ (fun k q h => by simp [kWe] at h) ⟨rfl, rfl⟩ (kO.entry (fun w h => of_decide_eq_true (List.all_eq_true.mp hc0 w h)) hn)
theorem mV.of (hy : plainName y.cls = true) (hw : ws = Cond.code y cc nL none :: ws') (hc0 : av.all (fun w => decide (w.category = 1)) = true) (hn : av.length ≤ nL) (hD : ∀ C : kS, va_D A (Wf C)) (body : ∀ g : kG, Kx g cI cS cc y.cls ws nL rm → Kw g Wf A → kRV g Wf nL cc C' → J g Wf nL C 0 (av.map some ++ List.replicate (nL - av.length) none) []) : mV l y ws rm D cI cS Wf A C av C' := by
  refine Met.ofW (cc := cc) (maxL := nL) (ret := none) hy hw ?_
  intro p e s m args below meth c s₁ B hml hv
  obtain ⟨rfl, hP, hK⟩ := hv
  have hts := atoms_spec (ws := ws) B.pre
  rw [lg_entry_eq]
  exact body ((p, l, e, rm, s), (m, av.toArray, below, meth, c), va_S A s.heap, D, (0, 0), MQ below (va_Qv (fun _ : Unit => True) (fun _ t => va_P D vwCl (Wf C') t.heap) A) av.toArray s 0 0 A) ⟨B.exec, B.bytes, hml, findClass_of_methodNamed B.named, hts, hK, rfl, Nat.zero_le _, Nat.zero_le _⟩ ⟨rfl, hD⟩
    (fun pc lv hdg H locs ls hP hS hl => by
      have hS : va_S A s.heap H locs := hS
      have hP : va_P D vwCl (Wf C') H := hP
      show W p l e _ s m av.toArray below meth c H locs 0 0 (MQ below (va_Qv (fun _ : Unit => True) (fun _ t => va_P D vwCl (Wf C') t.heap) A) av.toArray s 0 0 A) (F0 m pc ls [])
      exact W.vret B.exec B.bytes B.returns (fun t ht _ => ⟨⟨(), rfl, trivial, by show va_P D vwCl (Wf C') t.heap; rw [ht]; exact hP⟩, va_S.F hS ht⟩) hS.2.2 hdg B.notSynchronized) s.heap [] _ hP va_S.rf (kO.entry (fun w h => of_decide_eq_true (List.all_eq_true.mp hc0 w h)) hn)
theorem mW.of (hy : plainName y.cls = true) (hw : ws = Cond.code y cc nL (some ty) :: ws') (hc0 : av.all (fun w => decide (w.category = 1)) = true) (hn : av.length ≤ nL) (hD : ∀ C : kS, va_D A (Wf C)) (body : ∀ g : kG, Kx g cI cS cc y.cls ws nL rm → Kw g Wf A → kRI g Wf nL cc ty C' r → J g Wf nL C 0 (av.map some ++ List.replicate (nL - av.length) none) []) : mW l y ws rm D cI cS Wf A C av r C' := by
  refine Met.ofW (cc := cc) (maxL := nL) (ret := some ty) hy hw ?_
  intro p e s m args below meth c s₁ B hml hv
  obtain ⟨rfl, hP, hK⟩ := hv
  have hts := atoms_spec (ws := ws) B.pre
  rw [lg_entry_eq]
  exact body ((p, l, e, rm, s), (m, av.toArray, below, meth, c), va_S A s.heap, D, (0, 0), MQ below (va_Qi (fun x (_ : Unit) => x = r) (fun _ t => va_P D vwCl (Wf C') t.heap) A) av.toArray s 0 0 A) ⟨B.exec, B.bytes, hml, findClass_of_methodNamed B.named, hts, hK, rfl, Nat.zero_le _, Nat.zero_le _⟩ ⟨rfl, hD⟩
    (fun pc lv v hdg hnar H locs ls hP hS hl => by
      have hS : va_S A s.heap H locs := hS
      have hP : va_P D vwCl (Wf C') H := hP
      show W p l e _ s m av.toArray below meth c H locs 0 0 (MQ below (va_Qi (fun x (_ : Unit) => x = r) (fun _ t => va_P D vwCl (Wf C') t.heap) A) av.toArray s 0 0 A) (F0 m pc ls [.int v])
      exact W.zret2 B.exec B.bytes B.returns hnar (fun t ht _ => ⟨⟨r, (), rfl, rfl, by show va_P D vwCl (Wf C') t.heap; rw [ht]; exact hP⟩, va_S.F hS ht⟩) hS.2.2 hdg B.notSynchronized) s.heap [] _ hP va_S.rf (kO.entry (fun w h => of_decide_eq_true (List.all_eq_true.mp hc0 w h)) hn)
end KS
/-! the functions' side -/
def gIn {α : Type} (i : Int32) (n : Nat) (x : Option α) : Option α := if i < 0 ∨ n ≤ i.toNatClampNeg then none else x
theorem gIn_s {α : Type} {i : Int32} {n : Nat} {x : Option α} {r : α} (h : gIn i n x = some r) : vp_in i n ∧ x = some r := by
  unfold gIn at h
  by_cases c : i < 0 ∨ n ≤ i.toNatClampNeg
  · rw [if_pos c] at h; cases h
  · rw [if_neg c] at h; exact ⟨c, h⟩
theorem gIn_t {α : Type} {i : Int32} {n : Nat} {x : Option α} (h : vp_in i n) : gIn i n x = x := if_neg h
def gNz {α : Type} (y : Int32) (x : Option α) : Option α := if y = 0 then none else x
theorem gNz_s {α : Type} {y : Int32} {x : Option α} {r : α} (h : gNz y x = some r) : ¬ y = 0 ∧ x = some r := by
  unfold gNz at h
  by_cases c : y = 0
  · rw [if_pos c] at h; cases h
  · rw [if_neg c] at h; exact ⟨c, h⟩
theorem gNz_t {α : Type} {y : Int32} {x : Option α} (h : ¬ y = 0) : gNz y x = x := if_neg h
def gIf {α : Type} (b : Prop) [Decidable b] (x : Option α) : Option α := if b then x else none
theorem gIf_s {α : Type} {b : Prop} [Decidable b] {x : Option α} {r : α} (h : gIf b x = some r) : b ∧ x = some r := by
  unfold gIf at h
  by_cases c : b
  · rw [if_pos c] at h; exact ⟨c, h⟩
  · rw [if_neg c] at h; cases h
theorem gIf_t {α : Type} {b : Prop} [Decidable b] {x : Option α} (h : b) : gIf b x = x := if_pos h
theorem kT {α : Type} {c : Prop} [Decidable c] {a b r : α} (hc : c) (h : (if c then a else b) = r) : a = r := by rw [if_pos hc] at h; exact h
theorem kF {α : Type} {c : Prop} [Decidable c] {a b r : α} (hc : ¬ c) (h : (if c then a else b) = r) : b = r := by rw [if_neg hc] at h; exact h
theorem kB {α β : Type} {x : Option α} {f : α → Option β} {r : β} (h : x.bind f = some r) : ∃ y, x = some y ∧ f y = some r := by
  cases x with
  | none => cases h
  | some y => exact ⟨y, rfl, h⟩
/-- a point where roads meet: the rest of the work, then the roads to it -/
def jn {α β : Type} (k : α) (f : α → β) : β := f k
theorem jn_s {α β : Type} {k : α} {f : α → β} {r : β} (h : jn k f = r) : ∃ j, j = k ∧ f j = r := ⟨k, rfl, h⟩
theorem jE0 {γ : Type} {j k r : γ} (e : j = k) (h : j = r) : k = r := e.symm.trans h
theorem jE1 {α γ : Type} {j k : α → γ} {r : γ} {a : α} (e : j = k) (h : j a = r) : k a = r := e ▸ h
theorem jE2 {α β γ : Type} {j k : α → β → γ} {r : γ} {a : α} {b : β} (e : j = k) (h : j a b = r) : k a b = r := e ▸ h
theorem jE3 {α β δ γ : Type} {j k : α → β → δ → γ} {r : γ} {a : α} {b : β} {c : δ} (e : j = k) (h : j a b c = r) : k a b c = r := e ▸ h
theorem jE4 {α β δ ε γ : Type} {j k : α → β → δ → ε → γ} {r : γ} {a : α} {b : β} {c : δ} {d : ε} (e : j = k) (h : j a b c d = r) : k a b c d = r := e ▸ h
theorem jE5 {α β δ ε ζ γ : Type} {j k : α → β → δ → ε → ζ → γ} {r : γ} {a : α} {b : β} {c : δ} {d : ε} {f : ζ} (e : j = k) (h : j a b c d f = r) : k a b c d f = r := e ▸ h
theorem jE6 {α β δ ε ζ η γ : Type} {j k : α → β → δ → ε → ζ → η → γ} {r : γ} {a : α} {b : β} {c : δ} {d : ε} {f : ζ} {x : η} (e : j = k) (h : j a b c d f x = r) : k a b c d f x = r := e ▸ h
def kLe : List (Option Value) → List (Option Value) → Prop
  | [], [] => True
  | _ :: r, none :: r' => kLe r r'
  | a :: r, some v :: r' => a = some v ∧ kLe r r'
  | _, _ => False
theorem kLe.len : ∀ {a b : List (Option Value)}, kLe a b → a.length = b.length
  | [], [], _ => rfl
  | _ :: r, none :: r', h => by simp [kLe.len (a := r) (b := r') h]
  | _ :: r, some v :: r', h => by simp [kLe.len (a := r) (b := r') h.2]
theorem kLe.sub : ∀ {a b : List (Option Value)}, kLe a b → ∀ (i : Nat) (v : Value), b[i]? = some (some v) → a[i]? = some (some v)
  | [], [], _, i, v, hv => hv
  | x :: r, none :: r', h, 0, v, hv => by simp at hv
  | x :: r, none :: r', h, i + 1, v, hv => by simpa using kLe.sub (a := r) (b := r') h i v (by simpa using hv)
  | x :: r, some w :: r', h, 0, v, hv => by
    have h1 : w = v := by simpa using hv
    subst h1
    simp [h.1]
  | x :: r, some w :: r', h, i + 1, v, hv => by simpa using kLe.sub (a := r) (b := r') h.2 i v (by simpa using hv)
theorem j_weak {g : kG} {Wf : kS → va_W} {nL : Nat} {C : kS} {pc : Nat} {lv lv' : List (Option Value)} {st : List Value} (h : kLe lv lv') (k : J g Wf nL C pc lv' st) : J g Wf nL C pc lv st := fun H locs ls hP hS hl => k H locs ls hP hS ⟨by rw [← h.len]; exact hl.1, hl.2.1, hl.2.2.1, fun i v hv => hl.2.2.2 i v (h.sub i v hv)⟩
theorem j_retI {g : kG} {Wf : kS → va_W} {nL : Nat} {C : kS} {cc : ByteArray} {r v : Int32} {pc : Nat} {lv : List (Option Value)} (hR : kRI g Wf nL cc .int C r) (hdg : decode cc pc = .ok (.ireturn, 1)) (hf : some v = some r) : J g Wf nL C pc lv [.int v] := hR pc lv v hdg (by cases hf; rfl)
theorem j_retB {g : kG} {Wf : kS → va_W} {nL : Nat} {C : kS} {cc : ByteArray} {r v : Int32} {pc : Nat} {lv : List (Option Value)} (hR : kRI g Wf nL cc .boolean C r) (hdg : decode cc pc = .ok (.ireturn, 1)) (hf : some (v &&& 1) = some r) : J g Wf nL C pc lv [.int v] := hR pc lv v hdg (by cases hf; rfl)
theorem j_retW {g : kG} {Wf : kS → va_W} {nL : Nat} {C C' : kS} {cc : ByteArray} {r v : Int32} {pc : Nat} {lv : List (Option Value)} (hR : kRI g Wf nL cc .int C' r) (hdg : decode cc pc = .ok (.ireturn, 1)) (hf : some (v, C) = some (r, C')) : J g Wf nL C pc lv [.int v] := by
  cases hf
  exact hR pc lv _ hdg rfl
theorem j_retV {g : kG} {Wf : kS → va_W} {nL : Nat} {C C' : kS} {cc : ByteArray} {pc : Nat} {lv : List (Option Value)} (hR : kRV g Wf nL cc C') (hdg : decode cc pc = .ok (.return_, 1)) (hf : some C = some C') : J g Wf nL C pc lv [] := by
  cases hf
  exact hR pc lv hdg
end
section
/-! ===== the two worlds: the class (132 cells) and the reference (11 cells) ===== -/
def kdL : List Nat := [8, 6, 3, 10, 5, 7, 3, 10, 3, 10, 7, 3, 10, 3, 10, 7, 3, 10, 3, 10, 3, 10, 3, 10, 2, 11, 5, 7, 3, 10, 3, 10, 7, 3, 10, 3, 10, 7, 3, 10, 3, 10, 3, 10, 3, 10, 5, 7, 3, 10, 3, 10, 7, 3, 10, 3, 10, 7, 3, 10, 3, 10, 3, 10, 3, 10, 5, 7, 3, 10, 3, 10, 7, 3, 10, 3, 10, 7, 3, 10, 3, 10, 3, 10, 3, 10, 5, 7, 3, 10, 3, 10, 7, 3, 10, 3, 10, 7, 3, 10, 3, 10, 3, 10, 3, 10, 1, 3, 10, 3, 10, 3, 10, 0, 3, 10, 0, 3, 10, 4, 3, 10, 3, 10, 3, 10, 3, 10, 3, 10, 3, 10]
def lnL : List Nat := [0, 0, 0, 200, 0, 0, 0, 480, 0, 40, 0, 0, 64, 0, 8, 0, 0, 12, 0, 4, 0, 26, 0, 5, 0, 4, 0, 0, 0, 480, 0, 40, 0, 0, 64, 0, 8, 0, 0, 12, 0, 4, 0, 26, 0, 5, 0, 0, 0, 480, 0, 40, 0, 0, 64, 0, 8, 0, 0, 12, 0, 4, 0, 26, 0, 5, 0, 0, 0, 480, 0, 40, 0, 0, 64, 0, 8, 0, 0, 12, 0, 4, 0, 26, 0, 5, 0, 0, 0, 480, 0, 40, 0, 0, 64, 0, 8, 0, 0, 12, 0, 4, 0, 26, 0, 5, 0, 0, 40, 0, 40, 0, 40, 0, 0, 40, 0, 0, 40, 0, 0, 40, 0, 40, 0, 40, 0, 40, 0, 40, 0, 40]
def kd (k : Nat) : Nat := kdL.getD k 99
def ln (k : Nat) : Nat := lnL.getD k 0
theorem kd_lt {k : Nat} (h : kd k ≠ 99) : k < 132 := by
  rcases Nat.lt_or_ge k 132 with q | q
  · exact q
  · exact absurd (show kdL.getD k 99 = 99 by rw [List.getD_eq_getElem?_getD, List.getElem?_eq_none (show kdL.length ≤ k from q)]; rfl) h
def up1 (C : kS) (k : Nat) (f : Nat → Int32) : kS := fun j => if j = k then f else C j
theorem up1_s (C : kS) (k : Nat) (f : Nat → Int32) : up1 C k f k = f := if_pos rfl
theorem up1_n {C : kS} {k j : Nat} {f : Nat → Int32} (h : j ≠ k) : up1 C k f j = C j := if_neg h
def ceC (cI cS : ClassId) (ad : Nat → Nat) (C : kS) (k : Nat) : va_E := match kd k with
  | 0 => .inr (0, [.ref (ad 106), .ref (ad (k + 1))])
  | 1 => .inr (1, [.ref (ad (k + 1)), .ref (ad (k + 3)), .ref (ad (k + 5)), .int (C k 3), .int (C k 4)])
  | 2 => .inr (2, [.ref (ad (k + 1)), .int (C k 1)])
  | 3 => .inr (3, [.ref (ad (k + 1))])
  | 4 => .inr (4, [.ref (ad 4), .ref (ad 106), .ref (ad (k + 1)), .ref (ad (k + 3)), .ref (ad (k + 5)), .ref (ad (k + 7)), .ref (ad (k + 9)), .ref (ad (k + 11)), .int (C k 8)])
  | 5 => .inr (5, [.ref (ad (k + 1)), .ref (ad (k + 6)), .ref (ad (k + 11)), .ref (ad (k + 16)), .ref (ad (k + 18))])
  | 6 => .inr (6, [.ref (ad (k + 1)), .int (C k 1)])
  | 7 => .inr (7, [.int (C k 0), .int (C k 1), .ref (ad (k + 1)), .ref (ad (k + 3)), .int (C k 4)])
  | 8 => .inr (8, [.ref (ad 1), .ref (ad 4), .ref (ad 24), .ref (ad 106), .ref (ad 113), .ref (ad 116), .ref (ad 119)])
  | 11 => .inl (cS, ln k, .inr (.inr (.inr (.inr (fun i => some (ad (C k i).toNatClampNeg))))))
  | _ => .inl (cI, ln k, .inl (C k))
def WC (cI cS : ClassId) (ad : Nat → Nat) (C : kS) : va_W := (List.range 132).map (fun k => (ad k, ceC cI cS ad C k))
def kInj (n : Nat) (ad : Nat → Nat) : Prop := ∀ i j : Nat, i < n → j < n → ad i = ad j → i = j
def kAd (n : Nat) (ad : Nat → Nat) : Nat → Prop := fun q => ∃ k, k < n ∧ q = ad k
theorem kW_D {n : Nat} {ad : Nat → Nat} (h : kInj n ad) (f : Nat → va_E) : va_D (kAd n ad) ((List.range n).map (fun k => (ad k, f k))) := by
  have e : ∀ (i : Nat) (p : Nat × va_E), ((List.range n).map (fun k => (ad k, f k)))[i]? = some p → i < n ∧ p.1 = ad i := by
    intro i p hp
    have hi : i < n := by
      have h1 := (List.getElem?_eq_some_iff.mp hp).1
      simpa using h1
    rw [List.getElem?_map, List.getElem?_range hi] at hp
    cases hp
    exact ⟨hi, rfl⟩
  refine ⟨fun i j p q hp hq hpq => ?_, fun k q hq => ⟨k, e k q hq⟩⟩
  obtain ⟨a1, a2⟩ := e i p hp
  obtain ⟨b1, b2⟩ := e j q hq
  exact h i j a1 b1 (by rw [← a2, ← b2]; exact hpq)
section KWC
variable {cI cS : ClassId} {ad : Nat → Nat} {C C' : kS} {k : Nat}
theorem WC_at (hk : k < 132) : (WC cI cS ad C)[k]? = some (ad k, ceC cI cS ad C k) := by
  unfold WC
  rw [List.getElem?_map, List.getElem?_range hk]
  rfl
theorem WC_D (h : kInj 132 ad) (C : kS) : va_D (kAd 132 ad) (WC cI cS ad C) := kW_D h _
theorem ceC_congr (h : C' k = C k) : ceC cI cS ad C' k = ceC cI cS ad C k := by
  unfold ceC
  rw [h]
theorem WC_set {e : va_E} (hk : k < 132) (he : ceC cI cS ad C' k = e) (ho : ∀ j, j ≠ k → C' j = C j) : (WC cI cS ad C).set k (ad k, e) = WC cI cS ad C' := by
  apply List.ext_getElem?
  intro i
  rw [List.getElem?_set]
  by_cases hi : k = i
  · subst hi
    rw [if_pos rfl, if_pos (by unfold WC; simpa using hk), WC_at hk, he]
  · rw [if_neg hi]
    by_cases h2 : i < 132
    · rw [WC_at h2, WC_at h2, ceC_congr (ho i (fun q => hi q.symm))]
    · rw [List.getElem?_eq_none (by unfold WC; simp; omega), List.getElem?_eq_none (by unfold WC; simp; omega)]
theorem wc0 (h : kd k = 0) : (WC cI cS ad C)[k]? = some (ad k, .inr (0, [.ref (ad 106), .ref (ad (k + 1))])) := by
  rw [WC_at (kd_lt (by rw [h]; decide))]
  simp only [ceC, h]
theorem wc1 (h : kd k = 1) : (WC cI cS ad C)[k]? = some (ad k, .inr (1, [.ref (ad (k + 1)), .ref (ad (k + 3)), .ref (ad (k + 5)), .int (C k 3), .int (C k 4)])) := by
  rw [WC_at (kd_lt (by rw [h]; decide))]
  simp only [ceC, h]
theorem wc2 (h : kd k = 2) : (WC cI cS ad C)[k]? = some (ad k, .inr (2, [.ref (ad (k + 1)), .int (C k 1)])) := by
  rw [WC_at (kd_lt (by rw [h]; decide))]
  simp only [ceC, h]
theorem wc3 (h : kd k = 3) : (WC cI cS ad C)[k]? = some (ad k, .inr (3, [.ref (ad (k + 1))])) := by
  rw [WC_at (kd_lt (by rw [h]; decide))]
  simp only [ceC, h]
theorem wc4 (h : kd k = 4) : (WC cI cS ad C)[k]? = some (ad k, .inr (4, [.ref (ad 4), .ref (ad 106), .ref (ad (k + 1)), .ref (ad (k + 3)), .ref (ad (k + 5)), .ref (ad (k + 7)), .ref (ad (k + 9)), .ref (ad (k + 11)), .int (C k 8)])) := by
  rw [WC_at (kd_lt (by rw [h]; decide))]
  simp only [ceC, h]
theorem wc5 (h : kd k = 5) : (WC cI cS ad C)[k]? = some (ad k, .inr (5, [.ref (ad (k + 1)), .ref (ad (k + 6)), .ref (ad (k + 11)), .ref (ad (k + 16)), .ref (ad (k + 18))])) := by
  rw [WC_at (kd_lt (by rw [h]; decide))]
  simp only [ceC, h]
theorem wc6 (h : kd k = 6) : (WC cI cS ad C)[k]? = some (ad k, .inr (6, [.ref (ad (k + 1)), .int (C k 1)])) := by
  rw [WC_at (kd_lt (by rw [h]; decide))]
  simp only [ceC, h]
theorem wc7 (h : kd k = 7) : (WC cI cS ad C)[k]? = some (ad k, .inr (7, [.int (C k 0), .int (C k 1), .ref (ad (k + 1)), .ref (ad (k + 3)), .int (C k 4)])) := by
  rw [WC_at (kd_lt (by rw [h]; decide))]
  simp only [ceC, h]
theorem wc8 (h : kd k = 8) : (WC cI cS ad C)[k]? = some (ad k, .inr (8, [.ref (ad 1), .ref (ad 4), .ref (ad 24), .ref (ad 106), .ref (ad 113), .ref (ad 116), .ref (ad 119)])) := by
  rw [WC_at (kd_lt (by rw [h]; decide))]
  simp only [ceC, h]
theorem wcA (h : kd k = 10) : (WC cI cS ad C)[k]? = some (ad k, .inl (cI, ln k, .inl (C k))) := by
  rw [WC_at (kd_lt (by rw [h]; decide))]
  simp only [ceC, h]
theorem wcR (h : kd k = 11) : (WC cI cS ad C)[k]? = some (ad k, .inl (cS, ln k, .inr (.inr (.inr (.inr (fun i => some (ad (C k i).toNatClampNeg))))))) := by
  rw [WC_at (kd_lt (by rw [h]; decide))]
  simp only [ceC, h]
theorem scA (h : kd k = 10) (f : Nat → Int32) : (WC cI cS ad C).set k (ad k, .inl (cI, ln k, .inl f)) = WC cI cS ad (up1 C k f) := WC_set (kd_lt (by rw [h]; decide)) (by simp only [ceC, h, up1_s]) (fun j hj => up1_n hj)
theorem scR (h : kd k = 11) (i : Nat) (x : Int32) : (WC cI cS ad C).set k (ad k, .inl (cS, ln k, .inr (.inr (.inr (.inr (va_up (fun i => some (ad (C k i).toNatClampNeg)) i (some (ad x.toNatClampNeg)))))))) = WC cI cS ad (up1 C k (upd (C k) i x)) := WC_set (kd_lt (by rw [h]; decide)) (by
  simp only [ceC, h, up1_s]
  have e : (fun i_1 => some (ad (upd (C k) i x i_1).toNatClampNeg)) = va_up (fun i => some (ad (C k i).toNatClampNeg)) i (some (ad x.toNatClampNeg)) := by
    funext j
    unfold upd va_up
    by_cases hj : j = i
    · rw [if_pos hj, if_pos hj]
    · rw [if_neg hj, if_neg hj]
  rw [e]) (fun j hj => up1_n hj)
theorem sc7_4 (h : kd k = 7) (v : Int32) : (WC cI cS ad C).set k (ad k, .inr (7, ([.int (C k 0), .int (C k 1), .ref (ad (k + 1)), .ref (ad (k + 3)), .int (C k 4)] : List Value).set 4 (.int v))) = WC cI cS ad (up1 C k (upd (C k) 4 v)) := WC_set (kd_lt (by rw [h]; decide)) (by simp [ceC, h, up1_s, upd]) (fun j hj => up1_n hj)
theorem sc6_1 (h : kd k = 6) (v : Int32) : (WC cI cS ad C).set k (ad k, .inr (6, ([.ref (ad (k + 1)), .int (C k 1)] : List Value).set 1 (.int v))) = WC cI cS ad (up1 C k (upd (C k) 1 v)) := WC_set (kd_lt (by rw [h]; decide)) (by simp [ceC, h, up1_s, upd]) (fun j hj => up1_n hj)
theorem sc2_1 (h : kd k = 2) (v : Int32) : (WC cI cS ad C).set k (ad k, .inr (2, ([.ref (ad (k + 1)), .int (C k 1)] : List Value).set 1 (.int v))) = WC cI cS ad (up1 C k (upd (C k) 1 v)) := WC_set (kd_lt (by rw [h]; decide)) (by simp [ceC, h, up1_s, upd]) (fun j hj => up1_n hj)
theorem sc1_3 (h : kd k = 1) (v : Int32) : (WC cI cS ad C).set k (ad k, .inr (1, ([.ref (ad (k + 1)), .ref (ad (k + 3)), .ref (ad (k + 5)), .int (C k 3), .int (C k 4)] : List Value).set 3 (.int v))) = WC cI cS ad (up1 C k (upd (C k) 3 v)) := WC_set (kd_lt (by rw [h]; decide)) (by simp [ceC, h, up1_s, upd]) (fun j hj => up1_n hj)
theorem sc1_4 (h : kd k = 1) (v : Int32) : (WC cI cS ad C).set k (ad k, .inr (1, ([.ref (ad (k + 1)), .ref (ad (k + 3)), .ref (ad (k + 5)), .int (C k 3), .int (C k 4)] : List Value).set 4 (.int v))) = WC cI cS ad (up1 C k (upd (C k) 4 v)) := WC_set (kd_lt (by rw [h]; decide)) (by simp [ceC, h, up1_s, upd]) (fun j hj => up1_n hj)
theorem sc4_8 (h : kd k = 4) (v : Int32) : (WC cI cS ad C).set k (ad k, .inr (4, ([.ref (ad 4), .ref (ad 106), .ref (ad (k + 1)), .ref (ad (k + 3)), .ref (ad (k + 5)), .ref (ad (k + 7)), .ref (ad (k + 9)), .ref (ad (k + 11)), .int (C k 8)] : List Value).set 8 (.int v))) = WC cI cS ad (up1 C k (upd (C k) 8 v)) := WC_set (kd_lt (by rw [h]; decide)) (by simp [ceC, h, up1_s, upd]) (fun j hj => up1_n hj)
end KWC
theorem kd3_1 {k : Nat} (h : kd k = 3) : kd (k + 1) = 10 := (show ∀ k, k < 132 → kd k = 3 → kd (k + 1) = 10 by decide +kernel) k (kd_lt (by rw [h]; decide)) h
theorem kd7_1 {k : Nat} (h : kd k = 7) : kd (k + 1) = 3 := (show ∀ k, k < 132 → kd k = 7 → kd (k + 1) = 3 by decide +kernel) k (kd_lt (by rw [h]; decide)) h
theorem kd7_3 {k : Nat} (h : kd k = 7) : kd (k + 3) = 3 := (show ∀ k, k < 132 → kd k = 7 → kd (k + 3) = 3 by decide +kernel) k (kd_lt (by rw [h]; decide)) h
theorem kd5_1 {k : Nat} (h : kd k = 5) : kd (k + 1) = 7 := (show ∀ k, k < 132 → kd k = 5 → kd (k + 1) = 7 by decide +kernel) k (kd_lt (by rw [h]; decide)) h
theorem kd5_6 {k : Nat} (h : kd k = 5) : kd (k + 6) = 7 := (show ∀ k, k < 132 → kd k = 5 → kd (k + 6) = 7 by decide +kernel) k (kd_lt (by rw [h]; decide)) h
theorem kd5_11 {k : Nat} (h : kd k = 5) : kd (k + 11) = 7 := (show ∀ k, k < 132 → kd k = 5 → kd (k + 11) = 7 by decide +kernel) k (kd_lt (by rw [h]; decide)) h
theorem kd5_16 {k : Nat} (h : kd k = 5) : kd (k + 16) = 3 := (show ∀ k, k < 132 → kd k = 5 → kd (k + 16) = 3 by decide +kernel) k (kd_lt (by rw [h]; decide)) h
theorem kd5_18 {k : Nat} (h : kd k = 5) : kd (k + 18) = 3 := (show ∀ k, k < 132 → kd k = 5 → kd (k + 18) = 3 by decide +kernel) k (kd_lt (by rw [h]; decide)) h
theorem kd0_1 {k : Nat} (h : kd k = 0) : kd (k + 1) = 3 := (show ∀ k, k < 132 → kd k = 0 → kd (k + 1) = 3 by decide +kernel) k (kd_lt (by rw [h]; decide)) h
theorem kd_0 : kd 0 = 8 := by decide +kernel
theorem kd_1 : kd 1 = 6 := by decide +kernel
theorem kd_2 : kd 2 = 3 := by decide +kernel
theorem kd_3 : kd 3 = 10 := by decide +kernel
theorem kd_4 : kd 4 = 5 := by decide +kernel
theorem kd_5 : kd 5 = 7 := by decide +kernel
theorem kd_6 : kd 6 = 3 := by decide +kernel
theorem kd_7 : kd 7 = 10 := by decide +kernel
theorem kd_8 : kd 8 = 3 := by decide +kernel
theorem kd_9 : kd 9 = 10 := by decide +kernel
theorem kd_10 : kd 10 = 7 := by decide +kernel
theorem kd_11 : kd 11 = 3 := by decide +kernel
theorem kd_12 : kd 12 = 10 := by decide +kernel
theorem kd_13 : kd 13 = 3 := by decide +kernel
theorem kd_14 : kd 14 = 10 := by decide +kernel
theorem kd_15 : kd 15 = 7 := by decide +kernel
theorem kd_16 : kd 16 = 3 := by decide +kernel
theorem kd_17 : kd 17 = 10 := by decide +kernel
theorem kd_18 : kd 18 = 3 := by decide +kernel
theorem kd_19 : kd 19 = 10 := by decide +kernel
theorem kd_20 : kd 20 = 3 := by decide +kernel
theorem kd_21 : kd 21 = 10 := by decide +kernel
theorem kd_22 : kd 22 = 3 := by decide +kernel
theorem kd_23 : kd 23 = 10 := by decide +kernel
theorem kd_24 : kd 24 = 2 := by decide +kernel
theorem kd_25 : kd 25 = 11 := by decide +kernel
theorem kd_26 : kd 26 = 5 := by decide +kernel
theorem kd_27 : kd 27 = 7 := by decide +kernel
theorem kd_28 : kd 28 = 3 := by decide +kernel
theorem kd_29 : kd 29 = 10 := by decide +kernel
theorem kd_30 : kd 30 = 3 := by decide +kernel
theorem kd_31 : kd 31 = 10 := by decide +kernel
theorem kd_32 : kd 32 = 7 := by decide +kernel
theorem kd_33 : kd 33 = 3 := by decide +kernel
theorem kd_34 : kd 34 = 10 := by decide +kernel
theorem kd_35 : kd 35 = 3 := by decide +kernel
theorem kd_36 : kd 36 = 10 := by decide +kernel
theorem kd_37 : kd 37 = 7 := by decide +kernel
theorem kd_38 : kd 38 = 3 := by decide +kernel
theorem kd_39 : kd 39 = 10 := by decide +kernel
theorem kd_40 : kd 40 = 3 := by decide +kernel
theorem kd_41 : kd 41 = 10 := by decide +kernel
theorem kd_42 : kd 42 = 3 := by decide +kernel
theorem kd_43 : kd 43 = 10 := by decide +kernel
theorem kd_44 : kd 44 = 3 := by decide +kernel
theorem kd_45 : kd 45 = 10 := by decide +kernel
theorem kd_46 : kd 46 = 5 := by decide +kernel
theorem kd_47 : kd 47 = 7 := by decide +kernel
theorem kd_48 : kd 48 = 3 := by decide +kernel
theorem kd_49 : kd 49 = 10 := by decide +kernel
theorem kd_50 : kd 50 = 3 := by decide +kernel
theorem kd_51 : kd 51 = 10 := by decide +kernel
theorem kd_52 : kd 52 = 7 := by decide +kernel
theorem kd_53 : kd 53 = 3 := by decide +kernel
theorem kd_54 : kd 54 = 10 := by decide +kernel
theorem kd_55 : kd 55 = 3 := by decide +kernel
theorem kd_56 : kd 56 = 10 := by decide +kernel
theorem kd_57 : kd 57 = 7 := by decide +kernel
theorem kd_58 : kd 58 = 3 := by decide +kernel
theorem kd_59 : kd 59 = 10 := by decide +kernel
theorem kd_60 : kd 60 = 3 := by decide +kernel
theorem kd_61 : kd 61 = 10 := by decide +kernel
theorem kd_62 : kd 62 = 3 := by decide +kernel
theorem kd_63 : kd 63 = 10 := by decide +kernel
theorem kd_64 : kd 64 = 3 := by decide +kernel
theorem kd_65 : kd 65 = 10 := by decide +kernel
theorem kd_66 : kd 66 = 5 := by decide +kernel
theorem kd_67 : kd 67 = 7 := by decide +kernel
theorem kd_68 : kd 68 = 3 := by decide +kernel
theorem kd_69 : kd 69 = 10 := by decide +kernel
theorem kd_70 : kd 70 = 3 := by decide +kernel
theorem kd_71 : kd 71 = 10 := by decide +kernel
theorem kd_72 : kd 72 = 7 := by decide +kernel
theorem kd_73 : kd 73 = 3 := by decide +kernel
theorem kd_74 : kd 74 = 10 := by decide +kernel
theorem kd_75 : kd 75 = 3 := by decide +kernel
theorem kd_76 : kd 76 = 10 := by decide +kernel
theorem kd_77 : kd 77 = 7 := by decide +kernel
theorem kd_78 : kd 78 = 3 := by decide +kernel
theorem kd_79 : kd 79 = 10 := by decide +kernel
theorem kd_80 : kd 80 = 3 := by decide +kernel
theorem kd_81 : kd 81 = 10 := by decide +kernel
theorem kd_82 : kd 82 = 3 := by decide +kernel
theorem kd_83 : kd 83 = 10 := by decide +kernel
theorem kd_84 : kd 84 = 3 := by decide +kernel
theorem kd_85 : kd 85 = 10 := by decide +kernel
theorem kd_86 : kd 86 = 5 := by decide +kernel
theorem kd_87 : kd 87 = 7 := by decide +kernel
theorem kd_88 : kd 88 = 3 := by decide +kernel
theorem kd_89 : kd 89 = 10 := by decide +kernel
theorem kd_90 : kd 90 = 3 := by decide +kernel
theorem kd_91 : kd 91 = 10 := by decide +kernel
theorem kd_92 : kd 92 = 7 := by decide +kernel
theorem kd_93 : kd 93 = 3 := by decide +kernel
theorem kd_94 : kd 94 = 10 := by decide +kernel
theorem kd_95 : kd 95 = 3 := by decide +kernel
theorem kd_96 : kd 96 = 10 := by decide +kernel
theorem kd_97 : kd 97 = 7 := by decide +kernel
theorem kd_98 : kd 98 = 3 := by decide +kernel
theorem kd_99 : kd 99 = 10 := by decide +kernel
theorem kd_100 : kd 100 = 3 := by decide +kernel
theorem kd_101 : kd 101 = 10 := by decide +kernel
theorem kd_102 : kd 102 = 3 := by decide +kernel
theorem kd_103 : kd 103 = 10 := by decide +kernel
theorem kd_104 : kd 104 = 3 := by decide +kernel
theorem kd_105 : kd 105 = 10 := by decide +kernel
theorem kd_106 : kd 106 = 1 := by decide +kernel
theorem kd_107 : kd 107 = 3 := by decide +kernel
theorem kd_108 : kd 108 = 10 := by decide +kernel
theorem kd_109 : kd 109 = 3 := by decide +kernel
theorem kd_110 : kd 110 = 10 := by decide +kernel
theorem kd_111 : kd 111 = 3 := by decide +kernel
theorem kd_112 : kd 112 = 10 := by decide +kernel
theorem kd_113 : kd 113 = 0 := by decide +kernel
theorem kd_114 : kd 114 = 3 := by decide +kernel
theorem kd_115 : kd 115 = 10 := by decide +kernel
theorem kd_116 : kd 116 = 0 := by decide +kernel
theorem kd_117 : kd 117 = 3 := by decide +kernel
theorem kd_118 : kd 118 = 10 := by decide +kernel
theorem kd_119 : kd 119 = 4 := by decide +kernel
theorem kd_120 : kd 120 = 3 := by decide +kernel
theorem kd_121 : kd 121 = 10 := by decide +kernel
theorem kd_122 : kd 122 = 3 := by decide +kernel
theorem kd_123 : kd 123 = 10 := by decide +kernel
theorem kd_124 : kd 124 = 3 := by decide +kernel
theorem kd_125 : kd 125 = 10 := by decide +kernel
theorem kd_126 : kd 126 = 3 := by decide +kernel
theorem kd_127 : kd 127 = 10 := by decide +kernel
theorem kd_128 : kd 128 = 3 := by decide +kernel
theorem kd_129 : kd 129 = 10 := by decide +kernel
theorem kd_130 : kd 130 = 3 := by decide +kernel
theorem kd_131 : kd 131 = 10 := by decide +kernel
def lmL : List Nat := [0, 642, 2568, 200, 40, 40, 40, 40, 40, 40, 40]
def lm (k : Nat) : Nat := lmL.getD k 0
def ceM (cI : ClassId) (am : Nat → Nat) (M : kS) (k : Nat) : va_E := match k with
  | 0 => .inr (9, [.ref (am 1), .ref (am 2), .int (M 0 2), .ref (am 3), .int (M 0 4), .int (M 0 5), .ref (am 4), .ref (am 5), .ref (am 6), .int (M 0 9), .ref (am 7), .ref (am 8), .ref (am 9), .ref (am 10), .int (M 0 14)])
  | k + 1 => .inl (cI, lm (k + 1), .inl (M (k + 1)))
def WM (cI : ClassId) (am : Nat → Nat) (M : kS) : va_W := (List.range 11).map (fun k => (am k, ceM cI am M k))
section KWM
variable {cI : ClassId} {am : Nat → Nat} {M M' : kS} {k : Nat}
theorem WM_at (hk : k < 11) : (WM cI am M)[k]? = some (am k, ceM cI am M k) := by
  unfold WM
  rw [List.getElem?_map, List.getElem?_range hk]
  rfl
theorem WM_D (h : kInj 11 am) (M : kS) : va_D (kAd 11 am) (WM cI am M) := kW_D h _
theorem ceM_congr (h : M' k = M k) : ceM cI am M' k = ceM cI am M k := by
  unfold ceM
  cases k with
  | zero => simp only [h]
  | succ k => simp only [h]
theorem WM_set {e : va_E} (hk : k < 11) (he : ceM cI am M' k = e) (ho : ∀ j, j ≠ k → M' j = M j) : (WM cI am M).set k (am k, e) = WM cI am M' := by
  apply List.ext_getElem?
  intro i
  rw [List.getElem?_set]
  by_cases hi : k = i
  · subst hi
    rw [if_pos rfl, if_pos (by unfold WM; simpa using hk), WM_at hk, he]
  · rw [if_neg hi]
    by_cases h2 : i < 11
    · rw [WM_at h2, WM_at h2, ceM_congr (ho i (fun q => hi q.symm))]
    · rw [List.getElem?_eq_none (by unfold WM; simp; omega), List.getElem?_eq_none (by unfold WM; simp; omega)]
theorem wm0 : (WM cI am M)[0]? = some (am 0, .inr (9, [.ref (am 1), .ref (am 2), .int (M 0 2), .ref (am 3), .int (M 0 4), .int (M 0 5), .ref (am 4), .ref (am 5), .ref (am 6), .int (M 0 9), .ref (am 7), .ref (am 8), .ref (am 9), .ref (am 10), .int (M 0 14)])) := WM_at (by decide)
theorem wm1 : (WM cI am M)[1]? = some (am 1, .inl (cI, 642, .inl (M 1))) := WM_at (by decide)
theorem sm1 (f : Nat → Int32) : (WM cI am M).set 1 (am 1, .inl (cI, 642, .inl f)) = WM cI am (up1 M 1 f) := WM_set (by decide) (by simp only [ceM, up1_s]; rfl) (fun j hj => up1_n hj)
theorem wm2 : (WM cI am M)[2]? = some (am 2, .inl (cI, 2568, .inl (M 2))) := WM_at (by decide)
theorem sm2 (f : Nat → Int32) : (WM cI am M).set 2 (am 2, .inl (cI, 2568, .inl f)) = WM cI am (up1 M 2 f) := WM_set (by decide) (by simp only [ceM, up1_s]; rfl) (fun j hj => up1_n hj)
theorem wm3 : (WM cI am M)[3]? = some (am 3, .inl (cI, 200, .inl (M 3))) := WM_at (by decide)
theorem sm3 (f : Nat → Int32) : (WM cI am M).set 3 (am 3, .inl (cI, 200, .inl f)) = WM cI am (up1 M 3 f) := WM_set (by decide) (by simp only [ceM, up1_s]; rfl) (fun j hj => up1_n hj)
theorem wm4 : (WM cI am M)[4]? = some (am 4, .inl (cI, 40, .inl (M 4))) := WM_at (by decide)
theorem sm4 (f : Nat → Int32) : (WM cI am M).set 4 (am 4, .inl (cI, 40, .inl f)) = WM cI am (up1 M 4 f) := WM_set (by decide) (by simp only [ceM, up1_s]; rfl) (fun j hj => up1_n hj)
theorem wm5 : (WM cI am M)[5]? = some (am 5, .inl (cI, 40, .inl (M 5))) := WM_at (by decide)
theorem sm5 (f : Nat → Int32) : (WM cI am M).set 5 (am 5, .inl (cI, 40, .inl f)) = WM cI am (up1 M 5 f) := WM_set (by decide) (by simp only [ceM, up1_s]; rfl) (fun j hj => up1_n hj)
theorem wm6 : (WM cI am M)[6]? = some (am 6, .inl (cI, 40, .inl (M 6))) := WM_at (by decide)
theorem sm6 (f : Nat → Int32) : (WM cI am M).set 6 (am 6, .inl (cI, 40, .inl f)) = WM cI am (up1 M 6 f) := WM_set (by decide) (by simp only [ceM, up1_s]; rfl) (fun j hj => up1_n hj)
theorem wm7 : (WM cI am M)[7]? = some (am 7, .inl (cI, 40, .inl (M 7))) := WM_at (by decide)
theorem sm7 (f : Nat → Int32) : (WM cI am M).set 7 (am 7, .inl (cI, 40, .inl f)) = WM cI am (up1 M 7 f) := WM_set (by decide) (by simp only [ceM, up1_s]; rfl) (fun j hj => up1_n hj)
theorem wm8 : (WM cI am M)[8]? = some (am 8, .inl (cI, 40, .inl (M 8))) := WM_at (by decide)
theorem sm8 (f : Nat → Int32) : (WM cI am M).set 8 (am 8, .inl (cI, 40, .inl f)) = WM cI am (up1 M 8 f) := WM_set (by decide) (by simp only [ceM, up1_s]; rfl) (fun j hj => up1_n hj)
theorem wm9 : (WM cI am M)[9]? = some (am 9, .inl (cI, 40, .inl (M 9))) := WM_at (by decide)
theorem sm9 (f : Nat → Int32) : (WM cI am M).set 9 (am 9, .inl (cI, 40, .inl f)) = WM cI am (up1 M 9 f) := WM_set (by decide) (by simp only [ceM, up1_s]; rfl) (fun j hj => up1_n hj)
theorem wm10 : (WM cI am M)[10]? = some (am 10, .inl (cI, 40, .inl (M 10))) := WM_at (by decide)
theorem sm10 (f : Nat → Int32) : (WM cI am M).set 10 (am 10, .inl (cI, 40, .inl f)) = WM cI am (up1 M 10 f) := WM_set (by decide) (by simp only [ceM, up1_s]; rfl) (fun j hj => up1_n hj)
theorem sm0_2 (v : Int32) : (WM cI am M).set 0 (am 0, .inr (9, ([.ref (am 1), .ref (am 2), .int (M 0 2), .ref (am 3), .int (M 0 4), .int (M 0 5), .ref (am 4), .ref (am 5), .ref (am 6), .int (M 0 9), .ref (am 7), .ref (am 8), .ref (am 9), .ref (am 10), .int (M 0 14)] : List Value).set 2 (.int v))) = WM cI am (up1 M 0 (upd (M 0) 2 v)) := WM_set (by decide) (by simp [ceM, up1_s, upd]) (fun j hj => up1_n hj)
theorem sm0_4 (v : Int32) : (WM cI am M).set 0 (am 0, .inr (9, ([.ref (am 1), .ref (am 2), .int (M 0 2), .ref (am 3), .int (M 0 4), .int (M 0 5), .ref (am 4), .ref (am 5), .ref (am 6), .int (M 0 9), .ref (am 7), .ref (am 8), .ref (am 9), .ref (am 10), .int (M 0 14)] : List Value).set 4 (.int v))) = WM cI am (up1 M 0 (upd (M 0) 4 v)) := WM_set (by decide) (by simp [ceM, up1_s, upd]) (fun j hj => up1_n hj)
theorem sm0_5 (v : Int32) : (WM cI am M).set 0 (am 0, .inr (9, ([.ref (am 1), .ref (am 2), .int (M 0 2), .ref (am 3), .int (M 0 4), .int (M 0 5), .ref (am 4), .ref (am 5), .ref (am 6), .int (M 0 9), .ref (am 7), .ref (am 8), .ref (am 9), .ref (am 10), .int (M 0 14)] : List Value).set 5 (.int v))) = WM cI am (up1 M 0 (upd (M 0) 5 v)) := WM_set (by decide) (by simp [ceM, up1_s, upd]) (fun j hj => up1_n hj)
theorem sm0_9 (v : Int32) : (WM cI am M).set 0 (am 0, .inr (9, ([.ref (am 1), .ref (am 2), .int (M 0 2), .ref (am 3), .int (M 0 4), .int (M 0 5), .ref (am 4), .ref (am 5), .ref (am 6), .int (M 0 9), .ref (am 7), .ref (am 8), .ref (am 9), .ref (am 10), .int (M 0 14)] : List Value).set 9 (.int v))) = WM cI am (up1 M 0 (upd (M 0) 9 v)) := WM_set (by decide) (by simp [ceM, up1_s, upd]) (fun j hj => up1_n hj)
theorem sm0_14 (v : Int32) : (WM cI am M).set 0 (am 0, .inr (9, ([.ref (am 1), .ref (am 2), .int (M 0 2), .ref (am 3), .int (M 0 4), .int (M 0 5), .ref (am 4), .ref (am 5), .ref (am 6), .int (M 0 9), .ref (am 7), .ref (am 8), .ref (am 9), .ref (am 10), .int (M 0 14)] : List Value).set 14 (.int v))) = WM cI am (up1 M 0 (upd (M 0) 14 v)) := WM_set (by decide) (by simp [ceM, up1_s, upd]) (fun j hj => up1_n hj)
end KWM
end
section
/-! ===== the history's answers that are null or a state; two static tables; the class's starter with a further premise ===== -/
def oM {α β : Type} (o : Option α) (a : β) (f : α → β) : β := match o with
  | none => a
  | some x => f x
def mQ (l : Launch) (y : MethodName) (ws : List Cond) (rm : Room) (D : va_G) (cI cS : ClassId) (ad : Nat → Nat) (C : kS) (av : List Value) (o : Option Int32) : Prop := Met l y ws rm (kPc D cI cS (WC cI cS ad) C av) (va_Sq (fun x => x = o.map (fun q : Int32 => ad q.toNatClampNeg))) 0 0 (fun _ => False)
section KQ
variable {g : kG} {cI cS : ClassId} {ad : Nat → Nat} {cc : ByteArray} {own : String} {Ts : List Cond} {nL : Nat} {rm : Room} {Wf : kS → va_W} {C C' : kS} {pc : Nat} {lv lv' : List (Option Value)} {st st0 : List Value} {A : Nat → Prop}
variable {y : MethodName} {wsc wsc' : List Cond} {rmc : Room} {bytes : ByteArray} {maxL index : Nat} {ret : Option FieldType} {As : List Value} {b : Nat} {o : Option Int32} {Cn : String}
theorem j_callQ (X : Kx g cI cS cc own Ts nL rm) (hM : mQ g.1.2.1 y wsc rmc g.2.2.2.1 cI cS ad C (.ref b :: As) o) (hG : GoodIn Ts (wsV own index Cn y wsc)) (hw : wsc = Cond.code y bytes maxL ret :: wsc') (h0 : rmc.cells = 0 ∧ rmc.slots = 0) {n : Nat} (hC : y.cls = Cn) (hd : kHd y n) (hR : kRm rmc rm maxL) {q0 ci : Nat} {fs : List Value} {qq : vw_C} (he : (WC cI cS ad C)[q0]? = some (b, .inr (ci, fs))) (hci : vwCl[ci]? = some qq) (hqn : qq.1 = Cn) (hn : As.length = n) (hsum : (st.map fun v => v.category).sum ≤ 8) (hst : st0 = As.reverse ++ .ref b :: st) (hdg : decode cc pc = .ok (.invokevirtual index, 3)) (kk : J g (WC cI cS ad) nL C (pc + 3) lv (va_rf (o.map (fun q : Int32 => ad q.toNatClampNeg)) :: st)) : J g (WC cI cS ad) nL C pc lv st0 := by
  intro H locs ls hP hS hl
  subst hst
  have hk := X.2.2.2.2.2.1
  refine va_csq (W.runV (As := As) (rest := st) (nL := nL) ⟨X.1, X.2.1, X.2.2.1, X.2.2.2.1, X.2.2.2.2.1⟩ hM (cwV n X.2.2.2.2.1 hG hw h0.1 h0.2 ⟨hC, hd⟩ (by rw [X.2.2.2.2.2.2.1]; exact hR)) ⟨fun a U f mk q => ⟨q.1, q.2.1, q.2.2.blind⟩, ?_, fun U hU hW => ⟨rfl, by rw [hU]; exact hP, hk.warm hW⟩⟩ rfl hn hl.2.1 rfl (lv_room hsum) hdg ⟨by rw [X.2.2.2.2.2.2.1]; exact X.2.2.2.2.2.2.2.1, by rw [X.2.2.2.2.2.2.1]; exact X.2.2.2.2.2.2.2.2⟩) (fun r' hr' => ?_)
  · obtain ⟨cell, a1, a2, a3⟩ := va_recv hk.1 hP hci he
    exact ⟨cell, a1, a2, hqn ▸ a3⟩
  · subst hr'
    exact kk H locs ls hP hS hl
theorem j_null3 (X : Kx g cI cS cc own Ts nL rm) {i : Fin 4} {off : Int} {tgt : Nat} (hd1 : decode cc pc = .ok (.astore_n i, 1)) (hd2 : decode cc (pc + 1) = .ok (.aload_n i, 1)) (hd3 : decode cc (pc + 1 + 1) = .ok (.ifnull off, 3)) (ht : ((pc + 1 + 1 : Nat) : Int) + off = (tgt : Int)) (hi : (i : Nat) < nL) (hl : kLe (lv.set (i : Nat) (some .null)) lv') (k : J g Wf nL C tgt lv' st) (hnl : kNL lv (i : Nat) = true := by rfl) : J g Wf nL C pc lv (.null :: st) := fun H locs ls hP hS h =>
  lv_astore_nN X.1 X.2.1 hd1 rfl h.has hi rfl (fun ls' h' => by
    have h2 := h.set hi rfl h' hnl
    refine lv_aload_nN X.1 X.2.1 hd2 rfl (h2.at (i := (i : Nat)) (by rw [List.getElem?_set_self (by rw [h.1]; exact hi)])) ?_
    exact lv_ifnullN X.1 X.2.1 hd3 ht (j_weak hl k H locs ls' hP hS h2))
theorem j_aconst_null (X : Kx g cI cS cc own Ts nL rm) (hdg : decode cc pc = .ok (.aconst_null, 1)) (k : J g Wf nL C (pc + 1) lv (.null :: st)) : J g Wf nL C pc lv st := fun H locs ls hP hS h => lv_null X.1 X.2.1 hdg (k H locs ls hP hS h)
theorem j_gets (X : Kx g cI cS cc own Ts nL rm) (Y : Kw g Wf A) {Cz n d : String} {v : Value} (hZ : va_Z Cz n d v A g.1.2.2.2.2 g.1.2.2.2.2.heap) (hlk : Cond.fieldLink own index Cz n d ∈ Ts) (hdg : decode cc pc = .ok (.getstatic index, 3)) (kk : J g Wf nL C (pc + 3) lv (v :: st)) : J g Wf nL C pc lv st := fun H locs ls hP hS h => va_gets X.1 X.2.1 hZ (Eq.mp (congrFun (congrFun Y.1 H) locs) hS) X.2.2.2.1 (X.2.2.2.2.1 _ hlk) (fun _ h9 => h9) hdg (kk H locs ls hP hS h)
theorem j_ti (X : Kx g cI cS cc own Ts nL rm) (Y : Kw g Wf A) {t N : Nat} {f : Nat → Int32} (hT : va_T .int t N (fun j => .int (f j)) A g.1.2.2.2.2 g.1.2.2.2.2.heap) {i : Int32} (hin : vp_in i N) (hdg : decode cc pc = .ok (.iaload, 1)) (kk : J g Wf nL C (pc + 1) lv (.int (f i.toNatClampNeg) :: st)) : J g Wf nL C pc lv (.int i :: .ref t :: st) := fun H locs ls hP hS h => va_ti X.1 X.2.1 hT (Eq.mp (congrFun (congrFun Y.1 H) locs) hS) hin rfl hdg (kk H locs ls hP hS h)
end KQ
section KQS
variable {l : Launch} {y : MethodName} {ws ws' : List Cond} {rm : Room} {D : va_G} {cI cS : ClassId} {ad : Nat → Nat} {C C' : kS} {av : List Value} {o : Option Int32} {cc : ByteArray} {nL : Nat} {A : Nat → Prop} {Wf : kS → va_W} {r : Int32} {ty : FieldType}
def kRQ (g : kG) (cI cS : ClassId) (ad : Nat → Nat) (nL : Nat) (cc : ByteArray) (C : kS) (o : Option Int32) : Prop := ∀ (pc : Nat) (lv : List (Option Value)) (v : Value), decode cc pc = .ok (.areturn, 1) → v = va_rf (o.map (fun q : Int32 => ad q.toNatClampNeg)) → J g (WC cI cS ad) nL C pc lv [v]
theorem mQ.of (hy : plainName y.cls = true) (hw : ws = Cond.code y cc nL (some (.object RX5)) :: ws') (hc0 : av.all (fun w => decide (w.category = 1)) = true) (hn : av.length ≤ nL) (body : ∀ g : kG, Kx g cI cS cc y.cls ws nL rm → kRQ g cI cS ad nL cc C o → J g (WC cI cS ad) nL C 0 (av.map some ++ List.replicate (nL - av.length) none) []) : mQ l y ws rm D cI cS ad C av o := by
  refine Met.ofW (cc := cc) (maxL := nL) (ret := some (.object RX5)) hy hw ?_
  intro p e s m args below meth c s₁ B hml hv
  obtain ⟨rfl, hP, hK⟩ := hv
  have hts := atoms_spec (ws := ws) B.pre
  rw [lg_entry_eq]
  exact body ((p, l, e, rm, s), (m, av.toArray, below, meth, c), (fun H L => H = s.heap ∧ L = []), D, (0, 0), MQ below (va_Sq (fun x => x = o.map (fun q : Int32 => ad q.toNatClampNeg))) av.toArray s 0 0 (fun _ => False)) ⟨B.exec, B.bytes, hml, findClass_of_methodNamed B.named, hts, hK, rfl, Nat.zero_le _, Nat.zero_le _⟩
    (fun pc lv v hdg hvv H locs ls hP hS hl => by
      have hS : H = s.heap ∧ locs = [] := hS
      show W p l e _ s m av.toArray below meth c H locs 0 0 (MQ below (va_Sq (fun x => x = o.map (fun q : Int32 => ad q.toNatClampNeg))) av.toArray s 0 0 (fun _ => False)) (F0 m pc ls [v])
      subst hvv
      exact W.aret B.exec B.bytes B.returns (Or.inl ⟨_, rfl⟩) (va_rf_or _) (fun t ht _ => ⟨_, rfl, rfl, by rw [ht]; exact hS.1⟩) (fun q hq => by rw [hS.2] at hq; cases hq) hdg B.notSynchronized) s.heap [] _ hP ⟨rfl, rfl⟩ (kO.entry (fun w h => of_decide_eq_true (List.all_eq_true.mp hc0 w h)) hn)
def kPcE (D : va_G) (cI cS : ClassId) (Wf : kS → va_W) (C : kS) (E : State → Prop) (av : List Value) : Array Value → State → Prop := va_Pc av (fun U => va_P D vwCl (Wf C) U.heap ∧ kK D cI cS U ∧ E U)
def mWE (l : Launch) (y : MethodName) (ws : List Cond) (rm : Room) (D : va_G) (cI cS : ClassId) (Wf : kS → va_W) (A : Nat → Prop) (E : State → Prop) (C : kS) (av : List Value) (r : Int32) (C' : kS) : Prop := Met l y ws rm (kPcE D cI cS Wf C E av) (va_Qi (fun x (_ : Unit) => x = r) (fun _ t => va_P D vwCl (Wf C') t.heap) A) 0 0 A
theorem mWE.of {E : State → Prop} (hy : plainName y.cls = true) (hw : ws = Cond.code y cc nL (some ty) :: ws') (hc0 : av.all (fun w => decide (w.category = 1)) = true) (hn : av.length ≤ nL) (hD : ∀ C : kS, va_D A (Wf C)) (body : ∀ g : kG, Kx g cI cS cc y.cls ws nL rm → Kw g Wf A → E g.1.2.2.2.2 → kRI g Wf nL cc ty C' r → J g Wf nL C 0 (av.map some ++ List.replicate (nL - av.length) none) []) : mWE l y ws rm D cI cS Wf A E C av r C' := by
  refine Met.ofW (cc := cc) (maxL := nL) (ret := some ty) hy hw ?_
  intro p e s m args below meth c s₁ B hml hv
  obtain ⟨rfl, hP, hK, hE⟩ := hv
  have hts := atoms_spec (ws := ws) B.pre
  rw [lg_entry_eq]
  exact body ((p, l, e, rm, s), (m, av.toArray, below, meth, c), va_S A s.heap, D, (0, 0), MQ below (va_Qi (fun x (_ : Unit) => x = r) (fun _ t => va_P D vwCl (Wf C') t.heap) A) av.toArray s 0 0 A) ⟨B.exec, B.bytes, hml, findClass_of_methodNamed B.named, hts, hK, rfl, Nat.zero_le _, Nat.zero_le _⟩ ⟨rfl, hD⟩ hE
    (fun pc lv v hdg hnar H locs ls hP hS hl => by
      have hS : va_S A s.heap H locs := hS
      have hP : va_P D vwCl (Wf C') H := hP
      show W p l e _ s m av.toArray below meth c H locs 0 0 (MQ below (va_Qi (fun x (_ : Unit) => x = r) (fun _ t => va_P D vwCl (Wf C') t.heap) A) av.toArray s 0 0 A) (F0 m pc ls [.int v])
      exact W.zret2 B.exec B.bytes B.returns hnar (fun t ht _ => ⟨⟨r, (), rfl, rfl, by show va_P D vwCl (Wf C') t.heap; rw [ht]; exact hP⟩, va_S.F hS ht⟩) hS.2.2 hdg B.notSynchronized) s.heap [] _ hP va_S.rf (kO.entry (fun w h => of_decide_eq_true (List.all_eq_true.mp hc0 w h)) hn)
end KQS
def tb_LV : Nat → Int32 := fun j => ([0, 1, 1, 1, 20] : List Int32).getD j 0
def tb_GV : Nat → Int32 := fun j => ([3, 50, 8, 9, 200] : List Int32).getD j 0
def kZ (A : Nat → Prop) (LV GV : Nat) (U : State) : Prop := (va_Z RX8 "LEAST_VALUES" "[I" (.ref LV) A U U.heap ∧ va_T .int LV 5 (fun j => .int (tb_LV j)) A U U.heap) ∧ (va_Z RX8 "GREATEST_VALUES" "[I" (.ref GV) A U U.heap ∧ va_T .int GV 5 (fun j => .int (tb_GV j)) A U U.heap)
end
section
/-! ===== longs, and the law's own cells: the numbers g, the widths x, the words t (each word fits an int: it is kept as one), one or two rows that a method makes ===== -/
/-- a walk over a world that does not depend on the state's function -/
abbrev JA (g : kG) (W0 : va_W) (nL : Nat) (pc : Nat) (lv : List (Option Value)) (st : List Value) : Prop := J g (fun _ => W0) nL kC0 pc lv st
/-- the array class of longs is known -/
def kE (D : va_G) (cJ : ClassId) (U : State) : Prop := va_K D vwCl [(cJ, .long)] U
theorem kE.warm {D : va_G} {cJ : ClassId} {s U : State} (hW : s.WarmedH U.vm) (h : kE D cJ s) : kE D cJ U := va_K.moved hW.alike h
theorem kE.blind {D : va_G} {cJ : ClassId} {U : State} {f : JFrame} {mk : MethodId} {a : Array Value} (h : kE D cJ U) : kE D cJ (U.calling f mk a) := va_K.moved (Vm.Alike.refl U.vm) h
section LJ0
variable {g : kG} {cI cS cJ : ClassId} {cc : ByteArray} {own : String} {Ts : List Cond} {nL : Nat} {rm : Room} {Wf : kS → va_W} {C C' : kS} {pc : Nat} {lv lv' : List (Option Value)} {st : List Value} {A : Nat → Prop}
theorem j_ldc (X : Kx g cI cS cc own Ts nL rm) {index : Nat} {v : Int32} (hlk : Cond.constant own index v ∈ Ts) (hdg : decode cc pc = .ok (.ldc index, 2)) (kk : J g Wf nL C (pc + 2) lv (.int v :: st)) : J g Wf nL C pc lv st := fun H locs ls hP hS h => lv_ldc X.1 X.2.1 X.2.2.2.1 (X.2.2.2.2.1 _ hlk) hdg (kk H locs ls hP hS h)
theorem j_ldc2 (X : Kx g cI cS cc own Ts nL rm) {index : Nat} {v : Int64} (hlk : Cond.constantLong own index v ∈ Ts) (hdg : decode cc pc = .ok (.ldc2_w index, 3)) (kk : J g Wf nL C (pc + 3) lv (.long v :: st)) : J g Wf nL C pc lv st := fun H locs ls hP hS h => lv_ldc2 X.1 X.2.1 X.2.2.2.1 (X.2.2.2.2.1 _ hlk) hdg (kk H locs ls hP hS h)
theorem j_lconst (X : Kx g cI cS cc own Ts nL rm) {n : Fin 2} {v : Int64} (hdg : decode cc pc = .ok (.lconst n, 1)) (hv : Int64.ofNat (n : Nat) = v) (k : J g Wf nL C (pc + 1) lv (.long v :: st)) : J g Wf nL C pc lv st := fun H locs ls hP hS h => lv_lconst X.1 X.2.1 hdg hv (k H locs ls hP hS h)
theorem j_lload_n (X : Kx g cI cS cc own Ts nL rm) {i : Fin 4} {x : Int64} (hdg : decode cc pc = .ok (.lload_n i, 1)) (hl : lv[(i : Nat)]? = some (some (.long x))) (k : J g Wf nL C (pc + 1) lv (.long x :: st)) : J g Wf nL C pc lv st := fun H locs ls hP hS h => lv_lload_n X.1 X.2.1 hdg rfl (h.at hl) (k H locs ls hP hS h)
theorem j_lload (X : Kx g cI cS cc own Ts nL rm) {i : Nat} {x : Int64} (hdg : decode cc pc = .ok (.lload i, 2)) (hl : lv[i]? = some (some (.long x))) (k : J g Wf nL C (pc + 2) lv (.long x :: st)) : J g Wf nL C pc lv st := fun H locs ls hP hS h => lv_lload X.1 X.2.1 hdg (h.at hl) (k H locs ls hP hS h)
theorem j_lstore_n (X : Kx g cI cS cc own Ts nL rm) {i : Fin 4} {x : Int64} (hdg : decode cc pc = .ok (.lstore_n i, 1)) (hi : (i : Nat) + 1 < nL) (hl : (lv.set (i : Nat) (some (.long x))).set ((i : Nat) + 1) none = lv') (k : J g Wf nL C (pc + 1) lv' st) (hnl : kNL lv (i : Nat) = true := by rfl) : J g Wf nL C pc lv (.long x :: st) := fun H locs ls hP hS h => lv_lstore_n X.1 X.2.1 hdg rfl h.has hi rfl (fun ls' h' => k H locs ls' hP hS (hl ▸ h.set2 hi h' hnl))
theorem j_lstore (X : Kx g cI cS cc own Ts nL rm) {i : Nat} {x : Int64} (hdg : decode cc pc = .ok (.lstore i, 2)) (hi : i + 1 < nL) (hl : (lv.set i (some (.long x))).set (i + 1) none = lv') (k : J g Wf nL C (pc + 2) lv' st) (hnl : kNL lv i = true := by rfl) : J g Wf nL C pc lv (.long x :: st) := fun H locs ls hP hS h => lv_lstore X.1 X.2.1 hdg h.has hi rfl (fun ls' h' => k H locs ls' hP hS (hl ▸ h.set2 hi h' hnl))
theorem j_astore (X : Kx g cI cS cc own Ts nL rm) {i : Nat} {x : Nat} (hdg : decode cc pc = .ok (.astore i, 2)) (hi : i < nL) (hl : lv.set i (some (.ref x)) = lv') (k : J g Wf nL C (pc + 2) lv' st) (hnl : kNL lv i = true := by rfl) : J g Wf nL C pc lv (.ref x :: st) := fun H locs ls hP hS h => lv_astore X.1 X.2.1 hdg h.has hi rfl (fun ls' h' => k H locs ls' hP hS (hl ▸ h.set hi rfl h' hnl))
theorem j_ineg (X : Kx g cI cS cc own Ts nL rm) {x : Int32} (hdg : decode cc pc = .ok (.ineg, 1)) (k : J g Wf nL C (pc + 1) lv (.int (-x) :: st)) : J g Wf nL C pc lv (.int x :: st) := fun H locs ls hP hS h => lv_ineg X.1 X.2.1 hdg (k H locs ls hP hS h)
theorem j_ixor (X : Kx g cI cS cc own Ts nL rm) {x y : Int32} (hdg : decode cc pc = .ok (.ixor, 1)) (k : J g Wf nL C (pc + 1) lv (.int (x ^^^ y) :: st)) : J g Wf nL C pc lv (.int y :: .int x :: st) := fun H locs ls hP hS h => lv_ixor X.1 X.2.1 hdg (k H locs ls hP hS h)
theorem j_land (X : Kx g cI cS cc own Ts nL rm) {x y : Int64} (hdg : decode cc pc = .ok (.land, 1)) (k : J g Wf nL C (pc + 1) lv (.long (x &&& y) :: st)) : J g Wf nL C pc lv (.long y :: .long x :: st) := fun H locs ls hP hS h => lv_land X.1 X.2.1 hdg (k H locs ls hP hS h)
theorem j_lor (X : Kx g cI cS cc own Ts nL rm) {x y : Int64} (hdg : decode cc pc = .ok (.lor, 1)) (k : J g Wf nL C (pc + 1) lv (.long (x ||| y) :: st)) : J g Wf nL C pc lv (.long y :: .long x :: st) := fun H locs ls hP hS h => lv_lor X.1 X.2.1 hdg (k H locs ls hP hS h)
theorem j_lshl (X : Kx g cI cS cc own Ts nL rm) {x : Int64} {y : Int32} (hdg : decode cc pc = .ok (.lshl, 1)) (k : J g Wf nL C (pc + 1) lv (.long (x <<< (y.toInt64 &&& 63)) :: st)) : J g Wf nL C pc lv (.int y :: .long x :: st) := fun H locs ls hP hS h => lv_lshl X.1 X.2.1 hdg rfl (k H locs ls hP hS h)
theorem j_lshr (X : Kx g cI cS cc own Ts nL rm) {x : Int64} {y : Int32} (hdg : decode cc pc = .ok (.lshr, 1)) (k : J g Wf nL C (pc + 1) lv (.long (x >>> (y.toInt64 &&& 63)) :: st)) : J g Wf nL C pc lv (.int y :: .long x :: st) := fun H locs ls hP hS h => lv_lshr X.1 X.2.1 hdg rfl (k H locs ls hP hS h)
theorem j_lcmp (X : Kx g cI cS cc own Ts nL rm) {x y : Int64} (hdg : decode cc pc = .ok (.lcmp, 1)) (k : J g Wf nL C (pc + 1) lv (.int (lg_cmp x y) :: st)) : J g Wf nL C pc lv (.long y :: .long x :: st) := fun H locs ls hP hS h => W.lcmp X.1 X.2.1 hdg (k H locs ls hP hS h)
theorem j_i2l (X : Kx g cI cS cc own Ts nL rm) {x : Int32} (hdg : decode cc pc = .ok (.i2l, 1)) (k : J g Wf nL C (pc + 1) lv (.long x.toInt64 :: st)) : J g Wf nL C pc lv (.int x :: st) := fun H locs ls hP hS h => lv_i2l X.1 X.2.1 hdg rfl (k H locs ls hP hS h)
theorem j_l2i (X : Kx g cI cS cc own Ts nL rm) {x : Int64} (hdg : decode cc pc = .ok (.l2i, 1)) (k : J g Wf nL C (pc + 1) lv (.int x.toInt32 :: st)) : J g Wf nL C pc lv (.long x :: st) := fun H locs ls hP hS h => lv_l2i X.1 X.2.1 hdg rfl (k H locs ls hP hS h)
end LJ0
section LP
variable {D : va_G} {cl : List vw_C} {w1 w2 : va_W} {H H1 : Heap}
theorem P_l (h : va_P D cl (w1 ++ w2) H) : va_P D cl w1 H := fun k q hq => h k q (by rw [List.getElem?_append_left (List.getElem?_eq_some_iff.mp hq).1]; exact hq)
theorem P_r (h : va_P D cl (w1 ++ w2) H) : va_P D cl w2 H := fun k q hq => h (w1.length + k) q (by rw [List.getElem?_append_right (Nat.le_add_right _ _), Nat.add_sub_cancel_left]; exact hq)
theorem at_l {k : Nat} {x : Nat × va_E} (h : w1[k]? = some x) : (w1 ++ w2)[k]? = some x := by rw [List.getElem?_append_left (List.getElem?_eq_some_iff.mp h).1]; exact h
theorem at_r {k n : Nat} {x : Nat × va_E} (h : w2[k]? = some x) (hn : w1.length = n) : (w1 ++ w2)[n + k]? = some x := by subst hn; rw [List.getElem?_append_right (Nat.le_add_right _ _), Nat.add_sub_cancel_left]; exact h
end LP
/-- the walk's g at another count of cells and slots (made so far) -/
def gC (g : kG) (cs sl : Nat) : kG := (g.1, g.2.1, g.2.2.1, g.2.2.2.1, (cs, sl), g.2.2.2.2.2)
theorem Kx.gC {g : kG} {cI cS : ClassId} {cc : ByteArray} {own : String} {Ts : List Cond} {nL : Nat} {rm : Room} (X : Kx g cI cS cc own Ts nL rm) {cs sl : Nat} (hc : cs ≤ rm.cells) (hs : sl ≤ rm.slots) : Kx (gC g cs sl) cI cS cc own Ts nL rm := ⟨X.1, X.2.1, X.2.2.1, X.2.2.2.1, X.2.2.2.2.1, X.2.2.2.2.2.1, X.2.2.2.2.2.2.1, hc, hs⟩
/-! contracts over a world: answers that are ints, longs; readers that make rows; writers -/
def kPw (D : va_G) (cI cS : ClassId) (W0 : va_W) (E : State → Prop) (av : List Value) : Array Value → State → Prop := va_Pc av (fun U => va_P D vwCl W0 U.heap ∧ kK D cI cS U ∧ E U)
def mIL (l : Launch) (y : MethodName) (ws : List Cond) (rm : Room) (D : va_G) (cI cS : ClassId) (W0 : va_W) (E : State → Prop) (av : List Value) (r : Int32) : Prop := Met l y ws rm (kPw D cI cS W0 E av) (vp_Si (fun x => x = r)) 0 0 (fun _ => False)
def mLL (l : Launch) (y : MethodName) (ws : List Cond) (rm : Room) (D : va_G) (cI cS : ClassId) (W0 : va_W) (E : State → Prop) (av : List Value) (r : Int64) : Prop := Met l y ws rm (kPw D cI cS W0 E av) (vp_Sl (fun x => x = r)) 0 0 (fun _ => False)
def mLP (l : Launch) (y : MethodName) (ws : List Cond) (rm : Room) (D : va_G) (cI cS : ClassId) (av : List Value) (r : Int64) : Prop := Met l y ws rm (kPp D cI cS av) (vp_Sl (fun x => x = r)) 0 0 (fun _ => False)
def mAL (l : Launch) (y : MethodName) (ws : List Cond) (rm : Room) (D : va_G) (cI cS : ClassId) (W0 : va_W) (E : State → Prop) (av : List Value) (r : Int32) (mc ms : Nat) : Prop := Met l y ws rm (kPw D cI cS W0 E av) (va_Qi (fun x (_ : Unit) => x = r) (fun _ _ => True) (fun _ => False)) mc ms (fun _ => False)
def mWL (l : Launch) (y : MethodName) (ws : List Cond) (rm : Room) (D : va_G) (cI cS : ClassId) (W0 W1 : va_W) (A : Nat → Prop) (E : State → Prop) (av : List Value) (r : Int32) : Prop := Met l y ws rm (kPw D cI cS W0 E av) (va_Qi (fun x (_ : Unit) => x = r) (fun _ t => va_P D vwCl W1 t.heap) A) 0 0 A
def mVL (l : Launch) (y : MethodName) (ws : List Cond) (rm : Room) (D : va_G) (cI cS : ClassId) (W0 W1 : va_W) (A : Nat → Prop) (E : State → Prop) (av : List Value) : Prop := Met l y ws rm (kPw D cI cS W0 E av) (va_Qv (fun _ : Unit => True) (fun _ t => va_P D vwCl W1 t.heap) A) 0 0 A
/-- what a body may use at its end -/
def eI (g : kG) (nL : Nat) (cc : ByteArray) (ty : FieldType) (W0 : va_W) (r : Int32) : Prop := ∀ (pc : Nat) (lv : List (Option Value)) (v : Int32), decode cc pc = .ok (.ireturn, 1) → narrow ty (.int v) = .int r → JA g W0 nL pc lv [.int v]
def eL (g : kG) (nL : Nat) (cc : ByteArray) (W0 : va_W) (r : Int64) : Prop := ∀ (pc : Nat) (lv : List (Option Value)), decode cc pc = .ok (.lreturn, 1) → JA g W0 nL pc lv [.long r]
def eV (g : kG) (nL : Nat) (cc : ByteArray) (W0 : va_W) : Prop := ∀ (pc : Nat) (lv : List (Option Value)), decode cc pc = .ok (.return_, 1) → JA g W0 nL pc lv []
def eA (g : kG) (nL : Nat) (cc : ByteArray) (ty : FieldType) (r : Int32) (mc ms : Nat) : Prop := ∀ (W0 : va_W) (cs sl : Nat) (pc : Nat) (lv : List (Option Value)) (v : Int32), cs ≤ mc → sl ≤ ms → decode cc pc = .ok (.ireturn, 1) → narrow ty (.int v) = .int r → JA (gC g cs sl) W0 nL pc lv [.int v]
section LJ1
variable {l : Launch} {y : MethodName} {ws ws' : List Cond} {rm : Room} {D : va_G} {cI cS cJ : ClassId} {W0 W1 : va_W} {E : State → Prop} {av : List Value} {r : Int32} {rL : Int64} {cc : ByteArray} {nL mc ms : Nat} {ty : FieldType} {A : Nat → Prop}
theorem mIL.of (hy : plainName y.cls = true) (hw : ws = Cond.code y cc nL (some ty) :: ws') (hn : (kLay av).length ≤ nL) (body : ∀ g : kG, Kx g cI cS cc y.cls ws nL rm → E g.1.2.2.2.2 → g.2.2.2.1 = D → eI g nL cc ty W0 r → JA g W0 nL 0 (kLay av ++ List.replicate (nL - (kLay av).length) none) []) : mIL l y ws rm D cI cS W0 E av r := by
  refine Met.ofW (cc := cc) (maxL := nL) (ret := some ty) hy hw ?_
  intro p e s m args below meth c s₁ B hml hv
  obtain ⟨rfl, hP, hK, hE⟩ := hv
  have hts := atoms_spec (ws := ws) B.pre
  rw [lg_entry_eq]
  exact body ((p, l, e, rm, s), (m, av.toArray, below, meth, c), (fun H L => H = s.heap ∧ L = []), D, (0, 0), MQ below (vp_Si (fun x => x = r)) av.toArray s 0 0 (fun _ => False)) ⟨B.exec, B.bytes, hml, findClass_of_methodNamed B.named, hts, hK, rfl, Nat.zero_le _, Nat.zero_le _⟩ hE rfl
    (fun pc lv v hdg hnar H locs ls hP hS hl => by
      have hS : H = s.heap ∧ locs = [] := hS
      show W p l e _ s m av.toArray below meth c H locs 0 0 (MQ below (vp_Si (fun x => x = r)) av.toArray s 0 0 (fun _ => False)) (F0 m pc ls [.int v])
      exact W.zret2 B.exec B.bytes B.returns hnar (fun t ht _ => ⟨r, rfl, rfl, by rw [ht]; exact hS.1⟩) (fun q hq => by rw [hS.2] at hq; cases hq) hdg B.notSynchronized) s.heap [] _ hP ⟨rfl, rfl⟩ (kO.entry2 hn)
theorem mLL.of (hy : plainName y.cls = true) (hw : ws = Cond.code y cc nL (some .long) :: ws') (hn : (kLay av).length ≤ nL) (body : ∀ g : kG, Kx g cI cS cc y.cls ws nL rm → E g.1.2.2.2.2 → g.2.2.2.1 = D → eL g nL cc W0 rL → JA g W0 nL 0 (kLay av ++ List.replicate (nL - (kLay av).length) none) []) : mLL l y ws rm D cI cS W0 E av rL := by
  refine Met.ofW (cc := cc) (maxL := nL) (ret := some .long) hy hw ?_
  intro p e s m args below meth c s₁ B hml hv
  obtain ⟨rfl, hP, hK, hE⟩ := hv
  have hts := atoms_spec (ws := ws) B.pre
  rw [lg_entry_eq]
  exact body ((p, l, e, rm, s), (m, av.toArray, below, meth, c), (fun H L => H = s.heap ∧ L = []), D, (0, 0), MQ below (vp_Sl (fun x => x = rL)) av.toArray s 0 0 (fun _ => False)) ⟨B.exec, B.bytes, hml, findClass_of_methodNamed B.named, hts, hK, rfl, Nat.zero_le _, Nat.zero_le _⟩ hE rfl
    (fun pc lv hdg H locs ls hP hS hl => by
      have hS : H = s.heap ∧ locs = [] := hS
      show W p l e _ s m av.toArray below meth c H locs 0 0 (MQ below (vp_Sl (fun x => x = rL)) av.toArray s 0 0 (fun _ => False)) (F0 m pc ls [.long rL])
      exact W.lret B.exec B.bytes B.returns (fun t ht _ => ⟨rL, rfl, rfl, by rw [ht]; exact hS.1⟩) (fun q hq => by rw [hS.2] at hq; cases hq) hdg B.notSynchronized) s.heap [] _ hP ⟨rfl, rfl⟩ (kO.entry2 hn)
theorem mP.of2 (hy : plainName y.cls = true) (hw : ws = Cond.code y cc nL (some ty) :: ws') (hn : (kLay av).length ≤ nL) (body : ∀ g : kG, Kx g cI cS cc y.cls ws nL rm → eI g nL cc ty [] r → JA g [] nL 0 (kLay av ++ List.replicate (nL - (kLay av).length) none) []) : mP l y ws rm D cI cS av r := by
  refine Met.ofW (cc := cc) (maxL := nL) (ret := some ty) hy hw ?_
  intro p e s m args below meth c s₁ B hml hv
  obtain ⟨rfl, hK⟩ := hv
  have hts := atoms_spec (ws := ws) B.pre
  rw [lg_entry_eq]
  exact body ((p, l, e, rm, s), (m, av.toArray, below, meth, c), (fun H L => H = s.heap ∧ L = []), D, (0, 0), MQ below (vp_Si (fun x => x = r)) av.toArray s 0 0 (fun _ => False)) ⟨B.exec, B.bytes, hml, findClass_of_methodNamed B.named, hts, hK, rfl, Nat.zero_le _, Nat.zero_le _⟩
    (fun pc lv v hdg hnar H locs ls hP hS hl => by
      have hS : H = s.heap ∧ locs = [] := hS
      show W p l e _ s m av.toArray below meth c H locs 0 0 (MQ below (vp_Si (fun x => x = r)) av.toArray s 0 0 (fun _ => False)) (F0 m pc ls [.int v])
      exact W.zret2 B.exec B.bytes B.returns hnar (fun t ht _ => ⟨r, rfl, rfl, by rw [ht]; exact hS.1⟩) (fun q hq => by rw [hS.2] at hq; cases hq) hdg B.notSynchronized) s.heap [] _ (fun k q h => by simp at h) ⟨rfl, rfl⟩ (kO.entry2 hn)
theorem mLP.of (hy : plainName y.cls = true) (hw : ws = Cond.code y cc nL (some .long) :: ws') (hn : (kLay av).length ≤ nL) (body : ∀ g : kG, Kx g cI cS cc y.cls ws nL rm → eL g nL cc [] rL → JA g [] nL 0 (kLay av ++ List.replicate (nL - (kLay av).length) none) []) : mLP l y ws rm D cI cS av rL := by
  refine Met.ofW (cc := cc) (maxL := nL) (ret := some .long) hy hw ?_
  intro p e s m args below meth c s₁ B hml hv
  obtain ⟨rfl, hK⟩ := hv
  have hts := atoms_spec (ws := ws) B.pre
  rw [lg_entry_eq]
  exact body ((p, l, e, rm, s), (m, av.toArray, below, meth, c), (fun H L => H = s.heap ∧ L = []), D, (0, 0), MQ below (vp_Sl (fun x => x = rL)) av.toArray s 0 0 (fun _ => False)) ⟨B.exec, B.bytes, hml, findClass_of_methodNamed B.named, hts, hK, rfl, Nat.zero_le _, Nat.zero_le _⟩
    (fun pc lv hdg H locs ls hP hS hl => by
      have hS : H = s.heap ∧ locs = [] := hS
      show W p l e _ s m av.toArray below meth c H locs 0 0 (MQ below (vp_Sl (fun x => x = rL)) av.toArray s 0 0 (fun _ => False)) (F0 m pc ls [.long rL])
      exact W.lret B.exec B.bytes B.returns (fun t ht _ => ⟨rL, rfl, rfl, by rw [ht]; exact hS.1⟩) (fun q hq => by rw [hS.2] at hq; cases hq) hdg B.notSynchronized) s.heap [] _ (fun k q h => by simp at h) ⟨rfl, rfl⟩ (kO.entry2 hn)
theorem mAL.of (hy : plainName y.cls = true) (hw : ws = Cond.code y cc nL (some ty) :: ws') (hn : (kLay av).length ≤ nL) (body : ∀ g : kG, Kx g cI cS cc y.cls ws nL rm → E g.1.2.2.2.2 → g.2.2.2.1 = D → g.2.2.1 = va_S (fun q => g.1.2.2.2.2.heap.size ≤ q) g.1.2.2.2.2.heap → va_P D vwCl W0 g.1.2.2.2.2.heap → eA g nL cc ty r mc ms → JA (gC g 0 0) W0 nL 0 (kLay av ++ List.replicate (nL - (kLay av).length) none) []) : mAL l y ws rm D cI cS W0 E av r mc ms := by
  refine Met.ofW (cc := cc) (maxL := nL) (ret := some ty) hy hw ?_
  intro p e s m args below meth c s₁ B hml hv
  obtain ⟨rfl, hP, hK, hE⟩ := hv
  have hts := atoms_spec (ws := ws) B.pre
  rw [lg_entry_eq]
  exact body ((p, l, e, rm, s), (m, av.toArray, below, meth, c), va_S (fun q => s.heap.size ≤ q) s.heap, D, (0, 0), MQ below (va_Qi (fun x (_ : Unit) => x = r) (fun _ _ => True) (fun _ => False)) av.toArray s mc ms (fun _ => False)) ⟨B.exec, B.bytes, hml, findClass_of_methodNamed B.named, hts, hK, rfl, Nat.zero_le _, Nat.zero_le _⟩ hE rfl rfl hP
    (fun W0 cs sl pc lv v hc1 hs1 hdg hnar H locs ls hP hS hl => by
      have hS : va_S (fun q => s.heap.size ≤ q) s.heap H locs := hS
      show W p l e _ s m av.toArray below meth c H locs cs sl (MQ below (va_Qi (fun x (_ : Unit) => x = r) (fun _ _ => True) (fun _ => False)) av.toArray s mc ms (fun _ => False)) (F0 m pc ls [.int v])
      refine W.widen (k := mc) (n := ms) hc1 hs1 ?_
      refine va_forget (fun q hq => hS.2.2 q hq) ?_
      exact W.zret2 B.exec B.bytes B.returns hnar (fun t ht _ => ⟨⟨r, (), rfl, rfl, trivial⟩, by rw [ht]; exact hS.1, fun q h1 _ => by rw [ht]; exact hS.2.1 q h1 (Nat.not_le.mpr h1)⟩) (fun q hq => by cases hq) hdg B.notSynchronized) s.heap [] _ hP va_S.rf (kO.entry2 hn)
theorem mWL.of (hy : plainName y.cls = true) (hw : ws = Cond.code y cc nL (some ty) :: ws') (hn : (kLay av).length ≤ nL) (body : ∀ g : kG, Kx g cI cS cc y.cls ws nL rm → E g.1.2.2.2.2 → g.2.2.2.1 = D → g.2.2.1 = va_S A g.1.2.2.2.2.heap → eI g nL cc ty W1 r → JA g W0 nL 0 (kLay av ++ List.replicate (nL - (kLay av).length) none) []) : mWL l y ws rm D cI cS W0 W1 A E av r := by
  refine Met.ofW (cc := cc) (maxL := nL) (ret := some ty) hy hw ?_
  intro p e s m args below meth c s₁ B hml hv
  obtain ⟨rfl, hP, hK, hE⟩ := hv
  have hts := atoms_spec (ws := ws) B.pre
  rw [lg_entry_eq]
  exact body ((p, l, e, rm, s), (m, av.toArray, below, meth, c), va_S A s.heap, D, (0, 0), MQ below (va_Qi (fun x (_ : Unit) => x = r) (fun _ t => va_P D vwCl W1 t.heap) A) av.toArray s 0 0 A) ⟨B.exec, B.bytes, hml, findClass_of_methodNamed B.named, hts, hK, rfl, Nat.zero_le _, Nat.zero_le _⟩ hE rfl rfl
    (fun pc lv v hdg hnar H locs ls hP hS hl => by
      have hS : va_S A s.heap H locs := hS
      have hP : va_P D vwCl W1 H := hP
      show W p l e _ s m av.toArray below meth c H locs 0 0 (MQ below (va_Qi (fun x (_ : Unit) => x = r) (fun _ t => va_P D vwCl W1 t.heap) A) av.toArray s 0 0 A) (F0 m pc ls [.int v])
      exact W.zret2 B.exec B.bytes B.returns hnar (fun t ht _ => ⟨⟨r, (), rfl, rfl, by show va_P D vwCl W1 t.heap; rw [ht]; exact hP⟩, va_S.F hS ht⟩) hS.2.2 hdg B.notSynchronized) s.heap [] _ hP va_S.rf (kO.entry2 hn)
theorem mVL.of (hy : plainName y.cls = true) (hw : ws = Cond.code y cc nL none :: ws') (hn : (kLay av).length ≤ nL) (body : ∀ g : kG, Kx g cI cS cc y.cls ws nL rm → E g.1.2.2.2.2 → g.2.2.2.1 = D → g.2.2.1 = va_S A g.1.2.2.2.2.heap → eV g nL cc W1 → JA g W0 nL 0 (kLay av ++ List.replicate (nL - (kLay av).length) none) []) : mVL l y ws rm D cI cS W0 W1 A E av := by
  refine Met.ofW (cc := cc) (maxL := nL) (ret := none) hy hw ?_
  intro p e s m args below meth c s₁ B hml hv
  obtain ⟨rfl, hP, hK, hE⟩ := hv
  have hts := atoms_spec (ws := ws) B.pre
  rw [lg_entry_eq]
  exact body ((p, l, e, rm, s), (m, av.toArray, below, meth, c), va_S A s.heap, D, (0, 0), MQ below (va_Qv (fun _ : Unit => True) (fun _ t => va_P D vwCl W1 t.heap) A) av.toArray s 0 0 A) ⟨B.exec, B.bytes, hml, findClass_of_methodNamed B.named, hts, hK, rfl, Nat.zero_le _, Nat.zero_le _⟩ hE rfl rfl
    (fun pc lv hdg H locs ls hP hS hl => by
      have hS : va_S A s.heap H locs := hS
      have hP : va_P D vwCl W1 H := hP
      show W p l e _ s m av.toArray below meth c H locs 0 0 (MQ below (va_Qv (fun _ : Unit => True) (fun _ t => va_P D vwCl W1 t.heap) A) av.toArray s 0 0 A) (F0 m pc ls [])
      exact W.vret B.exec B.bytes B.returns (fun t ht _ => ⟨⟨(), rfl, trivial, by show va_P D vwCl W1 t.heap; rw [ht]; exact hP⟩, va_S.F hS ht⟩) hS.2.2 hdg B.notSynchronized) s.heap [] _ hP va_S.rf (kO.entry2 hn)
end LJ1
section LJ2
variable {g : kG} {cI cS cJ : ClassId} {cc : ByteArray} {own : String} {Ts : List Cond} {nL : Nat} {rm : Room} {C C' : kS} {pc cs sl : Nat} {lv lv' : List (Option Value)} {st st0 : List Value} {A : Nat → Prop} {W0 W1 W2 : va_W} {r v : Int32} {rL vL : Int64} {ty : FieldType}
variable {y : MethodName} {wsc wsc' : List Cond} {rmc : Room} {bytes : ByteArray} {maxL index mc ms : Nat} {ret : Option FieldType} {As : List Value}
theorem a_retI (hR : eI g nL cc .int W0 r) (hdg : decode cc pc = .ok (.ireturn, 1)) (hf : some v = some r) : JA g W0 nL pc lv [.int v] := hR pc lv v hdg (by cases hf; rfl)
theorem a_retB (hR : eI g nL cc .boolean W0 r) (hdg : decode cc pc = .ok (.ireturn, 1)) (hf : some (v &&& 1) = some r) : JA g W0 nL pc lv [.int v] := hR pc lv v hdg (by cases hf; rfl)
theorem a_retL (hR : eL g nL cc W0 rL) (hdg : decode cc pc = .ok (.lreturn, 1)) (hf : some vL = some rL) : JA g W0 nL pc lv [.long vL] := by cases hf; exact hR pc lv hdg
theorem a_retAI (hR : eA g nL cc .int r mc ms) (hc : cs ≤ mc) (hs : sl ≤ ms) (hdg : decode cc pc = .ok (.ireturn, 1)) (hf : some v = some r) : JA (gC g cs sl) W0 nL pc lv [.int v] := hR W0 cs sl pc lv v hc hs hdg (by cases hf; rfl)
theorem a_retAB (hR : eA g nL cc .boolean r mc ms) (hc : cs ≤ mc) (hs : sl ≤ ms) (hdg : decode cc pc = .ok (.ireturn, 1)) (hf : some (v &&& 1) = some r) : JA (gC g cs sl) W0 nL pc lv [.int v] := hR W0 cs sl pc lv v hc hs hdg (by cases hf; rfl)
theorem a_retWB {α : Type} {p pr : α} {Wf : α → va_W} (hR : eI g nL cc .boolean (Wf pr) r) (hdg : decode cc pc = .ok (.ireturn, 1)) (hf : some (v &&& 1, p) = some (r, pr)) : JA g (Wf p) nL pc lv [.int v] := by
  cases hf
  exact hR pc lv v hdg rfl
theorem a_retV {α : Type} {p pr : α} {Wf : α → va_W} (hR : eV g nL cc (Wf pr)) (hdg : decode cc pc = .ok (.return_, 1)) (hf : some p = some pr) : JA g (Wf p) nL pc lv [] := by
  cases hf
  exact hR pc lv hdg
theorem a_widen {cs2 sl2 : Nat} (h1 : cs ≤ cs2) (h2 : sl ≤ sl2) (k : JA (gC g cs2 sl2) W0 nL pc lv st) : JA (gC g cs sl) W0 nL pc lv st := fun H locs ls hP hS hl => W.widen (k := cs2) (n := sl2) h1 h2 (k H locs ls hP hS hl)
theorem a_iald (X : Kx g cI cS cc own Ts nL rm) {b q0 n : Nat} {f : Nat → Int32} (ha : W0[q0]? = some (b, .inl (cI, n, .inl f))) {i : Int32} (hin : vp_in i n) (hdg : decode cc pc = .ok (.iaload, 1)) (kk : JA g W0 nL (pc + 1) lv (.int (f i.toNatClampNeg) :: st)) : JA g W0 nL pc lv (.int i :: .ref b :: st) := j_iald (Wf := fun _ => W0) X ha hin hdg kk
theorem a_lald (X : Kx g cI cS cc own Ts nL rm) (hE : kE g.2.2.2.1 cJ g.1.2.2.2.2) {b q0 n : Nat} {f : Nat → Int64} (ha : W0[q0]? = some (b, .inl (cJ, n, .inr (.inl f)))) {i : Int32} (hin : vp_in i n) (hdg : decode cc pc = .ok (.laload, 1)) (kk : JA g W0 nL (pc + 1) lv (.long (f i.toNatClampNeg) :: st)) : JA g W0 nL pc lv (.int i :: .ref b :: st) := fun H locs ls hP hS h => va_lald X.1 X.2.1 hE hP q0 0 ha rfl hin hdg (kk H locs ls hP hS h)
theorem a_iast (X : Kx g cI cS cc own Ts nL rm) (hA : g.2.2.1 = va_S A g.1.2.2.2.2.heap) (hD : va_D (fun _ => True) W0) {b q0 n : Nat} (hb : A b) {f : Nat → Int32} (ha : W0[q0]? = some (b, .inl (cI, n, .inl f))) {i x : Int32} (hin : vp_in i n) (hdg : decode cc pc = .ok (.iastore, 1)) (hset : W0.set q0 (b, .inl (cI, n, .inl (upd f i.toNatClampNeg x))) = W1) (kk : JA g W1 nL (pc + 1) lv st) : JA g W0 nL pc lv (.int x :: .int i :: .ref b :: st) := fun H locs ls hP hS h => by
  have hP : va_P g.2.2.2.1 vwCl W0 H := hP
  have hS1 : va_S A g.1.2.2.2.2.heap H locs := Eq.mp (congrFun (congrFun hA H) locs) hS
  refine W.iast X.1 X.2.1 (hP q0 _ ha) ((X.2.2.2.2.2.1.1.2 0 (cI, .int) rfl).1 n (fun j => .int (f j))) (fun q => by cases q) (by show ¬ (i < 0 ∨ (arrV _ _ _).slots.size ≤ _); rw [arrV_size]; exact hin) rfl rfl hdg fun H1 e z oq => ?_
  refine kk H1 _ ls ?_ (Eq.mpr (congrFun (congrFun hA H1) _) (hS1.put z oq hb)) h
  show va_P g.2.2.2.1 vwCl W1 H1
  rw [← hset]
  refine hP.set hD ha ?_ oq
  show H1[b]? = some (vp_cell _ _)
  rw [e, vp_cell_i, vp_cell_i, arrV_store]
  congr 2
  funext q
  by_cases hq : q = i.toNatClampNeg
  · subst hq
    simp [updV, upd]
  · simp [updV, upd, hq]
theorem a_last (X : Kx g cI cS cc own Ts nL rm) (hE : kE g.2.2.2.1 cJ g.1.2.2.2.2) (hA : g.2.2.1 = va_S A g.1.2.2.2.2.heap) (hD : va_D (fun _ => True) W0) {b q0 n : Nat} (hb : A b) {f : Nat → Int64} (ha : W0[q0]? = some (b, .inl (cJ, n, .inr (.inl f)))) {i : Int32} {x : Int64} (hin : vp_in i n) (hdg : decode cc pc = .ok (.lastore, 1)) (hset : W0.set q0 (b, .inl (cJ, n, .inr (.inl (vp_updL f i.toNatClampNeg x)))) = W1) (kk : JA g W1 nL (pc + 1) lv st) : JA g W0 nL pc lv (.long x :: .int i :: .ref b :: st) := fun H locs ls hP hS h => by
  have hP : va_P g.2.2.2.1 vwCl W0 H := hP
  have hS1 : va_S A g.1.2.2.2.2.heap H locs := Eq.mp (congrFun (congrFun hA H) locs) hS
  refine W.last X.1 X.2.1 (hP q0 _ ha) ((hE.2 0 (cJ, .long) rfl).1 n (fun j => .long (f j))) (fun q => by cases q) (by show ¬ (i < 0 ∨ (arrV _ _ _).slots.size ≤ _); rw [arrV_size]; exact hin) rfl rfl hdg fun H1 e z oq => ?_
  refine kk H1 _ ls ?_ (Eq.mpr (congrFun (congrFun hA H1) _) (hS1.put z oq hb)) h
  show va_P g.2.2.2.1 vwCl W1 H1
  rw [← hset]
  refine hP.set hD ha ?_ oq
  show H1[b]? = some (vp_cell _ _)
  rw [e, vp_cell_l, vp_cell_l, arrV_store]
  congr 2
  funext q
  by_cases hq : q = i.toNatClampNeg
  · subst hq
    simp [updV, vp_updL]
  · simp [updV, vp_updL, hq]
/-- a row of ints is made -/
theorem a_newa (X : Kx (gC g cs sl) cI cS cc own Ts nL rm) (hA : g.2.2.1 = va_S A g.1.2.2.2.2.heap) (hD : va_D (fun _ => True) W0) (harr : Cond.arrayClass .int ∈ Ts) {n : Int32} {N : Nat} (hn : ¬ n < 0) (hN : n.toNatClampNeg = N) (hbytes : N ≤ 10000) (hcs : cs + 1 ≤ rm.cells) (hsl : sl + N ≤ rm.slots) (hdg : decode cc pc = .ok (.newarray .int, 2)) (kk : ∀ q : Nat, g.1.2.2.2.2.heap.size ≤ q → va_D (fun _ => True) (W0 ++ [(q, .inl (cI, N, .inl (fun _ => 0)))]) → JA (gC g (cs + 1) (sl + N)) (W0 ++ [(q, .inl (cI, N, .inl (fun _ => 0)))]) nL (pc + 2) lv (.ref q :: st)) : JA (gC g cs sl) W0 nL pc lv (.int n :: st) := fun H locs ls hP hS h => by
  have hP : va_P g.2.2.2.1 vwCl W0 H := hP
  have hS1 : va_S A g.1.2.2.2.2.heap H locs := Eq.mp (congrFun (congrFun hA H) locs) hS
  refine va_newaK (atype := .int) X.1 X.2.1 (X.2.2.2.2.1 _ harr) rfl hdg rfl hn hN (by show N * 4 ≤ _; omega) (by rw [X.2.2.2.2.2.2.1]; exact hcs) (by rw [X.2.2.2.2.2.2.1]; exact hsl) rfl fun H1 cA e1 z1 o1 hAr hNm => ?_
  have hK : va_K g.2.2.2.1 vwCl (kTy cI cS) g.1.2.2.2.2 := X.2.2.2.2.2.1.1
  have hcA : cA = cI := Option.some.inj (hNm.symm.trans (hK.2 0 (cI, .int) rfl).2)
  subst hcA
  have hk : ∀ (k : Nat) (x : Nat × va_E), W0[k]? = some x → H1[x.1]? = H[x.1]? := fun k x hx => o1 x.1 ((hP k x hx).lt)
  refine kk H.size hS1.1 (hD.push hP rfl trivial) H1 locs ls ?_ (Eq.mpr (congrFun (congrFun hA H1) locs) ⟨Nat.le_trans hS1.1 (by omega), fun x h1 h2 => (o1 x (Nat.lt_of_lt_of_le h1 hS1.1)).trans (hS1.2.1 x h1 h2), hS1.2.2⟩) h
  show va_P g.2.2.2.1 vwCl (W0 ++ [(H.size, .inl (cA, N, .inl (fun _ => 0)))]) H1
  refine (hP.kept hk).app (fun k x hx => ?_)
  have hz : k < 1 := (List.getElem?_eq_some_iff.mp hx).1
  have hz0 : k = 0 := by omega
  subst hz0
  cases hx
  exact e1
theorem a_callIL (X : Kx g cI cS cc own Ts nL rm) (hE : kE g.2.2.2.1 cJ g.1.2.2.2.2) (hM : mIL g.1.2.1 y wsc rmc g.2.2.2.1 cI cS W1 (kE g.2.2.2.1 cJ) As r) (hsub : ∀ H : Heap, va_P g.2.2.2.1 vwCl W0 H → va_P g.2.2.2.1 vwCl W1 H) (hG : GoodIn Ts (va_wsS own index y wsc)) (hw : wsc = Cond.code y bytes maxL ret :: wsc') (h0 : rmc.cells = 0 ∧ rmc.slots = 0) {n : Nat} (hd : kHd y n) (hR : kRm rmc rm maxL) (hn : As.length = n) (hsum : (st.map fun v => v.category).sum ≤ 8) (hst : st0 = As.reverse ++ st) (hdg : decode cc pc = .ok (.invokestatic index, 3)) (kk : JA g W0 nL (pc + 3) lv (.int r :: st)) : JA g W0 nL pc lv st0 := by
  intro H locs ls hP hS hl
  subst hst
  have hk := X.2.2.2.2.2.1
  refine vp_callSi (W.runS (As := As) (rest := st) (nL := nL) ⟨X.1, X.2.1, X.2.2.1, X.2.2.2.1, X.2.2.2.2.1⟩ hM (va_cwS n X.2.2.2.2.1 hG hw h0.1 h0.2 hd (by rw [X.2.2.2.2.2.2.1]; exact hR)) ⟨fun a U f mk q => ⟨q.1, q.2.1, q.2.2.1.blind, q.2.2.2.blind⟩, fun U hU hW => ⟨rfl, by rw [hU]; exact hsub H hP, hk.warm hW, hE.warm hW⟩⟩ rfl hn hl.2.1 rfl (lv_room hsum) hdg ⟨by rw [X.2.2.2.2.2.2.1]; exact X.2.2.2.2.2.2.2.1, by rw [X.2.2.2.2.2.2.1]; exact X.2.2.2.2.2.2.2.2⟩) (fun r' hr' => ?_)
  subst hr'
  exact kk H locs ls hP hS hl
theorem a_callLL (X : Kx g cI cS cc own Ts nL rm) (hE : kE g.2.2.2.1 cJ g.1.2.2.2.2) (hM : mLL g.1.2.1 y wsc rmc g.2.2.2.1 cI cS W1 (kE g.2.2.2.1 cJ) As rL) (hsub : ∀ H : Heap, va_P g.2.2.2.1 vwCl W0 H → va_P g.2.2.2.1 vwCl W1 H) (hG : GoodIn Ts (va_wsS own index y wsc)) (hw : wsc = Cond.code y bytes maxL ret :: wsc') (h0 : rmc.cells = 0 ∧ rmc.slots = 0) {n : Nat} (hd : kHd y n) (hR : kRm rmc rm maxL) (hn : As.length = n) (hsum : (st.map fun v => v.category).sum ≤ 8) (hst : st0 = As.reverse ++ st) (hdg : decode cc pc = .ok (.invokestatic index, 3)) (kk : JA g W0 nL (pc + 3) lv (.long rL :: st)) : JA g W0 nL pc lv st0 := by
  intro H locs ls hP hS hl
  subst hst
  have hk := X.2.2.2.2.2.1
  refine vp_callSl (W.runS (As := As) (rest := st) (nL := nL) ⟨X.1, X.2.1, X.2.2.1, X.2.2.2.1, X.2.2.2.2.1⟩ hM (va_cwS n X.2.2.2.2.1 hG hw h0.1 h0.2 hd (by rw [X.2.2.2.2.2.2.1]; exact hR)) ⟨fun a U f mk q => ⟨q.1, q.2.1, q.2.2.1.blind, q.2.2.2.blind⟩, fun U hU hW => ⟨rfl, by rw [hU]; exact hsub H hP, hk.warm hW, hE.warm hW⟩⟩ rfl hn hl.2.1 rfl (lv_room hsum) hdg ⟨by rw [X.2.2.2.2.2.2.1]; exact X.2.2.2.2.2.2.2.1, by rw [X.2.2.2.2.2.2.1]; exact X.2.2.2.2.2.2.2.2⟩) (fun r' hr' => ?_)
  subst hr'
  exact kk H locs ls hP hS hl
theorem a_callLP (X : Kx g cI cS cc own Ts nL rm) (hM : mLP g.1.2.1 y wsc rmc g.2.2.2.1 cI cS As rL) (hG : GoodIn Ts (va_wsS own index y wsc)) (hw : wsc = Cond.code y bytes maxL ret :: wsc') (h0 : rmc.cells = 0 ∧ rmc.slots = 0) {n : Nat} (hd : kHd y n) (hR : kRm rmc rm maxL) (hn : As.length = n) (hsum : (st.map fun v => v.category).sum ≤ 8) (hst : st0 = As.reverse ++ st) (hdg : decode cc pc = .ok (.invokestatic index, 3)) (kk : JA g W0 nL (pc + 3) lv (.long rL :: st)) : JA g W0 nL pc lv st0 := by
  intro H locs ls hP hS hl
  subst hst
  have hk := X.2.2.2.2.2.1
  refine vp_callSl (W.runS (As := As) (rest := st) (nL := nL) ⟨X.1, X.2.1, X.2.2.1, X.2.2.2.1, X.2.2.2.2.1⟩ hM (va_cwS n X.2.2.2.2.1 hG hw h0.1 h0.2 hd (by rw [X.2.2.2.2.2.2.1]; exact hR)) ⟨fun a U f mk q => ⟨q.1, q.2.blind⟩, fun U hU hW => ⟨rfl, hk.warm hW⟩⟩ rfl hn hl.2.1 rfl (lv_room hsum) hdg ⟨by rw [X.2.2.2.2.2.2.1]; exact X.2.2.2.2.2.2.2.1, by rw [X.2.2.2.2.2.2.1]; exact X.2.2.2.2.2.2.2.2⟩) (fun r' hr' => ?_)
  subst hr'
  exact kk H locs ls hP hS hl
theorem a_callAL (X : Kx (gC g cs sl) cI cS cc own Ts nL rm) (hE : kE g.2.2.2.1 cJ g.1.2.2.2.2) (hA : g.2.2.1 = va_S A g.1.2.2.2.2.heap) (hM : mAL g.1.2.1 y wsc rmc g.2.2.2.1 cI cS W1 (kE g.2.2.2.1 cJ) As r mc ms) (hsub : ∀ H : Heap, va_P g.2.2.2.1 vwCl W0 H → va_P g.2.2.2.1 vwCl W1 H) (hG : GoodIn Ts (va_wsS own index y wsc)) (hw : wsc = Cond.code y bytes maxL ret :: wsc') (hrc : rmc.cells = mc) (hrs : rmc.slots = ms) {n : Nat} (hd : kHd y n) (hR : kRm rmc rm maxL) (hn : As.length = n) (hcs : cs + mc ≤ rm.cells) (hsl : sl + ms ≤ rm.slots) (hsum : (st.map fun v => v.category).sum ≤ 8) (hst : st0 = As.reverse ++ st) (hdg : decode cc pc = .ok (.invokestatic index, 3)) (kk : JA (gC g (cs + mc) (sl + ms)) W0 nL (pc + 3) lv (.int r :: st)) : JA (gC g cs sl) W0 nL pc lv st0 := by
  intro H locs ls hP hS hl
  subst hst
  have hk := X.2.2.2.2.2.1
  have hP : va_P g.2.2.2.1 vwCl W0 H := hP
  refine va_calli (va_runS (As := As) (rest := st) (nL := nL) ⟨X.1, X.2.1, X.2.2.1, X.2.2.2.1, X.2.2.2.2.1⟩ hM (va_cwS n X.2.2.2.2.1 hG hw hrc hrs hd (by rw [X.2.2.2.2.2.2.1]; exact hR)) ⟨fun a U f mk q => ⟨q.1, q.2.1, q.2.2.1.blind, q.2.2.2.blind⟩, fun U hU hW => ⟨rfl, by rw [hU]; exact hsub H hP, hk.warm hW, hE.warm hW⟩⟩ rfl hn hl.2.1 rfl (lv_room hsum) hdg ⟨by rw [X.2.2.2.2.2.2.1]; exact hcs, by rw [X.2.2.2.2.2.2.1]; exact hsl⟩) (Eq.mp (congrFun (congrFun hA H) locs) hS) (fun _ _ h => h.elim) (fun _ h => h.elim) (fun r' u t H1 locs1 ht hvm hw hB hz hk1 hS1 => ?_)
  have hw : r' = r := hw
  subst hw
  exact kk H1 locs1 ls (hP.kept (fun k x hx => hk1 x.1 (hP k x hx).lt (fun h => h))) (Eq.mpr (congrFun (congrFun hA H1) locs1) hS1) hl
/-- a static writer over the same world -/
theorem a_callWL (X : Kx g cI cS cc own Ts nL rm) (hE : kE g.2.2.2.1 cJ g.1.2.2.2.2) (hA : g.2.2.1 = va_S A g.1.2.2.2.2.heap) (hM : mWL g.1.2.1 y wsc rmc g.2.2.2.1 cI cS W0 W1 A (kE g.2.2.2.1 cJ) As r) (hG : GoodIn Ts (va_wsS own index y wsc)) (hw : wsc = Cond.code y bytes maxL ret :: wsc') (h0 : rmc.cells = 0 ∧ rmc.slots = 0) {n : Nat} (hd : kHd y n) (hR : kRm rmc rm maxL) (hn : As.length = n) (hsum : (st.map fun v => v.category).sum ≤ 8) (hst : st0 = As.reverse ++ st) (hdg : decode cc pc = .ok (.invokestatic index, 3)) (kk : JA g W1 nL (pc + 3) lv (.int r :: st)) : JA g W0 nL pc lv st0 := by
  intro H locs ls hP hS hl
  subst hst
  have hk := X.2.2.2.2.2.1
  have hP : va_P g.2.2.2.1 vwCl W0 H := hP
  refine va_calli (va_runS (As := As) (rest := st) (nL := nL) ⟨X.1, X.2.1, X.2.2.1, X.2.2.2.1, X.2.2.2.2.1⟩ hM (va_cwS n X.2.2.2.2.1 hG hw h0.1 h0.2 hd (by rw [X.2.2.2.2.2.2.1]; exact hR)) ⟨fun a U f mk q => ⟨q.1, q.2.1, q.2.2.1.blind, q.2.2.2.blind⟩, fun U hU hW => ⟨rfl, by rw [hU]; exact hP, hk.warm hW, hE.warm hW⟩⟩ rfl hn hl.2.1 rfl (lv_room hsum) hdg ⟨by rw [X.2.2.2.2.2.2.1]; exact X.2.2.2.2.2.2.2.1, by rw [X.2.2.2.2.2.2.1]; exact X.2.2.2.2.2.2.2.2⟩) (Eq.mp (congrFun (congrFun hA H) locs) hS) (fun _ _ h => h) (fun _ h => h) (fun r' u t H1 locs1 ht hvm hw hB hz hk1 hS1 => ?_)
  have hw : r' = r := hw
  subst hw
  exact kk H1 locs1 ls (by rw [← ht]; exact hB) (Eq.mpr (congrFun (congrFun hA H1) locs1) hS1) hl
end LJ2
end
section
/-! ===== the law's worlds: g (8 ints), x (26 ints), t (14 longs); beside the class; with rows that a method makes ===== -/
def WL3 (cI cJ : ClassId) (al : Nat → Nat) (L : kS) : va_W := [(al 0, .inl (cI, 8, .inl (L 0))), (al 1, .inl (cI, 26, .inl (L 1))), (al 2, .inl (cJ, 14, .inr (.inl (fun i => (L 2 i).toInt64))))]
def WLb (cI cJ : ClassId) (al : Nat → Nat) (q : Nat) (L : kS) : va_W := WL3 cI cJ al L ++ [(q, .inl (cI, 12, .inl (L 3)))]
def WCL (cI cS cJ : ClassId) (ad al : Nat → Nat) (p : kS × kS) : va_W := WC cI cS ad p.1 ++ WL3 cI cJ al p.2
def WCL1 (cI cS cJ : ClassId) (ad al : Nat → Nat) (q4 : Nat) (p : kS × kS) : va_W := WCL cI cS cJ ad al p ++ [(q4, .inl (cI, 6, .inl (p.2 4)))]
def WCL2 (cI cS cJ : ClassId) (ad al : Nat → Nat) (q4 q5 : Nat) (p : kS × kS) : va_W := WCL1 cI cS cJ ad al q4 p ++ [(q5, .inl (cI, 8, .inl (p.2 5)))]
section LW
variable {cI cS cJ : ClassId} {ad al : Nat → Nat} {L L' : kS} {p p' : kS × kS} {q q4 q5 : Nat}
theorem w3_0 : (WL3 cI cJ al L)[0]? = some (al 0, .inl (cI, 8, .inl (L 0))) := rfl
theorem w3_1 : (WL3 cI cJ al L)[1]? = some (al 1, .inl (cI, 26, .inl (L 1))) := rfl
theorem w3_2 : (WL3 cI cJ al L)[2]? = some (al 2, .inl (cJ, 14, .inr (.inl (fun i => (L 2 i).toInt64)))) := rfl
theorem wb_0 : (WLb cI cJ al q L)[0]? = some (al 0, .inl (cI, 8, .inl (L 0))) := rfl
theorem wb_1 : (WLb cI cJ al q L)[1]? = some (al 1, .inl (cI, 26, .inl (L 1))) := rfl
theorem wb_2 : (WLb cI cJ al q L)[2]? = some (al 2, .inl (cJ, 14, .inr (.inl (fun i => (L 2 i).toInt64)))) := rfl
theorem wb_3 : (WLb cI cJ al q L)[3]? = some (q, .inl (cI, 12, .inl (L 3))) := rfl
theorem WC_len {C : kS} : (WC cI cS ad C).length = 132 := by unfold WC; simp
theorem wcl_0 : (WCL cI cS cJ ad al p)[132]? = some (al 0, .inl (cI, 8, .inl (p.2 0))) := at_r (w1 := WC cI cS ad p.1) (w2 := WL3 cI cJ al p.2) (k := 0) rfl WC_len
theorem wcl_1 : (WCL cI cS cJ ad al p)[133]? = some (al 1, .inl (cI, 26, .inl (p.2 1))) := at_r (w1 := WC cI cS ad p.1) (w2 := WL3 cI cJ al p.2) (k := 1) rfl WC_len
theorem wcl_2 : (WCL cI cS cJ ad al p)[134]? = some (al 2, .inl (cJ, 14, .inr (.inl (fun i => (p.2 2 i).toInt64)))) := at_r (w1 := WC cI cS ad p.1) (w2 := WL3 cI cJ al p.2) (k := 2) rfl WC_len
theorem WCL_len : (WCL cI cS cJ ad al p).length = 135 := by unfold WCL; rw [List.length_append, WC_len]; rfl
theorem WCL1_len : (WCL1 cI cS cJ ad al q4 p).length = 136 := by unfold WCL1; rw [List.length_append, WCL_len]; rfl
theorem wcm_0 : (WCL2 cI cS cJ ad al q4 q5 p)[132]? = some (al 0, .inl (cI, 8, .inl (p.2 0))) := at_l (at_l wcl_0)
theorem wcm_1 : (WCL2 cI cS cJ ad al q4 q5 p)[133]? = some (al 1, .inl (cI, 26, .inl (p.2 1))) := at_l (at_l wcl_1)
theorem wcm_2 : (WCL2 cI cS cJ ad al q4 q5 p)[134]? = some (al 2, .inl (cJ, 14, .inr (.inl (fun i => (p.2 2 i).toInt64)))) := at_l (at_l wcl_2)
theorem wcm_4 : (WCL2 cI cS cJ ad al q4 q5 p)[135]? = some (q4, .inl (cI, 6, .inl (p.2 4))) := at_l (at_r (w1 := WCL cI cS cJ ad al p) (k := 0) rfl WCL_len)
theorem wcm_5 : (WCL2 cI cS cJ ad al q4 q5 p)[136]? = some (q5, .inl (cI, 8, .inl (p.2 5))) := at_r (w1 := WCL1 cI cS cJ ad al q4 p) (k := 0) rfl WCL1_len
theorem set_r {w1 w2 : va_W} {k n : Nat} {x : Nat × va_E} (hn : w1.length = n) : (w1 ++ w2).set (n + k) x = w1 ++ w2.set k x := by
  subst hn
  rw [List.set_append_right _ _ (Nat.le_add_right _ _), Nat.add_sub_cancel_left]
theorem set_l {w1 w2 : va_W} {n : Nat} {x : Nat × va_E} (hn : n < w1.length) : (w1 ++ w2).set n x = w1.set n x ++ w2 := List.set_append_left _ _ hn
theorem WL3_c (h0 : L' 0 = L 0) (h1 : L' 1 = L 1) (h2 : L' 2 = L 2) : WL3 cI cJ al L' = WL3 cI cJ al L := by
  unfold WL3
  rw [h0, h1, h2]
theorem s3_0 (f : Nat → Int32) : (WL3 cI cJ al L).set 0 (al 0, .inl (cI, 8, .inl f)) = WL3 cI cJ al (up1 L 0 f) := rfl
theorem s3_1 (f : Nat → Int32) : (WL3 cI cJ al L).set 1 (al 1, .inl (cI, 26, .inl f)) = WL3 cI cJ al (up1 L 1 f) := rfl
theorem s3_2 (i : Nat) (v : Int64) (x : Int32) (h : x.toInt64 = v) : (WL3 cI cJ al L).set 2 (al 2, .inl (cJ, 14, .inr (.inl (vp_updL (fun i => (L 2 i).toInt64) i v)))) = WL3 cI cJ al (up1 L 2 (upd (L 2) i x)) := by
  have e : vp_updL (fun i => (L 2 i).toInt64) i v = fun j => ((upd (L 2) i x) j).toInt64 := by
    funext j
    unfold vp_updL upd
    by_cases hj : j = i
    · rw [if_pos hj, if_pos hj, h]
    · rw [if_neg hj, if_neg hj]
  rw [e]
  rfl
theorem sb_3 (f : Nat → Int32) : (WLb cI cJ al q L).set 3 (q, .inl (cI, 12, .inl f)) = WLb cI cJ al q (up1 L 3 f) := rfl
theorem scl_0 (f : Nat → Int32) : (WCL cI cS cJ ad al p).set 132 (al 0, .inl (cI, 8, .inl f)) = WCL cI cS cJ ad al (p.1, up1 p.2 0 f) := set_r (w1 := WC cI cS ad p.1) (w2 := WL3 cI cJ al p.2) (k := 0) WC_len
theorem scl_1 (f : Nat → Int32) : (WCL cI cS cJ ad al p).set 133 (al 1, .inl (cI, 26, .inl f)) = WCL cI cS cJ ad al (p.1, up1 p.2 1 f) := set_r (w1 := WC cI cS ad p.1) (w2 := WL3 cI cJ al p.2) (k := 1) WC_len
theorem scl_2 (i : Nat) (v : Int64) (x : Int32) (h : x.toInt64 = v) : (WCL cI cS cJ ad al p).set 134 (al 2, .inl (cJ, 14, .inr (.inl (vp_updL (fun i => (p.2 2 i).toInt64) i v)))) = WCL cI cS cJ ad al (p.1, up1 p.2 2 (upd (p.2 2) i x)) := (set_r (w1 := WC cI cS ad p.1) (w2 := WL3 cI cJ al p.2) (k := 2) WC_len).trans (congrArg (fun w => WC cI cS ad p.1 ++ w) (s3_2 i v x h))
theorem scm_4 (f : Nat → Int32) : (WCL2 cI cS cJ ad al q4 q5 p).set 135 (q4, .inl (cI, 6, .inl f)) = WCL2 cI cS cJ ad al q4 q5 (p.1, up1 p.2 4 f) := by
  unfold WCL2
  rw [set_l (by rw [WCL1_len]; decide)]
  unfold WCL1
  rw [set_r (k := 0) WCL_len]
  rfl
theorem scm_5 (f : Nat → Int32) : (WCL2 cI cS cJ ad al q4 q5 p).set 136 (q5, .inl (cI, 8, .inl f)) = WCL2 cI cS cJ ad al q4 q5 (p.1, up1 p.2 5 f) := by
  unfold WCL2
  rw [set_r (k := 0) WCL1_len]
  rfl
/-! the rows just made -/
theorem nw_b : WL3 cI cJ al L ++ [(q, .inl (cI, 12, .inl (fun _ => 0)))] = WLb cI cJ al q (up1 L 3 (fun _ => 0)) := rfl
theorem nw_4 : WCL cI cS cJ ad al p ++ [(q4, .inl (cI, 6, .inl (fun _ => 0)))] = WCL1 cI cS cJ ad al q4 (p.1, up1 p.2 4 (fun _ => 0)) := rfl
theorem nw_5 : WCL1 cI cS cJ ad al q4 p ++ [(q5, .inl (cI, 8, .inl (fun _ => 0)))] = WCL2 cI cS cJ ad al q4 q5 (p.1, up1 p.2 5 (fun _ => 0)) := rfl
/-! apart -/
theorem D_of {w w' : va_W} (h : va_D (fun _ => True) w) (e : w'.map Prod.fst = w.map Prod.fst) : va_D (fun _ => True) w' := by
  refine ⟨fun i j p q hp hq hpq => ?_, fun k q hk => trivial⟩
  have h1 : (w.map Prod.fst)[i]? = some p.1 := by rw [← e, List.getElem?_map, hp]; rfl
  have h2 : (w.map Prod.fst)[j]? = some q.1 := by rw [← e, List.getElem?_map, hq]; rfl
  rw [List.getElem?_map] at h1 h2
  cases h3 : w[i]? with
  | none => rw [h3] at h1; cases h1
  | some p' =>
    cases h4 : w[j]? with
    | none => rw [h4] at h2; cases h2
    | some q' =>
      rw [h3] at h1
      rw [h4] at h2
      have h5 : p'.1 = p.1 := Option.some.inj h1
      have h6 : q'.1 = q.1 := Option.some.inj h2
      exact h.1 i j p' q' h3 h4 (by rw [h5, h6, hpq])
theorem WC_fst {C C' : kS} : (WC cI cS ad C').map Prod.fst = (WC cI cS ad C).map Prod.fst := by
  unfold WC
  rw [List.map_map, List.map_map]
  rfl
theorem WL3_D (h : kInj 3 al) : va_D (fun _ => True) (WL3 cI cJ al L) := by
  have e : ∀ (i : Nat) (x : Nat × va_E), (WL3 cI cJ al L)[i]? = some x → i < 3 ∧ x.1 = al i := by
    intro i x hx
    match i, hx with
    | 0, hx => cases hx; exact ⟨by decide, rfl⟩
    | 1, hx => cases hx; exact ⟨by decide, rfl⟩
    | 2, hx => cases hx; exact ⟨by decide, rfl⟩
    | i + 3, hx => simp [WL3] at hx
  refine ⟨fun i j p q hp hq hpq => ?_, fun k q hk => trivial⟩
  obtain ⟨a1, a2⟩ := e i p hp
  obtain ⟨b1, b2⟩ := e j q hq
  exact h i j a1 b1 (by rw [← a2, ← b2]; exact hpq)
def lwD (ad al : Nat → Nat) : Prop := kInj 132 ad ∧ kInj 3 al ∧ ∀ i j : Nat, i < 132 → j < 3 → ad i ≠ al j
def lwA (ad al : Nat → Nat) : Nat → Prop := fun q => kAd 132 ad q ∨ kAd 3 al q
theorem WL3_ad {i : Nat} {x : Nat × va_E} (hx : (WL3 cI cJ al L)[i]? = some x) : i < 3 ∧ x.1 = al i := by
  match i, hx with
  | 0, hx => cases hx; exact ⟨by decide, rfl⟩
  | 1, hx => cases hx; exact ⟨by decide, rfl⟩
  | 2, hx => cases hx; exact ⟨by decide, rfl⟩
  | i + 3, hx => simp [WL3] at hx
theorem WC_ad {C : kS} {k : Nat} {x : Nat × va_E} (hx : (WC cI cS ad C)[k]? = some x) : k < 132 ∧ x.1 = ad k := by
  have hi : k < 132 := by
    have h1 := (List.getElem?_eq_some_iff.mp hx).1
    rw [WC_len] at h1
    exact h1
  rw [WC_at hi] at hx
  cases hx
  exact ⟨hi, rfl⟩
theorem WCL_D (h : lwD ad al) : va_D (fun _ => True) (WCL cI cS cJ ad al p) := by
  have e : ∀ (i : Nat) (x : Nat × va_E), (WCL cI cS cJ ad al p)[i]? = some x → (i < 132 ∧ x.1 = ad i) ∨ (∃ j, i = 132 + j ∧ j < 3 ∧ x.1 = al j) := by
    intro i x hx
    rcases Nat.lt_or_ge i 132 with z | z
    · unfold WCL at hx
      rw [List.getElem?_append_left (by rw [WC_len]; exact z)] at hx
      exact Or.inl (WC_ad hx)
    · unfold WCL at hx
      rw [List.getElem?_append_right (by rw [WC_len]; exact z), WC_len] at hx
      obtain ⟨a1, a2⟩ := WL3_ad hx
      exact Or.inr ⟨i - 132, by omega, a1, a2⟩
  refine ⟨fun i j p q hp hq hpq => ?_, fun k q hk => trivial⟩
  rcases e i p hp with ⟨a1, a2⟩ | ⟨a, a0, a1, a2⟩ <;> rcases e j q hq with ⟨b1, b2⟩ | ⟨b, b0, b1, b2⟩
  · exact h.1 i j a1 b1 (by rw [← a2, ← b2]; exact hpq)
  · exact absurd (by rw [← a2, ← b2]; exact hpq) (h.2.2 i b a1 b1)
  · exact absurd (by rw [← a2, ← b2]; exact hpq.symm) (h.2.2 j a b1 a1)
  · have := h.2.1 a b a1 b1 (by rw [← a2, ← b2]; exact hpq)
    omega
theorem WLb_fst : (WLb cI cJ al q L').map Prod.fst = (WLb cI cJ al q L).map Prod.fst := rfl
theorem WCL1_fst : (WCL1 cI cS cJ ad al q4 p').map Prod.fst = (WCL1 cI cS cJ ad al q4 p).map Prod.fst := by
  unfold WCL1 WCL
  rw [List.map_append, List.map_append, WC_fst (C := p.1) (C' := p'.1), List.map_append, List.map_append]
  rfl
theorem WCL2_fst : (WCL2 cI cS cJ ad al q4 q5 p').map Prod.fst = (WCL2 cI cS cJ ad al q4 q5 p).map Prod.fst := by
  unfold WCL2 WCL1 WCL
  rw [List.map_append, List.map_append, List.map_append, WC_fst (C := p.1) (C' := p'.1), List.map_append, List.map_append, List.map_append]
  rfl
theorem al_A {j : Nat} (hj : j < 3) : lwA ad al (al j) := Or.inr ⟨j, hj, rfl⟩
theorem al_B {j : Nat} (hj : j < 3) : kAd 3 al (al j) := ⟨j, hj, rfl⟩
end LW
section LW1
variable {g : kG} {cI cS cJ : ClassId} {cc : ByteArray} {own : String} {Ts : List Cond} {nL : Nat} {rm : Room} {A : Nat → Prop} {ad al : Nat → Nat} {C C' : kS} {p : kS × kS} {pc : Nat} {lv lv' : List (Option Value)} {st st0 : List Value} {LV GV : Nat} {W0 R : va_W}
variable {y : MethodName} {wsc wsc' : List Cond} {rmc : Room} {bytes : ByteArray} {maxL index : Nat} {ret : Option FieldType} {As : List Value} {r : Int32}
theorem kZ_mv {B : Nat → Prop} {s U : State} (h : kZ A LV GV s) (hW : s.vm.Alike U.vm) (hk : ∀ q : Nat, q < s.heap.size → ¬ A q → U.heap[q]? = s.heap[q]?) (hB : ∀ q, B q → A q) : kZ B LV GV U := ⟨⟨(va_Z.moved hW (va_Z.kept h.1.1 hk)).narrow hB, (va_T.moved hW (va_T.kept h.1.2 hk)).narrow hB⟩, (va_Z.moved hW (va_Z.kept h.2.1 hk)).narrow hB, (va_T.moved hW (va_T.kept h.2.2 hk)).narrow hB⟩
/-- a question to the class -/
theorem a_cI (X : Kx g cI cS cc own Ts nL rm) (hsub : ∀ H : Heap, va_P g.2.2.2.1 vwCl W0 H → va_P g.2.2.2.1 vwCl (WC cI cS ad C) H) (hM : mI g.1.2.1 y wsc rmc g.2.2.2.1 cI cS (WC cI cS ad) C (.ref (ad 0) :: As) r) (hG : GoodIn Ts (wsV own index RX8 y wsc)) (hw : wsc = Cond.code y bytes maxL ret :: wsc') (h0 : rmc.cells = 0 ∧ rmc.slots = 0) {n : Nat} (hC : y.cls = RX8) (hd : kHd y n) (hR : kRm rmc rm maxL) (hn : As.length = n) (hsum : (st.map fun v => v.category).sum ≤ 8) (hst : st0 = As.reverse ++ .ref (ad 0) :: st) (hdg : decode cc pc = .ok (.invokevirtual index, 3)) (kk : JA g W0 nL (pc + 3) lv (.int r :: st)) : JA g W0 nL pc lv st0 := by
  intro H locs ls hP hS hl
  subst hst
  have hk := X.2.2.2.2.2.1
  have hPC := hsub H hP
  refine vp_callSi (W.runV (As := As) (rest := st) (nL := nL) ⟨X.1, X.2.1, X.2.2.1, X.2.2.2.1, X.2.2.2.2.1⟩ hM (cwV n X.2.2.2.2.1 hG hw h0.1 h0.2 ⟨hC, hd⟩ (by rw [X.2.2.2.2.2.2.1]; exact hR)) ⟨fun a U f mk q => ⟨q.1, q.2.1, q.2.2.blind⟩, ?_, fun U hU hW => ⟨rfl, by rw [hU]; exact hPC, hk.warm hW⟩⟩ rfl hn hl.2.1 rfl (lv_room hsum) hdg ⟨by rw [X.2.2.2.2.2.2.1]; exact X.2.2.2.2.2.2.2.1, by rw [X.2.2.2.2.2.2.1]; exact X.2.2.2.2.2.2.2.2⟩) (fun r' hr' => ?_)
  · obtain ⟨cell, a1, a2, a3⟩ := va_recv hk.1 hPC (ci := 8) rfl (wc8 kd_0)
    exact ⟨cell, a1, a2, a3⟩
  · subst hr'
    exact kk H locs ls hP hS hl
/-- a change of the class, the law's cells beside it -/
theorem a_cW (X : Kx g cI cS cc own Ts nL rm) (hA : g.2.2.1 = va_S (lwA ad al) g.1.2.2.2.2.heap) (hI : lwD ad al) (hM : mW g.1.2.1 y wsc rmc g.2.2.2.1 cI cS (WC cI cS ad) (kAd 132 ad) p.1 (.ref (ad 0) :: As) r C') (hG : GoodIn Ts (wsV own index RX8 y wsc)) (hw : wsc = Cond.code y bytes maxL ret :: wsc') (h0 : rmc.cells = 0 ∧ rmc.slots = 0) {n : Nat} (hC : y.cls = RX8) (hd : kHd y n) (hR : kRm rmc rm maxL) (hn : As.length = n) (hsum : (st.map fun v => v.category).sum ≤ 8) (hst : st0 = As.reverse ++ .ref (ad 0) :: st) (hdg : decode cc pc = .ok (.invokevirtual index, 3)) (kk : JA g (WCL cI cS cJ ad al (C', p.2)) nL (pc + 3) lv (.int r :: st)) : JA g (WCL cI cS cJ ad al p) nL pc lv st0 := by
  intro H locs ls hP hS hl
  subst hst
  have hk := X.2.2.2.2.2.1
  have hP0 : va_P g.2.2.2.1 vwCl (WC cI cS ad p.1 ++ WL3 cI cJ al p.2) H := hP
  have hPC := P_l hP0
  have hPM := P_r hP0
  refine va_calli (va_runV (As := As) (rest := st) (nL := nL) ⟨X.1, X.2.1, X.2.2.1, X.2.2.2.1, X.2.2.2.2.1⟩ hM (cwV n X.2.2.2.2.1 hG hw h0.1 h0.2 ⟨hC, hd⟩ (by rw [X.2.2.2.2.2.2.1]; exact hR)) ⟨fun a U f mk q => ⟨q.1, q.2.1, q.2.2.blind⟩, ?_, fun U hU hW => ⟨rfl, by rw [hU]; exact hPC, hk.warm hW⟩⟩ rfl hn hl.2.1 rfl (lv_room hsum) hdg ⟨by rw [X.2.2.2.2.2.2.1]; exact X.2.2.2.2.2.2.2.1, by rw [X.2.2.2.2.2.2.1]; exact X.2.2.2.2.2.2.2.2⟩) (Eq.mp (congrFun (congrFun hA H) locs) hS) (fun _ _ h => Or.inl h) (fun _ h => Or.inl h) (fun r' u t H1 locs1 ht hvm hw hB hz hk1 hS1 => ?_)
  · obtain ⟨cell, a1, a2, a3⟩ := va_recv hk.1 hPC (ci := 8) rfl (wc8 kd_0)
    exact ⟨cell, a1, a2, a3⟩
  · have hw : r' = r := hw
    subst hw
    have hB1 : va_P g.2.2.2.1 vwCl (WC cI cS ad C') H1 := by rw [← ht]; exact hB
    exact kk H1 locs1 ls (hB1.app (hPM.kept (fun k x hx => hk1 x.1 (hPM k x hx).lt (fun ⟨i, hi, e⟩ => hI.2.2 i k hi (WL3_ad hx).1 (e.symm.trans (WL3_ad hx).2))))) (Eq.mpr (congrFun (congrFun hA H1) locs1) hS1) hl
theorem a_cE (X : Kx g cI cS cc own Ts nL rm) (hA : g.2.2.1 = va_S (lwA ad al) g.1.2.2.2.2.heap) (hI : lwD ad al) (hZ : kZ (lwA ad al) LV GV g.1.2.2.2.2) (hM : mWE g.1.2.1 y wsc rmc g.2.2.2.1 cI cS (WC cI cS ad) (kAd 132 ad) (kZ (kAd 132 ad) LV GV) p.1 (.ref (ad 0) :: As) r C') (hG : GoodIn Ts (wsV own index RX8 y wsc)) (hw : wsc = Cond.code y bytes maxL ret :: wsc') (h0 : rmc.cells = 0 ∧ rmc.slots = 0) {n : Nat} (hC : y.cls = RX8) (hd : kHd y n) (hR : kRm rmc rm maxL) (hn : As.length = n) (hsum : (st.map fun v => v.category).sum ≤ 8) (hst : st0 = As.reverse ++ .ref (ad 0) :: st) (hdg : decode cc pc = .ok (.invokevirtual index, 3)) (kk : JA g (WCL cI cS cJ ad al (C', p.2)) nL (pc + 3) lv (.int r :: st)) : JA g (WCL cI cS cJ ad al p) nL pc lv st0 := by
  intro H locs ls hP hS hl
  subst hst
  have hk := X.2.2.2.2.2.1
  have hP0 : va_P g.2.2.2.1 vwCl (WC cI cS ad p.1 ++ WL3 cI cJ al p.2) H := hP
  have hPC := P_l hP0
  have hPM := P_r hP0
  have hSA : va_S (lwA ad al) g.1.2.2.2.2.heap H locs := Eq.mp (congrFun (congrFun hA H) locs) hS
  refine va_calli (va_runV (As := As) (rest := st) (nL := nL) ⟨X.1, X.2.1, X.2.2.1, X.2.2.2.1, X.2.2.2.2.1⟩ hM (cwV n X.2.2.2.2.1 hG hw h0.1 h0.2 ⟨hC, hd⟩ (by rw [X.2.2.2.2.2.2.1]; exact hR)) ⟨fun a U f mk q => ⟨q.1, q.2.1, q.2.2.1.blind, kZ_mv q.2.2.2 (Vm.Alike.refl U.vm) (fun _ _ _ => rfl) (fun _ h => h)⟩, ?_, fun U hU hW => ⟨rfl, by rw [hU]; exact hPC, hk.warm hW, kZ_mv hZ hW.alike (fun q h1 h2 => by rw [hU]; exact hSA.2.1 q h1 h2) (fun _ h => Or.inl h)⟩⟩ rfl hn hl.2.1 rfl (lv_room hsum) hdg ⟨by rw [X.2.2.2.2.2.2.1]; exact X.2.2.2.2.2.2.2.1, by rw [X.2.2.2.2.2.2.1]; exact X.2.2.2.2.2.2.2.2⟩) hSA (fun _ _ h => Or.inl h) (fun _ h => Or.inl h) (fun r' u t H1 locs1 ht hvm hw hB hz hk1 hS1 => ?_)
  · obtain ⟨cell, a1, a2, a3⟩ := va_recv hk.1 hPC (ci := 8) rfl (wc8 kd_0)
    exact ⟨cell, a1, a2, a3⟩
  · have hw : r' = r := hw
    subst hw
    have hB1 : va_P g.2.2.2.1 vwCl (WC cI cS ad C') H1 := by rw [← ht]; exact hB
    exact kk H1 locs1 ls (hB1.app (hPM.kept (fun k x hx => hk1 x.1 (hPM k x hx).lt (fun ⟨i, hi, e⟩ => hI.2.2 i k hi (WL3_ad hx).1 (e.symm.trans (WL3_ad hx).2))))) (Eq.mpr (congrFun (congrFun hA H1) locs1) hS1) hl
end LW1
end
section
/-! all pure functions: the class, the reference as a mathematical function, the law -/
def f_X2_latest (N : Nat) (C : kS) : Option (Option Int32) := if C 24 1 ≤ 0 then some none else if nI (ln 25) < C 24 1 then some none else gIn (C 24 1 - 1) (ln 25) (some (some (C 25 (C 24 1 - 1).toNatClampNeg)))

/-- a long that fits an int -/
def gL {α : Type} (v : Int64) (x : Option α) : Option α := if v.toInt32.toInt64 = v then x else none
theorem gL_s {α : Type} {v : Int64} {x : Option α} {r : α} (h : gL v x = some r) : v.toInt32.toInt64 = v ∧ x = some r := by
  unfold gL at h
  by_cases c : v.toInt32.toInt64 = v
  · rw [if_pos c] at h; exact ⟨c, h⟩
  · rw [if_neg c] at h; cases h
theorem gL_t {α : Type} {v : Int64} {x : Option α} (h : v.toInt32.toInt64 = v) : gL v x = x := if_pos h

def f_J6_bitCount_0f7a4 (N : Nat) (a0 : Int32) : Option (Int32) := jn (a0 - (((a0.toUInt32 >>> ((1 : Int32).toUInt32 &&& Int32.toUInt32 31)).toInt32) &&& 1431655765)) (fun x1 : Int32 => jn ((x1 &&& 858993459) + (((x1.toUInt32 >>> ((2 : Int32).toUInt32 &&& Int32.toUInt32 31)).toInt32) &&& 858993459)) (fun x2 : Int32 => jn ((x2 + ((x2.toUInt32 >>> ((4 : Int32).toUInt32 &&& Int32.toUInt32 31)).toInt32)) &&& 252645135) (fun x3 : Int32 => jn (x3 + ((x3.toUInt32 >>> ((8 : Int32).toUInt32 &&& Int32.toUInt32 31)).toInt32)) (fun x4 : Int32 => jn (x4 + ((x4.toUInt32 >>> ((16 : Int32).toUInt32 &&& Int32.toUInt32 31)).toInt32)) (fun x5 : Int32 => some (x5 &&& 63))))))
def f_X3_at (N : Nat) (C : kS) (k : Nat) (a1 : Int32) : Option (Int32) := jn (fun (t1 : Int32) => some t1) (fun j23_1 => if a1 < 0 then j23_1 0 else if (nI (ln (k + 1))) ≤ a1 then j23_1 0 else gIn a1 (ln (k + 1)) (j23_1 (C (k + 1) a1.toNatClampNeg)))
def f_X1_widthOf (N : Nat) (C : kS) (a1 : Int32) : Option (Int32) := (f_X3_at N C 107 a1).bind (fun r2 => some r2)
def f_X0_upToMultiple (N : Nat) (a0 : Int32) (a1 : Int32) : Option (Int32) := jn (fun (t1 : Int32) => some t1) (fun j18_1 => if 1 ≤ a1 then gNz a1 (j18_1 ((((a0 + a1) - 1) / a1) * a1)) else j18_1 a0)
def f_X1_rankOf (N : Nat) (C : kS) (a1 : Int32) : Option (Int32) := (f_X3_at N C 109 a1).bind (fun r2 => some r2)
def f_X1_size (N : Nat) (C : kS) : Option (Int32) := some (C 106 4)
def f_X0_lastRankOfGroup (N : Nat) (C : kS) (k : Nat) (a1 : Int32) (a2 : Int32) : Option (Int32) := if 1 ≤ a2 then gNz a2 ((f_X1_size N C).bind (fun r4 => jn (fun (t5 : Int32) => jn (fun (t7 : Int32) => some t7) (fun j55_7 => if t5 = 0 then (f_X1_size N C).bind (fun r11 => j55_7 (r11 - 1)) else j55_7 ((((a1 / a2) * a2) + a2) - 1))) (fun j35_5 => if r4 ≤ (((((a1 / a2) * a2) + a2) - 1) + a2) then j35_5 0 else j35_5 1))) else some a1
def f_X1_widthAtRank (N : Nat) (C : kS) (a1 : Int32) : Option (Int32) := (f_X3_at N C 111 a1).bind (fun r2 => some r2)
def f_X0_barWidth (N : Nat) (C : kS) (k : Nat) (a1 : Int32) (a2 : Int32) (a3 : Int32) (a4 : Int32) : Option (Int32) := if a2 = 1 then (f_X1_widthOf N C a1).bind (fun r3 => (f_X0_upToMultiple N r3 a3).bind (fun r5 => some r5)) else if a2 = 2 then (f_X1_rankOf N C a1).bind (fun r8 => (f_X0_lastRankOfGroup N C k r8 a4).bind (fun r10 => (f_X1_widthAtRank N C r10).bind (fun r12 => some r12))) else if a2 = 3 then (f_X1_size N C).bind (fun r15 => (f_X1_widthAtRank N C (r15 - 1)).bind (fun r17 => some r17)) else (f_X1_widthOf N C a1).bind (fun r19 => some r19)
def f_X3_put (N : Nat) (C : kS) (k : Nat) (a1 : Int32) (a2 : Int32) : Option (kS) := if a1 < 0 then some C else if (nI (ln (k + 1))) ≤ a1 then some C else gIn a1 (ln (k + 1)) (jn (up1 C (k + 1) (upd (C (k + 1)) (a1.toNatClampNeg) a2)) (fun C4 : kS => some C4))
def lp_X0_draw_3 (N : Nat) (k : Nat) (a1 : Int32) (a2 : Int32) (a3 : Int32) (k39_1 : kS → Option (kS)) : Nat → Int32 → kS → Option (kS)
  | 0, _, _ => none
  | n + 1, x3, C4 => (f_X1_size N C4).bind (fun r6 => if r6 ≤ x3 then k39_1 C4 else (f_X0_barWidth N C4 k x3 a1 a2 a3).bind (fun r9 => (f_X3_put N C4 (k + 1) x3 r9).bind (fun C11 => lp_X0_draw_3 N k a1 a2 a3 k39_1 n (x3 + 1) C11)))
def f_X0_draw (N : Nat) (C : kS) (k : Nat) (a1 : Int32) (a2 : Int32) (a3 : Int32) : Option (kS) := jn (fun (C1 : kS) => some C1) (fun k39_1 => lp_X0_draw_3 N k a1 a2 a3 k39_1 N 0 C)
def f_X1_nameOf (N : Nat) (C : kS) (a1 : Int32) : Option (Int32) := jn (fun (t1 : Int32) => some t1) (fun j18_1 => if 1 ≤ (C 106 3) then gNz (C 106 3) (j18_1 (a1 / (C 106 3))) else j18_1 0)
def lp_X0_namesUnder_4 (N : Nat) (C : kS) (k : Nat) (a1 : Int32) (k46_1 : Int32 → Option (Int32)) : Nat → Int32 → Int32 → Option (Int32)
  | 0, _, _ => none
  | n + 1, x3, x4 => (f_X1_size N C).bind (fun r6 => if r6 ≤ x4 then k46_1 x3 else (f_X3_at N C (k + 1) x4).bind (fun r9 => jn (fun (x10 : Int32) => lp_X0_namesUnder_4 N C k a1 k46_1 n x10 (x4 + 1)) (fun j40_10 => if r9 = a1 then (f_X1_nameOf N C x4).bind (fun r14 => j40_10 (x3 ||| (1 <<< (r14 &&& 31)))) else j40_10 x3)))
def f_X0_namesUnder (N : Nat) (C : kS) (k : Nat) (a1 : Int32) : Option (Int32) := jn (fun (x1 : Int32) => some x1) (fun k46_1 => lp_X0_namesUnder_4 N C k a1 k46_1 N 0 0)
def f_X0_widthOf (N : Nat) (C : kS) (k : Nat) (a1 : Int32) : Option (Int32) := (f_X3_at N C (k + 1) a1).bind (fun r2 => some r2)
def f_X1_endingOf (N : Nat) (C : kS) (a1 : Int32) : Option (Int32) := jn (fun (t1 : Int32) => some t1) (fun j20_1 => if 1 ≤ (C 106 3) then gNz (C 106 3) (j20_1 ((a1 - a1 / (C 106 3) * (C 106 3)) - 1)) else j20_1 (-1))
def lp_X1_formsAheadOf_14 (N : Nat) (C : kS) (a1 : Int32) (r2 : Int32) (k61_3 : Int32 → Option (Int32)) : Nat → Int32 → Int32 → Option (Int32)
  | 0, _, _ => none
  | n + 1, x5, x6 => if (C 106 4) ≤ x6 then k61_3 x5 else (f_X3_at N C 107 x6).bind (fun r9 => jn (fun (x10 : Int32) => lp_X1_formsAheadOf_14 N C a1 r2 k61_3 n x10 (x6 + 1)) (fun j55_10 => jn (j55_10 (x5 + 1)) (fun j52_11 => if r9 < r2 then j52_11 else if r9 = r2 then if a1 ≤ x6 then j55_10 x5 else j52_11 else j55_10 x5)))
def f_X1_formsAheadOf (N : Nat) (C : kS) (a1 : Int32) : Option (Int32) := (f_X3_at N C 107 a1).bind (fun r2 => jn (fun (x3 : Int32) => some x3) (fun k61_3 => lp_X1_formsAheadOf_14 N C a1 r2 k61_3 N 0 0))
def f_X7_size (N : Nat) (C : kS) (k : Nat) : Option (Int32) := some (C k 4)
def lp_X7_widthOf_25 (N : Nat) (C : kS) (k : Nat) (a1 : Int32) (k2 : Nat) (r2 : Int32) (k59_3 : Int32 → Option (Int32)) : Nat → Int32 → Int32 → Option (Int32)
  | 0, _, _ => none
  | n + 1, x5, x6 => if ((a1 * (C k 1)) + r2) ≤ x6 then k59_3 x5 else (f_X3_at N C (k + 1) x6).bind (fun r9 => (f_X3_at N C k2 (r9 - 97)).bind (fun r11 => lp_X7_widthOf_25 N C k a1 k2 r2 k59_3 n (x5 + r11) (x6 + 1)))
def f_X7_widthOf (N : Nat) (C : kS) (k : Nat) (a1 : Int32) (k2 : Nat) : Option (Int32) := (f_X3_at N C (k + 3) a1).bind (fun r2 => jn (fun (x3 : Int32) => some x3) (fun k59_3 => lp_X7_widthOf_25 N C k a1 k2 r2 k59_3 N 0 (a1 * (C k 1))))
def f_X5_widthOfForm (N : Nat) (C : kS) (a1 : Int32) (a2 : Int32) : Option (Int32) := (f_X7_widthOf N C 10 a1 20).bind (fun r2 => (f_X7_widthOf N C 15 a2 20).bind (fun r4 => some (r2 + r4)))
def lp_X1_measure_69 (N : Nat) (k114_9 : kS → Option (kS)) : Nat → Int32 → kS → Option (kS)
  | 0, _, _ => none
  | n + 1, x11, C12 => if (C12 106 4) ≤ x11 then k114_9 C12 else (f_X1_formsAheadOf N C12 x11).bind (fun r15 => (f_X3_put N C12 109 x11 r15).bind (fun C17 => (f_X3_at N C17 107 x11).bind (fun r19 => (f_X3_put N C17 111 r15 r19).bind (fun C21 => lp_X1_measure_69 N k114_9 n (x11 + 1) C21))))
def lp_X1_measure_31 (N : Nat) (k67_7 : kS → Option (kS)) : Nat → Int32 → kS → Option (kS)
  | 0, _, _ => none
  | n + 1, x22, C23 => if (C23 106 4) ≤ x22 then k67_7 C23 else (f_X1_nameOf N C23 x22).bind (fun r26 => (f_X1_endingOf N C23 x22).bind (fun r28 => (f_X5_widthOfForm N C23 r26 r28).bind (fun r30 => (f_X3_put N C23 107 x22 r30).bind (fun C32 => lp_X1_measure_31 N k67_7 n (x22 + 1) C32))))
def f_X1_measure (N : Nat) (C : kS) : Option (kS) := (f_X7_size N C 15).bind (fun r2 => jn (up1 C 106 (upd (C 106) 3 (r2 + 1))) (fun C3 : kS => (f_X7_size N C3 10).bind (fun r5 => jn (up1 C3 106 (upd (C3 106) 4 (r5 * (C3 106 3)))) (fun C6 : kS => jn (fun (C7 : kS) => jn (fun (C9 : kS) => some C9) (fun k114_9 => lp_X1_measure_69 N k114_9 N 0 C7)) (fun k67_7 => lp_X1_measure_31 N k67_7 N 0 C6)))))
def lp_X2_moveOldestToEnd_2 (N : Nat) (k49_1 : kS → Option (kS)) : Nat → Int32 → kS → Option (kS)
  | 0, _, _ => none
  | n + 1, x3, C4 => if (nI (ln 25)) ≤ (x3 + 1) then k49_1 C4 else gIn x3 (ln 25) (jn (C4 25 (x3.toNatClampNeg)) (fun q7 : Int32 => gIf (kd q7.toNatClampNeg = 5) (gIn (x3 + 1) (ln 25) (jn (C4 25 ((x3 + 1).toNatClampNeg)) (fun q9 : Int32 => gIf (kd q9.toNatClampNeg = 5) (gIn x3 (ln 25) (jn (up1 C4 25 (upd (C4 25) (x3.toNatClampNeg) q9)) (fun C11 : kS => gIn (x3 + 1) (ln 25) (jn (up1 C11 25 (upd (C11 25) ((x3 + 1).toNatClampNeg) q7)) (fun C13 : kS => lp_X2_moveOldestToEnd_2 N k49_1 n (x3 + 1) C13))))))))))
def f_X2_moveOldestToEnd (N : Nat) (C : kS) : Option (kS) := jn (fun (C1 : kS) => some C1) (fun k49_1 => lp_X2_moveOldestToEnd_2 N k49_1 N 0 C)
def f_X3_copyFrom (N : Nat) (C : kS) (k : Nat) (k1 : Nat) : Option (kS) := jn (if (nI (ln (k1 + 1))) < (nI (ln (k + 1))) then (nI (ln (k1 + 1))) else (nI (ln (k + 1)))) (fun x1 : Int32 => gIf (¬ x1 < 0 ∧ x1.toNatClampNeg ≤ ln (k1 + 1) ∧ x1.toNatClampNeg ≤ ln (k + 1)) (jn (up1 C (k + 1) (va_cpy (C (k1 + 1)) (C (k + 1)) 0 0 x1.toNatClampNeg)) (fun C2 : kS => some C2)))
def f_X7_copyFrom (N : Nat) (C : kS) (k : Nat) (k1 : Nat) : Option (kS) := (f_X3_copyFrom N C (k + 1) (k1 + 1)).bind (fun C2 => (f_X3_copyFrom N C2 (k + 3) (k1 + 3)).bind (fun C4 => jn (if (C4 k1 4) < (C4 k 0) then (C4 k1 4) else (C4 k 0)) (fun x5 : Int32 => jn (up1 C4 k (upd (C4 k) 4 x5)) (fun C6 : kS => some C6))))
def f_X5_copyFrom (N : Nat) (C : kS) (k : Nat) (k1 : Nat) : Option (kS) := (f_X7_copyFrom N C (k + 1) (k1 + 1)).bind (fun C2 => (f_X7_copyFrom N C2 (k + 6) (k1 + 6)).bind (fun C4 => (f_X7_copyFrom N C4 (k + 11) (k1 + 11)).bind (fun C6 => (f_X3_copyFrom N C6 (k + 16) (k1 + 16)).bind (fun C8 => (f_X3_copyFrom N C8 (k + 18) (k1 + 18)).bind (fun C10 => some C10)))))
def f_X2_keep (N : Nat) (C : kS) : Option (kS) := jn (fun (C1 : kS) => (f_X2_latest N C1).bind (fun o4 => oM o4 (some C1) (fun q5 : Int32 => gIf (kd q5.toNatClampNeg = 5) ((f_X5_copyFrom N C1 q5.toNatClampNeg 4).bind (fun C7 => some C7))))) (fun j29_1 => if (nI (ln 25)) ≤ (C 24 1) then (f_X2_moveOldestToEnd N C).bind (fun C10 => j29_1 C10) else jn (up1 C 24 (upd (C 24) 1 ((C 24 1) + 1))) (fun C11 : kS => j29_1 C11))
def f_X2_size (N : Nat) (C : kS) : Option (Int32) := some (C 24 1)
def f_X4_isHidden (N : Nat) (C : kS) (a1 : Int32) : Option (Int32) := (f_X3_at N C 120 a1).bind (fun r2 => jn (fun (t3 : Int32) => some (t3 &&& 1)) (fun j17_3 => if r2 = (-1) then j17_3 0 else j17_3 1))
def lp_X4_barsBetween_5 (N : Nat) (C : kS) (a2 : Int32) (k29_1 : Int32 → Option (Int32)) : Nat → Int32 → Int32 → Option (Int32)
  | 0, _, _ => none
  | n + 1, x3, x4 => if a2 ≤ x4 then k29_1 x3 else (f_X4_isHidden N C x4).bind (fun r7 => jn (fun (x8 : Int32) => lp_X4_barsBetween_5 N C a2 k29_1 n x8 (x4 + 1)) (fun j23_8 => if r7 = 0 then j23_8 x3 else j23_8 (x3 + 1)))
def f_X4_barsBetween (N : Nat) (C : kS) (a1 : Int32) (a2 : Int32) : Option (Int32) := jn (fun (x1 : Int32) => some x1) (fun k29_1 => lp_X4_barsBetween_5 N C a2 k29_1 N 0 a1)
def f_X4_formOf (N : Nat) (C : kS) (a1 : Int32) : Option (Int32) := (f_X3_at N C 120 a1).bind (fun r2 => some r2)
def f_X4_namesUnder (N : Nat) (C : kS) (k1 : Nat) (a2 : Int32) : Option (Int32) := (f_X4_formOf N C a2).bind (fun r2 => (f_X0_widthOf N C k1 r2).bind (fun r4 => (f_X0_namesUnder N C k1 r4).bind (fun r6 => (f_J6_bitCount_0f7a4 N r6).bind (fun r8 => some r8))))
def lp_X4_betrayedBars_4 (N : Nat) (C : kS) (k1 : Nat) (k45_1 : Int32 → Option (Int32)) : Nat → Int32 → Int32 → Option (Int32)
  | 0, _, _ => none
  | n + 1, x3, x4 => (f_X7_size N C 5).bind (fun r6 => if r6 ≤ x4 then k45_1 x3 else (f_X4_isHidden N C x4).bind (fun r9 => jn (fun (x10 : Int32) => lp_X4_betrayedBars_4 N C k1 k45_1 n x10 (x4 + 1)) (fun j39_10 => if r9 = 0 then j39_10 x3 else (f_X4_namesUnder N C k1 x4).bind (fun r14 => if r14 = 1 then j39_10 (x3 + 1) else j39_10 x3))))
def f_X4_betrayedBars (N : Nat) (C : kS) (k1 : Nat) : Option (Int32) := jn (fun (x1 : Int32) => some x1) (fun k45_1 => lp_X4_betrayedBars_4 N C k1 k45_1 N 0 0)
def f_X4_shownWidthOf (N : Nat) (C : kS) (a1 : Int32) : Option (Int32) := (f_X3_at N C 124 a1).bind (fun r2 => some r2)
def lp_X4_hasBarAhead_2 (N : Nat) (C : kS) (a1 : Int32) (k36_0 : Option (Int32)) : Nat → Int32 → Option (Int32)
  | 0, _ => none
  | n + 1, x2 => if a1 ≤ x2 then k36_0 else (f_X4_isHidden N C x2).bind (fun r5 => jn (lp_X4_hasBarAhead_2 N C a1 k36_0 n (x2 + 1)) (fun j30_5 => if r5 = 0 then j30_5 else (f_X4_shownWidthOf N C x2).bind (fun r9 => (f_X4_shownWidthOf N C a1).bind (fun r11 => if r9 = r11 then some ((1 : Int32) &&& 1) else j30_5))))
def f_X4_hasBarAhead (N : Nat) (C : kS) (a1 : Int32) : Option (Int32) := jn (some ((0 : Int32) &&& 1)) (fun k36_0 => lp_X4_hasBarAhead_2 N C a1 k36_0 N 0)
def lp_X4_differentBarWidths_4 (N : Nat) (C : kS) (k43_1 : Int32 → Option (Int32)) : Nat → Int32 → Int32 → Option (Int32)
  | 0, _, _ => none
  | n + 1, x3, x4 => (f_X7_size N C 5).bind (fun r6 => if r6 ≤ x4 then k43_1 x3 else (f_X4_isHidden N C x4).bind (fun r9 => jn (fun (x10 : Int32) => lp_X4_differentBarWidths_4 N C k43_1 n x10 (x4 + 1)) (fun j37_10 => if r9 = 0 then j37_10 x3 else (f_X4_hasBarAhead N C x4).bind (fun r14 => if r14 = 0 then j37_10 (x3 + 1) else j37_10 x3))))
def f_X4_differentBarWidths (N : Nat) (C : kS) : Option (Int32) := jn (fun (x1 : Int32) => some x1) (fun k43_1 => lp_X4_differentBarWidths_4 N C k43_1 N 0 0)
def f_X4_firstWordBehind (N : Nat) (C : kS) (a1 : Int32) : Option (Int32) := jn (fun (t1 : Int32) => some t1) (fun j33_1 => if (C 119 8) ≤ (a1 + 1) then (f_X7_size N C 5).bind (fun r5 => j33_1 r5) else (f_X3_at N C 130 (a1 + 1)).bind (fun r7 => j33_1 r7))
def f_X4_firstWordOf (N : Nat) (C : kS) (a1 : Int32) : Option (Int32) := (f_X3_at N C 130 a1).bind (fun r2 => some r2)
def f_X4_ownWidthOf (N : Nat) (C : kS) (a1 : Int32) : Option (Int32) := (f_X3_at N C 122 a1).bind (fun r2 => some r2)
def f_X4_widthUnder (N : Nat) (C : kS) (k1 : Nat) (a2 : Int32) : Option (Int32) := (f_X4_isHidden N C a2).bind (fun r2 => jn (fun (t3 : Int32) => some t3) (fun j25_3 => if r2 = 0 then (f_X4_ownWidthOf N C a2).bind (fun r7 => j25_3 r7) else (f_X4_formOf N C a2).bind (fun r9 => (f_X0_widthOf N C k1 r9).bind (fun r11 => j25_3 r11))))
def lp_X4_flow_35 (N : Nat) (k1 : Nat) (r2 : Int32) (r4 : Int32) (k157_6 : kS → Option (kS)) : Nat → Int32 → Int32 → kS → Option (kS)
  | 0, _, _, _ => none
  | n + 1, x8, x9, C10 => (f_X7_size N C10 5).bind (fun r12 => if r12 ≤ x9 then k157_6 C10 else (f_X4_widthUnder N C10 k1 x9).bind (fun r15 => jn (fun (x16 : Int32) (C17 : kS) => (f_X3_put N C17 124 x9 r15).bind (fun C20 => (f_X3_put N C20 126 x9 ((C20 119 8) - 1)).bind (fun C22 => (f_X3_put N C22 128 x9 x16).bind (fun C24 => lp_X4_flow_35 N k1 r2 r4 k157_6 n (x16 + r15) (x9 + 1) C24)))) (fun j107_17 => jn ((f_X3_put N C10 130 (C10 119 8) x9).bind (fun C27 => jn (up1 C27 119 (upd (C27 119) 8 ((C27 119 8) + 1))) (fun C28 : kS => j107_17 0 C28))) (fun j81_24 => if (C10 119 8) = 0 then j81_24 else if ((x8 + r2) + r15) ≤ r4 then j107_17 (x8 + r2) C10 else j81_24))))
def f_X4_flow (N : Nat) (C : kS) (k1 : Nat) : Option (kS) := (f_X3_at N C 22 3).bind (fun r2 => (f_X3_at N C 22 4).bind (fun r4 => jn (up1 C 119 (upd (C 119) 8 0)) (fun C5 : kS => jn (fun (C6 : kS) => some C6) (fun k157_6 => lp_X4_flow_35 N k1 r2 r4 k157_6 N 0 0 C5))))
def f_X4_hasLine (N : Nat) (C : kS) (a1 : Int32) : Option (Int32) := jn (fun (t1 : Int32) => some (t1 &&& 1)) (fun j17_1 => if a1 < 0 then j17_1 0 else if (C 119 8) ≤ a1 then j17_1 0 else j17_1 1)
def f_X7_lengthOf (N : Nat) (C : kS) (k : Nat) (a1 : Int32) : Option (Int32) := (f_X3_at N C (k + 3) a1).bind (fun r2 => some r2)
def f_X7_letterOf (N : Nat) (C : kS) (k : Nat) (a1 : Int32) (a2 : Int32) : Option (Int32) := (f_X3_at N C (k + 1) ((a1 * (C k 1)) + a2)).bind (fun r2 => some r2)
def lp_X5_isForm_41 (N : Nat) (C : kS) (a1 : Int32) (a2 : Int32) (a3 : Int32) (r2 : Int32) (r4 : Int32) (k106_7 : Option (Int32)) : Nat → Int32 → Option (Int32)
  | 0, _ => none
  | n + 1, x9 => if r2 ≤ x9 then k106_7 else jn (fun (t11 : Int32) => (f_X7_letterOf N C 5 a1 x9).bind (fun r14 => if r14 = t11 then lp_X5_isForm_41 N C a1 a2 a3 r2 r4 k106_7 n (x9 + 1) else some ((0 : Int32) &&& 1))) (fun j81_11 => if r4 ≤ x9 then (f_X7_letterOf N C 15 a3 (x9 - r4)).bind (fun r18 => j81_11 r18) else (f_X7_letterOf N C 10 a2 x9).bind (fun r20 => j81_11 r20))
def f_X5_isForm (N : Nat) (C : kS) (a1 : Int32) (a2 : Int32) (a3 : Int32) : Option (Int32) := (f_X7_lengthOf N C 5 a1).bind (fun r2 => (f_X7_lengthOf N C 10 a2).bind (fun r4 => (f_X7_lengthOf N C 15 a3).bind (fun r6 => if r2 = (r4 + r6) then jn (some ((1 : Int32) &&& 1)) (fun k106_7 => lp_X5_isForm_41 N C a1 a2 a3 r2 r4 k106_7 N 0) else some ((0 : Int32) &&& 1))))
def lp_X4_hideWords_20 (N : Nat) (x3 : Int32) (C4 : kS) (k71_8 : Int32 → Option (kS)) : Nat → Int32 → Int32 → Option (kS)
  | 0, _, _ => none
  | n + 1, x16, x17 => (f_X1_size N C4).bind (fun r19 => if r19 ≤ x17 then k71_8 x16 else if x16 = (-1) then (f_X1_nameOf N C4 x17).bind (fun r23 => (f_X1_endingOf N C4 x17).bind (fun r25 => (f_X5_isForm N C4 x3 r23 r25).bind (fun r27 => jn (fun (x28 : Int32) => lp_X4_hideWords_20 N x3 C4 k71_8 n x28 (x17 + 1)) (fun j65_28 => if r27 = 0 then j65_28 x16 else j65_28 x17)))) else k71_8 x16)
def lp_X4_hideWords_2 (N : Nat) (k112_1 : kS → Option (kS)) : Nat → Int32 → kS → Option (kS)
  | 0, _, _ => none
  | n + 1, x3, C4 => (f_X7_size N C4 5).bind (fun r6 => if r6 ≤ x3 then k112_1 C4 else jn (fun (x8 : Int32) => (f_X3_put N C4 120 x3 x8).bind (fun C11 => (f_X7_widthOf N C11 5 x3 20).bind (fun r13 => (f_X3_put N C11 122 x3 r13).bind (fun C15 => lp_X4_hideWords_2 N k112_1 n (x3 + 1) C15)))) (fun k71_8 => lp_X4_hideWords_20 N x3 C4 k71_8 N (-1) 0))
def f_X4_hideWords (N : Nat) (C : kS) : Option (kS) := jn (fun (C1 : kS) => some C1) (fun k112_1 => lp_X4_hideWords_2 N k112_1 N 0 C)
def f_X4_lineCount (N : Nat) (C : kS) : Option (Int32) := some (C 119 8)
def f_X4_lineOf (N : Nat) (C : kS) (a1 : Int32) : Option (Int32) := (f_X3_at N C 126 a1).bind (fun r2 => some r2)
def f_X4_placeOf (N : Nat) (C : kS) (a1 : Int32) : Option (Int32) := (f_X3_at N C 128 a1).bind (fun r2 => some r2)
def lp_X4_sumOfGaps_4 (N : Nat) (C : kS) (k1 : Nat) (k57_1 : Int32 → Option (Int32)) : Nat → Int32 → Int32 → Option (Int32)
  | 0, _, _ => none
  | n + 1, x3, x4 => (f_X7_size N C 5).bind (fun r6 => if r6 ≤ x4 then k57_1 x3 else (f_X4_isHidden N C x4).bind (fun r9 => jn (fun (x10 : Int32) => lp_X4_sumOfGaps_4 N C k1 k57_1 n x10 (x4 + 1)) (fun j51_10 => if r9 = 0 then j51_10 x3 else (f_X4_formOf N C x4).bind (fun r14 => (f_X0_widthOf N C k1 r14).bind (fun r16 => (f_X4_formOf N C x4).bind (fun r18 => (f_X1_widthOf N C r18).bind (fun r20 => j51_10 (x3 + (r16 - r20)))))))))
def f_X4_sumOfGaps (N : Nat) (C : kS) (k1 : Nat) : Option (Int32) := jn (fun (x1 : Int32) => some x1) (fun k57_1 => lp_X4_sumOfGaps_4 N C k1 k57_1 N 0 0)
def lp_X4_sumOfShownWidths_4 (N : Nat) (C : kS) (k1 : Nat) (k33_1 : Int32 → Option (Int32)) : Nat → Int32 → Int32 → Option (Int32)
  | 0, _, _ => none
  | n + 1, x3, x4 => (f_X7_size N C 5).bind (fun r6 => if r6 ≤ x4 then k33_1 x3 else (f_X4_widthUnder N C k1 x4).bind (fun r9 => lp_X4_sumOfShownWidths_4 N C k1 k33_1 n (x3 + r9) (x4 + 1)))
def f_X4_sumOfShownWidths (N : Nat) (C : kS) (k1 : Nat) : Option (Int32) := jn (fun (x1 : Int32) => some x1) (fun k33_1 => lp_X4_sumOfShownWidths_4 N C k1 k33_1 N 0 0)
def lp_X4_widthBetween_5 (N : Nat) (C : kS) (a1 : Int32) (a2 : Int32) (k46_1 : Int32 → Option (Int32)) : Nat → Int32 → Int32 → Option (Int32)
  | 0, _, _ => none
  | n + 1, x3, x4 => if a2 ≤ x4 then k46_1 x3 else (f_X4_shownWidthOf N C x4).bind (fun r7 => jn (fun (x8 : Int32) => lp_X4_widthBetween_5 N C a1 a2 k46_1 n x8 (x4 + 1)) (fun j40_8 => if x4 ≤ a1 then j40_8 (x3 + r7) else (f_X3_at N C 22 3).bind (fun r12 => j40_8 ((x3 + r7) + r12))))
def f_X4_widthBetween (N : Nat) (C : kS) (a1 : Int32) (a2 : Int32) : Option (Int32) := jn (fun (x1 : Int32) => some x1) (fun k46_1 => lp_X4_widthBetween_5 N C a1 a2 k46_1 N 0 a1)
def f_X6_append (N : Nat) (C : kS) (a1 : Int32) : Option (kS) := if 200 ≤ (C 1 1) then some C else (f_X3_put N C 2 (C 1 1) a1).bind (fun C3 => jn (up1 C3 1 (upd (C3 1) 1 ((C3 1 1) + 1))) (fun C4 : kS => some C4))
def f_X6_at (N : Nat) (C : kS) (a1 : Int32) : Option (Int32) := (f_X3_at N C 2 a1).bind (fun r2 => some r2)
def f_X6_empty (N : Nat) (C : kS) : Option (kS) := jn (up1 C 1 (upd (C 1) 1 0)) (fun C1 : kS => some C1)
def f_X8_isLetter (N : Nat) (a0 : Int32) : Option (Int32) := jn (fun (t1 : Int32) => some (t1 &&& 1)) (fun j17_1 => if a0 < 97 then j17_1 0 else if 122 < a0 then j17_1 0 else j17_1 1)
def lp_X6_lettersAhead_2 (N : Nat) (C : kS) (a1 : Int32) (k32_1 : Int32 → Option (Int32)) : Nat → Int32 → Option (Int32)
  | 0, _ => none
  | n + 1, x3 => if 12 ≤ x3 then k32_1 x3 else (f_X3_at N C 2 ((a1 - 1) - x3)).bind (fun r6 => (f_X8_isLetter N r6).bind (fun r8 => if r8 = 0 then k32_1 x3 else lp_X6_lettersAhead_2 N C a1 k32_1 n (x3 + 1)))
def f_X6_lettersAhead (N : Nat) (C : kS) (a1 : Int32) : Option (Int32) := jn (fun (x1 : Int32) => some x1) (fun k32_1 => lp_X6_lettersAhead_2 N C a1 k32_1 N 0)
def lp_X6_wordsAhead_4 (N : Nat) (C : kS) (a1 : Int32) (k48_1 : Int32 → Option (Int32)) : Nat → Int32 → Int32 → Option (Int32)
  | 0, _, _ => none
  | n + 1, x3, x4 => if a1 ≤ x4 then k48_1 x3 else (f_X3_at N C 2 x4).bind (fun r7 => (f_X8_isLetter N r7).bind (fun r9 => jn (fun (x10 : Int32) => lp_X6_wordsAhead_4 N C a1 k48_1 n x10 (x4 + 1)) (fun j42_10 => if r9 = 0 then j42_10 x3 else (f_X3_at N C 2 (x4 - 1)).bind (fun r14 => (f_X8_isLetter N r14).bind (fun r16 => if r16 = 0 then j42_10 (x3 + 1) else j42_10 x3)))))
def f_X6_wordsAhead (N : Nat) (C : kS) (a1 : Int32) : Option (Int32) := jn (fun (x1 : Int32) => some x1) (fun k48_1 => lp_X6_wordsAhead_4 N C a1 k48_1 N 0 0)
def f_X6_faultReason (N : Nat) (C : kS) (a1 : Int32) : Option (Int32) := (f_X3_at N C 2 a1).bind (fun r2 => if r2 = 32 then (f_X6_lettersAhead N C a1).bind (fun r17 => jn (fun (t18 : Int32) => jn (fun (t20 : Int32) => some t20) (fun j48_20 => if t18 = 0 then j48_20 2 else if ((C 1 1) - 1) ≤ a1 then j48_20 2 else j48_20 0)) (fun j28_18 => if r17 ≤ 0 then j28_18 0 else j28_18 1)) else (f_X8_isLetter N r2).bind (fun r5 => if r5 = 0 then some 1 else (f_X6_lettersAhead N C a1).bind (fun r8 => if r8 < 12 then jn (fun (t10 : Int32) => some t10) (fun j91_10 => if r8 = 0 then (f_X6_wordsAhead N C a1).bind (fun r14 => if r14 < 40 then j91_10 0 else j91_10 4) else j91_10 0) else some 3)))
def lp_X6_faultIndex_2 (N : Nat) (C : kS) (k26_0 : Option (Int32)) : Nat → Int32 → Option (Int32)
  | 0, _ => none
  | n + 1, x2 => if (C 1 1) ≤ x2 then k26_0 else (f_X6_faultReason N C x2).bind (fun r5 => if r5 = 0 then lp_X6_faultIndex_2 N C k26_0 n (x2 + 1) else some x2)
def f_X6_faultIndex (N : Nat) (C : kS) : Option (Int32) := jn (some (-1)) (fun k26_0 => lp_X6_faultIndex_2 N C k26_0 N 0)
def lp_X6_isOneWord_20 (N : Nat) (C : kS) (k50_2 : Option (Int32)) : Nat → Int32 → Option (Int32)
  | 0, _ => none
  | n + 1, x4 => if (C 1 1) ≤ x4 then k50_2 else (f_X3_at N C 2 x4).bind (fun r7 => (f_X8_isLetter N r7).bind (fun r9 => if r9 = 0 then some ((0 : Int32) &&& 1) else lp_X6_isOneWord_20 N C k50_2 n (x4 + 1)))
def f_X6_isOneWord (N : Nat) (C : kS) (a1 : Int32) : Option (Int32) := if (C 1 1) < 1 then some ((0 : Int32) &&& 1) else if (C 1 1) ≤ a1 then jn (some ((1 : Int32) &&& 1)) (fun k50_2 => lp_X6_isOneWord_20 N C k50_2 N 0) else some ((0 : Int32) &&& 1)
def f_X6_size (N : Nat) (C : kS) : Option (Int32) := some (C 1 1)
def f_X7_addLetter (N : Nat) (C : kS) (k : Nat) (a1 : Int32) : Option (kS) := (f_X7_lengthOf N C k ((C k 4) - 1)).bind (fun r2 => if ((C k 4) - 1) < 0 then some C else if (C k 1) ≤ r2 then some C else (f_X3_put N C (k + 1) ((((C k 4) - 1) * (C k 1)) + r2) a1).bind (fun C6 => (f_X3_put N C6 (k + 3) ((C k 4) - 1) (r2 + 1)).bind (fun C8 => some C8)))
def f_X7_beginWord (N : Nat) (C : kS) (k : Nat) : Option (kS) := if (C k 0) ≤ (C k 4) then some C else (f_X3_put N C (k + 3) (C k 4) 0).bind (fun C3 => jn (up1 C3 k (upd (C3 k) 4 ((C3 k 4) + 1))) (fun C4 : kS => some C4))
def lp_X7_addWordsOf_4 (N : Nat) (k : Nat) (k53_1 : kS → Option (kS)) : Nat → Int32 → Int32 → kS → Option (kS)
  | 0, _, _, _ => none
  | n + 1, x3, x4, C5 => (f_X6_size N C5).bind (fun r7 => if r7 ≤ x4 then k53_1 C5 else (f_X6_at N C5 x4).bind (fun r10 => (f_X8_isLetter N r10).bind (fun r12 => jn (fun (x13 : Int32) (C14 : kS) => lp_X7_addWordsOf_4 N k k53_1 n x13 (x4 + 1) C14) (fun j47_14 => if r12 = 0 then j47_14 0 C5 else jn (fun (C17 : kS) => (f_X6_at N C17 x4).bind (fun r20 => (f_X7_addLetter N C17 k r20).bind (fun C22 => j47_14 1 C22))) (fun j36_17 => if x3 = 0 then (f_X7_beginWord N C5 k).bind (fun C25 => j36_17 C25) else j36_17 C5)))))
def f_X7_addWordsOf (N : Nat) (C : kS) (k : Nat) : Option (kS) := jn (fun (C1 : kS) => some C1) (fun k53_1 => lp_X7_addWordsOf_4 N k k53_1 N 0 0 C)
def f_X7_empty (N : Nat) (C : kS) (k : Nat) : Option (kS) := jn (up1 C k (upd (C k) 4 0)) (fun C1 : kS => some C1)
def f_X7_greatestLength (N : Nat) (C : kS) (k : Nat) : Option (Int32) := some (C k 1)
def f_X7_has (N : Nat) (C : kS) (k : Nat) (a1 : Int32) : Option (Int32) := jn (fun (t1 : Int32) => some (t1 &&& 1)) (fun j17_1 => if a1 < 0 then j17_1 0 else if (C k 4) ≤ a1 then j17_1 0 else j17_1 1)
def lp_X7_isWord_16 (N : Nat) (C : kS) (k : Nat) (a1 : Int32) (k46_5 : Option (Int32)) : Nat → Int32 → Option (Int32)
  | 0, _ => none
  | n + 1, x7 => (f_X6_size N C).bind (fun r9 => if r9 ≤ x7 then k46_5 else (f_X7_letterOf N C k a1 x7).bind (fun r12 => (f_X6_at N C x7).bind (fun r14 => if r12 = r14 then lp_X7_isWord_16 N C k a1 k46_5 n (x7 + 1) else some ((0 : Int32) &&& 1))))
def f_X7_isWord (N : Nat) (C : kS) (k : Nat) (a1 : Int32) : Option (Int32) := (f_X7_lengthOf N C k a1).bind (fun r2 => (f_X6_size N C).bind (fun r4 => if r2 = r4 then jn (some ((1 : Int32) &&& 1)) (fun k46_5 => lp_X7_isWord_16 N C k a1 k46_5 N 0) else some ((0 : Int32) &&& 1)))
def lp_X7_hasWord_2 (N : Nat) (C : kS) (k : Nat) (k27_0 : Option (Int32)) : Nat → Int32 → Option (Int32)
  | 0, _ => none
  | n + 1, x2 => if (C k 4) ≤ x2 then k27_0 else (f_X7_isWord N C k x2).bind (fun r5 => if r5 = 0 then lp_X7_hasWord_2 N C k k27_0 n (x2 + 1) else some ((1 : Int32) &&& 1))
def f_X7_hasWord (N : Nat) (C : kS) (k : Nat) : Option (Int32) := jn (some ((0 : Int32) &&& 1)) (fun k27_0 => lp_X7_hasWord_2 N C k k27_0 N 0)
def f_X7_isFull (N : Nat) (C : kS) (k : Nat) : Option (Int32) := jn (fun (t1 : Int32) => some (t1 &&& 1)) (fun j16_1 => if (C k 4) < (C k 0) then j16_1 0 else j16_1 1)
def lp_X7_remove_38 (N : Nat) (k : Nat) (x7 : Int32) (k75_14 : kS → Option (kS)) : Nat → Int32 → kS → Option (kS)
  | 0, _, _ => none
  | n + 1, x16, C17 => if (C17 k 1) ≤ x16 then k75_14 C17 else (f_X7_letterOf N C17 k (x7 + 1) x16).bind (fun r20 => (f_X3_put N C17 (k + 1) ((x7 * (C17 k 1)) + x16) r20).bind (fun C22 => lp_X7_remove_38 N k x7 k75_14 n (x16 + 1) C22))
def lp_X7_remove_11 (N : Nat) (k : Nat) (k81_4 : kS → Option (kS)) : Nat → Int32 → kS → Option (kS)
  | 0, _, _ => none
  | n + 1, x7, C8 => if ((C8 k 4) - 1) ≤ x7 then k81_4 C8 else (f_X7_lengthOf N C8 k (x7 + 1)).bind (fun r11 => (f_X3_put N C8 (k + 3) x7 r11).bind (fun C13 => jn (fun (C14 : kS) => lp_X7_remove_11 N k k81_4 n (x7 + 1) C14) (fun k75_14 => lp_X7_remove_38 N k x7 k75_14 N 0 C13)))
def f_X7_remove (N : Nat) (C : kS) (k : Nat) (a1 : Int32) : Option (kS) := (f_X7_has N C k a1).bind (fun r2 => if r2 = 0 then some C else jn (fun (C4 : kS) => jn (up1 C4 k (upd (C4 k) 4 ((C4 k 4) - 1))) (fun C6 : kS => some C6)) (fun k81_4 => lp_X7_remove_11 N k k81_4 N a1 C))
def f_X8_workOut (N : Nat) (C : kS) : Option (kS) := (f_X1_measure N C).bind (fun C2 => (f_X3_at N C2 22 0).bind (fun r4 => (f_X3_at N C2 22 1).bind (fun r6 => (f_X3_at N C2 22 2).bind (fun r8 => (f_X0_draw N C2 113 r4 r6 r8).bind (fun C10 => (f_X4_hideWords N C10).bind (fun C12 => (f_X4_flow N C12 113).bind (fun C14 => some C14)))))))
def f_X8_addTextTo (N : Nat) (C : kS) (k1 : Nat) : Option (Int32 × kS) := (f_X7_greatestLength N C k1).bind (fun r2 => (f_X6_isOneWord N C r2).bind (fun r4 => if r4 = 0 then some ((-12), C) else (f_X7_hasWord N C k1).bind (fun r7 => if r7 = 0 then (f_X7_isFull N C k1).bind (fun r10 => if r10 = 0 then (f_X2_keep N C).bind (fun C13 => (f_X7_addWordsOf N C13 k1).bind (fun C15 => (f_X8_workOut N C15).bind (fun C17 => (f_X7_size N C17 k1).bind (fun r19 => some (r19 - 1, C17))))) else some ((-13), C)) else some ((-12), C))))
def f_X8_clearText (N : Nat) (C : kS) : Option (Int32 × kS) := (f_X6_size N C).bind (fun r2 => (f_X6_empty N C).bind (fun C4 => some (r2, C4)))
def f_X8_count (N : Nat) (C : kS) (a1 : Int32) : Option (Int32) := if a1 = 0 then (f_X7_size N C 5).bind (fun r3 => some r3) else if a1 = 1 then (f_X7_size N C 5).bind (fun r6 => (f_X4_barsBetween N C 0 r6).bind (fun r8 => some r8)) else if a1 = 2 then (f_X4_lineCount N C).bind (fun r11 => some r11) else if a1 = 3 then (f_X7_size N C 10).bind (fun r14 => some r14) else if a1 = 4 then (f_X7_size N C 15).bind (fun r17 => some r17) else if a1 = 5 then (f_X1_size N C).bind (fun r20 => some r20) else if a1 = 6 then (f_X3_at N C 22 0).bind (fun r23 => some r23) else if a1 = 7 then (f_X3_at N C 22 1).bind (fun r26 => some r26) else if a1 = 8 then (f_X3_at N C 22 2).bind (fun r29 => some r29) else if a1 = 9 then (f_X3_at N C 22 3).bind (fun r32 => some r32) else if a1 = 10 then (f_X3_at N C 22 4).bind (fun r35 => some r35) else if a1 = 11 then (f_X4_betrayedBars N C 113).bind (fun r38 => some r38) else if a1 = 12 then (f_X4_sumOfShownWidths N C 113).bind (fun r41 => some r41) else if a1 = 13 then (f_X4_sumOfGaps N C 113).bind (fun r44 => some r44) else if a1 = 14 then (f_X4_differentBarWidths N C).bind (fun r47 => some r47) else if a1 = 15 then (f_X2_size N C).bind (fun r50 => some r50) else if a1 = 16 then (f_X6_size N C).bind (fun r53 => some r53) else some (-11)
def f_X8_dropFrom (N : Nat) (C : kS) (k1 : Nat) (a2 : Int32) : Option (Int32 × kS) := (f_X7_has N C k1 a2).bind (fun r2 => if r2 = 0 then some ((-11), C) else (f_X2_keep N C).bind (fun C5 => (f_X7_remove N C5 k1 a2).bind (fun C7 => (f_X8_workOut N C7).bind (fun C9 => (f_X7_size N C9 k1).bind (fun r11 => some (r11, C9))))))
def f_X8_dropEnding (N : Nat) (C : kS) (a1 : Int32) : Option (Int32 × kS) := (f_X8_dropFrom N C 15 a1).bind (fun p2 => some (p2.1, p2.2))
def f_X8_dropName (N : Nat) (C : kS) (a1 : Int32) : Option (Int32 × kS) := (f_X8_dropFrom N C 10 a1).bind (fun p2 => some (p2.1, p2.2))
def f_X8_ending (N : Nat) (C : kS) : Option (Int32 × kS) := (f_X8_addTextTo N C 15).bind (fun p2 => some (p2.1, p2.2))
def f_X8_hiddenWord (N : Nat) (C : kS) (a1 : Int32) (a2 : Int32) : Option (Int32) := (f_X4_isHidden N C a1).bind (fun r2 => if r2 = 0 then some (-14) else (f_X4_shownWidthOf N C a1).bind (fun r5 => (f_X0_namesUnder N C 113 r5).bind (fun r7 => if a2 = 4 then (f_X4_formOf N C a1).bind (fun r10 => (f_X1_nameOf N C r10).bind (fun r12 => some r12)) else if a2 = 5 then (f_X4_formOf N C a1).bind (fun r15 => (f_X1_endingOf N C r15).bind (fun r17 => some r17)) else if a2 = 6 then (f_J6_bitCount_0f7a4 N r7).bind (fun r20 => some r20) else if a2 = 7 then (f_J6_bitCount_0f7a4 N r7).bind (fun r23 => some r23) else if a2 = 8 then some r7 else (f_J6_bitCount_0f7a4 N r7).bind (fun r26 => some r26))))
def f_X8_letter (N : Nat) (C : kS) (a1 : Int32) (a2 : Int32) : Option (Int32) := (f_X7_has N C 5 a1).bind (fun r2 => if r2 = 0 then some (-11) else if 0 ≤ a2 then (f_X4_isHidden N C a1).bind (fun r6 => if r6 = 0 then (f_X7_lengthOf N C 5 a1).bind (fun r9 => if a2 < r9 then (f_X7_letterOf N C 5 a1 a2).bind (fun r12 => some r12) else some (-14)) else some (-12)) else some (-11))
def f_X8_line (N : Nat) (C : kS) (a1 : Int32) (a2 : Int32) : Option (Int32) := (f_X4_hasLine N C a1).bind (fun r2 => if r2 = 0 then some (-11) else (f_X4_firstWordOf N C a1).bind (fun r5 => (f_X4_firstWordBehind N C a1).bind (fun r7 => if a2 = 0 then some r5 else if a2 = 1 then some (r7 - r5) else if a2 = 2 then (f_X4_widthBetween N C r5 r7).bind (fun r12 => some r12) else if a2 = 3 then (f_X3_at N C 22 4).bind (fun r15 => (f_X4_widthBetween N C r5 r7).bind (fun r17 => jn (if 0 < (r15 - r17) then (r15 - r17) else 0) (fun x18 : Int32 => some x18))) else if a2 = 4 then (f_X4_barsBetween N C r5 r7).bind (fun r21 => some r21) else some (-11))))
def f_X8_name (N : Nat) (C : kS) : Option (Int32 × kS) := (f_X8_addTextTo N C 10).bind (fun p2 => some (p2.1, p2.2))
def f_X8_page (N : Nat) (C : kS) : Option (Int32 × kS) := (f_X6_faultIndex N C).bind (fun r2 => if r2 < 0 then (f_X2_keep N C).bind (fun C5 => (f_X7_empty N C5 5).bind (fun C7 => (f_X7_addWordsOf N C7 5).bind (fun C9 => (f_X8_workOut N C9).bind (fun C11 => (f_X7_size N C11 5).bind (fun r13 => some (r13, C11)))))) else some ((-12), C))
def f_X8_set (N : Nat) (C : kS) (a1 : Int32) (a2 : Int32) : Option (Int32 × kS) := if a1 < 0 then some ((-11), C) else if a1 < 5 then gIn a1 5 (if a2 < (tb_LV a1.toNatClampNeg) then some ((-11), C) else gIn a1 5 (if a2 ≤ (tb_GV a1.toNatClampNeg) then (f_X3_at N C 22 a1).bind (fun r8 => (f_X2_keep N C).bind (fun C10 => (f_X3_put N C10 22 a1 a2).bind (fun C12 => (f_X8_workOut N C12).bind (fun C14 => some (r8, C14))))) else some ((-11), C))) else some ((-11), C)
def f_X8_type (N : Nat) (C : kS) (a1 : Int32) : Option (Int32 × kS) := if a1 < 32 then some ((-11), C) else if a1 ≤ 126 then (f_X6_size N C).bind (fun r4 => if r4 < 200 then (f_X6_append N C a1).bind (fun C7 => (f_X6_size N C7).bind (fun r9 => some (r9, C7))) else some ((-13), C)) else some ((-11), C)
def f_X8_widen (N : Nat) (C : kS) (a1 : Int32) (a2 : Int32) : Option (Int32 × kS) := (f_X8_isLetter N a1).bind (fun r2 => if r2 = 0 then some ((-11), C) else if a2 < 1 then some ((-11), C) else if a2 ≤ 9 then (f_X3_at N C 20 (a1 - 97)).bind (fun r7 => (f_X2_keep N C).bind (fun C9 => (f_X3_put N C9 20 (a1 - 97) a2).bind (fun C11 => (f_X8_workOut N C11).bind (fun C13 => some (r7, C13))))) else some ((-11), C))
def f_X8_widthAgain (N : Nat) (C : kS) (a1 : Int32) : Option (Int32) := (f_X4_hasLine N C a1).bind (fun r2 => if r2 = 0 then some (-11) else (f_X4_firstWordBehind N C a1).bind (fun r5 => (f_X4_placeOf N C (r5 - 1)).bind (fun r7 => (f_X4_shownWidthOf N C (r5 - 1)).bind (fun r9 => some (r7 + r9)))))
def f_X8_word (N : Nat) (C : kS) (a1 : Int32) (a2 : Int32) : Option (Int32) := (f_X7_has N C 5 a1).bind (fun r2 => if r2 = 0 then some (-11) else if a2 < 0 then some (-11) else if a2 ≤ 9 then if a2 = 0 then (f_X7_lengthOf N C 5 a1).bind (fun r8 => some r8) else if a2 = 1 then (f_X4_ownWidthOf N C a1).bind (fun r11 => some r11) else if a2 = 2 then (f_X4_shownWidthOf N C a1).bind (fun r14 => some r14) else if a2 = 3 then (f_X4_isHidden N C a1).bind (fun r17 => jn (fun (t18 : Int32) => some t18) (fun j122_18 => if r17 = 0 then j122_18 0 else j122_18 1)) else if a2 = 4 then (f_X8_hiddenWord N C a1 a2).bind (fun r23 => some r23) else if a2 = 5 then (f_X8_hiddenWord N C a1 a2).bind (fun r26 => some r26) else if a2 = 6 then (f_X4_lineOf N C a1).bind (fun r29 => some r29) else if a2 = 7 then (f_X4_placeOf N C a1).bind (fun r32 => some r32) else (f_X8_hiddenWord N C a1 a2).bind (fun r34 => some r34) else some (-11))
def lp_X0_leastGap_5 (N : Nat) (C : kS) (k : Nat) (a1 : Int32) (a2 : Int32) (k79_1 : Int32 → Option (Int32)) : Nat → Int32 → Int32 → Option (Int32)
  | 0, _, _ => none
  | n + 1, x3, x4 => (f_X1_size N C).bind (fun r6 => if r6 ≤ x4 then k79_1 x3 else (f_X1_nameOf N C x4).bind (fun r9 => jn (fun (x10 : Int32) => lp_X0_leastGap_5 N C k a1 a2 k79_1 n x10 (x4 + 1)) (fun j73_10 => if r9 = a1 then (f_X3_at N C (k + 1) x4).bind (fun r14 => if r14 = a2 then (f_X1_widthOf N C x4).bind (fun r17 => jn (fun (t18 : Int32) => j73_10 t18) (fun j72_18 => if x3 = (-1) then j72_18 (a2 - r17) else jn (if (a2 - r17) < x3 then (a2 - r17) else x3) (fun x21 : Int32 => j72_18 x21))) else j73_10 x3) else j73_10 x3)))
def f_X0_leastGap (N : Nat) (C : kS) (k : Nat) (a1 : Int32) (a2 : Int32) : Option (Int32) := jn (fun (x1 : Int32) => some x1) (fun k79_1 => lp_X0_leastGap_5 N C k a1 a2 k79_1 N (-1) 0)
def f_X1_numberOf (N : Nat) (C : kS) (a1 : Int32) (a2 : Int32) : Option (Int32) := some (((a1 * (C 106 3)) + a2) + 1)
def f_X2_restore (N : Nat) (C : kS) : Option (kS) := (f_X2_latest N C).bind (fun o2 => oM o2 (some C) (fun q3 : Int32 => gIf (kd q3.toNatClampNeg = 5) ((f_X5_copyFrom N C 4 q3.toNatClampNeg).bind (fun C5 => jn (up1 C5 24 (upd (C5 24) 1 ((C5 24 1) - 1))) (fun C6 : kS => some C6)))))
def lp_X4_hasEnoughNames_2 (N : Nat) (C : kS) (k1 : Nat) (a2 : Int32) (k42_0 : Option (Int32)) : Nat → Int32 → Option (Int32)
  | 0, _ => none
  | n + 1, x2 => (f_X7_size N C 5).bind (fun r4 => if r4 ≤ x2 then k42_0 else (f_X4_isHidden N C x2).bind (fun r7 => jn (lp_X4_hasEnoughNames_2 N C k1 a2 k42_0 n (x2 + 1)) (fun j36_7 => if r7 = 0 then j36_7 else (f_X4_namesUnder N C k1 x2).bind (fun r11 => if a2 ≤ r11 then j36_7 else some ((0 : Int32) &&& 1)))))
def f_X4_hasEnoughNames (N : Nat) (C : kS) (k1 : Nat) (a2 : Int32) : Option (Int32) := jn (some ((1 : Int32) &&& 1)) (fun k42_0 => lp_X4_hasEnoughNames_2 N C k1 a2 k42_0 N 0)
def lp_X4_wordsHiddenAs_4 (N : Nat) (C : kS) (a1 : Int32) (k36_1 : Int32 → Option (Int32)) : Nat → Int32 → Int32 → Option (Int32)
  | 0, _, _ => none
  | n + 1, x3, x4 => (f_X7_size N C 5).bind (fun r6 => if r6 ≤ x4 then k36_1 x3 else (f_X4_formOf N C x4).bind (fun r9 => jn (fun (x10 : Int32) => lp_X4_wordsHiddenAs_4 N C a1 k36_1 n x10 (x4 + 1)) (fun j30_10 => if r9 = a1 then j30_10 (x3 + 1) else j30_10 x3)))
def f_X4_wordsHiddenAs (N : Nat) (C : kS) (a1 : Int32) : Option (Int32) := jn (fun (x1 : Int32) => some x1) (fun k36_1 => lp_X4_wordsHiddenAs_4 N C a1 k36_1 N 0 0)
def f_X5_lengthOfForm (N : Nat) (C : kS) (a1 : Int32) (a2 : Int32) : Option (Int32) := (f_X7_lengthOf N C 10 a1).bind (fun r2 => (f_X7_lengthOf N C 15 a2).bind (fun r4 => some (r2 + r4)))
def f_X8_fault (N : Nat) (C : kS) (a1 : Int32) : Option (Int32) := if a1 < 0 then some (-11) else if a1 ≤ 1 then (f_X6_faultIndex N C).bind (fun r4 => if 0 ≤ r4 then jn (fun (t6 : Int32) => some t6) (fun j43_6 => if a1 = 0 then j43_6 r4 else (f_X6_faultReason N C r4).bind (fun r10 => j43_6 r10)) else some (-14)) else some (-11)
def f_X8_form (N : Nat) (C : kS) (a1 : Int32) (a2 : Int32) (a3 : Int32) : Option (Int32) := (f_X7_has N C 10 a1).bind (fun r2 => if r2 = 0 then some (-11) else jn ((f_X1_numberOf N C a1 a2).bind (fun r6 => if a3 = 0 then (f_X5_lengthOfForm N C a1 a2).bind (fun r9 => some r9) else if a3 = 1 then (f_X1_widthOf N C r6).bind (fun r12 => some r12) else if a3 = 2 then (f_X0_widthOf N C 113 r6).bind (fun r15 => some r15) else if a3 = 3 then (f_X4_wordsHiddenAs N C r6).bind (fun r18 => some r18) else some (-11))) (fun j39_3 => if a2 = (-1) then j39_3 else (f_X7_has N C 15 a2).bind (fun r21 => if r21 = 0 then some (-11) else j39_3)))
def lp_X8_guessesAheadOf_6 (N : Nat) (C : kS) (a1 : Int32) (a2 : Int32) (a3 : Int32) (k78_1 : Int32 → Option (Int32)) : Nat → Int32 → Int32 → Option (Int32)
  | 0, _, _ => none
  | n + 1, x3, x4 => (f_X7_size N C 10).bind (fun r6 => if r6 ≤ x4 then k78_1 x3 else (f_X0_leastGap N C 113 x4 a3).bind (fun r9 => jn (fun (t10 : Int32) => jn (fun (x12 : Int32) => lp_X8_guessesAheadOf_6 N C a1 a2 a3 k78_1 n x12 (x4 + 1)) (fun j72_12 => if r9 = (-1) then j72_12 x3 else if t10 = 0 then j72_12 x3 else j72_12 (x3 + 1))) (fun j56_10 => jn (j56_10 1) (fun j51_15 => if r9 < a2 then j51_15 else jn (j56_10 0) (fun j55_17 => if r9 = a2 then if a1 ≤ x4 then j55_17 else j51_15 else j55_17)))))
def f_X8_guessesAheadOf (N : Nat) (C : kS) (a1 : Int32) (a2 : Int32) (a3 : Int32) : Option (Int32) := jn (fun (x1 : Int32) => some x1) (fun k78_1 => lp_X8_guessesAheadOf_6 N C a1 a2 a3 k78_1 N 0 0)
def lp_X8_guess_57 (N : Nat) (C : kS) (a2 : Int32) (a3 : Int32) (r11 : Int32) (k123_11 : Option (Int32)) : Nat → Int32 → Option (Int32)
  | 0, _ => none
  | n + 1, x13 => (f_X7_size N C 10).bind (fun r15 => if r15 ≤ x13 then k123_11 else (f_X0_leastGap N C 113 x13 r11).bind (fun r18 => jn (lp_X8_guess_57 N C a2 a3 r11 k123_11 n (x13 + 1)) (fun j117_18 => if r18 = (-1) then j117_18 else (f_X8_guessesAheadOf N C x13 r18 r11).bind (fun r22 => if r22 = a2 then jn (fun (t24 : Int32) => some t24) (fun j116_24 => if a3 = 0 then j116_24 x13 else j116_24 r18) else j117_18))))
def f_X8_guess (N : Nat) (C : kS) (a1 : Int32) (a2 : Int32) (a3 : Int32) : Option (Int32) := (f_X7_has N C 5 a1).bind (fun r2 => if r2 = 0 then some (-11) else if a2 < 0 then some (-11) else if a3 < 0 then some (-11) else if a3 ≤ 1 then (f_X4_isHidden N C a1).bind (fun r8 => if r8 = 0 then some (-12) else (f_X4_shownWidthOf N C a1).bind (fun r11 => jn (some (-14)) (fun k123_11 => lp_X8_guess_57 N C a2 a3 r11 k123_11 N 0))) else some (-11))
def lp_X8_modeFor_7 (N : Nat) (k104_2 : Int32 → kS → Option (Int32 × kS)) : Nat → Int32 → Int32 → Int32 → kS → Option (Int32 × kS)
  | 0, _, _, _, _ => none
  | n + 1, x4, x5, x6, C7 => if 3 < x6 then k104_2 x4 C7 else (f_X3_at N C7 22 1).bind (fun r10 => (f_X3_at N C7 22 2).bind (fun r12 => (f_X0_draw N C7 116 x6 r10 r12).bind (fun C14 => (f_X4_sumOfShownWidths N C14 116).bind (fun r16 => jn (fun (t17 : Int32) => jn (fun (x19 : Int32) (x20 : Int32) => lp_X8_modeFor_7 N k104_2 n x19 x20 (x6 + 1) C14) (fun j98_20 => if t17 = 0 then j98_20 x4 x5 else (f_X4_betrayedBars N C14 116).bind (fun r24 => if r24 = 0 then j98_20 x6 r16 else j98_20 x4 x5))) (fun j72_17 => jn (j72_17 1) (fun j67_25 => if x4 = (-14) then j67_25 else if x5 ≤ r16 then j72_17 0 else j67_25))))))
def f_X8_modeFor (N : Nat) (C : kS) : Option (Int32 × kS) := jn (fun (x1 : Int32) (C2 : kS) => some (x1, C2)) (fun k104_2 => lp_X8_modeFor_7 N k104_2 N (-14) 0 0 C)
def f_X8_tellsApart (N : Nat) (C : kS) (a1 : Int32) (a2 : Int32) (a3 : Int32) : Option (Int32) := (f_X4_formOf N C a1).bind (fun r2 => (f_X1_nameOf N C r2).bind (fun r4 => (f_X4_formOf N C a1).bind (fun r6 => (f_X1_endingOf N C r6).bind (fun r8 => jn ((f_X1_numberOf N C a2 r8).bind (fun r11 => (f_X0_widthOf N C 113 r11).bind (fun r13 => (f_X1_numberOf N C a3 r8).bind (fun r15 => (f_X0_widthOf N C 113 r15).bind (fun r17 => jn (fun (t18 : Int32) => some (t18 &&& 1)) (fun j98_18 => if r13 = r17 then j98_18 0 else j98_18 1)))))) (fun j48_8 => if r4 = a2 then j48_8 else if r4 = a3 then j48_8 else some ((0 : Int32) &&& 1))))))
def lp_X8_same_33 (N : Nat) (C : kS) (a1 : Int32) (a2 : Int32) (k76_6 : Option (Int32)) : Nat → Int32 → Option (Int32)
  | 0, _ => none
  | n + 1, x8 => (f_X7_size N C 5).bind (fun r10 => if r10 ≤ x8 then k76_6 else (f_X4_isHidden N C x8).bind (fun r13 => jn (lp_X8_same_33 N C a1 a2 k76_6 n (x8 + 1)) (fun j70_13 => if r13 = 0 then j70_13 else (f_X8_tellsApart N C x8 a1 a2).bind (fun r17 => if r17 = 0 then j70_13 else some 0))))
def f_X8_same (N : Nat) (C : kS) (a1 : Int32) (a2 : Int32) : Option (Int32) := (f_X7_has N C 10 a1).bind (fun r2 => if r2 = 0 then some (-11) else (f_X7_has N C 10 a2).bind (fun r5 => if r5 = 0 then some (-11) else jn (some 1) (fun k76_6 => lp_X8_same_33 N C a1 a2 k76_6 N 0)))
def lp_X8_stepFor_16 (N : Nat) (a1 : Int32) (k65_3 : kS → Option (Int32 × kS)) : Nat → Int32 → kS → Option (Int32 × kS)
  | 0, _, _ => none
  | n + 1, x5, C6 => if 50 < x5 then k65_3 C6 else (f_X3_at N C6 22 2).bind (fun r9 => (f_X0_draw N C6 116 1 x5 r9).bind (fun C11 => (f_X4_hasEnoughNames N C11 116 a1).bind (fun r13 => if r13 = 0 then lp_X8_stepFor_16 N a1 k65_3 n (x5 + 1) C11 else some (x5, C11))))
def f_X8_stepFor (N : Nat) (C : kS) (a1 : Int32) : Option (Int32 × kS) := if a1 < 1 then some ((-11), C) else if a1 ≤ 8 then jn (fun (C3 : kS) => some ((-14), C3)) (fun k65_3 => lp_X8_stepFor_16 N a1 k65_3 N 1 C) else some ((-11), C)
def f_X8_under (N : Nat) (C : kS) (a1 : Int32) : Option (Int32) := if a1 < 0 then some (-11) else if a1 ≤ 500 then (f_X0_namesUnder N C 113 a1).bind (fun r4 => some r4) else some (-11)
def f_X8_undo (N : Nat) (C : kS) : Option (Int32 × kS) := (f_X2_size N C).bind (fun r2 => if r2 = 0 then some ((-12), C) else (f_X2_restore N C).bind (fun C5 => (f_X8_workOut N C5).bind (fun C7 => (f_X2_size N C7).bind (fun r9 => some (r9, C7)))))
def f_X9_in (N : Nat) (a0 : Int32) (a1 : Int32) (a2 : Int32) : Option (Int32) := jn (fun (t1 : Int32) => some (t1 &&& 1)) (fun j15_1 => if a0 < a1 then j15_1 0 else if a2 < a0 then j15_1 0 else j15_1 1)
def f_X9_isLetter (N : Nat) (a0 : Int32) : Option (Int32) := (f_X9_in N a0 97 122).bind (fun r2 => some (r2 &&& 1))
def lp_X9_areLetters_12 (N : Nat) (C : kS) (k48_3 : Int32 → Option (Int32)) : Nat → Int32 → Int32 → Option (Int32)
  | 0, _, _ => none
  | n + 1, x5, x6 => if (C 0 4) ≤ x6 then k48_3 x5 else jn (fun (t8 : Int32) => lp_X9_areLetters_12 N C k48_3 n t8 (x6 + 1)) (fun j41_8 => jn (j41_8 0) (fun j40_9 => if x5 = 0 then j40_9 else gIn x6 200 ((f_X9_isLetter N (C 3 x6.toNatClampNeg)).bind (fun r14 => if r14 = 0 then j40_9 else j41_8 1))))
def f_X9_areLetters (N : Nat) (C : kS) (a1 : Int32) : Option (Int32) := (f_X9_in N (C 0 4) 1 a1).bind (fun r2 => jn (fun (x3 : Int32) => some (x3 &&& 1)) (fun k48_3 => lp_X9_areLetters_12 N C k48_3 N r2 0))
def f_X9_each (N : Nat) (C : kS) : Option (Int32) := gIn 2 642 (some ((C 1 (2 : Int32).toNatClampNeg) + 1))
def lp_X9_widthAt_4 (N : Nat) (C : kS) (a1 : Int32) (k39_1 : Int32 → Option (Int32)) : Nat → Int32 → Int32 → Option (Int32)
  | 0, _, _ => none
  | n + 1, x3, x4 => gIn a1 642 (if (C 1 a1.toNatClampNeg) < x4 then k39_1 x3 else gIn (a1 + x4) 642 (gIn (8 + (C 1 (a1 + x4).toNatClampNeg)) 642 (jn (x3 + (C 1 (8 + (C 1 (a1 + x4).toNatClampNeg)).toNatClampNeg)) (fun x9 : Int32 => lp_X9_widthAt_4 N C a1 k39_1 n x9 (x4 + 1)))))
def f_X9_widthAt (N : Nat) (C : kS) (a1 : Int32) : Option (Int32) := jn (fun (x1 : Int32) => some x1) (fun k39_1 => lp_X9_widthAt_4 N C a1 k39_1 N 0 1)
def f_X9_endingAt (N : Nat) (C : kS) (a1 : Int32) : Option (Int32) := (f_X9_each N C).bind (fun r2 => gNz r2 (some (626 + (4 * ((a1 - a1 / r2 * r2) - 1)))))
def lp_X9_sorts_12 (N : Nat) (x3 : Int32) (k58_7 : Int32 → kS → Option (kS)) : Nat → Int32 → kS → Option (kS)
  | 0, _, _ => none
  | n + 1, x11, C12 => if x11 ≤ 0 then k58_7 x11 C12 else gIn (x11 - 1) 40 (gIn (C12 6 (x11 - 1).toNatClampNeg) 40 (gIn x3 40 (if (C12 4 (C12 6 (x11 - 1).toNatClampNeg).toNatClampNeg) ≤ (C12 4 x3.toNatClampNeg) then k58_7 x11 C12 else gIn (x11 - 1) 40 (gIn x11 40 (jn (up1 C12 6 (upd (C12 6) (x11.toNatClampNeg) (C12 6 (x11 - 1).toNatClampNeg))) (fun C20 : kS => lp_X9_sorts_12 N x3 k58_7 n (x11 + (-1)) C20))))))
def lp_X9_sorts_2 (N : Nat) (k71_1 : kS → Option (kS)) : Nat → Int32 → kS → Option (kS)
  | 0, _, _ => none
  | n + 1, x3, C4 => if (C4 0 9) ≤ x3 then k71_1 C4 else jn (fun (x6 : Int32) (C7 : kS) => gIn x6 40 (jn (up1 C7 6 (upd (C7 6) (x6.toNatClampNeg) x3)) (fun C10 : kS => lp_X9_sorts_2 N k71_1 n (x3 + 1) C10))) (fun k58_7 => lp_X9_sorts_12 N x3 k58_7 N x3 C4)
def f_X9_sorts (N : Nat) (C : kS) : Option (kS) := jn (fun (C1 : kS) => some C1) (fun k71_1 => lp_X9_sorts_2 N k71_1 N 0 C)
def f_X9_endOfGroup (N : Nat) (C : kS) (a1 : Int32) : Option (Int32) := gIn 5 642 (gNz (C 1 (5 : Int32).toNatClampNeg) (gNz (C 1 (5 : Int32).toNatClampNeg) (jn (fun (t4 : Int32) => some t4) (fun j48_4 => jn (j48_4 ((C 0 9) - 1)) (fun j31_5 => if ((C 0 9) / (C 1 (5 : Int32).toNatClampNeg)) = 0 then j31_5 else if (a1 / (C 1 (5 : Int32).toNatClampNeg)) < (((C 0 9) / (C 1 (5 : Int32).toNatClampNeg)) - 1) then j48_4 ((((a1 / (C 1 (5 : Int32).toNatClampNeg)) * (C 1 (5 : Int32).toNatClampNeg)) + (C 1 (5 : Int32).toNatClampNeg)) - 1) else j31_5)))))
def lp_X9_bars_127 (N : Nat) (a1 : Int32) (k181_10 : kS → Option (kS)) : Nat → Int32 → kS → Option (kS)
  | 0, _, _ => none
  | n + 1, x12, C13 => if (C13 0 9) ≤ x12 then k181_10 C13 else gIn x12 40 (jn (fun (t16 : Int32) => gIn t16 40 (gIn (C13 6 t16.toNatClampNeg) 40 (gIn (C13 6 x12.toNatClampNeg) 40 (jn (up1 C13 5 (upd (C13 5) ((C13 6 x12.toNatClampNeg).toNatClampNeg) (C13 4 (C13 6 t16.toNatClampNeg).toNatClampNeg))) (fun C21 : kS => lp_X9_bars_127 N a1 k181_10 n (x12 + 1) C21))))) (fun j172_16 => if a1 = 2 then (f_X9_endOfGroup N C13 x12).bind (fun r24 => j172_16 r24) else j172_16 ((C13 0 9) - 1)))
def lp_X9_bars_17 (N : Nat) (a1 : Int32) (a2 : Int32) (k116_5 : kS → Option (kS)) : Nat → Int32 → kS → Option (kS)
  | 0, _, _ => none
  | n + 1, x25, C26 => if (C26 0 9) ≤ x25 then k116_5 C26 else (f_X9_each N C26).bind (fun r29 => gNz r29 ((f_X9_widthAt N C26 (554 + (9 * (x25 / r29)))).bind (fun r32 => (f_X9_each N C26).bind (fun r34 => gNz r34 (jn (fun (t36 : Int32) => gIn x25 40 (jn (up1 C26 4 (upd (C26 4) (x25.toNatClampNeg) t36)) (fun C39 : kS => jn (fun (t40 : Int32) => gIn x25 40 (jn (up1 C39 5 (upd (C39 5) (x25.toNatClampNeg) t40)) (fun C43 : kS => lp_X9_bars_17 N a1 a2 k116_5 n (x25 + 1) C43))) (fun j109_40 => if a1 = 1 then gIn x25 40 (gNz a2 (j109_40 (((((C39 4 x25.toNatClampNeg) + a2) - 1) / a2) * a2))) else gIn x25 40 (j109_40 (C39 4 x25.toNatClampNeg)))))) (fun j75_36 => if (x25 - x25 / r34 * r34) = 0 then j75_36 r32 else (f_X9_endingAt N C26 x25).bind (fun r50 => (f_X9_widthAt N C26 r50).bind (fun r52 => j75_36 (r32 + r52)))))))))
def f_X9_bars (N : Nat) (C : kS) (a1 : Int32) (a2 : Int32) : Option (kS) := gIn 1 642 ((f_X9_each N C).bind (fun r3 => jn (up1 C 0 (upd (C 0) 9 ((C 1 (1 : Int32).toNatClampNeg) * r3))) (fun C4 : kS => jn (fun (C5 : kS) => if a1 ≤ 1 then some C5 else (f_X9_sorts N C5).bind (fun C9 => jn (fun (C10 : kS) => some C10) (fun k181_10 => lp_X9_bars_127 N a1 k181_10 N 0 C9))) (fun k116_5 => lp_X9_bars_17 N a1 a2 k116_5 N 0 C4))))
def lp_X9_bits_4 (N : Nat) (a0 : Int32) (k24_1 : Int32 → Option (Int32)) : Nat → Int32 → Int32 → Option (Int32)
  | 0, _, _ => none
  | n + 1, x3, x4 => if 8 ≤ x4 then k24_1 x3 else lp_X9_bits_4 N a0 k24_1 n (x3 + ((a0 >>> (x4 &&& 31)) &&& 1)) (x4 + 1)
def f_X9_bits (N : Nat) (a0 : Int32) : Option (Int32) := jn (fun (x1 : Int32) => some x1) (fun k24_1 => lp_X9_bits_4 N a0 k24_1 N 0 0)
def f_X9_clearText (N : Nat) (C : kS) : Option (Int32 × kS) := jn (up1 C 0 (upd (C 0) 4 0)) (fun C1 : kS => some (C 0 4, C1))
def f_X9_lettersOf (N : Nat) (C : kS) (a1 : Int32) : Option (Int32) := (f_X9_each N C).bind (fun r2 => gNz r2 (jn (fun (t4 : Int32) => (f_X9_each N C).bind (fun r7 => gNz r7 (gIn (554 + (9 * (a1 / r7))) 642 (some ((C 1 (554 + (9 * (a1 / r7))).toNatClampNeg) + t4))))) (fun j23_4 => if (a1 - a1 / r2 * r2) = 0 then j23_4 0 else (f_X9_endingAt N C a1).bind (fun r12 => gIn r12 642 (j23_4 (C 1 r12.toNatClampNeg))))))
def f_X9_letterOf (N : Nat) (C : kS) (a1 : Int32) (a2 : Int32) : Option (Int32) := (f_X9_each N C).bind (fun r2 => gNz r2 (gIn (554 + (9 * (a1 / r2))) 642 (jn (fun (t5 : Int32) => some t5) (fun j58_5 => if (C 1 (554 + (9 * (a1 / r2))).toNatClampNeg) ≤ a2 then (f_X9_endingAt N C a1).bind (fun r9 => gIn (554 + (9 * (a1 / r2))) 642 (gIn (((r9 + 1) + a2) - (C 1 (554 + (9 * (a1 / r2))).toNatClampNeg)) 642 (j58_5 (C 1 (((r9 + 1) + a2) - (C 1 (554 + (9 * (a1 / r2))).toNatClampNeg)).toNatClampNeg)))) else gIn (((554 + (9 * (a1 / r2))) + 1) + a2) 642 (j58_5 (C 1 (((554 + (9 * (a1 / r2))) + 1) + a2).toNatClampNeg))))))
def lp_X9_isForm_32 (N : Nat) (C : kS) (a1 : Int32) (a2 : Int32) (k82_6 : Int32 → Option (Int32)) : Nat → Int32 → Int32 → Option (Int32)
  | 0, _, _ => none
  | n + 1, x8, x9 => gIn (34 + (13 * a1)) 642 (if (C 1 (34 + (13 * a1)).toNatClampNeg) ≤ x9 then k82_6 x8 else if x8 = 0 then k82_6 x8 else gIn (((34 + (13 * a1)) + 1) + x9) 642 ((f_X9_letterOf N C a2 x9).bind (fun r15 => jn (fun (t16 : Int32) => lp_X9_isForm_32 N C a1 a2 k82_6 n t16 (x9 + 1)) (fun j74_16 => if (C 1 (((34 + (13 * a1)) + 1) + x9).toNatClampNeg) = r15 then j74_16 1 else j74_16 0))))
def f_X9_isForm (N : Nat) (C : kS) (a1 : Int32) (a2 : Int32) : Option (Int32) := gIn (34 + (13 * a1)) 642 ((f_X9_lettersOf N C a2).bind (fun r3 => jn (fun (t4 : Int32) => jn (fun (x6 : Int32) => some (x6 &&& 1)) (fun k82_6 => lp_X9_isForm_32 N C a1 a2 k82_6 N t4 0)) (fun j27_4 => if (C 1 (34 + (13 * a1)).toNatClampNeg) = r3 then j27_4 1 else j27_4 0)))
def lp_X9_lays_43 (N : Nat) (x7 : Int32) (k84_13 : kS → Option (kS)) : Nat → Int32 → kS → Option (kS)
  | 0, _, _ => none
  | n + 1, x41, C42 => if x41 < 0 then k84_13 C42 else (f_X9_isForm N C42 x7 x41).bind (fun r45 => jn (fun (t46 : Int32) => gIn x7 40 (jn (up1 C42 7 (upd (C42 7) (x7.toNatClampNeg) t46)) (fun C49 : kS => lp_X9_lays_43 N x7 k84_13 n (x41 + (-1)) C49))) (fun j77_46 => if r45 = 0 then gIn x7 40 (j77_46 (C42 7 x7.toNatClampNeg)) else j77_46 x41))
def lp_X9_lays_16 (N : Nat) (k209_4 : kS → Option (kS)) : Nat → Int32 → Int32 → kS → Option (kS)
  | 0, _, _, _ => none
  | n + 1, x6, x7, C8 => gIn 0 642 (if (C8 1 (0 : Int32).toNatClampNeg) ≤ x7 then k209_4 C8 else gIn x7 40 (jn (up1 C8 7 (upd (C8 7) (x7.toNatClampNeg) (-1))) (fun C12 : kS => jn (fun (C13 : kS) => gIn x7 40 (jn (fun (t16 : Int32) => gIn x7 40 (jn (up1 C13 8 (upd (C13 8) (x7.toNatClampNeg) t16)) (fun C19 : kS => jn (fun (x20 : Int32) (C21 : kS) => gIn x7 40 (jn (up1 C21 9 (upd (C21 9) (x7.toNatClampNeg) ((C21 0 14) - 1))) (fun C24 : kS => gIn x7 40 (jn (up1 C24 10 (upd (C24 10) (x7.toNatClampNeg) x20)) (fun C26 : kS => gIn x7 40 (gIn 6 642 (jn (x20 + ((C26 8 x7.toNatClampNeg) + (C26 1 (6 : Int32).toNatClampNeg))) (fun x29 : Int32 => lp_X9_lays_16 N k209_4 n x29 (x7 + 1) C26)))))))) (fun j164_21 => jn (jn (up1 C19 0 (upd (C19 0) 14 ((C19 0 14) + 1))) (fun C31 : kS => j164_21 0 C31)) (fun j152_29 => if x7 = 0 then j152_29 else gIn x7 40 (gIn 7 642 (if (x6 + (C19 8 x7.toNatClampNeg)) ≤ (C19 1 (7 : Int32).toNatClampNeg) then j164_21 x6 C19 else j152_29))))))) (fun j127_16 => if 0 ≤ (C13 7 x7.toNatClampNeg) then gIn x7 40 (gIn (C13 7 x7.toNatClampNeg) 40 (j127_16 (C13 5 (C13 7 x7.toNatClampNeg).toNatClampNeg))) else (f_X9_widthAt N C13 (34 + (13 * x7))).bind (fun r40 => j127_16 r40)))) (fun k84_13 => lp_X9_lays_43 N x7 k84_13 N ((C12 0 9) - 1) C12))))
def f_X9_lays (N : Nat) (C : kS) (a1 : Int32) (a2 : Int32) : Option (kS) := (f_X9_bars N C a1 a2).bind (fun C2 => jn (up1 C2 0 (upd (C2 0) 14 0)) (fun C3 : kS => jn (fun (C4 : kS) => some C4) (fun k209_4 => lp_X9_lays_16 N k209_4 N 0 0 C3)))
def f_X9_laysNow (N : Nat) (C : kS) : Option (kS) := gIn 3 642 (gIn 4 642 ((f_X9_lays N C (C 1 (3 : Int32).toNatClampNeg) (C 1 (4 : Int32).toNatClampNeg)).bind (fun C4 => some C4)))
def lp_X9_namesUnder_4 (N : Nat) (C : kS) (a1 : Int32) (k43_1 : Int32 → Option (Int32)) : Nat → Int32 → Int32 → Option (Int32)
  | 0, _, _ => none
  | n + 1, x3, x4 => if (C 0 9) ≤ x4 then k43_1 x3 else gIn x4 40 (jn (fun (t7 : Int32) => lp_X9_namesUnder_4 N C a1 k43_1 n (x3 ||| t7) (x4 + 1)) (fun j35_7 => if (C 5 x4.toNatClampNeg) = a1 then (f_X9_each N C).bind (fun r11 => gNz r11 (j35_7 (1 <<< ((x4 / r11) &&& 31)))) else j35_7 0))
def f_X9_namesUnder (N : Nat) (C : kS) (a1 : Int32) : Option (Int32) := jn (fun (x1 : Int32) => some x1) (fun k43_1 => lp_X9_namesUnder_4 N C a1 k43_1 N 0 0)
def lp_X9_sumOf_37 (N : Nat) (C : kS) (x4 : Int32) (k87_10 : Int32 → Option (Int32)) : Nat → Int32 → Int32 → Option (Int32)
  | 0, _, _ => none
  | n + 1, x35, x36 => if x4 ≤ x36 then k87_10 x35 else jn (fun (t38 : Int32) => lp_X9_sumOf_37 N C x4 k87_10 n t38 (x36 + 1)) (fun j79_38 => jn (j79_38 0) (fun j78_39 => if x35 = 0 then j78_39 else gIn x36 40 (jn (j79_38 1) (fun j74_42 => if (C 7 x36.toNatClampNeg) < 0 then j74_42 else gIn x36 40 (gIn x4 40 (if (C 8 x36.toNatClampNeg) = (C 8 x4.toNatClampNeg) then j78_39 else j74_42))))))
def lp_X9_sumOf_4 (N : Nat) (C : kS) (a1 : Int32) (k215_1 : Int32 → Option (Int32)) : Nat → Int32 → Int32 → Option (Int32)
  | 0, _, _ => none
  | n + 1, x3, x4 => gIn 0 642 (if (C 1 (0 : Int32).toNatClampNeg) ≤ x4 then k215_1 x3 else gIn x4 40 (jn (fun (t8 : Int32) => jn (fun (x10 : Int32) => jn (fun (t12 : Int32) => jn (fun (t14 : Int32) => lp_X9_sumOf_4 N C a1 k215_1 n (x3 + t14) (x4 + 1)) (fun j207_14 => if a1 = 12 then gIn x4 40 (j207_14 (C 8 x4.toNatClampNeg)) else if t8 = 0 then j207_14 0 else j207_14 t12)) (fun j178_12 => if a1 = 1 then j178_12 1 else if a1 = 11 then jn (j178_12 0) (fun j128_26 => if t8 = 0 then j128_26 else gIn x4 40 ((f_X9_namesUnder N C (C 8 x4.toNatClampNeg)).bind (fun r31 => (f_X9_bits N r31).bind (fun r33 => if r33 = 1 then j178_12 1 else j128_26)))) else if a1 = 13 then if t8 = 0 then j178_12 0 else gIn x4 40 (gIn x4 40 (gIn (C 7 x4.toNatClampNeg) 40 (j178_12 ((C 8 x4.toNatClampNeg) - (C 4 (C 7 x4.toNatClampNeg).toNatClampNeg))))) else if x10 = 0 then j178_12 0 else j178_12 1)) (fun k87_10 => lp_X9_sumOf_37 N C x4 k87_10 N t8 0)) (fun j28_8 => if (C 7 x4.toNatClampNeg) < 0 then j28_8 0 else j28_8 1)))
def f_X9_sumOf (N : Nat) (C : kS) (a1 : Int32) : Option (Int32) := jn (fun (x1 : Int32) => some x1) (fun k215_1 => lp_X9_sumOf_4 N C a1 k215_1 N 0 0)
def f_X9_count (N : Nat) (C : kS) (a1 : Int32) : Option (Int32 × kS) := (f_X9_in N a1 0 16).bind (fun r2 => if r2 = 0 then some ((-11), C) else (f_X9_laysNow N C).bind (fun C5 => if a1 = 0 then gIn 0 642 (some (C5 1 (0 : Int32).toNatClampNeg, C5)) else if a1 = 1 then (f_X9_sumOf N C5 a1).bind (fun r10 => some (r10, C5)) else if a1 = 2 then some (C5 0 14, C5) else if a1 = 3 then gIn ((1 + a1) - 3) 642 (some (C5 1 ((1 + a1) - 3).toNatClampNeg, C5)) else if a1 = 4 then gIn ((1 + a1) - 3) 642 (some (C5 1 ((1 + a1) - 3).toNatClampNeg, C5)) else if a1 = 5 then some (C5 0 9, C5) else if a1 = 6 then gIn ((3 + a1) - 6) 642 (some (C5 1 ((3 + a1) - 6).toNatClampNeg, C5)) else if a1 = 7 then gIn ((3 + a1) - 6) 642 (some (C5 1 ((3 + a1) - 6).toNatClampNeg, C5)) else if a1 = 8 then gIn ((3 + a1) - 6) 642 (some (C5 1 ((3 + a1) - 6).toNatClampNeg, C5)) else if a1 = 9 then gIn ((3 + a1) - 6) 642 (some (C5 1 ((3 + a1) - 6).toNatClampNeg, C5)) else if a1 = 10 then gIn ((3 + a1) - 6) 642 (some (C5 1 ((3 + a1) - 6).toNatClampNeg, C5)) else if a1 = 11 then (f_X9_sumOf N C5 a1).bind (fun r29 => some (r29, C5)) else if a1 = 12 then (f_X9_sumOf N C5 a1).bind (fun r32 => some (r32, C5)) else if a1 = 13 then (f_X9_sumOf N C5 a1).bind (fun r35 => some (r35, C5)) else if a1 = 14 then (f_X9_sumOf N C5 a1).bind (fun r38 => some (r38, C5)) else if a1 = 15 then some (C5 0 2, C5) else if a1 = 16 then some (C5 0 4, C5) else (f_X9_sumOf N C5 a1).bind (fun r42 => some (r42, C5))))
def lp_X9_records_51 (N : Nat) (k85_3 : kS → Option (kS)) : Nat → Int32 → kS → Option (kS)
  | 0, _, _ => none
  | n + 1, x6, C7 => if 642 ≤ x6 then k85_3 C7 else gIn x6 642 (gIn ((642 * (C7 0 2)) + x6) 2568 (jn (up1 C7 2 (upd (C7 2) (((642 * (C7 0 2)) + x6).toNatClampNeg) (C7 1 x6.toNatClampNeg))) (fun C11 : kS => lp_X9_records_51 N k85_3 n (x6 + 1) C11)))
def lp_X9_records_10 (N : Nat) (k39_13 : kS → Option (kS)) : Nat → Int32 → kS → Option (kS)
  | 0, _, _ => none
  | n + 1, x16, C17 => if 1926 ≤ x16 then k39_13 C17 else gIn (x16 + 642) 2568 (gIn x16 2568 (jn (up1 C17 2 (upd (C17 2) (x16.toNatClampNeg) (C17 2 (x16 + 642).toNatClampNeg))) (fun C21 : kS => lp_X9_records_10 N k39_13 n (x16 + 1) C21)))
def f_X9_records (N : Nat) (C : kS) : Option (kS) := jn (fun (C1 : kS) => jn (fun (C3 : kS) => jn (up1 C3 0 (upd (C3 0) 2 ((C3 0 2) + 1))) (fun C5 : kS => some C5)) (fun k85_3 => lp_X9_records_51 N k85_3 N 0 C1)) (fun j49_1 => if (C 0 2) = 4 then jn (fun (C13 : kS) => jn (up1 C13 0 (upd (C13 0) 2 ((C13 0 2) - 1))) (fun C15 : kS => j49_1 C15)) (fun k39_13 => lp_X9_records_10 N k39_13 N 0 C) else j49_1 C)
def lp_X9_drops_41 (N : Nat) (a1 : Int32) (a2 : Int32) (a3 : Int32) (k78_9 : kS → Option (Int32 × kS)) : Nat → Int32 → kS → Option (Int32 × kS)
  | 0, _, _ => none
  | n + 1, x12, C13 => gIn a1 642 (if (a2 + (a3 * (C13 1 a1.toNatClampNeg))) ≤ x12 then k78_9 C13 else gIn (x12 + a3) 642 (gIn x12 642 (jn (up1 C13 1 (upd (C13 1) (x12.toNatClampNeg) (C13 1 (x12 + a3).toNatClampNeg))) (fun C18 : kS => lp_X9_drops_41 N a1 a2 a3 k78_9 n (x12 + 1) C18))))
def f_X9_drops (N : Nat) (C : kS) (a1 : Int32) (a2 : Int32) (a3 : Int32) (a4 : Int32) : Option (Int32 × kS) := if a4 < 0 then some ((-11), C) else gIn a1 642 (if a4 < (C 1 a1.toNatClampNeg) then (f_X9_records N C).bind (fun C5 => gIn a1 642 (gIn a1 642 (jn (up1 C5 1 (upd (C5 1) (a1.toNatClampNeg) ((C5 1 a1.toNatClampNeg) - 1))) (fun C8 : kS => jn (fun (C9 : kS) => gIn a1 642 (some (C9 1 a1.toNatClampNeg, C9))) (fun k78_9 => lp_X9_drops_41 N a1 a2 a3 k78_9 N (a2 + (a3 * a4)) C8))))) else some ((-11), C))
def f_X9_dropEnding (N : Nat) (C : kS) (a1 : Int32) : Option (Int32 × kS) := (f_X9_drops N C 2 626 4 a1).bind (fun p2 => some (p2.1, p2.2))
def f_X9_dropName (N : Nat) (C : kS) (a1 : Int32) : Option (Int32 × kS) := (f_X9_drops N C 1 554 9 a1).bind (fun p2 => some (p2.1, p2.2))
def lp_X9_isText_21 (N : Nat) (C : kS) (a1 : Int32) (k69_4 : Int32 → Option (Int32)) : Nat → Int32 → Int32 → Option (Int32)
  | 0, _, _ => none
  | n + 1, x6, x7 => gIn a1 642 (if (C 1 a1.toNatClampNeg) ≤ x7 then k69_4 x6 else if x6 = 0 then k69_4 x6 else gIn ((a1 + 1) + x7) 642 (gIn x7 200 (jn (fun (t13 : Int32) => lp_X9_isText_21 N C a1 k69_4 n t13 (x7 + 1)) (fun j62_13 => if (C 1 ((a1 + 1) + x7).toNatClampNeg) = ((C 3 x7.toNatClampNeg) - 97) then j62_13 1 else j62_13 0))))
def f_X9_isText (N : Nat) (C : kS) (a1 : Int32) : Option (Int32) := gIn a1 642 (jn (fun (t2 : Int32) => jn (fun (x4 : Int32) => some (x4 &&& 1)) (fun k69_4 => lp_X9_isText_21 N C a1 k69_4 N t2 0)) (fun j18_2 => if (C 1 a1.toNatClampNeg) = (C 0 4) then j18_2 1 else j18_2 0))
def lp_X9_makes_106 (N : Nat) (a1 : Int32) (a2 : Int32) (a3 : Int32) (C9 : kS) (k143_13 : kS → Option (Int32 × kS)) : Nat → Int32 → kS → Option (Int32 × kS)
  | 0, _, _ => none
  | n + 1, x19, C20 => if (C20 0 4) ≤ x19 then k143_13 C20 else gIn x19 200 (gIn (((a2 + (a3 * (C9 1 a1.toNatClampNeg))) + 1) + x19) 642 (jn (up1 C20 1 (upd (C20 1) ((((a2 + (a3 * (C9 1 a1.toNatClampNeg))) + 1) + x19).toNatClampNeg) ((C20 3 x19.toNatClampNeg) - 97))) (fun C24 : kS => lp_X9_makes_106 N a1 a2 a3 C9 k143_13 n (x19 + 1) C24)))
def lp_X9_makes_12 (N : Nat) (C : kS) (a1 : Int32) (a2 : Int32) (a3 : Int32) (k54_3 : Int32 → Option (Int32 × kS)) : Nat → Int32 → Int32 → Option (Int32 × kS)
  | 0, _, _ => none
  | n + 1, x25, x26 => gIn a1 642 (if (C 1 a1.toNatClampNeg) ≤ x26 then k54_3 x25 else if x25 = 0 then k54_3 x25 else (f_X9_isText N C (a2 + (a3 * x26))).bind (fun r31 => jn (fun (t32 : Int32) => lp_X9_makes_12 N C a1 a2 a3 k54_3 n t32 (x26 + 1)) (fun j46_32 => if r31 = 0 then j46_32 1 else j46_32 0)))
def f_X9_makes (N : Nat) (C : kS) (a1 : Int32) (a2 : Int32) (a3 : Int32) (a4 : Int32) : Option (Int32 × kS) := (f_X9_areLetters N C (a3 - 1)).bind (fun r2 => jn (fun (x3 : Int32) => if x3 = 0 then some ((-12), C) else gIn a1 642 (if (C 1 a1.toNatClampNeg) = a4 then some ((-13), C) else (f_X9_records N C).bind (fun C9 => gIn a1 642 (gIn (a2 + (a3 * (C9 1 a1.toNatClampNeg))) 642 (jn (up1 C9 1 (upd (C9 1) ((a2 + (a3 * (C9 1 a1.toNatClampNeg))).toNatClampNeg) (C9 0 4))) (fun C12 : kS => jn (fun (C13 : kS) => gIn a1 642 (gIn a1 642 (jn (up1 C13 1 (upd (C13 1) (a1.toNatClampNeg) ((C13 1 a1.toNatClampNeg) + 1))) (fun C17 : kS => gIn a1 642 (some ((C17 1 a1.toNatClampNeg) - 1, C17)))))) (fun k143_13 => lp_X9_makes_106 N a1 a2 a3 C9 k143_13 N 0 C12))))))) (fun k54_3 => lp_X9_makes_12 N C a1 a2 a3 k54_3 N r2 0))
def f_X9_ending (N : Nat) (C : kS) : Option (Int32 × kS) := (f_X9_makes N C 2 626 4 4).bind (fun p2 => some (p2.1, p2.2))
def f_X9_reasonAt (N : Nat) (C : kS) (a1 : Int32) (a2 : Int32) (a3 : Int32) : Option (Int32) := gIn a1 200 (if (C 3 a1.toNatClampNeg) = 32 then jn (fun (t12 : Int32) => some t12) (fun j43_12 => jn (j43_12 2) (fun j38_13 => if a1 = 0 then j38_13 else gIn (a1 - 1) 200 (if (C 3 (a1 - 1).toNatClampNeg) = 32 then j38_13 else if a1 = ((C 0 4) - 1) then j38_13 else j43_12 0))) else gIn a1 200 ((f_X9_isLetter N (C 3 a1.toNatClampNeg)).bind (fun r5 => if r5 = 0 then some 1 else jn (fun (t7 : Int32) => some t7) (fun j83_7 => if a2 = 12 then j83_7 3 else if a2 = 0 then if a3 = 40 then j83_7 4 else j83_7 0 else j83_7 0))))
def lp_X9_faultAt_6 (N : Nat) (k82_1 : kS → Option (Int32 × kS)) : Nat → Int32 → Int32 → Int32 → kS → Option (Int32 × kS)
  | 0, _, _, _, _ => none
  | n + 1, x3, x4, x5, C6 => if (C6 0 4) ≤ x5 then k82_1 C6 else (f_X9_reasonAt N C6 x5 x3 x4).bind (fun r9 => jn (up1 C6 0 (upd (C6 0) 5 r9)) (fun C10 : kS => if (C10 0 5) ≤ 0 then gIn x5 200 (jn (fun (t13 : Int32) => gIn x5 200 (jn (fun (t16 : Int32) => lp_X9_faultAt_6 N k82_1 n t16 (x4 + t13) (x5 + 1) C10) (fun j75_16 => if (C10 3 x5.toNatClampNeg) = 32 then j75_16 0 else j75_16 (x3 + 1)))) (fun j55_13 => jn (j55_13 0) (fun j54_18 => if (C10 3 x5.toNatClampNeg) = 32 then j54_18 else if x3 = 0 then j55_13 1 else j54_18))) else some (x5, C10)))
def f_X9_faultAt (N : Nat) (C : kS) : Option (Int32 × kS) := jn (fun (C1 : kS) => some ((-14), C1)) (fun k82_1 => lp_X9_faultAt_6 N k82_1 N 0 0 0 C)
def f_X9_fault (N : Nat) (C : kS) (a1 : Int32) : Option (Int32 × kS) := (f_X9_in N a1 0 1).bind (fun r2 => if r2 = 0 then some ((-11), C) else (f_X9_faultAt N C).bind (fun p5 => jn (fun (t6 : Int32) => some (t6, p5.2)) (fun j35_6 => jn (j35_6 p5.1) (fun j27_7 => if p5.1 = (-14) then j27_7 else if a1 = 0 then j27_7 else j35_6 (p5.2 0 5)))))
def lp_X9_fewest_5 (N : Nat) (C : kS) (k60_1 : Int32 → Option (Int32)) : Nat → Int32 → Int32 → Option (Int32)
  | 0, _, _ => none
  | n + 1, x3, x4 => gIn 0 642 (if (C 1 (0 : Int32).toNatClampNeg) ≤ x4 then k60_1 x3 else gIn x4 40 (jn (fun (t8 : Int32) => jn (fun (t10 : Int32) => lp_X9_fewest_5 N C k60_1 n t10 (x4 + 1)) (fun j53_10 => if x3 ≤ t8 then j53_10 x3 else j53_10 t8)) (fun j42_8 => if 0 ≤ (C 7 x4.toNatClampNeg) then gIn x4 40 ((f_X9_namesUnder N C (C 8 x4.toNatClampNeg)).bind (fun r16 => (f_X9_bits N r16).bind (fun r18 => j42_8 r18))) else j42_8 8)))
def f_X9_fewest (N : Nat) (C : kS) : Option (Int32) := jn (fun (x1 : Int32) => some x1) (fun k60_1 => lp_X9_fewest_5 N C k60_1 N 8 0)
def f_X9_isName (N : Nat) (C : kS) (a1 : Int32) : Option (Int32) := jn (fun (t1 : Int32) => some (t1 &&& 1)) (fun j19_1 => if a1 < 0 then j19_1 0 else gIn 1 642 (if (C 1 (1 : Int32).toNatClampNeg) ≤ a1 then j19_1 0 else j19_1 1))
def lp_X9_form_98 (N : Nat) (a1 : Int32) (a2 : Int32) (C11 : kS) (r13 : Int32) (k137_15 : Int32 → Option (Int32 × kS)) : Nat → Int32 → Int32 → Option (Int32 × kS)
  | 0, _, _ => none
  | n + 1, x17, x18 => gIn 0 642 (if (C11 1 (0 : Int32).toNatClampNeg) ≤ x18 then k137_15 x17 else gIn x18 40 (jn (fun (t22 : Int32) => lp_X9_form_98 N a1 a2 C11 r13 k137_15 n (x17 + t22) (x18 + 1)) (fun j128_22 => if (C11 7 x18.toNatClampNeg) = (((a1 * r13) + a2) + 1) then j128_22 1 else j128_22 0)))
def f_X9_form (N : Nat) (C : kS) (a1 : Int32) (a2 : Int32) (a3 : Int32) : Option (Int32 × kS) := (f_X9_isName N C a1).bind (fun r2 => if r2 = 0 then some ((-11), C) else if a2 < (-1) then some ((-11), C) else gIn 2 642 (if (C 1 (2 : Int32).toNatClampNeg) ≤ a2 then some ((-11), C) else (f_X9_in N a3 0 3).bind (fun r8 => if r8 = 0 then some ((-11), C) else (f_X9_laysNow N C).bind (fun C11 => (f_X9_each N C11).bind (fun r13 => if 3 ≤ a3 then jn (fun (x15 : Int32) => some (x15, C11)) (fun k137_15 => lp_X9_form_98 N a1 a2 C11 r13 k137_15 N 0 0) else jn (fun (t25 : Int32) => some (t25, C11)) (fun j91_25 => if a3 = 0 then (f_X9_lettersOf N C11 (((a1 * r13) + a2) + 1)).bind (fun r32 => j91_25 r32) else if a3 = 1 then gIn (((a1 * r13) + a2) + 1) 40 (j91_25 (C11 4 (((a1 * r13) + a2) + 1).toNatClampNeg)) else gIn (((a1 * r13) + a2) + 1) 40 (j91_25 (C11 5 (((a1 * r13) + a2) + 1).toNatClampNeg))))))))
def lp_X9_gapOf_11 (N : Nat) (C : kS) (a1 : Int32) (a2 : Int32) (k71_3 : Int32 → Option (Int32)) : Nat → Int32 → Int32 → Option (Int32)
  | 0, _, _ => none
  | n + 1, x5, x6 => (f_X9_each N C).bind (fun r8 => if ((a1 + 1) * r8) ≤ x6 then k71_3 x5 else gIn x6 40 (gIn x6 40 (jn (fun (t12 : Int32) => lp_X9_gapOf_11 N C a1 a2 k71_3 n t12 (x6 + 1)) (fun j64_12 => jn (j64_12 x5) (fun j63_13 => if (C 5 x6.toNatClampNeg) = a2 then jn (j64_12 (a2 - (C 4 x6.toNatClampNeg))) (fun j58_15 => if x5 = (-14) then j58_15 else if x5 ≤ (a2 - (C 4 x6.toNatClampNeg)) then j63_13 else j58_15) else j63_13)))))
def f_X9_gapOf (N : Nat) (C : kS) (a1 : Int32) (a2 : Int32) : Option (Int32) := (f_X9_each N C).bind (fun r2 => jn (fun (x3 : Int32) => some x3) (fun k71_3 => lp_X9_gapOf_11 N C a1 a2 k71_3 N (-14) (a1 * r2)))
def f_X9_isWord (N : Nat) (C : kS) (a1 : Int32) : Option (Int32) := jn (fun (t1 : Int32) => some (t1 &&& 1)) (fun j19_1 => if a1 < 0 then j19_1 0 else gIn 0 642 (if (C 1 (0 : Int32).toNatClampNeg) ≤ a1 then j19_1 0 else j19_1 1))
def lp_X9_guessOf_29 (N : Nat) (C : kS) (a1 : Int32) (x2 : Int32) (r6 : Int32) (k93_7 : Int32 → Option (Int32)) : Nat → Int32 → Int32 → Option (Int32)
  | 0, _, _ => none
  | n + 1, x15, x16 => gIn 1 642 (if (C 1 (1 : Int32).toNatClampNeg) ≤ x16 then k93_7 x15 else (f_X9_gapOf N C x16 a1).bind (fun r20 => jn (fun (t21 : Int32) => lp_X9_guessOf_29 N C a1 x2 r6 k93_7 n (x15 + t21) (x16 + 1)) (fun j84_21 => jn (j84_21 0) (fun j83_22 => if r20 = (-14) then j83_22 else jn (j84_21 1) (fun j79_24 => if r20 < r6 then j79_24 else if r20 = r6 then if x2 ≤ x16 then j83_22 else j79_24 else j83_22)))))
def lp_X9_guessOf_3 (N : Nat) (C : kS) (a1 : Int32) (a2 : Int32) (a3 : Int32) (k124_0 : Option (Int32)) : Nat → Int32 → Option (Int32)
  | 0, _ => none
  | n + 1, x2 => gIn 1 642 (if (C 1 (1 : Int32).toNatClampNeg) ≤ x2 then k124_0 else (f_X9_gapOf N C x2 a1).bind (fun r6 => jn (fun (x7 : Int32) => jn (lp_X9_guessOf_3 N C a1 a2 a3 k124_0 n (x2 + 1)) (fun j118_8 => if r6 = (-14) then j118_8 else if x7 = a2 then jn (fun (t12 : Int32) => some t12) (fun j117_12 => if a3 = 0 then j117_12 x2 else j117_12 r6) else j118_8)) (fun k93_7 => lp_X9_guessOf_29 N C a1 x2 r6 k93_7 N 0 0)))
def f_X9_guessOf (N : Nat) (C : kS) (a1 : Int32) (a2 : Int32) (a3 : Int32) : Option (Int32) := jn (some (-14)) (fun k124_0 => lp_X9_guessOf_3 N C a1 a2 a3 k124_0 N 0)
def f_X9_guess (N : Nat) (C : kS) (a1 : Int32) (a2 : Int32) (a3 : Int32) : Option (Int32 × kS) := (f_X9_isWord N C a1).bind (fun r2 => if r2 = 0 then some ((-11), C) else if a2 < 0 then some ((-11), C) else (f_X9_in N a3 0 1).bind (fun r6 => if r6 = 0 then some ((-11), C) else (f_X9_laysNow N C).bind (fun C9 => gIn a1 40 (jn (fun (t11 : Int32) => some (t11, C9)) (fun j54_11 => if 0 ≤ (C9 7 a1.toNatClampNeg) then gIn a1 40 ((f_X9_guessOf N C9 (C9 8 a1.toNatClampNeg) a2 a3).bind (fun r16 => j54_11 r16)) else j54_11 (-12))))))
def f_X9_hiddenOf (N : Nat) (C : kS) (a1 : Int32) (a2 : Int32) : Option (Int32) := gIn a1 40 (if 0 ≤ (C 7 a1.toNatClampNeg) then gIn a1 40 ((f_X9_namesUnder N C (C 8 a1.toNatClampNeg)).bind (fun r5 => jn (fun (t6 : Int32) => some t6) (fun j77_6 => if a2 = 4 then gIn a1 40 ((f_X9_each N C).bind (fun r19 => gNz r19 (j77_6 ((C 7 a1.toNatClampNeg) / r19)))) else if a2 = 5 then gIn a1 40 ((f_X9_each N C).bind (fun r15 => gNz r15 (j77_6 (((C 7 a1.toNatClampNeg) - (C 7 a1.toNatClampNeg) / r15 * r15) - 1)))) else if a2 = 8 then j77_6 r5 else (f_X9_bits N r5).bind (fun r12 => j77_6 r12)))) else some (-14))
def f_X9_isSetting (N : Nat) (a0 : Int32) (a1 : Int32) : Option (Int32) := if a0 = 0 then (f_X9_in N a1 0 3).bind (fun r3 => some (r3 &&& 1)) else if a0 = 1 then (f_X9_in N a1 1 50).bind (fun r6 => some (r6 &&& 1)) else if a0 = 2 then (f_X9_in N a1 1 8).bind (fun r9 => some (r9 &&& 1)) else if a0 = 3 then (f_X9_in N a1 1 9).bind (fun r12 => some (r12 &&& 1)) else if a0 = 4 then (f_X9_in N a1 20 200).bind (fun r15 => some (r15 &&& 1)) else some ((0 : Int32) &&& 1)
def f_X9_letter (N : Nat) (C : kS) (a1 : Int32) (a2 : Int32) : Option (Int32 × kS) := (f_X9_isWord N C a1).bind (fun r2 => if r2 = 0 then some ((-11), C) else if 0 ≤ a2 then (f_X9_laysNow N C).bind (fun C6 => gIn a1 40 (if (C6 7 a1.toNatClampNeg) < 0 then gIn (34 + (13 * a1)) 642 (jn (fun (t10 : Int32) => some (t10, C6)) (fun j67_10 => if (C6 1 (34 + (13 * a1)).toNatClampNeg) ≤ a2 then j67_10 (-14) else gIn (((34 + (13 * a1)) + 1) + a2) 642 (j67_10 ((C6 1 (((34 + (13 * a1)) + 1) + a2).toNatClampNeg) + 97)))) else some ((-12), C6))) else some ((-11), C))
def lp_X9_lineSum_9 (N : Nat) (C : kS) (a1 : Int32) (a2 : Int32) (k112_2 : Int32 → Int32 → Option (Int32)) : Nat → Int32 → Int32 → Int32 → Option (Int32)
  | 0, _, _, _ => none
  | n + 1, x7, x8, x9 => gIn 0 642 (if (C 1 (0 : Int32).toNatClampNeg) ≤ x9 then k112_2 x7 x8 else gIn x9 40 (jn (fun (x13 : Int32) (x14 : Int32) => lp_X9_lineSum_9 N C a1 a2 k112_2 n x13 x14 (x9 + 1)) (fun j106_14 => if (C 9 x9.toNatClampNeg) = a1 then jn (fun (t17 : Int32) => jn (fun (t19 : Int32) => jn (fun (t21 : Int32) => j106_14 t19 (x8 + t21)) (fun j103_21 => if a2 = 2 then gIn x9 40 (j103_21 ((C 8 x9.toNatClampNeg) + t17)) else jn (j103_21 1) (fun j98_23 => if a2 = 1 then j98_23 else gIn x9 40 (if (C 7 x9.toNatClampNeg) < 0 then j103_21 0 else j98_23)))) (fun j62_19 => if x7 = (-14) then j62_19 x9 else j62_19 x7)) (fun j48_17 => if x7 = (-14) then j48_17 0 else gIn 6 642 (j48_17 (C 1 (6 : Int32).toNatClampNeg))) else j106_14 x7 x8)))
def f_X9_lineSum (N : Nat) (C : kS) (a1 : Int32) (a2 : Int32) : Option (Int32) := jn (fun (x1 : Int32) (x2 : Int32) => jn (fun (t4 : Int32) => some t4) (fun j122_4 => if a2 = 0 then j122_4 x1 else j122_4 x2)) (fun k112_2 => lp_X9_lineSum_9 N C a1 a2 k112_2 N (-14) 0 0)
def f_X9_line (N : Nat) (C : kS) (a1 : Int32) (a2 : Int32) : Option (Int32 × kS) := (f_X9_laysNow N C).bind (fun C2 => if a1 < 0 then some ((-11), C2) else if (C2 0 14) ≤ a1 then some ((-11), C2) else (f_X9_in N a2 0 4).bind (fun r6 => if r6 = 0 then some ((-11), C2) else if a2 = 3 then gIn 7 642 ((f_X9_lineSum N C2 a1 2).bind (fun r13 => jn (fun (t14 : Int32) => some (t14, C2)) (fun j57_14 => if 0 ≤ ((C2 1 (7 : Int32).toNatClampNeg) - r13) then j57_14 ((C2 1 (7 : Int32).toNatClampNeg) - r13) else j57_14 0))) else (f_X9_lineSum N C2 a1 a2).bind (fun r10 => some (r10, C2))))
def lp_X9_modeFor_7 (N : Nat) (k63_2 : Int32 → kS → Option (Int32 × kS)) : Nat → Int32 → Int32 → Int32 → kS → Option (Int32 × kS)
  | 0, _, _, _, _ => none
  | n + 1, x4, x5, x6, C7 => if 4 ≤ x6 then k63_2 x4 C7 else gIn 4 642 ((f_X9_lays N C7 x6 (C7 1 (4 : Int32).toNatClampNeg)).bind (fun C11 => (f_X9_sumOf N C11 12).bind (fun r13 => (f_X9_sumOf N C11 11).bind (fun r15 => jn (fun (x16 : Int32) (x17 : Int32) => lp_X9_modeFor_7 N k63_2 n x16 x17 (x6 + 1) C11) (fun j57_17 => if r15 = 0 then jn (j57_17 x6 r13) (fun j52_19 => if x4 = (-14) then j52_19 else if x5 ≤ r13 then j57_17 x4 x5 else j52_19) else j57_17 x4 x5)))))
def f_X9_modeFor (N : Nat) (C : kS) : Option (Int32 × kS) := jn (fun (x1 : Int32) (C2 : kS) => some (x1, C2)) (fun k63_2 => lp_X9_modeFor_7 N k63_2 N (-14) 0 0 C)
def f_X9_name (N : Nat) (C : kS) : Option (Int32 × kS) := (f_X9_makes N C 1 554 9 8).bind (fun p2 => some (p2.1, p2.2))
def lp_X9_page_27 (N : Nat) (k117_8 : kS → Option (Int32 × kS)) : Nat → Int32 → Int32 → kS → Option (Int32 × kS)
  | 0, _, _, _ => none
  | n + 1, x11, x12, C13 => if (C13 0 4) ≤ x12 then k117_8 C13 else gIn x12 200 (jn (fun (x16 : Int32) (C17 : kS) => lp_X9_page_27 N k117_8 n x16 (x12 + 1) C17) (fun j111_17 => if (C13 3 x12.toNatClampNeg) = 32 then j111_17 0 C13 else gIn 0 642 (jn (fun (t21 : Int32) => gIn 0 642 (jn (up1 C13 1 (upd (C13 1) ((0 : Int32).toNatClampNeg) ((C13 1 (0 : Int32).toNatClampNeg) + t21))) (fun C24 : kS => gIn 0 642 (jn (34 + (13 * ((C24 1 (0 : Int32).toNatClampNeg) - 1))) (fun x26 : Int32 => gIn x26 642 (jn (up1 C24 1 (upd (C24 1) (x26.toNatClampNeg) (x11 + 1))) (fun C28 : kS => gIn x12 200 (gIn (x26 + (x11 + 1)) 642 (jn (up1 C28 1 (upd (C28 1) ((x26 + (x11 + 1)).toNatClampNeg) ((C28 3 x12.toNatClampNeg) - 97))) (fun C31 : kS => j111_17 (x11 + 1) C31)))))))))) (fun j67_21 => if x11 = 0 then j67_21 1 else j67_21 0))))
def f_X9_page (N : Nat) (C : kS) : Option (Int32 × kS) := (f_X9_faultAt N C).bind (fun p2 => if p2.1 = (-14) then (f_X9_records N p2.2).bind (fun C5 => gIn 0 642 (jn (up1 C5 1 (upd (C5 1) ((0 : Int32).toNatClampNeg) 0)) (fun C7 : kS => jn (fun (C8 : kS) => gIn 0 642 (some (C8 1 (0 : Int32).toNatClampNeg, C8))) (fun k117_8 => lp_X9_page_27 N k117_8 N 0 0 C7)))) else some ((-12), p2.2))
def lp_X9_same_28 (N : Nat) (a1 : Int32) (a2 : Int32) (C8 : kS) (k143_9 : Int32 → Option (Int32 × kS)) : Nat → Int32 → Int32 → Option (Int32 × kS)
  | 0, _, _ => none
  | n + 1, x14, x15 => gIn 0 642 (if (C8 1 (0 : Int32).toNatClampNeg) ≤ x15 then k143_9 x14 else gIn x15 40 (jn (fun (t19 : Int32) => jn (fun (x21 : Int32) => lp_X9_same_28 N a1 a2 C8 k143_9 n x21 (x15 + 1)) (fun j137_21 => jn (jn (fun (t24 : Int32) => jn (fun (t26 : Int32) => j137_21 t26) (fun j136_26 => jn (j136_26 0) (fun j135_27 => if x14 = 0 then j135_27 else (f_X9_each N C8).bind (fun r31 => gIn x15 40 ((f_X9_each N C8).bind (fun r34 => gNz r34 (gIn ((t24 * r31) + ((C8 7 x15.toNatClampNeg) - (C8 7 x15.toNatClampNeg) / r34 * r34)) 40 (gIn x15 40 (if (C8 5 ((t24 * r31) + ((C8 7 x15.toNatClampNeg) - (C8 7 x15.toNatClampNeg) / r34 * r34)).toNatClampNeg) = (C8 8 x15.toNatClampNeg) then j136_26 1 else j135_27))))))))) (fun j90_24 => if t19 = a1 then j90_24 a2 else j90_24 a1)) (fun j79_22 => if t19 = a1 then j79_22 else if t19 = a2 then j79_22 else j137_21 x14))) (fun j65_19 => if 0 ≤ (C8 7 x15.toNatClampNeg) then gIn x15 40 ((f_X9_each N C8).bind (fun r45 => gNz r45 (j65_19 ((C8 7 x15.toNatClampNeg) / r45)))) else j65_19 (-1))))
def f_X9_same (N : Nat) (C : kS) (a1 : Int32) (a2 : Int32) : Option (Int32 × kS) := (f_X9_isName N C a1).bind (fun r2 => if r2 = 0 then some ((-11), C) else (f_X9_isName N C a2).bind (fun r5 => if r5 = 0 then some ((-11), C) else (f_X9_laysNow N C).bind (fun C8 => jn (fun (x9 : Int32) => jn (fun (t11 : Int32) => some (t11, C8)) (fun j152_11 => if x9 = 0 then j152_11 0 else j152_11 1)) (fun k143_9 => lp_X9_same_28 N a1 a2 C8 k143_9 N 1 0))))
def f_X9_set (N : Nat) (C : kS) (a1 : Int32) (a2 : Int32) : Option (Int32 × kS) := (f_X9_isSetting N a1 a2).bind (fun r2 => if r2 = 0 then some ((-11), C) else (f_X9_records N C).bind (fun C5 => gIn (3 + a1) 642 (gIn (3 + a1) 642 (jn (up1 C5 1 (upd (C5 1) ((3 + a1).toNatClampNeg) a2)) (fun C8 : kS => some (C5 1 (3 + a1).toNatClampNeg, C8))))))
def lp_X9_stepFor_15 (N : Nat) (a1 : Int32) (k43_4 : kS → Option (Int32 × kS)) : Nat → Int32 → kS → Option (Int32 × kS)
  | 0, _, _ => none
  | n + 1, x6, C7 => if 50 < x6 then k43_4 C7 else (f_X9_lays N C7 1 x6).bind (fun C10 => (f_X9_fewest N C10).bind (fun r12 => if r12 < a1 then lp_X9_stepFor_15 N a1 k43_4 n (x6 + 1) C10 else some (x6, C10)))
def f_X9_stepFor (N : Nat) (C : kS) (a1 : Int32) : Option (Int32 × kS) := (f_X9_in N a1 1 8).bind (fun r2 => if r2 = 0 then some ((-11), C) else jn (fun (C4 : kS) => some ((-14), C4)) (fun k43_4 => lp_X9_stepFor_15 N a1 k43_4 N 1 C))
def f_X9_type (N : Nat) (C : kS) (a1 : Int32) : Option (Int32 × kS) := (f_X9_in N a1 32 126).bind (fun r2 => if r2 = 0 then some ((-11), C) else if (C 0 4) = 200 then some ((-13), C) else gIn (C 0 4) 200 (jn (up1 C 3 (upd (C 3) ((C 0 4).toNatClampNeg) a1)) (fun C6 : kS => jn (up1 C6 0 (upd (C6 0) 4 ((C6 0 4) + 1))) (fun C7 : kS => some (C7 0 4, C7)))))
def f_X9_under (N : Nat) (C : kS) (a1 : Int32) : Option (Int32 × kS) := (f_X9_in N a1 0 500).bind (fun r2 => if r2 = 0 then some ((-11), C) else (f_X9_laysNow N C).bind (fun C5 => (f_X9_namesUnder N C5 a1).bind (fun r7 => some (r7, C5))))
def lp_X9_undo_22 (N : Nat) (k56_3 : kS → Option (Int32 × kS)) : Nat → Int32 → kS → Option (Int32 × kS)
  | 0, _, _ => none
  | n + 1, x5, C6 => if 642 ≤ x5 then k56_3 C6 else gIn ((642 * (C6 0 2)) + x5) 2568 (gIn x5 642 (jn (up1 C6 1 (upd (C6 1) (x5.toNatClampNeg) (C6 2 ((642 * (C6 0 2)) + x5).toNatClampNeg))) (fun C10 : kS => lp_X9_undo_22 N k56_3 n (x5 + 1) C10)))
def f_X9_undo (N : Nat) (C : kS) : Option (Int32 × kS) := if (C 0 2) = 0 then some ((-12), C) else jn (up1 C 0 (upd (C 0) 2 ((C 0 2) - 1))) (fun C2 : kS => jn (fun (C3 : kS) => some (C3 0 2, C3)) (fun k56_3 => lp_X9_undo_22 N k56_3 N 0 C2))
def f_X9_widen (N : Nat) (C : kS) (a1 : Int32) (a2 : Int32) : Option (Int32 × kS) := (f_X9_isLetter N a1).bind (fun r2 => if r2 = 0 then some ((-11), C) else (f_X9_in N a2 1 9).bind (fun r5 => if r5 = 0 then some ((-11), C) else (f_X9_records N C).bind (fun C8 => gIn ((8 + a1) - 97) 642 (gIn ((8 + a1) - 97) 642 (jn (up1 C8 1 (upd (C8 1) (((8 + a1) - 97).toNatClampNeg) a2)) (fun C11 : kS => some (C8 1 ((8 + a1) - 97).toNatClampNeg, C11)))))))
def lp_X9_widthAgain_23 (N : Nat) (a1 : Int32) (C2 : kS) (k55_5 : Int32 → Option (Int32 × kS)) : Nat → Int32 → Int32 → Option (Int32 × kS)
  | 0, _, _ => none
  | n + 1, x9, x10 => gIn 0 642 (if (C2 1 (0 : Int32).toNatClampNeg) ≤ x10 then k55_5 x9 else gIn x10 40 (jn (fun (t14 : Int32) => lp_X9_widthAgain_23 N a1 C2 k55_5 n t14 (x10 + 1)) (fun j48_14 => if (C2 9 x10.toNatClampNeg) = a1 then j48_14 x10 else j48_14 x9)))
def f_X9_widthAgain (N : Nat) (C : kS) (a1 : Int32) : Option (Int32 × kS) := (f_X9_laysNow N C).bind (fun C2 => if a1 < 0 then some ((-11), C2) else if a1 < (C2 0 14) then jn (fun (x5 : Int32) => gIn x5 40 (gIn x5 40 (some ((C2 10 x5.toNatClampNeg) + (C2 8 x5.toNatClampNeg), C2)))) (fun k55_5 => lp_X9_widthAgain_23 N a1 C2 k55_5 N 0 0) else some ((-11), C2))
def f_X9_word (N : Nat) (C : kS) (a1 : Int32) (a2 : Int32) : Option (Int32 × kS) := (f_X9_isWord N C a1).bind (fun r2 => if r2 = 0 then some ((-11), C) else (f_X9_in N a2 0 9).bind (fun r5 => if r5 = 0 then some ((-11), C) else (f_X9_laysNow N C).bind (fun C8 => if a2 = 0 then gIn (34 + (13 * a1)) 642 (some (C8 1 (34 + (13 * a1)).toNatClampNeg, C8)) else if a2 = 1 then (f_X9_widthAt N C8 (34 + (13 * a1))).bind (fun r13 => some (r13, C8)) else if a2 = 2 then gIn a1 40 (some (C8 8 a1.toNatClampNeg, C8)) else if a2 = 3 then gIn a1 40 (jn (fun (t18 : Int32) => some (t18, C8)) (fun j118_18 => if 0 ≤ (C8 7 a1.toNatClampNeg) then j118_18 1 else j118_18 0)) else if a2 = 4 then (f_X9_hiddenOf N C8 a1 a2).bind (fun r23 => some (r23, C8)) else if a2 = 5 then (f_X9_hiddenOf N C8 a1 a2).bind (fun r26 => some (r26, C8)) else if a2 = 6 then gIn a1 40 (some (C8 9 a1.toNatClampNeg, C8)) else if a2 = 7 then gIn a1 40 (some (C8 10 a1.toNatClampNeg, C8)) else (f_X9_hiddenOf N C8 a1 a2).bind (fun r32 => some (r32, C8)))))
def f_L_low (N : Nat) (a0 : Int32) (a1 : Int32) : Option (Int32) := gNz a1 (some ((a0 &&& 2147483647) - (a0 &&& 2147483647) / a1 * a1))
def lp_L_length_2 (N : Nat) (a0 : Int64) (k18_1 : Int32 → Option (Int32)) : Nat → Int32 → Option (Int32)
  | 0, _ => none
  | n + 1, x3 => if (lg_cmp (a0 >>> ((5 * x3).toInt64 &&& 63)) (0 : Int64)) ≤ 0 then k18_1 x3 else lp_L_length_2 N a0 k18_1 n (x3 + 1)
def f_L_length (N : Nat) (a0 : Int64) : Option (Int32) := jn (fun (x1 : Int32) => some x1) (fun k18_1 => lp_L_length_2 N a0 k18_1 N 0)
def lp_L_ones_4 (N : Nat) (k20_1 : Int32 → Option (Int32)) : Nat → Int32 → Int32 → Option (Int32)
  | 0, _, _ => none
  | n + 1, x3, x4 => if x4 ≤ 0 then k20_1 x3 else lp_L_ones_4 N k20_1 n (x3 + 1) (x4 &&& (x4 - 1))
def f_L_ones (N : Nat) (a0 : Int32) : Option (Int32) := jn (fun (x1 : Int32) => some x1) (fun k20_1 => lp_L_ones_4 N k20_1 N 0 a0)
def lp_L_letters_5 (N : Nat) (a0 : Int32) (a1 : Int32) (k90_1 : Int64 → Option (Int64)) : Nat → Int64 → Int32 → Option (Int64)
  | 0, _, _ => none
  | n + 1, x3, x4 => if a1 ≤ x4 then k90_1 x3 else (f_L_low N (a0 >>> ((3 * x4) &&& 31)) 6).bind (fun r7 => jn (fun (t8 : Int32) => jn ((x3 <<< ((5 : Int32).toInt64 &&& 63)) ||| t8.toInt64) (fun x10 : Int64 => lp_L_letters_5 N a0 a1 k90_1 n x10 (x4 + 1))) (fun j81_8 => if r7 = 0 then j81_8 1 else if r7 = 1 then j81_8 9 else if r7 = 2 then j81_8 13 else if r7 = 3 then j81_8 6 else if r7 = 4 then j81_8 20 else j81_8 2))
def f_L_letters (N : Nat) (a0 : Int32) (a1 : Int32) : Option (Int64) := jn (fun (x1 : Int64) => some x1) (fun k90_1 => lp_L_letters_5 N a0 a1 k90_1 N (0 : Int64) 0)
def lp_L_width_10 (N : Nat) (C : kS) (a1 : Int64) (k39_3 : Int32 → Option (Int32)) : Nat → Int32 → Int32 → Option (Int32)
  | 0, _, _ => none
  | n + 1, x5, x6 => if x6 < 0 then k39_3 x5 else gIn ((((a1 >>> ((5 * x6).toInt64 &&& 63)) &&& (31 : Int64)).toInt32) - 1) 26 (jn (x5 + (C 1 ((((a1 >>> ((5 * x6).toInt64 &&& 63)) &&& (31 : Int64)).toInt32) - 1).toNatClampNeg)) (fun x9 : Int32 => lp_L_width_10 N C a1 k39_3 n x9 (x6 + (-1))))
def f_L_width (N : Nat) (C : kS) (a1 : Int64) : Option (Int32) := (f_L_length N a1).bind (fun r2 => jn (fun (x3 : Int32) => some x3) (fun k39_3 => lp_L_width_10 N C a1 k39_3 N 0 (r2 - 1)))
def f_L_form (N : Nat) (C : kS) (a2 : Int32) : Option (Int64) := gNz 3 (gNz 3 (gIn 6 8 (if (C 0 (6 : Int32).toNatClampNeg) ≤ (a2 / 3) then some (0 : Int64) else gIn 7 8 (if ((a2 - a2 / 3 * 3) - 1) < (C 0 (7 : Int32).toNatClampNeg) then gNz 3 (gIn (8 + (a2 / 3)) 14 (jn (fun (t9 : Int64) => some t9) (fun j66_9 => if 0 ≤ ((a2 - a2 / 3 * 3) - 1) then gIn (12 + ((a2 - a2 / 3 * 3) - 1)) 14 ((f_L_length N ((C 2 (12 + ((a2 - a2 / 3 * 3) - 1)).toNatClampNeg).toInt64)).bind (fun r14 => gIn (12 + ((a2 - a2 / 3 * 3) - 1)) 14 (j66_9 ((((C 2 (8 + (a2 / 3)).toNatClampNeg).toInt64) <<< ((5 * r14).toInt64 &&& 63)) ||| ((C 2 (12 + ((a2 - a2 / 3 * 3) - 1)).toNatClampNeg).toInt64))))) else j66_9 ((C 2 (8 + (a2 / 3)).toNatClampNeg).toInt64)))) else some (0 : Int64)))))
def lp_L_bar_77 (N : Nat) (a5 : Int32) (x24 : Int32) (k144_29 : Int32 → Int32 → kS → Option (Int32)) : Nat → Int32 → Int32 → Int32 → kS → Option (Int32)
  | 0, _, _, _, _ => none
  | n + 1, x31, x32, x33, C34 => if 12 ≤ x33 then k144_29 x31 x32 C34 else (f_L_form N C34 x33).bind (fun r37 => jn (fun (x38 : Int32) (x39 : Int32) (C40 : kS) => lp_L_bar_77 N a5 x24 k144_29 n x38 x39 (x33 + 1) C40) (fun j138_40 => if (lg_cmp r37 (0 : Int64)) ≤ 0 then j138_40 x31 x32 C34 else (f_L_form N C34 x33).bind (fun r44 => (f_L_width N C34 r44).bind (fun r46 => if r46 = x24 then jn (fun (t48 : Int32) => gIn x31 12 (jn (up1 C34 3 (upd (C34 3) (x31.toNatClampNeg) x24)) (fun C51 : kS => j138_40 (x31 + 1) t48 C51))) (fun j126_48 => if x33 = a5 then j126_48 x31 else j126_48 x32) else j138_40 x31 x32 C34))))
def lp_L_bar_67 (N : Nat) (a5 : Int32) (k150_9 : Int32 → Int32 → kS → Option (Int32)) : Nat → Int32 → Int32 → Int32 → kS → Option (Int32)
  | 0, _, _, _, _ => none
  | n + 1, x22, x23, x24, C25 => if 120 ≤ x24 then k150_9 x22 x23 C25 else jn (fun (x27 : Int32) (x28 : Int32) (C29 : kS) => lp_L_bar_67 N a5 k150_9 n x27 x28 (x24 + 1) C29) (fun k144_29 => lp_L_bar_77 N a5 x24 k144_29 N x22 x23 0 C25)
def f_L_bar (N : Nat) (C : kS) (a3 : Int32) (a4 : Int32) (a5 : Int32) : Option (Int32) := (f_L_form N C a5).bind (fun r2 => (f_L_width N C r2).bind (fun r4 => if 2 ≤ a3 then jn (up1 C 3 (fun _ => 0)) (fun C6 : kS => jn (fun (x7 : Int32) (x8 : Int32) (C9 : kS) => jn (fun (t11 : Int32) => gIn 2 8 (jn (fun (t14 : Int32) => gIn (t14 - 1) 12 (some (C9 3 (t14 - 1).toNatClampNeg))) (fun j194_14 => if (t11 + (C9 0 (2 : Int32).toNatClampNeg)) ≤ x7 then j194_14 t11 else j194_14 x7))) (fun j172_11 => if a3 = 3 then j172_11 x7 else gIn 2 8 (gNz (C9 0 (2 : Int32).toNatClampNeg) (gIn 2 8 (j172_11 (((x8 / (C9 0 (2 : Int32).toNatClampNeg)) + 1) * (C9 0 (2 : Int32).toNatClampNeg))))))) (fun k150_9 => lp_L_bar_67 N a5 k150_9 N 0 0 1 C6)) else jn (fun (t53 : Int32) => some t53) (fun j51_53 => if a3 = 0 then j51_53 r4 else gNz a4 (if (r4 - r4 / a4 * a4) = 0 then j51_53 r4 else gNz a4 (j51_53 ((r4 - (r4 - r4 / a4 * a4)) + a4))))))
def lp_L_formOf_6 (N : Nat) (C : kS) (a2 : Int32) (k38_1 : Int32 → Option (Int32)) : Nat → Int32 → Int32 → Option (Int32)
  | 0, _, _ => none
  | n + 1, x3, x4 => if x4 < 0 then k38_1 x3 else (f_L_form N C x4).bind (fun r7 => gIn a2 14 (jn (fun (t9 : Int32) => lp_L_formOf_6 N C a2 k38_1 n t9 (x4 + (-1))) (fun j31_9 => if (lg_cmp r7 ((C 2 a2.toNatClampNeg).toInt64)) = 0 then j31_9 x4 else j31_9 x3)))
def f_L_formOf (N : Nat) (C : kS) (a2 : Int32) : Option (Int32) := jn (fun (x1 : Int32) => some x1) (fun k38_1 => lp_L_formOf_6 N C a2 k38_1 N (-1) 11)
def f_L_shown (N : Nat) (C : kS) (a3 : Int32) (a4 : Int32) (a5 : Int32) : Option (Int32) := (f_L_formOf N C a5).bind (fun r2 => jn (fun (t3 : Int32) => some t3) (fun j36_3 => if 0 ≤ r2 then (f_L_bar N C a3 a4 r2).bind (fun r7 => j36_3 r7) else gIn a5 14 ((f_L_width N C ((C 2 a5.toNatClampNeg).toInt64)).bind (fun r10 => j36_3 r10))))
def lp_L_under_6 (N : Nat) (C : kS) (a3 : Int32) (a4 : Int32) (a5 : Int32) (k62_1 : Int32 → Option (Int32)) : Nat → Int32 → Int32 → Option (Int32)
  | 0, _, _ => none
  | n + 1, x3, x4 => if 12 ≤ x4 then k62_1 x3 else (f_L_form N C x4).bind (fun r7 => jn (fun (t8 : Int32) => lp_L_under_6 N C a3 a4 a5 k62_1 n (x3 ||| t8) (x4 + 1)) (fun j53_8 => jn (j53_8 0) (fun j52_9 => if (lg_cmp r7 (0 : Int64)) ≤ 0 then j52_9 else (f_L_bar N C a3 a4 x4).bind (fun r13 => if r13 = a5 then gNz 3 (j53_8 (1 <<< ((x4 / 3) &&& 31))) else j52_9))))
def f_L_under (N : Nat) (C : kS) (a3 : Int32) (a4 : Int32) (a5 : Int32) : Option (Int32) := jn (fun (x1 : Int32) => some x1) (fun k62_1 => lp_L_under_6 N C a3 a4 a5 k62_1 13 0 0)
def lp_L_says_10 (N : Nat) (a1 : Int64) (k52_4 : Int32 → kS × kS → Option (Int32 × (kS × kS))) : Nat → Int32 → Int32 → kS × kS → Option (Int32 × (kS × kS))
  | 0, _, _, _ => none
  | n + 1, x6, x7, p8 => if x7 < 0 then k52_4 x6 p8 else jn (fun (t10 : Int32) (p11 : kS × kS) => lp_L_says_10 N a1 k52_4 n t10 (x7 + (-1)) p11) (fun j45_11 => jn (fun (p13 : kS × kS) => j45_11 0 p13) (fun j44_13 => if x6 = 0 then j44_13 p8 else (f_X8_type N p8.1 (96 + (((a1 >>> ((5 * x7).toInt64 &&& 63)) &&& (31 : Int64)).toInt32))).bind (fun r17 => jn ((r17.2, p8.2)) (fun p18 : kS × kS => if r17.1 ≤ 0 then j44_13 p18 else j45_11 1 p18))))
def f_L_says (N : Nat) (p : kS × kS) (a1 : Int64) : Option (Int32 × (kS × kS)) := (f_L_length N a1).bind (fun r2 => jn (fun (x3 : Int32) (p4 : kS × kS) => some (x3 &&& 1, p4)) (fun k52_4 => lp_L_says_10 N a1 k52_4 N 1 (r2 - 1) p))
def lp_L_acts_111 (N : Nat) (r2 : Int32) (k239_15 : Int32 → kS × kS → Option (Int32 × (kS × kS))) : Nat → Int32 → Int32 → kS × kS → Option (Int32 × (kS × kS))
  | 0, _, _, _ => none
  | n + 1, x26, x27, p28 => gIn 5 8 (if (p28.2 0 (5 : Int32).toNatClampNeg) ≤ x27 then k239_15 x26 p28 else gNz 9 (gNz 12 (jn (((r2 / 9) + (5 * x27)) - ((r2 / 9) + (5 * x27)) / 12 * 12) (fun x33 : Int32 => (f_L_form N p28.2 x33).bind (fun r35 => jn (fun (t36 : Int64) => gIn x27 14 (gL t36 (jn ((p28.1, up1 p28.2 2 (upd (p28.2 2) (x27.toNatClampNeg) t36.toInt32))) (fun p39 : kS × kS => jn (fun (t40 : Int32) (p41 : kS × kS) => lp_L_acts_111 N r2 k239_15 n t40 (x27 + 1) p41) (fun j231_41 => jn (fun (p43 : kS × kS) => j231_41 0 p43) (fun j230_43 => if x26 = 0 then j230_43 p39 else jn (fun (p46 : kS × kS) => gIn x27 14 ((f_L_says N p46 ((p46.2 2 x27.toNatClampNeg).toInt64)).bind (fun r50 => jn (r50.2) (fun p51 : kS × kS => if r50.1 = 0 then j230_43 p51 else j231_41 1 p51)))) (fun j215_46 => if x27 = 0 then j215_46 p39 else (f_X8_type N p39.1 32).bind (fun r55 => jn ((r55.2, p39.2)) (fun p56 : kS × kS => if r55.1 ≤ 0 then j230_43 p56 else j215_46 p56))))))))) (fun j195_36 => jn (gNz 7 (gNz 11 (gNz 4 ((f_L_letters N ((r2 / 7) + (1237 * x27)) (1 + (((r2 / 11) + x27) - ((r2 / 11) + x27) / 4 * 4))).bind (fun r63 => j195_36 r63))))) (fun j168_57 => if (lg_cmp r35 (0 : Int64)) ≤ 0 then j168_57 else if ((r2 >>> (x27 &&& 31)) &&& 3) ≤ 0 then j168_57 else j195_36 r35)))))))
def lp_L_acts_282 (N : Nat) (p5 : kS × kS) (r70 : Int64) (k322_71 : Int32 → Option (Int32 × (kS × kS))) : Nat → Int32 → Int32 → Option (Int32 × (kS × kS))
  | 0, _, _ => none
  | n + 1, x115, x116 => gIn 6 8 (if (p5.2 0 (6 : Int32).toNatClampNeg) ≤ x116 then k322_71 x115 else jn (fun (t119 : Int32) => lp_L_acts_282 N p5 r70 k322_71 n t119 (x116 + 1)) (fun j314_119 => jn (j314_119 1) (fun j309_120 => if x115 = 0 then gIn (8 + x116) 14 (if (lg_cmp ((p5.2 2 (8 + x116).toNatClampNeg).toInt64) r70) = 0 then j309_120 else j314_119 0) else j309_120)))
def lp_L_acts_665 (N : Nat) (k688_237 : kS × kS → Option (Int32 × (kS × kS))) : Nat → Int32 → kS × kS → Option (Int32 × (kS × kS))
  | 0, _, _ => none
  | n + 1, x251, p252 => if 11 ≤ x251 then k688_237 p252 else gIn (x251 + 1) 14 (gIn x251 14 (gL ((p252.2 2 (x251 + 1).toNatClampNeg).toInt64) (jn ((p252.1, up1 p252.2 2 (upd (p252.2 2) (x251.toNatClampNeg) ((p252.2 2 (x251 + 1).toNatClampNeg).toInt64).toInt32))) (fun p256 : kS × kS => lp_L_acts_665 N k688_237 n (x251 + 1) p256))))
def f_L_acts (N : Nat) (p : kS × kS) (a4 : Int32) : Option (Int32 × (kS × kS)) := (f_L_low N (a4 >>> (5 &&& 31)) 10000000).bind (fun r2 => (f_X8_clearText N p.1).bind (fun r4 => jn ((r4.2, p.2)) (fun p5 : kS × kS => jn (fun (t6 : Int32) => (f_L_low N a4 18).bind (fun r9 => jn (gNz 9 (gIn 5 8 (jn ((p5.1, up1 p5.2 0 (upd (p5.2 0) ((5 : Int32).toNatClampNeg) (r2 - r2 / 9 * 9)))) (fun p13 : kS × kS => jn (fun (x14 : Int32) (p15 : kS × kS) => jn (fun (t17 : Int32) (p18 : kS × kS) => some (t17 &&& 1, p18)) (fun j259_18 => if x14 = 0 then j259_18 0 p15 else (f_X8_page N p15.1).bind (fun r22 => jn ((r22.2, p15.2)) (fun p23 : kS × kS => gIn 5 8 (if r22.1 = (p23.2 0 (5 : Int32).toNatClampNeg) then j259_18 1 p23 else j259_18 0 p23))))) (fun k239_15 => lp_L_acts_111 N r2 k239_15 N t6 0 p13))))) (fun j100_9 => jn (gNz 64 (gNz 3 ((f_L_letters N r2 (1 + ((r2 / 64) - (r2 / 64) / 3 * 3))).bind (fun r70 => jn (fun (x71 : Int32) => gIn 6 8 (if (p5.2 0 (6 : Int32).toNatClampNeg) = 4 then jn (fun (t107 : Int32) (p108 : kS × kS) => some (t107 &&& 1, p108)) (fun j349_108 => if t6 = 0 then j349_108 0 p5 else (f_X8_name N p5.1).bind (fun r112 => jn ((r112.2, p5.2)) (fun p113 : kS × kS => if r112.1 = (-12) then j349_108 1 p113 else j349_108 0 p113))) else if x71 = 0 then gIn 6 8 (gIn (8 + (p5.2 0 (6 : Int32).toNatClampNeg)) 14 (gL r70 (jn ((p5.1, up1 p5.2 2 (upd (p5.2 2) ((8 + (p5.2 0 (6 : Int32).toNatClampNeg)).toNatClampNeg) r70.toInt32))) (fun p78 : kS × kS => gIn 6 8 (gIn 6 8 (jn ((p78.1, up1 p78.2 0 (upd (p78.2 0) ((6 : Int32).toNatClampNeg) ((p78.2 0 (6 : Int32).toNatClampNeg) + 1)))) (fun p81 : kS × kS => jn (fun (t82 : Int32) (p83 : kS × kS) => some (t82 &&& 1, p83)) (fun j435_83 => if t6 = 0 then j435_83 0 p81 else (f_L_says N p81 r70).bind (fun r87 => jn (r87.2) (fun p88 : kS × kS => if r87.1 = 0 then j435_83 0 p88 else (f_X8_name N p88.1).bind (fun r91 => jn ((r91.2, p88.2)) (fun p92 : kS × kS => gIn 6 8 (if r91.1 = ((p92.2 0 (6 : Int32).toNatClampNeg) - 1) then j435_83 1 p92 else j435_83 0 p92))))))))))))) else jn (fun (t95 : Int32) (p96 : kS × kS) => some (t95 &&& 1, p96)) (fun j383_96 => if t6 = 0 then j383_96 0 p5 else (f_L_says N p5 r70).bind (fun r100 => jn (r100.2) (fun p101 : kS × kS => if r100.1 = 0 then j383_96 0 p101 else (f_X8_name N p101.1).bind (fun r104 => jn ((r104.2, p101.2)) (fun p105 : kS × kS => if r104.1 = (-12) then j383_96 1 p105 else j383_96 0 p105))))))) (fun k322_71 => lp_L_acts_282 N p5 r70 k322_71 N 0 0))))) (fun j260_65 => jn (gNz 64 (gNz 2 ((f_L_letters N r2 (1 + ((r2 / 64) - (r2 / 64) / 2 * 2))).bind (fun r129 => gIn 7 8 (jn (fun (t131 : Int32) => jn (jn (fun (t134 : Int32) (p135 : kS × kS) => some (t134 &&& 1, p135)) (fun j556_135 => if t6 = 0 then j556_135 0 p5 else gIn 7 8 (jn (fun (p139 : kS × kS) => (f_X8_ending N p139.1).bind (fun r142 => jn ((r142.2, p139.2)) (fun p143 : kS × kS => if r142.1 = (-12) then j556_135 1 p143 else j556_135 0 p143))) (fun j542_139 => if (p5.2 0 (7 : Int32).toNatClampNeg) = 2 then (f_X8_type N p5.1 65).bind (fun r151 => jn ((r151.2, p5.2)) (fun p152 : kS × kS => if r151.1 = 1 then j542_139 p152 else j556_135 0 p152)) else (f_L_says N p5 r129).bind (fun r147 => jn (r147.2) (fun p148 : kS × kS => if r147.1 = 0 then j556_135 0 p148 else j542_139 p148)))))) (fun j507_132 => if t131 = 0 then gIn 7 8 (if (p5.2 0 (7 : Int32).toNatClampNeg) = 2 then j507_132 else gIn 7 8 (gIn (12 + (p5.2 0 (7 : Int32).toNatClampNeg)) 14 (gL r129 (jn ((p5.1, up1 p5.2 2 (upd (p5.2 2) ((12 + (p5.2 0 (7 : Int32).toNatClampNeg)).toNatClampNeg) r129.toInt32))) (fun p159 : kS × kS => gIn 7 8 (gIn 7 8 (jn ((p159.1, up1 p159.2 0 (upd (p159.2 0) ((7 : Int32).toNatClampNeg) ((p159.2 0 (7 : Int32).toNatClampNeg) + 1)))) (fun p162 : kS × kS => jn (fun (t163 : Int32) (p164 : kS × kS) => some (t163 &&& 1, p164)) (fun j608_164 => if t6 = 0 then j608_164 0 p162 else (f_L_says N p162 r129).bind (fun r168 => jn (r168.2) (fun p169 : kS × kS => if r168.1 = 0 then j608_164 0 p169 else (f_X8_ending N p169.1).bind (fun r172 => jn ((r172.2, p169.2)) (fun p173 : kS × kS => gIn 7 8 (if r172.1 = ((p173.2 0 (7 : Int32).toNatClampNeg) - 1) then j608_164 1 p173 else j608_164 0 p173)))))))))))))) else j507_132)) (fun j492_131 => jn (j492_131 1) (fun j487_175 => jn (gIn 7 8 (jn (j492_131 0) (fun j491_178 => if (p5.2 0 (7 : Int32).toNatClampNeg) ≤ 1 then j491_178 else gIn 13 14 (if (lg_cmp ((p5.2 2 (13 : Int32).toNatClampNeg).toInt64) r129) = 0 then j487_175 else j491_178)))) (fun j469_176 => if (p5.2 0 (7 : Int32).toNatClampNeg) ≤ 0 then j469_176 else gIn 12 14 (if (lg_cmp ((p5.2 2 (12 : Int32).toNatClampNeg).toInt64) r129) = 0 then j487_175 else j469_176))))))))) (fun j436_124 => jn (gNz 5 (jn (fun (t188 : Int32) => gIn t188 26 (gNz 130 (gNz 9 (gIn t188 26 (jn ((p5.1, up1 p5.2 1 (upd (p5.2 1) (t188.toNatClampNeg) (1 + ((r2 / 130) - (r2 / 130) / 9 * 9))))) (fun p194 : kS × kS => jn (fun (t195 : Int32) (p196 : kS × kS) => some (t195 &&& 1, p196)) (fun j903_196 => if t6 = 0 then j903_196 0 p194 else gIn t188 26 ((f_X8_widen N p194.1 (97 + t188) (p194.2 1 t188.toNatClampNeg)).bind (fun r201 => jn ((r201.2, p194.2)) (fun p202 : kS × kS => if r201.1 = (p5.2 1 t188.toNatClampNeg) then j903_196 1 p202 else j903_196 0 p202)))))))))) (fun j852_188 => if (r2 - r2 / 5 * 5) = 0 then gNz 5 (gNz 26 (j852_188 ((r2 / 5) - (r2 / 5) / 26 * 26))) else (f_L_letters N r2 1).bind (fun r206 => j852_188 (r206.toInt32 - 1))))) (fun j826_185 => if r9 = 0 then j100_9 else if r9 = 1 then j100_9 else if r9 = 2 then j100_9 else if r9 = 3 then j260_65 else if r9 = 4 then j260_65 else if r9 = 5 then j260_65 else if r9 = 6 then j260_65 else if r9 = 7 then j436_124 else if r9 = 8 then j436_124 else if r9 = 9 then gIn 6 8 (jn (jn (fun (t221 : Int32) (p222 : kS × kS) => some (t221 &&& 1, p222)) (fun j646_222 => if t6 = 0 then j646_222 0 p5 else gIn 6 8 ((f_X8_dropName N p5.1 (p5.2 0 (6 : Int32).toNatClampNeg)).bind (fun r227 => jn ((r227.2, p5.2)) (fun p228 : kS × kS => if r227.1 = (-11) then j646_222 1 p228 else j646_222 0 p228))))) (fun j623_219 => if (p5.2 0 (6 : Int32).toNatClampNeg) = 0 then j623_219 else gNz 3 (if (r2 - r2 / 3 * 3) ≤ 0 then gNz 3 (gIn 6 8 (gNz (p5.2 0 (6 : Int32).toNatClampNeg) (jn ((r2 / 3) - (r2 / 3) / (p5.2 0 (6 : Int32).toNatClampNeg) * (p5.2 0 (6 : Int32).toNatClampNeg)) (fun x236 : Int32 => jn (fun (p237 : kS × kS) => gIn 6 8 (gIn 6 8 (jn ((p237.1, up1 p237.2 0 (upd (p237.2 0) ((6 : Int32).toNatClampNeg) ((p237.2 0 (6 : Int32).toNatClampNeg) - 1)))) (fun p241 : kS × kS => jn (fun (t242 : Int32) (p243 : kS × kS) => some (t242 &&& 1, p243)) (fun j719_243 => if t6 = 0 then j719_243 0 p241 else (f_X8_dropName N p241.1 x236).bind (fun r247 => jn ((r247.2, p241.2)) (fun p248 : kS × kS => gIn 6 8 (if r247.1 = (p248.2 0 (6 : Int32).toNatClampNeg) then j719_243 1 p248 else j719_243 0 p248)))))))) (fun k688_237 => lp_L_acts_665 N k688_237 N (8 + x236) p5))))) else j623_219))) else if r9 = 10 then gIn 7 8 (jn (jn (fun (t260 : Int32) (p261 : kS × kS) => some (t260 &&& 1, p261)) (fun j757_261 => if t6 = 0 then j757_261 0 p5 else gIn 7 8 ((f_X8_dropEnding N p5.1 (p5.2 0 (7 : Int32).toNatClampNeg)).bind (fun r266 => jn ((r266.2, p5.2)) (fun p267 : kS × kS => if r266.1 = (-11) then j757_261 1 p267 else j757_261 0 p267))))) (fun j734_258 => if (p5.2 0 (7 : Int32).toNatClampNeg) = 0 then j734_258 else gNz 3 (if (r2 - r2 / 3 * 3) ≤ 0 then gNz 3 (gIn 7 8 (gNz (p5.2 0 (7 : Int32).toNatClampNeg) (jn (fun (t275 : Int64) => gIn 12 14 (gL t275 (jn ((p5.1, up1 p5.2 2 (upd (p5.2 2) ((12 : Int32).toNatClampNeg) t275.toInt32))) (fun p278 : kS × kS => gIn 7 8 (gIn 7 8 (jn ((p278.1, up1 p278.2 0 (upd (p278.2 0) ((7 : Int32).toNatClampNeg) ((p278.2 0 (7 : Int32).toNatClampNeg) - 1)))) (fun p281 : kS × kS => jn (fun (t282 : Int32) (p283 : kS × kS) => some (t282 &&& 1, p283)) (fun j825_283 => if t6 = 0 then j825_283 0 p281 else gNz 3 (gIn 7 8 (gNz ((p281.2 0 (7 : Int32).toNatClampNeg) + 1) ((f_X8_dropEnding N p281.1 ((r2 / 3) - (r2 / 3) / ((p281.2 0 (7 : Int32).toNatClampNeg) + 1) * ((p281.2 0 (7 : Int32).toNatClampNeg) + 1))).bind (fun r290 => jn ((r290.2, p281.2)) (fun p291 : kS × kS => gIn 7 8 (if r290.1 = (p291.2 0 (7 : Int32).toNatClampNeg) then j825_283 1 p291 else j825_283 0 p291)))))))))))))) (fun j784_275 => if ((r2 / 3) - (r2 / 3) / (p5.2 0 (7 : Int32).toNatClampNeg) * (p5.2 0 (7 : Int32).toNatClampNeg)) = 0 then gIn 13 14 (j784_275 ((p5.2 2 (13 : Int32).toNatClampNeg).toInt64)) else gIn 12 14 (j784_275 ((p5.2 2 (12 : Int32).toNatClampNeg).toInt64)))))) else j734_258))) else if r9 = 11 then j826_185 else if r9 = 12 then j826_185 else gNz 5 (jn (fun (t300 : Int32) => gIn (r2 - r2 / 5 * 5) 8 (gIn (r2 - r2 / 5 * 5) 8 (jn ((p5.1, up1 p5.2 0 (upd (p5.2 0) ((r2 - r2 / 5 * 5).toNatClampNeg) t300))) (fun p304 : kS × kS => jn (fun (t305 : Int32) (p306 : kS × kS) => some (t305 &&& 1, p306)) (fun j1038_306 => if t6 = 0 then j1038_306 0 p304 else (f_X8_set N p304.1 (r2 - r2 / 5 * 5) t300).bind (fun r310 => jn ((r310.2, p304.2)) (fun p311 : kS × kS => if r310.1 = (p5.2 0 (r2 - r2 / 5 * 5).toNatClampNeg) then j1038_306 1 p311 else j1038_306 0 p311))))))) (fun j1001_300 => if (r2 - r2 / 5 * 5) = 0 then gNz 5 (gNz 4 (j1001_300 ((r2 / 5) - (r2 / 5) / 4 * 4))) else if (r2 - r2 / 5 * 5) = 1 then gNz 5 (gNz 50 (j1001_300 (1 + ((r2 / 5) - (r2 / 5) / 50 * 50)))) else if (r2 - r2 / 5 * 5) = 2 then gNz 5 (gNz 8 (j1001_300 (1 + ((r2 / 5) - (r2 / 5) / 8 * 8)))) else if (r2 - r2 / 5 * 5) = 3 then gNz 5 (gNz 9 (j1001_300 (1 + ((r2 / 5) - (r2 / 5) / 9 * 9)))) else gNz 5 (gNz 2 (jn (fun (t319 : Int32) => gNz t319 (j1001_300 (20 + ((r2 / 5) - (r2 / 5) / t319 * t319)))) (fun j999_319 => if (r2 - r2 / 2 * 2) = 0 then j999_319 181 else j999_319 40))))))))))) (fun j23_6 => if r4.1 < 0 then j23_6 0 else j23_6 1))))
def lp_L_begins_20 (N : Nat) (k96_9 : kS → Option (kS)) : Nat → Int32 → kS → Option (kS)
  | 0, _, _ => none
  | n + 1, x11, C12 => if 26 ≤ x11 then k96_9 C12 else jn (fun (t14 : Int32) => gIn x11 26 (jn (up1 C12 1 (upd (C12 1) (x11.toNatClampNeg) t14)) (fun C17 : kS => lp_L_begins_20 N k96_9 n (x11 + 1) C17))) (fun j89_14 => jn (j89_14 2) (fun j46_17 => if x11 = 8 then j46_17 else if x11 = 9 then j46_17 else if x11 = 11 then j46_17 else jn (j89_14 3) (fun j67_21 => if x11 = 5 then j67_21 else if x11 = 17 then j67_21 else if x11 = 19 then j67_21 else jn (j89_14 6) (fun j83_25 => if x11 = 12 then j83_25 else if x11 = 22 then j83_25 else j89_14 4))))
def f_L_begins (N : Nat) (C : kS) : Option (kS) := gIn 1 8 (jn (up1 C 0 (upd (C 0) ((1 : Int32).toNatClampNeg) 10)) (fun C2 : kS => gIn 2 8 (jn (up1 C2 0 (upd (C2 0) ((2 : Int32).toNatClampNeg) 3)) (fun C4 : kS => gIn 3 8 (jn (up1 C4 0 (upd (C4 0) ((3 : Int32).toNatClampNeg) 3)) (fun C6 : kS => gIn 4 8 (jn (up1 C6 0 (upd (C6 0) ((4 : Int32).toNatClampNeg) 80)) (fun C8 : kS => jn (fun (C9 : kS) => some C9) (fun k96_9 => lp_L_begins_20 N k96_9 N 0 C8)))))))))
def lp_L_isSo_744 (N : Nat) (x69 : Int32) (r75 : Int32) (p130 : kS × kS) (k822_131 : Int32 → Option (Int32)) : Nat → Int32 → Int32 → Option (Int32)
  | 0, _, _ => none
  | n + 1, x146, x147 => gIn x69 14 ((f_L_length N ((p130.2 2 x69.toNatClampNeg).toInt64)).bind (fun r150 => if r150 ≤ x147 then k822_131 x146 else jn (fun (t152 : Int32) => lp_L_isSo_744 N x69 r75 p130 k822_131 n t152 (x147 + 1)) (fun j814_152 => jn (j814_152 0) (fun j813_153 => if x146 = 0 then j813_153 else (f_X8_letter N p130.1 x69 x147).bind (fun r157 => jn (fun (t158 : Int32) => if r157 = t158 then j814_152 1 else j813_153) (fun j806_158 => if 0 ≤ r75 then j806_158 (-12) else gIn x69 14 (gIn x69 14 ((f_L_length N ((p130.2 2 x69.toNatClampNeg).toInt64)).bind (fun r165 => j806_158 (96 + (((((p130.2 2 x69.toNatClampNeg).toInt64) >>> ((5 * ((r165 - 1) - x147)).toInt64 &&& 63)) &&& (31 : Int64)).toInt32)))))))))))
def lp_L_isSo_689 (N : Nat) (x69 : Int32) (r82 : Int32) (p123 : kS × kS) (k724_124 : Int32 → Option (Int32)) : Nat → Int32 → Int32 → Option (Int32)
  | 0, _, _ => none
  | n + 1, x167, x168 => if x69 ≤ x168 then k724_124 x167 else jn (fun (t170 : Int32) => lp_L_isSo_689 N x69 r82 p123 k724_124 n t170 (x168 + 1)) (fun j716_170 => jn (j716_170 0) (fun j715_171 => if x167 = 0 then j715_171 else gIn x168 8 (if (p123.2 5 x168.toNatClampNeg) = r82 then j715_171 else j716_170 1)))
def lp_L_isSo_128 (N : Nat) (k875_14 : Int32 → Int32 → Int32 → Int32 → kS × kS → Option (Int32)) : Nat → Int32 → Int32 → Int32 → Int32 → Int32 → kS × kS → Option (Int32)
  | 0, _, _, _, _, _, _ => none
  | n + 1, x65, x66, x67, x68, x69, p70 => gIn 5 8 (if (p70.2 0 (5 : Int32).toNatClampNeg) ≤ x69 then k875_14 x65 x66 x67 x68 p70 else if x68 = 0 then k875_14 x65 x66 x67 x68 p70 else (f_L_formOf N p70.2 x69).bind (fun r75 => gIn x69 14 ((f_L_width N p70.2 ((p70.2 2 x69.toNatClampNeg).toInt64)).bind (fun r78 => gIn 0 8 (gIn 1 8 ((f_L_shown N p70.2 (p70.2 0 (0 : Int32).toNatClampNeg) (p70.2 0 (1 : Int32).toNatClampNeg) x69).bind (fun r82 => jn (fun (t83 : Int32) => jn (fun (x85 : Int32) (x86 : Int32) (x87 : Int32) (x88 : Int32) (p89 : kS × kS) => gIn 3 8 (jn (fun (t92 : Int32) => jn ((x86 + (p89.2 0 (3 : Int32).toNatClampNeg)) + r82) (fun x94 : Int32 => gIn 0 6 (jn (fun (t96 : Int32) => gIn 0 6 (jn ((p89.1, up1 p89.2 4 (upd (p89.2 4) ((0 : Int32).toNatClampNeg) ((p89.2 4 (0 : Int32).toNatClampNeg) + t96)))) (fun p99 : kS × kS => gIn 1 6 (jn (fun (t101 : Int32) => gIn 1 6 (jn ((p99.1, up1 p99.2 4 (upd (p99.2 4) ((1 : Int32).toNatClampNeg) ((p99.2 4 (1 : Int32).toNatClampNeg) + t101)))) (fun p104 : kS × kS => gIn 2 6 (gIn 2 6 (jn ((p104.1, up1 p104.2 4 (upd (p104.2 4) ((2 : Int32).toNatClampNeg) ((p104.2 4 (2 : Int32).toNatClampNeg) + r82)))) (fun p107 : kS × kS => gIn 3 6 (jn (fun (t109 : Int32) => gIn 3 6 (jn ((p107.1, up1 p107.2 4 (upd (p107.2 4) ((3 : Int32).toNatClampNeg) ((p107.2 4 (3 : Int32).toNatClampNeg) + t109)))) (fun p112 : kS × kS => gIn 4 6 (jn (fun (t114 : Int32) => gIn 4 6 (jn ((p112.1, up1 p112.2 4 (upd (p112.2 4) ((4 : Int32).toNatClampNeg) ((p112.2 4 (4 : Int32).toNatClampNeg) + t114)))) (fun p117 : kS × kS => jn (fun (t118 : Int32) => jn (fun (t120 : Int32) => gIn x69 8 (jn ((p117.1, up1 p117.2 5 (upd (p117.2 5) (x69.toNatClampNeg) t120))) (fun p123 : kS × kS => jn (fun (x124 : Int32) => gIn 5 6 (jn (fun (t127 : Int32) => gIn 5 6 (jn ((p123.1, up1 p123.2 4 (upd (p123.2 4) ((5 : Int32).toNatClampNeg) ((p123.2 4 (5 : Int32).toNatClampNeg) + t127)))) (fun p130 : kS × kS => jn (fun (x131 : Int32) => jn (fun (t133 : Int32) => lp_L_isSo_128 N k875_14 n x85 x94 x87 t133 (x69 + 1) p130) (fun j867_133 => jn (j867_133 0) (fun j866_134 => if x131 = 0 then j866_134 else (f_X8_letter N p130.1 x69 12).bind (fun r138 => jn (fun (t139 : Int32) => if r138 = t139 then jn (j867_133 1) (fun j862_141 => if r75 < 0 then j862_141 else if r82 < r78 then j866_134 else j862_141) else j866_134) (fun j847_139 => if 0 ≤ r75 then j847_139 (-12) else j847_139 (-14)))))) (fun k822_131 => lp_L_isSo_744 N x69 r75 p130 k822_131 N t92 0)))) (fun j739_127 => if x124 = 0 then j739_127 0 else j739_127 1))) (fun k724_124 => lp_L_isSo_689 N x69 r82 p123 k724_124 N t118 0)))) (fun j685_120 => if 0 ≤ r75 then j685_120 r82 else j685_120 (-1))) (fun j668_118 => if r75 < 0 then j668_118 0 else j668_118 1)))) (fun j656_114 => if 0 ≤ r75 then j656_114 1 else j656_114 0))))) (fun j639_109 => if 0 ≤ r75 then j639_109 (r82 - r78) else j639_109 0)))))))) (fun j609_101 => jn (j609_101 0) (fun j608_179 => if r75 < 0 then j608_179 else (f_L_ones N t83).bind (fun r183 => if r183 = 1 then j609_101 1 else j608_179))))))) (fun j583_96 => if 0 ≤ r75 then j583_96 1 else j583_96 0)))) (fun j559_92 => jn (j559_92 0) (fun j558_185 => if x88 = 0 then j558_185 else (f_X8_word N p89.1 x69 0).bind (fun r189 => gIn x69 14 ((f_L_length N ((p89.2 2 x69.toNatClampNeg).toInt64)).bind (fun r192 => if r189 = r192 then (f_X8_word N p89.1 x69 1).bind (fun r195 => if r195 = r78 then (f_X8_word N p89.1 x69 2).bind (fun r198 => if r198 = r82 then (f_X8_word N p89.1 x69 3).bind (fun r201 => jn (fun (t202 : Int32) => if r201 = t202 then (f_X8_word N p89.1 x69 4).bind (fun r206 => jn (fun (t207 : Int32) => if r206 = t207 then (f_X8_word N p89.1 x69 5).bind (fun r211 => jn (fun (t212 : Int32) => if r211 = t212 then (f_X8_word N p89.1 x69 6).bind (fun r216 => if r216 = x85 then (f_X8_word N p89.1 x69 7).bind (fun r219 => if r219 = (x86 + (p89.2 0 (3 : Int32).toNatClampNeg)) then (f_X8_word N p89.1 x69 8).bind (fun r222 => jn (fun (t223 : Int32) => if r222 = t223 then (f_X8_word N p89.1 x69 9).bind (fun r227 => jn (fun (t228 : Int32) => if r227 = t228 then j559_92 1 else j558_185) (fun j551_228 => if 0 ≤ r75 then (f_L_ones N t83).bind (fun r233 => j551_228 r233) else j551_228 (-14))) else j558_185) (fun j525_223 => if 0 ≤ r75 then j525_223 t83 else j525_223 (-14))) else j558_185) else j558_185) else j558_185) (fun j476_212 => if 0 ≤ r75 then gNz 3 (j476_212 ((r75 - r75 / 3 * 3) - 1)) else j476_212 (-14))) else j558_185) (fun j450_207 => if 0 ≤ r75 then gNz 3 (j450_207 (r75 / 3)) else j450_207 (-14))) else j558_185) (fun j426_202 => if 0 ≤ r75 then j426_202 1 else j426_202 0)) else j558_185) else j558_185) else j558_185))))))) (fun j355_89 => jn (jn (fun (t241 : Int32) => gIn 3 8 (gIn 4 6 (jn ((p70.1, up1 p70.2 4 (upd (p70.2 4) ((4 : Int32).toNatClampNeg) 0))) (fun p245 : kS × kS => jn (fun (t246 : Int32) => j355_89 (x65 + 1) (-(p70.2 0 (3 : Int32).toNatClampNeg)) x69 t246 p245) (fun j353_246 => jn (j353_246 0) (fun j352_247 => if t241 = 0 then j352_247 else (f_X8_line N p245.1 (x65 + 1) 0).bind (fun r251 => if r251 = x69 then j353_246 1 else j352_247))))))) (fun j311_241 => jn (j311_241 1) (fun j306_252 => if x65 < 0 then j306_252 else (f_X8_line N p70.1 x65 1).bind (fun r256 => jn (j311_241 0) (fun j310_256 => if r256 = (x69 - x67) then (f_X8_line N p70.1 x65 2).bind (fun r260 => if r260 = x66 then (f_X8_widthAgain N p70.1 x65).bind (fun r263 => if r263 = x66 then (f_X8_line N p70.1 x65 4).bind (fun r266 => gIn 4 6 (if r266 = (p70.2 4 (4 : Int32).toNatClampNeg) then (f_X8_line N p70.1 x65 3).bind (fun r270 => gIn 4 8 (jn (fun (t272 : Int32) => if r270 = t272 then j306_252 else j310_256) (fun j303_272 => if x66 ≤ (p70.2 0 (4 : Int32).toNatClampNeg) then gIn 4 8 (j303_272 ((p70.2 0 (4 : Int32).toNatClampNeg) - x66)) else j303_272 0))) else j310_256)) else j310_256) else j310_256) else j310_256))))) (fun j221_239 => if x65 < 0 then j221_239 else gIn 3 8 (gIn 4 8 (if ((x66 + (p70.2 0 (3 : Int32).toNatClampNeg)) + r82) ≤ (p70.2 0 (4 : Int32).toNatClampNeg) then j355_89 x65 x66 x67 x68 p70 else j221_239))))) (fun j199_83 => if 0 ≤ r75 then gIn 0 8 (gIn 1 8 ((f_L_under N p70.2 (p70.2 0 (0 : Int32).toNatClampNeg) (p70.2 0 (1 : Int32).toNatClampNeg) r82).bind (fun r285 => j199_83 r285))) else j199_83 0))))))))
def lp_L_isSo_85 (N : Nat) (p2 : kS × kS) (k125_8 : Int32 → Option (Int32)) : Nat → Int32 → Int32 → Option (Int32)
  | 0, _, _ => none
  | n + 1, x286, x287 => if 5 ≤ x287 then k125_8 x286 else jn (fun (t289 : Int32) => lp_L_isSo_85 N p2 k125_8 n t289 (x287 + 1)) (fun j117_289 => jn (j117_289 0) (fun j116_290 => if x286 = 0 then j116_290 else (f_X8_count N p2.1 (6 + x287)).bind (fun r294 => gIn x287 8 (if r294 = (p2.2 0 x287.toNatClampNeg) then j117_289 1 else j116_290))))
def f_L_isSo (N : Nat) (p : kS × kS) : Option (Int32) := jn ((p.1, up1 p.2 4 (fun _ => 0))) (fun p1 : kS × kS => jn ((p1.1, up1 p1.2 5 (fun _ => 0))) (fun p2 : kS × kS => (f_X8_count N p2.1 0).bind (fun r4 => gIn 5 8 (jn (fun (t6 : Int32) => jn (fun (x8 : Int32) => jn (fun (x10 : Int32) (x11 : Int32) (x12 : Int32) (x13 : Int32) (p14 : kS × kS) => jn (fun (t16 : Int32) => jn (fun (t18 : Int32) => some (t18 &&& 1)) (fun j1044_18 => if t16 = 0 then j1044_18 0 else (f_X8_count N p14.1 1).bind (fun r22 => gIn 0 6 (if r22 = (p14.2 4 (0 : Int32).toNatClampNeg) then (f_X8_count N p14.1 2).bind (fun r26 => if r26 = (x10 + 1) then (f_X8_count N p14.1 11).bind (fun r29 => gIn 1 6 (if r29 = (p14.2 4 (1 : Int32).toNatClampNeg) then (f_X8_count N p14.1 12).bind (fun r33 => gIn 2 6 (if r33 = (p14.2 4 (2 : Int32).toNatClampNeg) then (f_X8_count N p14.1 13).bind (fun r37 => gIn 3 6 (if r37 = (p14.2 4 (3 : Int32).toNatClampNeg) then (f_X8_count N p14.1 14).bind (fun r41 => gIn 5 6 (if r41 = (p14.2 4 (5 : Int32).toNatClampNeg) then gIn 5 8 ((f_X8_word N p14.1 (p14.2 0 (5 : Int32).toNatClampNeg) 0).bind (fun r46 => if r46 = (-11) then (f_X8_line N p14.1 (x10 + 1) 0).bind (fun r49 => if r49 = (-11) then j1044_18 1 else j1044_18 0) else j1044_18 0)) else j1044_18 0)) else j1044_18 0)) else j1044_18 0)) else j1044_18 0)) else j1044_18 0) else j1044_18 0)))) (fun j929_16 => jn (j929_16 0) (fun j928_50 => if x13 = 0 then j928_50 else jn (j929_16 1) (fun j924_52 => if x10 < 0 then j924_52 else (f_X8_line N p14.1 x10 1).bind (fun r56 => gIn 5 8 (if r56 = ((p14.2 0 (5 : Int32).toNatClampNeg) - x12) then (f_X8_line N p14.1 x10 2).bind (fun r60 => if r60 = x11 then (f_X8_widthAgain N p14.1 x10).bind (fun r63 => if r63 = x11 then j924_52 else j928_50) else j928_50) else j928_50)))))) (fun k875_14 => lp_L_isSo_128 N k875_14 9 (-1) 0 0 x8 0 p2)) (fun k125_8 => lp_L_isSo_85 N p2 k125_8 N t6 0)) (fun j80_6 => jn (j80_6 0) (fun j79_296 => if r4 = (p2.2 0 (5 : Int32).toNatClampNeg) then (f_X8_count N p2.1 3).bind (fun r300 => gIn 6 8 (if r300 = (p2.2 0 (6 : Int32).toNatClampNeg) then (f_X8_count N p2.1 4).bind (fun r304 => gIn 7 8 (if r304 = (p2.2 0 (7 : Int32).toNatClampNeg) then (f_X8_count N p2.1 5).bind (fun r308 => gIn 6 8 (gIn 7 8 (if r308 = ((p2.2 0 (6 : Int32).toNatClampNeg) * ((p2.2 0 (7 : Int32).toNatClampNeg) + 1)) then j80_6 1 else j79_296))) else j79_296)) else j79_296)) else j79_296))))))
end
section
/-! ===== pure side: numbers ===== -/
theorem i_0 : (0 : Int32) = nI 0 := by decide
theorem i_1 : (1 : Int32) = nI 1 := by decide
theorem i_2 : (2 : Int32) = nI 2 := by decide
theorem i_3 : (3 : Int32) = nI 3 := by decide
theorem i_4 : (4 : Int32) = nI 4 := by decide
theorem i_5 : (5 : Int32) = nI 5 := by decide
theorem i_6 : (6 : Int32) = nI 6 := by decide
theorem i_7 : (7 : Int32) = nI 7 := by decide
theorem i_8 : (8 : Int32) = nI 8 := by decide
theorem i_9 : (9 : Int32) = nI 9 := by decide
theorem i_10 : (10 : Int32) = nI 10 := by decide
theorem i_11 : (11 : Int32) = nI 11 := by decide
theorem i_12 : (12 : Int32) = nI 12 := by decide
theorem i_13 : (13 : Int32) = nI 13 := by decide
theorem i_14 : (14 : Int32) = nI 14 := by decide
theorem i_15 : (15 : Int32) = nI 15 := by decide
theorem i_16 : (16 : Int32) = nI 16 := by decide
theorem i_20 : (20 : Int32) = nI 20 := by decide
theorem i_26 : (26 : Int32) = nI 26 := by decide
theorem i_32 : (32 : Int32) = nI 32 := by decide
theorem i_34 : (34 : Int32) = nI 34 := by decide
theorem i_40 : (40 : Int32) = nI 40 := by decide
theorem i_50 : (50 : Int32) = nI 50 := by decide
theorem i_97 : (97 : Int32) = nI 97 := by decide
theorem i_122 : (122 : Int32) = nI 122 := by decide
theorem i_126 : (126 : Int32) = nI 126 := by decide
theorem i_200 : (200 : Int32) = nI 200 := by decide
theorem i_500 : (500 : Int32) = nI 500 := by decide
theorem i_554 : (554 : Int32) = nI 554 := by decide
theorem i_626 : (626 : Int32) = nI 626 := by decide
theorem i_642 : (642 : Int32) = nI 642 := by decide
theorem i_1926 : (1926 : Int32) = nI 1926 := by decide
theorem q_gIn {α : Type} {i n : Nat} {x : Option α} (h : i < n) (hn : n ≤ 100000) : gIn (nI i) n x = x := gIn_t (vp_in_nI h (by omega))
theorem q_cl {n : Nat} (h : n < 2147483648) : (nI n).toNatClampNeg = n := nI_clamp h
theorem q_lt {a b : Nat} (ha : a < 2147483648) (hb : b < 2147483648) : (nI a < nI b) = (a < b) := propext (nI_ltI ha hb)
theorem q_le {a b : Nat} (ha : a < 2147483648) (hb : b < 2147483648) : (nI a ≤ nI b) = (a ≤ b) := propext (nI_leI ha hb)
theorem q_eq {a b : Nat} (ha : a < 2147483648) (hb : b < 2147483648) : (nI a = nI b) = (a = b) := propext (nI_eq ha hb)
theorem q_sub {a b : Nat} (h : b ≤ a) : nI a - nI b = nI (a - b) := pk_sub h
theorem q_div {a d : Nat} (ha : a < 2147483648) (h0 : 0 < d) (hd : d < 2147483648) : nI a / nI d = nI (a / d) := pk_div ha h0 hd
theorem q_rem {a d : Nat} (ha : a < 2147483648) (h0 : 0 < d) (hd : d < 2147483648) : nI a - nI a / nI d * nI d = nI (a % d) := pk_rem ha h0 hd
theorem q_nz {α : Type} {d : Nat} {x : Option α} (h0 : 0 < d) (hd : d < 2147483648) : gNz (nI d) x = x := gNz_t (nI_ne0 h0 hd)
theorem q_and1 : (nI 1) &&& (nI 1) = nI 1 := by decide
theorem q_and0 : (nI 0) &&& (nI 1) = nI 0 := by decide
theorem q_m1 {n : Nat} (h : n < 2147483648) : (nI n = (-1 : Int32)) = False := by
  refine propext ⟨fun e => ?_, fun e => e.elim⟩
  have h1 := congrArg Int32.toInt e
  rw [nI_toInt h] at h1
  have h2 : (-1 : Int32).toInt = -1 := by decide
  omega
theorem q_neg {n : Nat} (h : n < 2147483648) : (nI n < (0 : Int32)) = False := propext ⟨fun e => nI_pos h e, fun e => e.elim⟩
theorem q_nn {n : Nat} (h : n < 2147483648) : ((0 : Int32) ≤ nI n) = True := propext ⟨fun _ => trivial, fun _ => nI_pos' h⟩
theorem ob {α β : Type} {a : α} {f : α → Option β} : (some a).bind f = f a := rfl
/-- a loop whose counter runs to m -/
theorem lpW {α β : Type} (L : Nat → Nat → α → β) (I : Nat → α → Prop) (m : Nat) (hs : ∀ n i x, i < m → I i x → ∃ x', I (i + 1) x' ∧ L (n + 1) i x = L n (i + 1) x') : ∀ (d i : Nat) (x : α) (n : Nat), i + d = m → I i x → ∃ x', I m x' ∧ L (n + d) i x = L n m x'
  | 0, i, x, n, hi, h => by
    have e : i = m := by omega
    subst e
    exact ⟨x, h, rfl⟩
  | d + 1, i, x, n, hi, h => by
    obtain ⟨x1, h1, e1⟩ := hs (n + d) i x (by omega) h
    obtain ⟨x2, h2, e2⟩ := lpW L I m hs d (i + 1) x1 n (by omega) h1
    exact ⟨x2, h2, e1.trans e2⟩
theorem lpN {α β : Type} (L : Nat → Nat → α → β) (I : Nat → α → Prop) (m : Nat) (hs : ∀ n i x, i < m → I i x → ∃ x', I (i + 1) x' ∧ L (n + 1) i x = L n (i + 1) x') {N : Nat} (i : Nat) (x : α) (hi : i ≤ m) (hN : m < N) (h : I i x) : ∃ x' n, I m x' ∧ L N i x = L (n + 1) m x' := by
  obtain ⟨x', h1, h2⟩ := lpW L I m hs (m - i) i x (N - (m - i)) (by omega) h
  refine ⟨x', N - (m - i) - 1, h1, ?_⟩
  have e1 : N - (m - i) + (m - i) = N := by omega
  have e2 : N - (m - i) - 1 + 1 = N - (m - i) := by omega
  rw [e1] at h2
  rw [e2]
  exact h2
/-- .. with a function of the counter for the state -/
theorem lpF {α β : Type} (L : Nat → Nat → α → β) (F : Nat → α) (m : Nat) (hs : ∀ n i, i < m → L (n + 1) i (F i) = L n (i + 1) (F (i + 1))) {N : Nat} (i : Nat) (hi : i ≤ m) (hN : m < N) : ∃ n, L N i (F i) = L (n + 1) m (F m) := by
  obtain ⟨x', n, h1, h2⟩ := lpN L (fun i x => x = F i) m (fun n i x h hx => ⟨F (i + 1), rfl, by rw [hx]; exact hs n i h⟩) i (F i) hi hN rfl
  exact ⟨n, by rw [h2, h1]⟩
end
section
/-! ===== what a state means: 642 numbers, as the reference lays them ===== -/
abbrev kA : Type := Nat → Nat
def WL (a : kA) (base wide most n : Nat) : Prop := ∀ w, w < n → (1 ≤ a (base + wide * w) ∧ a (base + wide * w) ≤ most) ∧ ∀ i, i < a (base + wide * w) → a (base + wide * w + 1 + i) < 26
def WF (a : kA) : Prop := a 0 ≤ 40 ∧ a 1 ≤ 8 ∧ a 2 ≤ 4 ∧ a 3 ≤ 3 ∧ (1 ≤ a 4 ∧ a 4 ≤ 50) ∧ (1 ≤ a 5 ∧ a 5 ≤ 8) ∧ (1 ≤ a 6 ∧ a 6 ≤ 9) ∧ (20 ≤ a 7 ∧ a 7 ≤ 200) ∧ (∀ k, k < 26 → 1 ≤ a (8 + k) ∧ a (8 + k) ≤ 9) ∧ WL a 34 13 12 (a 0) ∧ WL a 554 9 8 (a 1) ∧ WL a 626 4 3 (a 2)
/-- width of the letters at a place -/
def sW (a : kA) (p : Nat) : Nat → Nat
  | 0 => 0
  | i + 1 => sW a p i + a (8 + a (p + 1 + i))
def wd (a : kA) (p : Nat) : Nat := sW a p (a p)
def sF (a : kA) : Nat := a 1 * (a 2 + 1)
def fnA (a : kA) (f : Nat) : Nat := 554 + 9 * (f / (a 2 + 1))
def feA (a : kA) (f : Nat) : Nat := 626 + 4 * (f % (a 2 + 1) - 1)
def fw (a : kA) (f : Nat) : Nat := wd a (fnA a f) + (if f % (a 2 + 1) = 0 then 0 else wd a (feA a f))
def fl (a : kA) (f : Nat) : Nat := a (fnA a f) + (if f % (a 2 + 1) = 0 then 0 else a (feA a f))
def fc (a : kA) (f k : Nat) : Nat := if k < a (fnA a f) then a (fnA a f + 1 + k) else a (feA a f + 1 + (k - a (fnA a f)))
def allB (p : Nat → Bool) : Nat → Bool
  | 0 => true
  | n + 1 => allB p n && p n
theorem allB_iff (p : Nat → Bool) : ∀ n, allB p n = true ↔ ∀ k, k < n → p k = true
  | 0 => ⟨fun _ k hk => absurd hk (Nat.not_lt_zero k), fun _ => rfl⟩
  | n + 1 => by
    rw [allB, Bool.and_eq_true, allB_iff p n]
    refine ⟨fun h k hk => ?_, fun h => ⟨fun k hk => h k (by omega), h n (by omega)⟩⟩
    rcases Nat.lt_or_ge k n with q | q
    · exact h.1 k q
    · have e : k = n := by omega
      rw [e]
      exact h.2
def isF (a : kA) (w f : Nat) : Bool := decide (a (34 + 13 * w) = fl a f) && allB (fun k => decide (a (34 + 13 * w + 1 + k) = fc a f k)) (a (34 + 13 * w))
/-- the first number below n with a property, n if there is none -/
def fst (p : Nat → Bool) : Nat → Nat
  | 0 => 0
  | n + 1 => if fst p n < n then fst p n else if p n then n else n + 1
theorem fst_le (p : Nat → Bool) : ∀ n, fst p n ≤ n
  | 0 => Nat.le_refl 0
  | n + 1 => by
    have ih := fst_le p n
    rw [fst]
    split
    · omega
    · split <;> omega
theorem fst_no (p : Nat → Bool) : ∀ n k, k < fst p n → p k = false
  | 0, k, h => absurd h (Nat.not_lt_zero k)
  | n + 1, k, h => by
    have ih := fst_no p n k
    have le := fst_le p n
    rw [fst] at h
    split at h
    · exact ih h
    · rename_i h1
      split at h
      · exact ih (by omega)
      · rename_i h2
        rcases Nat.lt_or_ge k n with q | q
        · exact ih (by omega)
        · have e : k = n := by omega
          rw [e]
          simpa using h2
theorem fst_yes (p : Nat → Bool) : ∀ n, fst p n < n → p (fst p n) = true
  | 0, h => absurd h (Nat.not_lt_zero _)
  | n + 1, h => by
    have ih := fst_yes p n
    rw [fst] at h ⊢
    split
    · rename_i h1
      exact ih h1
    · rename_i h1
      rw [if_neg h1] at h
      split
      · rename_i h2
        exact h2
      · rename_i h2
        rw [if_neg h2] at h
        omega
theorem fst_uniq {p : Nat → Bool} {n k : Nat} (hk : k < n) (hp : p k = true) (hno : ∀ j, j < k → p j = false) : fst p n = k := by
  rcases Nat.lt_trichotomy (fst p n) k with h | h | h
  · have h1 := fst_yes p n (by omega)
    rw [hno _ h] at h1
    cases h1
  · exact h
  · have h1 := fst_no p n k h
    rw [hp] at h1
    cases h1
theorem fst_none {p : Nat → Bool} {n : Nat} (hno : ∀ j, j < n → p j = false) : fst p n = n := by
  rcases Nat.lt_or_ge (fst p n) n with h | h
  · have h1 := fst_yes p n h
    rw [hno _ h] at h1
    cases h1
  · have h1 := fst_le p n
    omega
/-- the form that hides a word (the number of forms, if there is none) -/
def fo (a : kA) (w : Nat) : Nat := fst (isF a w) (sF a)
def ct (p : Nat → Bool) : Nat → Nat
  | 0 => 0
  | n + 1 => ct p n + (if p n then 1 else 0)
theorem ct_le (p : Nat → Bool) : ∀ n, ct p n ≤ n
  | 0 => Nat.le_refl 0
  | n + 1 => by
    have ih := ct_le p n
    rw [ct]
    split <;> omega
/-- g stands ahead of f by widths -/
def ahd (a : kA) (f g : Nat) : Bool := decide (fw a g < fw a f ∨ (fw a g = fw a f ∧ g < f))
def rk (a : kA) (f : Nat) : Nat := ct (ahd a f) (sF a)
def srt (a : kA) (k : Nat) : Nat := fst (fun g => decide (rk a g = k)) (sF a)
def eog (a : kA) (r : Nat) : Nat := if r / a 5 + 1 < sF a / a 5 then r / a 5 * a 5 + a 5 - 1 else sF a - 1
/-- the width of a form's bar, by mode and step -/
def bw (a : kA) (m st f : Nat) : Nat := if m = 1 then (fw a f + st - 1) / st * st else if m = 2 then fw a (srt a (eog a (rk a f))) else if m = 3 then fw a (srt a (sF a - 1)) else fw a f
def sh (a : kA) (m st w : Nat) : Nat := if fo a w < sF a then bw a m st (fo a w) else wd a (34 + 13 * w)
/-- lines and the place behind, ahead of word w -/
def ly (s : Nat → Nat) (gp lw : Nat) : Nat → Nat × Nat
  | 0 => (0, 0)
  | w + 1 => if w = 0 ∨ lw < (ly s gp lw w).2 + s w then ((ly s gp lw w).1 + 1, s w + gp) else ((ly s gp lw w).1, (ly s gp lw w).2 + (s w + gp))
def plc (s : Nat → Nat) (gp lw w : Nat) : Nat := if w = 0 ∨ lw < (ly s gp lw w).2 + s w then 0 else (ly s gp lw w).2
def lno (s : Nat → Nat) (gp lw w : Nat) : Nat := (ly s gp lw (w + 1)).1 - 1
/-- the names that may be under a bar, as a mask -/
def nu (b : Nat → Nat) (e v : Nat) : Nat → Nat
  | 0 => 0
  | f + 1 => if b f = v then nu b e v f ||| 2 ^ (f / e) else nu b e v f
def pop (x : Nat) : Nat := x / 1 % 2 + x / 2 % 2 + x / 4 % 2 + x / 8 % 2 + x / 16 % 2 + x / 32 % 2 + x / 64 % 2 + x / 128 % 2
end
section
/-! ===== the reference's readers over its state ===== -/
def SM (M : kS) (a : kA) : Prop := ∀ i, i < 642 → M 1 i = nI (a i)
def LW (a : kA) : Prop := ∀ k, k < 26 → 1 ≤ a (8 + k) ∧ a (8 + k) ≤ 9
section MM
variable {M : kS} {a : kA} {N : Nat}
theorem m_each (h : SM M a) : f_X9_each N M = some (nI (a 2 + 1)) := by
  unfold f_X9_each
  simp (disch := omega) only [i_2, i_1, q_gIn, q_cl, h _, nI_add]
theorem sW_le (hw : LW a) {p n : Nat} (hl : ∀ j, j < n → a (p + 1 + j) < 26) : ∀ i, i ≤ n → sW a p i ≤ 9 * i
  | 0, _ => Nat.le_refl 0
  | i + 1, hi => by
    have h1 := sW_le hw hl i (by omega)
    have h2 := hw _ (hl i (by omega))
    rw [sW]
    omega
theorem wd_le (hw : LW a) {p : Nat} (hl : ∀ j, j < a p → a (p + 1 + j) < 26) : wd a p ≤ 9 * a p := sW_le hw hl _ (Nat.le_refl _)
theorem m_widthAt (h : SM M a) (hw : LW a) {p : Nat} (hp : p + a p < 642) (hl : ∀ j, j < a p → a (p + 1 + j) < 26) (hN : 3000 ≤ N) : f_X9_widthAt N M (nI p) = some (nI (wd a p)) := by
  unfold f_X9_widthAt
  obtain ⟨n, e⟩ := lpF (fun n i (x : Int32) => lp_X9_widthAt_4 N M (nI p) (fun x1 => some x1) n x (nI (i + 1))) (fun i => nI (sW a p i)) (a p) (fun n i hi => by
    have e1 : p + (i + 1) = p + 1 + i := by omega
    have h1 := hl i hi
    rw [← e1] at h1
    show lp_X9_widthAt_4 N M (nI p) (fun x1 => some x1) (n + 1) (nI (sW a p i)) (nI (i + 1)) = lp_X9_widthAt_4 N M (nI p) (fun x1 => some x1) n (nI (sW a p (i + 1))) (nI (i + 1 + 1))
    rw [lp_X9_widthAt_4]
    simp (disch := omega) only [i_8, i_1, q_gIn, q_cl, h _, nI_add, q_lt, jn, if_neg]
    rw [sW, e1]) (N := N) 0 (Nat.zero_le _) (by omega)
  simp only [jn, i_0, i_1]
  refine e.trans ?_
  show lp_X9_widthAt_4 N M (nI p) (fun x1 => some x1) (n + 1) (nI (sW a p (a p))) (nI (a p + 1)) = _
  rw [lp_X9_widthAt_4]
  simp (disch := omega) only [q_gIn, q_cl, h _, q_lt, if_pos]
  rfl
end MM
end
section
/-! ===== counting and the order of the forms by widths (its first family, to fb_onto, is pasted from kit/laws/COUNTS) ===== -/
theorem fb_holes : ∀ (m n : Nat) (f : Nat → Nat), (∀ i, i < n → f i < m) → (∀ i j, i < j → j < n → f i ≠ f j) → n ≤ m := by
  intro m
  induction m with
  | zero =>
    intro n f h1 _
    rcases Nat.eq_zero_or_pos n with h | h
    · omega
    · exact absurd (h1 0 h) (Nat.not_lt_zero _)
  | succ m ih =>
    intro n f h1 h2
    by_cases hx : ∃ i, i < n ∧ f i = m
    · obtain ⟨a, ha, hfa⟩ := hx
      have hg := ih (n - 1) (fun i => if i < a then f i else f (i + 1)) (by
        intro i hi
        by_cases q : i < a
        · simp only [if_pos q]
          have b1 := h1 i (by omega)
          have b2 := h2 i a q ha
          omega
        · simp only [if_neg q]
          have b1 := h1 (i + 1) (by omega)
          have b2 := h2 a (i + 1) (by omega) (by omega)
          omega) (by
        intro i j hij hj
        by_cases q : i < a
        · by_cases r : j < a
          · simp only [if_pos q, if_pos r]
            exact h2 i j hij (by omega)
          · simp only [if_pos q, if_neg r]
            exact h2 i (j + 1) (by omega) (by omega)
        · have r : ¬ j < a := by omega
          simp only [if_neg q, if_neg r]
          exact h2 (i + 1) (j + 1) (by omega) (by omega))
      omega
    · have hg := ih n f (fun i hi => by
        have b1 := h1 i hi
        have b2 : f i ≠ m := fun e => hx ⟨i, hi, e⟩
        omega) h2
      omega
/-- two of them in one place -/
theorem fb_twice {m n : Nat} {f : Nat → Nat} (h : ∀ i, i < n → f i < m) (hm : m < n) : ∃ i j, i < j ∧ j < n ∧ f i = f j := by
  refine Classical.byContradiction fun hx => ?_
  have := fb_holes m n f h (fun i j hij hj e => hx ⟨i, j, hij, hj, e⟩)
  omega
/-- as many as places, none twice: each place is taken -/
theorem fb_onto {n : Nat} {f : Nat → Nat} (h : ∀ i, i < n → f i < n) (h2 : ∀ i j, i < j → j < n → f i ≠ f j) {y : Nat} (hy : y < n) : ∃ i, i < n ∧ f i = y := by
  refine Classical.byContradiction fun hx => ?_
  have hne : ∀ i, i < n → f i ≠ y := fun i hi e => hx ⟨i, hi, e⟩
  have := fb_holes (n - 1) n (fun i => if f i < y then f i else f i - 1) (by
    intro i hi
    have b1 := h i hi
    have b2 := hne i hi
    by_cases q : f i < y
    · simp only [if_pos q]; omega
    · simp only [if_neg q]; omega) (by
    intro i j hij hj
    have b1 := hne i (by omega)
    have b2 := hne j hj
    have b3 := h2 i j hij hj
    by_cases q : f i < y
    · by_cases r : f j < y
      · simp only [if_pos q, if_pos r]; exact b3
      · simp only [if_pos q, if_neg r]; omega
    · by_cases r : f j < y
      · simp only [if_neg q, if_pos r]; omega
      · simp only [if_neg q, if_neg r]; omega)
  omega
theorem ct_cong {p q : Nat → Bool} : ∀ {n : Nat}, (∀ k, k < n → p k = q k) → ct p n = ct q n
  | 0, _ => rfl
  | n + 1, h => by rw [ct, ct, ct_cong (fun k hk => h k (by omega)), h n (by omega)]
theorem ct_sub {p q : Nat → Bool} : ∀ {n : Nat}, (∀ k, k < n → p k = true → q k = true) → ct p n ≤ ct q n
  | 0, _ => Nat.le_refl 0
  | n + 1, h => by
    have h1 := ct_sub (p := p) (q := q) (n := n) (fun k hk => h k (by omega))
    have h2 := h n (by omega)
    rw [ct, ct]
    cases hp : p n with
    | false => simp; omega
    | true => rw [h2 hp]; simp; omega
theorem ct_lt {p q : Nat → Bool} : ∀ {n : Nat}, (∀ k, k < n → p k = true → q k = true) → ∀ {y : Nat}, y < n → q y = true → p y = false → ct p n < ct q n
  | 0, _, y, hy, _, _ => absurd hy (Nat.not_lt_zero _)
  | n + 1, h, y, hy, hq, hp => by
    rw [ct, ct]
    rcases Nat.lt_or_ge y n with z | z
    · have h1 := ct_lt (p := p) (q := q) (n := n) (fun k hk => h k (by omega)) z hq hp
      have h2 := h n (by omega)
      cases hpn : p n with
      | false => simp; omega
      | true => rw [h2 hpn]; simp; omega
    · have e : y = n := by omega
      subst e
      have h1 := ct_sub (p := p) (q := q) (n := y) (fun k hk => h k (by omega))
      rw [hp, hq]
      simp
      omega
theorem ct_all : ∀ n, ct (fun _ => true) n = n
  | 0 => rfl
  | n + 1 => by rw [ct, ct_all n]; rfl
theorem ct_upd {p : Nat → Bool} {x : Nat} : ∀ {n : Nat}, x < n → p x = false → ct (fun g => decide (x = g) || p g) n = ct p n + 1
  | 0, h, _ => absurd h (Nat.not_lt_zero _)
  | n + 1, h, hp => by
    rw [ct, ct]
    rcases Nat.lt_or_ge x n with z | z
    · have h1 := ct_upd (p := p) z hp
      have h2 : ¬ x = n := by omega
      rw [h1]
      simp [h2]
      omega
    · have e : x = n := by omega
      subst e
      have h1 : ct (fun g => decide (x = g) || p g) x = ct p x := ct_cong (fun k hk => by
        have h2 : ¬ x = k := by omega
        simp [h2])
      rw [h1, hp]
      simp
def anyS (S : Nat → Nat) (g : Nat) : Nat → Bool
  | 0 => false
  | k + 1 => decide (S k = g) || anyS S g k
theorem anyS_iff (S : Nat → Nat) (g : Nat) : ∀ k, anyS S g k = true ↔ ∃ i, i < k ∧ S i = g
  | 0 => ⟨fun h => (by cases h), fun ⟨i, h, _⟩ => absurd h (Nat.not_lt_zero _)⟩
  | k + 1 => by
    rw [anyS, Bool.or_eq_true, anyS_iff S g k]
    refine ⟨fun h => ?_, fun ⟨i, h, e⟩ => ?_⟩
    · rcases h with h | ⟨i, h, e⟩
      · exact ⟨k, by omega, of_decide_eq_true h⟩
      · exact ⟨i, by omega, e⟩
    · rcases Nat.lt_or_ge i k with z | z
      · exact Or.inr ⟨i, z, e⟩
      · have e2 : i = k := by omega
        subst e2
        exact Or.inl (decide_eq_true e)
theorem ct_img {S : Nat → Nat} {n : Nat} : ∀ (k : Nat), (∀ i, i < k → S i < n) → (∀ i j, i < j → j < k → S i ≠ S j) → ct (fun g => anyS S g k) n = k
  | 0, _, _ => by
    have h : ct (fun g => anyS S g 0) n = ct (fun _ => false) n := ct_cong (fun _ _ => rfl)
    rw [h]
    have h2 : ∀ m, ct (fun _ => false) m = 0 := fun m => by
      induction m with
      | zero => rfl
      | succ m ih => rw [ct, ih]; rfl
    exact h2 n
  | k + 1, h1, h2 => by
    have ih := ct_img (S := S) (n := n) k (fun i hi => h1 i (by omega)) (fun i j hij hj => h2 i j hij (by omega))
    have h3 : anyS S (S k) k = false := by
      cases hc : anyS S (S k) k with
      | false => rfl
      | true =>
        obtain ⟨i, hi, e⟩ := (anyS_iff S (S k) k).mp hc
        exact absurd e (h2 i k hi (by omega))
    have h4 := ct_upd (p := fun g => anyS S g k) (h1 k (by omega)) h3
    rw [ih] at h4
    exact h4
def lf (a : kA) (x y : Nat) : Prop := fw a x < fw a y ∨ (fw a x = fw a y ∧ x < y)
theorem ahd_iff (a : kA) (f g : Nat) : ahd a f g = true ↔ lf a g f := by
  unfold ahd lf
  exact decide_eq_true_iff
theorem lf_tri {a : kA} {x y : Nat} (h : x ≠ y) : lf a x y ∨ lf a y x := by unfold lf; omega
theorem lf_tr {a : kA} {x y z : Nat} (h : lf a x y) (h2 : lf a y z) : lf a x z := by unfold lf at *; omega
theorem lf_ir {a : kA} {x : Nat} (h : lf a x x) : False := by unfold lf at h; omega
theorem rk_mono {a : kA} {x y : Nat} (hx : x < sF a) (h : lf a x y) : rk a x < rk a y :=
  ct_lt (fun k _ hk => (ahd_iff a y k).mpr (lf_tr ((ahd_iff a x k).mp hk) h)) hx ((ahd_iff a y x).mpr h) (by
    cases hc : ahd a x x with
    | false => rfl
    | true => exact absurd ((ahd_iff a x x).mp hc) (fun z => lf_ir z))
theorem rk_inj {a : kA} {x y : Nat} (hx : x < sF a) (hy : y < sF a) (h : rk a x = rk a y) : x = y := by
  rcases Nat.decEq x y with z | z
  · rcases lf_tri (a := a) z with q | q
    · have h1 := rk_mono hx q
      omega
    · have h1 := rk_mono hy q
      omega
  · exact z
theorem rk_lt {a : kA} {x : Nat} (hx : x < sF a) : rk a x < sF a := by
  have h := ct_lt (p := ahd a x) (q := fun _ => true) (n := sF a) (fun _ _ _ => rfl) hx rfl (by
    cases hc : ahd a x x with
    | false => rfl
    | true => exact absurd ((ahd_iff a x x).mp hc) (fun z => lf_ir z))
  rw [ct_all] at h
  exact h
theorem rk_onto {a : kA} {r : Nat} (hr : r < sF a) : ∃ f, f < sF a ∧ rk a f = r := fb_onto (f := rk a) (fun _ hi => rk_lt hi) (fun i j hij hj e => by
  have h := rk_inj (a := a) (by omega) hj e
  omega) hr
theorem srt_uniq {a : kA} {f r : Nat} (hf : f < sF a) (h : rk a f = r) : srt a r = f := fst_uniq hf (decide_eq_true h) (fun j hj => by
  cases hc : decide (rk a j = r) with
  | false => rfl
  | true =>
    have h1 := rk_inj (a := a) (x := j) (by omega) hf ((of_decide_eq_true hc).trans h.symm)
    omega)
theorem srt_ok {a : kA} {r : Nat} (hr : r < sF a) : srt a r < sF a ∧ rk a (srt a r) = r := by
  obtain ⟨f, h1, h2⟩ := rk_onto hr
  rw [srt_uniq h1 h2]
  exact ⟨h1, h2⟩
/-- a row of the first n forms, by widths -/
def Srt (a : kA) (S : Nat → Nat) (n : Nat) : Prop := (∀ k, k < n → S k < n) ∧ ∀ i j, i < j → j < n → lf a (S i) (S j)
theorem Srt.ne {a : kA} {S : Nat → Nat} {n : Nat} (h : Srt a S n) : ∀ i j, i < j → j < n → S i ≠ S j := fun i j hij hj e => by
  have h1 := h.2 i j hij hj
  rw [e] at h1
  exact lf_ir h1
theorem Srt.rk {a : kA} {S : Nat → Nat} (h : Srt a S (sF a)) {k : Nat} (hk : k < sF a) : rk a (S k) = k := by
  have h1 := ct_img (S := S) (n := sF a) k (fun i hi => h.1 i (by omega)) (fun i j hij hj => h.ne i j hij (by omega))
  refine Eq.trans (ct_cong (fun g hg => ?_)) h1
  obtain ⟨i, hi, e⟩ := fb_onto (f := S) h.1 h.ne hg
  subst e
  rw [Bool.eq_iff_iff, ahd_iff, anyS_iff]
  refine ⟨fun hl => ?_, fun ⟨j, hj, e⟩ => ?_⟩
  · rcases Nat.lt_trichotomy i k with z | z | z
    · exact ⟨i, z, rfl⟩
    · subst z
      exact (lf_ir hl).elim
    · exact (lf_ir (lf_tr hl (h.2 k i z hi))).elim
  · rw [← e]
    exact h.2 j k hj hk
theorem Srt.srt {a : kA} {S : Nat → Nat} (h : Srt a S (sF a)) {k : Nat} (hk : k < sF a) : srt a k = S k := srt_uniq (h.1 k hk) (h.rk hk)
/-- .. with one more, put in at k -/
theorem Srt.ins {a : kA} {S S' : Nat → Nat} {n k : Nat} (h : Srt a S n) (hk : k ≤ n) (h1 : ∀ i, i < k → S' i = S i) (h2 : S' k = n) (h3 : ∀ i, k < i → i ≤ n → S' i = S (i - 1)) (hlo : k = 0 ∨ fw a (S (k - 1)) ≤ fw a n) (hhi : ∀ i, k ≤ i → i < n → fw a n < fw a (S i)) : Srt a S' (n + 1) := by
  have lo : ∀ i, i < k → lf a (S i) n := fun i hi => by
    have b1 := h.1 i (by omega)
    rcases hlo with z | z
    · omega
    · rcases Nat.lt_or_ge i (k - 1) with q | q
      · have b2 := h.2 i (k - 1) q (by omega)
        unfold lf at *
        omega
      · have e : i = k - 1 := by omega
        subst e
        unfold lf
        omega
  have hi' : ∀ i, k ≤ i → i < n → lf a n (S i) := fun i z q => Or.inl (hhi i z q)
  refine ⟨fun i hi => ?_, fun i j hij hj => ?_⟩
  · rcases Nat.lt_trichotomy i k with z | z | z
    · rw [h1 i z]
      have b1 := h.1 i (by omega)
      omega
    · subst z
      rw [h2]
      omega
    · rw [h3 i z (by omega)]
      have b1 := h.1 (i - 1) (by omega)
      omega
  · rcases Nat.lt_trichotomy i k with z | z | z
    · rw [h1 i z]
      rcases Nat.lt_trichotomy j k with y | y | y
      · rw [h1 j y]
        exact h.2 i j hij (by omega)
      · subst y
        rw [h2]
        exact lo i z
      · rw [h3 j y (by omega)]
        rcases Nat.lt_or_ge i (j - 1) with q | q
        · exact h.2 i (j - 1) q (by omega)
        · omega
    · subst z
      rw [h2, h3 j hij (by omega)]
      exact hi' (j - 1) (by omega) (by omega)
    · rw [h3 i z (by omega), h3 j (by omega) (by omega)]
      exact h.2 (i - 1) (j - 1) (by omega) (by omega)
end
section
/-! ===== a loop that may end early ===== -/
theorem lpX {β : Type} (L : Nat → Nat → β) (m : Nat) (p : Nat → Bool) (kF : Nat → β) (kT : β) (hs : ∀ n i, i < m → p i = false → L (n + 1) i = L n (i + 1)) (hf : ∀ n i, i < m → p i = true → L (n + 2) i = kF i) (he : ∀ n, L (n + 1) m = kT) {N : Nat} (hN : m + 1 < N) : L N 0 = if fst p m < m then kF (fst p m) else kT := by
  have hle := fst_le p m
  have run : ∀ j, j ≤ fst p m → L N 0 = L (N - j) j := by
    intro j
    induction j with
    | zero => intro _; rfl
    | succ j ih =>
      intro hj
      rw [ih (by omega)]
      have h1 := hs (N - (j + 1)) j (by omega) (fst_no p m j (by omega))
      have e : N - (j + 1) + 1 = N - j := by omega
      rw [e] at h1
      exact h1
  rw [run _ (Nat.le_refl _)]
  split
  · rename_i h
    have h1 := hf (N - fst p m - 2) (fst p m) h (fst_yes p m h)
    have e : N - fst p m - 2 + 2 = N - fst p m := by omega
    rw [e] at h1
    exact h1
  · rename_i h
    have e : fst p m = m := by omega
    rw [e]
    have h1 := he (N - m - 1)
    have e2 : N - m - 1 + 1 = N - m := by omega
    rw [e2] at h1
    exact h1
theorem allB_fst (p : Nat → Bool) (n : Nat) : allB p n = decide (¬ fst (fun k => !p k) n < n) := by
  rw [Bool.eq_iff_iff, allB_iff, decide_eq_true_iff]
  refine ⟨fun h hl => ?_, fun h k hk => ?_⟩
  · have h1 := fst_yes _ _ hl
    rw [h _ hl] at h1
    cases h1
  · have h1 := fst_no (fun k => !p k) n k (by omega)
    simpa using h1
theorem q_nT : (nI 1 = nI 0) = False := by simp; decide
section MM2
variable {M : kS} {a : kA} {N : Nat}
theorem fq {f : Nat} (hf : f < sF a) : f / (a 2 + 1) < a 1 := Nat.div_lt_of_lt_mul (by unfold sF at hf; rw [Nat.mul_comm]; exact hf)
theorem fr (f : Nat) : f % (a 2 + 1) < a 2 + 1 := Nat.mod_lt _ (Nat.succ_pos _)
theorem sF_le (hw : WF a) : sF a ≤ 40 := by
  have h1 := Nat.mul_le_mul hw.2.1 (Nat.succ_le_succ hw.2.2.1)
  exact h1
theorem m_endingAt (h : SM M a) (h2 : a 2 ≤ 4) {f : Nat} (hf : f ≤ 1000) (hr : ¬ f % (a 2 + 1) = 0) : f_X9_endingAt N M (nI f) = some (nI (feA a f)) := by
  unfold f_X9_endingAt
  simp (disch := omega) only [m_each h, ob, q_nz, q_rem]
  simp (disch := omega) only [i_626, i_4, i_1, q_sub, pk_mul, nI_add]
  rfl
theorem m_lettersOf (h : SM M a) (hw : WF a) {f : Nat} (hf : f < sF a) : f_X9_lettersOf N M (nI f) = some (nI (fl a f)) := by
  obtain ⟨w0, w1, w2, w3, w4, w5, w6, w7, wl, wp, wn, we⟩ := id hw
  have hF := sF_le hw
  have hq := fq hf
  have hr := fr (a := a) f
  have hfe : ∀ r, ¬ f % (a 2 + 1) = 0 → r = feA a f → r < 642 := fun r z e => by rw [e]; unfold feA; omega
  unfold f_X9_lettersOf
  simp (disch := omega) only [m_each h, ob, q_nz, q_rem, jn]
  by_cases z : f % (a 2 + 1) = 0
  · simp (disch := omega) only [z, i_0, if_true, q_div, i_554, i_9, pk_mul, nI_add, q_gIn, q_cl, h _]
    unfold fl
    rw [if_pos z]
    rfl
  · have hx := hfe _ z rfl
    simp (disch := omega) only [z, i_0, q_eq, if_false, m_endingAt h w2 (f := f) (by omega) z, ob, q_div, i_554, i_9, pk_mul, nI_add, q_gIn, q_cl, h _]
    unfold fl
    rw [if_neg z]
    rfl
theorem m_letterOf (h : SM M a) (hw : WF a) {f k : Nat} (hf : f < sF a) (hk : k < fl a f) : f_X9_letterOf N M (nI f) (nI k) = some (nI (fc a f k)) := by
  obtain ⟨w0, w1, w2, w3, w4, w5, w6, w7, wl, wp, wn, we⟩ := id hw
  have hF := sF_le hw
  have hq := fq hf
  have hr := fr (a := a) f
  have hn := (wn _ hq).1
  unfold f_X9_letterOf
  simp (disch := omega) only [m_each h, ob, q_nz, jn, q_div, i_554, i_9, pk_mul, nI_add, q_gIn, q_cl, h _]
  have hn8 : a (fnA a f) ≤ 8 := hn.2
  unfold fl at hk
  by_cases z : k < a (fnA a f)
  · have z2 : ¬ a (554 + 9 * (f / (a 2 + 1))) ≤ k := by unfold fnA at z; omega
    unfold fnA at z
    simp (disch := omega) only [q_le, z2, if_false, i_1, nI_add, q_gIn, q_cl, h _]
    unfold fc fnA
    rw [if_pos z]
  · have hz : ¬ f % (a 2 + 1) = 0 := fun e => by rw [if_pos e] at hk; omega
    rw [if_neg hz] at hk
    have h3 := (we (f % (a 2 + 1) - 1) (by omega)).1.2
    have h3' : a (feA a f) ≤ 3 := h3
    have hb : feA a f + 4 ≤ 642 := by unfold feA; omega
    have z2 : a (554 + 9 * (f / (a 2 + 1))) ≤ k := by unfold fnA at z; omega
    have e1 : feA a f + 1 + k - a (554 + 9 * (f / (a 2 + 1))) = feA a f + 1 + (k - a (fnA a f)) := by unfold fnA at *; omega
    have e2 : feA a f + 1 + (k - a (fnA a f)) < 642 := by omega
    simp (disch := omega) only [q_le, z2, if_true, m_endingAt h w2 (f := f) (by omega) hz, ob, i_1, nI_add, q_sub, q_gIn, q_cl, e1, h _]
    unfold fc
    rw [if_neg z]
theorem m_isForm (h : SM M a) (hw : WF a) {w f : Nat} (hwd : w < a 0) (hf : f < sF a) (hN : 3000 ≤ N) : f_X9_isForm N M (nI w) (nI f) = some (nI (if isF a w f then 1 else 0)) := by
  obtain ⟨w0, w1, w2, w3, w4, w5, w6, w7, wl, wp, wn, we⟩ := id hw
  have hF := sF_le hw
  have hp := (wp w hwd).1
  unfold f_X9_isForm
  simp (disch := omega) only [m_lettersOf h hw hf, ob, jn, i_34, i_13, i_1, i_0, pk_mul, nI_add, q_gIn, q_cl, h _]
  have hfl : fl a f ≤ 20 := by
    have hq := fq hf
    have hr := fr (a := a) f
    have b1 : a (fnA a f) ≤ 8 := (wn _ hq).1.2
    unfold fl
    by_cases z : f % (a 2 + 1) = 0
    · rw [if_pos z]; omega
    · rw [if_neg z]
      have b2 : a (feA a f) ≤ 3 := (we _ (by omega)).1.2
      omega
  by_cases hlen : a (34 + 13 * w) = fl a f
  · have hq : (nI (a (34 + 13 * w)) = nI (fl a f)) = True := by rw [q_eq (by omega) (by omega)]; simpa using hlen
    simp only [hq, if_true]
    refine (lpX (fun n i => lp_X9_isForm_32 N M (nI w) (nI f) (fun x6 => some (x6 &&& nI 1)) n (nI 1) (nI i)) (a (34 + 13 * w)) (fun k => !(decide (a (34 + 13 * w + 1 + k) = fc a f k))) (fun _ => some (nI 0)) (some (nI 1)) (fun n i hi hpi => ?_) (fun n i hi hpi => ?_) (fun n => ?_) (by omega)).trans ?_
    · have hpe : a (34 + 13 * w + 1 + i) = fc a f i := by simpa using hpi
      show lp_X9_isForm_32 N M (nI w) (nI f) (fun x6 => some (x6 &&& nI 1)) (n + 1) (nI 1) (nI i) = lp_X9_isForm_32 N M (nI w) (nI f) (fun x6 => some (x6 &&& nI 1)) n (nI 1) (nI (i + 1))
      rw [lp_X9_isForm_32]
      simp (disch := omega) only [i_34, i_13, i_1, i_0, pk_mul, nI_add, q_gIn, q_cl, h _, q_le, q_nT, m_letterOf h hw hf (k := i) (by omega), ob, jn, hpe, if_neg, if_false, if_true]
    · have hpe : ¬ a (34 + 13 * w + 1 + i) = fc a f i := by simpa using hpi
      show lp_X9_isForm_32 N M (nI w) (nI f) (fun x6 => some (x6 &&& nI 1)) (n + 1 + 1) (nI 1) (nI i) = some (nI 0)
      rw [lp_X9_isForm_32]
      have hb1 : a (34 + 13 * w + 1 + i) < 26 := (wp w hwd).2 i hi
      have hb2 : fc a f i < 2147483648 := by
        have hq := fq hf
        have hr := fr (a := a) f
        unfold fc
        unfold fl at hlen
        by_cases z : i < a (fnA a f)
        · rw [if_pos z]
          have := (wn _ hq).2 i z
          unfold fnA
          omega
        · rw [if_neg z]
          have hz : ¬ f % (a 2 + 1) = 0 := fun e => by rw [if_pos e] at hlen; omega
          rw [if_neg hz] at hlen
          have := (we _ (show f % (a 2 + 1) - 1 < a 2 by omega)).2 (i - a (fnA a f)) (by unfold feA at hlen; omega)
          unfold feA
          omega
      simp (disch := omega) only [i_34, i_13, i_1, i_0, pk_mul, nI_add, q_gIn, q_cl, h _, q_le, q_nT, m_letterOf h hw hf (k := i) (by omega), ob, jn, q_eq, hpe, if_neg, if_false]
      rw [lp_X9_isForm_32]
      simp (disch := omega) only [i_34, i_13, i_1, i_0, pk_mul, nI_add, q_gIn, q_cl, h _, if_true, ite_self, q_and0]
    · show lp_X9_isForm_32 N M (nI w) (nI f) (fun x6 => some (x6 &&& nI 1)) (n + 1) (nI 1) (nI (a (34 + 13 * w))) = some (nI 1)
      rw [lp_X9_isForm_32]
      simp (disch := omega) only [i_34, i_13, pk_mul, nI_add, q_gIn, q_cl, h _, q_le, Nat.le_refl, if_true, q_and1]
    · unfold isF
      rw [allB_fst]
      simp only [hlen, decide_true, Bool.true_and]
      split
      · rename_i z
        simp [z]
      · rename_i z
        simp [z]
  · have hq : (nI (a (34 + 13 * w)) = nI (fl a f)) = False := by rw [q_eq (by omega) (by omega)]; simpa using hlen
    obtain ⟨N', rfl⟩ : ∃ N', N = N' + 1 := ⟨N - 1, by omega⟩
    simp only [hq, if_false]
    rw [lp_X9_isForm_32]
    simp (disch := omega) only [i_34, i_13, i_1, i_0, pk_mul, nI_add, q_gIn, q_cl, h _, if_true, ite_self, q_and0]
    unfold isF
    simp [hlen]
end MM2
end
section
/-! ===== the reference's bars ===== -/
def upd2 (S : Nat → Nat) (k f : Nat) : Nat → Nat := fun i => if i < k then S i else if i = k then f else S (i - 1)
def AgM (M M' : kS) : Prop := M' 1 = M 1 ∧ M' 2 = M 2 ∧ M' 3 = M 3 ∧ M' 0 2 = M 0 2 ∧ M' 0 4 = M 0 4 ∧ M' 0 5 = M 0 5
theorem AgM.rf {M : kS} : AgM M M := ⟨rfl, rfl, rfl, rfl, rfl, rfl⟩
theorem AgM.tr {M M' M'' : kS} (h : AgM M M') (h2 : AgM M' M'') : AgM M M'' := ⟨h2.1.trans h.1, h2.2.1.trans h.2.1, h2.2.2.1.trans h.2.2.1, h2.2.2.2.1.trans h.2.2.2.1, h2.2.2.2.2.1.trans h.2.2.2.2.1, h2.2.2.2.2.2.trans h.2.2.2.2.2⟩
theorem AgM.sm {M M' : kS} {a : kA} (h : AgM M M') (hs : SM M a) : SM M' a := fun i hi => by rw [h.1]; exact hs i hi
theorem q_pos {n : Nat} (h : 0 < n) (h2 : n < 2147483648) : (nI n ≤ nI 0) = False := by
  rw [q_le h2 (by omega)]
  simp
  omega
theorem q_m (n : Nat) : nI (n + 1) + -nI 1 = nI n := pk_m1 n
section MM3
variable {M : kS} {a : kA} {N : Nat}
theorem fw_le (hw : WF a) {f : Nat} (hf : f < sF a) : fw a f ≤ 99 := by
  obtain ⟨w0, w1, w2, w3, w4, w5, w6, w7, wl, wp, wn, we⟩ := hw
  have hq := fq hf
  have hr := fr (a := a) f
  have b1 := (wn _ hq).1.2
  have b2 : wd a (fnA a f) ≤ 9 * a (fnA a f) := wd_le wl (wn _ hq).2
  have b3 : a (fnA a f) ≤ 8 := b1
  unfold fw
  by_cases z : f % (a 2 + 1) = 0
  · rw [if_pos z]; omega
  · rw [if_neg z]
    have c1 := we (f % (a 2 + 1) - 1) (by omega)
    have c2 : wd a (feA a f) ≤ 9 * a (feA a f) := wd_le wl c1.2
    have c3 : a (feA a f) ≤ 3 := c1.1.2
    omega
theorem m_sorts_in {M0 : kS} {S : Nat → Nat} {f : Nat} (hf : f < 40) (hS : ∀ i, i < f → S i < f) (h4 : ∀ i, i ≤ f → M0 4 i = nI (fw a i)) (hw : ∀ i, i ≤ f → fw a i ≤ 1000) (kont : Int32 → kS → Option kS) : ∀ (k n : Nat) (C : kS), k < n → k ≤ f → (∀ j, j ≠ 6 → C j = M0 j) → (∀ i, i < k → C 6 i = nI (S i)) → (∀ i, k < i → i ≤ f → C 6 i = nI (S (i - 1))) → (∀ i, k ≤ i → i < f → fw a f < fw a (S i)) → ∃ k' C', k' ≤ f ∧ (∀ j, j ≠ 6 → C' j = M0 j) ∧ (∀ i, i < k' → C' 6 i = nI (S i)) ∧ (∀ i, k' < i → i ≤ f → C' 6 i = nI (S (i - 1))) ∧ (∀ i, k' ≤ i → i < f → fw a f < fw a (S i)) ∧ (k' = 0 ∨ fw a (S (k' - 1)) ≤ fw a f) ∧ lp_X9_sorts_12 N (nI f) kont n (nI k) C = kont (nI k') C' := by
  intro k
  induction k with
  | zero =>
    intro n C hn hk hC h1 h2 h3
    obtain ⟨n, rfl⟩ : ∃ n', n = n' + 1 := ⟨n - 1, by omega⟩
    refine ⟨0, C, Nat.zero_le _, hC, h1, h2, h3, Or.inl rfl, ?_⟩
    rw [lp_X9_sorts_12]
    simp (disch := omega) only [i_0, q_le, Nat.le_refl, if_true]
  | succ k ih =>
    intro n C hn hk hC h1 h2 h3
    obtain ⟨n, rfl⟩ : ∃ n', n = n' + 1 := ⟨n - 1, by omega⟩
    rw [lp_X9_sorts_12]
    have s1 := hS k (by omega)
    have e6 := h1 k (by omega)
    have e4 : C 4 = M0 4 := hC 4 (by decide)
    have w1 := hw (S k) (by omega)
    have w2 := hw f (Nat.le_refl _)
    simp (disch := omega) only [i_0, i_1, q_sub, Nat.add_sub_cancel, q_gIn, q_cl, e6, e4, h4 (S k), h4 f, q_le, jn, q_m, if_neg]
    by_cases z : fw a (S k) ≤ fw a f
    · rw [if_pos z]
      exact ⟨k + 1, C, hk, hC, h1, h2, h3, Or.inr z, rfl⟩
    · rw [if_neg z]
      refine ih n (up1 C 6 (upd (C 6) (k + 1) (nI (S k)))) (by omega) (by omega) (fun j hj => ?_) (fun i hi => ?_) (fun i hi hi2 => ?_) (fun i hi hi2 => ?_)
      · rw [up1_n hj]
        exact hC j hj
      · rw [up1_s, pk_un (by omega)]
        exact h1 i (by omega)
      · rw [up1_s]
        by_cases y : i = k + 1
        · subst y
          rw [pk_us]
          rfl
        · rw [pk_un y]
          exact h2 i (by omega) hi2
      · by_cases y : i = k
        · subst y
          omega
        · exact h3 i (by omega) hi2
theorem m_sorts (hF : M 0 9 = nI (sF a)) (hle : sF a ≤ 40) (h4 : ∀ f, f < sF a → M 4 f = nI (fw a f)) (hw : ∀ f, f < sF a → fw a f ≤ 1000) (hN : 3000 ≤ N) : ∃ M', f_X9_sorts N M = some M' ∧ (∀ j, j ≠ 6 → M' j = M j) ∧ ∃ S, Srt a S (sF a) ∧ ∀ i, i < sF a → M' 6 i = nI (S i) := by
  unfold f_X9_sorts
  obtain ⟨C, n, ⟨hC, S, hS, h6⟩, e⟩ := lpN (fun n i (x : kS) => lp_X9_sorts_2 N (fun C1 => some C1) n (nI i) x) (fun f C => (∀ j, j ≠ 6 → C j = M j) ∧ ∃ S, Srt a S f ∧ ∀ i, i < f → C 6 i = nI (S i)) (sF a) (fun n f C hf hI => by
    obtain ⟨hC, S, hS, h6⟩ := hI
    have e0 : C 0 = M 0 := hC 0 (by decide)
    obtain ⟨k, C', hk, hC', a1, a2, a3, a4, e⟩ := m_sorts_in (N := N) (a := a) (M0 := M) (S := S) (f := f) (by omega) hS.1 (fun i hi => h4 i (by omega)) (fun i hi => hw i (by omega)) (fun (x6 : Int32) (C7 : kS) => gIn x6 40 (jn (up1 C7 6 (upd (C7 6) (x6.toNatClampNeg) (nI f))) (fun C10 : kS => lp_X9_sorts_2 N (fun C1 => some C1) n (nI f + 1) C10))) f N C (by omega) (Nat.le_refl _) hC h6 (fun i hi hi2 => by omega) (fun i hi hi2 => by omega)
    refine ⟨up1 C' 6 (upd (C' 6) k (nI f)), ⟨fun j hj => by rw [up1_n hj]; exact hC' j hj, upd2 S k f, ?_, ?_⟩, ?_⟩
    · refine hS.ins hk (fun i hi => ?_) ?_ (fun i hi hi2 => ?_) a4 a3
      · unfold upd2
        rw [if_pos hi]
      · unfold upd2
        rw [if_neg (by omega), if_pos rfl]
      · unfold upd2
        rw [if_neg (by omega), if_neg (by omega)]
    · intro i hi
      rw [up1_s]
      unfold upd2
      rcases Nat.lt_trichotomy i k with z | z | z
      · rw [pk_un (by omega), if_pos z]
        exact a1 i z
      · subst z
        rw [pk_us, if_neg (by omega), if_pos rfl]
      · rw [pk_un (by omega), if_neg (by omega), if_neg (by omega)]
        exact a2 i z (by omega)
    · show lp_X9_sorts_2 N (fun C1 => some C1) (n + 1) (nI f) C = lp_X9_sorts_2 N (fun C1 => some C1) n (nI (f + 1)) (up1 C' 6 (upd (C' 6) k (nI f)))
      rw [lp_X9_sorts_2]
      have hne : ¬ sF a ≤ f := by omega
      simp (disch := omega) only [e0, hF, q_le, hne, if_false]
      rw [jn, e]
      simp (disch := omega) only [q_gIn, q_cl, jn, i_1, nI_add]) (N := N) 0 M (Nat.zero_le _) (by omega) ⟨fun j _ => rfl, fun _ => 0, ⟨fun k hk => absurd hk (Nat.not_lt_zero k), fun i j hij hj => absurd hj (Nat.not_lt_zero j)⟩, fun i hi => absurd hi (Nat.not_lt_zero i)⟩
  refine ⟨C, ?_, hC, S, hS, h6⟩
  simp only [jn, i_0]
  refine e.trans ?_
  show lp_X9_sorts_2 N (fun C1 => some C1) (n + 1) (nI (sF a)) C = some C
  rw [lp_X9_sorts_2]
  have e0 : C 0 = M 0 := hC 0 (by decide)
  simp (disch := omega) only [e0, hF, q_le, Nat.le_refl, if_true]
theorem m_endOfGroup (h : SM M a) (hw : WF a) (hF : M 0 9 = nI (sF a)) {r : Nat} (hr : r < sF a) : f_X9_endOfGroup N M (nI r) = some (nI (eog a r)) := by
  obtain ⟨w0, w1, w2, w3, w4, w5, w6, w7, wl, wp, wn, we⟩ := id hw
  have hle := sF_le hw
  have d1 := Nat.div_le_self (sF a) (a 5)
  have d2 := Nat.div_le_self r (a 5)
  have d3 := Nat.div_mul_le_self r (a 5)
  unfold f_X9_endOfGroup
  simp (disch := omega) only [i_5, i_1, i_0, q_gIn, q_cl, h _, q_nz, jn, hF, q_div, q_eq, pk_mul, nI_add, q_sub]
  unfold eog
  generalize sF a / a 5 = G at *
  generalize r / a 5 = q at *
  by_cases z : G = 0
  · have z2 : ¬ q + 1 < G := by omega
    simp only [z, if_true]
    rw [if_neg (by omega)]
  · simp (disch := omega) only [z, if_false, q_sub, q_lt]
    by_cases y : q + 1 < G
    · have y2 : q < G - 1 := by omega
      rw [if_pos y, if_pos y2]
    · have y2 : ¬ q < G - 1 := by omega
      rw [if_neg y, if_neg y2]
end MM3
end
section
section MM4
variable {M : kS} {a : kA} {N : Nat}
theorem eog_lt (hw : WF a) {r : Nat} (hr : r < sF a) : eog a r < sF a := by
  obtain ⟨w0, w1, w2, w3, w4, w5, w6, w7, wl, wp, wn, we⟩ := hw
  unfold eog
  by_cases y : r / a 5 + 1 < sF a / a 5
  · rw [if_pos y]
    have h1 := Nat.mul_le_mul_right (a 5) (Nat.le_of_lt y)
    have h2 := Nat.div_mul_le_self (sF a) (a 5)
    rw [Nat.succ_mul] at h1
    omega
  · rw [if_neg y]
    omega
def bw1 (a : kA) (m st f : Nat) : Nat := if m = 1 then (fw a f + st - 1) / st * st else fw a f
theorem bw1_le (hw : WF a) {m st f : Nat} (hst : 1 ≤ st ∧ st ≤ 50) (hf : f < sF a) : bw1 a m st f ≤ 148 := by
  have h1 := fw_le hw hf
  have h2 := Nat.div_mul_le_self (fw a f + st - 1) st
  unfold bw1
  split <;> omega
theorem m_bars1 (h : SM M a) (hw : WF a) {m st : Nat} (hm : m ≤ 3) (hst : 1 ≤ st ∧ st ≤ 50) (hF : M 0 9 = nI (sF a)) (hN : 3000 ≤ N) (kont : kS → Option kS) : ∃ M', lp_X9_bars_17 N (nI m) (nI st) kont N (nI 0) M = kont M' ∧ (∀ j, j ≠ 4 → j ≠ 5 → M' j = M j) ∧ ∀ f, f < sF a → M' 4 f = nI (fw a f) ∧ M' 5 f = nI (bw1 a m st f) := by
  obtain ⟨w0, w1, w2, w3, w4, w5, w6, w7, wl, wp, wn, we⟩ := id hw
  have hle := sF_le hw
  obtain ⟨C, n, ⟨hC, hf⟩, e⟩ := lpN (fun n i (x : kS) => lp_X9_bars_17 N (nI m) (nI st) kont n (nI i) x) (fun f C => (∀ j, j ≠ 4 → j ≠ 5 → C j = M j) ∧ ∀ g, g < f → C 4 g = nI (fw a g) ∧ C 5 g = nI (bw1 a m st g)) (sF a) (fun n f C hf hI => by
    obtain ⟨hC, h45⟩ := hI
    have hSC : SM C a := fun i hi => by rw [hC 1 (by decide) (by decide)]; exact h i hi
    have e09 : C 0 9 = nI (sF a) := by rw [hC 0 (by decide) (by decide)]; exact hF
    have hq := fq hf
    have hr := fr (a := a) f
    have bf := fw_le hw hf
    have b1 := (wn _ hq).1.2
    refine ⟨up1 (up1 C 4 (upd (C 4) f (nI (fw a f)))) 5 (upd (C 5) f (nI (bw1 a m st f))), ⟨fun j h4 h5 => by rw [up1_n h5, up1_n h4]; exact hC j h4 h5, fun g hg => ?_⟩, ?_⟩
    · rw [up1_n (by decide), up1_s, up1_s]
      by_cases z : g = f
      · subst z
        rw [pk_us, pk_us]
        exact ⟨rfl, rfl⟩
      · rw [pk_un z, pk_un z]
        exact h45 g (by omega)
    · show lp_X9_bars_17 N (nI m) (nI st) kont (n + 1) (nI f) C = lp_X9_bars_17 N (nI m) (nI st) kont n (nI (f + 1)) _
      have hrest : jn (up1 C 4 (upd (C 4) f (nI (fw a f)))) (fun C39 : kS => jn (fun (t40 : Int32) => gIn (nI f) 40 (jn (up1 C39 5 (upd (C39 5) ((nI f).toNatClampNeg) t40)) (fun C43 : kS => lp_X9_bars_17 N (nI m) (nI st) kont n (nI f + 1) C43))) (fun j109_40 => if (nI m) = 1 then gIn (nI f) 40 (gNz (nI st) (j109_40 (((((C39 4 (nI f).toNatClampNeg) + (nI st)) - 1) / (nI st)) * (nI st)))) else gIn (nI f) 40 (j109_40 (C39 4 (nI f).toNatClampNeg)))) = lp_X9_bars_17 N (nI m) (nI st) kont n (nI (f + 1)) (up1 (up1 C 4 (upd (C 4) f (nI (fw a f)))) 5 (upd (C 5) f (nI (bw1 a m st f)))) := by
        simp (disch := omega) only [jn, q_cl, up1_s, pk_us, q_gIn, i_1, q_eq]
        unfold bw1
        by_cases z : m = 1
        · simp (disch := omega) only [z, if_true, q_nz, nI_add, q_sub, q_div, pk_mul, up1_n]
        · simp (disch := omega) only [z, if_false, nI_add, up1_n]
      rw [lp_X9_bars_17]
      simp (disch := omega) only [e09, q_le, if_neg, m_each hSC, ob, q_nz, q_rem]
      simp (disch := omega) only [q_div, i_554, i_9, pk_mul, nI_add]
      rw [m_widthAt hSC wl (p := 554 + 9 * (f / (a 2 + 1))) (by omega) (wn _ hq).2 hN]
      simp (disch := omega) only [ob, q_gIn, q_cl, i_0]
      rw [jn]
      by_cases z : f % (a 2 + 1) = 0
      · have ef : wd a (554 + 9 * (f / (a 2 + 1))) = fw a f := by unfold fw; rw [if_pos z]; rfl
        rw [z, if_pos rfl, ef]
        refine Eq.trans ?_ hrest
        simp (disch := omega) only [q_gIn, q_cl, q_nz]
      · have c1 := we (f % (a 2 + 1) - 1) (by omega)
        have ef : wd a (554 + 9 * (f / (a 2 + 1))) + wd a (feA a f) = fw a f := by unfold fw; rw [if_neg z]; rfl
        have hz : ¬ nI (f % (a 2 + 1)) = nI 0 := fun e => z ((nI_eq (by omega) (by omega)).mp e)
        rw [if_neg hz, m_endingAt hSC w2 (by omega) z, ob, m_widthAt hSC wl (p := feA a f) (by have := c1.1.2; unfold feA; omega) c1.2 hN, ob, nI_add, ef]
        refine Eq.trans ?_ hrest
        simp (disch := omega) only [q_gIn, q_cl, q_nz]) (N := N) 0 M (Nat.zero_le _) (by omega) ⟨fun j _ _ => rfl, fun g hg => absurd hg (Nat.not_lt_zero g)⟩
  refine ⟨C, ?_, hC, hf⟩
  refine e.trans ?_
  show lp_X9_bars_17 N (nI m) (nI st) kont (n + 1) (nI (sF a)) C = kont C
  rw [lp_X9_bars_17]
  have e09 : C 0 9 = nI (sF a) := by rw [hC 0 (by decide) (by decide)]; exact hF
  simp (disch := omega) only [e09, q_le, Nat.le_refl, if_true]
def ttl (a : kA) (m k : Nat) : Nat := if m = 2 then eog a k else sF a - 1
theorem m_bars2 (h : SM M a) (hw : WF a) {m : Nat} (hm : m ≤ 3) (hF : M 0 9 = nI (sF a)) (h4 : ∀ f, f < sF a → M 4 f = nI (fw a f)) {S : Nat → Nat} (hS : Srt a S (sF a)) (h6 : ∀ i, i < sF a → M 6 i = nI (S i)) (hN : 3000 ≤ N) (kont : kS → Option kS) : ∃ M', lp_X9_bars_127 N (nI m) kont N (nI 0) M = kont M' ∧ (∀ j, j ≠ 5 → M' j = M j) ∧ ∀ f, f < sF a → M' 5 f = nI (fw a (srt a (ttl a m (rk a f)))) := by
  obtain ⟨w0, w1, w2, w3, w4, w5, w6, w7, wl, wp, wn, we⟩ := id hw
  have hle := sF_le hw
  have ht : ∀ k, k < sF a → ttl a m k < sF a := fun k hk => by
    unfold ttl
    have := eog_lt hw hk
    split <;> omega
  obtain ⟨C, n, ⟨hC, hf⟩, e⟩ := lpN (fun n i (x : kS) => lp_X9_bars_127 N (nI m) kont n (nI i) x) (fun k C => (∀ j, j ≠ 5 → C j = M j) ∧ ∀ i, i < k → C 5 (S i) = nI (fw a (S (ttl a m i)))) (sF a) (fun n k C hk hI => by
    obtain ⟨hC, h5⟩ := hI
    have hSC : SM C a := fun i hi => by rw [hC 1 (by decide)]; exact h i hi
    have e09 : C 0 9 = nI (sF a) := by rw [hC 0 (by decide)]; exact hF
    have e4 : C 4 = M 4 := hC 4 (by decide)
    have e6 : C 6 = M 6 := hC 6 (by decide)
    have t1 := ht k hk
    have s1 := hS.1 k hk
    have s2 := hS.1 _ t1
    refine ⟨up1 C 5 (upd (C 5) (S k) (nI (fw a (S (ttl a m k))))), ⟨fun j hj => by rw [up1_n hj]; exact hC j hj, fun i hi => ?_⟩, ?_⟩
    · rw [up1_s]
      by_cases z : i = k
      · subst z
        rw [pk_us]
      · rw [pk_un (hS.ne i k (by omega) hk)]
        exact h5 i (by omega)
    · show lp_X9_bars_127 N (nI m) kont (n + 1) (nI k) C = lp_X9_bars_127 N (nI m) kont n (nI (k + 1)) _
      have hrest : gIn (nI (ttl a m k)) 40 (gIn (C 6 (nI (ttl a m k)).toNatClampNeg) 40 (gIn (C 6 (nI k).toNatClampNeg) 40 (jn (up1 C 5 (upd (C 5) ((C 6 (nI k).toNatClampNeg).toNatClampNeg) (C 4 (C 6 (nI (ttl a m k)).toNatClampNeg).toNatClampNeg))) (fun C21 : kS => lp_X9_bars_127 N (nI m) kont n (nI k + 1) C21)))) = lp_X9_bars_127 N (nI m) kont n (nI (k + 1)) (up1 C 5 (upd (C 5) (S k) (nI (fw a (S (ttl a m k)))))) := by
        simp (disch := omega) only [jn, q_cl, e6, h6 k, h6 (ttl a m k), e4, h4 (S (ttl a m k)), q_gIn, i_1, nI_add]
      rw [lp_X9_bars_127]
      simp (disch := omega) only [e09, q_le, if_neg, q_gIn, jn, i_1, i_2, q_eq, q_sub, m_endOfGroup hSC hw e09 hk]
      refine Eq.trans ?_ hrest
      unfold ttl
      by_cases z : m = 2
      · rw [if_pos z, if_pos z]
        simp (disch := omega) only [ob, jn, i_1]
      · rw [if_neg z, if_neg z]
        simp (disch := omega) only [jn, i_1, q_gIn]) (N := N) 0 M (Nat.zero_le _) (by omega) ⟨fun j _ => rfl, fun i hi => absurd hi (Nat.not_lt_zero i)⟩
  refine ⟨C, ?_, hC, fun f hff => ?_⟩
  · refine e.trans ?_
    show lp_X9_bars_127 N (nI m) kont (n + 1) (nI (sF a)) C = kont C
    rw [lp_X9_bars_127]
    have e09 : C 0 9 = nI (sF a) := by rw [hC 0 (by decide)]; exact hF
    simp (disch := omega) only [e09, q_le, Nat.le_refl, if_true]
  · have hr := rk_lt hff
    have e1 := hS.srt hr
    rw [srt_uniq hff rfl] at e1
    have h1 := hf (rk a f) hr
    rw [← e1] at h1
    rw [h1, hS.srt (ht _ hr)]
theorem m_bars (h : SM M a) (hw : WF a) {m st : Nat} (hm : m ≤ 3) (hst : 1 ≤ st ∧ st ≤ 50) (hN : 3000 ≤ N) : ∃ M', f_X9_bars N M (nI m) (nI st) = some M' ∧ AgM M M' ∧ M' 0 9 = nI (sF a) ∧ (∀ f, f < sF a → M' 4 f = nI (fw a f)) ∧ ∀ f, f < sF a → M' 5 f = nI (bw a m st f) := by
  have hle := sF_le hw
  unfold f_X9_bars
  simp (disch := omega) only [i_1, i_0, q_gIn, m_each h, ob, q_cl, h _, pk_mul]
  simp only [jn]
  have hS4 : SM (up1 M 0 (upd (M 0) 9 (nI (a 1 * (a 2 + 1))))) a := fun i hi => by rw [up1_n (by decide)]; exact h i hi
  have hF4 : (up1 M 0 (upd (M 0) 9 (nI (a 1 * (a 2 + 1))))) 0 9 = nI (sF a) := by rw [up1_s, pk_us]; rfl
  have hA4 : AgM M (up1 M 0 (upd (M 0) 9 (nI (a 1 * (a 2 + 1))))) := ⟨up1_n (by decide), up1_n (by decide), up1_n (by decide), by rw [up1_s, pk_un (by decide)], by rw [up1_s, pk_un (by decide)], by rw [up1_s, pk_un (by decide)]⟩
  obtain ⟨M1, e1, hC1, h45⟩ := m_bars1 hS4 hw hm hst hF4 hN (fun C5 => if nI m ≤ nI 1 then some C5 else (f_X9_sorts N C5).bind fun C9 => lp_X9_bars_127 N (nI m) (fun C10 => some C10) N (nI 0) C9)
  rw [e1]
  have hA1 : AgM M M1 := hA4.tr ⟨hC1 1 (by decide) (by decide), hC1 2 (by decide) (by decide), hC1 3 (by decide) (by decide), by rw [hC1 0 (by decide) (by decide)], by rw [hC1 0 (by decide) (by decide)], by rw [hC1 0 (by decide) (by decide)]⟩
  have hF1 : M1 0 9 = nI (sF a) := by rw [hC1 0 (by decide) (by decide)]; exact hF4
  by_cases z : m ≤ 1
  · refine ⟨M1, ?_, hA1, hF1, fun f hf => (h45 f hf).1, fun f hf => ?_⟩
    · show (if nI m ≤ nI 1 then some M1 else _) = some M1
      simp (disch := omega) only [q_le, z, if_true]
    · rw [(h45 f hf).2]
      unfold bw1 bw
      by_cases y : m = 1
      · rw [if_pos y, if_pos y]
      · rw [if_neg y, if_neg y, if_neg (by omega), if_neg (by omega)]
  · have hS1 : SM M1 a := hA1.sm h
    obtain ⟨M2, e2, hC2, S, hS, h6⟩ := m_sorts (N := N) hF1 hle (fun f hf => (h45 f hf).1) (fun f hf => by have := fw_le hw hf; omega) hN
    have hA2 : AgM M1 M2 := ⟨hC2 1 (by decide), hC2 2 (by decide), hC2 3 (by decide), by rw [hC2 0 (by decide)], by rw [hC2 0 (by decide)], by rw [hC2 0 (by decide)]⟩
    have hF2 : M2 0 9 = nI (sF a) := by rw [hC2 0 (by decide)]; exact hF1
    obtain ⟨M3, e3, hC3, h5⟩ := m_bars2 (M := M2) (hA2.sm hS1) hw hm hF2 (fun f hf => by rw [hC2 4 (by decide)]; exact (h45 f hf).1) hS h6 hN (fun C10 => some C10)
    have hA3 : AgM M2 M3 := ⟨hC3 1 (by decide), hC3 2 (by decide), hC3 3 (by decide), by rw [hC3 0 (by decide)], by rw [hC3 0 (by decide)], by rw [hC3 0 (by decide)]⟩
    refine ⟨M3, ?_, (hA1.tr hA2).tr hA3, by rw [hC3 0 (by decide)]; exact hF2, fun f hf => by rw [hC3 4 (by decide), hC2 4 (by decide)]; exact (h45 f hf).1, fun f hf => ?_⟩
    · show (if nI m ≤ nI 1 then some M1 else (f_X9_sorts N M1).bind fun C9 => lp_X9_bars_127 N (nI m) (fun C10 => some C10) N (nI 0) C9) = some M3
      simp (disch := omega) only [q_le, z, if_false, e2, ob, e3]
    · rw [h5 f hf]
      have z1 : ¬ m = 1 := by omega
      unfold bw ttl
      by_cases y : m = 2
      · simp only [z1, y, if_false, if_true]
        simp
      · have y3 : m = 3 := by omega
        simp only [y3]
        simp
end MM4
end
section
/-! ===== the reference's lines ===== -/
theorem bw_le {a : kA} (hw : WF a) {m st f : Nat} (hst : 1 ≤ st ∧ st ≤ 50) (hf : f < sF a) : bw a m st f ≤ 148 := by
  have h1 := fw_le hw hf
  have h2 := Nat.div_mul_le_self (fw a f + st - 1) st
  have h3 := (srt_ok (a := a) (eog_lt hw (rk_lt hf))).1
  have h4 := (srt_ok (a := a) (show sF a - 1 < sF a by omega)).1
  have h5 := fw_le hw h3
  have h6 := fw_le hw h4
  unfold bw
  split
  · omega
  · split
    · omega
    · split <;> omega
theorem wdw_le {a : kA} (hw : WF a) {w : Nat} (h : w < a 0) : wd a (34 + 13 * w) ≤ 108 := by
  obtain ⟨w0, w1, w2, w3, w4, w5, w6, w7, wl, wp, wn, we⟩ := hw
  have h1 := (wp w h).1.2
  have h2 := wd_le wl (wp w h).2
  omega
theorem sh_le {a : kA} (hw : WF a) {m st w : Nat} (hst : 1 ≤ st ∧ st ≤ 50) (h : w < a 0) : sh a m st w ≤ 148 := by
  unfold sh
  split
  · rename_i q
    exact bw_le hw hst q
  · have := wdw_le hw h
    omega
theorem ly_b {s : Nat → Nat} {gp lw n : Nat} (hs : ∀ w, w < n → s w ≤ 148) (hg : gp ≤ 9) (hl : lw ≤ 200) : ∀ w, w ≤ n → (ly s gp lw w).1 ≤ w ∧ (ly s gp lw w).2 ≤ 400
  | 0, _ => ⟨Nat.le_refl 0, Nat.zero_le _⟩
  | w + 1, h => by
    have h1 := ly_b hs hg hl w (by omega)
    have h2 := hs w (by omega)
    rw [ly]
    split
    · simp; omega
    · rename_i q
      simp; omega
theorem ly_p {s : Nat → Nat} {gp lw : Nat} : ∀ w, 1 ≤ (ly s gp lw (w + 1)).1
  | 0 => by rw [ly]; simp
  | w + 1 => by
    have h1 := ly_p (s := s) (gp := gp) (lw := lw) w
    rw [ly]
    split
    · simp
    · exact h1
def foV (a : kA) (w : Nat) : Int32 := if fo a w < sF a then nI (fo a w) else -1
theorem q_an (k : Nat) : nI k + -nI 1 = nI k - nI 1 := (Int32.sub_eq_add_neg _ _).symm
theorem q_neg1 : (nI 0 - nI 1 < nI 0) = True := by simp; decide
theorem i_m1 : (-1 : Int32) = -nI 1 := by decide
theorem jn_eq {α β : Type} (k : α) (f : α → β) : jn k f = f k := rfl
theorem q_le1 : (nI 0 ≤ (-1 : Int32)) = False := by simp; decide
section MM5
variable {M : kS} {a : kA} {N : Nat}
theorem m_lays_in (hw : WF a) {w : Nat} (hwd : w < a 0) (hN : 3000 ≤ N) : ∀ (k n : Nat) (C : kS), k < n → k ≤ sF a → SM C a → ((C 7 w = -1 ∧ ∀ f, k ≤ f → f < sF a → isF a w f = false) ∨ ∃ f, k ≤ f ∧ f < sF a ∧ C 7 w = nI f ∧ isF a w f = true ∧ ∀ g, k ≤ g → g < f → isF a w g = false) → ∃ C', (∀ j, j ≠ 7 → C' j = C j) ∧ (∀ i, i ≠ w → C' 7 i = C 7 i) ∧ C' 7 w = foV a w ∧ ∀ kont : kS → Option kS, lp_X9_lays_43 N (nI w) kont n (nI k - nI 1) C = kont C' := by
  obtain ⟨w0, w1, w2, w3, w4, w5, w6, w7, wl, wp, wn, we⟩ := id hw
  have hle := sF_le hw
  intro k
  induction k with
  | zero =>
    intro n C hn hk hC hI
    obtain ⟨n, rfl⟩ : ∃ n', n = n' + 1 := ⟨n - 1, by omega⟩
    refine ⟨C, fun _ _ => rfl, fun _ _ => rfl, ?_, fun kont => ?_⟩
    · unfold foV fo
      rcases hI with ⟨h1, h2⟩ | ⟨f, _, h1, h2, h3, h4⟩
      · rw [fst_none (fun j hj => h2 j (Nat.zero_le _) hj), if_neg (Nat.lt_irrefl _)]
        exact h1
      · rw [fst_uniq h1 h3 (fun j hj => h4 j (Nat.zero_le _) hj), if_pos h1]
        exact h2
    · rw [lp_X9_lays_43]
      simp (disch := omega) only [i_0, q_neg1, if_true]
  | succ k ih =>
    intro n C hn hk hC hI
    obtain ⟨n, rfl⟩ : ∃ n', n = n' + 1 := ⟨n - 1, by omega⟩
    by_cases z : isF a w k = true
    · obtain ⟨C', b1, b2, b3, e⟩ := ih n (up1 C 7 (upd (C 7) w (nI k))) (by omega) (by omega) (fun i hi => by rw [up1_n (by decide)]; exact hC i hi) (Or.inr ⟨k, Nat.le_refl _, by omega, by rw [up1_s, pk_us], z, fun g h1 h2 => by omega⟩)
      refine ⟨C', fun j hj => by rw [b1 j hj, up1_n hj], fun i hi => by rw [b2 i hi, up1_s, pk_un hi], b3, fun kont => ?_⟩
      rw [← e kont, lp_X9_lays_43]
      simp (disch := omega) only [q_sub, Nat.add_sub_cancel, i_0, q_lt, Nat.not_lt_zero, if_false, m_isForm hC hw hwd (f := k) (by omega) hN, z, if_true, ob, q_nT, jn, q_gIn, q_cl, i_1, q_an]
    · have z2 : isF a w k = false := by simpa using z
      obtain ⟨C', b1, b2, b3, e⟩ := ih n (up1 C 7 (upd (C 7) w (C 7 w))) (by omega) (by omega) (fun i hi => by rw [up1_n (by decide)]; exact hC i hi) (by
        rw [up1_s, pk_us]
        rcases hI with ⟨h1, h2⟩ | ⟨f, h0, h1, h2, h3, h4⟩
        · refine Or.inl ⟨h1, fun f h5 h6 => ?_⟩
          rcases Nat.lt_or_ge k f with q | q
          · exact h2 f q h6
          · have e : f = k := by omega
            rw [e]
            exact z2
        · refine Or.inr ⟨f, by omega, h1, h2, h3, fun g h5 h6 => ?_⟩
          rcases Nat.lt_or_ge k g with q | q
          · exact h4 g q h6
          · have e : g = k := by omega
            rw [e]
            exact z2)
      refine ⟨C', fun j hj => by rw [b1 j hj, up1_n hj], fun i hi => by rw [b2 i hi, up1_s, pk_un hi], b3, fun kont => ?_⟩
      rw [← e kont, lp_X9_lays_43]
      simp (disch := omega) only [q_sub, Nat.add_sub_cancel, i_0, q_lt, Nat.not_lt_zero, if_false, m_isForm hC hw hwd (f := k) (by omega) hN, z2, if_true, ob, jn, q_gIn, q_cl, i_1, q_an, Bool.false_eq_true]
/-- what the reference knows of its page behind 'lays' -/
def LD (M : kS) (a : kA) (m st : Nat) : Prop := M 0 9 = nI (sF a) ∧ (∀ f, f < sF a → M 4 f = nI (fw a f)) ∧ (∀ f, f < sF a → M 5 f = nI (bw a m st f)) ∧ M 0 14 = nI (ly (sh a m st) (a 6) (a 7) (a 0)).1 ∧ ∀ w, w < a 0 → M 7 w = foV a w ∧ M 8 w = nI (sh a m st w) ∧ M 9 w = nI (lno (sh a m st) (a 6) (a 7) w) ∧ M 10 w = nI (plc (sh a m st) (a 6) (a 7) w)
theorem m_lays (h : SM M a) (hw : WF a) {m st : Nat} (hm : m ≤ 3) (hst : 1 ≤ st ∧ st ≤ 50) (hN : 3000 ≤ N) : ∃ M', f_X9_lays N M (nI m) (nI st) = some M' ∧ AgM M M' ∧ LD M' a m st := by
  obtain ⟨w0, w1, w2, w3, w4, w5, w6, w7, wl, wp, wn, we⟩ := id hw
  have hle := sF_le hw
  obtain ⟨M2, eb, hA2, hF2, h42, h52⟩ := m_bars h hw hm hst hN
  have hS2 := hA2.sm h
  have hsh : ∀ w, w < a 0 → sh a m st w ≤ 148 := fun w hwd => sh_le hw hst hwd
  have hly := ly_b (s := sh a m st) (gp := a 6) (lw := a 7) hsh (by omega) (by omega)
  unfold f_X9_lays
  rw [eb, ob]
  simp only [jn, i_0]
  obtain ⟨⟨x, C⟩, n, ⟨hC, hC0, h14, hx, hwv⟩, e⟩ := lpN (fun n i (y : Int32 × kS) => lp_X9_lays_16 N (fun C4 => some C4) n y.1 (nI i) y.2) (fun w y => (∀ j, j ≠ 0 → j ≠ 7 → j ≠ 8 → j ≠ 9 → j ≠ 10 → y.2 j = M2 j) ∧ (∀ j, j ≠ 14 → y.2 0 j = M2 0 j) ∧ y.2 0 14 = nI (ly (sh a m st) (a 6) (a 7) w).1 ∧ y.1 = nI (ly (sh a m st) (a 6) (a 7) w).2 ∧ ∀ v, v < w → y.2 7 v = foV a v ∧ y.2 8 v = nI (sh a m st v) ∧ y.2 9 v = nI (lno (sh a m st) (a 6) (a 7) v) ∧ y.2 10 v = nI (plc (sh a m st) (a 6) (a 7) v)) (a 0) (fun n w y hwd hI => by
    obtain ⟨x, C⟩ := y
    obtain ⟨hC, hC0, h14, hx, hwv⟩ := hI
    simp only at hC hC0 h14 hx hwv
    subst hx
    have hSC : SM C a := fun i hi => by rw [hC 1 (by decide) (by decide) (by decide) (by decide) (by decide)]; exact hS2 i hi
    have e09 : C 0 9 = nI (sF a) := by rw [hC0 9 (by decide)]; exact hF2
    have e5 : C 5 = M2 5 := hC 5 (by decide) (by decide) (by decide) (by decide) (by decide)
    have l1 := hly w (by omega)
    have l2 := hly (w + 1) (by omega)
    have s1 := hsh w hwd
    obtain ⟨C1, b1, b2, b3, e1⟩ := m_lays_in (N := N) hw hwd hN (sF a) N (up1 C 7 (upd (C 7) w (-1))) (by omega) (Nat.le_refl _) (fun i hi => by rw [up1_n (by decide)]; exact hSC i hi) (Or.inl ⟨by rw [up1_s, pk_us], fun f h1 h2 => by omega⟩)
    have hS1 : SM C1 a := fun i hi => by rw [b1 1 (by decide), up1_n (by decide)]; exact hSC i hi
    have g0 : C1 0 = C 0 := by rw [b1 0 (by decide), up1_n (by decide)]
    have g5 : C1 5 = M2 5 := by rw [b1 5 (by decide), up1_n (by decide)]; exact e5
    have hp0 := ly_p (s := sh a m st) (gp := a 6) (lw := a 7) w
    have g014 : C1 0 14 = nI (ly (sh a m st) (a 6) (a 7) w).1 := by rw [g0]; exact h14
    have e1' : ∀ kont : kS → Option kS, lp_X9_lays_43 N (nI w) kont N (nI (sF a) - 1) (up1 C 7 (upd (C 7) w (-1))) = kont C1 := fun kont => by simpa only [i_1] using e1 kont
    have hup9 : (up1 C 7 (upd (C 7) w (-1))) 0 9 = nI (sF a) := by rw [up1_n (by decide)]; exact e09
    -- the word's shown width comes, whatever it is
    have hT : ∀ T : Int32 → Option kS, jn T (fun j127 => if nI 0 ≤ C1 7 w then gIn (C1 7 w) 40 (j127 (C1 5 (C1 7 w).toNatClampNeg)) else (f_X9_widthAt N C1 (34 + 13 * nI w)).bind (fun r40 => j127 r40)) = T (nI (sh a m st w)) := by
      intro T
      rw [jn_eq, b3]
      unfold foV sh
      by_cases z : fo a w < sF a
      · simp (disch := omega) only [z, if_true, q_le, Nat.zero_le, q_gIn, q_cl, g5, h52 (fo a w)]
      · simp (disch := omega) only [z, if_false, q_le1, i_34, i_13, pk_mul, nI_add]
        rw [m_widthAt hS1 wl (p := 34 + 13 * w) (by have := (wp w hwd).1.2; omega) (wp w hwd).2 hN, ob]
    by_cases z : w = 0 ∨ a 7 < (ly (sh a m st) (a 6) (a 7) w).2 + sh a m st w
    · have d1 : ly (sh a m st) (a 6) (a 7) (w + 1) = ((ly (sh a m st) (a 6) (a 7) w).1 + 1, sh a m st w + a 6) := by rw [ly, if_pos z]
      have d2 : plc (sh a m st) (a 6) (a 7) w = 0 := by unfold plc; rw [if_pos z]
      have d3 : lno (sh a m st) (a 6) (a 7) w = (ly (sh a m st) (a 6) (a 7) w).1 := by unfold lno; rw [d1]; rfl
      rw [d1] at l2 hp0
      refine ⟨(nI (sh a m st w + a 6), up1 (up1 (up1 (up1 C1 8 (upd (C1 8) w (nI (sh a m st w)))) 0 (upd (C1 0) 14 (nI ((ly (sh a m st) (a 6) (a 7) w).1 + 1)))) 9 (upd (C1 9) w (nI (ly (sh a m st) (a 6) (a 7) w).1))) 10 (upd (C1 10) w (nI 0))), ⟨fun j h0 h7 h8 h9 h10 => ?_, fun j hj => ?_, ?_, ?_, fun v hv => ?_⟩, ?_⟩
      · show up1 _ 10 _ j = M2 j
        rw [up1_n h10, up1_n h9, up1_n h0, up1_n h8, b1 j h7, up1_n h7]
        exact hC j h0 h7 h8 h9 h10
      · simp only []
        rw [up1_n (show 0 ≠ 10 by decide), up1_n (show 0 ≠ 9 by decide), up1_s, pk_un hj, g0]
        exact hC0 j hj
      · simp only []
        rw [up1_n (show 0 ≠ 10 by decide), up1_n (show 0 ≠ 9 by decide), up1_s, pk_us, d1]
      · show nI (sh a m st w + a 6) = _
        rw [d1]
      · simp only []
        rw [up1_s, up1_n (show 7 ≠ 10 by decide), up1_n (show 7 ≠ 9 by decide), up1_n (show 7 ≠ 0 by decide), up1_n (show 7 ≠ 8 by decide), up1_n (show 8 ≠ 10 by decide), up1_n (show 8 ≠ 9 by decide), up1_n (show 8 ≠ 0 by decide), up1_s, up1_n (show 9 ≠ 10 by decide), up1_s]
        by_cases y : v = w
        · subst y
          rw [pk_us, pk_us, pk_us, b3, d2, d3]
          exact ⟨rfl, rfl, rfl, rfl⟩
        · rw [pk_un y, pk_un y, pk_un y, b2 v y, up1_s, pk_un y, b1 8 (by decide), b1 9 (by decide), b1 10 (by decide), up1_n (by decide), up1_n (by decide), up1_n (by decide)]
          exact hwv v (by omega)
      · show lp_X9_lays_16 N (fun C4 => some C4) (n + 1) (nI (ly (sh a m st) (a 6) (a 7) w).2) (nI w) C = lp_X9_lays_16 N (fun C4 => some C4) n (nI (sh a m st w + a 6)) (nI (w + 1)) _
        rw [lp_X9_lays_16]
        simp (disch := omega) only [i_0, q_gIn, q_cl, hSC _, q_le, if_neg]
        rw [jn_eq, jn_eq, hup9, e1', hT]
        have hc : (if nI w = nI 0 then True else ¬ (ly (sh a m st) (a 6) (a 7) w).2 + sh a m st w ≤ a 7) := by
          by_cases y : w = 0
          · rw [if_pos (by rw [y])]
            trivial
          · rw [if_neg (fun q => y ((nI_eq (by omega) (by omega)).mp q))]
            omega
        by_cases y : w = 0
        · simp (disch := omega) only [jn, up1_s, up1_n, pk_us, i_7, i_6, i_1, q_gIn, q_cl, q_eq, y, if_true, g014, nI_add, q_sub, Nat.add_sub_cancel, Nat.zero_add, hS1 _]
        · have y2 : ¬ (ly (sh a m st) (a 6) (a 7) w).2 + sh a m st w ≤ a 7 := by omega
          simp (disch := omega) only [jn, up1_s, up1_n, pk_us, i_7, i_6, i_1, q_gIn, q_cl, q_eq, y, if_false, g014, nI_add, q_sub, Nat.add_sub_cancel, Nat.zero_add, hS1 _, q_le, y2]
    · have d1 : ly (sh a m st) (a 6) (a 7) (w + 1) = ((ly (sh a m st) (a 6) (a 7) w).1, (ly (sh a m st) (a 6) (a 7) w).2 + (sh a m st w + a 6)) := by rw [ly, if_neg z]
      have d2 : plc (sh a m st) (a 6) (a 7) w = (ly (sh a m st) (a 6) (a 7) w).2 := by unfold plc; rw [if_neg z]
      have d3 : lno (sh a m st) (a 6) (a 7) w = (ly (sh a m st) (a 6) (a 7) w).1 - 1 := by unfold lno; rw [d1]
      rw [d1] at l2 hp0
      simp only at l2 hp0
      refine ⟨(nI ((ly (sh a m st) (a 6) (a 7) w).2 + (sh a m st w + a 6)), up1 (up1 (up1 C1 8 (upd (C1 8) w (nI (sh a m st w)))) 9 (upd (C1 9) w (nI ((ly (sh a m st) (a 6) (a 7) w).1 - 1)))) 10 (upd (C1 10) w (nI (ly (sh a m st) (a 6) (a 7) w).2))), ⟨fun j h0 h7 h8 h9 h10 => ?_, fun j hj => ?_, ?_, ?_, fun v hv => ?_⟩, ?_⟩
      · show up1 _ 10 _ j = M2 j
        rw [up1_n h10, up1_n h9, up1_n h8, b1 j h7, up1_n h7]
        exact hC j h0 h7 h8 h9 h10
      · simp only []
        rw [up1_n (by decide), up1_n (by decide), up1_n (by decide), g0]
        exact hC0 j hj
      · simp only []
        rw [up1_n (by decide), up1_n (by decide), up1_n (by decide), g014, d1]
      · show nI _ = _
        rw [d1]
      · simp only []
        rw [up1_s, up1_n (show 7 ≠ 10 by decide), up1_n (show 7 ≠ 9 by decide), up1_n (show 7 ≠ 8 by decide), up1_n (show 8 ≠ 10 by decide), up1_n (show 8 ≠ 9 by decide), up1_s, up1_n (show 9 ≠ 10 by decide), up1_s]
        by_cases y : v = w
        · subst y
          rw [pk_us, pk_us, pk_us, b3, d2, d3]
          exact ⟨rfl, rfl, rfl, rfl⟩
        · rw [pk_un y, pk_un y, pk_un y, b2 v y, up1_s, pk_un y, b1 8 (by decide), b1 9 (by decide), b1 10 (by decide), up1_n (by decide), up1_n (by decide), up1_n (by decide)]
          exact hwv v (by omega)
      · show lp_X9_lays_16 N (fun C4 => some C4) (n + 1) (nI (ly (sh a m st) (a 6) (a 7) w).2) (nI w) C = lp_X9_lays_16 N (fun C4 => some C4) n (nI ((ly (sh a m st) (a 6) (a 7) w).2 + (sh a m st w + a 6))) (nI (w + 1)) _
        rw [lp_X9_lays_16]
        simp (disch := omega) only [i_0, q_gIn, q_cl, hSC _, q_le, if_neg]
        rw [jn_eq, jn_eq, hup9, e1', hT]
        have y : ¬ w = 0 := fun q => z (Or.inl q)
        have y2 : (ly (sh a m st) (a 6) (a 7) w).2 + sh a m st w ≤ a 7 := by omega
        simp (disch := omega) only [jn, up1_s, up1_n, pk_us, i_7, i_6, i_1, q_gIn, q_cl, q_eq, y, if_false, if_true, g014, nI_add, q_sub, hS1 _, q_le, y2]) (N := N) 0 (nI 0, up1 M2 0 (upd (M2 0) 14 (nI 0))) (Nat.zero_le _) (by omega) ⟨fun j h0 _ _ _ _ => up1_n h0, fun j hj => by show up1 M2 0 (upd (M2 0) 14 (nI 0)) 0 j = M2 0 j; rw [up1_s, pk_un hj], by show up1 M2 0 (upd (M2 0) 14 (nI 0)) 0 14 = _; rw [up1_s, pk_us]; rfl, rfl, fun v hv => absurd hv (Nat.not_lt_zero v)⟩
  simp only at hC hC0 h14 hx hwv
  refine ⟨C, ?_, hA2.tr ⟨hC 1 (by decide) (by decide) (by decide) (by decide) (by decide), hC 2 (by decide) (by decide) (by decide) (by decide) (by decide), hC 3 (by decide) (by decide) (by decide) (by decide) (by decide), hC0 2 (by decide), hC0 4 (by decide), hC0 5 (by decide)⟩, by rw [hC0 9 (by decide)]; exact hF2, fun f hf => by rw [hC 4 (by decide) (by decide) (by decide) (by decide) (by decide)]; exact h42 f hf, fun f hf => by rw [hC 5 (by decide) (by decide) (by decide) (by decide) (by decide)]; exact h52 f hf, h14, hwv⟩
  refine e.trans ?_
  show lp_X9_lays_16 N (fun C4 => some C4) (n + 1) x (nI (a 0)) C = some C
  rw [lp_X9_lays_16]
  have hSC : SM C a := fun i hi => by rw [hC 1 (by decide) (by decide) (by decide) (by decide) (by decide)]; exact hS2 i hi
  simp (disch := omega) only [i_0, q_gIn, q_cl, hSC _, q_le, Nat.le_refl, if_true]
end MM5
end
section
/-! ===== masks ===== -/
theorem nI_or {x y : Nat} (hx : x < 256) (hy : y < 256) : nI x ||| nI y = nI (x ||| y) := by
  unfold nI
  apply Int32.toBitVec_inj.mp
  rw [Int32.toBitVec_or, Int32.toBitVec_ofNat', Int32.toBitVec_ofNat', Int32.toBitVec_ofNat', BitVec.ofNat_or]
theorem or_256 {x y : Nat} (hx : x < 256) (hy : y < 256) : x ||| y < 256 := Nat.or_lt_two_pow (n := 8) hx hy
theorem nI_bit : ∀ k, k < 8 → (1 : Int32) <<< (nI k &&& 31) = nI (2 ^ k) := by decide +kernel
theorem bit_256 {k : Nat} (h : k < 8) : 2 ^ k < 256 := Nat.pow_lt_pow_right (by decide) h
theorem pop_7 : ∀ x, x < 256 → (((((((((0 : Int32) + ((nI x >>> ((0 : Int32) &&& 31)) &&& 1)) + ((nI x >>> (((0 : Int32) + 1) &&& 31)) &&& 1)) + ((nI x >>> ((((0 : Int32) + 1) + 1) &&& 31)) &&& 1)) + ((nI x >>> (((((0 : Int32) + 1) + 1) + 1) &&& 31)) &&& 1)) + ((nI x >>> ((((((0 : Int32) + 1) + 1) + 1) + 1) &&& 31)) &&& 1)) + ((nI x >>> (((((((0 : Int32) + 1) + 1) + 1) + 1) + 1) &&& 31)) &&& 1)) + ((nI x >>> ((((((((0 : Int32) + 1) + 1) + 1) + 1) + 1) + 1) &&& 31)) &&& 1)) + ((nI x >>> (((((((((0 : Int32) + 1) + 1) + 1) + 1) + 1) + 1) + 1) &&& 31)) &&& 1)) = nI (pop x) := by decide +kernel
theorem m_bits {x N : Nat} (hx : x < 256) (hN : 3000 ≤ N) : f_X9_bits N (nI x) = some (nI (pop x)) := by
  obtain ⟨n, rfl⟩ : ∃ n, N = n + 9 := ⟨N - 9, by omega⟩
  unfold f_X9_bits
  rw [jn, lp_X9_bits_4, if_neg (by decide), lp_X9_bits_4, if_neg (by decide), lp_X9_bits_4, if_neg (by decide), lp_X9_bits_4, if_neg (by decide), lp_X9_bits_4, if_neg (by decide), lp_X9_bits_4, if_neg (by decide), lp_X9_bits_4, if_neg (by decide), lp_X9_bits_4, if_neg (by decide), lp_X9_bits_4, if_pos (by decide), pop_7 x hx]
theorem pop_le (x : Nat) : pop x ≤ 8 := by
  unfold pop
  omega
theorem nu_256 {b : Nat → Nat} {e v : Nat} : ∀ {n : Nat}, (∀ f, f < n → f / e < 8) → nu b e v n < 256
  | 0, _ => Nat.succ_pos _
  | n + 1, h => by
    have ih := nu_256 (b := b) (e := e) (v := v) (n := n) (fun f hf => h f (by omega))
    rw [nu]
    split
    · exact or_256 ih (bit_256 (h n (by omega)))
    · exact ih
theorem x_bits {x N : Nat} (hx : x < 256) : f_J6_bitCount_0f7a4 N (nI x) = some (nI (pop x)) := by
  have h : ∀ x, x < 256 → f_J6_bitCount_0f7a4 0 (nI x) = some (nI (pop x)) := by decide +kernel
  exact h x hx
end
section
/-! ===== the reference's sums over its page ===== -/
def hid (a : kA) (w : Nat) : Bool := decide (fo a w < sF a)
def nuM (a : kA) (m st v : Nat) : Nat := nu (bw a m st) (a 2 + 1) v (sF a)
def sumN (f : Nat → Nat) : Nat → Nat
  | 0 => 0
  | n + 1 => sumN f n + f n
def frs (a : kA) (m st w : Nat) : Bool := hid a w && allB (fun k => !(hid a k && decide (sh a m st k = sh a m st w))) w
def tm (a : kA) (m st what w : Nat) : Nat := if what = 12 then sh a m st w else if hid a w = true then (if what = 1 then 1 else if what = 11 then (if pop (nuM a m st (sh a m st w)) = 1 then 1 else 0) else if what = 13 then sh a m st w - fw a (fo a w) else if frs a m st w = true then 1 else 0) else 0
def few (a : kA) (m st : Nat) : Nat → Nat
  | 0 => 8
  | w + 1 => if few a m st w ≤ (if hid a w = true then pop (nuM a m st (sh a m st w)) else 8) then few a m st w else (if hid a w = true then pop (nuM a m st (sh a m st w)) else 8)
theorem few_le (a : kA) (m st : Nat) : ∀ w, few a m st w ≤ 8
  | 0 => Nat.le_refl 8
  | w + 1 => by
    have h := few_le a m st w
    rw [few]
    by_cases z : few a m st w ≤ (if hid a w = true then pop (nuM a m st (sh a m st w)) else 8)
    · rw [if_pos z]
      exact h
    · rw [if_neg z]
      omega
theorem lf_rk {a : kA} {x y : Nat} (hy : y < sF a) (h : rk a x ≤ rk a y) : fw a x ≤ fw a y := by
  rcases Nat.lt_or_ge (fw a y) (fw a x) with q | q
  · have h2 := rk_mono (a := a) (x := y) (y := x) hy (Or.inl q)
    omega
  · exact q
theorem eog_ge {a : kA} (hw : WF a) {r : Nat} (hr : r < sF a) : r ≤ eog a r := by
  obtain ⟨w0, w1, w2, w3, w4, w5, w6, w7, wl, wp, wn, we⟩ := hw
  unfold eog
  split
  · have h1 := Nat.div_add_mod r (a 5)
    have h2 := Nat.mod_lt r (show 0 < a 5 by omega)
    rw [Nat.mul_comm] at h1
    omega
  · omega
theorem bw_ge {a : kA} (hw : WF a) {m st f : Nat} (hst : 1 ≤ st) (hf : f < sF a) : fw a f ≤ bw a m st f := by
  unfold bw
  split
  · have h1 := Nat.div_add_mod (fw a f + st - 1) st
    have h2 := Nat.mod_lt (fw a f + st - 1) (show 0 < st by omega)
    rw [Nat.mul_comm] at h1
    omega
  · split
    · have h1 := srt_ok (a := a) (eog_lt hw (rk_lt hf))
      have h2 := eog_ge hw (rk_lt hf)
      exact lf_rk h1.1 (by omega)
    · split
      · have h1 := srt_ok (a := a) (show sF a - 1 < sF a by omega)
        have h2 := rk_lt hf
        exact lf_rk h1.1 (by omega)
      · exact Nat.le_refl _
section MM6
variable {M : kS} {a : kA} {N m st : Nat}
theorem fq8 (hw : WF a) {f : Nat} (hf : f < sF a) : f / (a 2 + 1) < 8 := by
  have h1 := fq hf
  have h2 := hw.2.1
  omega
theorem nuM_256 (hw : WF a) {v : Nat} : nuM a m st v < 256 := nu_256 (fun _ hf => fq8 hw hf)
theorem m_nu (h : SM M a) (hw : WF a) (hD : LD M a m st) (hst : 1 ≤ st ∧ st ≤ 50) {v : Nat} (hv : v ≤ 1000) (hN : 3000 ≤ N) : f_X9_namesUnder N M (nI v) = some (nI (nuM a m st v)) := by
  obtain ⟨w0, w1, w2, w3, w4, w5, w6, w7, wl, wp, wn, we⟩ := id hw
  have hle := sF_le hw
  unfold f_X9_namesUnder
  obtain ⟨n, e⟩ := lpF (fun n i (x : Int32) => lp_X9_namesUnder_4 N M (nI v) (fun x1 => some x1) n x (nI i)) (fun i => nI (nu (bw a m st) (a 2 + 1) v i)) (sF a) (fun n f hf => by
    have h8 := fq8 hw hf
    have hb := bw_le hw (m := m) hst hf
    have h6 := nu_256 (b := bw a m st) (e := a 2 + 1) (v := v) (n := f) (fun g hg => fq8 hw (by omega))
    show lp_X9_namesUnder_4 N M (nI v) (fun x1 => some x1) (n + 1) (nI _) (nI f) = lp_X9_namesUnder_4 N M (nI v) (fun x1 => some x1) n (nI (nu _ _ _ (f + 1))) (nI (f + 1))
    rw [lp_X9_namesUnder_4, nu]
    simp (disch := omega) only [hD.1, q_le, if_neg, q_gIn, q_cl, hD.2.2.1 f, m_each h, ob, q_nz, q_div, jn]
    by_cases z : bw a m st f = v
    · simp (disch := omega) only [z, if_true, nI_bit, i_1, nI_add]
      rw [← i_1, nI_bit _ h8, nI_or h6 (bit_256 h8)]
    · simp (disch := omega) only [z, if_false, q_eq, i_0, i_1, nI_add]
      rw [nI_or h6 (show 0 < 256 by decide), Nat.or_zero]) (N := N) 0 (Nat.zero_le _) (by omega)
  simp only [jn, i_0]
  refine e.trans ?_
  show lp_X9_namesUnder_4 N M (nI v) (fun x1 => some x1) (n + 1) (nI _) (nI (sF a)) = _
  rw [lp_X9_namesUnder_4]
  simp (disch := omega) only [hD.1, q_le, Nat.le_refl, if_true]
  rfl
theorem foV_t (w : Nat) (h : hid a w = true) : foV a w = nI (fo a w) ∧ fo a w < sF a := by
  have h1 : fo a w < sF a := of_decide_eq_true h
  exact ⟨by unfold foV; rw [if_pos h1], h1⟩
theorem foV_f (w : Nat) (h : hid a w = false) : foV a w = -nI 1 := by
  have h1 : ¬ fo a w < sF a := of_decide_eq_false h
  unfold foV
  rw [if_neg h1, i_m1]
theorem q_le1n : (nI 0 ≤ -nI 1) = False := by simp; decide
theorem q_lt1n : (-nI 1 < nI 0) = True := by simp; decide
theorem sh_t (w : Nat) (h : hid a w = true) : sh a m st w = bw a m st (fo a w) := by
  unfold sh
  rw [if_pos (foV_t w h).2]
theorem sh_f (w : Nat) (h : hid a w = false) : sh a m st w = wd a (34 + 13 * w) := by
  unfold sh
  rw [if_neg (of_decide_eq_false h)]
theorem m_few (h : SM M a) (hw : WF a) (hD : LD M a m st) (hst : 1 ≤ st ∧ st ≤ 50) (hN : 3000 ≤ N) : f_X9_fewest N M = some (nI (few a m st (a 0))) := by
  obtain ⟨w0, w1, w2, w3, w4, w5, w6, w7, wl, wp, wn, we⟩ := id hw
  have hle := sF_le hw
  unfold f_X9_fewest
  obtain ⟨n, e⟩ := lpF (fun n i (x : Int32) => lp_X9_fewest_5 N M (fun x1 => some x1) n x (nI i)) (fun i => nI (few a m st i)) (a 0) (fun n w hwd => by
    obtain ⟨d1, d2, d3, d4⟩ := hD.2.2.2.2 w hwd
    have hs := sh_le hw (m := m) hst hwd
    have hf8 := few_le a m st w
    show lp_X9_fewest_5 N M (fun x1 => some x1) (n + 1) (nI _) (nI w) = lp_X9_fewest_5 N M (fun x1 => some x1) n (nI (few _ _ _ (w + 1))) (nI (w + 1))
    rw [lp_X9_fewest_5, few]
    simp (disch := omega) only [i_0, q_gIn, q_cl, h _, q_le, if_neg, d1, d2, m_nu h hw hD hst, ob, m_bits (nuM_256 hw), jn]
    cases z : hid a w with
    | true =>
      obtain ⟨z1, z2⟩ := foV_t w z
      have hp := pop_le (nuM a m st (sh a m st w))
      simp (disch := omega) only [z1, q_le, Nat.zero_le, if_true, i_1, nI_add]
      by_cases y : few a m st w ≤ pop (nuM a m st (sh a m st w))
      · rw [if_pos y, if_pos y]
      · rw [if_neg y, if_neg y]
    | false =>
      simp (disch := omega) only [foV_f w z, q_le1n, if_false, i_8, i_1, q_le, nI_add, Bool.false_eq_true]
      by_cases y : few a m st w ≤ 8
      · rw [if_pos y, if_pos y]
      · rw [if_neg y, if_neg y]) (N := N) 0 (Nat.zero_le _) (by omega)
  simp only [jn, i_0, i_8]
  refine e.trans ?_
  show lp_X9_fewest_5 N M (fun x1 => some x1) (n + 1) (nI _) (nI (a 0)) = _
  rw [lp_X9_fewest_5]
  simp (disch := omega) only [i_0, q_gIn, q_cl, h _, q_le, Nat.le_refl, if_true]
/-- a row of tests on the words ahead -/
theorem m_frs (hD : LD M a m st) (hw : WF a) (hst : 1 ≤ st ∧ st ≤ 50) {w : Nat} (hwd : w < a 0) (kont : Int32 → Option Int32) (hN : 3000 ≤ N) : lp_X9_sumOf_37 N M (nI w) kont N (nI (if hid a w = true then 1 else 0)) (nI 0) = kont (nI (if frs a m st w = true then 1 else 0)) := by
  obtain ⟨w0, w1, w2, w3, w4, w5, w6, w7, wl, wp, wn, we⟩ := id hw
  obtain ⟨n, e⟩ := lpF (fun n i (x : Int32) => lp_X9_sumOf_37 N M (nI w) kont n x (nI i)) (fun i => nI (if (hid a w && allB (fun k => !(hid a k && decide (sh a m st k = sh a m st w))) i) = true then 1 else 0)) w (fun n k hk => by
    obtain ⟨d1, d2, d3, d4⟩ := hD.2.2.2.2 k (by omega)
    obtain ⟨c1, c2, c3, c4⟩ := hD.2.2.2.2 w hwd
    have hs := sh_le hw (m := m) hst hwd
    have hs2 := sh_le hw (m := m) (w := k) hst (by omega)
    show lp_X9_sumOf_37 N M (nI w) kont (n + 1) (nI _) (nI k) = lp_X9_sumOf_37 N M (nI w) kont n (nI _) (nI (k + 1))
    rw [lp_X9_sumOf_37, allB]
    generalize hT : (hid a w && allB (fun k => !(hid a k && decide (sh a m st k = sh a m st w))) k) = T
    have hT2 : (hid a w && (allB (fun k => !(hid a k && decide (sh a m st k = sh a m st w))) k && !(hid a k && decide (sh a m st k = sh a m st w)))) = (T && !(hid a k && decide (sh a m st k = sh a m st w))) := by rw [← hT, Bool.and_assoc]
    rw [hT2]
    cases T with
    | false => simp (disch := omega) only [q_le, if_neg, jn, i_0, i_1, if_true, if_false, Bool.false_and, Bool.false_eq_true, nI_add]
    | true =>
      simp (disch := omega) only [q_le, if_neg, jn, i_0, i_1, q_nT, if_true, if_false, Bool.true_and, nI_add, q_gIn, q_cl, d1, d2, c2, q_eq]
      cases z : hid a k with
      | true =>
        obtain ⟨z1, z2⟩ := foV_t k z
        have hle := sF_le hw
        simp (disch := omega) only [z1, q_lt, Nat.not_lt_zero, if_false, Bool.true_and]
        by_cases y : sh a m st k = sh a m st w
        · simp [y]
        · simp [y]
      | false =>
        simp (disch := omega) only [foV_f k z, q_lt1n, if_true, Bool.false_and, Bool.not_false]) (N := N) 0 (Nat.zero_le _) (by omega)
  refine Eq.trans ?_ (e.trans ?_)
  · simp only [allB, Bool.and_true]
  · show lp_X9_sumOf_37 N M (nI w) kont (n + 1) (nI _) (nI w) = _
    rw [lp_X9_sumOf_37]
    simp (disch := omega) only [q_le, Nat.le_refl, if_true]
    rfl
theorem tm_le (hw : WF a) (hst : 1 ≤ st ∧ st ≤ 50) {what w : Nat} (hwd : w < a 0) : tm a m st what w ≤ 148 := by
  have h := sh_le hw (m := m) hst hwd
  unfold tm
  repeat' split
  all_goals omega
theorem sumN_le {f : Nat → Nat} {b n : Nat} (h : ∀ w, w < n → f w ≤ b) : ∀ i, i ≤ n → sumN f i ≤ b * i
  | 0, _ => Nat.zero_le _
  | i + 1, hi => by
    have h1 := sumN_le h i (by omega)
    have h2 := h i (by omega)
    rw [sumN, Nat.mul_succ]
    omega
theorem m_sumOf (h : SM M a) (hw : WF a) (hD : LD M a m st) (hst : 1 ≤ st ∧ st ≤ 50) {what : Nat} (hwt : what ≤ 100) (hN : 3000 ≤ N) : f_X9_sumOf N M (nI what) = some (nI (sumN (tm a m st what) (a 0))) := by
  obtain ⟨w0, w1, w2, w3, w4, w5, w6, w7, wl, wp, wn, we⟩ := id hw
  have hle := sF_le hw
  unfold f_X9_sumOf
  obtain ⟨n, e⟩ := lpF (fun n i (x : Int32) => lp_X9_sumOf_4 N M (nI what) (fun x1 => some x1) n x (nI i)) (fun i => nI (sumN (tm a m st what) i)) (a 0) (fun n w hwd => by
    obtain ⟨d1, d2, d3, d4⟩ := hD.2.2.2.2 w hwd
    have hs := sh_le hw (m := m) hst hwd
    have hfr := fun kont => m_frs hD hw hst hwd kont hN
    show lp_X9_sumOf_4 N M (nI what) (fun x1 => some x1) (n + 1) (nI _) (nI w) = lp_X9_sumOf_4 N M (nI what) (fun x1 => some x1) n (nI (sumN _ (w + 1))) (nI (w + 1))
    rw [lp_X9_sumOf_4, sumN]
    have hstep : nI w + nI 1 = nI (w + 1) := nI_add w 1
    cases z : hid a w with
    | true =>
      obtain ⟨z1, z2⟩ := foV_t w z
      have hb := bw_ge hw (m := m) hst.1 z2
      have hp := pop_le (nuM a m st (sh a m st w))
      rw [← sh_t w z] at hb
      rw [z, if_pos rfl] at hfr
      by_cases y12 : what = 12
      · simp (disch := omega) only [i_0, i_12, i_11, i_13, q_gIn, q_cl, h _, q_le, d1, d2, ↓jn_eq, ↓reduceIte, i_1, q_eq, z1, q_lt, Nat.not_lt_zero, hfr, y12, tm, nI_add, Nat.reduceEqDiff, q_nT, Nat.not_le.mpr hwd, ite_self]
      · by_cases y1 : what = 1
        · simp (disch := omega) only [i_0, i_12, i_11, i_13, q_gIn, q_cl, h _, q_le, d1, d2, ↓jn_eq, ↓reduceIte, i_1, q_eq, z1, q_lt, Nat.not_lt_zero, hfr, y1, tm, nI_add, Nat.reduceEqDiff, q_nT, z, Nat.not_le.mpr hwd]
        · by_cases y11 : what = 11
          · simp (disch := omega) only [i_0, i_12, i_11, i_13, q_gIn, q_cl, h _, q_le, d1, d2, ↓jn_eq, ↓reduceIte, i_1, q_eq, z1, q_lt, Nat.not_lt_zero, hfr, y11, tm, nI_add, Nat.reduceEqDiff, q_nT, z, Nat.not_le.mpr hwd, m_nu h hw hD hst, ob, m_bits (nuM_256 hw)]
            by_cases yp : pop (nuM a m st (sh a m st w)) = 1
            · simp only [yp, ↓reduceIte]
            · simp only [yp, ↓reduceIte]
          · by_cases y13 : what = 13
            · simp (disch := omega) only [i_0, i_12, i_11, i_13, q_gIn, q_cl, h _, q_le, d1, d2, ↓jn_eq, ↓reduceIte, i_1, q_eq, z1, q_lt, Nat.not_lt_zero, hfr, y13, tm, nI_add, Nat.reduceEqDiff, q_nT, z, Nat.not_le.mpr hwd, hD.2.1 (fo a w), q_sub]
            · by_cases yf : frs a m st w = true
              · simp (disch := omega) only [i_0, i_12, i_11, i_13, q_gIn, q_cl, h _, q_le, d1, d2, ↓jn_eq, ↓reduceIte, i_1, q_eq, z1, q_lt, Nat.not_lt_zero, hfr, y13, y12, y11, y1, yf, tm, nI_add, z, Nat.not_le.mpr hwd, Nat.one_ne_zero, Bool.false_eq_true]
              · simp (disch := omega) only [i_0, i_12, i_11, i_13, q_gIn, q_cl, h _, q_le, d1, d2, ↓jn_eq, ↓reduceIte, i_1, q_eq, z1, q_lt, Nat.not_lt_zero, hfr, y13, y12, y11, y1, yf, tm, nI_add, z, Nat.not_le.mpr hwd, Nat.one_ne_zero, Bool.false_eq_true]
    | false =>
      have hff : frs a m st w = false := by unfold frs; rw [z, Bool.false_and]
      rw [z, if_neg (by decide), hff, if_neg (by decide)] at hfr
      by_cases y12 : what = 12
      · simp (disch := omega) only [i_0, i_12, i_11, i_13, q_gIn, q_cl, h _, q_le, d1, d2, ↓jn_eq, ↓reduceIte, i_1, q_eq, foV_f w z, q_lt1n, hfr, y12, tm, nI_add, Nat.reduceEqDiff, Nat.not_le.mpr hwd]
      · by_cases y1 : what = 1
        · simp (disch := omega) only [i_0, i_12, i_11, i_13, q_gIn, q_cl, h _, q_le, d1, d2, ↓jn_eq, ↓reduceIte, i_1, q_eq, foV_f w z, q_lt1n, hfr, y1, tm, nI_add, Nat.reduceEqDiff, Nat.not_le.mpr hwd, z, Bool.false_eq_true]
        · by_cases y11 : what = 11
          · simp (disch := omega) only [i_0, i_12, i_11, i_13, q_gIn, q_cl, h _, q_le, d1, d2, ↓jn_eq, ↓reduceIte, i_1, q_eq, foV_f w z, q_lt1n, hfr, y11, tm, nI_add, Nat.reduceEqDiff, Nat.not_le.mpr hwd, z, Bool.false_eq_true]
          · by_cases y13 : what = 13
            · simp (disch := omega) only [i_0, i_12, i_11, i_13, q_gIn, q_cl, h _, q_le, d1, d2, ↓jn_eq, ↓reduceIte, i_1, q_eq, foV_f w z, q_lt1n, hfr, y13, tm, nI_add, Nat.reduceEqDiff, Nat.not_le.mpr hwd, z, Bool.false_eq_true]
            · simp (disch := omega) only [i_0, i_12, i_11, i_13, q_gIn, q_cl, h _, q_le, d1, d2, ↓jn_eq, ↓reduceIte, i_1, q_eq, foV_f w z, q_lt1n, hfr, y13, y12, y11, y1, tm, nI_add, Nat.not_le.mpr hwd, z, Bool.false_eq_true]) (N := N) 0 (Nat.zero_le _) (by omega)
  simp only [jn, i_0]
  refine e.trans ?_
  show lp_X9_sumOf_4 N M (nI what) (fun x1 => some x1) (n + 1) (nI _) (nI (a 0)) = _
  rw [lp_X9_sumOf_4]
  simp (disch := omega) only [i_0, q_gIn, q_cl, h _, q_le, Nat.le_refl, if_true]
end MM6
end
section
/-! ===== the reference's lines and guesses ===== -/
def isL (a : kA) (m st l w : Nat) : Bool := decide (lno (sh a m st) (a 6) (a 7) w = l)
def lsum (a : kA) (m st l what : Nat) : Nat → Nat
  | 0 => 0
  | w + 1 => if isL a m st l w = true then lsum a m st l what w + (if what = 2 then sh a m st w + (if fst (isL a m st l) w < w then a 6 else 0) else if what = 1 then 1 else if hid a w = true then 1 else 0) else lsum a m st l what w
/-- the least gap of a name under a bar; 1000: none -/
def lg (a : kA) (m st nm v : Nat) : Nat → Nat
  | 0 => 1000
  | f + 1 => if f / (a 2 + 1) = nm ∧ bw a m st f = v then (if lg a m st nm v f ≤ v - fw a f then lg a m st nm v f else v - fw a f) else lg a m st nm v f
def lgA (a : kA) (m st nm v : Nat) : Nat := lg a m st nm v (sF a)
def soon (a : kA) (m st n v o : Nat) : Bool := decide (lgA a m st o v ≠ 1000 ∧ (lgA a m st o v < lgA a m st n v ∨ (lgA a m st o v = lgA a m st n v ∧ o < n)))
def gss (a : kA) (m st v : Nat) (pl : Int32) (n : Nat) : Bool := decide (lgA a m st n v ≠ 1000 ∧ nI (ct (soon a m st n v) (a 1)) = pl)
def lgE (s : Int32) (x : Nat) : Int32 := if x = 1000 then s else nI x
theorem q_m14 {n : Nat} (h : n < 2147483648) : (nI n = (-14 : Int32)) = False := by
  refine propext ⟨fun e => ?_, fun e => e.elim⟩
  have h1 := congrArg Int32.toInt e
  rw [nI_toInt h] at h1
  have h2 : (-14 : Int32).toInt = -14 := by decide
  omega
section MM7
variable {M : kS} {a : kA} {N m st : Nat}
theorem lsum_le (hw : WF a) (hst : 1 ≤ st ∧ st ≤ 50) {l what : Nat} : ∀ w, w ≤ a 0 → lsum a m st l what w ≤ 157 * w
  | 0, _ => Nat.zero_le _
  | w + 1, h => by
    have h1 := lsum_le hw hst (l := l) (what := what) w (by omega)
    have h2 := sh_le hw (m := m) hst (show w < a 0 by omega)
    obtain ⟨w0, w1, w2, w3, w4, w5, w6, w7, wl, wp, wn, we⟩ := id hw
    rw [lsum, Nat.mul_succ]
    repeat' split
    all_goals omega
theorem m_lineSum (h : SM M a) (hw : WF a) (hD : LD M a m st) (hst : 1 ≤ st ∧ st ≤ 50) {l what : Nat} (hl : l ≤ 1000) (hwt : what ≤ 100) (hN : 3000 ≤ N) : f_X9_lineSum N M (nI l) (nI what) = some (if what = 0 then (if fst (isL a m st l) (a 0) < a 0 then nI (fst (isL a m st l) (a 0)) else -14) else nI (lsum a m st l what (a 0))) := by
  obtain ⟨w0, w1, w2, w3, w4, w5, w6, w7, wl, wp, wn, we⟩ := id hw
  unfold f_X9_lineSum
  obtain ⟨n, e⟩ := lpF (fun n i (x : Int32 × Int32) => lp_X9_lineSum_9 N M (nI l) (nI what) (fun (x1 : Int32) (x2 : Int32) => jn (fun (t4 : Int32) => some t4) (fun j122_4 => if nI what = 0 then j122_4 x1 else j122_4 x2)) n x.1 x.2 (nI i)) (fun i => ((if fst (isL a m st l) i < i then nI (fst (isL a m st l) i) else -14), nI (lsum a m st l what i))) (a 0) (fun n w hwd => by
    obtain ⟨d1, d2, d3, d4⟩ := hD.2.2.2.2 w hwd
    have hs := sh_le hw (m := m) hst hwd
    have hfl := fst_le (isL a m st l) w
    have hln : lno (sh a m st) (a 6) (a 7) w ≤ 1000 := by
      have := (ly_b (s := sh a m st) (gp := a 6) (lw := a 7) (n := a 0) (fun v hv => sh_le hw hst hv) (by omega) (by omega) (w + 1) (by omega)).1
      unfold lno
      omega
    show lp_X9_lineSum_9 N M (nI l) (nI what) _ (n + 1) (if fst (isL a m st l) w < w then nI (fst (isL a m st l) w) else -14) (nI (lsum a m st l what w)) (nI w) = lp_X9_lineSum_9 N M (nI l) (nI what) _ n (if fst (isL a m st l) (w + 1) < w + 1 then nI (fst (isL a m st l) (w + 1)) else -14) (nI (lsum a m st l what (w + 1))) (nI (w + 1))
    rw [lp_X9_lineSum_9, lsum, fst]
    simp (disch := omega) only [i_0, q_gIn, q_cl, h _, q_le, ↓reduceIte, Nat.not_le.mpr hwd, ↓jn_eq, d3, q_eq]
    by_cases z : lno (sh a m st) (a 6) (a 7) w = l
    · have z2 : isL a m st l w = true := decide_eq_true z
      by_cases y : fst (isL a m st l) w < w
      · have y2 : fst (isL a m st l) w < w + 1 := by omega
        simp (disch := omega) only [z, z2, ↓reduceIte, y, y2, q_m14, i_1, i_6, nI_add, q_gIn, q_cl, h _]
        by_cases x2 : what = 2
        · simp (disch := omega) only [x2, i_2, q_eq, ↓reduceIte, d2, nI_add, q_gIn, q_cl]
        · simp (disch := omega) only [x2, i_2, q_eq, ↓reduceIte]
          by_cases x1 : what = 1
          · simp (disch := omega) only [x1, q_eq, ↓reduceIte, nI_add]
          · simp (disch := omega) only [x1, q_eq, ↓reduceIte, d1, q_gIn, q_cl]
            cases x : hid a w with
            | true =>
              obtain ⟨x3, x4⟩ := foV_t w x
              have hle := sF_le hw
              simp (disch := omega) only [x3, q_lt, Nat.not_lt_zero, ↓reduceIte, nI_add]
            | false =>
              simp (disch := omega) only [foV_f w x, q_lt1n, ↓reduceIte, nI_add, Bool.false_eq_true]
      · have y2 : fst (isL a m st l) w = w := by omega
        have y3 : w < w + 1 := by omega
        simp (disch := omega) only [z, z2, ↓reduceIte, y, y3, i_1, nI_add, Nat.lt_irrefl]
        by_cases x2 : what = 2
        · simp (disch := omega) only [x2, i_2, q_eq, ↓reduceIte, d2, nI_add, q_gIn, q_cl]
        · simp (disch := omega) only [x2, i_2, q_eq, ↓reduceIte]
          by_cases x1 : what = 1
          · simp (disch := omega) only [x1, q_eq, ↓reduceIte, nI_add]
          · simp (disch := omega) only [x1, q_eq, ↓reduceIte, d1, q_gIn, q_cl]
            cases x : hid a w with
            | true =>
              obtain ⟨x3, x4⟩ := foV_t w x
              have hle := sF_le hw
              simp (disch := omega) only [x3, q_lt, Nat.not_lt_zero, ↓reduceIte, nI_add]
            | false =>
              simp (disch := omega) only [foV_f w x, q_lt1n, ↓reduceIte, nI_add, Bool.false_eq_true]
    · have z2 : isL a m st l w = false := decide_eq_false z
      by_cases y : fst (isL a m st l) w < w
      · have y2 : fst (isL a m st l) w < w + 1 := by omega
        simp (disch := omega) only [z, z2, ↓reduceIte, y, y2, i_1, nI_add, Bool.false_eq_true]
      · simp (disch := omega) only [z, z2, ↓reduceIte, y, i_1, nI_add, Bool.false_eq_true, Nat.lt_irrefl]) (N := N) 0 (Nat.zero_le _) (by omega)
  simp only [↓jn_eq, i_0]
  refine Eq.trans ?_ (e.trans ?_)
  · simp only [Nat.not_lt_zero, ↓reduceIte, lsum, i_0, jn_eq]
  · show lp_X9_lineSum_9 N M (nI l) (nI what) _ (n + 1) (if fst (isL a m st l) (a 0) < a 0 then nI (fst (isL a m st l) (a 0)) else -14) (nI (lsum a m st l what (a 0))) (nI (a 0)) = _
    rw [lp_X9_lineSum_9]
    simp (disch := omega) only [i_0, q_gIn, q_cl, h _, q_le, Nat.le_refl, ↓reduceIte, ↓jn_eq, q_eq]
    by_cases x0 : what = 0
    · simp only [x0, ↓reduceIte]
    · simp only [x0, ↓reduceIte]
end MM7
end
section
section MM8
variable {M : kS} {a : kA} {N m st : Nat}
theorem lg_b (a : kA) (m st nm : Nat) {v : Nat} (hv : v ≤ 500) : ∀ f, lg a m st nm v f ≤ 1000 ∧ (lg a m st nm v f ≠ 1000 → lg a m st nm v f ≤ 500)
  | 0 => ⟨Nat.le_refl _, fun h => absurd rfl h⟩
  | f + 1 => by
    have ih := lg_b a m st nm hv f
    rw [lg]
    split
    · split
      · exact ih
      · omega
    · exact ih
theorem lg_lo (a : kA) (m st nm v : Nat) : ∀ f, f ≤ nm * (a 2 + 1) → lg a m st nm v f = 1000
  | 0, _ => rfl
  | f + 1, h => by
    have ih := lg_lo a m st nm v f (by omega)
    have h1 : f / (a 2 + 1) < nm := Nat.div_lt_of_lt_mul (by rw [Nat.mul_comm]; omega)
    rw [lg, if_neg (by omega), ih]
theorem lg_hi (a : kA) (m st nm v : Nat) : ∀ d, lg a m st nm v ((nm + 1) * (a 2 + 1) + d) = lg a m st nm v ((nm + 1) * (a 2 + 1))
  | 0 => rfl
  | d + 1 => by
    have ih := lg_hi a m st nm v d
    have h1 : nm + 1 ≤ ((nm + 1) * (a 2 + 1) + d) / (a 2 + 1) := (Nat.le_div_iff_mul_le (show 0 < a 2 + 1 from Nat.succ_pos _)).mpr (by omega)
    rw [← Nat.add_assoc, lg, if_neg (by omega), ih]
theorem m_gapOf (h : SM M a) (hw : WF a) (hD : LD M a m st) (hst : 1 ≤ st ∧ st ≤ 50) {nm v : Nat} (hn : nm < a 1) (hv : v ≤ 500) (hN : 3000 ≤ N) : f_X9_gapOf N M (nI nm) (nI v) = some (lgE (-14) (lgA a m st nm v)) := by
  obtain ⟨w0, w1, w2, w3, w4, w5, w6, w7, wl, wp, wn, we⟩ := id hw
  have hle := sF_le hw
  have hE : (nm + 1) * (a 2 + 1) ≤ sF a := by unfold sF; exact Nat.mul_le_mul_right _ hn
  have hE2 : nm * (a 2 + 1) + (a 2 + 1) = (nm + 1) * (a 2 + 1) := (Nat.succ_mul _ _).symm
  have hA : lgA a m st nm v = lg a m st nm v ((nm + 1) * (a 2 + 1)) := by
    have e : sF a = (nm + 1) * (a 2 + 1) + (sF a - (nm + 1) * (a 2 + 1)) := by omega
    unfold lgA
    rw [e, lg_hi]
  unfold f_X9_gapOf
  obtain ⟨n, e⟩ := lpF (fun n i (x : Int32) => lp_X9_gapOf_11 N M (nI nm) (nI v) (fun x3 => some x3) n x (nI (nm * (a 2 + 1) + i))) (fun i => lgE (-14) (lg a m st nm v (nm * (a 2 + 1) + i))) (a 2 + 1) (fun n j hj => by
    have hjj : nm * (a 2 + 1) + (j + 1) = nm * (a 2 + 1) + j + 1 := rfl
    have hlo : ¬ nm * (a 2 + 1) + j < nm * (a 2 + 1) := by omega
    have hf : nm * (a 2 + 1) + j < (nm + 1) * (a 2 + 1) := by omega
    rw [hjj]
    generalize nm * (a 2 + 1) + j = f at *
    show lp_X9_gapOf_11 N M (nI nm) (nI v) _ (n + 1) (lgE (-14) (lg a m st nm v f)) (nI f) = lp_X9_gapOf_11 N M (nI nm) (nI v) _ n (lgE (-14) (lg a m st nm v (f + 1))) (nI (f + 1))
    have hb := bw_le hw (m := m) hst (show f < sF a by omega)
    have hb2 := bw_ge hw (m := m) (f := f) hst.1 (by omega)
    have hlb := lg_b a m st nm hv f
    have hq : f / (a 2 + 1) = nm := by
      have h1 : f / (a 2 + 1) < nm + 1 := Nat.div_lt_of_lt_mul (by rw [Nat.mul_comm]; exact hf)
      have h2 : nm ≤ f / (a 2 + 1) := (Nat.le_div_iff_mul_le (show 0 < a 2 + 1 from Nat.succ_pos _)).mpr (by omega)
      omega
    rw [lp_X9_gapOf_11, lg]
    simp (disch := omega) only [m_each h, ob, i_1, nI_add, pk_mul, q_le, Nat.not_le.mpr hf, ↓reduceIte, ↓jn_eq, q_gIn, q_cl, hD.2.2.1 f, hD.2.1 f, q_eq, hq, true_and]
    by_cases z : bw a m st f = v
    · have z3 : fw a f ≤ v := by omega
      simp (disch := omega) only [z, ↓reduceIte, q_sub]
      by_cases y : lg a m st nm v f = 1000
      · have y2 : ¬ v - fw a f = 1000 := by omega
        have y3 : ¬ 1000 ≤ v - fw a f := by omega
        simp only [lgE, y, ↓reduceIte, y2, y3]
      · have y2 : ¬ v - fw a f = 1000 := by omega
        simp (disch := omega) only [lgE, y, ↓reduceIte, y2, q_m14, q_le]
        by_cases y3 : lg a m st nm v f ≤ v - fw a f
        · simp only [y3, ↓reduceIte, y]
        · simp only [y3, ↓reduceIte, y2]
    · simp only [z, ↓reduceIte]) (N := N) 0 (Nat.zero_le _) (by omega)
  simp (disch := omega) only [m_each h, ob, ↓jn_eq, pk_mul]
  simp only [Nat.add_zero] at e
  rw [lg_lo a m st nm v _ (Nat.le_refl _), hE2] at e
  refine Eq.trans ?_ (e.trans ?_)
  · rfl
  · show lp_X9_gapOf_11 N M (nI nm) (nI v) _ (n + 1) (lgE (-14) (lg a m st nm v ((nm + 1) * (a 2 + 1)))) (nI ((nm + 1) * (a 2 + 1))) = _
    rw [lp_X9_gapOf_11]
    simp (disch := omega) only [m_each h, ob, i_1, nI_add, pk_mul, q_le, Nat.le_refl, ↓reduceIte, hA]
theorem m_soon (h : SM M a) (hw : WF a) (hD : LD M a m st) (hst : 1 ≤ st ∧ st ≤ 50) {n v : Nat} (hn : n < a 1) (hv : v ≤ 500) (hg : lgA a m st n v ≠ 1000) (kont : Int32 → Option Int32) (hN : 3000 ≤ N) : lp_X9_guessOf_29 N M (nI v) (nI n) (nI (lgA a m st n v)) kont N (nI 0) (nI 0) = kont (nI (ct (soon a m st n v) (a 1))) := by
  obtain ⟨w0, w1, w2, w3, w4, w5, w6, w7, wl, wp, wn, we⟩ := id hw
  obtain ⟨k, e⟩ := lpF (fun k i (x : Int32) => lp_X9_guessOf_29 N M (nI v) (nI n) (nI (lgA a m st n v)) kont k x (nI i)) (fun i => nI (ct (soon a m st n v) i)) (a 1) (fun k o ho => by
    have hb := lg_b a m st o hv (sF a)
    have hb2 := lg_b a m st n hv (sF a)
    have hc := ct_le (soon a m st n v) o
    show lp_X9_guessOf_29 N M (nI v) (nI n) (nI (lgA a m st n v)) kont (k + 1) (nI (ct (soon a m st n v) o)) (nI o) = lp_X9_guessOf_29 N M (nI v) (nI n) (nI (lgA a m st n v)) kont k (nI (ct (soon a m st n v) (o + 1))) (nI (o + 1))
    rw [lp_X9_guessOf_29, ct]
    simp (disch := omega) only [i_1, q_gIn, q_cl, h _, q_le, Nat.not_le.mpr ho, ↓reduceIte, m_gapOf h hw hD hst ho hv hN, ob, ↓jn_eq]
    by_cases y : lgA a m st o v = 1000
    · have ys : soon a m st n v o = false := decide_eq_false (fun q => q.1 y)
      simp only [lgE, y, ys, ↓reduceIte, i_0, nI_add, Bool.false_eq_true]
    · unfold lgA at y hg
      unfold lgA
      by_cases y1 : lg a m st o v (sF a) < lg a m st n v (sF a)
      · have ys : soon a m st n v o = true := decide_eq_true ⟨y, Or.inl y1⟩
        simp (disch := omega) only [lgE, y, ↓reduceIte, q_m14, q_lt, y1, nI_add, ys]
      · by_cases y2 : lg a m st o v (sF a) = lg a m st n v (sF a)
        · by_cases y3 : n ≤ o
          · have ys : soon a m st n v o = false := decide_eq_false (fun q => by unfold lgA at q; omega)
            simp (disch := omega) only [lgE, hg, y2, ↓reduceIte, q_m14, q_lt, Nat.lt_irrefl, q_le, y3, nI_add, ys, i_0, Bool.false_eq_true]
          · have ys : soon a m st n v o = true := decide_eq_true (by unfold lgA; exact ⟨y, Or.inr ⟨y2, by omega⟩⟩)
            simp (disch := omega) only [lgE, hg, y2, ↓reduceIte, q_m14, q_lt, Nat.lt_irrefl, q_le, y3, nI_add, ys]
        · have ys : soon a m st n v o = false := decide_eq_false (fun q => by unfold lgA at q; omega)
          simp (disch := omega) only [lgE, y, ↓reduceIte, q_m14, q_lt, y1, q_eq, y2, nI_add, ys, i_0, Bool.false_eq_true]) (N := N) 0 (Nat.zero_le _) (by omega)
  refine e.trans ?_
  show lp_X9_guessOf_29 N M (nI v) (nI n) (nI (lgA a m st n v)) kont (k + 1) (nI (ct (soon a m st n v) (a 1))) (nI (a 1)) = _
  rw [lp_X9_guessOf_29]
  simp (disch := omega) only [i_1, q_gIn, q_cl, h _, q_le, Nat.le_refl, ↓reduceIte]
theorem m_soon0 (h : SM M a) (hw : WF a) (hD : LD M a m st) (hst : 1 ≤ st ∧ st ≤ 50) {n v : Nat} {r : Int32} (hv : v ≤ 500) (kont : Int32 → Option Int32) (hN : 3000 ≤ N) : ∃ x, lp_X9_guessOf_29 N M (nI v) (nI n) r kont N (nI 0) (nI 0) = kont x := by
  obtain ⟨w0, w1, w2, w3, w4, w5, w6, w7, wl, wp, wn, we⟩ := id hw
  obtain ⟨x, k, _, e⟩ := lpN (fun k i (x : Int32) => lp_X9_guessOf_29 N M (nI v) (nI n) r kont k x (nI i)) (fun _ _ => True) (a 1) (fun k o x ho _ => by
    show ∃ x', True ∧ lp_X9_guessOf_29 N M (nI v) (nI n) r kont (k + 1) x (nI o) = lp_X9_guessOf_29 N M (nI v) (nI n) r kont k x' (nI (o + 1))
    rw [lp_X9_guessOf_29]
    simp (disch := omega) only [i_1, q_gIn, q_cl, h _, q_le, Nat.not_le.mpr ho, ↓reduceIte, m_gapOf h hw hD hst ho hv hN, ob, ↓jn_eq, nI_add, true_and]
    repeat' split
    all_goals exact ⟨_, rfl⟩) (N := N) 0 (nI 0) (Nat.zero_le _) (by omega) trivial
  refine ⟨x, e.trans ?_⟩
  show lp_X9_guessOf_29 N M (nI v) (nI n) r kont (k + 1) x (nI (a 1)) = _
  rw [lp_X9_guessOf_29]
  simp (disch := omega) only [i_1, q_gIn, q_cl, h _, q_le, Nat.le_refl, ↓reduceIte]
theorem m_guessOf (h : SM M a) (hw : WF a) (hD : LD M a m st) (hst : 1 ≤ st ∧ st ≤ 50) {v wt : Nat} {pl : Int32} (hv : v ≤ 500) (hwt : wt ≤ 1) (hN : 3000 ≤ N) : f_X9_guessOf N M (nI v) pl (nI wt) = some (if fst (gss a m st v pl) (a 1) < a 1 then (if wt = 0 then nI (fst (gss a m st v pl) (a 1)) else nI (lgA a m st (fst (gss a m st v pl) (a 1)) v)) else -14) := by
  obtain ⟨w0, w1, w2, w3, w4, w5, w6, w7, wl, wp, wn, we⟩ := id hw
  unfold f_X9_guessOf
  simp only [jn_eq]
  refine (lpX (fun n i => lp_X9_guessOf_3 N M (nI v) pl (nI wt) (some (-14)) n (nI i)) (a 1) (gss a m st v pl) (fun k => some (if wt = 0 then nI k else nI (lgA a m st k v))) (some (-14)) (fun n i hi hp => ?_) (fun n i hi hp => ?_) (fun n => ?_) (N := N) (by omega)).trans ?_
  · show lp_X9_guessOf_3 N M (nI v) pl (nI wt) (some (-14)) (n + 1) (nI i) = lp_X9_guessOf_3 N M (nI v) pl (nI wt) (some (-14)) n (nI (i + 1))
    rw [lp_X9_guessOf_3]
    simp (disch := omega) only [i_1, q_gIn, q_cl, h _, q_le, Nat.not_le.mpr hi, ↓reduceIte, m_gapOf h hw hD hst hi hv hN, ob, ↓jn_eq, i_0, nI_add]
    by_cases y : lgA a m st i v = 1000
    · rw [(m_soon0 h hw hD hst hv _ hN).choose_spec]
      simp only [lgE, y, ↓reduceIte]
    · have hb := lg_b a m st i hv (sF a)
      simp only [lgE, y, ↓reduceIte]
      rw [m_soon h hw hD hst hi hv y _ hN]
      unfold lgA at y
      have hp2 := of_decide_eq_false hp
      unfold lgA at *
      simp (disch := omega) only [q_m14, ↓reduceIte]
      rw [if_neg (fun q => hp2 ⟨y, q⟩)]
  · show lp_X9_guessOf_3 N M (nI v) pl (nI wt) (some (-14)) (n + 2) (nI i) = _
    rw [lp_X9_guessOf_3]
    simp (disch := omega) only [i_1, q_gIn, q_cl, h _, q_le, Nat.not_le.mpr hi, ↓reduceIte, m_gapOf h hw hD hst hi hv hN, ob, ↓jn_eq, i_0, nI_add]
    have hp2 := of_decide_eq_true hp
    have hb := lg_b a m st i hv (sF a)
    simp only [lgE, hp2.1, ↓reduceIte]
    rw [m_soon h hw hD hst hi hv hp2.1 _ hN, hp2.2]
    have y := hp2.1
    unfold lgA at *
    simp (disch := omega) only [q_m14, ↓reduceIte, q_eq]
    by_cases x : wt = 0
    · simp only [x, ↓reduceIte]
    · simp only [x, ↓reduceIte]
  · show lp_X9_guessOf_3 N M (nI v) pl (nI wt) (some (-14)) (n + 1) (nI (a 1)) = _
    rw [lp_X9_guessOf_3]
    simp (disch := omega) only [i_1, q_gIn, q_cl, h _, q_le, Nat.le_refl, ↓reduceIte]
  · split <;> rfl
end MM8
end
section
/-! ===== the class's rows ===== -/
theorem x_at {N k i n : Nat} {C : kS} (hn : ln (k + 1) = n) (h : i < n) (h2 : n ≤ 100000) : f_X3_at N C k (nI i) = some (C (k + 1) i) := by
  unfold f_X3_at
  rw [hn]
  simp (disch := omega) only [↓jn_eq, q_neg, ↓reduceIte, q_le, Nat.not_le.mpr h, q_gIn, q_cl]
theorem x_atn {N k : Nat} {C : kS} {v : Int32} (h : v < 0) : f_X3_at N C k v = some (nI 0) := by
  unfold f_X3_at
  simp only [↓jn_eq]
  rw [if_pos h, i_0]
theorem x_put {N k i n : Nat} {C : kS} {v : Int32} (hn : ln (k + 1) = n) (h : i < n) (h2 : n ≤ 100000) : f_X3_put N C k (nI i) v = some (up1 C (k + 1) (upd (C (k + 1)) i v)) := by
  unfold f_X3_put
  rw [hn]
  simp (disch := omega) only [↓jn_eq, q_neg, ↓reduceIte, q_le, Nat.not_le.mpr h, q_gIn, q_cl]
/-- the words of a list, at a cell -/
def WdC (C : kS) (k mw ml : Nat) (a : kA) (n base wide : Nat) : Prop := C k 0 = nI mw ∧ C k 1 = nI ml ∧ C k 4 = nI n ∧ ∀ w, w < n → C (k + 4) w = nI (a (base + wide * w)) ∧ ∀ i, i < a (base + wide * w) → C (k + 2) (w * ml + i) = nI (97 + a (base + wide * w + 1 + i))
def LtC (C : kS) (k : Nat) (a : kA) : Prop := ∀ j, j < 26 → C k j = nI (a (8 + j))
def StC (C : kS) (q : Nat) (a : kA) : Prop := WdC C (q + 1) 40 12 a (a 0) 34 13 ∧ WdC C (q + 6) 8 8 a (a 1) 554 9 ∧ WdC C (q + 11) 4 3 a (a 2) 626 4 ∧ LtC C (q + 17) a ∧ ∀ j, j < 5 → C (q + 19) j = nI (a (3 + j))
theorem row_lt {w i mw ml : Nat} (h : w < mw) (h2 : i < ml) : w * ml + i < mw * ml := by
  have h3 := Nat.mul_le_mul_right ml (show w + 1 ≤ mw from h)
  rw [Nat.succ_mul] at h3
  omega
section XX1
variable {C : kS} {a : kA} {N k mw ml n base wide : Nat}
theorem x_lengthOf (hW : WdC C k mw ml a n base wide) (h4 : ln (k + 4) = mw) (hm : mw ≤ 40) (hn : n ≤ mw) {w : Nat} (hw : w < n) : f_X7_lengthOf N C k (nI w) = some (nI (a (base + wide * w))) := by
  unfold f_X7_lengthOf
  rw [x_at (k := k + 3) h4 (by omega) (by omega), ob, (hW.2.2.2 w hw).1]
theorem x_lengthN {v : Int32} (h : v < 0) : f_X7_lengthOf N C k v = some (nI 0) := by
  unfold f_X7_lengthOf
  rw [x_atn h, ob]
theorem x_letterOf (hW : WdC C k mw ml a n base wide) (h2 : ln (k + 2) = mw * ml) (hm : mw ≤ 40) (hm2 : ml ≤ 12) (hn : n ≤ mw) {w i : Nat} (hw : w < n) (hi : i < a (base + wide * w)) (hle : a (base + wide * w) ≤ ml) : f_X7_letterOf N C k (nI w) (nI i) = some (nI (97 + a (base + wide * w + 1 + i))) := by
  have h5 := row_lt (show w < mw by omega) (show i < ml by omega)
  have h6 := Nat.mul_le_mul hm hm2
  unfold f_X7_letterOf
  rw [hW.2.1, pk_mul, nI_add, x_at (k := k + 1) h2 h5 (by omega), ob, (hW.2.2.2 w hw).2 i hi]
theorem x_widthOf (hW : WdC C k mw ml a n base wide) (h2 : ln (k + 2) = mw * ml) (h4 : ln (k + 4) = mw) (hm : mw ≤ 40) (hm2 : ml ≤ 12) (hn : n ≤ mw) (hL : LtC C 21 a) (hlw : LW a) (hwl : WL a base wide ml n) {w : Nat} (hw : w < n) (hN : 3000 ≤ N) : f_X7_widthOf N C k (nI w) 20 = some (nI (wd a (base + wide * w))) := by
  obtain ⟨⟨l1, l2⟩, l3⟩ := hwl w hw
  have h6 := Nat.mul_le_mul hm hm2
  have h7 := Nat.mul_le_mul_right ml (show w + 1 ≤ mw by omega)
  rw [Nat.succ_mul] at h7
  unfold f_X7_widthOf
  rw [x_at (k := k + 3) h4 (by omega) (by omega), ob, (hW.2.2.2 w hw).1, hW.2.1, pk_mul]
  simp only [↓jn_eq]
  obtain ⟨m, e⟩ := lpF (fun m i (x : Int32) => lp_X7_widthOf_25 N C k (nI w) 20 (nI (a (base + wide * w))) (fun x3 => some x3) m x (nI (w * ml + i))) (fun i => nI (sW a (base + wide * w) i)) (a (base + wide * w)) (fun m i hi => by
    have l4 := l3 i hi
    have l5 := sW_le hlw l3 i (by omega)
    show lp_X7_widthOf_25 N C k (nI w) 20 (nI (a (base + wide * w))) _ (m + 1) (nI (sW a (base + wide * w) i)) (nI (w * ml + i)) = lp_X7_widthOf_25 N C k (nI w) 20 (nI (a (base + wide * w))) _ m (nI (sW a (base + wide * w) (i + 1))) (nI (w * ml + i + 1))
    rw [lp_X7_widthOf_25, hW.2.1, pk_mul, nI_add]
    simp (disch := omega) only [q_le, if_neg]
    rw [x_at (k := k + 1) h2 (by omega) (by omega), ob, (hW.2.2.2 w hw).2 i hi, i_97, q_sub (by omega), Nat.add_sub_cancel_left, x_at (k := 20) (n := 26) rfl l4 (by decide), ob, hL _ l4, i_1, nI_add, nI_add, sW]) (N := N) 0 (Nat.zero_le _) (by omega)
  refine Eq.trans ?_ (e.trans ?_)
  · rfl
  · show lp_X7_widthOf_25 N C k (nI w) 20 (nI (a (base + wide * w))) _ (m + 1) (nI (sW a (base + wide * w) (a (base + wide * w)))) (nI (w * ml + a (base + wide * w))) = _
    rw [lp_X7_widthOf_25, hW.2.1, pk_mul, nI_add]
    simp (disch := omega) only [q_le, Nat.le_refl, ↓reduceIte]
    rfl
theorem x_widthN (hW : WdC C k mw ml a n base wide) (hN : 3000 ≤ N) : f_X7_widthOf N C k (-nI 1) 20 = some (nI 0) := by
  obtain ⟨m, rfl⟩ : ∃ m, N = m + 1 := ⟨N - 1, by omega⟩
  unfold f_X7_widthOf
  rw [x_atn (by decide), ob]
  simp only [↓jn_eq]
  rw [lp_X7_widthOf_25, if_pos (by rw [show (nI 0 : Int32) = 0 from i_0.symm, Int32.add_zero]; exact Int32.le_refl _), i_0]
end XX1
end
section
/-! ===== the class's forms ===== -/
def FmC (C : kS) (a : kA) : Prop := C 106 3 = nI (a 2 + 1) ∧ C 106 4 = nI (sF a) ∧ (∀ f, f < sF a → C 108 f = nI (fw a f)) ∧ (∀ f, f < sF a → C 110 f = nI (rk a f)) ∧ ∀ r, r < sF a → C 112 r = nI (fw a (srt a r))
theorem StC.cg {C C' : kS} {q : Nat} {a : kA} (hS : StC C q a) (h : ∀ j, q < j → j < q + 20 → C' j = C j) : StC C' q a := by
  obtain ⟨⟨p1, p2, p3, p4⟩, ⟨n1, n2, n3, n4⟩, ⟨e1, e2, e3, e4⟩, hl, hs⟩ := hS
  refine ⟨⟨?_, ?_, ?_, fun w hw => ?_⟩, ⟨?_, ?_, ?_, fun w hw => ?_⟩, ⟨?_, ?_, ?_, fun w hw => ?_⟩, fun j hj => ?_, fun j hj => ?_⟩
  · rw [h (q + 1) (by omega) (by omega)]; exact p1
  · rw [h (q + 1) (by omega) (by omega)]; exact p2
  · rw [h (q + 1) (by omega) (by omega)]; exact p3
  · rw [h (q + 1 + 4) (by omega) (by omega), h (q + 1 + 2) (by omega) (by omega)]; exact p4 w hw
  · rw [h (q + 6) (by omega) (by omega)]; exact n1
  · rw [h (q + 6) (by omega) (by omega)]; exact n2
  · rw [h (q + 6) (by omega) (by omega)]; exact n3
  · rw [h (q + 6 + 4) (by omega) (by omega), h (q + 6 + 2) (by omega) (by omega)]; exact n4 w hw
  · rw [h (q + 11) (by omega) (by omega)]; exact e1
  · rw [h (q + 11) (by omega) (by omega)]; exact e2
  · rw [h (q + 11) (by omega) (by omega)]; exact e3
  · rw [h (q + 11 + 4) (by omega) (by omega), h (q + 11 + 2) (by omega) (by omega)]; exact e4 w hw
  · rw [h (q + 17) (by omega) (by omega)]; exact hl j hj
  · rw [h (q + 19) (by omega) (by omega)]; exact hs j hj
theorem q_en0 : nI 0 - nI 1 = -nI 1 := by decide
theorem q_enp {n : Nat} (h : ¬ n = 0) : nI n - nI 1 = nI (n - 1) := q_sub (by omega)
section XX2
variable {C : kS} {a : kA} {N : Nat}
theorem x_nameOf (h : C 106 3 = nI (a 2 + 1)) (h2 : a 2 ≤ 4) {f : Nat} (hf : f ≤ 1000) : f_X1_nameOf N C (nI f) = some (nI (f / (a 2 + 1))) := by
  unfold f_X1_nameOf
  rw [h]
  simp (disch := omega) only [i_1, q_le, Nat.le_add_left, ↓reduceIte, ↓jn_eq, q_nz, q_div]
theorem x_endingOf (h : C 106 3 = nI (a 2 + 1)) (h2 : a 2 ≤ 4) {f : Nat} (hf : f ≤ 1000) : f_X1_endingOf N C (nI f) = some (nI (f % (a 2 + 1)) - nI 1) := by
  unfold f_X1_endingOf
  rw [h]
  simp (disch := omega) only [i_1, q_le, Nat.le_add_left, ↓reduceIte, ↓jn_eq, q_nz, q_rem]
theorem x_widthOfForm (hS : StC C 4 a) (hw : WF a) {f : Nat} (hf : f < sF a) (hN : 3000 ≤ N) : f_X5_widthOfForm N C (nI (f / (a 2 + 1))) (nI (f % (a 2 + 1)) - nI 1) = some (nI (fw a f)) := by
  obtain ⟨w0, w1, w2, w3, w4, w5, w6, w7, wl, wp, wn, we⟩ := id hw
  obtain ⟨hp, hn, he, hl, hs⟩ := hS
  have hr := fr (a := a) f
  unfold f_X5_widthOfForm
  rw [x_widthOf (k := 10) (mw := 8) (ml := 8) hn rfl rfl (by decide) (by decide) w1 hl wl wn (fq hf) hN, ob]
  by_cases z : f % (a 2 + 1) = 0
  · rw [z, q_en0, x_widthN (k := 15) he hN, ob, nI_add]
    unfold fw fnA
    rw [if_pos z]
  · rw [q_enp z, x_widthOf (k := 15) (mw := 4) (ml := 3) he rfl rfl (by decide) (by decide) w2 hl wl we (by omega) hN, ob, nI_add]
    unfold fw fnA feA
    rw [if_neg z]
theorem x_formsAhead (hF : C 106 4 = nI (sF a)) (h8 : ∀ f, f < sF a → C 108 f = nI (fw a f)) (hw : WF a) {f : Nat} (hf : f < sF a) (hN : 3000 ≤ N) : f_X1_formsAheadOf N C (nI f) = some (nI (rk a f)) := by
  have hle := sF_le hw
  have hb := fw_le hw hf
  unfold f_X1_formsAheadOf
  rw [x_at (k := 107) (n := 40) rfl (by omega) (by decide), ob, h8 f hf]
  simp only [↓jn_eq]
  obtain ⟨m, e⟩ := lpF (fun m i (x : Int32) => lp_X1_formsAheadOf_14 N C (nI f) (nI (fw a f)) (fun x3 => some x3) m x (nI i)) (fun i => nI (ct (ahd a f) i)) (sF a) (fun m g hg => by
    have hb2 := fw_le hw hg
    have hc := ct_le (ahd a f) g
    show lp_X1_formsAheadOf_14 N C (nI f) (nI (fw a f)) _ (m + 1) (nI (ct (ahd a f) g)) (nI g) = lp_X1_formsAheadOf_14 N C (nI f) (nI (fw a f)) _ m (nI (ct (ahd a f) (g + 1))) (nI (g + 1))
    rw [lp_X1_formsAheadOf_14, ct, x_at (k := 107) (n := 40) rfl (by omega) (by decide), ob, h8 g hg, hF]
    simp (disch := omega) only [q_le, Nat.not_le.mpr hg, ↓reduceIte, ↓jn_eq, q_lt, q_eq, i_1, nI_add]
    by_cases y1 : fw a g < fw a f
    · have ys : ahd a f g = true := decide_eq_true (Or.inl y1)
      simp only [y1, ↓reduceIte, ys]
    · by_cases y2 : fw a g = fw a f
      · by_cases y3 : f ≤ g
        · have ys : ahd a f g = false := decide_eq_false (by omega)
          simp only [y2, Nat.lt_irrefl, y3, ↓reduceIte, ys, Bool.false_eq_true, Nat.add_zero]
        · have ys : ahd a f g = true := decide_eq_true (Or.inr ⟨y2, by omega⟩)
          simp only [y2, Nat.lt_irrefl, y3, ↓reduceIte, ys]
      · have ys : ahd a f g = false := decide_eq_false (by omega)
        simp only [y2, y1, ↓reduceIte, ys, Bool.false_eq_true, Nat.add_zero]) (N := N) 0 (Nat.zero_le _) (by omega)
  refine Eq.trans ?_ (e.trans ?_)
  · rfl
  · show lp_X1_formsAheadOf_14 N C (nI f) (nI (fw a f)) _ (m + 1) (nI (ct (ahd a f) (sF a))) (nI (sF a)) = _
    rw [lp_X1_formsAheadOf_14, hF]
    simp (disch := omega) only [q_le, Nat.le_refl, ↓reduceIte]
    rfl
theorem x_measure (hS : StC C 4 a) (hw : WF a) (hN : 3000 ≤ N) : ∃ C', f_X1_measure N C = some C' ∧ (∀ j, j ≠ 106 → j ≠ 108 → j ≠ 110 → j ≠ 112 → C' j = C j) ∧ FmC C' a := by
  obtain ⟨w0, w1, w2, w3, w4, w5, w6, w7, wl, wp, wn, we⟩ := id hw
  have hle := sF_le hw
  obtain ⟨hp, hn, he, hl, hs⟩ := id hS
  unfold f_X1_measure f_X7_size
  have e1 : C 15 4 = nI (a 2) := he.2.2.1
  have e2 : C 10 4 = nI (a 1) := hn.2.2.1
  simp only [ob, ↓jn_eq, e1, e2, i_1, nI_add, up1_s, up1_n (show (10 : Nat) ≠ 106 by decide), pk_us, pk_mul]
  generalize hC0 : up1 (up1 C 106 (upd (C 106) 3 (nI (a 2 + 1)))) 106 (upd (upd (C 106) 3 (nI (a 2 + 1))) 4 (nI (a 1 * (a 2 + 1)))) = C0
  have a0 : ∀ j, j ≠ 106 → C0 j = C j := fun j hj => by rw [← hC0, up1_n hj, up1_n hj]
  have a3 : C0 106 3 = nI (a 2 + 1) := by rw [← hC0, up1_s, pk_un (by decide), pk_us]
  have a4 : C0 106 4 = nI (sF a) := by rw [← hC0, up1_s, pk_us]; rfl
  obtain ⟨C1, n, ⟨b0, b1⟩, e⟩ := lpN (fun n i (x : kS) => lp_X1_measure_31 N (fun C7 => lp_X1_measure_69 N (fun C9 => some C9) N 0 C7) n (nI i) x) (fun f x => (∀ j, j ≠ 108 → x j = C0 j) ∧ ∀ g, g < f → x 108 g = nI (fw a g)) (sF a) (fun n f x hf hI => by
    obtain ⟨c0, c1⟩ := hI
    have hSx : StC x 4 a := hS.cg (fun j h1 h2 => by rw [c0 j (by omega), a0 j (by omega)])
    have x3 : x 106 3 = nI (a 2 + 1) := by rw [c0 106 (by decide)]; exact a3
    have x4 : x 106 4 = nI (sF a) := by rw [c0 106 (by decide)]; exact a4
    refine ⟨up1 x 108 (upd (x 108) f (nI (fw a f))), ⟨fun j hj => by rw [up1_n hj]; exact c0 j hj, fun g hg => ?_⟩, ?_⟩
    · rw [up1_s]
      by_cases z : g = f
      · subst z
        rw [pk_us]
      · rw [pk_un z]
        exact c1 g (by omega)
    · show lp_X1_measure_31 N _ (n + 1) (nI f) x = lp_X1_measure_31 N _ n (nI (f + 1)) _
      rw [lp_X1_measure_31, x4]
      simp (disch := omega) only [q_le, Nat.not_le.mpr hf, ↓reduceIte, x_nameOf x3 w2, x_endingOf x3 w2, ob, x_widthOfForm hSx hw hf hN, i_1, nI_add]
      rw [x_put (k := 107) (n := 40) rfl (by omega) (by decide), ob]) (N := N) 0 C0 (Nat.zero_le _) (by omega) ⟨fun j _ => rfl, fun g hg => absurd hg (Nat.not_lt_zero g)⟩
  have a3b : C1 106 3 = nI (a 2 + 1) := by rw [b0 106 (by decide)]; exact a3
  have a4b : C1 106 4 = nI (sF a) := by rw [b0 106 (by decide)]; exact a4
  obtain ⟨C2, n2, ⟨d0, d1⟩, e2⟩ := lpN (fun n i (x : kS) => lp_X1_measure_69 N (fun C9 => some C9) n (nI i) x) (fun f x => (∀ j, j ≠ 110 → j ≠ 112 → x j = C1 j) ∧ ∀ g, g < f → x 110 g = nI (rk a g) ∧ x 112 (rk a g) = nI (fw a g)) (sF a) (fun n f x hf hI => by
    obtain ⟨c0, c1⟩ := hI
    have x4 : x 106 4 = nI (sF a) := by rw [c0 106 (by decide) (by decide)]; exact a4b
    have x8 : ∀ f, f < sF a → x 108 f = nI (fw a f) := fun f hf => by rw [c0 108 (by decide) (by decide)]; exact b1 f hf
    have hr := rk_lt hf
    refine ⟨up1 (up1 x 110 (upd (x 110) f (nI (rk a f)))) 112 (upd (x 112) (rk a f) (nI (fw a f))), ⟨fun j h1 h2 => by rw [up1_n h2, up1_n h1]; exact c0 j h1 h2, fun g hg => ?_⟩, ?_⟩
    · rw [up1_s, up1_n (show (110 : Nat) ≠ 112 by decide), up1_s]
      by_cases z : g = f
      · subst z
        rw [pk_us, pk_us]
        exact ⟨rfl, rfl⟩
      · rw [pk_un z, pk_un (fun q => z (rk_inj (by omega) hf q))]
        exact c1 g (by omega)
    · show lp_X1_measure_69 N _ (n + 1) (nI f) x = lp_X1_measure_69 N _ n (nI (f + 1)) _
      rw [lp_X1_measure_69, x4]
      simp (disch := omega) only [q_le, Nat.not_le.mpr hf, ↓reduceIte, x_formsAhead x4 x8 hw hf hN, ob, i_1, nI_add]
      rw [x_put (k := 109) (n := 40) rfl (by omega) (by decide), ob, x_at (k := 107) (n := 40) rfl (by omega) (by decide), ob, x_put (k := 111) (n := 40) rfl (by omega) (by decide), ob]
      simp (disch := decide) only [up1_n, x8 f hf, Nat.reduceAdd]) (N := N) 0 C1 (Nat.zero_le _) (by omega) ⟨fun j _ _ => rfl, fun g hg => absurd hg (Nat.not_lt_zero g)⟩
  refine ⟨C2, ?_, fun j h1 h2 h3 h4 => by rw [d0 j h3 h4, b0 j h2, a0 j h1], ?_, ?_, fun f hf => by rw [d0 108 (by decide) (by decide)]; exact b1 f hf, fun f hf => (d1 f hf).1, fun r hr => ?_⟩
  · refine Eq.trans ?_ (e.trans ?_)
    · rfl
    · show lp_X1_measure_31 N _ (n + 1) (nI (sF a)) C1 = _
      rw [lp_X1_measure_31, a4b]
      simp (disch := omega) only [q_le, Nat.le_refl, ↓reduceIte]
      refine e2.trans ?_
      show lp_X1_measure_69 N _ (n2 + 1) (nI (sF a)) C2 = _
      have q4 : C2 106 4 = nI (sF a) := by rw [d0 106 (by decide) (by decide)]; exact a4b
      rw [lp_X1_measure_69, q4]
      simp (disch := omega) only [q_le, Nat.le_refl, ↓reduceIte]
  · rw [d0 106 (by decide) (by decide)]; exact a3b
  · rw [d0 106 (by decide) (by decide)]; exact a4b
  · have h1 := srt_ok hr
    have h2 := (d1 _ h1.1).2
    rw [h1.2] at h2
    exact h2
end XX2
end
section
/-! ===== the class's bars ===== -/
def BrC (C : kS) (k : Nat) (a : kA) (m st : Nat) : Prop := ∀ f, f < sF a → C (k + 2) f = nI (bw a m st f)
section XX3
variable {C : kS} {a : kA} {N : Nat}
theorem x_lastRank (hF : C 106 4 = nI (sF a)) (hw : WF a) {k r : Nat} (hr : r < sF a) : f_X0_lastRankOfGroup N C k (nI r) (nI (a 5)) = some (nI (eog a r)) := by
  obtain ⟨w0, w1, w2, w3, w4, w5, w6, w7, wl, wp, wn, we⟩ := id hw
  have hle := sF_le hw
  have hm := Nat.div_mul_le_self r (a 5)
  have hiff : r / a 5 + 1 < sF a / a 5 ↔ ¬ sF a ≤ r / a 5 * a 5 + a 5 - 1 + a 5 := by
    have h1 : r / a 5 + 1 < sF a / a 5 ↔ (r / a 5 + 2) * a 5 ≤ sF a := Nat.le_div_iff_mul_le (show 0 < a 5 by omega)
    rw [h1, Nat.add_mul]
    omega
  unfold f_X0_lastRankOfGroup f_X1_size eog
  simp (disch := omega) only [i_1, q_le, w5.1, ↓reduceIte, q_nz, ob, hF, ↓jn_eq]
  rw [q_div (by omega) (by omega) (by omega), pk_mul, nI_add, q_sub (by omega), nI_add]
  by_cases z : r / a 5 + 1 < sF a / a 5
  · have z2 := hiff.mp z
    rw [if_pos z]
    simp (disch := omega) only [q_le, z2, ↓reduceIte, i_0, q_nT]
  · have z2 : sF a ≤ r / a 5 * a 5 + a 5 - 1 + a 5 := Classical.not_not.mp (fun q => z (hiff.mpr q))
    rw [if_neg z]
    simp (disch := omega) only [q_le, z2, ↓reduceIte, i_0, q_sub]
theorem x_barWidth (hF : FmC C a) (hw : WF a) {k m st f : Nat} (hm : m ≤ 3) (hst : 1 ≤ st ∧ st ≤ 50) (hf : f < sF a) : f_X0_barWidth N C k (nI f) (nI m) (nI st) (nI (a 5)) = some (nI (bw a m st f)) := by
  have hle := sF_le hw
  have hb := fw_le hw hf
  have hr := rk_lt hf
  have he := eog_lt hw hr
  obtain ⟨f1, f2, f3, f4, f5⟩ := hF
  unfold f_X0_barWidth bw f_X1_widthOf f_X1_widthAtRank f_X1_rankOf f_X1_size
  rw [x_at (k := 107) (n := 40) rfl (by omega) (by decide), x_at (k := 109) (n := 40) rfl (by omega) (by decide)]
  simp (disch := omega) only [ob, f3 f hf, f4 f hf, i_1, i_2, i_3, q_eq, x_lastRank f2 hw hr, f2, q_sub]
  rw [x_at (k := 111) (n := 40) rfl (by omega) (by decide), x_at (k := 111) (n := 40) rfl (by omega) (by decide)]
  simp (disch := omega) only [ob, f5 _ he, f5 (sF a - 1)]
  by_cases z1 : m = 1
  · simp only [z1, ↓reduceIte]
    unfold f_X0_upToMultiple
    simp (disch := omega) only [i_1, q_le, hst.1, ↓reduceIte, ↓jn_eq, q_nz, nI_add, q_sub, q_div, pk_mul, ob]
  · by_cases z2 : m = 2
    · simp only [z2, ↓reduceIte, Nat.reduceEqDiff]
    · by_cases z3 : m = 3
      · simp only [z3, ↓reduceIte, Nat.reduceEqDiff]
      · simp only [z1, z2, z3, ↓reduceIte]
theorem FmC.cg {C' : kS} (h : FmC C a) (h0 : C' 106 = C 106) (h1 : C' 108 = C 108) (h2 : C' 110 = C 110) (h3 : C' 112 = C 112) : FmC C' a := by
  unfold FmC
  rw [h0, h1, h2, h3]
  exact h
theorem x_draw (hF : FmC C a) (hw : WF a) {k m st : Nat} (hk : k = 113 ∨ k = 116) (hm : m ≤ 3) (hst : 1 ≤ st ∧ st ≤ 50) (hN : 3000 ≤ N) : ∃ C', f_X0_draw N C k (nI m) (nI st) (nI (a 5)) = some C' ∧ (∀ j, j ≠ k + 2 → C' j = C j) ∧ BrC C' k a m st := by
  have hle := sF_le hw
  have hln : ln (k + 1 + 1) = 40 := by
    rcases hk with h | h
    · subst h; rfl
    · subst h; rfl
  unfold f_X0_draw
  obtain ⟨C1, n, ⟨b0, b1⟩, e⟩ := lpN (fun n i (x : kS) => lp_X0_draw_3 N k (nI m) (nI st) (nI (a 5)) (fun C1 => some C1) n (nI i) x) (fun f x => (∀ j, j ≠ k + 2 → x j = C j) ∧ ∀ g, g < f → x (k + 2) g = nI (bw a m st g)) (sF a) (fun n f x hf hI => by
    obtain ⟨c0, c1⟩ := hI
    have hFx : FmC x a := hF.cg (c0 106 (by omega)) (c0 108 (by omega)) (c0 110 (by omega)) (c0 112 (by omega))
    refine ⟨up1 x (k + 2) (upd (x (k + 2)) f (nI (bw a m st f))), ⟨fun j hj => by rw [up1_n hj]; exact c0 j hj, fun g hg => ?_⟩, ?_⟩
    · rw [up1_s]
      by_cases z : g = f
      · subst z
        rw [pk_us]
      · rw [pk_un z]
        exact c1 g (by omega)
    · show lp_X0_draw_3 N k (nI m) (nI st) (nI (a 5)) _ (n + 1) (nI f) x = lp_X0_draw_3 N k (nI m) (nI st) (nI (a 5)) _ n (nI (f + 1)) _
      rw [lp_X0_draw_3]
      unfold f_X1_size
      simp (disch := omega) only [hFx.2.1, q_le, Nat.not_le.mpr hf, ↓reduceIte, ob, x_barWidth hFx hw hm hst hf, i_1, nI_add]
      rw [x_put (k := k + 1) hln (by omega) (by decide), ob]) (N := N) 0 C (Nat.zero_le _) (by omega) ⟨fun j _ => rfl, fun g hg => absurd hg (Nat.not_lt_zero g)⟩
  refine ⟨C1, ?_, b0, b1⟩
  simp only [↓jn_eq]
  refine Eq.trans ?_ (e.trans ?_)
  · rfl
  · show lp_X0_draw_3 N k (nI m) (nI st) (nI (a 5)) _ (n + 1) (nI (sF a)) C1 = _
    have q4 : C1 106 4 = nI (sF a) := by rw [b0 106 (by omega)]; exact hF.2.1
    rw [lp_X0_draw_3]
    unfold f_X1_size
    simp (disch := omega) only [ob, q4, q_le, Nat.le_refl, ↓reduceIte]
end XX3
end
section
/-! ===== the class's hidden words ===== -/
theorem q_m1n {n : Nat} (h : n < 2147483648) : (nI n = -nI 1) = False := by
  rw [← i_m1]
  exact q_m1 h
theorem q_and1n : nI 1 &&& nI 1 = nI 1 := by decide
section XX4
variable {C : kS} {a : kA} {N : Nat}
theorem x_lenE (hS : StC C 4 a) (hw : WF a) (f : Nat) : f_X7_lengthOf N C 15 (nI (f % (a 2 + 1)) - nI 1) = some (nI (if f % (a 2 + 1) = 0 then 0 else a (feA a f))) := by
  have hr := fr (a := a) f
  by_cases z : f % (a 2 + 1) = 0
  · rw [if_pos z, z, q_en0, x_lengthN (by decide)]
  · rw [if_neg z, q_enp z, x_lengthOf (k := 15) (mw := 4) (ml := 3) hS.2.2.1 rfl (by decide) hw.2.2.1 (by omega)]
    rfl
theorem x_isForm (hS : StC C 4 a) (hw : WF a) {w f : Nat} (hwd : w < a 0) (hf : f < sF a) (hN : 3000 ≤ N) : f_X5_isForm N C (nI w) (nI (f / (a 2 + 1))) (nI (f % (a 2 + 1)) - nI 1) = some (nI (if isF a w f = true then 1 else 0)) := by
  obtain ⟨w0, w1, w2, w3, w4, w5, w6, w7, wl, wp, wn, we⟩ := id hw
  obtain ⟨hp, hn, he, hl, hs⟩ := id hS
  have hr := fr (a := a) f
  have hq := fq hf
  have b1 := wp w hwd
  have b2 := wn _ hq
  unfold f_X5_isForm
  rw [x_lenE hS hw f, x_lengthOf (k := 5) (mw := 40) (ml := 12) hp rfl (by decide) w0 hwd, x_lengthOf (k := 10) (mw := 8) (ml := 8) hn rfl (by decide) w1 hq]
  simp only [ob, jn_eq, nI_add]
  have hfl : a (554 + 9 * (f / (a 2 + 1))) + (if f % (a 2 + 1) = 0 then 0 else a (feA a f)) = fl a f := rfl
  have b3 : (if f % (a 2 + 1) = 0 then 0 else a (feA a f)) ≤ 3 := by
    split
    · omega
    · exact (we (f % (a 2 + 1) - 1) (by omega)).1.2
  rw [hfl]
  by_cases z : a (34 + 13 * w) = fl a f
  · rw [z, if_pos rfl]
    refine (lpX (fun n i => lp_X5_isForm_41 N C (nI w) (nI (f / (a 2 + 1))) (nI (f % (a 2 + 1)) - nI 1) (nI (fl a f)) (nI (a (554 + 9 * (f / (a 2 + 1))))) (some (1 &&& 1)) n (nI i)) (fl a f) (fun k => !decide (a (34 + 13 * w + 1 + k) = fc a f k)) (fun _ => some (0 &&& 1)) (some (1 &&& 1)) (fun n i hi hp2 => ?_) (fun n i hi hp2 => ?_) (fun n => ?_) (N := N) (by omega)).trans ?_
    · show lp_X5_isForm_41 N C (nI w) (nI (f / (a 2 + 1))) (nI (f % (a 2 + 1)) - nI 1) (nI (fl a f)) (nI (a (554 + 9 * (f / (a 2 + 1))))) (some (1 &&& 1)) (n + 1) (nI i) = lp_X5_isForm_41 N C (nI w) (nI (f / (a 2 + 1))) (nI (f % (a 2 + 1)) - nI 1) (nI (fl a f)) (nI (a (554 + 9 * (f / (a 2 + 1))))) (some (1 &&& 1)) n (nI (i + 1))
      have hp3 : a (34 + 13 * w + 1 + i) = fc a f i := by simpa using hp2
      have b4 := b1.2 i (by omega)
      rw [lp_X5_isForm_41, x_letterOf (k := 5) (mw := 40) (ml := 12) hp rfl (by decide) (by decide) w0 hwd (by omega) b1.1.2, hp3]
      simp (disch := omega) only [q_le, Nat.not_le.mpr hi, ↓reduceIte, ↓jn_eq]
      by_cases y : a (554 + 9 * (f / (a 2 + 1))) ≤ i
      · have z2 : ¬ f % (a 2 + 1) = 0 := fun q => by
          rw [if_pos q] at hfl
          omega
        rw [if_neg z2] at hfl b3
        have e1 : fc a f i = a (feA a f + 1 + (i - a (554 + 9 * (f / (a 2 + 1))))) := by unfold fc fnA; rw [if_neg (by omega)]
        simp (disch := omega) only [y, ↓reduceIte, q_sub]
        rw [x_letterOf (k := 15) (mw := 4) (ml := 3) he rfl (by decide) (by decide) w2 (w := f % (a 2 + 1) - 1) (by omega) (i := i - a (554 + 9 * (f / (a 2 + 1)))) (by show _ < a (feA a f); omega) b3]
        simp only [ob]
        rw [e1]
        have e2 : 626 + 4 * (f % (a 2 + 1) - 1) = feA a f := rfl
        rw [e2, if_pos rfl, i_1, nI_add]
      · have e1 : fc a f i = a (554 + 9 * (f / (a 2 + 1)) + 1 + i) := by unfold fc fnA; rw [if_pos (by omega)]
        simp only [y, ↓reduceIte]
        rw [x_letterOf (k := 10) (mw := 8) (ml := 8) hn rfl (by decide) (by decide) w1 hq (by omega) b2.1.2]
        simp only [ob]
        rw [e1, if_pos rfl, i_1, nI_add]
    · show lp_X5_isForm_41 N C (nI w) (nI (f / (a 2 + 1))) (nI (f % (a 2 + 1)) - nI 1) (nI (fl a f)) (nI (a (554 + 9 * (f / (a 2 + 1))))) (some (1 &&& 1)) (n + 2) (nI i) = some (0 &&& 1)
      have hp3 : ¬ a (34 + 13 * w + 1 + i) = fc a f i := by simpa using hp2
      have b4 := b1.2 i (by omega)
      rw [lp_X5_isForm_41, x_letterOf (k := 5) (mw := 40) (ml := 12) hp rfl (by decide) (by decide) w0 hwd (by omega) b1.1.2]
      simp (disch := omega) only [q_le, Nat.not_le.mpr hi, ↓reduceIte, ↓jn_eq]
      by_cases y : a (554 + 9 * (f / (a 2 + 1))) ≤ i
      · have z2 : ¬ f % (a 2 + 1) = 0 := fun q => by
          rw [if_pos q] at hfl
          omega
        rw [if_neg z2] at hfl b3
        have e1 : fc a f i = a (feA a f + 1 + (i - a (554 + 9 * (f / (a 2 + 1))))) := by unfold fc fnA; rw [if_neg (by omega)]
        have b5 := (we (f % (a 2 + 1) - 1) (by omega)).2 (i - a (554 + 9 * (f / (a 2 + 1)))) (by show _ < a (feA a f); omega)
        simp (disch := omega) only [y, ↓reduceIte, q_sub]
        rw [x_letterOf (k := 15) (mw := 4) (ml := 3) he rfl (by decide) (by decide) w2 (w := f % (a 2 + 1) - 1) (by omega) (i := i - a (554 + 9 * (f / (a 2 + 1)))) (by show _ < a (feA a f); omega) b3]
        simp only [ob]
        rw [e1] at hp3
        have e2 : 626 + 4 * (f % (a 2 + 1) - 1) = feA a f := rfl
        rw [e2] at b5 ⊢
        rw [if_neg (fun q => hp3 (by have := (nI_eq (by omega) (by omega)).mp q; omega))]
      · have e1 : fc a f i = a (554 + 9 * (f / (a 2 + 1)) + 1 + i) := by unfold fc fnA; rw [if_pos (by omega)]
        have b5 := b2.2 i (by omega)
        simp only [y, ↓reduceIte]
        rw [x_letterOf (k := 10) (mw := 8) (ml := 8) hn rfl (by decide) (by decide) w1 hq (by omega) b2.1.2]
        simp only [ob]
        rw [e1] at hp3
        rw [if_neg (fun q => hp3 (by have := (nI_eq (by omega) (by omega)).mp q; omega))]
    · show lp_X5_isForm_41 N C (nI w) (nI (f / (a 2 + 1))) (nI (f % (a 2 + 1)) - nI 1) (nI (fl a f)) (nI (a (554 + 9 * (f / (a 2 + 1))))) (some (1 &&& 1)) (n + 1) (nI (fl a f)) = some (1 &&& 1)
      rw [lp_X5_isForm_41]
      simp (disch := omega) only [q_le, Nat.le_refl, ↓reduceIte]
    · have e1 : isF a w f = decide (¬ fst (fun k => !decide (a (34 + 13 * w + 1 + k) = fc a f k)) (fl a f) < fl a f) := by
        unfold isF
        rw [z, decide_eq_true rfl, Bool.true_and, allB_fst]
      rw [e1]
      by_cases y : fst (fun k => !decide (a (34 + 13 * w + 1 + k) = fc a f k)) (fl a f) < fl a f
      · simp only [y, ↓reduceIte, not_true, decide_false, Bool.false_eq_true, i_0, i_1, q_and0]
      · simp only [y, ↓reduceIte, not_false_iff, decide_true, i_1, q_and1]
  · have e1 : isF a w f = false := by
      unfold isF
      rw [decide_eq_false z, Bool.false_and]
    have e2 : ¬ nI (a (34 + 13 * w)) = nI (fl a f) := fun q => z ((nI_eq (by omega) (by omega)).mp q)
    rw [if_neg e2, e1, i_0, i_1, q_and0]
    rfl
theorem x_hide1 (hS : StC C 4 a) (hF : FmC C a) (hw : WF a) {w : Nat} (hwd : w < a 0) (kont : Int32 → Option kS) (hN : 3000 ≤ N) : lp_X4_hideWords_20 N (nI w) C kont N (-nI 1) (nI 0) = kont (foV a w) := by
  have hle := sF_le hw
  have hF1 : f_X1_size N C = some (nI (sF a)) := by unfold f_X1_size; rw [hF.2.1]
  refine (lpX (fun n i => lp_X4_hideWords_20 N (nI w) C kont n (-nI 1) (nI i)) (sF a) (isF a w) (fun f => kont (nI f)) (kont (-nI 1)) (fun n f hf hp => ?_) (fun n f hf hp => ?_) (fun n => ?_) (N := N) (by omega)).trans ?_
  · show lp_X4_hideWords_20 N (nI w) C kont (n + 1) (-nI 1) (nI f) = lp_X4_hideWords_20 N (nI w) C kont n (-nI 1) (nI (f + 1))
    rw [lp_X4_hideWords_20, i_m1]
    simp (disch := omega) only [hF1, ob, q_le, Nat.not_le.mpr hf, ↓reduceIte, x_nameOf hF.1 hw.2.2.1, x_endingOf hF.1 hw.2.2.1, x_isForm hS hw hwd hf hN, hp, Bool.false_eq_true, i_0, i_1, ↓jn_eq, nI_add]
  · show lp_X4_hideWords_20 N (nI w) C kont (n + 2) (-nI 1) (nI f) = kont (nI f)
    rw [lp_X4_hideWords_20, i_m1]
    simp (disch := omega) only [hF1, ob, q_le, Nat.not_le.mpr hf, ↓reduceIte, x_nameOf hF.1 hw.2.2.1, x_endingOf hF.1 hw.2.2.1, x_isForm hS hw hwd hf hN, hp, i_0, i_1, ↓jn_eq, nI_add, q_nT]
    rw [lp_X4_hideWords_20, i_m1]
    simp (disch := omega) only [hF1, ob, q_m1n, ↓reduceIte, ite_self]
  · show lp_X4_hideWords_20 N (nI w) C kont (n + 1) (-nI 1) (nI (sF a)) = kont (-nI 1)
    rw [lp_X4_hideWords_20]
    simp (disch := omega) only [hF1, ob, q_le, Nat.le_refl, ↓reduceIte]
  · unfold foV fo
    split
    · rfl
    · rw [i_m1]
def HdC (C : kS) (a : kA) : Prop := ∀ w, w < a 0 → C 121 w = foV a w ∧ C 123 w = nI (wd a (34 + 13 * w))
theorem x_hideWords (hS : StC C 4 a) (hF : FmC C a) (hw : WF a) (hN : 3000 ≤ N) : ∃ C', f_X4_hideWords N C = some C' ∧ (∀ j, j ≠ 121 → j ≠ 123 → C' j = C j) ∧ HdC C' a := by
  obtain ⟨w0, w1, w2, w3, w4, w5, w6, w7, wl, wp, wn, we⟩ := id hw
  unfold f_X4_hideWords
  obtain ⟨C1, n, ⟨b0, b1⟩, e⟩ := lpN (fun n i (x : kS) => lp_X4_hideWords_2 N (fun C1 => some C1) n (nI i) x) (fun w x => (∀ j, j ≠ 121 → j ≠ 123 → x j = C j) ∧ ∀ v, v < w → x 121 v = foV a v ∧ x 123 v = nI (wd a (34 + 13 * v))) (a 0) (fun n w x hwd hI => by
    obtain ⟨c0, c1⟩ := hI
    have hFx : FmC x a := hF.cg (c0 106 (by decide) (by decide)) (c0 108 (by decide) (by decide)) (c0 110 (by decide) (by decide)) (c0 112 (by decide) (by decide))
    have hSx : StC x 4 a := hS.cg (fun j h1 h2 => c0 j (by omega) (by omega))
    have hSy : StC (up1 x 121 (upd (x 121) w (foV a w))) 4 a := hSx.cg (fun j h1 h2 => up1_n (by omega))
    have e1 : f_X7_size N x 5 = some (nI (a 0)) := by unfold f_X7_size; rw [hSx.1.2.2.1]
    refine ⟨up1 (up1 x 121 (upd (x 121) w (foV a w))) 123 (upd (x 123) w (nI (wd a (34 + 13 * w)))), ⟨fun j h1 h2 => by rw [up1_n h2, up1_n h1]; exact c0 j h1 h2, fun v hv => ?_⟩, ?_⟩
    · rw [up1_s, up1_n (show (121 : Nat) ≠ 123 by decide), up1_s]
      by_cases z : v = w
      · subst z
        rw [pk_us, pk_us]
        exact ⟨rfl, rfl⟩
      · rw [pk_un z, pk_un z]
        exact c1 v (by omega)
    · show lp_X4_hideWords_2 N _ (n + 1) (nI w) x = lp_X4_hideWords_2 N _ n (nI (w + 1)) _
      rw [lp_X4_hideWords_2, e1]
      simp (disch := omega) only [ob, q_le, Nat.not_le.mpr hwd, ↓reduceIte, ↓jn_eq, i_m1, i_0]
      simp only [i_1]
      rw [x_hide1 hSx hFx hw hwd _ hN]
      rw [x_put (k := 120) (n := 40) rfl (by omega) (by decide), ob, x_widthOf (k := 5) (mw := 40) (ml := 12) hSy.1 rfl rfl (by decide) (by decide) w0 hSy.2.2.2.1 wl wp hwd hN, ob, x_put (k := 122) (n := 40) rfl (by omega) (by decide), ob, nI_add]
      rfl) (N := N) 0 C (Nat.zero_le _) (by omega) ⟨fun j _ _ => rfl, fun g hg => absurd hg (Nat.not_lt_zero g)⟩
  refine ⟨C1, ?_, b0, b1⟩
  simp only [↓jn_eq]
  refine Eq.trans ?_ (e.trans ?_)
  · rfl
  · show lp_X4_hideWords_2 N _ (n + 1) (nI (a 0)) C1 = _
    have e1 : f_X7_size N C1 5 = some (nI (a 0)) := by unfold f_X7_size; rw [b0 5 (by decide) (by decide), hS.1.2.2.1]
    rw [lp_X4_hideWords_2, e1]
    simp (disch := omega) only [ob, q_le, Nat.le_refl, ↓reduceIte]
end XX4
end
section
/-! ===== the class's lines ===== -/
def ShC (C : kS) (a : kA) (m st : Nat) : Prop := C 119 8 = nI (ly (sh a m st) (a 6) (a 7) (a 0)).1 ∧ (∀ w, w < a 0 → C 125 w = nI (sh a m st w) ∧ C 127 w = nI (lno (sh a m st) (a 6) (a 7) w) ∧ C 129 w = nI (plc (sh a m st) (a 6) (a 7) w)) ∧ ∀ l, l < (ly (sh a m st) (a 6) (a 7) (a 0)).1 → C 131 l = nI (fst (isL a m st l) (a 0)) ∧ fst (isL a m st l) (a 0) < a 0
theorem ly_mono {s : Nat → Nat} {gp lw v : Nat} : ∀ d, (ly s gp lw v).1 ≤ (ly s gp lw (v + d)).1
  | 0 => Nat.le_refl _
  | d + 1 => by
    have h1 := ly_mono (s := s) (gp := gp) (lw := lw) (v := v) d
    rw [← Nat.add_assoc, ly]
    split
    · simp; omega
    · exact h1
theorem lno_lt {s : Nat → Nat} {gp lw v w : Nat} (h : v < w) : lno s gp lw v < (ly s gp lw w).1 := by
  have h1 := ly_mono (s := s) (gp := gp) (lw := lw) (v := v + 1) (w - (v + 1))
  have h2 := ly_p (s := s) (gp := gp) (lw := lw) v
  rw [show v + 1 + (w - (v + 1)) = w by omega] at h1
  unfold lno
  omega
section XX5
variable {C : kS} {a : kA} {N : Nat}
theorem x_isHidden (hH : HdC C a) (hw : WF a) {w : Nat} (hwd : w < a 0) : f_X4_isHidden N C (nI w) = some (nI (if hid a w = true then 1 else 0)) := by
  have hle := sF_le hw
  have w0 := hw.1
  unfold f_X4_isHidden
  rw [x_at (k := 120) (n := 40) rfl (by omega) (by decide), ob, (hH w hwd).1]
  cases z : hid a w with
  | true =>
    obtain ⟨z1, z2⟩ := foV_t w z
    simp (disch := omega) only [z1, i_m1, q_m1n, ↓reduceIte, ↓jn_eq, i_1, q_and1]
  | false => simp (disch := omega) only [foV_f w z, i_m1, ↓reduceIte, ↓jn_eq, i_0, i_1, q_and0, Bool.false_eq_true]
theorem x_formOf (hH : HdC C a) (hw : WF a) {w : Nat} (hwd : w < a 0) : f_X4_formOf N C (nI w) = some (foV a w) := by
  have w0 := hw.1
  unfold f_X4_formOf
  rw [x_at (k := 120) (n := 40) rfl (by omega) (by decide), ob, (hH w hwd).1]
theorem x_ownWidth (hH : HdC C a) (hw : WF a) {w : Nat} (hwd : w < a 0) : f_X4_ownWidthOf N C (nI w) = some (nI (wd a (34 + 13 * w))) := by
  have w0 := hw.1
  unfold f_X4_ownWidthOf
  rw [x_at (k := 122) (n := 40) rfl (by omega) (by decide), ob, (hH w hwd).2]
theorem x_barW {k m st f : Nat} (hB : BrC C k a m st) (hk : k = 113 ∨ k = 116) (hw : WF a) (hf : f < sF a) : f_X0_widthOf N C k (nI f) = some (nI (bw a m st f)) := by
  have hle := sF_le hw
  have hln : ln (k + 1 + 1) = 40 := by
    rcases hk with h | h
    · subst h; rfl
    · subst h; rfl
  unfold f_X0_widthOf
  rw [x_at (k := k + 1) hln (by omega) (by decide), ob, hB f hf]
theorem x_widthUnder {k m st w : Nat} (hH : HdC C a) (hB : BrC C k a m st) (hk : k = 113 ∨ k = 116) (hw : WF a) (hwd : w < a 0) : f_X4_widthUnder N C k (nI w) = some (nI (sh a m st w)) := by
  unfold f_X4_widthUnder
  rw [x_isHidden hH hw hwd, ob]
  cases z : hid a w with
  | true =>
    obtain ⟨z1, z2⟩ := foV_t w z
    rw [x_formOf hH hw hwd]
    simp (disch := omega) only [↓reduceIte, ↓jn_eq, i_0, q_nT, ob, z1, x_barW hB hk hw z2, sh_t w z]
  | false =>
    rw [x_ownWidth hH hw hwd]
    simp (disch := omega) only [↓reduceIte, ↓jn_eq, i_0, ob, sh_f w z, Bool.false_eq_true]
theorem HdC.cg {C' : kS} (h : HdC C a) (h0 : C' 121 = C 121) (h1 : C' 123 = C 123) : HdC C' a := by
  unfold HdC
  rw [h0, h1]
  exact h
theorem BrC.cg {C' : kS} {k m st : Nat} (h : BrC C k a m st) (h0 : C' (k + 2) = C (k + 2)) : BrC C' k a m st := by
  unfold BrC
  rw [h0]
  exact h
theorem x_flow {m st : Nat} (hS : StC C 4 a) (hH : HdC C a) (hB : BrC C 113 a m st) (hw : WF a) (hst : 1 ≤ st ∧ st ≤ 50) (hN : 3000 ≤ N) : ∃ C', f_X4_flow N C 113 = some C' ∧ (∀ j, j ≠ 119 → j ≠ 125 → j ≠ 127 → j ≠ 129 → j ≠ 131 → C' j = C j) ∧ ShC C' a m st := by
  obtain ⟨w0, w1, w2, w3, w4, w5, w6, w7, wl, wp, wn, we⟩ := id hw
  have hle := sF_le hw
  have hly := ly_b (s := sh a m st) (gp := a 6) (lw := a 7) (n := a 0) (fun v hv => sh_le hw hst hv) (by omega) (by omega)
  have e3 : C 23 3 = nI (a 6) := hS.2.2.2.2 3 (by decide)
  have e4 : C 23 4 = nI (a 7) := hS.2.2.2.2 4 (by decide)
  unfold f_X4_flow
  rw [i_3, x_at (k := 22) (n := 5) rfl (by decide) (by decide), ob, e3, i_4, x_at (k := 22) (n := 5) rfl (by decide) (by decide), ob, e4]
  simp only [↓jn_eq, i_0]
  obtain ⟨⟨x, C1⟩, n, ⟨b0, b1, ⟨u, b2, b2a, b2b⟩, b3, b4⟩, e⟩ := lpN (fun n i (y : Int32 × kS) => lp_X4_flow_35 N 113 (nI (a 6)) (nI (a 7)) (fun C6 => some C6) n y.1 (nI i) y.2) (fun w y => (∀ j, j ≠ 119 → j ≠ 125 → j ≠ 127 → j ≠ 129 → j ≠ 131 → y.2 j = C j) ∧ y.2 119 8 = nI (ly (sh a m st) (a 6) (a 7) w).1 ∧ (∃ u, y.1 = nI u ∧ (w = 0 → u = 0) ∧ (¬ w = 0 → u + a 6 = (ly (sh a m st) (a 6) (a 7) w).2)) ∧ (∀ v, v < w → y.2 125 v = nI (sh a m st v) ∧ y.2 127 v = nI (lno (sh a m st) (a 6) (a 7) v) ∧ y.2 129 v = nI (plc (sh a m st) (a 6) (a 7) v)) ∧ ∀ l, l < (ly (sh a m st) (a 6) (a 7) w).1 → y.2 131 l = nI (fst (isL a m st l) w) ∧ fst (isL a m st l) w < w) (a 0) (fun n w y hwd hI => by
    obtain ⟨x, D⟩ := y
    obtain ⟨b0, b1, ⟨u, b2, b2a, b2b⟩, b3, b4⟩ := hI
    simp only at b0 b1 b2 b3 b4
    subst b2
    have hHx : HdC D a := hH.cg (b0 121 (by decide) (by decide) (by decide) (by decide) (by decide)) (b0 123 (by decide) (by decide) (by decide) (by decide) (by decide))
    have hBx : BrC D 113 a m st := hB.cg (b0 115 (by decide) (by decide) (by decide) (by decide) (by decide))
    have e1 : f_X7_size N D 5 = some (nI (a 0)) := by unfold f_X7_size; rw [b0 5 (by decide) (by decide) (by decide) (by decide) (by decide), hS.1.2.2.1]
    have s1 := sh_le hw (m := m) hst hwd
    have l1 := hly w (by omega)
    have l2 := hly (w + 1) (by omega)
    have hp0 := ly_p (s := sh a m st) (gp := a 6) (lw := a 7) w
    have hu : u ≤ 400 := by
      by_cases q : w = 0
      · have := b2a q; omega
      · have := b2b q; omega
    by_cases z : w = 0 ∨ a 7 < (ly (sh a m st) (a 6) (a 7) w).2 + sh a m st w
    · have d1 : ly (sh a m st) (a 6) (a 7) (w + 1) = ((ly (sh a m st) (a 6) (a 7) w).1 + 1, sh a m st w + a 6) := by rw [ly, if_pos z]
      have d2 : plc (sh a m st) (a 6) (a 7) w = 0 := by unfold plc; rw [if_pos z]
      have d3 : lno (sh a m st) (a 6) (a 7) w = (ly (sh a m st) (a 6) (a 7) w).1 := by unfold lno; rw [d1]; rfl
      rw [d1] at l2 hp0
      refine ⟨(nI (sh a m st w), up1 (up1 (up1 (up1 (up1 D 131 (upd (D 131) (ly (sh a m st) (a 6) (a 7) w).1 (nI w))) 119 (upd (D 119) 8 (nI ((ly (sh a m st) (a 6) (a 7) w).1 + 1)))) 125 (upd (D 125) w (nI (sh a m st w)))) 127 (upd (D 127) w (nI (ly (sh a m st) (a 6) (a 7) w).1))) 129 (upd (D 129) w (nI 0))), ⟨fun j h1 h2 h3 h4 h5 => ?_, ?_, ⟨sh a m st w, rfl, fun q => absurd q (Nat.succ_ne_zero w), fun _ => by rw [d1]⟩, fun v hv => ?_, fun l hl => ?_⟩, ?_⟩
      · simp only []
        rw [up1_n h4, up1_n h3, up1_n h2, up1_n h1, up1_n h5]
        exact b0 j h1 h2 h3 h4 h5
      · simp only []
        rw [up1_n (show (119 : Nat) ≠ 129 by decide), up1_n (show (119 : Nat) ≠ 127 by decide), up1_n (show (119 : Nat) ≠ 125 by decide), up1_s, pk_us, d1]
      · simp only []
        rw [up1_s, up1_n (show (125 : Nat) ≠ 129 by decide), up1_n (show (125 : Nat) ≠ 127 by decide), up1_s, up1_n (show (127 : Nat) ≠ 129 by decide), up1_s]
        by_cases y : v = w
        · subst y
          rw [pk_us, pk_us, pk_us, d2, d3]
          exact ⟨rfl, rfl, rfl⟩
        · rw [pk_un y, pk_un y, pk_un y]
          exact b3 v (by omega)
      · simp only []
        rw [up1_n (show (131 : Nat) ≠ 129 by decide), up1_n (show (131 : Nat) ≠ 127 by decide), up1_n (show (131 : Nat) ≠ 125 by decide), up1_n (show (131 : Nat) ≠ 119 by decide), up1_s]
        rw [d1] at hl
        simp only at hl
        by_cases y : l = (ly (sh a m st) (a 6) (a 7) w).1
        · have f1 : fst (isL a m st l) (w + 1) = w := fst_uniq (Nat.lt_succ_self w) (decide_eq_true (d3.trans y.symm)) (fun j hj => decide_eq_false (fun q => by
            have := lno_lt (s := sh a m st) (gp := a 6) (lw := a 7) hj
            omega))
          rw [f1, ← y, pk_us]
          exact ⟨rfl, Nat.lt_succ_self w⟩
        · rw [pk_un y]
          have b5 := b4 l (by omega)
          rw [fst, if_pos b5.2]
          exact ⟨b5.1, Nat.lt_succ_of_lt b5.2⟩
      · show lp_X4_flow_35 N 113 (nI (a 6)) (nI (a 7)) _ (n + 1) (nI u) (nI w) D = lp_X4_flow_35 N 113 (nI (a 6)) (nI (a 7)) _ n (nI (sh a m st w)) (nI (w + 1)) _
        rw [lp_X4_flow_35, e1, x_widthUnder hHx hBx (Or.inl rfl) hw hwd]
        simp only [ob, b1]
        rw [x_put (k := 130) (n := 40) rfl (i := (ly (sh a m st) (a 6) (a 7) w).1) (by omega) (by decide)]
        simp (disch := omega) only [q_le, Nat.not_le.mpr hwd, ↓reduceIte, ↓jn_eq, ob, i_0, i_1, nI_add, q_eq, Nat.reduceAdd, up1_s, up1_n (show (119 : Nat) ≠ 131 by decide), b1]
        have hT : ∀ T1 T2 : Option kS, (if (ly (sh a m st) (a 6) (a 7) w).1 = 0 then T1 else if u + a 6 + sh a m st w ≤ a 7 then T2 else T1) = T1 := fun T1 T2 => by
          by_cases q : (ly (sh a m st) (a 6) (a 7) w).1 = 0
          · rw [if_pos q]
          · rw [if_neg q]
            by_cases q2 : w = 0
            · exact absurd (by rw [q2]; rfl) q
            · have := b2b q2
              rw [if_neg (by omega)]
        rw [hT, x_put (k := 124) (n := 40) rfl (by omega) (by decide), ob]
        simp (disch := omega) only [Nat.reduceAdd, up1_s, up1_n (show (119 : Nat) ≠ 125 by decide), pk_us, q_sub, Nat.add_sub_cancel, up1_n (show (125 : Nat) ≠ 119 by decide), up1_n (show (125 : Nat) ≠ 131 by decide)]
        rw [x_put (k := 126) (n := 40) rfl (by omega) (by decide), ob, x_put (k := 128) (n := 40) rfl (by omega) (by decide), ob]
        simp (disch := decide) only [Nat.reduceAdd, up1_n, Nat.zero_add]
    · have d1 : ly (sh a m st) (a 6) (a 7) (w + 1) = ((ly (sh a m st) (a 6) (a 7) w).1, (ly (sh a m st) (a 6) (a 7) w).2 + (sh a m st w + a 6)) := by rw [ly, if_neg z]
      have d2 : plc (sh a m st) (a 6) (a 7) w = (ly (sh a m st) (a 6) (a 7) w).2 := by unfold plc; rw [if_neg z]
      have d3 : lno (sh a m st) (a 6) (a 7) w = (ly (sh a m st) (a 6) (a 7) w).1 - 1 := by unfold lno; rw [d1]
      rw [d1] at l2 hp0
      simp only at l2 hp0
      have hz : ¬ w = 0 := fun q => z (Or.inl q)
      have hu2 := b2b hz
      refine ⟨(nI ((ly (sh a m st) (a 6) (a 7) w).2 + sh a m st w), up1 (up1 (up1 D 125 (upd (D 125) w (nI (sh a m st w)))) 127 (upd (D 127) w (nI ((ly (sh a m st) (a 6) (a 7) w).1 - 1)))) 129 (upd (D 129) w (nI (ly (sh a m st) (a 6) (a 7) w).2))), ⟨fun j h1 h2 h3 h4 h5 => ?_, ?_, ⟨_, rfl, fun q => absurd q (Nat.succ_ne_zero w), fun _ => by rw [d1, Nat.add_assoc]⟩, fun v hv => ?_, fun l hl => ?_⟩, ?_⟩
      · simp only []
        rw [up1_n h4, up1_n h3, up1_n h2]
        exact b0 j h1 h2 h3 h4 h5
      · simp only []
        rw [up1_n (show (119 : Nat) ≠ 129 by decide), up1_n (show (119 : Nat) ≠ 127 by decide), up1_n (show (119 : Nat) ≠ 125 by decide), b1, d1]
      · simp only []
        rw [up1_s, up1_n (show (125 : Nat) ≠ 129 by decide), up1_n (show (125 : Nat) ≠ 127 by decide), up1_s, up1_n (show (127 : Nat) ≠ 129 by decide), up1_s]
        by_cases y : v = w
        · subst y
          rw [pk_us, pk_us, pk_us, d2, d3]
          exact ⟨rfl, rfl, rfl⟩
        · rw [pk_un y, pk_un y, pk_un y]
          exact b3 v (by omega)
      · simp only []
        rw [up1_n (show (131 : Nat) ≠ 129 by decide), up1_n (show (131 : Nat) ≠ 127 by decide), up1_n (show (131 : Nat) ≠ 125 by decide)]
        rw [d1] at hl
        have b5 := b4 l hl
        rw [fst, if_pos b5.2]
        exact ⟨b5.1, Nat.lt_succ_of_lt b5.2⟩
      · show lp_X4_flow_35 N 113 (nI (a 6)) (nI (a 7)) _ (n + 1) (nI u) (nI w) D = lp_X4_flow_35 N 113 (nI (a 6)) (nI (a 7)) _ n (nI ((ly (sh a m st) (a 6) (a 7) w).2 + sh a m st w)) (nI (w + 1)) _
        rw [lp_X4_flow_35, e1, x_widthUnder hHx hBx (Or.inl rfl) hw hwd]
        have y1 : ¬ (ly (sh a m st) (a 6) (a 7) w).1 = 0 := by omega
        have y2 : u + a 6 + sh a m st w ≤ a 7 := by omega
        simp (disch := omega) only [ob, b1, q_le, Nat.not_le.mpr hwd, ↓reduceIte, ↓jn_eq, i_0, i_1, nI_add, q_eq, y1, y2]
        rw [x_put (k := 124) (n := 40) rfl (by omega) (by decide), ob]
        simp (disch := omega) only [Nat.reduceAdd, up1_n (show (119 : Nat) ≠ 125 by decide), b1, q_sub]
        rw [x_put (k := 126) (n := 40) rfl (by omega) (by decide), ob, x_put (k := 128) (n := 40) rfl (by omega) (by decide), ob, hu2]
        simp (disch := decide) only [Nat.reduceAdd, up1_n]) (N := N) 0 (nI 0, up1 C 119 (upd (C 119) 8 (nI 0))) (Nat.zero_le _) (by omega) ⟨fun j h1 _ _ _ _ => up1_n h1, by show up1 C 119 (upd (C 119) 8 (nI 0)) 119 8 = _; rw [up1_s, pk_us]; rfl, ⟨0, rfl, fun _ => rfl, fun q => absurd rfl q⟩, fun v hv => absurd hv (Nat.not_lt_zero v), fun l hl => absurd hl (Nat.not_lt_zero l)⟩
  simp only at b0 b1 b2 b3 b4
  refine ⟨C1, ?_, b0, b1, b3, b4⟩
  refine e.trans ?_
  show lp_X4_flow_35 N 113 (nI (a 6)) (nI (a 7)) _ (n + 1) x (nI (a 0)) C1 = _
  have e1 : f_X7_size N C1 5 = some (nI (a 0)) := by unfold f_X7_size; rw [b0 5 (by decide) (by decide) (by decide) (by decide) (by decide), hS.1.2.2.1]
  rw [lp_X4_flow_35, e1]
  simp (disch := omega) only [ob, q_le, Nat.le_refl, ↓reduceIte]
end XX5
end
section
/-! ===== the class's sums ===== -/
theorem lpE {β : Type} (L : Nat → Int32 → Int32 → β) (F : Nat → Nat) (m : Nat) {R : β} {N : Nat} (hN : m < N) (hs : ∀ n w, w < m → L (n + 1) (nI (F w)) (nI w) = L n (nI (F (w + 1))) (nI (w + 1))) (he : ∀ n, L (n + 1) (nI (F m)) (nI m) = R) : L N (nI (F 0)) (nI 0) = R := by
  obtain ⟨n, e⟩ := lpF (fun n i (x : Int32) => L n x (nI i)) (fun i => nI (F i)) m (fun n i hi => hs n i hi) (N := N) 0 (Nat.zero_le _) hN
  exact e.trans (he n)
theorem lpB {β : Type} (L : Nat → Int32 → Int32 → β) (F : Nat → Nat) (b m : Nat) {R : β} {N : Nat} (hN : m < N) (hs : ∀ n w, w < m → L (n + 1) (nI (F w)) (nI (b + w)) = L n (nI (F (w + 1))) (nI (b + w + 1))) (he : ∀ n, L (n + 1) (nI (F m)) (nI (b + m)) = R) : L N (nI (F 0)) (nI b) = R := by
  obtain ⟨n, e⟩ := lpF (fun n i (x : Int32) => L n x (nI (b + i))) (fun i => nI (F i)) m (fun n i hi => hs n i hi) (N := N) 0 (Nat.zero_le _) hN
  exact e.trans (he n)
section XX6
variable {C : kS} {a : kA} {N m st : Nat}
theorem x_size (hS : StC C 4 a) : f_X7_size N C 5 = some (nI (a 0)) ∧ f_X7_size N C 10 = some (nI (a 1)) ∧ f_X7_size N C 15 = some (nI (a 2)) := by
  unfold f_X7_size
  rw [hS.1.2.2.1, hS.2.1.2.2.1, hS.2.2.1.2.2.1]
  exact ⟨rfl, rfl, rfl⟩
theorem x_rowW {k f : Nat} (hB : BrC C k a m st) (hk : k = 113 ∨ k = 116) (hw : WF a) (hf : f < sF a) : f_X3_at N C (k + 1) (nI f) = some (nI (bw a m st f)) := by
  have hle := sF_le hw
  have hln : ln (k + 1 + 1) = 40 := by
    rcases hk with h | h
    · subst h; rfl
    · subst h; rfl
  rw [x_at (k := k + 1) hln (by omega) (by decide), hB f hf]
theorem x_nu {k v : Nat} (hF : FmC C a) (hB : BrC C k a m st) (hk : k = 113 ∨ k = 116) (hw : WF a) (hst : 1 ≤ st ∧ st ≤ 50) (hv : v ≤ 1000) (hN : 3000 ≤ N) : f_X0_namesUnder N C k (nI v) = some (nI (nuM a m st v)) := by
  have hle := sF_le hw
  unfold f_X0_namesUnder
  rw [jn_eq, i_0]
  refine lpE (fun n x y => lp_X0_namesUnder_4 N C k (nI v) (fun x1 => some x1) n x y) (fun f => nu (bw a m st) (a 2 + 1) v f) (sF a) (by omega) (fun n f hf => ?_) (fun n => ?_)
  · have h8 := fq8 hw hf
    have hb := bw_le hw (m := m) hst hf
    have h6 := nu_256 (b := bw a m st) (e := a 2 + 1) (v := v) (n := f) (fun g hg => fq8 hw (by omega))
    rw [lp_X0_namesUnder_4, nu, x_rowW hB hk hw hf]
    unfold f_X1_size
    simp (disch := omega) only [hF.2.1, q_le, Nat.not_le.mpr hf, ob, ↓reduceIte, ↓jn_eq, q_eq, x_nameOf hF.1 hw.2.2.1, nI_bit]
    by_cases z : bw a m st f = v
    · simp only [z, ↓reduceIte, nI_bit _ h8, nI_or h6 (bit_256 h8), i_1, nI_add]
    · simp only [z, ↓reduceIte, i_1, nI_add]
  · rw [lp_X0_namesUnder_4]
    unfold f_X1_size
    simp (disch := omega) only [hF.2.1, q_le, Nat.le_refl, ob, ↓reduceIte]
    rfl
theorem x_leastGap {k nm v : Nat} (hF : FmC C a) (hB : BrC C k a m st) (hk : k = 113 ∨ k = 116) (hw : WF a) (hst : 1 ≤ st ∧ st ≤ 50) (hn : nm < a 1) (hv : v ≤ 500) (hN : 3000 ≤ N) : f_X0_leastGap N C k (nI nm) (nI v) = some (lgE (-nI 1) (lgA a m st nm v)) := by
  have hle := sF_le hw
  have w1 := hw.2.1
  unfold f_X0_leastGap
  simp only [↓jn_eq]
  rw [i_0, i_m1]
  obtain ⟨n, e⟩ := lpF (fun n i (x : Int32) => lp_X0_leastGap_5 N C k (nI nm) (nI v) (fun x1 => some x1) n x (nI i)) (fun i => lgE (-nI 1) (lg a m st nm v i)) (sF a) (fun n f hf => by
    have hb := bw_le hw (m := m) hst hf
    have hb2 := bw_ge hw (m := m) (f := f) hst.1 hf
    have hb3 := fw_le hw hf
    have hlb := lg_b a m st nm hv f
    have hq := fq hf
    show lp_X0_leastGap_5 N C k (nI nm) (nI v) _ (n + 1) (lgE (-nI 1) (lg a m st nm v f)) (nI f) = lp_X0_leastGap_5 N C k (nI nm) (nI v) _ n (lgE (-nI 1) (lg a m st nm v (f + 1))) (nI (f + 1))
    rw [lp_X0_leastGap_5, lg, x_rowW hB hk hw hf]
    unfold f_X1_size f_X1_widthOf
    rw [x_at (k := 107) (n := 40) rfl (by omega) (by decide), hF.2.2.1 f hf, i_m1]
    simp (disch := omega) only [hF.2.1, q_le, Nat.not_le.mpr hf, ob, ↓reduceIte, ↓jn_eq, q_eq, x_nameOf hF.1 hw.2.2.1, i_1, nI_add]
    by_cases z0 : f / (a 2 + 1) = nm
    · by_cases z : bw a m st f = v
      · have z3 : fw a f ≤ v := by omega
        simp (disch := omega) only [z0, z, ↓reduceIte, q_sub, true_and]
        by_cases y : lg a m st nm v f = 1000
        · have y2 : ¬ v - fw a f = 1000 := by omega
          have y3 : ¬ 1000 ≤ v - fw a f := by omega
          simp only [lgE, y, ↓reduceIte, y2, y3]
        · have y2 : ¬ v - fw a f = 1000 := by omega
          simp (disch := omega) only [lgE, y, ↓reduceIte, y2, q_m1n, q_lt]
          by_cases y3 : lg a m st nm v f ≤ v - fw a f
          · simp only [y3, ↓reduceIte, y, Nat.not_lt.mpr y3]
          · simp only [y3, ↓reduceIte, y2, Nat.lt_of_not_le y3]
      · simp only [z0, z, ↓reduceIte, and_false]
    · simp only [z0, ↓reduceIte, false_and]) (N := N) 0 (Nat.zero_le _) (by omega)
  refine Eq.trans ?_ (e.trans ?_)
  · rfl
  · show lp_X0_leastGap_5 N C k (nI nm) (nI v) _ (n + 1) (lgE (-nI 1) (lg a m st nm v (sF a))) (nI (sF a)) = _
    rw [lp_X0_leastGap_5]
    unfold f_X1_size
    simp (disch := omega) only [hF.2.1, q_le, Nat.le_refl, ob, ↓reduceIte]
    rfl
theorem x_ahead {n v : Nat} (hS : StC C 4 a) (hF : FmC C a) (hB : BrC C 113 a m st) (hw : WF a) (hst : 1 ≤ st ∧ st ≤ 50) (hn : n < a 1) (hv : v ≤ 500) (hg : lgA a m st n v ≠ 1000) (hN : 3000 ≤ N) : f_X8_guessesAheadOf N C (nI n) (nI (lgA a m st n v)) (nI v) = some (nI (ct (soon a m st n v) (a 1))) := by
  have w1 := hw.2.1
  unfold f_X8_guessesAheadOf
  simp only [↓jn_eq]
  rw [i_0]
  refine lpE (fun k x y => lp_X8_guessesAheadOf_6 N C (nI n) (nI (lgA a m st n v)) (nI v) (fun x1 => some x1) k x y) (fun i => ct (soon a m st n v) i) (a 1) (by omega) (fun k o ho => ?_) (fun k => ?_)
  · have hb := lg_b a m st o hv (sF a)
    have hb2 := lg_b a m st n hv (sF a)
    rw [lp_X8_guessesAheadOf_6, ct, x_leastGap hF hB (Or.inl rfl) hw hst ho hv hN, i_m1]
    simp (disch := omega) only [(x_size hS).2.1, q_le, Nat.not_le.mpr ho, ob, ↓reduceIte, ↓jn_eq, i_1, i_0, nI_add]
    by_cases y : lgA a m st o v = 1000
    · have ys : soon a m st n v o = false := decide_eq_false (fun q => q.1 y)
      simp only [lgE, y, ys, ↓reduceIte, nI_add, Bool.false_eq_true, Nat.add_zero, ite_self]
    · unfold lgA at y hg
      unfold lgA
      by_cases y1 : lg a m st o v (sF a) < lg a m st n v (sF a)
      · have ys : soon a m st n v o = true := decide_eq_true ⟨y, Or.inl y1⟩
        simp (disch := omega) only [lgE, y, ↓reduceIte, q_m1n, q_lt, y1, nI_add, ys, q_nT]
      · by_cases y2 : lg a m st o v (sF a) = lg a m st n v (sF a)
        · by_cases y3 : n ≤ o
          · have ys : soon a m st n v o = false := decide_eq_false (fun q => by unfold lgA at q; omega)
            simp (disch := omega) only [lgE, hg, y2, ↓reduceIte, q_m1n, q_lt, Nat.lt_irrefl, q_le, y3, nI_add, ys, Bool.false_eq_true, Nat.add_zero]
          · have ys : soon a m st n v o = true := decide_eq_true (by unfold lgA; exact ⟨y, Or.inr ⟨y2, by omega⟩⟩)
            simp (disch := omega) only [lgE, hg, y2, ↓reduceIte, q_m1n, q_lt, Nat.lt_irrefl, q_le, y3, nI_add, ys, q_nT]
        · have ys : soon a m st n v o = false := decide_eq_false (fun q => by unfold lgA at q; omega)
          simp (disch := omega) only [lgE, y, ↓reduceIte, q_m1n, q_lt, y1, q_eq, y2, nI_add, ys, Bool.false_eq_true, Nat.add_zero]
  · rw [lp_X8_guessesAheadOf_6]
    simp (disch := omega) only [(x_size hS).2.1, q_le, Nat.le_refl, ob, ↓reduceIte]
theorem x_sumW {k : Nat} (hS : StC C 4 a) (hH : HdC C a) (hB : BrC C k a m st) (hk : k = 113 ∨ k = 116) (hw : WF a) (hN : 3000 ≤ N) : f_X4_sumOfShownWidths N C k = some (nI (sumN (tm a m st 12) (a 0))) := by
  have w0 := hw.1
  unfold f_X4_sumOfShownWidths
  simp only [↓jn_eq]
  rw [i_0]
  refine lpE (fun n x y => lp_X4_sumOfShownWidths_4 N C k (fun x1 => some x1) n x y) (fun i => sumN (tm a m st 12) i) (a 0) (by omega) (fun n w hwd => ?_) (fun n => ?_)
  · rw [lp_X4_sumOfShownWidths_4, sumN, x_widthUnder hH hB hk hw hwd]
    simp (disch := omega) only [(x_size hS).1, q_le, Nat.not_le.mpr hwd, ob, ↓reduceIte, i_1, nI_add, tm]
  · rw [lp_X4_sumOfShownWidths_4]
    simp (disch := omega) only [(x_size hS).1, q_le, Nat.le_refl, ob, ↓reduceIte]
theorem x_nuW {k w : Nat} (hF : FmC C a) (hH : HdC C a) (hB : BrC C k a m st) (hk : k = 113 ∨ k = 116) (hw : WF a) (hst : 1 ≤ st ∧ st ≤ 50) (hwd : w < a 0) (hh : hid a w = true) (hN : 3000 ≤ N) : f_X4_namesUnder N C k (nI w) = some (nI (pop (nuM a m st (sh a m st w)))) := by
  obtain ⟨z1, z2⟩ := foV_t w hh
  have hb := bw_le hw (m := m) hst z2
  unfold f_X4_namesUnder
  simp (disch := omega) only [x_formOf hH hw hwd, ob, z1, x_barW hB hk hw z2, x_nu hF hB hk hw hst, x_bits (nuM_256 hw), sh_t w hh]
theorem x_betrayed {k : Nat} (hS : StC C 4 a) (hF : FmC C a) (hH : HdC C a) (hB : BrC C k a m st) (hk : k = 113 ∨ k = 116) (hw : WF a) (hst : 1 ≤ st ∧ st ≤ 50) (hN : 3000 ≤ N) : f_X4_betrayedBars N C k = some (nI (sumN (tm a m st 11) (a 0))) := by
  have w0 := hw.1
  unfold f_X4_betrayedBars
  simp only [↓jn_eq]
  rw [i_0]
  refine lpE (fun n x y => lp_X4_betrayedBars_4 N C k (fun x1 => some x1) n x y) (fun i => sumN (tm a m st 11) i) (a 0) (by omega) (fun n w hwd => ?_) (fun n => ?_)
  · have hp := pop_le (nuM a m st (sh a m st w))
    rw [lp_X4_betrayedBars_4, sumN, x_isHidden hH hw hwd]
    cases z : hid a w with
    | true =>
      rw [x_nuW hF hH hB hk hw hst hwd z hN]
      simp (disch := omega) only [(x_size hS).1, q_le, Nat.not_le.mpr hwd, ob, ↓reduceIte, ↓jn_eq, i_1, i_0, q_nT, q_eq, nI_add, tm, z, Nat.reduceEqDiff]
      by_cases y : pop (nuM a m st (sh a m st w)) = 1
      · simp only [y, ↓reduceIte]
      · simp only [y, ↓reduceIte, Nat.add_zero]
    | false => simp (disch := omega) only [(x_size hS).1, q_le, Nat.not_le.mpr hwd, ob, ↓reduceIte, ↓jn_eq, i_1, i_0, nI_add, tm, z, Nat.reduceEqDiff, Bool.false_eq_true, Nat.add_zero]
  · rw [lp_X4_betrayedBars_4]
    simp (disch := omega) only [(x_size hS).1, q_le, Nat.le_refl, ob, ↓reduceIte]
theorem x_gaps (hS : StC C 4 a) (hF : FmC C a) (hH : HdC C a) (hB : BrC C 113 a m st) (hw : WF a) (hst : 1 ≤ st ∧ st ≤ 50) (hN : 3000 ≤ N) : f_X4_sumOfGaps N C 113 = some (nI (sumN (tm a m st 13) (a 0))) := by
  have w0 := hw.1
  have hle := sF_le hw
  unfold f_X4_sumOfGaps
  simp only [↓jn_eq]
  rw [i_0]
  refine lpE (fun n x y => lp_X4_sumOfGaps_4 N C 113 (fun x1 => some x1) n x y) (fun i => sumN (tm a m st 13) i) (a 0) (by omega) (fun n w hwd => ?_) (fun n => ?_)
  · rw [lp_X4_sumOfGaps_4, sumN, x_isHidden hH hw hwd, x_formOf hH hw hwd]
    unfold f_X1_widthOf
    cases z : hid a w with
    | true =>
      obtain ⟨z1, z2⟩ := foV_t w z
      have hb := bw_ge hw (m := m) hst.1 z2
      have hx : f_X3_at N C 107 (nI (fo a w)) = some (nI (fw a (fo a w))) := by rw [x_at (k := 107) (n := 40) rfl (by omega) (by decide), hF.2.2.1 _ z2]
      rw [z1]
      simp (disch := omega) only [(x_size hS).1, q_le, Nat.not_le.mpr hwd, ob, ↓reduceIte, ↓jn_eq, i_1, i_0, q_nT, q_eq, nI_add, tm, z, Nat.reduceEqDiff, x_barW hB (Or.inl rfl) hw z2, ob, hx, q_sub, sh_t w z]
    | false => simp (disch := omega) only [(x_size hS).1, q_le, Nat.not_le.mpr hwd, ob, ↓reduceIte, ↓jn_eq, i_1, i_0, nI_add, tm, z, Nat.reduceEqDiff, Bool.false_eq_true, Nat.add_zero]
  · rw [lp_X4_sumOfGaps_4]
    simp (disch := omega) only [(x_size hS).1, q_le, Nat.le_refl, ob, ↓reduceIte]
theorem x_shown {w : Nat} (hD : ShC C a m st) (hw : WF a) (hwd : w < a 0) : f_X4_shownWidthOf N C (nI w) = some (nI (sh a m st w)) := by
  have w0 := hw.1
  unfold f_X4_shownWidthOf
  rw [x_at (k := 124) (n := 40) rfl (by omega) (by decide), ob, (hD.2.1 w hwd).1]
theorem x_barAhead {w : Nat} (hH : HdC C a) (hD : ShC C a m st) (hw : WF a) (hst : 1 ≤ st ∧ st ≤ 50) (hwd : w < a 0) (hN : 3000 ≤ N) : f_X4_hasBarAhead N C (nI w) = some (nI (if allB (fun k => !(hid a k && decide (sh a m st k = sh a m st w))) w = true then 0 else 1)) := by
  have w0 := hw.1
  have s1 := sh_le hw (m := m) hst hwd
  unfold f_X4_hasBarAhead
  simp only [↓jn_eq]
  rw [i_0, i_1, q_and0]
  refine (lpX (fun n i => lp_X4_hasBarAhead_2 N C (nI w) (some (nI 0)) n (nI i)) w (fun k => hid a k && decide (sh a m st k = sh a m st w)) (fun _ => some (nI 1)) (some (nI 0)) (fun n k hk hp => ?_) (fun n k hk hp => ?_) (fun n => ?_) (N := N) (by omega)).trans ?_
  · have s2 := sh_le hw (m := m) (w := k) hst (by omega)
    rw [lp_X4_hasBarAhead_2, x_isHidden hH hw (by omega), x_shown hD hw (by omega), x_shown hD hw hwd]
    cases z : hid a k with
    | true =>
      have hp2 : ¬ sh a m st k = sh a m st w := by
        simp only [z, Bool.true_and] at hp
        exact of_decide_eq_false hp
      simp (disch := omega) only [q_le, Nat.not_le.mpr hk, ob, ↓reduceIte, ↓jn_eq, i_1, i_0, q_nT, q_eq, hp2, nI_add, Nat.one_ne_zero]
    | false => simp (disch := omega) only [q_le, Nat.not_le.mpr hk, ob, ↓reduceIte, ↓jn_eq, i_1, i_0, nI_add, Bool.false_eq_true]
  · have s2 := sh_le hw (m := m) (w := k) hst (by omega)
    rw [lp_X4_hasBarAhead_2, x_isHidden hH hw (by omega), x_shown hD hw (by omega), x_shown hD hw hwd]
    have hp2 := Bool.and_eq_true_iff.mp hp
    have hp3 := of_decide_eq_true hp2.2
    simp (disch := omega) only [q_le, Nat.not_le.mpr hk, ob, ↓reduceIte, ↓jn_eq, i_1, i_0, q_nT, q_eq, hp2.1, hp3, q_and1, Nat.one_ne_zero]
  · rw [lp_X4_hasBarAhead_2]
    simp (disch := omega) only [q_le, Nat.le_refl, ob, ↓reduceIte]
  · rw [allB_fst]
    simp only [Bool.not_not]
    by_cases y : fst (fun k => hid a k && decide (sh a m st k = sh a m st w)) w < w
    · simp [y]
    · simp [y]
theorem x_diff (hS : StC C 4 a) (hH : HdC C a) (hD : ShC C a m st) (hw : WF a) (hst : 1 ≤ st ∧ st ≤ 50) (hN : 3000 ≤ N) : f_X4_differentBarWidths N C = some (nI (sumN (tm a m st 14) (a 0))) := by
  have w0 := hw.1
  unfold f_X4_differentBarWidths
  simp only [↓jn_eq]
  rw [i_0]
  refine lpE (fun n x y => lp_X4_differentBarWidths_4 N C (fun x1 => some x1) n x y) (fun i => sumN (tm a m st 14) i) (a 0) (by omega) (fun n w hwd => ?_) (fun n => ?_)
  · rw [lp_X4_differentBarWidths_4, sumN, x_isHidden hH hw hwd, x_barAhead hH hD hw hst hwd hN]
    cases z : hid a w with
    | true =>
      have hfr : frs a m st w = allB (fun k => !(hid a k && decide (sh a m st k = sh a m st w))) w := by unfold frs; rw [z, Bool.true_and]
      rw [← hfr]
      simp (disch := omega) only [(x_size hS).1, q_le, Nat.not_le.mpr hwd, ob, ↓reduceIte, ↓jn_eq, i_1, i_0, q_nT, q_eq, nI_add, tm, z, Nat.reduceEqDiff]
      by_cases y : frs a m st w = true
      · simp only [y, ↓reduceIte]
      · simp only [y, ↓reduceIte, Nat.add_zero, q_nT, Bool.false_eq_true]
    | false => simp (disch := omega) only [(x_size hS).1, q_le, Nat.not_le.mpr hwd, ob, ↓reduceIte, ↓jn_eq, i_1, i_0, nI_add, tm, z, Nat.reduceEqDiff, Bool.false_eq_true, Nat.add_zero]
  · rw [lp_X4_differentBarWidths_4]
    simp (disch := omega) only [(x_size hS).1, q_le, Nat.le_refl, ob, ↓reduceIte]
end XX6
end
section
/-! ===== any number is below nothing or a natural one ===== -/
theorem sg (v : Int32) : v < 0 ∨ ∃ k, k < 2147483648 ∧ v = nI k := by
  rcases Int.lt_or_le v.toInt 0 with h | h
  · exact Or.inl (Int32.lt_iff_toInt_lt.mpr h)
  · refine Or.inr ⟨v.toInt.toNat, ?_, ?_⟩
    · have := Int32.toInt_lt v
      omega
    · have h1 := Int32.toInt_lt v
      apply Int32.toInt_inj.mp
      rw [nI_toInt (by omega)]
      omega
/-! ===== lines ===== -/
section XX7
variable {C : kS} {a : kA} {N m st : Nat}
theorem lno_mono {s : Nat → Nat} {gp lw v w : Nat} (h : v ≤ w) : lno s gp lw v ≤ lno s gp lw w := by
  have h1 := ly_mono (s := s) (gp := gp) (lw := lw) (v := v + 1) (w - v)
  rw [show v + 1 + (w - v) = w + 1 by omega] at h1
  unfold lno
  omega
def lnN (a : kA) (m st : Nat) : Nat := (ly (sh a m st) (a 6) (a 7) (a 0)).1
def fsL (a : kA) (m st l : Nat) : Nat := fst (isL a m st l) (a 0)
def bhL (a : kA) (m st l : Nat) : Nat := if lnN a m st ≤ l + 1 then a 0 else fsL a m st (l + 1)
theorem fsL_yes {l : Nat} (h : fsL a m st l < a 0) : lno (sh a m st) (a 6) (a 7) (fsL a m st l) = l := of_decide_eq_true (fst_yes (isL a m st l) (a 0) h)
theorem isL_iff (hD : ShC C a m st) {l w : Nat} (hl : l < lnN a m st) (hwd : w < a 0) : isL a m st l w = true ↔ fsL a m st l ≤ w ∧ w < bhL a m st l := by
  have h1 := (hD.2.2 l hl).2
  have h2 := fsL_yes h1
  have hi : isL a m st l w = true ↔ lno (sh a m st) (a 6) (a 7) w = l := decide_eq_true_iff
  have hlt := lno_lt (s := sh a m st) (gp := a 6) (lw := a 7) hwd
  rw [hi]
  constructor
  · intro e
    have h3 : fsL a m st l ≤ w := by
      rcases Nat.lt_or_ge w (fsL a m st l) with q | q
      · have h4 := fst_no (isL a m st l) (a 0) w q
        exact absurd e (of_decide_eq_false h4)
      · exact q
    refine ⟨h3, ?_⟩
    unfold bhL
    split
    · exact hwd
    · rename_i z
      have h5 := (hD.2.2 (l + 1) (by unfold lnN at z; omega)).2
      have h6 := fsL_yes h5
      rcases Nat.lt_or_ge w (fsL a m st (l + 1)) with q | q
      · exact q
      · have h7 := lno_mono (s := sh a m st) (gp := a 6) (lw := a 7) q
        omega
  · rintro ⟨h3, h4⟩
    have h5 := lno_mono (s := sh a m st) (gp := a 6) (lw := a 7) h3
    unfold bhL at h4
    split at h4
    · rename_i z
      unfold lnN at z
      omega
    · rename_i z
      have h6 := (hD.2.2 (l + 1) (by unfold lnN at z; omega)).2
      have h7 := fsL_yes h6
      have h8 := lno_mono (s := sh a m st) (gp := a 6) (lw := a 7) (Nat.le_of_lt h4)
      have h9 := fst_no (isL a m st (l + 1)) (a 0) w h4
      have h10 := of_decide_eq_false h9
      omega
theorem bhL_b (hD : ShC C a m st) {l : Nat} (hl : l < lnN a m st) : fsL a m st l < bhL a m st l ∧ bhL a m st l ≤ a 0 := by
  have h1 := (hD.2.2 l hl).2
  refine ⟨((isL_iff hD hl h1).mp (fst_yes (isL a m st l) (a 0) h1)).2, ?_⟩
  unfold bhL
  split
  · exact Nat.le_refl _
  · exact fst_le _ _
theorem x_lineFacts (hS : StC C 4 a) (hD : ShC C a m st) (hw : WF a) {l : Nat} (hl : l < lnN a m st) : f_X4_firstWordOf N C (nI l) = some (nI (fsL a m st l)) ∧ f_X4_firstWordBehind N C (nI l) = some (nI (bhL a m st l)) := by
  have w0 := hw.1
  have h0 := (ly_b (s := sh a m st) (gp := a 6) (lw := a 7) (n := 0) (fun v hv => absurd hv (Nat.not_lt_zero v)) hw.2.2.2.2.2.2.1.2 hw.2.2.2.2.2.2.2.1.2 0 (Nat.le_refl _)).1
  have hb : lnN a m st ≤ a 0 := by
    have := hD.2.2 l hl
    rcases Nat.lt_or_ge (a 0) (lnN a m st) with q | q
    · have h3 := (hD.2.2 (a 0) q).2
      have h4 := fsL_yes h3
      have h5 : ∀ w, w ≤ a 0 → (ly (sh a m st) (a 6) (a 7) w).1 ≤ w := by
        intro w
        induction w with
        | zero => intro _; exact Nat.le_refl 0
        | succ w ih =>
          intro hh
          have := ih (by omega)
          rw [ly]
          split
          · simp; omega
          · simp; omega
      exact h5 _ (Nat.le_refl _)
    · exact q
  have hl2 : l < (ly (sh a m st) (a 6) (a 7) (a 0)).1 := hl
  constructor
  · unfold f_X4_firstWordOf
    rw [x_at (k := 130) (n := 40) rfl (by omega) (by decide), ob, (hD.2.2 l hl).1]
    rfl
  · unfold f_X4_firstWordBehind bhL
    rw [hD.1, i_1, nI_add]
    have hb2 : (ly (sh a m st) (a 6) (a 7) (a 0)).1 ≤ a 0 := hb
    unfold lnN
    by_cases z : (ly (sh a m st) (a 6) (a 7) (a 0)).1 ≤ l + 1
    · simp (disch := omega) only [q_le, z, ↓reduceIte, ↓jn_eq, (x_size hS).1, ob]
    · simp (disch := omega) only [q_le, z, ↓reduceIte, ↓jn_eq]
      rw [x_at (k := 130) (n := 40) rfl (by omega) (by decide), ob, (hD.2.2 (l + 1) (by omega)).1]
      rfl
theorem x_bars {S : Nat → Nat} (hH : HdC C a) (hw : WF a) {b n : Nat} (h0 : S 0 = 0) (hb : b + n ≤ a 0) (hs : ∀ i, i < n → S (i + 1) = S i + (if hid a (b + i) = true then 1 else 0)) (hN : 3000 ≤ N) : f_X4_barsBetween N C (nI b) (nI (b + n)) = some (nI (S n)) := by
  have w0 := hw.1
  unfold f_X4_barsBetween
  simp only [↓jn_eq]
  rw [i_0, ← h0]
  refine lpB (fun k x y => lp_X4_barsBetween_5 N C (nI (b + n)) (fun x1 => some x1) k x y) S b n (by omega) (fun k i hi => ?_) (fun k => ?_)
  · rw [lp_X4_barsBetween_5, x_isHidden hH hw (by omega), hs i hi]
    cases z : hid a (b + i) with
    | true => simp (disch := omega) only [q_le, if_neg, ob, ↓reduceIte, ↓jn_eq, i_0, i_1, q_nT, nI_add]
    | false => simp (disch := omega) only [q_le, if_neg, ob, ↓reduceIte, ↓jn_eq, i_0, i_1, nI_add, Bool.false_eq_true, Nat.add_zero]
  · rw [lp_X4_barsBetween_5]
    simp (disch := omega) only [q_le, Nat.le_refl, ↓reduceIte]
theorem x_widthB {S : Nat → Nat} (hS : StC C 4 a) (hD : ShC C a m st) (hw : WF a) {b n : Nat} (h0 : S 0 = 0) (hb : b + n ≤ a 0) (hs : ∀ i, i < n → S (i + 1) = S i + (sh a m st (b + i) + (if i = 0 then 0 else a 6))) (hN : 3000 ≤ N) : f_X4_widthBetween N C (nI b) (nI (b + n)) = some (nI (S n)) := by
  have w0 := hw.1
  have e3 : C 23 3 = nI (a 6) := hS.2.2.2.2 3 (by decide)
  unfold f_X4_widthBetween
  simp only [↓jn_eq]
  rw [i_0, ← h0]
  refine lpB (fun k x y => lp_X4_widthBetween_5 N C (nI b) (nI (b + n)) (fun x1 => some x1) k x y) S b n (by omega) (fun k i hi => ?_) (fun k => ?_)
  · rw [lp_X4_widthBetween_5, x_shown hD hw (by omega), hs i hi, i_3, x_at (k := 22) (n := 5) rfl (by decide) (by decide), e3]
    by_cases z : i = 0
    · have z2 : b + i ≤ b := by omega
      simp (disch := omega) only [q_le, if_neg, ob, ↓reduceIte, ↓jn_eq, i_0, i_1, nI_add, z2, z, Nat.add_zero]
      simp (disch := omega) only [q_le, Nat.le_refl, ↓reduceIte]
    · have z2 : ¬ b + i ≤ b := by omega
      simp (disch := omega) only [q_le, if_neg, ob, ↓reduceIte, ↓jn_eq, i_0, i_1, nI_add, z2, z, Nat.add_assoc]
  · rw [lp_X4_widthBetween_5]
    simp (disch := omega) only [q_le, Nat.le_refl, ↓reduceIte]
end XX7
end
section
/-! ===== numbers below nothing ===== -/
theorem ngLt {v : Int32} (h : v < 0) {k : Nat} (hk : k < 2147483648) : (v < nI k) = True := eq_true (Int32.lt_of_lt_of_le h (nI_pos' hk))
theorem ngLe {v : Int32} (h : v < 0) {k : Nat} (hk : k < 2147483648) : (v ≤ nI k) = True := eq_true (Int32.le_of_lt (Int32.lt_of_lt_of_le h (nI_pos' hk)))
theorem ngGe {v : Int32} (h : v < 0) {k : Nat} (hk : k < 2147483648) : (nI k ≤ v) = False := eq_false (fun q => Int32.lt_irrefl (Int32.lt_of_lt_of_le (Int32.lt_of_lt_of_le h (nI_pos' hk)) q))
theorem ngGt {v : Int32} (h : v < 0) {k : Nat} (hk : k < 2147483648) : (nI k < v) = False := eq_false (fun q => Int32.lt_irrefl (Int32.lt_trans (Int32.lt_of_lt_of_le h (nI_pos' hk)) q))
theorem ngE {v : Int32} (h : v < 0) {k : Nat} (hk : k < 2147483648) : (v = nI k) = False := eq_false (fun q => by rw [q] at h; exact nI_pos hk h)
def DvC (C : kS) (a : kA) : Prop := FmC C a ∧ BrC C 113 a (a 3) (a 4) ∧ HdC C a ∧ ShC C a (a 3) (a 4)
def RD (C M : kS) (a : kA) : Prop := WF a ∧ SM M a ∧ StC C 4 a ∧ DvC C a
section XX8
variable {C M : kS} {a : kA} {N m st : Nat}
theorem m_inN {k lo hi : Nat} (hk : k < 2147483648) (hlo : lo < 2147483648) (hhi : hi < 2147483648) : f_X9_in N (nI k) (nI lo) (nI hi) = some (nI (if lo ≤ k ∧ k ≤ hi then 1 else 0)) := by
  unfold f_X9_in
  simp (disch := omega) only [↓jn_eq, q_lt]
  by_cases y : k < lo
  · simp only [y, Nat.not_le.mpr y, ↓reduceIte, false_and, i_0, i_1, q_and0]
  · by_cases z : hi < k
    · simp only [y, z, Nat.not_le.mpr z, ↓reduceIte, and_false, i_0, i_1, q_and0]
    · simp only [y, z, Nat.not_lt.mp y, Nat.not_lt.mp z, ↓reduceIte, and_self, i_1, q_and1]
theorem m_inG {v : Int32} {lo hi : Nat} (hv : v < 0) (hlo : lo < 2147483648) : f_X9_in N v (nI lo) (nI hi) = some (nI 0) := by
  unfold f_X9_in
  simp (disch := omega) only [↓jn_eq, ngLt hv, ↓reduceIte, i_0, i_1, q_and0]
theorem m_isWordN (h : SM M a) (h0 : a 0 ≤ 40) {k : Nat} (hk : k < 2147483648) : f_X9_isWord N M (nI k) = some (nI (if k < a 0 then 1 else 0)) := by
  unfold f_X9_isWord
  simp (disch := omega) only [↓jn_eq, q_neg, i_0, q_gIn, q_cl, h _, q_le, ↓reduceIte]
  by_cases y : k < a 0
  · simp only [y, Nat.not_le.mpr y, ↓reduceIte, i_1, q_and1]
    simp (disch := omega) only [q_lt, Nat.not_lt_zero, ↓reduceIte]
  · simp (disch := omega) only [q_lt, Nat.not_lt_zero, y, Nat.not_lt.mp y, ↓reduceIte, i_1, q_and0]
theorem m_isWordG {v : Int32} (hv : v < 0) : f_X9_isWord N M v = some (nI 0) := by
  unfold f_X9_isWord
  simp (disch := omega) only [↓jn_eq, i_0, ngLt hv, ↓reduceIte, i_1, q_and0]
theorem m_isNameN (h : SM M a) (h0 : a 1 ≤ 8) {k : Nat} (hk : k < 2147483648) : f_X9_isName N M (nI k) = some (nI (if k < a 1 then 1 else 0)) := by
  unfold f_X9_isName
  simp (disch := omega) only [↓jn_eq, q_neg, i_0, i_1, q_gIn, q_cl, h _, q_le, ↓reduceIte]
  by_cases y : k < a 1
  · simp only [y, Nat.not_le.mpr y, ↓reduceIte, q_and1]
    simp (disch := omega) only [q_lt, Nat.not_lt_zero, ↓reduceIte]
  · simp (disch := omega) only [q_lt, Nat.not_lt_zero, y, Nat.not_lt.mp y, ↓reduceIte, q_and0]
theorem m_isNameG {v : Int32} (hv : v < 0) : f_X9_isName N M v = some (nI 0) := by
  unfold f_X9_isName
  simp (disch := omega) only [↓jn_eq, i_0, ngLt hv, ↓reduceIte, i_1, q_and0]
theorem x_hasN {c k n : Nat} (h : C c 4 = nI n) (hn : n < 2147483648) (hk : k < 2147483648) : f_X7_has N C c (nI k) = some (nI (if k < n then 1 else 0)) := by
  unfold f_X7_has
  simp (disch := omega) only [↓jn_eq, q_neg, h, q_le, ↓reduceIte]
  by_cases y : k < n
  · simp only [y, Nat.not_le.mpr y, ↓reduceIte, i_1, q_and1]
  · simp only [y, Nat.not_lt.mp y, ↓reduceIte, i_0, i_1, q_and0]
theorem x_hasG {c : Nat} {v : Int32} (hv : v < 0) : f_X7_has N C c v = some (nI 0) := by
  unfold f_X7_has
  simp (disch := omega) only [↓jn_eq, i_0, ngLt hv, ↓reduceIte, i_1, q_and0]
theorem m_laysNow (h : SM M a) (hw : WF a) (hN : 3000 ≤ N) : ∃ M', f_X9_laysNow N M = some M' ∧ AgM M M' ∧ LD M' a (a 3) (a 4) := by
  obtain ⟨M', e, h1, h2⟩ := m_lays h hw hw.2.2.2.1 hw.2.2.2.2.1 hN
  refine ⟨M', ?_, h1, h2⟩
  unfold f_X9_laysNow
  simp (disch := omega) only [i_3, i_4, q_gIn, q_cl, h _, e, ob]
theorem lnN_le (hw : WF a) (hst : 1 ≤ st ∧ st ≤ 50) : lnN a m st ≤ a 0 := (ly_b (s := sh a m st) (gp := a 6) (lw := a 7) (n := a 0) (fun v hv => sh_le hw hst hv) (by have := hw.2.2.2.2.2.2.1; omega) (by have := hw.2.2.2.2.2.2.2.1; omega) (a 0) (Nat.le_refl _)).1
theorem x_hasLineN (hD : ShC C a m st) (hw : WF a) (hst : 1 ≤ st ∧ st ≤ 50) {l : Nat} (hl : l < 2147483648) : f_X4_hasLine N C (nI l) = some (nI (if l < lnN a m st then 1 else 0)) := by
  have h1 := lnN_le hw (m := m) hst
  have w0 := hw.1
  have h2 : C 119 8 = nI (lnN a m st) := hD.1
  unfold f_X4_hasLine
  simp (disch := omega) only [↓jn_eq, q_neg, h2, q_le, ↓reduceIte]
  by_cases y : l < lnN a m st
  · simp only [y, Nat.not_le.mpr y, ↓reduceIte, i_1, q_and1]
  · simp only [y, Nat.not_lt.mp y, ↓reduceIte, i_0, i_1, q_and0]
theorem x_hasLineG {v : Int32} (hv : v < 0) : f_X4_hasLine N C v = some (nI 0) := by
  unfold f_X4_hasLine
  simp (disch := omega) only [↓jn_eq, i_0, ngLt hv, ↓reduceIte, i_1, q_and0]
/-- the words of a line are those from its first one on -/
theorem isL_in (hD : ShC C a m st) {l i : Nat} (hl : l < lnN a m st) (hi : i < bhL a m st l - fsL a m st l) : isL a m st l (fsL a m st l + i) = true := by
  have h1 := bhL_b hD hl
  exact (isL_iff hD hl (by omega)).mpr ⟨by omega, by omega⟩
theorem isL_lo (hD : ShC C a m st) {l w : Nat} (hl : l < lnN a m st) (hlo : w < fsL a m st l) : isL a m st l w = false := fst_no _ _ _ hlo
theorem isL_hi (hD : ShC C a m st) {l w : Nat} (hl : l < lnN a m st) (hwd : w < a 0) (hhi : bhL a m st l ≤ w) : isL a m st l w = false := by
  cases z : isL a m st l w with
  | false => rfl
  | true =>
    have := ((isL_iff hD hl hwd).mp z).2
    omega
theorem lsum_lo (hD : ShC C a m st) {l what : Nat} (hl : l < lnN a m st) : ∀ w, w ≤ fsL a m st l → lsum a m st l what w = 0
  | 0, _ => rfl
  | w + 1, h => by
    have ih := lsum_lo hD (what := what) hl w (by omega)
    rw [lsum, isL_lo hD hl (by omega), ih]
    rfl
theorem lsum_hi (hD : ShC C a m st) {l what : Nat} (hl : l < lnN a m st) : ∀ d, bhL a m st l + d ≤ a 0 → lsum a m st l what (bhL a m st l + d) = lsum a m st l what (bhL a m st l)
  | 0, _ => rfl
  | d + 1, h => by
    have ih := lsum_hi hD (what := what) hl d (by omega)
    rw [← Nat.add_assoc, lsum, isL_hi hD hl (by omega) (by omega), ih]
    rfl
theorem lsum_all (hD : ShC C a m st) {l what : Nat} (hl : l < lnN a m st) : lsum a m st l what (a 0) = lsum a m st l what (bhL a m st l) := by
  have h1 := bhL_b hD hl
  have h2 := lsum_hi hD (what := what) hl (a 0 - bhL a m st l) (by omega)
  rw [show bhL a m st l + (a 0 - bhL a m st l) = a 0 by omega] at h2
  exact h2
theorem lsum_in (hD : ShC C a m st) {l what i : Nat} (hl : l < lnN a m st) (hi : i < bhL a m st l - fsL a m st l) : lsum a m st l what (fsL a m st l + (i + 1)) = lsum a m st l what (fsL a m st l + i) + (if what = 2 then sh a m st (fsL a m st l + i) + (if i = 0 then 0 else a 6) else if what = 1 then 1 else if hid a (fsL a m st l + i) = true then 1 else 0) := by
  have h1 := bhL_b hD hl
  rw [← Nat.add_assoc, lsum, isL_in hD hl hi, if_pos rfl]
  by_cases z : i = 0
  · have e : fst (isL a m st l) (fsL a m st l + i) = fsL a m st l + i := by
      rw [z]
      exact fst_none (fun j hj => isL_lo hD hl hj)
    rw [e]
    simp only [Nat.lt_irrefl, z, ↓reduceIte]
  · have e : fst (isL a m st l) (fsL a m st l + i) = fsL a m st l := fst_uniq (by omega) (by have := isL_in hD hl (i := 0) (by omega); exact this) (fun j hj => isL_lo hD hl hj)
    rw [e]
    have e2 : fsL a m st l < fsL a m st l + i := by omega
    simp only [e2, z, ↓reduceIte]
theorem lsum_1 (hD : ShC C a m st) {l : Nat} (hl : l < lnN a m st) : ∀ i, i ≤ bhL a m st l - fsL a m st l → lsum a m st l 1 (fsL a m st l + i) = i
  | 0, _ => lsum_lo hD hl _ (Nat.le_refl _)
  | i + 1, h => by
    have ih := lsum_1 hD hl i (by omega)
    rw [lsum_in hD hl (by omega), ih]
    rfl
theorem d_max {d : Int32} {α : Type} {F : Int32 → α} : (if 0 ≤ d then F d else F 0) = F (if 0 < d then d else 0) := by
  by_cases y : 0 < d
  · rw [if_pos y, if_pos (Int32.le_of_lt y)]
  · rw [if_neg y]
    by_cases z : 0 ≤ d
    · rw [if_pos z, Int32.le_antisymm (Int32.not_lt.mp y) z]
    · rw [if_neg z]
end XX8
end
section
/-! ===== both programs' answers: lines ===== -/
section JJ1
variable {C M : kS} {a : kA} {N : Nat}
theorem x_lineW {m st l : Nat} (hS : StC C 4 a) (hD : ShC C a m st) (hw : WF a) (hl : l < lnN a m st) (hN : 3000 ≤ N) : f_X4_widthBetween N C (nI (fsL a m st l)) (nI (bhL a m st l)) = some (nI (lsum a m st l 2 (a 0))) := by
  have h1 := bhL_b hD hl
  have h2 := x_widthB (N := N) (S := fun i => lsum a m st l 2 (fsL a m st l + i)) hS hD hw (b := fsL a m st l) (n := bhL a m st l - fsL a m st l) (lsum_lo hD hl _ (Nat.le_refl _)) (by omega) (fun i hi => by
    rw [lsum_in hD hl hi, if_pos rfl]) hN
  rw [lsum_all hD hl]
  simp only [show fsL a m st l + (bhL a m st l - fsL a m st l) = bhL a m st l by omega] at h2
  exact h2
theorem x_lineB {m st l : Nat} (hH : HdC C a) (hD : ShC C a m st) (hw : WF a) (hl : l < lnN a m st) (hN : 3000 ≤ N) : f_X4_barsBetween N C (nI (fsL a m st l)) (nI (bhL a m st l)) = some (nI (lsum a m st l 4 (a 0))) := by
  have h1 := bhL_b hD hl
  have h2 := x_bars (N := N) (S := fun i => lsum a m st l 4 (fsL a m st l + i)) hH hw (b := fsL a m st l) (n := bhL a m st l - fsL a m st l) (lsum_lo hD hl _ (Nat.le_refl _)) (by omega) (fun i hi => by
    rw [lsum_in hD hl hi, if_neg (by decide), if_neg (by decide)]) hN
  rw [lsum_all hD hl]
  simp only [show fsL a m st l + (bhL a m st l - fsL a m st l) = bhL a m st l by omega] at h2
  exact h2
theorem J_line (h : RD C M a) (l w : Int32) (hN : 3000 ≤ N) : ∃ r M', f_X8_line N C l w = some r ∧ f_X9_line N M l w = some (r, M') ∧ AgM M M' := by
  obtain ⟨hw, hM, hS, hF, hB, hH, hD⟩ := h
  obtain ⟨M', eL, hA, hL⟩ := m_laysNow hM hw hN
  have hst := hw.2.2.2.2.1
  have hM' := hA.sm hM
  have b1 := lnN_le hw (m := a 3) hst
  have w0 := hw.1
  have w7 := hw.2.2.2.2.2.2.2.1
  have e14 : M' 0 14 = nI (lnN a (a 3) (a 4)) := hL.2.2.2.1
  unfold f_X8_line f_X9_line
  rw [eL, ob]
  rcases sg l with hl | ⟨k, hk, rfl⟩
  · refine ⟨-11, M', ?_, ?_, hA⟩
    · rw [x_hasLineG hl, ob, i_0, if_pos rfl]
    · rw [if_pos hl]
  · rw [x_hasLineN hD hw hst hk, ob, e14]
    simp (disch := omega) only [q_neg, ↓reduceIte, q_le]
    by_cases hkl : k < lnN a (a 3) (a 4)
    · obtain ⟨f1, f2⟩ := x_lineFacts (N := N) hS hD hw hkl
      have f3 := bhL_b hD hkl
      have hWd := x_lineW hS hD hw hkl hN
      have hBr := x_lineB hH hD hw hkl hN
      rw [f1, f2]
      have hls : ∀ {what : Nat}, lsum a (a 3) (a 4) k what (a 0) ≤ 157 * a 0 := fun {what} => lsum_le hw hst _ (Nat.le_refl _)
      have e23 : C 23 4 = nI (a 7) := hS.2.2.2.2 4 (by decide)
      simp only [hkl, Nat.not_le.mpr hkl, ↓reduceIte, i_0, i_1, i_2, i_3, i_4, q_nT, ob, hWd, hBr]
      rw [x_at (k := 22) (n := 5) rfl (by decide) (by decide), e23]
      rcases sg w with hv | ⟨j, hj, rfl⟩
      · refine ⟨-11, M', ?_, ?_, hA⟩
        · simp (disch := omega) only [ngE hv, ↓reduceIte, ob]
        · rw [m_inG hv (by decide), ob, if_pos rfl]
      · rw [m_inN hj (by decide) (by decide), ob]
        by_cases j4 : j ≤ 4
        · simp only [j4, Nat.zero_le, and_self, ↓reduceIte, q_nT]
          by_cases j0 : j = 0
          · subst j0
            refine ⟨nI (fsL a (a 3) (a 4) k), M', ?_, ?_, hA⟩
            · simp only [↓reduceIte]
            · rw [m_lineSum (what := 0) hM' hw hL hst (by omega) (by omega) hN]
              have f4 : fst (isL a (a 3) (a 4) k) (a 0) < a 0 := by
                have f5 : fsL a (a 3) (a 4) k = fst (isL a (a 3) (a 4) k) (a 0) := rfl
                omega
              simp (disch := omega) only [q_eq, ↓reduceIte, ob, f4, Nat.reduceEqDiff]
              rfl
          · by_cases j1 : j = 1
            · subst j1
              refine ⟨nI (bhL a (a 3) (a 4) k - fsL a (a 3) (a 4) k), M', ?_, ?_, hA⟩
              · simp (disch := omega) only [q_eq, Nat.one_ne_zero, ↓reduceIte, q_sub]
              · rw [m_lineSum (what := 1) hM' hw hL hst (by omega) (by omega) hN]
                simp (disch := omega) only [q_eq, ↓reduceIte, ob, Nat.reduceEqDiff, Nat.one_ne_zero]
                rw [lsum_all hD hkl]
                have f4 := lsum_1 hD hkl (bhL a (a 3) (a 4) k - fsL a (a 3) (a 4) k) (Nat.le_refl _)
                rw [show fsL a (a 3) (a 4) k + (bhL a (a 3) (a 4) k - fsL a (a 3) (a 4) k) = bhL a (a 3) (a 4) k by omega] at f4
                rw [f4]
            · by_cases j2 : j = 2
              · subst j2
                refine ⟨nI (lsum a (a 3) (a 4) k 2 (a 0)), M', ?_, ?_, hA⟩
                · simp (disch := omega) only [q_eq, Nat.reduceEqDiff, ↓reduceIte, ob]
                · rw [m_lineSum (what := 2) hM' hw hL hst (by omega) (by omega) hN]
                  simp (disch := omega) only [q_eq, ↓reduceIte, ob, Nat.reduceEqDiff]
              · by_cases j3 : j = 3
                · subst j3
                  refine ⟨if nI 0 < nI (a 7) - nI (lsum a (a 3) (a 4) k 2 (a 0)) then nI (a 7) - nI (lsum a (a 3) (a 4) k 2 (a 0)) else nI 0, M', ?_, ?_, hA⟩
                  · simp (disch := omega) only [q_eq, Nat.reduceEqDiff, ↓reduceIte, ob, jn_eq]
                  · rw [m_lineSum (what := 2) hM' hw hL hst (by omega) (by omega) hN, i_7]
                    simp (disch := omega) only [q_eq, ↓reduceIte, ob, Nat.reduceEqDiff, ↓jn_eq, q_gIn, q_cl, hM' _]
                    simp only [← i_0]
                    exact d_max (F := fun x => some (x, M'))
                · have j5 : j = 4 := by omega
                  subst j5
                  refine ⟨nI (lsum a (a 3) (a 4) k 4 (a 0)), M', ?_, ?_, hA⟩
                  · simp (disch := omega) only [q_eq, Nat.reduceEqDiff, ↓reduceIte, ob]
                  · rw [m_lineSum (what := 4) hM' hw hL hst (by omega) (by omega) hN]
                    simp (disch := omega) only [q_eq, ↓reduceIte, ob, Nat.reduceEqDiff]
        · refine ⟨-11, M', ?_, ?_, hA⟩
          · simp (disch := omega) only [q_eq, if_neg, ob]
          · simp only [j4, and_false, ↓reduceIte, ob]
    · refine ⟨-11, M', ?_, ?_, hA⟩
      · simp only [hkl, ↓reduceIte, i_0]
      · simp only [Nat.not_lt.mp hkl, ↓reduceIte]
theorem J_again (h : RD C M a) (l : Int32) (hN : 3000 ≤ N) : ∃ r M', f_X8_widthAgain N C l = some r ∧ f_X9_widthAgain N M l = some (r, M') ∧ AgM M M' := by
  obtain ⟨hw, hM, hS, hF, hB, hH, hD⟩ := h
  obtain ⟨M', eL, hA, hL⟩ := m_laysNow hM hw hN
  have hst := hw.2.2.2.2.1
  have hM' := hA.sm hM
  have b1 := lnN_le hw (m := a 3) hst
  have w0 := hw.1
  have e14 : M' 0 14 = nI (lnN a (a 3) (a 4)) := hL.2.2.2.1
  unfold f_X8_widthAgain f_X9_widthAgain
  rw [eL, ob]
  rcases sg l with hl | ⟨k, hk, rfl⟩
  · refine ⟨-11, M', ?_, ?_, hA⟩
    · rw [x_hasLineG hl, ob, i_0, if_pos rfl]
    · rw [if_pos hl]
  · rw [x_hasLineN hD hw hst hk, ob, e14]
    simp (disch := omega) only [q_neg, ↓reduceIte, q_lt]
    by_cases hkl : k < lnN a (a 3) (a 4)
    · obtain ⟨f1, f2⟩ := x_lineFacts (N := N) hS hD hw hkl
      have f3 := bhL_b hD hkl
      refine ⟨nI (plc (sh a (a 3) (a 4)) (a 6) (a 7) (bhL a (a 3) (a 4) k - 1)) + nI (sh a (a 3) (a 4) (bhL a (a 3) (a 4) k - 1)), M', ?_, ?_, hA⟩
      · simp (disch := omega) only [hkl, ↓reduceIte, i_0, i_1, q_nT, f2, ob, q_sub, x_shown hD hw]
        unfold f_X4_placeOf
        rw [x_at (k := 128) (n := 40) rfl (by omega) (by decide), ob, (hD.2.1 _ (by omega)).2.2, ob]
      · simp only [hkl, ↓reduceIte, ↓jn_eq, i_0]
        have hinv := lpE (N := N) (fun n x y => lp_X9_widthAgain_23 N (nI k) M' (fun x5 => gIn x5 40 (gIn x5 40 (some (M' 10 x5.toNatClampNeg + M' 8 x5.toNatClampNeg, M')))) n x y) (fun w => if w ≤ fsL a (a 3) (a 4) k then 0 else if w ≤ bhL a (a 3) (a 4) k then w - 1 else bhL a (a 3) (a 4) k - 1) (a 0) (R := some (nI (plc (sh a (a 3) (a 4)) (a 6) (a 7) (bhL a (a 3) (a 4) k - 1)) + nI (sh a (a 3) (a 4) (bhL a (a 3) (a 4) k - 1)), M')) (by omega) (fun n w hwd => ?_) (fun n => ?_)
        · exact hinv
        · obtain ⟨d1, d2, d3, d4⟩ := hL.2.2.2.2 w hwd
          have b2 := lno_lt (s := sh a (a 3) (a 4)) (gp := a 6) (lw := a 7) hwd
          have b3 : (ly (sh a (a 3) (a 4)) (a 6) (a 7) (a 0)).1 = lnN a (a 3) (a 4) := rfl
          rw [lp_X9_widthAgain_23]
          simp (disch := omega) only [i_0, q_gIn, q_cl, hM' _, q_le, Nat.not_le.mpr hwd, ↓reduceIte, ↓jn_eq, d3, q_eq, i_1, nI_add]
          have hi := isL_iff hD hkl hwd
          have hi2 : isL a (a 3) (a 4) k w = true ↔ lno (sh a (a 3) (a 4)) (a 6) (a 7) w = k := decide_eq_true_iff
          by_cases z : lno (sh a (a 3) (a 4)) (a 6) (a 7) w = k
          · have z2 := hi.mp (hi2.mpr z)
            have z3 : ¬ w + 1 ≤ fsL a (a 3) (a 4) k := by omega
            have z4 : w + 1 ≤ bhL a (a 3) (a 4) k := by omega
            simp only [z, z3, z4, ↓reduceIte, Nat.add_sub_cancel]
          · have z2 : ¬ (fsL a (a 3) (a 4) k ≤ w ∧ w < bhL a (a 3) (a 4) k) := fun q => z (hi2.mp (hi.mpr q))
            by_cases z3 : w + 1 ≤ fsL a (a 3) (a 4) k
            · have z4 : w ≤ fsL a (a 3) (a 4) k := by omega
              simp only [z, z3, z4, ↓reduceIte]
            · have z4 : bhL a (a 3) (a 4) k ≤ w := by omega
              have z5 : ¬ w ≤ fsL a (a 3) (a 4) k := by omega
              have z6 : ¬ w + 1 ≤ bhL a (a 3) (a 4) k := by omega
              by_cases z7 : w ≤ bhL a (a 3) (a 4) k
              · have z8 : w = bhL a (a 3) (a 4) k := by omega
                have z9 : ¬ bhL a (a 3) (a 4) k ≤ fsL a (a 3) (a 4) k := by omega
                have z10 : ¬ bhL a (a 3) (a 4) k + 1 ≤ fsL a (a 3) (a 4) k := by omega
                have z11 : ¬ bhL a (a 3) (a 4) k + 1 ≤ bhL a (a 3) (a 4) k := by omega
                subst z8
                simp only [z, z10, z9, z11, Nat.le_refl, ↓reduceIte]
              · simp only [z, z3, z5, z6, z7, ↓reduceIte]
        · have z1 : ¬ a 0 ≤ fsL a (a 3) (a 4) k := by omega
          have z2 : (if a 0 ≤ bhL a (a 3) (a 4) k then a 0 - 1 else bhL a (a 3) (a 4) k - 1) = bhL a (a 3) (a 4) k - 1 := by split <;> omega
          obtain ⟨d1, d2, d3, d4⟩ := hL.2.2.2.2 (bhL a (a 3) (a 4) k - 1) (by omega)
          rw [lp_X9_widthAgain_23]
          simp (disch := omega) only [i_0, q_gIn, q_cl, hM' _, q_le, Nat.le_refl, ↓reduceIte, z1, z2, d4, d2]
    · refine ⟨-11, M', ?_, ?_, hA⟩
      · simp only [hkl, ↓reduceIte, i_0]
      · simp only [hkl, ↓reduceIte]
end JJ1
end
section
/-! ===== both programs' answers: count, word, letter, under ===== -/
section JJ2
variable {C M : kS} {a : kA} {N : Nat}
theorem x_bars0 (hH : HdC C a) (hw : WF a) (m st : Nat) (hN : 3000 ≤ N) : f_X4_barsBetween N C (nI 0) (nI (a 0)) = some (nI (sumN (tm a m st 1) (a 0))) := by
  have h2 := x_bars (N := N) (S := fun i => sumN (tm a m st 1) i) hH hw (b := 0) (n := a 0) rfl (by omega) (fun i hi => by
    rw [sumN, Nat.zero_add]
    unfold tm
    rw [if_neg (by decide)]
    split
    · rfl
    · rfl) hN
  rw [Nat.zero_add] at h2
  exact h2
theorem J_count (h : RD C M a) (hh : C 24 1 = M 0 2) (ht : C 1 1 = M 0 4) (v : Int32) (hN : 3000 ≤ N) : ∃ r M', f_X8_count N C v = some r ∧ f_X9_count N M v = some (r, M') ∧ AgM M M' := by
  obtain ⟨hw, hM, hS, hF, hB, hH, hD⟩ := h
  obtain ⟨M', eL, hA, hL⟩ := m_laysNow hM hw hN
  have hst := hw.2.2.2.2.1
  have hM' := hA.sm hM
  unfold f_X8_count f_X9_count
  rcases sg v with hv | ⟨j, hj, rfl⟩
  · refine ⟨-11, M, ?_, ?_, AgM.rf⟩
    · simp (disch := omega) only [i_0, i_1, i_2, i_3, i_4, i_5, i_6, i_7, i_8, i_9, i_10, i_11, i_12, i_13, i_14, i_15, i_16, ngE hv, ↓reduceIte]
    · rw [i_0, i_16, m_inG hv (by decide), ob, if_pos rfl]
  · by_cases j16 : j ≤ 16
    · have e0 := (x_size (N := N) hS)
      have e1 := x_bars0 (N := N) hH hw (a 3) (a 4) hN
      have e2 : f_X4_lineCount N C = some (nI (lnN a (a 3) (a 4))) := by unfold f_X4_lineCount; rw [hD.1]; rfl
      have e5 : f_X1_size N C = some (nI (sF a)) := by unfold f_X1_size; rw [hF.2.1]
      have es : ∀ k, k < 5 → f_X3_at N C 22 (nI k) = some (nI (a (3 + k))) := fun k hk => by rw [x_at (k := 22) (n := 5) rfl hk (by decide), hS.2.2.2.2 k hk]
      have e11 := x_betrayed (N := N) hS hF hH hB (Or.inl rfl) hw hst hN
      have e12 := x_sumW (N := N) hS hH hB (Or.inl rfl) hw hN
      have e13 := x_gaps (N := N) hS hF hH hB hw hst hN
      have e14 := x_diff (N := N) hS hH hD hw hst hN
      have e15 : f_X2_size N C = some (M 0 2) := by unfold f_X2_size; rw [hh]
      have e16 : f_X6_size N C = some (M 0 4) := by unfold f_X6_size; rw [ht]
      have ems : ∀ {what : Nat}, what ≤ 100 → f_X9_sumOf N M' (nI what) = some (nI (sumN (tm a (a 3) (a 4) what) (a 0))) := fun hwt => m_sumOf hM' hw hL hst hwt hN
      have q14 : M' 0 14 = nI (lnN a (a 3) (a 4)) := hL.2.2.2.1
      have q9 : M' 0 9 = nI (sF a) := hL.1
      have q2 : M' 0 2 = M 0 2 := hA.2.2.2.1
      have q4 : M' 0 4 = M 0 4 := hA.2.2.2.2.1
      have hin : f_X9_in N (nI j) (nI 0) (nI 16) = some (nI 1) := by
        rw [m_inN hj (by decide) (by decide)]
        simp only [j16, Nat.zero_le, and_self, ↓reduceIte]
      obtain rfl | rfl | rfl | rfl | rfl | rfl | rfl | rfl | rfl | rfl | rfl | rfl | rfl | rfl | rfl | rfl | rfl : j = 0 ∨ j = 1 ∨ j = 2 ∨ j = 3 ∨ j = 4 ∨ j = 5 ∨ j = 6 ∨ j = 7 ∨ j = 8 ∨ j = 9 ∨ j = 10 ∨ j = 11 ∨ j = 12 ∨ j = 13 ∨ j = 14 ∨ j = 15 ∨ j = 16 := by omega
      · refine ⟨nI (a 0), M', ?_, ?_, hA⟩
        · simp (disch := omega) only [i_0, ↓reduceIte, e0.1, ob]
        · simp (disch := omega) only [i_0, i_1, i_16, hin, ob, q_nT, ↓reduceIte, eL, q_gIn, q_cl, hM' _]
      · refine ⟨nI (sumN (tm a (a 3) (a 4) 1) (a 0)), M', ?_, ?_, hA⟩
        · simp (disch := omega) only [i_0, i_1, q_eq, Nat.reduceEqDiff, Nat.one_ne_zero, ↓reduceIte, e0.1, ob, e1]
        · simp (disch := omega) only [i_0, i_1, i_16, hin, ob, q_eq, Nat.one_ne_zero, ↓reduceIte, eL, ems]
      · refine ⟨nI (lnN a (a 3) (a 4)), M', ?_, ?_, hA⟩
        · simp (disch := omega) only [i_0, i_1, i_2, q_eq, Nat.reduceEqDiff, ↓reduceIte, e2, ob]
        · simp (disch := omega) only [i_0, i_1, i_2, i_16, hin, ob, q_eq, Nat.reduceEqDiff, Nat.one_ne_zero, ↓reduceIte, eL, q14]
      · refine ⟨nI (a 1), M', ?_, ?_, hA⟩
        · simp (disch := omega) only [i_0, i_1, i_2, i_3, q_eq, Nat.reduceEqDiff, ↓reduceIte, e0.2.1, ob]
        · simp (disch := omega) only [i_0, i_1, i_2, i_3, i_16, hin, ob, q_eq, Nat.reduceEqDiff, Nat.one_ne_zero, ↓reduceIte, eL, nI_add, q_sub, Nat.reduceAdd, Nat.reduceSub, q_gIn, q_cl, hM' _]
      · refine ⟨nI (a 2), M', ?_, ?_, hA⟩
        · simp (disch := omega) only [i_0, i_1, i_2, i_3, i_4, q_eq, Nat.reduceEqDiff, ↓reduceIte, e0.2.2, ob]
        · simp (disch := omega) only [i_0, i_1, i_2, i_3, i_4, i_16, hin, ob, q_eq, Nat.reduceEqDiff, Nat.one_ne_zero, ↓reduceIte, eL, nI_add, q_sub, Nat.reduceAdd, Nat.reduceSub, q_gIn, q_cl, hM' _]
      · refine ⟨nI (sF a), M', ?_, ?_, hA⟩
        · simp (disch := omega) only [i_0, i_1, i_2, i_3, i_4, i_5, q_eq, Nat.reduceEqDiff, ↓reduceIte, e5, ob]
        · simp (disch := omega) only [i_0, i_1, i_2, i_3, i_4, i_5, i_16, hin, ob, q_eq, Nat.reduceEqDiff, Nat.one_ne_zero, ↓reduceIte, eL, q9]
      · refine ⟨nI (a 3), M', ?_, ?_, hA⟩
        · simp (disch := omega) only [i_0, i_1, i_2, i_3, i_4, i_5, i_6, q_eq, Nat.reduceEqDiff, ↓reduceIte, es, ob]
        · simp (disch := omega) only [i_0, i_1, i_2, i_3, i_4, i_5, i_6, i_16, hin, ob, q_eq, Nat.reduceEqDiff, Nat.one_ne_zero, ↓reduceIte, eL, nI_add, q_sub, Nat.reduceAdd, Nat.reduceSub, q_gIn, q_cl, hM' _]
      · refine ⟨nI (a 4), M', ?_, ?_, hA⟩
        · simp (disch := omega) only [i_0, i_1, i_2, i_3, i_4, i_5, i_6, i_7, q_eq, Nat.reduceEqDiff, ↓reduceIte, es, ob, Nat.reduceAdd]
        · simp (disch := omega) only [i_0, i_1, i_2, i_3, i_4, i_5, i_6, i_7, i_16, hin, ob, q_eq, Nat.reduceEqDiff, Nat.one_ne_zero, ↓reduceIte, eL, nI_add, q_sub, Nat.reduceAdd, Nat.reduceSub, q_gIn, q_cl, hM' _]
      · refine ⟨nI (a 5), M', ?_, ?_, hA⟩
        · simp (disch := omega) only [i_0, i_1, i_2, i_3, i_4, i_5, i_6, i_7, i_8, q_eq, Nat.reduceEqDiff, ↓reduceIte, es, ob, Nat.reduceAdd]
        · simp (disch := omega) only [i_0, i_1, i_2, i_3, i_4, i_5, i_6, i_7, i_8, i_16, hin, ob, q_eq, Nat.reduceEqDiff, Nat.one_ne_zero, ↓reduceIte, eL, nI_add, q_sub, Nat.reduceAdd, Nat.reduceSub, q_gIn, q_cl, hM' _]
      · refine ⟨nI (a 6), M', ?_, ?_, hA⟩
        · simp (disch := omega) only [i_0, i_1, i_2, i_3, i_4, i_5, i_6, i_7, i_8, i_9, q_eq, Nat.reduceEqDiff, ↓reduceIte, es, ob, Nat.reduceAdd]
        · simp (disch := omega) only [i_0, i_1, i_2, i_3, i_4, i_5, i_6, i_7, i_8, i_9, i_16, hin, ob, q_eq, Nat.reduceEqDiff, Nat.one_ne_zero, ↓reduceIte, eL, nI_add, q_sub, Nat.reduceAdd, Nat.reduceSub, q_gIn, q_cl, hM' _]
      · refine ⟨nI (a 7), M', ?_, ?_, hA⟩
        · simp (disch := omega) only [i_0, i_1, i_2, i_3, i_4, i_5, i_6, i_7, i_8, i_9, i_10, q_eq, Nat.reduceEqDiff, ↓reduceIte, es, ob, Nat.reduceAdd]
        · simp (disch := omega) only [i_0, i_1, i_2, i_3, i_4, i_5, i_6, i_7, i_8, i_9, i_10, i_16, hin, ob, q_eq, Nat.reduceEqDiff, Nat.one_ne_zero, ↓reduceIte, eL, nI_add, q_sub, Nat.reduceAdd, Nat.reduceSub, q_gIn, q_cl, hM' _]
      · refine ⟨nI (sumN (tm a (a 3) (a 4) 11) (a 0)), M', ?_, ?_, hA⟩
        · simp (disch := omega) only [i_0, i_1, i_2, i_3, i_4, i_5, i_6, i_7, i_8, i_9, i_10, i_11, q_eq, Nat.reduceEqDiff, ↓reduceIte, e11, ob]
        · simp (disch := omega) only [i_0, i_1, i_2, i_3, i_4, i_5, i_6, i_7, i_8, i_9, i_10, i_11, i_16, hin, ob, q_eq, Nat.reduceEqDiff, Nat.one_ne_zero, ↓reduceIte, eL, ems]
      · refine ⟨nI (sumN (tm a (a 3) (a 4) 12) (a 0)), M', ?_, ?_, hA⟩
        · simp (disch := omega) only [i_0, i_1, i_2, i_3, i_4, i_5, i_6, i_7, i_8, i_9, i_10, i_11, i_12, q_eq, Nat.reduceEqDiff, ↓reduceIte, e12, ob]
        · simp (disch := omega) only [i_0, i_1, i_2, i_3, i_4, i_5, i_6, i_7, i_8, i_9, i_10, i_11, i_12, i_16, hin, ob, q_eq, Nat.reduceEqDiff, Nat.one_ne_zero, ↓reduceIte, eL, ems]
      · refine ⟨nI (sumN (tm a (a 3) (a 4) 13) (a 0)), M', ?_, ?_, hA⟩
        · simp (disch := omega) only [i_0, i_1, i_2, i_3, i_4, i_5, i_6, i_7, i_8, i_9, i_10, i_11, i_12, i_13, q_eq, Nat.reduceEqDiff, ↓reduceIte, e13, ob]
        · simp (disch := omega) only [i_0, i_1, i_2, i_3, i_4, i_5, i_6, i_7, i_8, i_9, i_10, i_11, i_12, i_13, i_16, hin, ob, q_eq, Nat.reduceEqDiff, Nat.one_ne_zero, ↓reduceIte, eL, ems]
      · refine ⟨nI (sumN (tm a (a 3) (a 4) 14) (a 0)), M', ?_, ?_, hA⟩
        · simp (disch := omega) only [i_0, i_1, i_2, i_3, i_4, i_5, i_6, i_7, i_8, i_9, i_10, i_11, i_12, i_13, i_14, q_eq, Nat.reduceEqDiff, ↓reduceIte, e14, ob]
        · simp (disch := omega) only [i_0, i_1, i_2, i_3, i_4, i_5, i_6, i_7, i_8, i_9, i_10, i_11, i_12, i_13, i_14, i_16, hin, ob, q_eq, Nat.reduceEqDiff, Nat.one_ne_zero, ↓reduceIte, eL, ems]
      · refine ⟨M 0 2, M', ?_, ?_, hA⟩
        · simp (disch := omega) only [i_0, i_1, i_2, i_3, i_4, i_5, i_6, i_7, i_8, i_9, i_10, i_11, i_12, i_13, i_14, i_15, q_eq, Nat.reduceEqDiff, ↓reduceIte, e15, ob]
        · simp (disch := omega) only [i_0, i_1, i_2, i_3, i_4, i_5, i_6, i_7, i_8, i_9, i_10, i_11, i_12, i_13, i_14, i_15, i_16, hin, ob, q_eq, Nat.reduceEqDiff, Nat.one_ne_zero, ↓reduceIte, eL, q2]
      · refine ⟨M 0 4, M', ?_, ?_, hA⟩
        · simp (disch := omega) only [i_0, i_1, i_2, i_3, i_4, i_5, i_6, i_7, i_8, i_9, i_10, i_11, i_12, i_13, i_14, i_15, i_16, q_eq, Nat.reduceEqDiff, ↓reduceIte, e16, ob]
        · simp (disch := omega) only [i_0, i_1, i_2, i_3, i_4, i_5, i_6, i_7, i_8, i_9, i_10, i_11, i_12, i_13, i_14, i_15, i_16, hin, ob, q_eq, Nat.reduceEqDiff, Nat.one_ne_zero, ↓reduceIte, eL, q4]
    · refine ⟨-11, M, ?_, ?_, AgM.rf⟩
      · simp (disch := omega) only [i_0, i_1, i_2, i_3, i_4, i_5, i_6, i_7, i_8, i_9, i_10, i_11, i_12, i_13, i_14, i_15, i_16, q_eq, if_neg]
      · rw [i_0, i_16, m_inN hj (by decide) (by decide)]
        simp only [j16, and_false, ↓reduceIte, ob]
theorem J_under (h : RD C M a) (v : Int32) (hN : 3000 ≤ N) : ∃ r M', f_X8_under N C v = some r ∧ f_X9_under N M v = some (r, M') ∧ AgM M M' := by
  obtain ⟨hw, hM, hS, hF, hB, hH, hD⟩ := h
  obtain ⟨M', eL, hA, hL⟩ := m_laysNow hM hw hN
  have hst := hw.2.2.2.2.1
  have hM' := hA.sm hM
  unfold f_X8_under f_X9_under
  rcases sg v with hv | ⟨j, hj, rfl⟩
  · refine ⟨-11, M, ?_, ?_, AgM.rf⟩
    · rw [if_pos hv]
    · rw [i_0, i_500, m_inG hv (by decide), ob, if_pos rfl]
  · rw [i_0, i_500, m_inN hj (by decide) (by decide), ob]
    by_cases j5 : j ≤ 500
    · refine ⟨nI (nuM a (a 3) (a 4) j), M', ?_, ?_, hA⟩
      · simp (disch := omega) only [q_lt, Nat.not_lt_zero, ↓reduceIte, q_le, j5, x_nu hF hB (Or.inl rfl) hw hst, ob]
      · simp (disch := omega) only [j5, Nat.zero_le, and_self, ↓reduceIte, q_nT, eL, ob, m_nu hM' hw hL hst]
    · refine ⟨-11, M, ?_, ?_, AgM.rf⟩
      · simp (disch := omega) only [q_lt, Nat.not_lt_zero, ↓reduceIte, q_le, j5]
      · simp only [j5, and_false, ↓reduceIte]
theorem J_letter (h : RD C M a) (v i : Int32) (hN : 3000 ≤ N) : ∃ r M', f_X8_letter N C v i = some r ∧ f_X9_letter N M v i = some (r, M') ∧ AgM M M' := by
  obtain ⟨hw, hM, hS, hF, hB, hH, hD⟩ := h
  obtain ⟨w0, w1, w2, w3, w4, w5, w6, w7, wl, wp, wn, we⟩ := id hw
  obtain ⟨M', eL, hA, hL⟩ := m_laysNow hM hw hN
  have hst := hw.2.2.2.2.1
  have hM' := hA.sm hM
  unfold f_X8_letter f_X9_letter
  rcases sg v with hv | ⟨w, hwk, rfl⟩
  · refine ⟨-11, M, ?_, ?_, AgM.rf⟩
    · rw [x_hasG hv, ob, i_0, if_pos rfl]
    · rw [m_isWordG hv, ob, i_0, if_pos rfl]
  · rw [x_hasN hS.1.2.2.1 (by omega) hwk, m_isWordN hM w0 hwk, ob, ob]
    by_cases hwd : w < a 0
    · simp only [hwd, ↓reduceIte, i_0, q_nT]
      rcases sg i with hi | ⟨j, hj, rfl⟩
      · refine ⟨-11, M, ?_, ?_, AgM.rf⟩
        · simp (disch := omega) only [ngGe hi, ↓reduceIte]
        · simp (disch := omega) only [ngGe hi, ↓reduceIte]
      · obtain ⟨d1, d2, d3, d4⟩ := hL.2.2.2.2 w hwd
        have b1 := wp w hwd
        rw [x_isHidden hH hw hwd, x_lengthOf (k := 5) (mw := 40) (ml := 12) hS.1 rfl (by decide) w0 hwd, eL]
        simp (disch := omega) only [q_le, Nat.zero_le, ↓reduceIte, ob, i_34, i_13, pk_mul, nI_add, q_gIn, q_cl, d1, i_1, hM' _]
        cases z : hid a w with
        | true =>
          obtain ⟨z1, z2⟩ := foV_t w z
          have hle := sF_le hw
          refine ⟨-12, M', ?_, ?_, hA⟩
          · simp only [↓reduceIte, q_nT]
          · simp (disch := omega) only [z1, q_lt, Nat.not_lt_zero, ↓reduceIte]
        | false =>
          by_cases y : j < a (34 + 13 * w)
          · refine ⟨nI (97 + a (34 + 13 * w + 1 + j)), M', ?_, ?_, hA⟩
            · simp (disch := omega) only [Bool.false_eq_true, ↓reduceIte, q_lt, y]
              rw [x_letterOf (k := 5) (mw := 40) (ml := 12) hS.1 rfl (by decide) (by decide) w0 hwd y b1.1.2, ob]
            · simp (disch := omega) only [foV_f w z, q_lt1n, ↓reduceIte, ↓jn_eq, Nat.not_le.mpr y, q_gIn, q_cl, hM' _, i_97, nI_add]
              rw [Nat.add_comm 97]
          · refine ⟨-14, M', ?_, ?_, hA⟩
            · simp (disch := omega) only [Bool.false_eq_true, ↓reduceIte, q_lt, y]
            · simp (disch := omega) only [foV_f w z, q_lt1n, ↓reduceIte, ↓jn_eq, Nat.not_lt.mp y]
    · refine ⟨-11, M, ?_, ?_, AgM.rf⟩
      · simp only [hwd, ↓reduceIte, i_0]
      · simp only [hwd, ↓reduceIte, i_0]
theorem x_hiddenWord (hS : StC C 4 a) (hF : FmC C a) (hB : BrC C 113 a (a 3) (a 4)) (hH : HdC C a) (hD : ShC C a (a 3) (a 4)) (hw : WF a) {w what : Nat} (hwd : w < a 0) (hwt : what ≤ 9) (hN : 3000 ≤ N) : f_X8_hiddenWord N C (nI w) (nI what) = some (if hid a w = true then (if what = 4 then nI (fo a w / (a 2 + 1)) else if what = 5 then nI (fo a w % (a 2 + 1)) - nI 1 else if what = 8 then nI (nuM a (a 3) (a 4) (sh a (a 3) (a 4) w)) else nI (pop (nuM a (a 3) (a 4) (sh a (a 3) (a 4) w)))) else -14) := by
  have hst := hw.2.2.2.2.1
  have s1 := sh_le hw (m := a 3) hst hwd
  have hle := sF_le hw
  unfold f_X8_hiddenWord
  rw [x_isHidden hH hw hwd, ob, x_shown hD hw hwd, ob, x_formOf hH hw hwd, x_nu hF hB (Or.inl rfl) hw hst (by omega) hN]
  cases z : hid a w with
  | true =>
    obtain ⟨z1, z2⟩ := foV_t w z
    simp (disch := omega) only [↓reduceIte, i_0, i_4, i_5, i_6, i_7, i_8, q_nT, ob, z1, x_nameOf hF.1 hw.2.2.1, x_endingOf hF.1 hw.2.2.1, x_bits (nuM_256 hw), q_eq, Nat.one_ne_zero]
    by_cases y4 : what = 4
    · simp only [y4, ↓reduceIte]
    · by_cases y5 : what = 5
      · simp only [y5, ↓reduceIte, Nat.reduceEqDiff]
      · by_cases y8 : what = 8
        · simp only [y8, ↓reduceIte, Nat.reduceEqDiff]
        · simp only [y4, y5, y8, ↓reduceIte, ite_self]
  | false => simp only [↓reduceIte, i_0, Bool.false_eq_true]
theorem m_hiddenOf (hM : SM M a) (hL : LD M a (a 3) (a 4)) (hw : WF a) {w what : Nat} (hwd : w < a 0) (hwt : what ≤ 9) (hN : 3000 ≤ N) : f_X9_hiddenOf N M (nI w) (nI what) = some (if hid a w = true then (if what = 4 then nI (fo a w / (a 2 + 1)) else if what = 5 then nI (fo a w % (a 2 + 1)) - nI 1 else if what = 8 then nI (nuM a (a 3) (a 4) (sh a (a 3) (a 4) w)) else nI (pop (nuM a (a 3) (a 4) (sh a (a 3) (a 4) w)))) else -14) := by
  have hst := hw.2.2.2.2.1
  have w0 := hw.1
  have w2 := hw.2.2.1
  have s1 := sh_le hw (m := a 3) hst hwd
  have hle := sF_le hw
  obtain ⟨d1, d2, d3, d4⟩ := hL.2.2.2.2 w hwd
  unfold f_X9_hiddenOf
  simp (disch := omega) only [q_gIn, q_cl, d1, d2, m_nu hM hw hL hst, ob]
  cases z : hid a w with
  | true =>
    obtain ⟨z1, z2⟩ := foV_t w z
    simp (disch := omega) only [↓reduceIte, i_0, i_1, i_4, i_5, i_8, z1, q_le, Nat.zero_le, ↓jn_eq, m_each hM, ob, q_nz, m_bits (nuM_256 hw), q_eq]
    by_cases y4 : what = 4
    · simp (disch := omega) only [y4, ↓reduceIte, q_div]
    · by_cases y5 : what = 5
      · rw [q_rem (by omega) (by omega) (by omega)]
        simp only [y5, ↓reduceIte, Nat.reduceEqDiff]
      · by_cases y8 : what = 8
        · simp only [y8, ↓reduceIte, Nat.reduceEqDiff]
        · simp only [y4, y5, y8, ↓reduceIte]
  | false => simp only [foV_f w z, i_0, q_le1n, ↓reduceIte, Bool.false_eq_true]
theorem J_word (h : RD C M a) (v i : Int32) (hN : 3000 ≤ N) : ∃ r M', f_X8_word N C v i = some r ∧ f_X9_word N M v i = some (r, M') ∧ AgM M M' := by
  obtain ⟨hw, hM, hS, hF, hB, hH, hD⟩ := h
  obtain ⟨w0, w1, w2, w3, w4, w5, w6, w7, wl, wp, wn, we⟩ := id hw
  obtain ⟨M', eL, hA, hL⟩ := m_laysNow hM hw hN
  have hst := hw.2.2.2.2.1
  have hM' := hA.sm hM
  unfold f_X8_word f_X9_word
  rcases sg v with hv | ⟨w, hwk, rfl⟩
  · refine ⟨-11, M, ?_, ?_, AgM.rf⟩
    · rw [x_hasG hv, ob, i_0, if_pos rfl]
    · rw [m_isWordG hv, ob, i_0, if_pos rfl]
  · rw [x_hasN hS.1.2.2.1 (by omega) hwk, m_isWordN hM w0 hwk, ob, ob]
    by_cases hwd : w < a 0
    · simp only [hwd, ↓reduceIte, i_0, i_9, q_nT]
      rcases sg i with hi | ⟨j, hj, rfl⟩
      · refine ⟨-11, M, ?_, ?_, AgM.rf⟩
        · simp (disch := omega) only [ngLt hi, ↓reduceIte]
        · rw [m_inG hi (by decide), ob, if_pos rfl]
      · rw [m_inN hj (by decide) (by decide), ob]
        rw [if_neg (show ¬ nI j < nI 0 from nI_pos hj)]
        by_cases j9 : j ≤ 9
        · rw [if_pos ((nI_leI hj (by decide)).mpr j9)]
          obtain ⟨d1, d2, d3, d4⟩ := hL.2.2.2.2 w hwd
          have b1 := wp w hwd
          have e0 := x_lengthOf (N := N) (k := 5) (mw := 40) (ml := 12) hS.1 rfl (by decide) w0 hwd
          have e1 := x_ownWidth (N := N) hH hw hwd
          have e2 := x_shown (N := N) hD hw hwd
          have e3 := x_isHidden (N := N) hH hw hwd
          have e6 : f_X4_lineOf N C (nI w) = some (nI (lno (sh a (a 3) (a 4)) (a 6) (a 7) w)) := by
            unfold f_X4_lineOf
            rw [x_at (k := 126) (n := 40) rfl (by omega) (by decide), ob, (hD.2.1 w hwd).2.1]
          have e7 : f_X4_placeOf N C (nI w) = some (nI (plc (sh a (a 3) (a 4)) (a 6) (a 7) w)) := by
            unfold f_X4_placeOf
            rw [x_at (k := 128) (n := 40) rfl (by omega) (by decide), ob, (hD.2.1 w hwd).2.2]
          obtain ⟨R, eh, mh⟩ : ∃ R, f_X8_hiddenWord N C (nI w) (nI j) = some R ∧ f_X9_hiddenOf N M' (nI w) (nI j) = some R := ⟨_, x_hiddenWord (N := N) hS hF hB hH hD hw hwd j9 hN, m_hiddenOf (N := N) hM' hL hw hwd j9 hN⟩
          simp only [j9, Nat.zero_le, and_self, ↓reduceIte, q_nT, eL, ob]
          by_cases j0 : j = 0
          · subst j0
            refine ⟨nI (a (34 + 13 * w)), M', ?_, ?_, hA⟩
            · simp only [↓reduceIte, e0, ob]
            · simp (disch := omega) only [↓reduceIte, i_34, i_13, pk_mul, nI_add, q_gIn, q_cl, hM' _]
          · by_cases j1 : j = 1
            · subst j1
              refine ⟨nI (wd a (34 + 13 * w)), M', ?_, ?_, hA⟩
              · simp only [↓reduceIte, q_nT, i_1, e1, ob]
              · simp (disch := omega) only [↓reduceIte, q_nT, i_1, i_34, i_13, pk_mul, nI_add]
                rw [m_widthAt hM' wl (by omega) b1.2 hN, ob]
            · by_cases j2 : j = 2
              · subst j2
                refine ⟨nI (sh a (a 3) (a 4) w), M', ?_, ?_, hA⟩
                · simp (disch := omega) only [↓reduceIte, q_eq, Nat.reduceEqDiff, i_1, i_2, e2, ob]
                · simp (disch := omega) only [↓reduceIte, q_eq, Nat.reduceEqDiff, i_1, i_2, q_gIn, q_cl, d2]
              · by_cases j3 : j = 3
                · subst j3
                  refine ⟨nI (if hid a w = true then 1 else 0), M', ?_, ?_, hA⟩
                  · simp (disch := omega) only [↓reduceIte, q_eq, Nat.reduceEqDiff, i_1, i_2, i_3, e3, ob, ↓jn_eq]
                    cases z : hid a w with
                    | true => simp only [↓reduceIte, q_nT]
                    | false => simp only [Bool.false_eq_true, ↓reduceIte]
                  · simp (disch := omega) only [↓reduceIte, q_eq, Nat.reduceEqDiff, i_1, i_2, i_3, ↓jn_eq, q_gIn, q_cl, d1]
                    cases z : hid a w with
                    | true =>
                      obtain ⟨z1, z2⟩ := foV_t w z
                      have hle := sF_le hw
                      simp (disch := omega) only [z1, q_le, Nat.zero_le, ↓reduceIte]
                    | false => simp only [foV_f w z, q_le1n, ↓reduceIte, Bool.false_eq_true]
                · by_cases j6 : j = 6
                  · subst j6
                    refine ⟨nI (lno (sh a (a 3) (a 4)) (a 6) (a 7) w), M', ?_, ?_, hA⟩
                    · simp (disch := omega) only [↓reduceIte, q_eq, Nat.reduceEqDiff, i_1, i_2, i_3, i_4, i_5, i_6, e6, ob]
                    · simp (disch := omega) only [↓reduceIte, q_eq, Nat.reduceEqDiff, i_1, i_2, i_3, i_4, i_5, i_6, q_gIn, q_cl, d3]
                  · by_cases j7 : j = 7
                    · subst j7
                      refine ⟨nI (plc (sh a (a 3) (a 4)) (a 6) (a 7) w), M', ?_, ?_, hA⟩
                      · simp (disch := omega) only [↓reduceIte, q_eq, Nat.reduceEqDiff, i_1, i_2, i_3, i_4, i_5, i_6, i_7, e7, ob]
                      · simp (disch := omega) only [↓reduceIte, q_eq, Nat.reduceEqDiff, i_1, i_2, i_3, i_4, i_5, i_6, i_7, q_gIn, q_cl, d4]
                    · refine ⟨R, M', ?_, ?_, hA⟩
                      · simp (disch := omega) only [↓reduceIte, q_eq, j0, j1, j2, j3, j6, j7, i_1, i_2, i_3, i_4, i_5, i_6, i_7, eh, ob, ite_self]
                      · simp (disch := omega) only [↓reduceIte, q_eq, j0, j1, j2, j3, j6, j7, i_1, i_2, i_3, i_4, i_5, i_6, i_7, mh, ob, ite_self]
        · refine ⟨-11, M, ?_, ?_, AgM.rf⟩
          · rw [if_neg (fun q => j9 ((nI_leI hj (by decide)).mp q))]
          · simp only [j9, and_false, ↓reduceIte]
    · refine ⟨-11, M, ?_, ?_, AgM.rf⟩
      · simp only [hwd, ↓reduceIte, i_0]
      · simp only [hwd, ↓reduceIte, i_0]
end JJ2
end
section
/-! ===== both programs' answers: form, guess, same ===== -/
theorem neg_m1 {v : Int32} (h : v < 0) : v = -nI 1 ∨ v < -nI 1 := by
  have h1 := Int32.lt_iff_toInt_lt.mp h
  have h2 : (0 : Int32).toInt = 0 := by decide
  have h3 : (-nI 1 : Int32).toInt = -1 := by decide
  rcases Int.lt_or_le v.toInt (-1) with q | q
  · exact Or.inr (Int32.lt_iff_toInt_lt.mpr (by omega))
  · exact Or.inl (Int32.toInt_inj.mp (by omega))
theorem nI_nm1 {n : Nat} (h : n < 2147483648) : (nI n < -nI 1) = False := eq_false (fun q => by
  have h1 := Int32.lt_iff_toInt_lt.mp q
  rw [nI_toInt h] at h1
  have h3 : (-nI 1 : Int32).toInt = -1 := by decide
  omega)
section JJ3
variable {C M : kS} {a : kA} {N m st : Nat}
theorem fnum {f : Nat} : nI (f / (a 2 + 1)) * nI (a 2 + 1) + (nI (f % (a 2 + 1)) - nI 1) + nI 1 = nI f := by
  rw [Int32.add_assoc, Int32.sub_add_cancel, pk_mul, nI_add]
  have h := Nat.div_add_mod f (a 2 + 1)
  rw [Nat.mul_comm] at h
  rw [h]
theorem x_lenForm (hS : StC C 4 a) (hw : WF a) {f : Nat} (hf : f < sF a) : f_X5_lengthOfForm N C (nI (f / (a 2 + 1))) (nI (f % (a 2 + 1)) - nI 1) = some (nI (fl a f)) := by
  unfold f_X5_lengthOfForm
  rw [x_lenE hS hw f, x_lengthOf (k := 10) (mw := 8) (ml := 8) hS.2.1 rfl (by decide) hw.2.1 (fq hf), ob, ob, nI_add]
  rfl
theorem x_numberOf (hF : FmC C a) {f : Nat} : f_X1_numberOf N C (nI (f / (a 2 + 1))) (nI (f % (a 2 + 1)) - nI 1) = some (nI f) := by
  unfold f_X1_numberOf
  rw [hF.1, i_1, fnum]
theorem x_wordsAs (hS : StC C 4 a) (hH : HdC C a) (hw : WF a) (x : Int32) (hN : 3000 ≤ N) : f_X4_wordsHiddenAs N C x = some (nI (ct (fun w => decide (foV a w = x)) (a 0))) := by
  have w0 := hw.1
  unfold f_X4_wordsHiddenAs
  simp only [↓jn_eq]
  rw [i_0]
  refine lpE (fun n u y => lp_X4_wordsHiddenAs_4 N C x (fun x1 => some x1) n u y) (fun i => ct (fun w => decide (foV a w = x)) i) (a 0) (by omega) (fun n w hwd => ?_) (fun n => ?_)
  · rw [lp_X4_wordsHiddenAs_4, ct, x_formOf hH hw hwd]
    simp (disch := omega) only [(x_size hS).1, q_le, Nat.not_le.mpr hwd, ob, ↓reduceIte, ↓jn_eq, i_1, nI_add, decide_eq_true_eq]
    by_cases z : foV a w = x
    · simp only [z, ↓reduceIte]
    · simp only [z, ↓reduceIte, Nat.add_zero]
  · rw [lp_X4_wordsHiddenAs_4]
    simp (disch := omega) only [(x_size hS).1, q_le, Nat.le_refl, ob, ↓reduceIte]
theorem m_wordsAs (hM : SM M a) (hL : LD M a m st) (hw : WF a) {a1 a2 r13 x : Int32} (hx : a1 * r13 + a2 + nI 1 = x) (hN : 3000 ≤ N) (kont : Int32 → Option (Int32 × kS)) : lp_X9_form_98 N a1 a2 M r13 kont N 0 0 = kont (nI (ct (fun w => decide (foV a w = x)) (a 0))) := by
  have w0 := hw.1
  rw [i_0]
  refine lpE (fun n u y => lp_X9_form_98 N a1 a2 M r13 kont n u y) (fun i => ct (fun w => decide (foV a w = x)) i) (a 0) (by omega) (fun n w hwd => ?_) (fun n => ?_)
  · obtain ⟨d1, d2, d3, d4⟩ := hL.2.2.2.2 w hwd
    rw [lp_X9_form_98, ct]
    simp (disch := omega) only [i_0, i_1, hx, q_gIn, q_cl, hM _, q_le, Nat.not_le.mpr hwd, ↓reduceIte, ↓jn_eq, d1, decide_eq_true_eq]
    by_cases z : foV a w = x
    · simp only [z, ↓reduceIte, nI_add]
    · simp only [z, ↓reduceIte, nI_add]
  · rw [lp_X9_form_98]
    simp (disch := omega) only [i_0, q_gIn, q_cl, hM _, q_le, Nat.le_refl, ↓reduceIte]
theorem J_form (h : RD C M a) (v e i : Int32) (hN : 3000 ≤ N) : ∃ r M', f_X8_form N C v e i = some r ∧ f_X9_form N M v e i = some (r, M') ∧ AgM M M' := by
  obtain ⟨hw, hM, hS, hF, hB, hH, hD⟩ := h
  obtain ⟨w0, w1, w2, w3, w4, w5, w6, w7, wl, wp, wn, we⟩ := id hw
  obtain ⟨M', eL, hA, hL⟩ := m_laysNow hM hw hN
  have hst := hw.2.2.2.2.1
  have hM' := hA.sm hM
  unfold f_X8_form f_X9_form
  rcases sg v with hv | ⟨nm, hnk, rfl⟩
  · refine ⟨-11, M, ?_, ?_, AgM.rf⟩
    · rw [x_hasG hv, ob, i_0, if_pos rfl]
    · rw [m_isNameG hv, ob, i_0, if_pos rfl]
  · rw [x_hasN hS.2.1.2.2.1 (by omega) hnk, m_isNameN hM w1 hnk, ob, ob]
    by_cases hnm : nm < a 1
    · simp only [hnm, ↓reduceIte, i_0, i_1, q_nT]
      have hE2 : (nm + 1) * (a 2 + 1) ≤ sF a := by unfold sF; exact Nat.mul_le_mul_right _ hnm
      rw [Nat.succ_mul] at hE2
      have key : (e < -nI 1 ∨ nI (a 2) ≤ e) ∨ ∃ f, f < sF a ∧ f / (a 2 + 1) = nm ∧ e = nI (f % (a 2 + 1)) - nI 1 ∧ ¬ e < -nI 1 ∧ ¬ nI (a 2) ≤ e := by
        rcases sg e with he | ⟨k, hk, rfl⟩
        · rcases neg_m1 he with h1 | h1
          · refine Or.inr ⟨nm * (a 2 + 1), by omega, Nat.mul_div_cancel _ (Nat.succ_pos _), ?_, ?_, ?_⟩
            · rw [h1, Nat.mul_mod_left, q_en0]
            · rw [h1]
              exact Int32.lt_irrefl
            · rw [ngGe he (by omega)]
              exact not_false
          · exact Or.inl (Or.inl h1)
        · by_cases hk2 : k < a 2
          · have hm0 : (nm * (a 2 + 1) + (k + 1)) % (a 2 + 1) = k + 1 := by
              rw [Nat.mul_comm, Nat.mul_add_mod, Nat.mod_eq_of_lt (by omega)]
            refine Or.inr ⟨nm * (a 2 + 1) + (k + 1), by omega, ?_, ?_, ?_, ?_⟩
            · rw [Nat.mul_comm, Nat.mul_add_div (Nat.succ_pos _), Nat.div_eq_of_lt (by omega), Nat.add_zero]
            · rw [hm0, q_sub (by omega), Nat.add_sub_cancel]
            · rw [nI_nm1 hk]
              exact not_false
            · rw [q_le (by omega) hk]
              omega
          · exact Or.inl (Or.inr ((nI_leI (by omega) hk).mpr (by omega)))
      rcases key with h1 | ⟨f, hf, hfn, hfe, h1, h2⟩
      · refine ⟨-11, M, ?_, ?_, AgM.rf⟩
        · have h3 : ¬ e = -nI 1 := fun q => by
            rcases h1 with h1 | h1
            · rw [q] at h1
              exact Int32.lt_irrefl h1
            · rw [q, ngGe (by decide) (by omega)] at h1
              exact h1
          have h4 : f_X7_has N C 15 e = some (nI 0) := by
            rcases sg e with he | ⟨k, hk, rfl⟩
            · exact x_hasG he
            · have hk2 : ¬ k < a 2 := fun q => by
                rcases h1 with h1 | h1
                · rw [nI_nm1 hk] at h1
                  exact h1
                · have := (nI_leI (by omega) hk).mp h1
                  omega
              rw [x_hasN hS.2.2.1.2.2.1 (by omega) hk, if_neg hk2]
          simp only [↓jn_eq, h3, ↓reduceIte, h4, ob]
        · rcases h1 with h1 | h1
          · rw [if_pos h1]
          · by_cases h3 : e < -nI 1
            · rw [if_pos h3]
            · rw [if_neg h3, i_2]
              simp (disch := omega) only [q_gIn, q_cl, hM _, h1, ↓reduceIte]
      · have h5 : ∀ T : Option Int32, (if e = -nI 1 then T else (f_X7_has N C 15 e).bind (fun r21 => if r21 = nI 0 then some (-11) else T)) = T := fun T => by
          by_cases h6 : e = -nI 1
          · rw [if_pos h6]
          · rw [if_neg h6]
            rcases sg e with he | ⟨k, hk, hek⟩
            · rcases neg_m1 he with h7 | h7
              · exact absurd h7 h6
              · exact absurd h7 h1
            · have hk2 : k < a 2 := by
                rcases Nat.lt_or_ge k (a 2) with q | q
                · exact q
                · exact absurd (by rw [hek]; exact (nI_leI (by omega) hk).mpr q) h2
              rw [hek, x_hasN hS.2.2.1.2.2.1 (by omega) hk, if_pos hk2, ob, if_neg (by rw [q_nT]; exact not_false)]
        simp only [↓jn_eq]
        rw [h5, if_neg h1, i_2]
        simp (disch := omega) only [q_gIn, q_cl, hM _, h2, ↓reduceIte]
        have en := x_numberOf (N := N) hF (f := f)
        have el := x_lenForm (N := N) hS hw hf
        rw [hfn, ← hfe] at en el
        have fx := fnum (a := a) (f := f)
        rw [hfn, ← hfe] at fx
        have hle := sF_le hw
        have e1 : f_X1_widthOf N C (nI f) = some (nI (fw a f)) := by
          unfold f_X1_widthOf
          rw [x_at (k := 107) (n := 40) rfl (by omega) (by decide), ob, hF.2.2.1 f hf]
        have e2 := x_barW (N := N) hB (Or.inl rfl) hw hf
        have e3 := x_wordsAs (N := N) hS hH hw (nI f) hN
        rw [en, ob, el, e1, e2, e3, i_3]
        rcases sg i with hi | ⟨j, hj, rfl⟩
        · refine ⟨-11, M, ?_, ?_, AgM.rf⟩
          · simp (disch := omega) only [ngE hi, ↓reduceIte]
          · rw [m_inG hi (by decide), ob, if_pos rfl]
        · rw [m_inN hj (by decide) (by decide), ob]
          by_cases j3 : j ≤ 3
          · simp (disch := omega) only [j3, Nat.zero_le, and_self, ↓reduceIte, q_nT, eL, ob, m_each hM', fx]
            obtain rfl | rfl | rfl | rfl : j = 0 ∨ j = 1 ∨ j = 2 ∨ j = 3 := by omega
            · refine ⟨nI (fl a f), M', ?_, ?_, hA⟩
              · simp only [↓reduceIte]
              · simp (disch := omega) only [q_le, Nat.reduceLeDiff, ↓reduceIte, m_lettersOf hM' hw hf, ob]
            · refine ⟨nI (fw a f), M', ?_, ?_, hA⟩
              · simp only [q_nT, ↓reduceIte]
              · simp (disch := omega) only [q_le, Nat.reduceLeDiff, q_nT, ↓reduceIte, q_gIn, q_cl, hL.2.1 f hf]
            · refine ⟨nI (bw a (a 3) (a 4) f), M', ?_, ?_, hA⟩
              · simp (disch := omega) only [q_eq, Nat.reduceEqDiff, ↓reduceIte]
              · simp (disch := omega) only [q_le, Nat.reduceLeDiff, q_eq, Nat.reduceEqDiff, ↓reduceIte, q_gIn, q_cl, hL.2.2.1 f hf]
            · refine ⟨nI (ct (fun w => decide (foV a w = nI f)) (a 0)), M', ?_, ?_, hA⟩
              · simp (disch := omega) only [q_eq, Nat.reduceEqDiff, ↓reduceIte]
              · simp (disch := omega) only [q_le, Nat.le_refl, ↓reduceIte]
                have := m_wordsAs hM' hL hw fx hN (fun x15 => some (x15, M'))
                rw [i_0] at this
                exact this
          · refine ⟨-11, M, ?_, ?_, AgM.rf⟩
            · simp (disch := omega) only [q_eq, if_neg]
            · simp only [j3, and_false, ↓reduceIte, ob]
    · refine ⟨-11, M, ?_, ?_, AgM.rf⟩
      · simp only [hnm, ↓reduceIte, i_0]
      · simp only [hnm, ↓reduceIte, i_0]
theorem x_guessL {v wt : Nat} {pl : Int32} (hS : StC C 4 a) (hF : FmC C a) (hB : BrC C 113 a m st) (hw : WF a) (hst : 1 ≤ st ∧ st ≤ 50) (hv : v ≤ 500) (hwt : wt ≤ 1) (hN : 3000 ≤ N) : lp_X8_guess_57 N C pl (nI wt) (nI v) (some (-14)) N (nI 0) = some (if fst (gss a m st v pl) (a 1) < a 1 then (if wt = 0 then nI (fst (gss a m st v pl) (a 1)) else nI (lgA a m st (fst (gss a m st v pl) (a 1)) v)) else -14) := by
  have w1 := hw.2.1
  refine (lpX (fun n i => lp_X8_guess_57 N C pl (nI wt) (nI v) (some (-14)) n (nI i)) (a 1) (gss a m st v pl) (fun k => some (if wt = 0 then nI k else nI (lgA a m st k v))) (some (-14)) (fun n i hi hp => ?_) (fun n i hi hp => ?_) (fun n => ?_) (N := N) (by omega)).trans ?_
  · show lp_X8_guess_57 N C pl (nI wt) (nI v) (some (-14)) (n + 1) (nI i) = lp_X8_guess_57 N C pl (nI wt) (nI v) (some (-14)) n (nI (i + 1))
    rw [lp_X8_guess_57, x_leastGap hF hB (Or.inl rfl) hw hst hi hv hN, i_m1]
    have hb := lg_b a m st i hv (sF a)
    have hp2 := of_decide_eq_false hp
    by_cases y : lgA a m st i v = 1000
    · simp (disch := omega) only [(x_size hS).2.1, ob, q_le, Nat.not_le.mpr hi, ↓reduceIte, ↓jn_eq, lgE, y, i_1, nI_add]
    · have hx := x_ahead hS hF hB hw hst hi hv y hN
      have hne : (nI (lgA a m st i v) = -nI 1) = False := q_m1n (by unfold lgA; omega)
      simp (disch := omega) only [(x_size hS).2.1, ob, q_le, Nat.not_le.mpr hi, ↓reduceIte, ↓jn_eq, lgE, y, i_1, nI_add, hne, hx]
      rw [if_neg (fun q => hp2 ⟨y, q⟩)]
  · show lp_X8_guess_57 N C pl (nI wt) (nI v) (some (-14)) (n + 2) (nI i) = _
    rw [lp_X8_guess_57, x_leastGap hF hB (Or.inl rfl) hw hst hi hv hN, i_m1]
    have hb := lg_b a m st i hv (sF a)
    have hp2 := of_decide_eq_true hp
    have y := hp2.1
    have hx := x_ahead hS hF hB hw hst hi hv y hN
    have hne : (nI (lgA a m st i v) = -nI 1) = False := q_m1n (by unfold lgA at y ⊢; omega)
    simp (disch := omega) only [(x_size hS).2.1, ob, q_le, Nat.not_le.mpr hi, ↓reduceIte, ↓jn_eq, lgE, y, hne, hx, i_0, q_eq]
    rw [if_pos hp2.2]
    by_cases x : wt = 0
    · simp only [x, ↓reduceIte]
    · simp only [x, ↓reduceIte]
  · show lp_X8_guess_57 N C pl (nI wt) (nI v) (some (-14)) (n + 1) (nI (a 1)) = _
    rw [lp_X8_guess_57]
    simp (disch := omega) only [(x_size hS).2.1, ob, q_le, Nat.le_refl, ↓reduceIte]
  · split <;> rfl
theorem J_guess (h : RD C M a) (v p i : Int32) (hN : 3000 ≤ N) : ∃ r M', f_X8_guess N C v p i = some r ∧ f_X9_guess N M v p i = some (r, M') ∧ AgM M M' := by
  obtain ⟨hw, hM, hS, hF, hB, hH, hD⟩ := h
  obtain ⟨w0, w1, w2, w3, w4, w5, w6, w7, wl, wp, wn, we⟩ := id hw
  obtain ⟨M', eL, hA, hL⟩ := m_laysNow hM hw hN
  have hst := hw.2.2.2.2.1
  have hM' := hA.sm hM
  unfold f_X8_guess f_X9_guess
  rcases sg v with hv | ⟨w, hwk, rfl⟩
  · refine ⟨-11, M, ?_, ?_, AgM.rf⟩
    · rw [x_hasG hv, ob, i_0, if_pos rfl]
    · rw [m_isWordG hv, ob, i_0, if_pos rfl]
  · rw [x_hasN hS.1.2.2.1 (by omega) hwk, m_isWordN hM w0 hwk, ob, ob]
    by_cases hwd : w < a 0
    · simp only [hwd, ↓reduceIte, i_0, i_1, q_nT]
      by_cases hp : p < nI 0
      · refine ⟨-11, M, ?_, ?_, AgM.rf⟩
        · rw [if_pos hp]
        · rw [if_pos hp]
      · rw [if_neg hp, if_neg hp]
        rcases sg i with hi | ⟨j, hj, rfl⟩
        · refine ⟨-11, M, ?_, ?_, AgM.rf⟩
          · simp (disch := omega) only [ngLt hi, ↓reduceIte]
          · rw [m_inG hi (by decide), ob, if_pos rfl]
        · rw [m_inN hj (by decide) (by decide), ob, if_neg (show ¬ nI j < nI 0 from nI_pos hj)]
          by_cases j1 : j ≤ 1
          · obtain ⟨d1, d2, d3, d4⟩ := hL.2.2.2.2 w hwd
            have s1 := sh_le hw (m := a 3) hst hwd
            rw [if_pos ((nI_leI hj (by decide)).mpr j1), x_isHidden hH hw hwd, x_shown hD hw hwd]
            simp (disch := omega) only [j1, Nat.zero_le, and_self, ↓reduceIte, q_nT, eL, ob, ↓jn_eq, q_gIn, q_cl, d1, d2]
            cases z : hid a w with
            | true =>
              obtain ⟨z1, z2⟩ := foV_t w z
              have hle := sF_le hw
              obtain ⟨R, e1, e2⟩ : ∃ R, lp_X8_guess_57 N C p (nI j) (nI (sh a (a 3) (a 4) w)) (some (-14)) N (nI 0) = some R ∧ f_X9_guessOf N M' (nI (sh a (a 3) (a 4) w)) p (nI j) = some R := ⟨_, x_guessL (N := N) (pl := p) hS hF hB hw hst (v := sh a (a 3) (a 4) w) (by omega) j1 hN, m_guessOf (N := N) (pl := p) hM' hw hL hst (v := sh a (a 3) (a 4) w) (by omega) j1 hN⟩
              refine ⟨R, M', ?_, ?_, hA⟩
              · simp only [↓reduceIte, q_nT, e1]
              · simp (disch := omega) only [z1, q_le, Nat.zero_le, ↓reduceIte, e2, ob]
            | false =>
              refine ⟨-12, M', ?_, ?_, hA⟩
              · simp only [Bool.false_eq_true, ↓reduceIte]
              · simp only [foV_f w z, q_le1n, ↓reduceIte]
          · refine ⟨-11, M, ?_, ?_, AgM.rf⟩
            · rw [if_neg (fun q => j1 ((nI_leI hj (by decide)).mp q))]
            · simp only [j1, and_false, ↓reduceIte]
    · refine ⟨-11, M, ?_, ?_, AgM.rf⟩
      · simp only [hwd, ↓reduceIte, i_0]
      · simp only [hwd, ↓reduceIte, i_0]
end JJ3
end
section
/-! ===== both programs' answers: same, stepFor, modeFor ===== -/
def tel (a : kA) (m st one oth w : Nat) : Bool := hid a w && (decide (fo a w / (a 2 + 1) = one ∨ fo a w / (a 2 + 1) = oth) && !decide (bw a m st (one * (a 2 + 1) + fo a w % (a 2 + 1)) = bw a m st (oth * (a 2 + 1) + fo a w % (a 2 + 1))))
section JJ4
variable {C M : kS} {a : kA} {N m st : Nat}
theorem nE_lt {nm r : Nat} (h : nm < a 1) (hr : r < a 2 + 1) : nm * (a 2 + 1) + r < sF a := by
  have h1 := Nat.mul_le_mul_right (a 2 + 1) (show nm + 1 ≤ a 1 from h)
  rw [Nat.succ_mul] at h1
  unfold sF
  omega
theorem nE_num {nm r : Nat} : nI nm * nI (a 2 + 1) + (nI r - nI 1) + nI 1 = nI (nm * (a 2 + 1) + r) := by
  rw [Int32.add_assoc, Int32.sub_add_cancel, pk_mul, nI_add]
theorem x_tells {w one oth : Nat} (hF : FmC C a) (hB : BrC C 113 a m st) (hH : HdC C a) (hw : WF a) (hst : 1 ≤ st ∧ st ≤ 50) (hwd : w < a 0) (hh : hid a w = true) (h1 : one < a 1) (h2 : oth < a 1) : f_X8_tellsApart N C (nI w) (nI one) (nI oth) = some (nI (if tel a m st one oth w = true then 1 else 0)) := by
  obtain ⟨z1, z2⟩ := foV_t w hh
  have hle := sF_le hw
  have hr := fr (a := a) (fo a w)
  have hq := fq z2
  have w1 := hw.2.1
  have n1 := nE_lt h1 hr
  have n2 := nE_lt h2 hr
  have b1 := bw_le hw (m := m) hst n1
  have b2 := bw_le hw (m := m) hst n2
  unfold f_X8_tellsApart f_X1_numberOf tel
  rw [hF.1, i_1]
  simp (disch := omega) only [x_formOf hH hw hwd, ob, z1, x_nameOf hF.1 hw.2.2.1, x_endingOf hF.1 hw.2.2.1, nE_num, x_barW hB (Or.inl rfl) hw n1, x_barW hB (Or.inl rfl) hw n2, q_eq, hh, Bool.true_and, i_0, i_1, q_and0, q_and1, ↓jn_eq]
  by_cases y : bw a m st (one * (a 2 + 1) + fo a w % (a 2 + 1)) = bw a m st (oth * (a 2 + 1) + fo a w % (a 2 + 1))
  · simp only [y, ↓reduceIte, q_and0, ite_self, decide_true, Bool.not_true, Bool.and_false, Bool.false_eq_true]
  · by_cases y1 : fo a w / (a 2 + 1) = one
    · simp only [y, y1, ↓reduceIte, q_and1, decide_false, Bool.not_false, true_or, decide_true, Bool.and_self]
    · by_cases y2 : fo a w / (a 2 + 1) = oth
      · simp only [y, y1, y2, ↓reduceIte, q_and1, decide_false, Bool.not_false, or_true, decide_true, Bool.and_self, ite_self]
      · simp only [y1, y2, ↓reduceIte, or_self, decide_false, Bool.false_and, Bool.false_eq_true]
theorem x_same {one oth : Nat} (hS : StC C 4 a) (hF : FmC C a) (hB : BrC C 113 a m st) (hH : HdC C a) (hw : WF a) (hst : 1 ≤ st ∧ st ≤ 50) (h1 : one < a 1) (h2 : oth < a 1) (hN : 3000 ≤ N) : lp_X8_same_33 N C (nI one) (nI oth) (some 1) N (nI 0) = some (nI (if allB (fun w => !tel a m st one oth w) (a 0) = true then 1 else 0)) := by
  have w0 := hw.1
  refine (lpX (fun n i => lp_X8_same_33 N C (nI one) (nI oth) (some 1) n (nI i)) (a 0) (tel a m st one oth) (fun _ => some 0) (some 1) (fun n w hwd hp => ?_) (fun n w hwd hp => ?_) (fun n => ?_) (N := N) (by omega)).trans ?_
  · show lp_X8_same_33 N C (nI one) (nI oth) (some 1) (n + 1) (nI w) = lp_X8_same_33 N C (nI one) (nI oth) (some 1) n (nI (w + 1))
    rw [lp_X8_same_33, x_isHidden hH hw hwd]
    cases z : hid a w with
    | true => simp (disch := omega) only [(x_size hS).1, ob, q_le, Nat.not_le.mpr hwd, ↓reduceIte, ↓jn_eq, i_0, q_nT, x_tells hF hB hH hw hst hwd z h1 h2, hp, Bool.false_eq_true, i_1, nI_add]
    | false => simp (disch := omega) only [(x_size hS).1, ob, q_le, Nat.not_le.mpr hwd, ↓reduceIte, ↓jn_eq, i_0, Bool.false_eq_true, i_1, nI_add]
  · show lp_X8_same_33 N C (nI one) (nI oth) (some 1) (n + 2) (nI w) = some 0
    have z : hid a w = true := (Bool.and_eq_true_iff.mp hp).1
    rw [lp_X8_same_33, x_isHidden hH hw hwd]
    simp (disch := omega) only [(x_size hS).1, ob, q_le, Nat.not_le.mpr hwd, ↓reduceIte, ↓jn_eq, z, i_0, q_nT, x_tells hF hB hH hw hst hwd z h1 h2, hp]
  · show lp_X8_same_33 N C (nI one) (nI oth) (some 1) (n + 1) (nI (a 0)) = some 1
    rw [lp_X8_same_33]
    simp (disch := omega) only [(x_size hS).1, ob, q_le, Nat.le_refl, ↓reduceIte]
  · rw [allB_fst]
    simp only [Bool.not_not]
    by_cases y : fst (tel a m st one oth) (a 0) < a 0
    · have y2 : fst (fun w => tel a m st one oth w) (a 0) < a 0 := y
      simp only [y, y2, ↓reduceIte, not_true, decide_false, Bool.false_eq_true, i_0]
    · have y2 : ¬ fst (fun w => tel a m st one oth w) (a 0) < a 0 := y
      simp only [y, y2, ↓reduceIte, not_false_iff, decide_true, i_1]
theorem m_same {one oth : Nat} (hM : SM M a) (hL : LD M a m st) (hw : WF a) (hst : 1 ≤ st ∧ st ≤ 50) (h1 : one < a 1) (h2 : oth < a 1) (hN : 3000 ≤ N) (kont : Int32 → Option (Int32 × kS)) : lp_X9_same_28 N (nI one) (nI oth) M kont N (nI 1) (nI 0) = kont (nI (if allB (fun w => !tel a m st one oth w) (a 0) = true then 1 else 0)) := by
  obtain ⟨w0, w1, w2, w3, w4, w5, w6, w7, wl, wp, wn, we⟩ := id hw
  have hle := sF_le hw
  refine lpE (fun n x y => lp_X9_same_28 N (nI one) (nI oth) M kont n x y) (fun i => if allB (fun w => !tel a m st one oth w) i = true then 1 else 0) (a 0) (by omega) (fun n w hwd => ?_) (fun n => ?_)
  · obtain ⟨d1, d2, d3, d4⟩ := hL.2.2.2.2 w hwd
    rw [lp_X9_same_28, allB]
    generalize allB (fun w => !tel a m st one oth w) w = T
    simp (disch := omega) only [i_0, i_1, q_gIn, q_cl, hM _, q_le, Nat.not_le.mpr hwd, ↓reduceIte, ↓jn_eq, d1, d2]
    cases z : hid a w with
    | true =>
      obtain ⟨z1, z2⟩ := foV_t w z
      have hr := fr (a := a) (fo a w)
      have hq := fq z2
      have n1 := nE_lt h1 hr
      have n2 := nE_lt h2 hr
      have b1 := bw_le hw (m := m) hst n1
      have b2 := bw_le hw (m := m) hst n2
      have b3 := bw_le hw (m := m) hst z2
      have hdm := Nat.div_add_mod (fo a w) (a 2 + 1)
      rw [Nat.mul_comm] at hdm
      simp (disch := omega) only [z1, q_le, Nat.zero_le, ↓reduceIte, m_each hM, ob, q_nz, q_rem, sh_t w z, tel, z, Bool.true_and, nI_add]
      rw [q_div (by omega) (by omega) (by omega)]
      simp (disch := omega) only [q_eq, ↓jn_eq]
      by_cases y1 : fo a w / (a 2 + 1) = one
      · rw [y1] at hdm
        have b4 := b3
        rw [← hdm] at b4
        simp (disch := omega) only [y1, ↓reduceIte, pk_mul, nI_add, q_gIn, q_cl, hL.2.2.1, q_eq, true_or, decide_true, Bool.true_and, Bool.not_not]
        have hdm2 : bw a m st (fo a w) = bw a m st (one * (a 2 + 1) + fo a w % (a 2 + 1)) := by rw [hdm]
        rw [hdm2]
        cases T with
        | false => simp only [Bool.false_and, Bool.false_eq_true, ↓reduceIte]
        | true =>
          by_cases y : bw a m st (one * (a 2 + 1) + fo a w % (a 2 + 1)) = bw a m st (oth * (a 2 + 1) + fo a w % (a 2 + 1))
          · simp only [y, ↓reduceIte, decide_true, Bool.and_self, q_nT]
          · have y9 : ¬ bw a m st (oth * (a 2 + 1) + fo a w % (a 2 + 1)) = bw a m st (one * (a 2 + 1) + fo a w % (a 2 + 1)) := fun q => y q.symm
            simp only [y, y9, ↓reduceIte, decide_false, Bool.and_false, q_nT, Bool.false_eq_true]
      · by_cases y2 : fo a w / (a 2 + 1) = oth
        · rw [y2] at hdm
          simp (disch := omega) only [y1, y2, ↓reduceIte, pk_mul, nI_add, q_gIn, q_cl, hL.2.2.1, q_eq, or_true, decide_true, Bool.true_and, Bool.not_not]
          have hdm2 : bw a m st (fo a w) = bw a m st (oth * (a 2 + 1) + fo a w % (a 2 + 1)) := by rw [hdm]
          have y3 : ¬ oth = one := fun q => y1 (y2.trans q)
          rw [hdm2]
          cases T with
          | false => simp only [y3, Bool.false_and, Bool.false_eq_true, ↓reduceIte]
          | true =>
            by_cases y : bw a m st (one * (a 2 + 1) + fo a w % (a 2 + 1)) = bw a m st (oth * (a 2 + 1) + fo a w % (a 2 + 1))
            · simp only [y3, y, ↓reduceIte, decide_true, Bool.and_self, q_nT]
            · simp only [y3, y, ↓reduceIte, decide_false, Bool.and_false, q_nT, Bool.false_eq_true]
        · simp only [y1, y2, ↓reduceIte, or_self, decide_false, Bool.false_and, Bool.not_false, Bool.and_true, nI_add]
    | false =>
      simp (disch := omega) only [foV_f w z, q_le1n, ↓reduceIte, tel, z, Bool.false_and, Bool.not_false, Bool.and_true, nI_add]
      have e1 : (-nI 1 = nI one) = False := eq_false (fun q => by rw [← q_m1n (show one < 2147483648 by omega)]; exact q.symm)
      have e2 : (-nI 1 = nI oth) = False := eq_false (fun q => by rw [← q_m1n (show oth < 2147483648 by omega)]; exact q.symm)
      simp only [e1, e2, ↓reduceIte]
  · rw [lp_X9_same_28]
    simp (disch := omega) only [i_0, q_gIn, q_cl, hM _, q_le, Nat.le_refl, ↓reduceIte]
theorem J_same (h : RD C M a) (v p : Int32) (hN : 3000 ≤ N) : ∃ r M', f_X8_same N C v p = some r ∧ f_X9_same N M v p = some (r, M') ∧ AgM M M' := by
  obtain ⟨hw, hM, hS, hF, hB, hH, hD⟩ := h
  obtain ⟨w0, w1, w2, w3, w4, w5, w6, w7, wl, wp, wn, we⟩ := id hw
  obtain ⟨M', eL, hA, hL⟩ := m_laysNow hM hw hN
  have hst := hw.2.2.2.2.1
  have hM' := hA.sm hM
  unfold f_X8_same f_X9_same
  rcases sg v with hv | ⟨one, h1k, rfl⟩
  · refine ⟨-11, M, ?_, ?_, AgM.rf⟩
    · rw [x_hasG hv, ob, i_0, if_pos rfl]
    · rw [m_isNameG hv, ob, i_0, if_pos rfl]
  · rw [x_hasN hS.2.1.2.2.1 (by omega) h1k, m_isNameN hM w1 h1k, ob, ob]
    by_cases h1 : one < a 1
    · simp only [h1, ↓reduceIte, i_0, q_nT]
      rcases sg p with hp | ⟨oth, h2k, rfl⟩
      · refine ⟨-11, M, ?_, ?_, AgM.rf⟩
        · rw [x_hasG hp, ob, if_pos rfl]
        · rw [m_isNameG hp, ob, if_pos rfl]
      · rw [x_hasN hS.2.1.2.2.1 (by omega) h2k, m_isNameN hM w1 h2k, ob, ob]
        by_cases h2 : oth < a 1
        · refine ⟨nI (if allB (fun w => !tel a (a 3) (a 4) one oth w) (a 0) = true then 1 else 0), M', ?_, ?_, hA⟩
          · simp only [h2, ↓reduceIte, q_nT, ↓jn_eq]
            exact x_same hS hF hB hH hw hst h1 h2 hN
          · simp only [h2, ↓reduceIte, q_nT, ↓jn_eq, eL, ob, i_1]
            rw [m_same hM' hL hw hst h1 h2 hN]
            cases allB (fun w => !tel a (a 3) (a 4) one oth w) (a 0) with
            | true => simp only [↓reduceIte, q_nT]
            | false => simp only [Bool.false_eq_true, ↓reduceIte]
        · refine ⟨-11, M, ?_, ?_, AgM.rf⟩
          · simp only [h2, ↓reduceIte]
          · simp only [h2, ↓reduceIte]
    · refine ⟨-11, M, ?_, ?_, AgM.rf⟩
      · simp only [h1, ↓reduceIte, i_0]
      · simp only [h1, ↓reduceIte, i_0]
end JJ4
end
section
/-! ===== both programs' answers: stepFor, modeFor ===== -/
section JJ5
variable {C M : kS} {a : kA} {N m st : Nat}
theorem few_ge (a : kA) (m st : Nat) {k : Nat} (hk : k ≤ 8) : ∀ n, (k ≤ few a m st n ↔ ∀ w, w < n → hid a w = true → k ≤ pop (nuM a m st (sh a m st w)))
  | 0 => ⟨fun _ w hw => absurd hw (Nat.not_lt_zero w), fun _ => hk⟩
  | n + 1 => by
    have ih := few_ge a m st hk n
    rw [few]
    constructor
    · intro h w hw hh
      have h1 : k ≤ few a m st n := by
        by_cases z : few a m st n ≤ (if hid a n = true then pop (nuM a m st (sh a m st n)) else 8)
        · rw [if_pos z] at h
          exact h
        · rw [if_neg z] at h
          omega
      rcases Nat.lt_or_ge w n with q | q
      · exact ih.mp h1 w q hh
      · have e : w = n := by omega
        subst e
        rw [hh] at h
        simp only [↓reduceIte] at h
        by_cases z : few a m st w ≤ pop (nuM a m st (sh a m st w))
        · omega
        · rw [if_neg z] at h
          exact h
    · intro h
      have h1 := ih.mpr (fun w hw => h w (by omega))
      by_cases z : few a m st n ≤ (if hid a n = true then pop (nuM a m st (sh a m st n)) else 8)
      · rw [if_pos z]
        exact h1
      · rw [if_neg z]
        cases hh : hid a n with
        | true =>
          simp only [↓reduceIte]
          exact h n (Nat.lt_succ_self n) hh
        | false =>
          simp only [Bool.false_eq_true, ↓reduceIte]
          exact hk
theorem x_enough {k c : Nat} (hS : StC C 4 a) (hF : FmC C a) (hH : HdC C a) (hB : BrC C c a m st) (hc : c = 113 ∨ c = 116) (hw : WF a) (hst : 1 ≤ st ∧ st ≤ 50) (hk : k ≤ 8) (hN : 3000 ≤ N) : f_X4_hasEnoughNames N C c (nI k) = some (nI (if k ≤ few a m st (a 0) then 1 else 0)) := by
  have w0 := hw.1
  unfold f_X4_hasEnoughNames
  simp only [↓jn_eq]
  rw [i_0, i_1, q_and1]
  refine (lpX (fun n i => lp_X4_hasEnoughNames_2 N C c (nI k) (some (nI 1)) n (nI i)) (a 0) (fun w => hid a w && !decide (k ≤ pop (nuM a m st (sh a m st w)))) (fun _ => some (nI 0)) (some (nI 1)) (fun n w hwd hp => ?_) (fun n w hwd hp => ?_) (fun n => ?_) (N := N) (by omega)).trans ?_
  · show lp_X4_hasEnoughNames_2 N C c (nI k) (some (nI 1)) (n + 1) (nI w) = lp_X4_hasEnoughNames_2 N C c (nI k) (some (nI 1)) n (nI (w + 1))
    have hpl := pop_le (nuM a m st (sh a m st w))
    rw [lp_X4_hasEnoughNames_2, x_isHidden hH hw hwd]
    cases z : hid a w with
    | true =>
      have hp2 : k ≤ pop (nuM a m st (sh a m st w)) := by
        simp only [z, Bool.true_and] at hp
        simpa using hp
      simp (disch := omega) only [(x_size hS).1, ob, q_le, Nat.not_le.mpr hwd, ↓reduceIte, ↓jn_eq, i_0, q_nT, x_nuW hF hH hB hc hw hst hwd z hN, hp2, i_1, nI_add]
    | false => simp (disch := omega) only [(x_size hS).1, ob, q_le, Nat.not_le.mpr hwd, ↓reduceIte, ↓jn_eq, i_0, Bool.false_eq_true, i_1, nI_add]
  · show lp_X4_hasEnoughNames_2 N C c (nI k) (some (nI 1)) (n + 2) (nI w) = some (nI 0)
    have hpl := pop_le (nuM a m st (sh a m st w))
    have hp2 := Bool.and_eq_true_iff.mp hp
    have hp3 : ¬ k ≤ pop (nuM a m st (sh a m st w)) := by simpa using hp2.2
    rw [lp_X4_hasEnoughNames_2, x_isHidden hH hw hwd]
    simp (disch := omega) only [(x_size hS).1, ob, q_le, Nat.not_le.mpr hwd, ↓reduceIte, ↓jn_eq, i_0, q_nT, hp2.1, x_nuW hF hH hB hc hw hst hwd hp2.1 hN, hp3, i_1, q_and0]
  · show lp_X4_hasEnoughNames_2 N C c (nI k) (some (nI 1)) (n + 1) (nI (a 0)) = some (nI 1)
    rw [lp_X4_hasEnoughNames_2]
    simp (disch := omega) only [(x_size hS).1, ob, q_le, Nat.le_refl, ↓reduceIte]
  · by_cases y : fst (fun w => hid a w && !decide (k ≤ pop (nuM a m st (sh a m st w)))) (a 0) < a 0
    · have h1 := Bool.and_eq_true_iff.mp (fst_yes _ _ y)
      have h2 : ¬ k ≤ few a m st (a 0) := fun q => by
        have h3 := (few_ge a m st hk (a 0)).mp q _ y h1.1
        have h4 : ¬ k ≤ pop (nuM a m st (sh a m st (fst (fun w => hid a w && !decide (k ≤ pop (nuM a m st (sh a m st w)))) (a 0)))) := by simpa using h1.2
        exact h4 h3
      rw [if_pos y, if_neg h2]
    · have h2 : k ≤ few a m st (a 0) := (few_ge a m st hk (a 0)).mpr (fun w hwd hh => by
        have h3 := fst_no (fun w => hid a w && !decide (k ≤ pop (nuM a m st (sh a m st w)))) (a 0) w (by have := fst_le (fun w => hid a w && !decide (k ≤ pop (nuM a m st (sh a m st w)))) (a 0); omega)
        simp only [hh, Bool.true_and] at h3
        simpa using h3)
      rw [if_neg y, if_pos h2]
/-- the class's state but for the trial bars -/
def Ex118 (C C' : kS) : Prop := ∀ j, j ≠ 118 → C' j = C j
theorem HdC.cg2 {C' : kS} (h : HdC C a) (hx : Ex118 C C') : HdC C' a := h.cg (hx 121 (by decide)) (hx 123 (by decide))
theorem FmC.cg2 {C' : kS} (h : FmC C a) (hx : Ex118 C C') : FmC C' a := h.cg (hx 106 (by decide)) (hx 108 (by decide)) (hx 110 (by decide)) (hx 112 (by decide))
theorem StC.cg2 {C' : kS} (h : StC C 4 a) (hx : Ex118 C C') : StC C' 4 a := h.cg (fun j h1 h2 => hx j (by omega))
theorem J_steps {k : Nat} (hw : WF a) (hk : k ≤ 8) (hN : 3000 ≤ N) (kc : kS → Option (Int32 × kS)) (km : kS → Option (Int32 × kS)) (hkc : kc = fun C3 => some (-14, C3)) (hkm : km = fun C4 => some (-14, C4)) : ∀ (d s n n' : Nat) (C M : kS), s + d = 51 → 1 ≤ s → d < n → d < n' → SM M a → StC C 4 a → FmC C a → HdC C a → ∃ r C' M', lp_X8_stepFor_16 N (nI k) kc n (nI s) C = some (r, C') ∧ lp_X9_stepFor_15 N (nI k) km n' (nI s) M = some (r, M') ∧ AgM M M' ∧ Ex118 C C'
  | 0, s, n, n', C, M, hs, h1, hn, hn', hM, hS, hF, hH => by
    obtain ⟨n, rfl⟩ : ∃ m, n = m + 1 := ⟨n - 1, by omega⟩
    obtain ⟨n', rfl⟩ : ∃ m, n' = m + 1 := ⟨n' - 1, by omega⟩
    have e : s = 51 := by omega
    subst e
    refine ⟨-14, C, M, ?_, ?_, AgM.rf, fun _ _ => rfl⟩
    · rw [lp_X8_stepFor_16, if_pos (by decide), hkc]
    · rw [lp_X9_stepFor_15, if_pos (by decide), hkm]
  | d + 1, s, n, n', C, M, hs, h1, hn, hn', hM, hS, hF, hH => by
    obtain ⟨n, rfl⟩ : ∃ m, n = m + 1 := ⟨n - 1, by omega⟩
    obtain ⟨n', rfl⟩ : ∃ m, n' = m + 1 := ⟨n' - 1, by omega⟩
    have hst : 1 ≤ s ∧ s ≤ 50 := ⟨h1, by omega⟩
    obtain ⟨C1, e1, x1, hB⟩ := x_draw (N := N) hF hw (k := 116) (m := 1) (Or.inr rfl) (by decide) hst hN
    have hx1 : Ex118 C C1 := x1
    obtain ⟨M1, e2, hA, hL⟩ := m_lays (N := N) hM hw (m := 1) (by decide) hst hN
    have hM1 := hA.sm hM
    have e3 := x_enough (N := N) (hS.cg2 hx1) (hF.cg2 hx1) (hH.cg2 hx1) hB (Or.inr rfl) hw hst hk hN
    have e4 := m_few (N := N) hM1 hw hL hst hN
    have e5 : C 23 2 = nI (a 5) := hS.2.2.2.2 2 (by decide)
    have hf8 := few_le a 1 s (a 0)
    have hstep : ∀ T : Option (Int32 × kS), lp_X8_stepFor_16 N (nI k) kc (n + 1) (nI s) C = (if nI (if k ≤ few a 1 s (a 0) then 1 else 0) = nI 0 then lp_X8_stepFor_16 N (nI k) kc n (nI (s + 1)) C1 else some (nI s, C1)) := fun _ => by
      rw [lp_X8_stepFor_16, i_2, x_at (k := 22) (n := 5) rfl (by decide) (by decide), e5]
      simp (disch := omega) only [i_50, q_lt, if_neg, ob, i_1, e1, e3, i_0, nI_add]
    have hstepM : lp_X9_stepFor_15 N (nI k) km (n' + 1) (nI s) M = (if nI (few a 1 s (a 0)) < nI k then lp_X9_stepFor_15 N (nI k) km n' (nI (s + 1)) M1 else some (nI s, M1)) := by
      rw [lp_X9_stepFor_15]
      simp (disch := omega) only [i_50, q_lt, if_neg, i_1, e2, ob, e4, nI_add]
    rw [hstep none, hstepM]
    by_cases y : k ≤ few a 1 s (a 0)
    · refine ⟨nI s, C1, M1, ?_, ?_, hA, hx1⟩
      · rw [if_pos y, if_neg (by rw [q_nT]; exact not_false)]
      · rw [if_neg (fun q => by have := (nI_ltI (by omega) (by omega)).mp q; omega)]
    · obtain ⟨r, C', M', g1, g2, g3, g4⟩ := J_steps hw hk hN kc km hkc hkm d (s + 1) n n' C1 M1 (by omega) (by omega) (by omega) (by omega) hM1 (hS.cg2 hx1) (hF.cg2 hx1) (hH.cg2 hx1)
      refine ⟨r, C', M', ?_, ?_, hA.tr g3, fun j hj => by rw [g4 j hj, hx1 j hj]⟩
      · rw [if_neg y, if_pos rfl]
        exact g1
      · rw [if_pos ((nI_ltI (by omega) (by omega)).mpr (by omega))]
        exact g2
theorem J_stepFor (h : RD C M a) (v : Int32) (hN : 3000 ≤ N) : ∃ r C' M', f_X8_stepFor N C v = some (r, C') ∧ f_X9_stepFor N M v = some (r, M') ∧ AgM M M' ∧ Ex118 C C' := by
  obtain ⟨hw, hM, hS, hF, hB, hH, hD⟩ := h
  unfold f_X8_stepFor f_X9_stepFor
  rcases sg v with hv | ⟨k, hk, rfl⟩
  · refine ⟨-11, C, M, ?_, ?_, AgM.rf, fun _ _ => rfl⟩
    · rw [i_1, if_pos (by rw [ngLt hv (by decide)]; trivial)]
    · rw [i_1, i_8, m_inG hv (by decide), ob, i_0, if_pos rfl]
  · rw [i_1, i_8, m_inN hk (by decide) (by decide), ob]
    by_cases y : 1 ≤ k ∧ k ≤ 8
    · obtain ⟨r, C', M', g1, g2, g3, g4⟩ := J_steps (N := N) (k := k) hw y.2 hN (fun C3 => some (-14, C3)) (fun C4 => some (-14, C4)) rfl rfl 50 1 N N C M rfl (by decide) (by omega) (by omega) hM hS hF hH
      refine ⟨r, C', M', ?_, ?_, g3, g4⟩
      · simp only [↓jn_eq]
        rw [if_neg (fun q => by have := (nI_ltI hk (by decide)).mp q; omega), if_pos ((nI_leI hk (by decide)).mpr y.2)]
        exact g1
      · simp only [↓jn_eq]
        rw [if_pos y, if_neg (by rw [i_0, q_nT]; exact not_false)]
        exact g2
    · refine ⟨-11, C, M, ?_, ?_, AgM.rf, fun _ _ => rfl⟩
      · by_cases z : k < 1
        · rw [if_pos ((nI_ltI hk (by decide)).mpr z)]
        · rw [if_neg (fun q => z ((nI_ltI hk (by decide)).mp q)), if_neg (fun q => by have := (nI_leI hk (by decide)).mp q; omega)]
      · rw [if_neg y, i_0, if_pos rfl]
theorem J_modes (hw : WF a) (hN : 3000 ≤ N) (kc : Int32 → kS → Option (Int32 × kS)) (km : Int32 → kS → Option (Int32 × kS)) (hkc : kc = fun x1 C2 => some (x1, C2)) (hkm : km = fun x1 C2 => some (x1, C2)) : ∀ (d s n n' : Nat) (x4 x5 : Int32) (C M : kS), s + d = 4 → d < n → d < n' → SM M a → StC C 4 a → FmC C a → HdC C a → ∃ r C' M', lp_X8_modeFor_7 N kc n x4 x5 (nI s) C = some (r, C') ∧ lp_X9_modeFor_7 N km n' x4 x5 (nI s) M = some (r, M') ∧ AgM M M' ∧ Ex118 C C'
  | 0, s, n, n', x4, x5, C, M, hs, hn, hn', hM, hS, hF, hH => by
    obtain ⟨n, rfl⟩ : ∃ m, n = m + 1 := ⟨n - 1, by omega⟩
    obtain ⟨n', rfl⟩ : ∃ m, n' = m + 1 := ⟨n' - 1, by omega⟩
    have e : s = 4 := by omega
    subst e
    refine ⟨x4, C, M, ?_, ?_, AgM.rf, fun _ _ => rfl⟩
    · rw [lp_X8_modeFor_7, if_pos (by decide), hkc]
    · rw [lp_X9_modeFor_7, if_pos (by decide), hkm]
  | d + 1, s, n, n', x4, x5, C, M, hs, hn, hn', hM, hS, hF, hH => by
    obtain ⟨n, rfl⟩ : ∃ m, n = m + 1 := ⟨n - 1, by omega⟩
    obtain ⟨n', rfl⟩ : ∃ m, n' = m + 1 := ⟨n' - 1, by omega⟩
    have hst := hw.2.2.2.2.1
    obtain ⟨C1, e1, x1, hB⟩ := x_draw (N := N) hF hw (k := 116) (m := s) (Or.inr rfl) (by omega) hst hN
    have hx1 : Ex118 C C1 := x1
    obtain ⟨M1, e2, hA, hL⟩ := m_lays (N := N) hM hw (m := s) (by omega) hst hN
    have hM1 := hA.sm hM
    have e3 := x_sumW (N := N) (hS.cg2 hx1) (hH.cg2 hx1) hB (Or.inr rfl) hw hN
    have e4 := x_betrayed (N := N) (hS.cg2 hx1) (hF.cg2 hx1) (hH.cg2 hx1) hB (Or.inr rfl) hw hst hN
    have e5 := m_sumOf (N := N) hM1 hw hL hst (what := 12) (by decide) hN
    have e6 := m_sumOf (N := N) hM1 hw hL hst (what := 11) (by decide) hN
    have e7 : C 23 2 = nI (a 5) := hS.2.2.2.2 2 (by decide)
    have e8 : C 23 1 = nI (a 4) := hS.2.2.2.2 1 (by decide)
    generalize nI (sumN (tm a s (a 4) 12) (a 0)) = S at e3 e5
    generalize nI (sumN (tm a s (a 4) 11) (a 0)) = B at e4 e6
    have ih := fun x4 x5 => J_modes hw hN kc km hkc hkm d (s + 1) n n' x4 x5 C1 M1 (by omega) (by omega) (by omega) hM1 (hS.cg2 hx1) (hF.cg2 hx1) (hH.cg2 hx1)
    have hstep : lp_X8_modeFor_7 N kc (n + 1) x4 x5 (nI s) C = (if (x4 = -14 ∨ ¬ x5 ≤ S) ∧ B = 0 then lp_X8_modeFor_7 N kc n (nI s) S (nI (s + 1)) C1 else lp_X8_modeFor_7 N kc n x4 x5 (nI (s + 1)) C1) := by
      rw [lp_X8_modeFor_7, i_1, i_2, x_at (k := 22) (n := 5) rfl (by decide) (by decide), x_at (k := 22) (n := 5) rfl (by decide) (by decide), e7, e8]
      simp (disch := omega) only [i_3, q_lt, if_neg, ob, e1, e3, e4, nI_add, ↓jn_eq, i_0]
      by_cases y1 : x4 = -14
      · by_cases y2 : B = nI 0
        · simp only [y1, y2, ↓reduceIte, true_or, true_and, q_nT]
        · simp only [y1, y2, ↓reduceIte, and_false, q_nT]
      · by_cases y3 : x5 ≤ S
        · simp only [y1, y3, ↓reduceIte, not_true, or_self, false_and]
        · by_cases y2 : B = nI 0
          · simp only [y1, y2, y3, ↓reduceIte, not_false_iff, or_true, true_and, q_nT]
          · simp only [y1, y2, y3, ↓reduceIte, and_false, q_nT]
    have hstepM : lp_X9_modeFor_7 N km (n' + 1) x4 x5 (nI s) M = (if (x4 = -14 ∨ ¬ x5 ≤ S) ∧ B = 0 then lp_X9_modeFor_7 N km n' (nI s) S (nI (s + 1)) M1 else lp_X9_modeFor_7 N km n' x4 x5 (nI (s + 1)) M1) := by
      rw [lp_X9_modeFor_7]
      simp (disch := omega) only [i_4, q_le, if_neg, q_gIn, q_cl, hM _, e2, ob, i_12, i_11, e5, e6, i_1, nI_add, ↓jn_eq, i_0]
      by_cases y2 : B = nI 0
      · by_cases y1 : x4 = -14
        · simp only [y1, y2, ↓reduceIte, true_or, true_and]
        · by_cases y3 : x5 ≤ S
          · simp only [y1, y2, y3, ↓reduceIte, not_true, or_self, false_and]
          · simp only [y1, y2, y3, ↓reduceIte, not_false_iff, or_true, true_and]
      · simp only [y2, ↓reduceIte, and_false]
    rw [hstep, hstepM]
    by_cases y : (x4 = -14 ∨ ¬ x5 ≤ S) ∧ B = 0
    · rw [if_pos y, if_pos y]
      obtain ⟨r, C', M', g1, g2, g3, g4⟩ := ih (nI s) S
      exact ⟨r, C', M', g1, g2, hA.tr g3, fun j hj => by rw [g4 j hj, hx1 j hj]⟩
    · rw [if_neg y, if_neg y]
      obtain ⟨r, C', M', g1, g2, g3, g4⟩ := ih x4 x5
      exact ⟨r, C', M', g1, g2, hA.tr g3, fun j hj => by rw [g4 j hj, hx1 j hj]⟩
theorem J_modeFor (h : RD C M a) (hN : 3000 ≤ N) : ∃ r C' M', f_X8_modeFor N C = some (r, C') ∧ f_X9_modeFor N M = some (r, M') ∧ AgM M M' ∧ Ex118 C C' := by
  obtain ⟨hw, hM, hS, hF, hB, hH, hD⟩ := h
  unfold f_X8_modeFor f_X9_modeFor
  simp only [↓jn_eq, i_0]
  exact J_modes (N := N) hw hN (fun x1 C2 => some (x1, C2)) (fun x1 C2 => some (x1, C2)) rfl rfl 4 0 N N (-14) (nI 0) C M rfl (by omega) (by omega) hM hS hF hH
end JJ5
end
section
/-! ===== copies of states ===== -/
section HH1
variable {C M : kS} {a : kA} {N : Nat}
theorem gIf_y {α : Type} {c : Prop} [Decidable c] {x : Option α} (h : c) : gIf c x = x := by
  unfold gIf
  rw [if_pos h]
theorem x_rowCopy {k k1 n : Nat} (h1 : ln (k + 1) = n) (h2 : ln (k1 + 1) = n) (hn : n ≤ 100000) : f_X3_copyFrom N C k k1 = some (up1 C (k + 1) (va_cpy (C (k1 + 1)) (C (k + 1)) 0 0 n)) := by
  unfold f_X3_copyFrom
  rw [h1, h2]
  have e : (if nI n < nI n then nI n else nI n) = nI n := ite_self _
  simp only [↓jn_eq]
  rw [e, gIf_y ⟨nI_pos (by omega), by rw [q_cl (by omega)]; exact Nat.le_refl _, by rw [q_cl (by omega)]; exact Nat.le_refl _⟩, q_cl (by omega)]
theorem cpy_in {f g : Nat → Int32} {n i : Nat} (h : i < n) : va_cpy f g 0 0 n i = f i := by
  unfold va_cpy
  rw [if_pos (by omega), Nat.zero_add, Nat.sub_zero]
theorem x_wdCopy {k p mw ml n base wide : Nat} (hW : WdC C p mw ml a n base wide) (k0 : C k 0 = nI mw) (k1 : C k 1 = nI ml) (hn : n ≤ mw) (hm : mw ≤ 40) (hm2 : ml ≤ 12) (hle : ∀ w, w < n → a (base + wide * w) ≤ ml) (l1 : ln (k + 2) = mw * ml) (l2 : ln (p + 2) = mw * ml) (l3 : ln (k + 4) = mw) (l4 : ln (p + 4) = mw) (hd : k + 4 < p ∨ p + 4 < k) : ∃ C', f_X7_copyFrom N C k p = some C' ∧ WdC C' k mw ml a n base wide ∧ ∀ j, j ≠ k → j ≠ k + 2 → j ≠ k + 4 → C' j = C j := by
  have h6 := Nat.mul_le_mul hm hm2
  obtain ⟨p0, p1, p2, p3⟩ := hW
  unfold f_X7_copyFrom
  rw [x_rowCopy (k := k + 1) (k1 := p + 1) l1 l2 (by omega), ob]
  have e1 : up1 C (k + 1 + 1) (va_cpy (C (p + 1 + 1)) (C (k + 1 + 1)) 0 0 (mw * ml)) = up1 C (k + 2) (va_cpy (C (p + 2)) (C (k + 2)) 0 0 (mw * ml)) := rfl
  rw [e1]
  generalize hC1 : up1 C (k + 2) (va_cpy (C (p + 2)) (C (k + 2)) 0 0 (mw * ml)) = C1
  have a1 : ∀ j, j ≠ k + 2 → C1 j = C j := fun j hj => by rw [← hC1, up1_n hj]
  have a2 : ∀ i, i < mw * ml → C1 (k + 2) i = C (p + 2) i := fun i hi => by rw [← hC1, up1_s, cpy_in hi]
  rw [x_rowCopy (k := k + 3) (k1 := p + 3) l3 l4 (by omega), ob]
  have e2 : up1 C1 (k + 3 + 1) (va_cpy (C1 (p + 3 + 1)) (C1 (k + 3 + 1)) 0 0 mw) = up1 C1 (k + 4) (va_cpy (C1 (p + 4)) (C1 (k + 4)) 0 0 mw) := rfl
  rw [e2]
  generalize hC2 : up1 C1 (k + 4) (va_cpy (C1 (p + 4)) (C1 (k + 4)) 0 0 mw) = C2
  have b1 : ∀ j, j ≠ k + 2 → j ≠ k + 4 → C2 j = C j := fun j h1 h2 => by rw [← hC2, up1_n h2, a1 j h1]
  have b2 : ∀ i, i < mw * ml → C2 (k + 2) i = C (p + 2) i := fun i hi => by rw [← hC2, up1_n (by omega), a2 i hi]
  have b3 : ∀ i, i < mw → C2 (k + 4) i = C (p + 4) i := fun i hi => by rw [← hC2, up1_s, cpy_in hi, a1 (p + 4) (by omega)]
  have c1 : C2 p 4 = nI n := by rw [b1 p (by omega) (by omega)]; exact p2
  have c2 : C2 k 0 = nI mw := by rw [b1 k (by omega) (by omega)]; exact k0
  have c3 : C2 k 1 = nI ml := by rw [b1 k (by omega) (by omega)]; exact k1
  rw [c1, c2]
  have e3 : (if nI n < nI mw then nI n else nI mw) = nI n := by
    by_cases z : n < mw
    · rw [if_pos ((nI_ltI (by omega) (by omega)).mpr z)]
    · rw [if_neg (fun q => z ((nI_ltI (by omega) (by omega)).mp q)), show mw = n by omega]
  rw [e3]
  simp only [↓jn_eq]
  refine ⟨_, rfl, ⟨?_, ?_, ?_, fun w hw => ⟨?_, fun i hi => ?_⟩⟩, fun j h1 h2 h3 => ?_⟩
  · rw [up1_s, pk_un (by decide)]; exact c2
  · rw [up1_s, pk_un (by decide)]; exact c3
  · rw [up1_s, pk_us]
  · rw [up1_n (by omega), b3 w (by omega)]; exact (p3 w hw).1
  · have h7 := row_lt (show w < mw by omega) (show i < ml by have := hle w hw; omega)
    rw [up1_n (by omega), b2 _ h7]; exact (p3 w hw).2 i hi
  · rw [up1_n h1, b1 j h2 h3]
def ShpC (C : kS) (q : Nat) : Prop := (C (q + 1) 0 = nI 40 ∧ C (q + 1) 1 = nI 12) ∧ (C (q + 6) 0 = nI 8 ∧ C (q + 6) 1 = nI 8) ∧ C (q + 11) 0 = nI 4 ∧ C (q + 11) 1 = nI 3
theorem StC.shp {q : Nat} (h : StC C q a) : ShpC C q := ⟨⟨h.1.1, h.1.2.1⟩, ⟨h.2.1.1, h.2.1.2.1⟩, h.2.2.1.1, h.2.2.1.2.1⟩
def Qs (q : Nat) : Prop := q = 4 ∨ q = 26 ∨ q = 46 ∨ q = 66 ∨ q = 86
theorem Qs.ln {q : Nat} (h : Qs q) : (ln (q + 3) = 480 ∧ ln (q + 5) = 40) ∧ (ln (q + 8) = 64 ∧ ln (q + 10) = 8) ∧ (ln (q + 13) = 12 ∧ ln (q + 15) = 4) ∧ ln (q + 17) = 26 ∧ ln (q + 19) = 5 ∧ kd q = 5 := by
  rcases h with h | h | h | h | h <;> subst h <;> decide +kernel
theorem Qs.ap {p q : Nat} (h : Qs p) (h2 : Qs q) (hne : p ≠ q) : p + 20 ≤ q ∨ q + 20 ≤ p := by
  unfold Qs at h h2
  omega
theorem WdC.cg {C' : kS} {k mw ml n base wide : Nat} (h : WdC C k mw ml a n base wide) (h0 : C' k = C k) (h2 : C' (k + 2) = C (k + 2)) (h4 : C' (k + 4) = C (k + 4)) : WdC C' k mw ml a n base wide := by
  unfold WdC
  rw [h0, h2, h4]
  exact h
theorem x_stCopy {p q : Nat} (hS : StC C p a) (hw : WF a) (hp : Qs p) (hq : Qs q) (hne : p ≠ q) (hsh : ShpC C q) : ∃ C', f_X5_copyFrom N C q p = some C' ∧ StC C' q a ∧ ∀ j, (j < q + 1 ∨ q + 20 ≤ j) → C' j = C j := by
  obtain ⟨w0, w1, w2, w3, w4, w5, w6, w7, wl, wp, wn, we⟩ := id hw
  obtain ⟨⟨a1, a2⟩, ⟨a3, a4⟩, ⟨a5, a6⟩, a7, a8, _⟩ := hq.ln
  obtain ⟨⟨b1, b2⟩, ⟨b3, b4⟩, ⟨b5, b6⟩, b7, b8, _⟩ := hp.ln
  have hap := hp.ap hq hne
  obtain ⟨⟨s1, s2⟩, ⟨s3, s4⟩, s5, s6⟩ := hsh
  obtain ⟨hP, hNm, hE, hL, hT⟩ := hS
  unfold f_X5_copyFrom
  obtain ⟨C1, e1, g1, x1⟩ := x_wdCopy (N := N) (k := q + 1) (p := p + 1) hP s1 s2 w0 (by decide) (by decide) (fun w hwd => (wp w hwd).1.2) a1 b1 a2 b2 (by omega)
  rw [e1, ob]
  obtain ⟨C2, e2, g2, x2⟩ := x_wdCopy (N := N) (C := C1) (k := q + 6) (p := p + 6) (hNm.cg (x1 _ (by omega) (by omega) (by omega)) (x1 _ (by omega) (by omega) (by omega)) (x1 _ (by omega) (by omega) (by omega))) (by rw [x1 _ (by omega) (by omega) (by omega)]; exact s3) (by rw [x1 _ (by omega) (by omega) (by omega)]; exact s4) w1 (by decide) (by decide) (fun w hwd => (wn w hwd).1.2) a3 b3 a4 b4 (by omega)
  rw [e2, ob]
  have y2 : ∀ j, (j < q + 1 ∨ q + 11 ≤ j) → C2 j = C j := fun j hj => by rw [x2 j (by omega) (by omega) (by omega), x1 j (by omega) (by omega) (by omega)]
  obtain ⟨C3, e3, g3, x3⟩ := x_wdCopy (N := N) (C := C2) (k := q + 11) (p := p + 11) (hE.cg (y2 _ (by omega)) (y2 _ (by omega)) (y2 _ (by omega))) (by rw [y2 _ (by omega)]; exact s5) (by rw [y2 _ (by omega)]; exact s6) w2 (by decide) (by decide) (fun w hwd => (we w hwd).1.2) a5 b5 a6 b6 (by omega)
  rw [e3, ob]
  have y3 : ∀ j, (j < q + 1 ∨ q + 16 ≤ j) → C3 j = C j := fun j hj => by rw [x3 j (by omega) (by omega) (by omega), y2 j (by omega)]
  rw [x_rowCopy (k := q + 16) (k1 := p + 16) a7 b7 (by decide), ob, x_rowCopy (k := q + 18) (k1 := p + 18) a8 b8 (by decide), ob]
  refine ⟨_, rfl, ⟨?_, ?_, ?_, fun j hj => ?_, fun j hj => ?_⟩, fun j hj => ?_⟩
  · refine g1.cg ?_ ?_ ?_
    · rw [up1_n (by omega), up1_n (by omega), x3 _ (by omega) (by omega) (by omega), x2 _ (by omega) (by omega) (by omega)]
    · rw [up1_n (by omega), up1_n (by omega), x3 _ (by omega) (by omega) (by omega), x2 _ (by omega) (by omega) (by omega)]
    · rw [up1_n (by omega), up1_n (by omega), x3 _ (by omega) (by omega) (by omega), x2 _ (by omega) (by omega) (by omega)]
  · refine g2.cg ?_ ?_ ?_
    · rw [up1_n (by omega), up1_n (by omega), x3 _ (by omega) (by omega) (by omega)]
    · rw [up1_n (by omega), up1_n (by omega), x3 _ (by omega) (by omega) (by omega)]
    · rw [up1_n (by omega), up1_n (by omega), x3 _ (by omega) (by omega) (by omega)]
  · refine g3.cg ?_ ?_ ?_
    · rw [up1_n (by omega), up1_n (by omega)]
    · rw [up1_n (by omega), up1_n (by omega)]
    · rw [up1_n (by omega), up1_n (by omega)]
  · rw [up1_n (show q + 17 ≠ q + 18 + 1 by omega)]
    show up1 C3 (q + 17) (va_cpy (C3 (p + 17)) (C3 (q + 17)) 0 0 26) (q + 17) j = _
    rw [up1_s, cpy_in hj, y3 _ (by omega)]
    exact hL j hj
  · show up1 _ (q + 19) (va_cpy (up1 C3 (q + 16 + 1) (va_cpy (C3 (p + 16 + 1)) (C3 (q + 16 + 1)) 0 0 26) (p + 19)) _ 0 0 5) (q + 19) j = _
    rw [up1_s, cpy_in hj, up1_n (by omega), y3 _ (by omega)]
    exact hT j hj
  · rw [up1_n (by omega), up1_n (by omega), y3 j (by omega)]
end HH1
end
section
/-! ===== the history ===== -/
def HsC (C M : kS) (h : Nat) (p : Nat → Nat) (bs : Nat → kA) : Prop := h ≤ 4 ∧ C 24 1 = nI h ∧ M 0 2 = nI h ∧ (∀ i, i < 4 → C 25 i = nI (p i) ∧ Qs (p i) ∧ p i ≠ 4 ∧ ShpC C (p i)) ∧ (∀ i j, i < 4 → j < 4 → p i = p j → i = j) ∧ ∀ j, j < h → WF (bs j) ∧ StC C (p j) (bs j) ∧ ∀ i, i < 642 → M 2 (642 * j + i) = nI (bs j i)
section HH2
variable {C M : kS} {a : kA} {N : Nat}
theorem m_store {h : Nat} (hh : M 0 2 = nI h) (h3 : h ≤ 3) (kont : kS → Option kS) (hN : 3000 ≤ N) : ∃ M', lp_X9_records_51 N kont N (nI 0) M = kont M' ∧ (∀ j, j ≠ 2 → M' j = M j) ∧ (∀ i, i < 642 → M' 2 (642 * h + i) = M 1 i) ∧ ∀ i, i < 642 * h → M' 2 i = M 2 i := by
  obtain ⟨M1, n, ⟨b0, b1, b2⟩, e⟩ := lpN (fun n i (x : kS) => lp_X9_records_51 N kont n (nI i) x) (fun i x => (∀ j, j ≠ 2 → x j = M j) ∧ (∀ j, j < i → x 2 (642 * h + j) = M 1 j) ∧ ∀ j, j < 642 * h → x 2 j = M 2 j) 642 (fun n i x hi hI => by
    obtain ⟨c0, c1, c2⟩ := hI
    refine ⟨up1 x 2 (upd (x 2) (642 * h + i) (M 1 i)), ⟨fun j hj => by rw [up1_n hj]; exact c0 j hj, fun j hj => ?_, fun j hj => ?_⟩, ?_⟩
    · rw [up1_s]
      by_cases z : j = i
      · subst z
        rw [pk_us]
      · rw [pk_un (by omega)]
        exact c1 j (by omega)
    · rw [up1_s, pk_un (by omega)]
      exact c2 j hj
    · show lp_X9_records_51 N kont (n + 1) (nI i) x = lp_X9_records_51 N kont n (nI (i + 1)) _
      have x02 : x 0 2 = nI h := by rw [c0 0 (by decide)]; exact hh
      have x1 : x 1 = M 1 := c0 1 (by decide)
      rw [lp_X9_records_51]
      simp (disch := omega) only [i_642, q_le, if_neg, x02, pk_mul, nI_add, q_gIn, q_cl, x1, ↓jn_eq, i_1]) (N := N) 0 M (Nat.zero_le _) (by omega) ⟨fun j _ => rfl, fun j hj => absurd hj (Nat.not_lt_zero j), fun j _ => rfl⟩
  refine ⟨M1, e.trans ?_, b0, b1, b2⟩
  show lp_X9_records_51 N kont (n + 1) (nI 642) M1 = kont M1
  rw [lp_X9_records_51, if_pos (by decide)]
theorem m_shift (kont : kS → Option kS) (hN : 3000 ≤ N) : ∃ M', lp_X9_records_10 N kont N (nI 0) M = kont M' ∧ (∀ j, j ≠ 2 → M' j = M j) ∧ ∀ i, i < 1926 → M' 2 i = M 2 (i + 642) := by
  obtain ⟨M1, n, ⟨b0, b1, b2⟩, e⟩ := lpN (fun n i (x : kS) => lp_X9_records_10 N kont n (nI i) x) (fun i x => (∀ j, j ≠ 2 → x j = M j) ∧ (∀ j, j < i → x 2 j = M 2 (j + 642)) ∧ ∀ j, i ≤ j → x 2 j = M 2 j) 1926 (fun n i x hi hI => by
    obtain ⟨c0, c1, c2⟩ := hI
    refine ⟨up1 x 2 (upd (x 2) i (M 2 (i + 642))), ⟨fun j hj => by rw [up1_n hj]; exact c0 j hj, fun j hj => ?_, fun j hj => ?_⟩, ?_⟩
    · rw [up1_s]
      by_cases z : j = i
      · subst z
        rw [pk_us]
      · rw [pk_un z]
        exact c1 j (by omega)
    · rw [up1_s, pk_un (by omega)]
      exact c2 j (by omega)
    · show lp_X9_records_10 N kont (n + 1) (nI i) x = lp_X9_records_10 N kont n (nI (i + 1)) _
      rw [lp_X9_records_10]
      simp (disch := omega) only [i_1926, i_642, q_le, if_neg, nI_add, q_gIn, q_cl, ↓jn_eq, i_1, c2]) (N := N) 0 M (Nat.zero_le _) (by omega) ⟨fun j _ => rfl, fun j hj => absurd hj (Nat.not_lt_zero j), fun j _ => rfl⟩
  refine ⟨M1, e.trans ?_, b0, b1⟩
  show lp_X9_records_10 N kont (n + 1) (nI 1926) M1 = kont M1
  rw [lp_X9_records_10, if_pos (by decide)]
theorem x_rotate {p : Nat → Nat} (hp : ∀ i, i < 4 → C 25 i = nI (p i) ∧ Qs (p i)) (hN : 3000 ≤ N) : ∃ C', f_X2_moveOldestToEnd N C = some C' ∧ (∀ j, j ≠ 25 → C' j = C j) ∧ ∀ i, i < 4 → C' 25 i = nI (if i = 3 then p 0 else p (i + 1)) := by
  have hl : ln 25 = 4 := rfl
  unfold f_X2_moveOldestToEnd
  obtain ⟨C1, n, ⟨b0, b1, b2, b3⟩, e⟩ := lpN (fun n i (x : kS) => lp_X2_moveOldestToEnd_2 N (fun C1 => some C1) n (nI i) x) (fun i x => (∀ j, j ≠ 25 → x j = C j) ∧ (∀ j, j < i → x 25 j = nI (p (j + 1))) ∧ x 25 i = nI (p 0) ∧ ∀ j, i < j → j < 4 → x 25 j = nI (p j)) 3 (fun n i x hi hI => by
    obtain ⟨c0, c1, c2, c3⟩ := hI
    have q0 := (hp 0 (by decide)).2
    have q1 := (hp (i + 1) (by omega)).2
    have r0 : p 0 ≤ 100 := by unfold Qs at q0; omega
    have r1 : p (i + 1) ≤ 100 := by unfold Qs at q1; omega
    refine ⟨up1 (up1 x 25 (upd (x 25) i (nI (p (i + 1))))) 25 (upd (upd (x 25) i (nI (p (i + 1)))) (i + 1) (nI (p 0))), ⟨fun j hj => by rw [up1_n hj, up1_n hj]; exact c0 j hj, fun j hj => ?_, ?_, fun j h1 h2 => ?_⟩, ?_⟩
    · rw [up1_s, pk_un (by omega)]
      by_cases z : j = i
      · subst z
        rw [pk_us]
      · rw [pk_un z]
        exact c1 j (by omega)
    · rw [up1_s, pk_us]
    · rw [up1_s, pk_un (by omega), pk_un (by omega)]
      exact c3 j (by omega) h2
    · show lp_X2_moveOldestToEnd_2 N _ (n + 1) (nI i) x = lp_X2_moveOldestToEnd_2 N _ n (nI (i + 1)) _
      have c4 := c3 (i + 1) (by omega) (by omega)
      rw [lp_X2_moveOldestToEnd_2, hl, i_1]
      simp (disch := omega) only [nI_add, q_le, if_neg, q_gIn, q_cl, ↓jn_eq, c2, c4]
      rw [gIf_y q0.ln.2.2.2.2.2, gIf_y q1.ln.2.2.2.2.2, up1_s]) (N := N) 0 C (Nat.zero_le _) (by omega) ⟨fun j _ => rfl, fun j hj => absurd hj (Nat.not_lt_zero j), (hp 0 (by decide)).1, fun j h1 h2 => (hp j h2).1⟩
  refine ⟨C1, ?_, b0, fun i hi => ?_⟩
  · simp only [↓jn_eq, i_0]
    refine e.trans ?_
    show lp_X2_moveOldestToEnd_2 N _ (n + 1) (nI 3) C1 = _
    rw [lp_X2_moveOldestToEnd_2, hl, if_pos (by decide)]
  · by_cases z : i = 3
    · rw [if_pos z, z]
      exact b2
    · rw [if_neg z]
      exact b1 i (by omega)
theorem x_latest {h q : Nat} (hh : C 24 1 = nI h) (h0 : 0 < h) (h4 : h ≤ 4) (hq : C 25 (h - 1) = nI q) : f_X2_latest N C = some (some (nI q)) := by
  have hl : ln 25 = 4 := rfl
  unfold f_X2_latest
  rw [hh, hl]
  simp (disch := omega) only [i_0, i_1, q_le, q_lt, if_neg, q_sub, q_gIn, q_cl, hq]
/-- what a kept state leaves as it was -/
def KpC (C C' : kS) : Prop := ∀ j, (j < 24 ∨ 106 ≤ j) → C' j = C j
def KpM (M M' : kS) : Prop := (∀ j, j ≠ 0 → j ≠ 2 → M' j = M j) ∧ ∀ j, j ≠ 2 → M' 0 j = M 0 j
theorem x_keep2 {h : Nat} {p : Nat → Nat} {bs : Nat → kA} (hb : h ≤ 3) (h1 : C 24 1 = nI (h + 1)) (hM2 : M 0 2 = nI h) (hp : ∀ i, i < 4 → C 25 i = nI (p i) ∧ Qs (p i) ∧ p i ≠ 4 ∧ ShpC C (p i)) (hi : ∀ i j, i < 4 → j < 4 → p i = p j → i = j) (hs : ∀ j, j < h → WF (bs j) ∧ StC C (p j) (bs j) ∧ ∀ i, i < 642 → M 2 (642 * j + i) = nI (bs j i)) (hw : WF a) (hM : SM M a) (hS : StC C 4 a) (hN : 3000 ≤ N) : ∃ C' M' bs', ((f_X2_latest N C).bind (fun o4 => oM o4 (some C) (fun q5 : Int32 => gIf (kd q5.toNatClampNeg = 5) ((f_X5_copyFrom N C q5.toNatClampNeg 4).bind (fun C7 => some C7))))) = some C' ∧ lp_X9_records_51 N (fun C3 => jn (up1 C3 0 (upd (C3 0) 2 ((C3 0 2) + 1))) (fun C5 : kS => some C5)) N (nI 0) M = some M' ∧ HsC C' M' (h + 1) p bs' ∧ KpC C C' ∧ KpM M M' := by
  obtain ⟨p1, p2, p3, p4⟩ := hp h (by omega)
  have r1 : p h ≤ 86 ∧ 26 ≤ p h := by unfold Qs at p2; omega
  obtain ⟨C', e1, g1, x1⟩ := x_stCopy (N := N) hS hw (Or.inl rfl) p2 (fun q => p3 q.symm) p4
  obtain ⟨M1, e2, y1, y2, y3⟩ := m_store (N := N) hM2 hb (fun C3 => jn (up1 C3 0 (upd (C3 0) 2 ((C3 0 2) + 1))) (fun C5 : kS => some C5)) hN
  have hx : ∀ i, i < 4 → i ≠ h → ∀ j, p i ≤ j → j < p i + 20 → C' j = C j := fun i h4 hne j j1 j2 => by
    have ha := (hp i h4).2.1.ap p2 (fun q => hne (hi i h h4 (by omega) q))
    exact x1 j (by omega)
  have m02 : M1 0 2 = nI h := by rw [y1 0 (by decide)]; exact hM2
  refine ⟨C', up1 M1 0 (upd (M1 0) 2 (nI (h + 1))), fun j => if j = h then a else bs j, ?_, ?_, ⟨by omega, ?_, ?_, fun i h4 => ⟨?_, (hp i h4).2.1, (hp i h4).2.2.1, ?_⟩, hi, fun j hj => ?_⟩, fun j hj => x1 j ?_, ?_, ?_⟩
  · rw [x_latest h1 (by omega) (by omega) (by rw [Nat.add_sub_cancel]; exact p1), ob]
    show gIf (kd (nI (p h)).toNatClampNeg = 5) _ = _
    rw [q_cl (by omega), gIf_y p2.ln.2.2.2.2.2, e1, ob]
  · rw [e2]
    simp only [↓jn_eq, m02, i_1, nI_add]
  · rw [x1 24 (by omega)]; exact h1
  · rw [up1_s, pk_us]
  · rw [x1 25 (by omega)]; exact (hp i h4).1
  · by_cases z : i = h
    · rw [z]
      exact g1.shp
    · obtain ⟨⟨s1, s2⟩, ⟨s3, s4⟩, s5, s6⟩ := (hp i h4).2.2.2
      refine ⟨⟨?_, ?_⟩, ⟨?_, ?_⟩, ?_, ?_⟩
      · rw [hx i h4 z _ (by omega) (by omega)]; exact s1
      · rw [hx i h4 z _ (by omega) (by omega)]; exact s2
      · rw [hx i h4 z _ (by omega) (by omega)]; exact s3
      · rw [hx i h4 z _ (by omega) (by omega)]; exact s4
      · rw [hx i h4 z _ (by omega) (by omega)]; exact s5
      · rw [hx i h4 z _ (by omega) (by omega)]; exact s6
  · by_cases z : j = h
    · subst z
      simp only [↓reduceIte]
      refine ⟨hw, g1, fun i hi2 => ?_⟩
      rw [up1_n (show (2 : Nat) ≠ 0 by decide), y2 i hi2]
      exact hM i hi2
    · simp only [z, ↓reduceIte]
      obtain ⟨b1, b2, b3⟩ := hs j (by omega)
      refine ⟨b1, b2.cg (fun k k1 k2 => hx j (by omega) z k (by omega) k2), fun i hi2 => ?_⟩
      rw [up1_n (show (2 : Nat) ≠ 0 by decide), y3 _ (by omega)]
      exact b3 i hi2
  · omega
  · intro j j0 j2
    rw [up1_n j0, y1 j j2]
  · intro j j2
    rw [up1_s, pk_un j2, y1 0 (by decide)]
theorem J_keep {h : Nat} {p : Nat → Nat} {bs : Nat → kA} (hH : HsC C M h p bs) (hw : WF a) (hM : SM M a) (hS : StC C 4 a) (hN : 3000 ≤ N) : ∃ C' M' h' p' bs', f_X2_keep N C = some C' ∧ f_X9_records N M = some M' ∧ HsC C' M' h' p' bs' ∧ KpC C C' ∧ KpM M M' := by
  obtain ⟨h4, h1, h2, hp, hi, hs⟩ := hH
  have hl : ln 25 = 4 := rfl
  unfold f_X2_keep f_X9_records
  simp only [jn_eq]
  rw [h1, h2, hl]
  by_cases z : h = 4
  · subst z
    obtain ⟨C1, e1, x1, x2⟩ := x_rotate (N := N) (fun i hi4 => ⟨(hp i hi4).1, (hp i hi4).2.1⟩) hN
    obtain ⟨M1, e2, y1, y2⟩ := m_shift (N := N) (M := M) (fun C13 => lp_X9_records_51 N (fun C3 => some (up1 C3 0 (upd (C3 0) 2 ((C3 0 2) + 1)))) N (nI 0) (up1 C13 0 (upd (C13 0) 2 ((C13 0 2) - 1)))) hN
    have hpp : ∀ i, i < 4 → (if i = 3 then p 0 else p (i + 1)) = p (if i = 3 then 0 else i + 1) := fun i _ => by split <;> rfl
    obtain ⟨C', M', bs', f1, f2, f3, f4, f5⟩ := x_keep2 (N := N) (C := C1) (M := up1 M1 0 (upd (M1 0) 2 (nI 3))) (h := 3) (p := fun i => p (if i = 3 then 0 else i + 1)) (bs := fun j => bs (j + 1)) (a := a) (by decide) (by rw [x1 24 (by decide)]; exact h1) (by rw [up1_s, pk_us]) (fun i hi4 => by
      have hk : (if i = 3 then 0 else i + 1) < 4 := by split <;> omega
      obtain ⟨q1, q2, q3, q4⟩ := hp _ hk
      refine ⟨by rw [x2 i hi4, hpp i hi4], q2, q3, ?_⟩
      have q5 : 26 ≤ p (if i = 3 then 0 else i + 1) := by unfold Qs at q2; omega
      unfold ShpC
      rw [x1 _ (by omega), x1 _ (by omega), x1 _ (by omega)]
      exact q4) (fun i j i4 j4 he => by
      have := hi _ _ (show (if i = 3 then 0 else i + 1) < 4 by split <;> omega) (show (if j = 3 then 0 else j + 1) < 4 by split <;> omega) he
      split at this <;> split at this <;> omega) (fun j hj => by
      obtain ⟨b1, b2, b3⟩ := hs (j + 1) (by omega)
      have q2 := (hp (j + 1) (by omega)).2
      have q5 : 26 ≤ p (j + 1) := by have := q2.1; have := q2.2.1; unfold Qs at *; omega
      refine ⟨b1, ?_, fun i hi2 => ?_⟩
      · simp only [show ¬ j = 3 by omega, ↓reduceIte]
        exact b2.cg (fun k k1 k2 => x1 k (by omega))
      · rw [up1_n (show (2 : Nat) ≠ 0 by decide), y2 _ (by omega)]
        have b4 := b3 i hi2
        rw [show 642 * (j + 1) + i = 642 * j + i + 642 by omega] at b4
        exact b4) hw (fun i hi2 => by rw [up1_n (show (1 : Nat) ≠ 0 by decide), y1 1 (by decide)]; exact hM i hi2) (hS.cg (fun k k1 k2 => x1 k (by omega))) hN
    refine ⟨C', M', _, _, bs', ?_, ?_, f3, fun j hj => ?_, ?_, ?_⟩
    · rw [if_pos (by decide), e1, ob]
      exact f1
    · have m02 : M1 0 2 = nI 4 := by rw [y1 0 (by decide)]; exact h2
      rw [i_4, if_pos rfl, i_0, e2]
      simp only [m02, i_1]
      have e5 : nI 4 - nI 1 = nI 3 := by decide
      rw [e5, ← i_1]
      exact f2
    · rw [f4 j hj, x1 j (by omega)]
    · intro j j0 j2
      rw [f5.1 j j0 j2, up1_n j0, y1 j j2]
    · intro j j2
      rw [f5.2 j j2, up1_s, pk_un j2, y1 0 (by decide)]
  · obtain ⟨C', M', bs', f1, f2, f3, f4, f5⟩ := x_keep2 (N := N) (C := up1 C 24 (upd (C 24) 1 (nI (h + 1)))) (M := M) (h := h) (p := p) (bs := bs) (a := a) (by omega) (by rw [up1_s, pk_us]) h2 (fun i hi4 => by
      obtain ⟨q1, q2, q3, q4⟩ := hp i hi4
      have q5 : 26 ≤ p i := by unfold Qs at q2; omega
      refine ⟨by rw [up1_n (by decide)]; exact q1, q2, q3, ?_⟩
      unfold ShpC
      rw [up1_n (by omega), up1_n (by omega), up1_n (by omega)]
      exact q4) hi (fun j hj => by
      obtain ⟨b1, b2, b3⟩ := hs j hj
      have q2 := (hp j (by omega)).2
      have q5 : 26 ≤ p j := by have := q2.1; have := q2.2.1; unfold Qs at *; omega
      exact ⟨b1, b2.cg (fun k k1 k2 => up1_n (by omega)), b3⟩) hw hM (hS.cg (fun k k1 k2 => up1_n (by omega))) hN
    refine ⟨C', M', _, _, bs', ?_, ?_, f3, fun j hj => ?_, f5⟩
    · have hn : ¬ nI 4 ≤ nI h := fun q => by have := (nI_leI (by omega) (by omega)).mp q; omega
      rw [if_neg hn, i_1, nI_add]
      exact f1
    · have hn : ¬ nI h = 4 := fun q => by rw [i_4] at q; exact z ((nI_eq (by omega) (by omega)).mp q)
      rw [if_neg hn, i_0]
      exact f2
    · rw [f4 j hj, up1_n (by omega)]
end HH2
end
section
/-! ===== the text and its faults ===== -/
def TxC (C M : kS) (t : Nat) (c : Nat → Nat) : Prop := t ≤ 200 ∧ C 1 1 = nI t ∧ M 0 4 = nI t ∧ ∀ i, i < t → (32 ≤ c i ∧ c i ≤ 126) ∧ C 3 i = nI (c i) ∧ M 3 i = nI (c i)
def isl (c : Nat) : Bool := decide (97 ≤ c ∧ c ≤ 122)
def run (c : Nat → Nat) : Nat → Nat
  | 0 => 0
  | i + 1 => if isl (c i) = true then run c i + 1 else 0
def wrd (c : Nat → Nat) (i : Nat) : Nat := ct (fun k => isl (c k) && decide (run c k = 0)) i
def rsn (c : Nat → Nat) (t i : Nat) : Nat := if c i = 32 then (if run c i = 0 ∨ i = t - 1 then 2 else 0) else if isl (c i) = true then (if 12 ≤ run c i then 3 else if run c i = 0 ∧ 40 ≤ wrd c i then 4 else 0) else 1
theorem run_le (c : Nat → Nat) : ∀ i, run c i ≤ i
  | 0 => Nat.le_refl 0
  | i + 1 => by
    have ih := run_le c i
    rw [run]
    split <;> omega
theorem wrd_le (c : Nat → Nat) (i : Nat) : wrd c i ≤ i := ct_le _ _
theorem isl_32 : isl 32 = false := by decide
section TT1
variable {C M : kS} {a : kA} {N t : Nat} {c : Nat → Nat}
theorem x_isLetter {x : Nat} (hx : x < 2147483648) : f_X8_isLetter N (nI x) = some (nI (if isl x = true then 1 else 0)) := by
  unfold f_X8_isLetter isl
  simp (disch := omega) only [↓jn_eq, i_97, i_122, q_lt]
  by_cases y : x < 97
  · have y2 : ¬ (97 ≤ x ∧ x ≤ 122) := by omega
    simp only [y, y2, decide_false, ↓reduceIte, i_0, i_1, q_and0, Bool.false_eq_true]
  · by_cases z : 122 < x
    · have y2 : ¬ (97 ≤ x ∧ x ≤ 122) := by omega
      simp only [y, z, y2, decide_false, ↓reduceIte, i_0, i_1, q_and0, Bool.false_eq_true]
    · have y2 : 97 ≤ x ∧ x ≤ 122 := by omega
      simp only [y, z, y2, and_self, decide_true, ↓reduceIte, i_1, q_and1]
theorem m_isLetter {x : Nat} (hx : x < 2147483648) : f_X9_isLetter N (nI x) = some (nI (if isl x = true then 1 else 0)) := by
  unfold f_X9_isLetter isl
  rw [i_97, i_122, m_inN hx (by decide) (by decide), ob]
  by_cases y : 97 ≤ x ∧ x ≤ 122
  · simp only [y, and_self, decide_true, ↓reduceIte, i_1, q_and1]
  · simp only [y, decide_false, ↓reduceIte, i_1, q_and0, Bool.false_eq_true]
theorem x_chr (hT : TxC C M t c) {i : Nat} (hi : i < t) : f_X3_at N C 2 (nI i) = some (nI (c i)) := by
  rw [x_at (k := 2) (n := 200) rfl (by have := hT.1; omega) (by decide), (hT.2.2.2 i hi).2.1]
theorem run_last (c : Nat → Nat) {i : Nat} : ∀ d, d ≤ run c i → d < run c i → isl (c (i - 1 - d)) = true := by
  induction i with
  | zero => intro d _ h; exact absurd h (Nat.not_lt_zero d)
  | succ i ih =>
    intro d _ h
    rw [run] at h
    split at h
    · rename_i z
      cases d with
      | zero => exact z
      | succ d =>
        have := ih d (by omega) (by omega)
        rw [show i + 1 - 1 - (d + 1) = i - 1 - d by omega]
        exact this
    · omega
theorem run_end (c : Nat → Nat) {i : Nat} (h : run c i < i) : isl (c (i - 1 - run c i)) = false := by
  induction i with
  | zero => omega
  | succ i ih =>
    rw [run] at h ⊢
    split
    · rename_i z
      rw [if_pos z] at h
      rw [show i + 1 - 1 - (run c i + 1) = i - 1 - run c i by omega]
      exact ih (by omega)
    · rename_i z
      simpa using z
theorem x_lettersAhead (hT : TxC C M t c) {i : Nat} (hi : i < t) (hN : 3000 ≤ N) : f_X6_lettersAhead N C (nI i) = some (nI (if run c i < 12 then run c i else 12)) := by
  have ht := hT.1
  have hr := run_le c i
  unfold f_X6_lettersAhead
  simp only [↓jn_eq, i_0]
  have hend : ∀ n, run c i < 12 → lp_X6_lettersAhead_2 N C (nI i) (fun x1 => some x1) (n + 1) (nI (run c i)) = some (nI (run c i)) := fun n h12 => by
    rw [lp_X6_lettersAhead_2]
    by_cases z : run c i < i
    · have e := run_end c z
      have b := (hT.2.2.2 (i - 1 - run c i) (by omega)).1
      simp (disch := omega) only [i_12, q_le, if_neg, i_1, q_sub, x_chr hT (i := i - 1 - run c i), ob, x_isLetter, e, Bool.false_eq_true, ↓reduceIte, i_0]
    · have e : run c i = i := by omega
      have e2 : nI i - nI 1 - nI i < 0 := by
        have e3 : nI i - nI 1 - nI i = -nI 1 := by
          rw [Int32.sub_eq_add_neg, Int32.sub_eq_add_neg, Int32.add_assoc, Int32.add_comm (-nI 1), ← Int32.add_assoc, Int32.add_right_neg, Int32.zero_add]
        rw [e3]
        decide
      rw [e] at h12 ⊢
      rw [i_12, if_neg (fun q => by have := (nI_leI (by decide) (by omega)).mp q; omega), i_1, x_atn e2, ob, x_isLetter (by decide), ob]
      rfl
  have hstep : ∀ n d, d < run c i → d < 12 → lp_X6_lettersAhead_2 N C (nI i) (fun x1 => some x1) (n + 1) (nI d) = lp_X6_lettersAhead_2 N C (nI i) (fun x1 => some x1) n (nI (d + 1)) := fun n d h1 h2 => by
    have e := run_last c d (by omega) h1
    have b := (hT.2.2.2 (i - 1 - d) (by omega)).1
    rw [lp_X6_lettersAhead_2]
    simp (disch := omega) only [i_12, q_le, if_neg, i_1, q_sub, x_chr hT (i := i - 1 - d), ob, x_isLetter, e, ↓reduceIte, i_0, q_nT, nI_add]
  by_cases z : run c i < 12
  · obtain ⟨n, e⟩ := lpF (fun n i2 (x : Nat) => lp_X6_lettersAhead_2 N C (nI i) (fun x1 => some x1) n (nI i2)) (fun i => i) (run c i) (fun n d hd => hstep n d hd (by omega)) (N := N) 0 (Nat.zero_le _) (by omega)
    rw [if_pos z]
    exact e.trans (hend n z)
  · obtain ⟨n, e⟩ := lpF (fun n i2 (x : Nat) => lp_X6_lettersAhead_2 N C (nI i) (fun x1 => some x1) n (nI i2)) (fun i => i) 12 (fun n d hd => hstep n d (by omega) hd) (N := N) 0 (Nat.zero_le _) (by omega)
    rw [if_neg z]
    refine e.trans ?_
    show lp_X6_lettersAhead_2 N C (nI i) (fun x1 => some x1) (n + 1) (nI 12) = _
    rw [lp_X6_lettersAhead_2, i_12, if_pos (by decide)]
theorem run0 (c : Nat → Nat) (k : Nat) : run c k = 0 ↔ (k = 0 ∨ isl (c (k - 1)) = false) := by
  cases k with
  | zero => exact ⟨fun _ => Or.inl rfl, fun _ => rfl⟩
  | succ k =>
    rw [run, Nat.add_sub_cancel]
    cases z : isl (c k) with
    | true => simp
    | false => simp
theorem x_wordsAhead (hT : TxC C M t c) {i : Nat} (hi : i < t) (hN : 3000 ≤ N) : f_X6_wordsAhead N C (nI i) = some (nI (wrd c i)) := by
  have ht := hT.1
  unfold f_X6_wordsAhead
  simp only [↓jn_eq, i_0]
  refine lpE (fun n x y => lp_X6_wordsAhead_4 N C (nI i) (fun x1 => some x1) n x y) (fun k => wrd c k) i (by omega) (fun n k hk => ?_) (fun n => ?_)
  · have b := (hT.2.2.2 k (by omega)).1
    have hstep : wrd c (k + 1) = wrd c k + (if (isl (c k) && decide (run c k = 0)) = true then 1 else 0) := rfl
    rw [lp_X6_wordsAhead_4, hstep]
    cases z : isl (c k) with
    | false => simp (disch := omega) only [q_le, Nat.not_le.mpr hk, ↓reduceIte, x_chr hT (i := k), ob, x_isLetter, z, ↓jn_eq, i_0, Bool.false_eq_true, i_1, nI_add, Bool.false_and, Nat.add_zero]
    | true =>
      by_cases y : run c k = 0
      · have y2 := (run0 c k).mp y
        have hp : (f_X3_at N C 2 (nI k - nI 1)).bind (fun r14 => (f_X8_isLetter N r14).bind (fun r16 => if r16 = nI 0 then lp_X6_wordsAhead_4 N C (nI i) (fun x1 => some x1) n (nI (wrd c k) + nI 1) (nI k + nI 1) else lp_X6_wordsAhead_4 N C (nI i) (fun x1 => some x1) n (nI (wrd c k)) (nI k + nI 1))) = lp_X6_wordsAhead_4 N C (nI i) (fun x1 => some x1) n (nI (wrd c k) + nI 1) (nI k + nI 1) := by
          rcases y2 with y2 | y2
          · rw [y2, q_en0, x_atn (by decide), ob, x_isLetter (by decide), ob]
            rfl
          · by_cases k0 : k = 0
            · rw [k0, q_en0, x_atn (by decide), ob, x_isLetter (by decide), ob]
              rfl
            · have b2 := (hT.2.2.2 (k - 1) (by omega)).1
              rw [q_sub (by omega), x_chr hT (by omega), ob, x_isLetter (by omega), y2, ob]
              rfl
        simp (disch := omega) only [q_le, Nat.not_le.mpr hk, ↓reduceIte, x_chr hT (i := k), ob, x_isLetter, z, ↓jn_eq, i_0, q_nT, i_1, Bool.true_and, y, decide_true]
        rw [hp, nI_add, nI_add]
      · have y2 : ¬ (k = 0 ∨ isl (c (k - 1)) = false) := fun q => y ((run0 c k).mpr q)
        have k0 : ¬ k = 0 := fun q => y2 (Or.inl q)
        have y3 : isl (c (k - 1)) = true := by
          cases q : isl (c (k - 1)) with
          | true => rfl
          | false => exact absurd (Or.inr q) y2
        have b2 := (hT.2.2.2 (k - 1) (by omega)).1
        simp (disch := omega) only [q_le, Nat.not_le.mpr hk, ↓reduceIte, x_chr hT (i := k), ob, x_isLetter, z, ↓jn_eq, i_0, q_nT, i_1, q_sub, x_chr hT (i := k - 1), y3, Bool.true_and, y, decide_false, Bool.false_eq_true, nI_add, Nat.add_zero]
  · rw [lp_X6_wordsAhead_4]
    simp (disch := omega) only [q_le, Nat.le_refl, ↓reduceIte]
theorem x_reason (hT : TxC C M t c) {i : Nat} (hi : i < t) (hN : 3000 ≤ N) : f_X6_faultReason N C (nI i) = some (nI (rsn c t i)) := by
  have ht := hT.1
  have hr := run_le c i
  have hwr := wrd_le c i
  have b := (hT.2.2.2 i hi).1
  unfold f_X6_faultReason rsn
  rw [x_chr hT hi, ob, x_lettersAhead hT hi hN, x_wordsAhead hT hi hN, hT.2.1]
  have hL1 : (if run c i < 12 then run c i else 12) ≤ 12 := by split <;> omega
  have hL2 : (if run c i < 12 then run c i else 12) = 0 ↔ run c i = 0 := by split <;> omega
  have hL3 : (if run c i < 12 then run c i else 12) < 12 ↔ run c i < 12 := by split <;> omega
  generalize (if run c i < 12 then run c i else 12) = L at hL1 hL2 hL3
  simp (disch := omega) only [i_32, q_eq, i_0, i_1, i_2, i_3, i_12, i_40, q_le, q_lt, q_sub, ↓jn_eq, ob, x_isLetter, Nat.le_zero_eq]
  by_cases z : c i = 32
  · by_cases y : run c i = 0
    · have y2 := hL2.mpr y
      simp only [z, y, y2, ↓reduceIte, true_or]
    · have y2 : ¬ L = 0 := fun q => y (hL2.mp q)
      by_cases x : i = t - 1
      · have x2 : t - 1 ≤ i := by omega
        rw [if_pos (Or.inr x)]
        simp only [z, y2, x2, ↓reduceIte, q_nT, Nat.one_ne_zero]
      · have x2 : ¬ t - 1 ≤ i := by omega
        simp only [z, y, y2, x2, x, ↓reduceIte, or_self, q_nT, Nat.one_ne_zero]
  · cases y : isl (c i) with
    | false => simp only [z, ↓reduceIte, Bool.false_eq_true]
    | true =>
      by_cases x : 12 ≤ run c i
      · have x2 : ¬ L < 12 := fun q => by have := hL3.mp q; omega
        simp only [z, ↓reduceIte, q_nT, x, x2, Nat.one_ne_zero]
      · have x2 : L < 12 := hL3.mpr (by omega)
        by_cases v : run c i = 0
        · have v2 := hL2.mpr v
          have x3 : ¬ 12 ≤ 0 := by decide
          by_cases u : 40 ≤ wrd c i
          · have u2 : ¬ wrd c i < 40 := by omega
            have u3 : (0 : Nat) < 12 := by decide
            simp only [z, ↓reduceIte, q_nT, v, v2, u, u2, u3, x3, and_self, i_4, Nat.one_ne_zero]
          · have u2 : wrd c i < 40 := by omega
            have u3 : (0 : Nat) < 12 := by decide
            simp only [z, ↓reduceIte, q_nT, v, v2, u, u2, u3, x3, and_false, Nat.one_ne_zero]
        · have v2 : ¬ L = 0 := fun q => v (hL2.mp q)
          simp only [z, ↓reduceIte, q_nT, x, x2, v, v2, false_and, Nat.one_ne_zero]
end TT1
end
section
/-! ===== faults ===== -/
def ffr (c : Nat → Nat) (t i : Nat) : Prop := ∀ j, j < i → rsn c t j = 0
def bad (c : Nat → Nat) (t i : Nat) : Bool := !decide (rsn c t i = 0)
def fltI (c : Nat → Nat) (t : Nat) : Nat := fst (bad c t) t
theorem fltI_ff (c : Nat → Nat) (t : Nat) : ffr c t (fltI c t) := fun j hj => by
  have h := fst_no (bad c t) t j hj
  unfold bad at h
  simpa using h
theorem fltI_bad {c : Nat → Nat} {t : Nat} (h : fltI c t < t) : ¬ rsn c t (fltI c t) = 0 := by
  have h2 : (!decide (rsn c t (fltI c t) = 0)) = true := fst_yes (bad c t) t h
  simpa using h2
theorem rsn_0 {c : Nat → Nat} {t i : Nat} (h : rsn c t i = 0) : (c i = 32 ∧ ¬ run c i = 0 ∧ ¬ i = t - 1) ∨ (isl (c i) = true ∧ ¬ c i = 32 ∧ run c i < 12 ∧ (run c i = 0 → wrd c i < 40)) := by
  unfold rsn at h
  by_cases z : c i = 32
  · rw [if_pos z] at h
    by_cases y : run c i = 0 ∨ i = t - 1
    · rw [if_pos y] at h
      omega
    · exact Or.inl ⟨z, fun q => y (Or.inl q), fun q => y (Or.inr q)⟩
  · rw [if_neg z] at h
    cases y : isl (c i) with
    | false =>
      rw [y] at h
      simp at h
    | true =>
      rw [y] at h
      simp only [↓reduceIte] at h
      by_cases x : 12 ≤ run c i
      · rw [if_pos x] at h
        omega
      · rw [if_neg x] at h
        refine Or.inr ⟨rfl, z, by omega, fun q => ?_⟩
        by_cases v : 40 ≤ wrd c i
        · rw [if_pos ⟨q, v⟩] at h
          omega
        · omega
theorem ff_run {c : Nat → Nat} {t : Nat} : ∀ i, ffr c t i → run c i ≤ 12
  | 0, _ => Nat.zero_le _
  | i + 1, h => by
    have h1 := rsn_0 (h i (Nat.lt_succ_self i))
    rw [run]
    split
    · rename_i z
      rcases h1 with h1 | h1
      · rw [h1.1, isl_32] at z
        cases z
      · omega
    · exact Nat.zero_le _
theorem wrd_s (c : Nat → Nat) (i : Nat) : wrd c (i + 1) = wrd c i + (if (isl (c i) && decide (run c i = 0)) = true then 1 else 0) := rfl
theorem ff_wrd {c : Nat → Nat} {t : Nat} : ∀ i, ffr c t i → wrd c i ≤ 40
  | 0, _ => Nat.zero_le _
  | i + 1, h => by
    have ih := ff_wrd i (fun j hj => h j (by omega))
    have h1 := rsn_0 (h i (Nat.lt_succ_self i))
    rw [wrd_s]
    split
    · rename_i z
      have z2 := Bool.and_eq_true_iff.mp z
      rcases h1 with h1 | h1
      · rw [h1.1, isl_32] at z2
        cases z2.1
      · have := h1.2.2.2 (of_decide_eq_true z2.2)
        omega
    · omega
section TT2
variable {C M : kS} {a : kA} {N t : Nat} {c : Nat → Nat}
theorem TxC.cgM {M' : kS} (hT : TxC C M t c) (h3 : M' 3 = M 3) (h4 : M' 0 4 = M 0 4) : TxC C M' t c := by
  unfold TxC
  rw [h3, h4]
  exact hT
theorem m_reasonAt (hT : TxC C M t c) {i : Nat} (hi : i < t) (hff : ffr c t i) : f_X9_reasonAt N M (nI i) (nI (run c i)) (nI (wrd c i)) = some (nI (rsn c t i)) := by
  have ht := hT.1
  have h1 := ff_run i hff
  have h2 := ff_wrd i hff
  obtain ⟨b, _, e3⟩ := hT.2.2.2 i hi
  unfold f_X9_reasonAt rsn
  simp (disch := omega) only [q_gIn, q_cl, e3, i_32, q_eq, m_isLetter, ob, hT.2.2.1, i_0, i_1, i_2, i_3, i_4, i_12, i_40, ↓jn_eq, q_sub]
  by_cases z : c i = 32
  · by_cases y : i = 0
    · have y2 : run c i = 0 := by rw [y]; rfl
      rw [if_pos (show run c i = 0 ∨ i = t - 1 from Or.inl y2), if_pos z, if_pos y, if_pos z]
    · have h3 := rsn_0 (hff (i - 1) (by omega))
      obtain ⟨b2, _, e4⟩ := hT.2.2.2 (i - 1) (by omega)
      have hr : run c i = 0 ↔ c (i - 1) = 32 := by
        rw [run0]
        constructor
        · intro q
          rcases q with q | q
          · exact absurd q y
          · rcases h3 with h3 | h3
            · exact h3.1
            · rw [h3.1] at q
              cases q
        · intro q
          rw [q]
          exact Or.inr isl_32
      simp (disch := omega) only [z, y, ↓reduceIte, q_gIn, q_cl, e4, q_eq]
      by_cases x : c (i - 1) = 32
      · rw [if_pos (show run c i = 0 ∨ i = t - 1 from Or.inl (hr.mpr x))]
        simp only [x, ↓reduceIte]
      · by_cases v : i = t - 1
        · rw [if_pos (show run c i = 0 ∨ i = t - 1 from Or.inr v), if_neg x, if_pos v]
        · rw [if_neg (show ¬ (run c i = 0 ∨ i = t - 1) from fun q => by
            rcases q with q | q
            · exact x (hr.mp q)
            · exact v q), if_neg x, if_neg v]
  · cases y : isl (c i) with
    | false => simp only [z, ↓reduceIte, Bool.false_eq_true]
    | true =>
      by_cases x : run c i = 12
      · have x2 : 12 ≤ run c i := by omega
        simp only [z, ↓reduceIte, q_nT, x, Nat.le_refl, Nat.one_ne_zero]
      · have x2 : ¬ 12 ≤ run c i := by omega
        by_cases v : run c i = 0
        · by_cases u : wrd c i = 40
          · simp only [z, ↓reduceIte, q_nT, x2, v, u, and_self, Nat.one_ne_zero, Nat.le_refl, Nat.reduceEqDiff, Nat.reduceLeDiff]
          · have u2 : ¬ 40 ≤ wrd c i := by omega
            simp only [z, ↓reduceIte, q_nT, x2, v, u, u2, and_false, Nat.one_ne_zero, Nat.reduceEqDiff, Nat.reduceLeDiff]
        · simp only [z, ↓reduceIte, q_nT, x, x2, v, false_and, Nat.one_ne_zero]
theorem m_faultAt (hT : TxC C M t c) (hN : 3000 ≤ N) : ∃ M', f_X9_faultAt N M = some ((if fltI c t < t then nI (fltI c t) else -14), M') ∧ (∀ j, j ≠ 0 → M' j = M j) ∧ (∀ j, j ≠ 5 → M' 0 j = M 0 j) ∧ (fltI c t < t → M' 0 5 = nI (rsn c t (fltI c t))) := by
  have ht := hT.1
  have hff := fltI_ff c t
  have hle : fltI c t ≤ t := fst_le _ _
  unfold f_X9_faultAt
  simp only [↓jn_eq, i_0]
  obtain ⟨⟨x3, x4, D⟩, n, ⟨g1, g2, b0, b1⟩, e⟩ := lpN (fun n i (y : Int32 × Int32 × kS) => lp_X9_faultAt_6 N (fun C1 => some (-14, C1)) n y.1 y.2.1 (nI i) y.2.2) (fun i y => y.1 = nI (run c i) ∧ y.2.1 = nI (wrd c i) ∧ (∀ j, j ≠ 0 → y.2.2 j = M j) ∧ ∀ j, j ≠ 5 → y.2.2 0 j = M 0 j) (fltI c t) (fun n i y hi hI => by
    obtain ⟨x3, x4, D⟩ := y
    obtain ⟨g1, g2, b0, b1⟩ := hI
    simp only at g1 g2 b0 b1
    subst g1
    subst g2
    have hTD : TxC C D t c := hT.cgM (b0 3 (by decide)) (b1 4 (by decide))
    have hr0 := hff i hi
    have hri := m_reasonAt (N := N) hTD (i := i) (by omega) (fun j hj => hff j (by omega))
    rw [hr0] at hri
    refine ⟨(nI (run c (i + 1)), nI (wrd c (i + 1)), up1 D 0 (upd (D 0) 5 (nI 0))), ⟨rfl, rfl, fun j hj => ?_, fun j hj => ?_⟩, ?_⟩
    · simp only []
      rw [up1_n hj]
      exact b0 j hj
    · simp only []
      rw [up1_s, pk_un hj]
      exact b1 j hj
    · show lp_X9_faultAt_6 N _ (n + 1) (nI (run c i)) (nI (wrd c i)) (nI i) D = lp_X9_faultAt_6 N _ n (nI (run c (i + 1))) (nI (wrd c (i + 1))) (nI (i + 1)) (up1 D 0 (upd (D 0) 5 (nI 0)))
      obtain ⟨b, _, e3⟩ := hTD.2.2.2 i (by omega)
      have hrl := run_le c i
      have hwl := wrd_le c i
      rw [lp_X9_faultAt_6, hTD.2.2.1, hri, wrd_s, run]
      simp (disch := omega) only [q_le, if_neg, ob, ↓jn_eq, up1_s, pk_us, i_0, Nat.le_refl, ↓reduceIte, q_gIn, q_cl, up1_n (show (3 : Nat) ≠ 0 by decide), e3, i_32, q_eq, i_1]
      rcases rsn_0 hr0 with h1 | h1
      · simp only [h1.1, isl_32, ↓reduceIte, Bool.false_eq_true, Bool.false_and, nI_add]
      · by_cases v : run c i = 0
        · simp only [h1.2.1, h1.1, ↓reduceIte, v, decide_true, Bool.and_self, nI_add]
        · simp only [h1.2.1, h1.1, ↓reduceIte, v, decide_false, Bool.and_false, Bool.false_eq_true, nI_add]) (N := N) 0 (nI 0, nI 0, M) (Nat.zero_le _) (by omega) ⟨rfl, rfl, fun j _ => rfl, fun j _ => rfl⟩
  simp only at g1 g2 b0 b1
  have e2 : lp_X9_faultAt_6 N (fun C1 => some (-14, C1)) N (nI 0) (nI 0) (nI 0) M = lp_X9_faultAt_6 N (fun C1 => some (-14, C1)) (n + 1) (nI (run c (fltI c t))) (nI (wrd c (fltI c t))) (nI (fltI c t)) D := by rw [← g1, ← g2]; exact e
  have hTD : TxC C D t c := hT.cgM (b0 3 (by decide)) (b1 4 (by decide))
  by_cases z : fltI c t < t
  · have hri := m_reasonAt (N := N) hTD z hff
    have hbad := fltI_bad z
    have hrb : rsn c t (fltI c t) ≤ 4 := by
      unfold rsn
      repeat' split
      all_goals omega
    refine ⟨up1 D 0 (upd (D 0) 5 (nI (rsn c t (fltI c t)))), ?_, fun j hj => ?_, fun j hj => ?_, fun _ => ?_⟩
    · rw [e2, if_pos z, lp_X9_faultAt_6, hTD.2.2.1, hri]
      simp (disch := omega) only [q_le, if_neg, ob, ↓jn_eq, up1_s, pk_us, i_0, Nat.le_zero_eq]
    · rw [up1_n hj]; exact b0 j hj
    · rw [up1_s, pk_un hj]; exact b1 j hj
    · rw [up1_s, pk_us]
  · have z2 : fltI c t = t := by omega
    refine ⟨D, ?_, b0, b1, fun q => absurd q z⟩
    rw [e2, if_neg z, lp_X9_faultAt_6, hTD.2.2.1, z2]
    simp (disch := omega) only [q_le, Nat.le_refl, ↓reduceIte]
theorem x_faultIndex (hT : TxC C M t c) (hN : 3000 ≤ N) : f_X6_faultIndex N C = some (if fltI c t < t then nI (fltI c t) else -nI 1) := by
  have ht := hT.1
  unfold f_X6_faultIndex
  simp only [↓jn_eq]
  rw [i_0, i_m1]
  refine (lpX (fun n i => lp_X6_faultIndex_2 N C (some (-nI 1)) n (nI i)) t (bad c t) (fun i => some (nI i)) (some (-nI 1)) (fun n i hi hp => ?_) (fun n i hi hp => ?_) (fun n => ?_) (N := N) (by omega)).trans ?_
  · show lp_X6_faultIndex_2 N C (some (-nI 1)) (n + 1) (nI i) = lp_X6_faultIndex_2 N C (some (-nI 1)) n (nI (i + 1))
    have h0 : rsn c t i = 0 := by unfold bad at hp; simpa using hp
    rw [lp_X6_faultIndex_2, hT.2.1]
    simp (disch := omega) only [q_le, if_neg, x_reason hT hi hN, h0, ob, i_0, i_1, ↓reduceIte, nI_add]
  · show lp_X6_faultIndex_2 N C (some (-nI 1)) (n + 2) (nI i) = some (nI i)
    have h0 : ¬ rsn c t i = 0 := by unfold bad at hp; simpa using hp
    have hrb : rsn c t i ≤ 4 := by
      unfold rsn
      repeat' split
      all_goals omega
    rw [lp_X6_faultIndex_2, hT.2.1]
    simp (disch := omega) only [q_le, if_neg, x_reason hT hi hN, ob, i_0, q_eq]
  · show lp_X6_faultIndex_2 N C (some (-nI 1)) (n + 1) (nI t) = _
    rw [lp_X6_faultIndex_2, hT.2.1]
    simp (disch := omega) only [q_le, Nat.le_refl, ↓reduceIte]
  · show (if fltI c t < t then some (nI (fltI c t)) else some (-nI 1)) = _
    split <;> rfl
theorem J_fault (hT : TxC C M t c) (v : Int32) (hN : 3000 ≤ N) : ∃ r M', f_X8_fault N C v = some r ∧ f_X9_fault N M v = some (r, M') ∧ (∀ j, j ≠ 0 → M' j = M j) ∧ ∀ j, j ≠ 5 → M' 0 j = M 0 j := by
  have ht := hT.1
  unfold f_X8_fault f_X9_fault
  rcases sg v with hv | ⟨k, hk, rfl⟩
  · refine ⟨-11, M, ?_, ?_, fun _ _ => rfl, fun _ _ => rfl⟩
    · rw [if_pos hv]
    · rw [i_0, i_1, m_inG hv (by decide), ob, if_pos rfl]
  · by_cases k1 : k ≤ 1
    · obtain ⟨M', e1, b0, b1, b2⟩ := m_faultAt (N := N) hT hN
      have hle : fltI c t ≤ t := fst_le _ _
      rw [if_neg (nI_pos hk), i_0, i_1, m_inN hk (by decide) (by decide), e1, x_faultIndex hT hN]
      by_cases z : fltI c t < t
      · rw [if_pos z, if_pos z]
        by_cases k0 : k = 0
        · refine ⟨nI (fltI c t), M', ?_, ?_, b0, b1⟩
          · simp (disch := omega) only [q_le, k1, ↓reduceIte, ob, Nat.zero_le, ↓jn_eq, k0]
          · simp (disch := omega) only [k0, Nat.zero_le, and_self, ↓reduceIte, ob, q_nT, ↓jn_eq, q_m14]
        · refine ⟨nI (rsn c t (fltI c t)), M', ?_, ?_, b0, b1⟩
          · simp (disch := omega) only [q_le, k1, ↓reduceIte, ob, Nat.zero_le, ↓jn_eq, k0, q_eq, x_reason hT z hN]
          · simp (disch := omega) only [k1, k0, q_eq, Nat.zero_le, and_self, ↓reduceIte, ob, q_nT, ↓jn_eq, q_m14, b2 z, Nat.one_ne_zero]
      · rw [if_neg z, if_neg z]
        refine ⟨-14, M', ?_, ?_, b0, b1⟩
        · simp (disch := omega) only [q_le, k1, ↓reduceIte, ob, q_le1n]
        · simp (disch := omega) only [k1, Nat.zero_le, and_self, ↓reduceIte, ob, q_nT, ↓jn_eq]
    · refine ⟨-11, M, ?_, ?_, fun _ _ => rfl, fun _ _ => rfl⟩
      · rw [if_neg (nI_pos hk), i_1, if_neg (fun q => k1 ((nI_leI hk (by decide)).mp q))]
      · rw [i_0, i_1, m_inN hk (by decide) (by decide), ob, if_neg (show ¬ (0 ≤ k ∧ k ≤ 1) from fun q => k1 q.2), if_pos rfl]
theorem J_type (hT : TxC C M t c) (v : Int32) : ∃ r C' M' t' c', f_X8_type N C v = some (r, C') ∧ f_X9_type N M v = some (r, M') ∧ TxC C' M' t' c' ∧ (∀ j, j ≠ 1 → j ≠ 3 → C' j = C j) ∧ (∀ j, j ≠ 0 → j ≠ 3 → M' j = M j) ∧ ∀ j, j ≠ 4 → M' 0 j = M 0 j := by
  obtain ⟨ht, h1, h2, h3⟩ := id hT
  unfold f_X8_type f_X9_type
  rcases sg v with hv | ⟨k, hk, rfl⟩
  · refine ⟨-11, C, M, t, c, ?_, ?_, hT, fun _ _ _ => rfl, fun _ _ _ => rfl, fun _ _ => rfl⟩
    · rw [i_32, if_pos (by rw [ngLt hv (by decide)]; trivial)]
    · rw [i_32, i_126, m_inG hv (by decide), ob, i_0, if_pos rfl]
  · rw [i_32, i_126, m_inN hk (by decide) (by decide), ob]
    by_cases y : 32 ≤ k ∧ k ≤ 126
    · rw [if_neg (fun q => by have := (nI_ltI hk (by decide)).mp q; omega), if_pos ((nI_leI hk (by decide)).mpr y.2), if_pos y, i_0, if_neg (by rw [q_nT]; exact not_false)]
      unfold f_X6_size
      rw [ob, h1, h2, i_200]
      by_cases z : t = 200
      · refine ⟨-13, C, M, t, c, ?_, ?_, hT, fun _ _ _ => rfl, fun _ _ _ => rfl, fun _ _ => rfl⟩
        · rw [if_neg (fun q => by have := (nI_ltI (by omega) (by decide)).mp q; omega)]
        · rw [z, if_pos rfl]
      · have z2 : ¬ nI t = nI 200 := fun q => z ((nI_eq (by omega) (by decide)).mp q)
        refine ⟨nI (t + 1), up1 (up1 C 3 (upd (C 3) t (nI k))) 1 (upd (C 1) 1 (nI (t + 1))), up1 (up1 M 3 (upd (M 3) t (nI k))) 0 (upd (M 0) 4 (nI (t + 1))), t + 1, fun i => if i = t then k else c i, ?_, ?_, ⟨by omega, ?_, ?_, fun i hi => ?_⟩, fun j j1 j3 => by rw [up1_n j1, up1_n j3], fun j j0 j3 => by rw [up1_n j0, up1_n j3], fun j j4 => ?_⟩
        · rw [if_pos ((nI_ltI (by omega) (by decide)).mpr (by omega))]
          unfold f_X6_append
          rw [h1, i_200, if_neg (fun q => by have := (nI_leI (by decide) (by omega)).mp q; omega), x_put (k := 2) (n := 200) rfl (by omega) (by decide)]
          simp only [ob, ↓jn_eq, up1_n (show (1 : Nat) ≠ 3 by decide), up1_n (show (1 : Nat) ≠ 2 + 1 by decide), h1, i_1, nI_add, up1_s, pk_us]
        · rw [if_neg z2]
          simp (disch := omega) only [q_gIn, q_cl, ↓jn_eq, up1_n (show (0 : Nat) ≠ 3 by decide), h2, i_1, nI_add, up1_s, pk_us]
        · rw [up1_s, pk_us]
        · rw [up1_s, pk_us]
        · rw [up1_n (show (3 : Nat) ≠ 1 by decide), up1_s, up1_n (show (3 : Nat) ≠ 0 by decide), up1_s]
          by_cases x : i = t
          · subst x
            simp only [↓reduceIte, pk_us]
            exact ⟨y, trivial, trivial⟩
          · simp only [x, ↓reduceIte, pk_un x]
            exact h3 i (by omega)
        · rw [up1_s, pk_un j4]
    · refine ⟨-11, C, M, t, c, ?_, ?_, hT, fun _ _ _ => rfl, fun _ _ _ => rfl, fun _ _ => rfl⟩
      · by_cases z : k < 32
        · rw [if_pos ((nI_ltI hk (by decide)).mpr z)]
        · rw [if_neg (fun q => z ((nI_ltI hk (by decide)).mp q)), if_neg (fun q => by have := (nI_leI hk (by decide)).mp q; omega)]
      · rw [if_neg y, i_0, if_pos rfl]
theorem J_clear (hT : TxC C M t c) : ∃ r C' M' t' c', f_X8_clearText N C = some (r, C') ∧ f_X9_clearText N M = some (r, M') ∧ TxC C' M' t' c' ∧ (∀ j, j ≠ 1 → j ≠ 3 → C' j = C j) ∧ (∀ j, j ≠ 0 → j ≠ 3 → M' j = M j) ∧ ∀ j, j ≠ 4 → M' 0 j = M 0 j := by
  obtain ⟨ht, h1, h2, h3⟩ := id hT
  unfold f_X8_clearText f_X9_clearText f_X6_size f_X6_empty
  refine ⟨nI t, up1 C 1 (upd (C 1) 1 (nI 0)), up1 M 0 (upd (M 0) 4 (nI 0)), 0, c, ?_, ?_, ⟨Nat.zero_le _, ?_, ?_, fun i hi => absurd hi (Nat.not_lt_zero i)⟩, fun j j1 _ => up1_n j1, fun j j0 _ => up1_n j0, fun j j4 => ?_⟩
  · simp only [ob, ↓jn_eq, h1, i_0]
  · simp only [↓jn_eq, h2, i_0]
  · rw [up1_s, pk_us]
  · rw [up1_s, pk_us]
  · rw [up1_s, pk_un j4]
end TT2
end
section
/-! ===== words that come from the text ===== -/
def un (a : kA) (j v : Nat) : kA := fun i => if i = j then v else a i
theorem un_s {a : kA} {j v : Nat} : un a j v j = v := if_pos rfl
theorem un_n {a : kA} {i j v : Nat} (h : i ≠ j) : un a j v i = a i := if_neg h
theorem SM.un {M : kS} {a : kA} (h : SM M a) (j v : Nat) : SM (up1 M 1 (upd (M 1) j (nI v))) (un a j v) := fun i hi => by
  rw [up1_s]
  by_cases z : i = j
  · subst z
    rw [pk_us, un_s]
  · rw [pk_un z, un_n z]
    exact h i hi
theorem wm {wide v w : Nat} (h : v < w) : wide * v + wide ≤ wide * w := by
  have h1 := Nat.mul_le_mul_left wide (show v + 1 ≤ w from h)
  rw [Nat.mul_succ] at h1
  exact h1
/-- a letter more for the last word (behind r letters), or for a new one -/
def addL (ci base wide : Nat) (A : kA) (L r x : Nat) : kA := un (un (un A ci (L + 1)) (base + wide * L) (r + 1)) (base + wide * L + (r + 1)) x
def lstW (ci : Nat) (A : kA) (r : Nat) : Nat := if r = 0 then A ci else A ci - 1
def pgG (ci base wide : Nat) (a : kA) (c : Nat → Nat) : Nat → kA
  | 0 => a
  | i + 1 => if isl (c i) = true then addL ci base wide (pgG ci base wide a c i) (lstW ci (pgG ci base wide a c i) (run c i)) (run c i) (c i - 97) else pgG ci base wide a c i
def invW (ci base wide mw ml : Nat) (A : kA) (r : Nat) : Prop := A ci ≤ mw ∧ WL A base wide ml (A ci) ∧ (¬ r = 0 → 1 ≤ A ci ∧ A (base + wide * (A ci - 1)) = r)
section AA1
variable {C M : kS} {a : kA} {N t ci base wide mw ml k : Nat} {c : Nat → Nat}
theorem addL_ci {A : kA} {L r x : Nat} (h : ci < base) : addL ci base wide A L r x ci = L + 1 := by
  unfold addL
  rw [un_n (by omega), un_n (by omega), un_s]
theorem addL_at {A : kA} {L r x : Nat} : addL ci base wide A L r x (base + wide * L) = r + 1 := by
  unfold addL
  rw [un_n (by omega), un_s]
theorem addL_x {A : kA} {L r x : Nat} : addL ci base wide A L r x (base + wide * L + (r + 1)) = x := by
  unfold addL
  rw [un_s]
theorem addL_o {A : kA} {L r x j : Nat} (h1 : j ≠ ci) (h2 : j ≠ base + wide * L) (h3 : j ≠ base + wide * L + (r + 1)) : addL ci base wide A L r x j = A j := by
  unfold addL
  rw [un_n h3, un_n h2, un_n h1]
theorem lst_f {A : kA} {r : Nat} (hI : invW ci base wide mw ml A r) (h0 : r = 0 → A ci < mw) : lstW ci A r < mw ∧ lstW ci A r ≤ A ci ∧ A ci ≤ lstW ci A r + 1 ∧ (¬ r = 0 → A ci = lstW ci A r + 1 ∧ A (base + wide * lstW ci A r) = r) ∧ (r = 0 → lstW ci A r = A ci) := by
  obtain ⟨h1, h2, h3⟩ := hI
  unfold lstW
  by_cases z : r = 0
  · rw [if_pos z]
    have := h0 z
    exact ⟨this, Nat.le_refl _, by omega, fun q => absurd z q, fun _ => rfl⟩
  · rw [if_neg z]
    obtain ⟨h4, h5⟩ := h3 z
    exact ⟨by omega, by omega, by omega, fun _ => ⟨by omega, h5⟩, fun q => absurd q z⟩
theorem addL_inv {A : kA} {r x : Nat} (hI : invW ci base wide mw ml A r) (hr : r < ml) (h0 : r = 0 → A ci < mw) (hx : x < 26) (hci : ci < base) (hwd : wide = ml + 1) : invW ci base wide mw ml (addL ci base wide A (lstW ci A r) r x) (r + 1) := by
  obtain ⟨l1, l2, l3, l4, l5⟩ := lst_f hI h0
  generalize lstW ci A r = L at *
  refine ⟨?_, fun w hw => ?_, fun _ => ?_⟩
  · rw [addL_ci hci]
    omega
  · rw [addL_ci hci] at hw
    by_cases z : w = L
    · subst z
      refine ⟨by rw [addL_at]; omega, fun i hi => ?_⟩
      rw [addL_at] at hi
      by_cases y : i = r
      · subst y
        rw [show base + wide * w + 1 + i = base + wide * w + (i + 1) by omega, addL_x]
        exact hx
      · rw [addL_o (by omega) (by omega) (by omega)]
        have hr0 : ¬ r = 0 := by omega
        obtain ⟨l6, l7⟩ := l4 hr0
        exact (hI.2.1 w (by omega)).2 i (by omega)
    · have hwL : w < L := by omega
      have hm := wm (wide := wide) hwL
      obtain ⟨b1, b2⟩ := hI.2.1 w (by omega)
      rw [addL_o (by omega) (by omega) (by omega)]
      refine ⟨b1, fun i hi => ?_⟩
      rw [addL_o (by omega) (by omega) (by omega)]
      exact b2 i hi
  · rw [addL_ci hci, Nat.add_sub_cancel, addL_at]
    exact ⟨by omega, rfl⟩
theorem pgG_inv (hI : invW ci base wide mw ml a 0) (hci : ci < base) (hwd : wide = ml + 1) (hc : ∀ i, i < t → c i ≤ 126) (hok : ∀ i, i < t → isl (c i) = true → run c i < ml ∧ (run c i = 0 → pgG ci base wide a c i ci < mw)) : ∀ i, i ≤ t → invW ci base wide mw ml (pgG ci base wide a c i) (run c i)
  | 0, _ => hI
  | i + 1, h => by
    have ih := pgG_inv hI hci hwd hc hok i (by omega)
    rw [pgG, run]
    cases z : isl (c i) with
    | true =>
      simp only [↓reduceIte]
      obtain ⟨k1, k2⟩ := hok i (by omega) z
      have h97 : 97 ≤ c i ∧ c i ≤ 122 := of_decide_eq_true z
      exact addL_inv ih k1 k2 (by omega) hci hwd
    | false =>
      simp only [Bool.false_eq_true, ↓reduceIte]
      exact ⟨ih.1, ih.2.1, fun q => absurd rfl q⟩
theorem pgG_out (hI : invW ci base wide mw ml a 0) (hci : ci < base) (hwd : wide = ml + 1) (hc : ∀ i, i < t → c i ≤ 126) (hok : ∀ i, i < t → isl (c i) = true → run c i < ml ∧ (run c i = 0 → pgG ci base wide a c i ci < mw)) {j : Nat} (hj : j ≠ ci) (hj2 : j < base ∨ base + wide * mw ≤ j) : ∀ i, i ≤ t → pgG ci base wide a c i j = a j
  | 0, _ => rfl
  | i + 1, h => by
    have ih := pgG_out hI hci hwd hc hok hj hj2 i (by omega)
    have hv := pgG_inv hI hci hwd hc hok i (by omega)
    rw [pgG]
    cases z : isl (c i) with
    | true =>
      simp only [↓reduceIte]
      obtain ⟨k1, k2⟩ := hok i (by omega) z
      obtain ⟨l1, l2, l3, l4, l5⟩ := lst_f hv k2
      have hm := wm (wide := wide) l1
      rw [addL_o hj (by omega) (by omega)]
      exact ih
    | false =>
      simp only [Bool.false_eq_true, ↓reduceIte]
      exact ih
theorem x_addLetter {D : kS} {L r : Nat} {ch : Int32} (h1 : D k 1 = nI ml) (h4 : D k 4 = nI (L + 1)) (hlen : D (k + 4) L = nI r) (hr : r < ml) (hL : L < mw) (hm : mw ≤ 40) (hm2 : ml ≤ 12) (l2 : ln (k + 2) = mw * ml) (l4 : ln (k + 4) = mw) : f_X7_addLetter N D k ch = some (up1 (up1 D (k + 2) (upd (D (k + 2)) (L * ml + r) ch)) (k + 4) (upd (D (k + 4)) L (nI (r + 1)))) := by
  have h5 := row_lt hL hr
  have h6 := Nat.mul_le_mul hm hm2
  unfold f_X7_addLetter f_X7_lengthOf
  rw [h4, i_1, q_sub (by omega), Nat.add_sub_cancel, x_at (k := k + 3) l4 hL (by omega), ob, hlen, ob, h1]
  rw [if_neg (nI_pos (by omega)), if_neg (fun q => by have := (nI_leI (by omega) (by omega)).mp q; omega), pk_mul, nI_add, x_put (k := k + 1) l2 h5 (by omega), ob, nI_add, x_put (k := k + 3) l4 hL (by omega), ob, up1_n (show k + 3 + 1 ≠ k + 1 + 1 by omega)]
theorem x_addL {A : kA} {r x ch : Nat} (hW : WdC C k mw ml A (A ci) base wide) (hI : invW ci base wide mw ml A r) (hr : r < ml) (h0 : r = 0 → A ci < mw) (hci : ci < base) (hwd : wide = ml + 1) (hch : ch = 97 + x) (hm : mw ≤ 40) (hm2 : ml ≤ 12) (l2 : ln (k + 2) = mw * ml) (l4 : ln (k + 4) = mw) (kont : kS → Option kS) : ∃ C', jn (fun (C17 : kS) => (f_X7_addLetter N C17 k (nI ch)).bind (fun C22 => kont C22)) (fun j36_17 => if (nI (if r = 0 then 0 else 1)) = nI 0 then (f_X7_beginWord N C k).bind (fun C25 => j36_17 C25) else j36_17 C) = kont C' ∧ WdC C' k mw ml (addL ci base wide A (lstW ci A r) r x) ((addL ci base wide A (lstW ci A r) r x) ci) base wide ∧ ∀ j, j ≠ k → j ≠ k + 2 → j ≠ k + 4 → C' j = C j := by
  obtain ⟨l1, l2', l3, l4', l5⟩ := lst_f hI h0
  obtain ⟨w0, w1, w2, w3⟩ := hW
  -- the state in front of the letter
  have hD : ∃ D : kS, (jn (fun (C17 : kS) => (f_X7_addLetter N C17 k (nI ch)).bind (fun C22 => kont C22)) (fun j36_17 => if (nI (if r = 0 then 0 else 1)) = nI 0 then (f_X7_beginWord N C k).bind (fun C25 => j36_17 C25) else j36_17 C) = (f_X7_addLetter N D k (nI ch)).bind (fun C22 => kont C22)) ∧ D k 0 = nI mw ∧ D k 1 = nI ml ∧ D k 4 = nI (lstW ci A r + 1) ∧ D (k + 4) (lstW ci A r) = nI r ∧ (∀ j, j ≠ k → j ≠ k + 4 → D j = C j) ∧ ∀ w, w < lstW ci A r → D (k + 4) w = C (k + 4) w := by
    by_cases z : r = 0
    · have z2 := l5 z
      have z3 := h0 z
      refine ⟨up1 (up1 C (k + 4) (upd (C (k + 4)) (A ci) (nI 0))) k (upd (C k) 4 (nI (A ci + 1))), ?_, ?_, ?_, ?_, ?_, fun j h1 h2 => by rw [up1_n h1, up1_n h2], fun w hw => ?_⟩
      · simp only [jn_eq, z, ↓reduceIte]
        unfold f_X7_beginWord
        rw [w0, w2, if_neg (fun q => by have := (nI_leI (by omega) (by omega)).mp q; omega), i_0, x_put (k := k + 3) l4 z3 (by omega), ob]
        simp only [jn_eq, up1_n (show k ≠ k + 3 + 1 by omega), w2, i_1, nI_add, ob]
      · rw [up1_s, pk_un (by decide)]; exact w0
      · rw [up1_s, pk_un (by decide)]; exact w1
      · rw [up1_s, pk_us, z2]
      · rw [up1_n (show k + 4 ≠ k by omega), up1_s, z2, pk_us, z]
      · rw [up1_n (show k + 4 ≠ k by omega), up1_s, pk_un (by omega)]
    · obtain ⟨z2, z3⟩ := l4' z
      refine ⟨C, ?_, w0, w1, by rw [w2, z2], by rw [(w3 _ (by omega)).1, z3], fun _ _ _ => rfl, fun _ _ => rfl⟩
      simp only [jn_eq, z, ↓reduceIte, q_nT]
  obtain ⟨D, d1, d2, d3, d4, d5, d6, d7⟩ := hD
  rw [d1, x_addLetter d3 d4 d5 hr l1 hm hm2 l2 l4, ob]
  refine ⟨_, rfl, ⟨?_, ?_, ?_, fun w hw => ?_⟩, fun j h1 h2 h3 => by rw [up1_n h3, up1_n h2, d6 j h1 h3]⟩
  · rw [up1_n (show k ≠ k + 4 by omega), up1_n (show k ≠ k + 2 by omega)]; exact d2
  · rw [up1_n (show k ≠ k + 4 by omega), up1_n (show k ≠ k + 2 by omega)]; exact d3
  · rw [up1_n (show k ≠ k + 4 by omega), up1_n (show k ≠ k + 2 by omega), addL_ci hci]; exact d4
  · rw [addL_ci hci] at hw
    rw [up1_s, up1_n (show k + 2 ≠ k + 4 by omega), up1_s, d6 (k + 2) (by omega) (by omega)]
    generalize hLL : lstW ci A r = L at *
    by_cases z : w = L
    · subst z
      refine ⟨by rw [pk_us, addL_at], fun i hi => ?_⟩
      rw [addL_at] at hi
      by_cases y : i = r
      · subst y
        rw [pk_us, show base + wide * w + 1 + i = base + wide * w + (i + 1) by omega, addL_x, hch]
      · have hr0 : ¬ r = 0 := by omega
        obtain ⟨l6, l7⟩ := l4' hr0
        rw [pk_un (by omega), addL_o (by omega) (by omega) (by omega)]
        exact (w3 w (by omega)).2 i (by omega)
    · have hwL : w < L := by omega
      have hm3 := wm (wide := wide) hwL
      have hm4 := Nat.mul_le_mul_right ml (show w + 1 ≤ L from hwL)
      rw [Nat.succ_mul] at hm4
      obtain ⟨b1, b2⟩ := hI.2.1 w (by omega)
      rw [pk_un z, d7 w hwL, addL_o (by omega) (by omega) (by omega)]
      refine ⟨(w3 w (by omega)).1, fun i hi => ?_⟩
      rw [pk_un (by omega), addL_o (by omega) (by omega) (by omega)]
      exact (w3 w (by omega)).2 i hi
theorem TxC.cgC {C' : kS} (hT : TxC C M t c) (h1 : C' 1 1 = C 1 1) (h3 : C' 3 = C 3) : TxC C' M t c := by
  unfold TxC
  rw [h1, h3]
  exact hT
theorem x_addWords (hT : TxC C M t c) (hW : WdC C k mw ml a (a ci) base wide) (hI : invW ci base wide mw ml a 0) (hci : ci < base) (hwd : wide = ml + 1) (hm : mw ≤ 40) (hm2 : ml ≤ 12) (l2 : ln (k + 2) = mw * ml) (l4 : ln (k + 4) = mw) (hk : 5 ≤ k) (hok : ∀ i, i < t → isl (c i) = true → run c i < ml ∧ (run c i = 0 → pgG ci base wide a c i ci < mw)) (hN : 3000 ≤ N) : ∃ C', f_X7_addWordsOf N C k = some C' ∧ WdC C' k mw ml (pgG ci base wide a c t) (pgG ci base wide a c t ci) base wide ∧ ∀ j, j ≠ k → j ≠ k + 2 → j ≠ k + 4 → C' j = C j := by
  have ht := hT.1
  have hinv := pgG_inv hI hci hwd (fun i hi => (hT.2.2.2 i hi).1.2) hok
  unfold f_X7_addWordsOf
  simp only [↓jn_eq, i_0]
  obtain ⟨⟨x3, D⟩, n, ⟨g1, b0, b1⟩, e⟩ := lpN (fun n i (y : Int32 × kS) => lp_X7_addWordsOf_4 N k (fun C1 => some C1) n y.1 (nI i) y.2) (fun i y => y.1 = nI (if run c i = 0 then 0 else 1) ∧ (∀ j, j ≠ k → j ≠ k + 2 → j ≠ k + 4 → y.2 j = C j) ∧ WdC y.2 k mw ml (pgG ci base wide a c i) (pgG ci base wide a c i ci) base wide) t (fun n i y hi hJ => by
    obtain ⟨x3, D⟩ := y
    obtain ⟨g1, b0, b1⟩ := hJ
    simp only at g1 b0 b1
    subst g1
    have hTD : TxC D M t c := hT.cgC (by rw [b0 1 (by omega) (by omega) (by omega)]) (b0 3 (by omega) (by omega) (by omega))
    have hb := (hTD.2.2.2 i hi).1
    have hsz : f_X6_size N D = some (nI t) := by unfold f_X6_size; rw [hTD.2.1]
    have hat : f_X6_at N D (nI i) = some (nI (c i)) := by unfold f_X6_at; rw [x_chr hTD hi, ob]
    cases z : isl (c i) with
    | false =>
      refine ⟨(nI 0, D), ⟨?_, b0, ?_⟩, ?_⟩
      · simp only [run, z, Bool.false_eq_true, ↓reduceIte]
      · simp only [pgG, z, Bool.false_eq_true, ↓reduceIte]
        exact b1
      · show lp_X7_addWordsOf_4 N k _ (n + 1) (nI (if run c i = 0 then 0 else 1)) (nI i) D = lp_X7_addWordsOf_4 N k _ n (nI 0) (nI (i + 1)) D
        rw [lp_X7_addWordsOf_4, hsz, hat]
        simp (disch := omega) only [ob, q_le, Nat.not_le.mpr hi, ↓reduceIte, x_isLetter, z, Bool.false_eq_true, i_0, i_1, ↓jn_eq, nI_add]
    | true =>
      obtain ⟨k1, k2⟩ := hok i hi z
      have h97 : 97 ≤ c i ∧ c i ≤ 122 := of_decide_eq_true z
      obtain ⟨C', f1, f2, f3⟩ := x_addL (N := N) (C := D) (x := c i - 97) (ch := c i) b1 (hinv i (by omega)) k1 k2 hci hwd (by omega) hm hm2 l2 l4 (fun C22 => lp_X7_addWordsOf_4 N k (fun C1 => some C1) n (nI 1) (nI i + nI 1) C22)
      refine ⟨(nI 1, C'), ⟨?_, fun j j1 j2 j3 => ?_, ?_⟩, ?_⟩
      · simp only [run, z, ↓reduceIte, Nat.succ_ne_zero]
      · simp only []
        rw [f3 j j1 j2 j3]
        exact b0 j j1 j2 j3
      · simp only [pgG, z, ↓reduceIte]
        exact f2
      · show lp_X7_addWordsOf_4 N k _ (n + 1) (nI (if run c i = 0 then 0 else 1)) (nI i) D = lp_X7_addWordsOf_4 N k _ n (nI 1) (nI (i + 1)) C'
        rw [nI_add] at f1
        rw [← f1, lp_X7_addWordsOf_4, hsz, hat]
        have hat2 : ∀ C17 : kS, (C17 = D ∨ f_X7_beginWord N D k = some C17) → f_X6_at N C17 (nI i) = some (nI (c i)) := by
          intro C17 hh
          rcases hh with hh | hh
          · rw [hh]; exact hat
          · unfold f_X7_beginWord at hh
            split at hh
            · cases hh; exact hat
            · unfold f_X3_put at hh
              split at hh
              · rw [ob] at hh
                cases hh
                have hq : TxC (up1 D k (upd (D k) 4 (D k 4 + 1))) M t c := hTD.cgC (by rw [up1_n (by omega)]) (by rw [up1_n (by omega)])
                unfold f_X6_at
                rw [x_chr hq hi, ob]
              · split at hh
                · rw [ob] at hh
                  cases hh
                  have hq : TxC (up1 D k (upd (D k) 4 (D k 4 + 1))) M t c := hTD.cgC (by rw [up1_n (by omega)]) (by rw [up1_n (by omega)])
                  unfold f_X6_at
                  rw [x_chr hq hi, ob]
                · unfold gIn at hh
                  split at hh
                  · cases hh
                  · cases hh
                    have hq : TxC (up1 (up1 D (k + 3 + 1) (upd (D (k + 3 + 1)) (D k 4).toNatClampNeg 0)) k (upd (up1 D (k + 3 + 1) (upd (D (k + 3 + 1)) (D k 4).toNatClampNeg 0) k) 4 (up1 D (k + 3 + 1) (upd (D (k + 3 + 1)) (D k 4).toNatClampNeg 0) k 4 + 1))) M t c := hTD.cgC (by rw [up1_n (by omega), up1_n (by omega)]) (by rw [up1_n (by omega), up1_n (by omega)])
                    unfold f_X6_at
                    rw [x_chr hq hi, ob]
        simp (disch := omega) only [ob, q_le, Nat.not_le.mpr hi, ↓reduceIte, x_isLetter, z, i_0, q_nT, i_1, jn_eq, nI_add]
        by_cases y : run c i = 0
        · simp only [y, ↓reduceIte]
          cases hbw : f_X7_beginWord N D k with
          | none => rfl
          | some D2 =>
            rw [ob, ob, hat2 D2 (Or.inr hbw), ob]
        · simp only [y, ↓reduceIte, q_nT, hat, ob]) (N := N) 0 (nI 0, C) (Nat.zero_le _) (by omega) ⟨rfl, fun j _ _ _ => rfl, hW⟩
  simp only at g1 b0 b1
  have hTD : TxC D M t c := hT.cgC (by rw [b0 1 (by omega) (by omega) (by omega)]) (b0 3 (by omega) (by omega) (by omega))
  refine ⟨D, ?_, b1, b0⟩
  refine e.trans ?_
  show lp_X7_addWordsOf_4 N k _ (n + 1) x3 (nI t) D = _
  rw [lp_X7_addWordsOf_4]
  unfold f_X6_size
  rw [hTD.2.1]
  simp (disch := omega) only [ob, q_le, Nat.le_refl, ↓reduceIte]
end AA1
end
section
/-! ===== changes ===== -/
section CC1
variable {C M : kS} {a : kA} {N t h : Nat} {c : Nat → Nat} {p : Nat → Nat} {bs : Nat → kA}
theorem x_workOut (hS : StC C 4 a) (hw : WF a) (hN : 3000 ≤ N) : ∃ C', f_X8_workOut N C = some C' ∧ (∀ j, j < 106 → C' j = C j) ∧ DvC C' a := by
  have hst := hw.2.2.2.2.1
  have hm := hw.2.2.2.1
  obtain ⟨C1, e1, x1, hF1⟩ := x_measure (N := N) hS hw hN
  have hS1 : StC C1 4 a := hS.cg (fun j _ _ => x1 j (by omega) (by omega) (by omega) (by omega))
  have s0 : C1 23 0 = nI (a 3) := hS1.2.2.2.2 0 (by decide)
  have s1 : C1 23 1 = nI (a 4) := hS1.2.2.2.2 1 (by decide)
  have s2 : C1 23 2 = nI (a 5) := hS1.2.2.2.2 2 (by decide)
  obtain ⟨C2, e2, x2, hB2⟩ := x_draw (N := N) hF1 hw (k := 113) (Or.inl rfl) hm hst hN
  have hS2 : StC C2 4 a := hS1.cg (fun j _ _ => x2 j (by omega))
  have hF2 : FmC C2 a := hF1.cg (x2 106 (by decide)) (x2 108 (by decide)) (x2 110 (by decide)) (x2 112 (by decide))
  obtain ⟨C3, e3, x3, hH3⟩ := x_hideWords (N := N) hS2 hF2 hw hN
  have hS3 : StC C3 4 a := hS2.cg (fun j _ _ => x3 j (by omega) (by omega))
  have hF3 : FmC C3 a := hF2.cg (x3 106 (by decide) (by decide)) (x3 108 (by decide) (by decide)) (x3 110 (by decide) (by decide)) (x3 112 (by decide) (by decide))
  have hB3 : BrC C3 113 a (a 3) (a 4) := hB2.cg (x3 115 (by decide) (by decide))
  obtain ⟨C4, e4, x4, hD4⟩ := x_flow (N := N) hS3 hH3 hB3 hw hst hN
  refine ⟨C4, ?_, fun j hj => by rw [x4 j (by omega) (by omega) (by omega) (by omega) (by omega), x3 j (by omega) (by omega), x2 j (by omega), x1 j (by omega) (by omega) (by omega) (by omega)], ?_, ?_, ?_, hD4⟩
  · unfold f_X8_workOut
    rw [e1, ob, i_0, x_at (k := 22) (n := 5) rfl (by decide) (by decide), ob, i_1, x_at (k := 22) (n := 5) rfl (by decide) (by decide), ob, i_2, x_at (k := 22) (n := 5) rfl (by decide) (by decide), ob, s0, s1, s2, e2, ob, e3, ob, e4, ob]
  · exact hF3.cg (x4 106 (by decide) (by decide) (by decide) (by decide) (by decide)) (x4 108 (by decide) (by decide) (by decide) (by decide) (by decide)) (x4 110 (by decide) (by decide) (by decide) (by decide) (by decide)) (x4 112 (by decide) (by decide) (by decide) (by decide) (by decide))
  · exact hB3.cg (x4 115 (by decide) (by decide) (by decide) (by decide) (by decide))
  · exact hH3.cg (x4 121 (by decide) (by decide) (by decide) (by decide) (by decide)) (x4 123 (by decide) (by decide) (by decide) (by decide) (by decide))
theorem ShpC.cg {C' : kS} {q : Nat} (h : ShpC C q) (h1 : C' (q + 1) = C (q + 1)) (h2 : C' (q + 6) = C (q + 6)) (h3 : C' (q + 11) = C (q + 11)) : ShpC C' q := by
  unfold ShpC
  rw [h1, h2, h3]
  exact h
theorem HsC.cg {C' M' : kS} (hH : HsC C M h p bs) (hC : ∀ j, 24 ≤ j → j < 106 → C' j = C j) (hM2 : M' 2 = M 2) (hM0 : M' 0 2 = M 0 2) : HsC C' M' h p bs := by
  obtain ⟨h4, h1, h2, hp, hi, hs⟩ := hH
  have hq : ∀ i, i < 4 → 26 ≤ p i ∧ p i ≤ 86 := fun i hi4 => by
    have := (hp i hi4).2.1
    have := (hp i hi4).2.2.1
    unfold Qs at *
    omega
  refine ⟨h4, by rw [hC 24 (by decide) (by decide)]; exact h1, by rw [hM0]; exact h2, fun i hi4 => ?_, hi, fun j hj => ?_⟩
  · have := hq i hi4
    obtain ⟨q1, q2, q3, q4⟩ := hp i hi4
    exact ⟨by rw [hC 25 (by decide) (by decide)]; exact q1, q2, q3, q4.cg (hC _ (by omega) (by omega)) (hC _ (by omega) (by omega)) (hC _ (by omega) (by omega))⟩
  · have := hq j (by omega)
    obtain ⟨b1, b2, b3⟩ := hs j hj
    exact ⟨b1, b2.cg (fun k k1 k2 => hC k (by omega) (by omega)), fun i hi2 => by rw [hM2]; exact b3 i hi2⟩
def Rl (C M : kS) : Prop := ∃ a h p bs t c, RD C M a ∧ HsC C M h p bs ∧ TxC C M t c
theorem J_fin (hw : WF a) (hM : SM M a) (hS : StC C 4 a) (hH : HsC C M h p bs) (hT : TxC C M t c) (hN : 3000 ≤ N) : ∃ C', f_X8_workOut N C = some C' ∧ (∀ j, j < 106 → C' j = C j) ∧ Rl C' M := by
  obtain ⟨C1, e1, x1, hD⟩ := x_workOut (N := N) hS hw hN
  exact ⟨C1, e1, x1, a, h, p, bs, t, c, ⟨hw, hM, hS.cg (fun j _ _ => x1 j (by omega)), hD⟩, hH.cg (fun j _ j2 => x1 j j2) rfl rfl, hT.cgC (by rw [x1 1 (by decide)]) (x1 3 (by decide))⟩
theorem WL.cga {a' : kA} {base wide most n mw : Nat} (hL : WL a base wide most n) (hwd : wide = most + 1) (hn : n ≤ mw) (hs : ∀ j, base ≤ j → j < base + wide * mw → a' j = a j) : WL a' base wide most n := fun w hw => by
  obtain ⟨b1, b2⟩ := hL w hw
  have hm := wm (wide := wide) (show w < mw by omega)
  rw [hs (base + wide * w) (by omega) (by omega)]
  exact ⟨b1, fun i hi => by rw [hs _ (by omega) (by omega)]; exact b2 i hi⟩
theorem WdC.cga {a' : kA} {k mw ml n base wide : Nat} (hW : WdC C k mw ml a n base wide) (hle : ∀ w, w < n → a (base + wide * w) ≤ ml) (hwd : wide = ml + 1) (hn : n ≤ mw) (hs : ∀ j, base ≤ j → j < base + wide * mw → a' j = a j) : WdC C k mw ml a' n base wide := by
  obtain ⟨w0, w1, w2, w3⟩ := hW
  refine ⟨w0, w1, w2, fun w hw => ?_⟩
  have hm := wm (wide := wide) (show w < mw by omega)
  have hl := hle w hw
  obtain ⟨b1, b2⟩ := w3 w hw
  rw [hs (base + wide * w) (by omega) (by omega)]
  exact ⟨b1, fun i hi => by rw [hs _ (by omega) (by omega)]; exact b2 i hi⟩
/-- the page has changed -/
theorem chgP {C' : kS} {a' : kA} (hw : WF a) (hS : StC C 4 a) (hC : ∀ j, j ≠ 5 → j ≠ 7 → j ≠ 9 → C' j = C j) (hW : WdC C' 5 40 12 a' (a' 0) 34 13) (hI : a' 0 ≤ 40 ∧ WL a' 34 13 12 (a' 0)) (ho : ∀ j, j ≠ 0 → (j < 34 ∨ 554 ≤ j) → a' j = a j) : WF a' ∧ StC C' 4 a' := by
  obtain ⟨w0, w1, w2, w3, w4, w5, w6, w7, wl, wp, wn, we⟩ := hw
  obtain ⟨hp, hn, he, hl, hs⟩ := hS
  have o : ∀ j, j ≠ 0 → (j < 34 ∨ 554 ≤ j) → a' j = a j := ho
  have o1 := o 1 (by decide) (by decide)
  have o2 := o 2 (by decide) (by decide)
  refine ⟨⟨hI.1, by omega, by omega, by rw [o 3 (by decide) (by decide)]; exact w3, by rw [o 4 (by decide) (by decide)]; exact w4, by rw [o 5 (by decide) (by decide)]; exact w5, by rw [o 6 (by decide) (by decide)]; exact w6, by rw [o 7 (by decide) (by decide)]; exact w7, fun k hk => by rw [o (8 + k) (by omega) (by omega)]; exact wl k hk, hI.2, ?_, ?_⟩, hW, ?_, ?_, fun j hj => ?_, fun j hj => ?_⟩
  · rw [o1]; exact wn.cga (mw := 8) rfl w1 (fun j h1 h2 => o j (by omega) (by omega))
  · rw [o2]; exact we.cga (mw := 4) rfl w2 (fun j h1 h2 => o j (by omega) (by omega))
  · rw [o1]; exact (hn.cg (hC 10 (by decide) (by decide) (by decide)) (hC 12 (by decide) (by decide) (by decide)) (hC 14 (by decide) (by decide) (by decide))).cga (fun w hwd => (wn w hwd).1.2) rfl w1 (fun j h1 h2 => o j (by omega) (by omega))
  · rw [o2]; exact (he.cg (hC 15 (by decide) (by decide) (by decide)) (hC 17 (by decide) (by decide) (by decide)) (hC 19 (by decide) (by decide) (by decide))).cga (fun w hwd => (we w hwd).1.2) rfl w2 (fun j h1 h2 => o j (by omega) (by omega))
  · rw [hC (4 + 17) (by decide) (by decide) (by decide), o (8 + j) (by omega) (by omega)]; exact hl j hj
  · rw [hC (4 + 19) (by decide) (by decide) (by decide), o (3 + j) (by omega) (by omega)]; exact hs j hj
theorem chgN {C' : kS} {a' : kA} (hw : WF a) (hS : StC C 4 a) (hC : ∀ j, j ≠ 10 → j ≠ 12 → j ≠ 14 → C' j = C j) (hW : WdC C' 10 8 8 a' (a' 1) 554 9) (hI : a' 1 ≤ 8 ∧ WL a' 554 9 8 (a' 1)) (ho : ∀ j, j ≠ 1 → (j < 554 ∨ 626 ≤ j) → a' j = a j) : WF a' ∧ StC C' 4 a' := by
  obtain ⟨w0, w1, w2, w3, w4, w5, w6, w7, wl, wp, wn, we⟩ := hw
  obtain ⟨hp, hn, he, hl, hs⟩ := hS
  have o : ∀ j, j ≠ 1 → (j < 554 ∨ 626 ≤ j) → a' j = a j := ho
  have o1 := o 0 (by decide) (by decide)
  have o2 := o 2 (by decide) (by decide)
  refine ⟨⟨by omega, hI.1, by omega, by rw [o 3 (by decide) (by decide)]; exact w3, by rw [o 4 (by decide) (by decide)]; exact w4, by rw [o 5 (by decide) (by decide)]; exact w5, by rw [o 6 (by decide) (by decide)]; exact w6, by rw [o 7 (by decide) (by decide)]; exact w7, fun k hk => by rw [o (8 + k) (by omega) (by omega)]; exact wl k hk, ?_, hI.2, ?_⟩, ?_, hW, ?_, fun j hj => ?_, fun j hj => ?_⟩
  · rw [o1]; exact wp.cga (mw := 40) rfl w0 (fun j h1 h2 => o j (by omega) (by omega))
  · rw [o2]; exact we.cga (mw := 4) rfl w2 (fun j h1 h2 => o j (by omega) (by omega))
  · rw [o1]; exact (hp.cg (hC 5 (by decide) (by decide) (by decide)) (hC 7 (by decide) (by decide) (by decide)) (hC 9 (by decide) (by decide) (by decide))).cga (fun w hwd => (wp w hwd).1.2) rfl w0 (fun j h1 h2 => o j (by omega) (by omega))
  · rw [o2]; exact (he.cg (hC 15 (by decide) (by decide) (by decide)) (hC 17 (by decide) (by decide) (by decide)) (hC 19 (by decide) (by decide) (by decide))).cga (fun w hwd => (we w hwd).1.2) rfl w2 (fun j h1 h2 => o j (by omega) (by omega))
  · rw [hC (4 + 17) (by decide) (by decide) (by decide), o (8 + j) (by omega) (by omega)]; exact hl j hj
  · rw [hC (4 + 19) (by decide) (by decide) (by decide), o (3 + j) (by omega) (by omega)]; exact hs j hj
theorem chgE {C' : kS} {a' : kA} (hw : WF a) (hS : StC C 4 a) (hC : ∀ j, j ≠ 15 → j ≠ 17 → j ≠ 19 → C' j = C j) (hW : WdC C' 15 4 3 a' (a' 2) 626 4) (hI : a' 2 ≤ 4 ∧ WL a' 626 4 3 (a' 2)) (ho : ∀ j, j ≠ 2 → j < 626 → a' j = a j) : WF a' ∧ StC C' 4 a' := by
  obtain ⟨w0, w1, w2, w3, w4, w5, w6, w7, wl, wp, wn, we⟩ := hw
  obtain ⟨hp, hn, he, hl, hs⟩ := hS
  have o : ∀ j, j ≠ 2 → j < 626 → a' j = a j := ho
  have o1 := o 0 (by decide) (by decide)
  have o2 := o 1 (by decide) (by decide)
  refine ⟨⟨by omega, by omega, hI.1, by rw [o 3 (by decide) (by decide)]; exact w3, by rw [o 4 (by decide) (by decide)]; exact w4, by rw [o 5 (by decide) (by decide)]; exact w5, by rw [o 6 (by decide) (by decide)]; exact w6, by rw [o 7 (by decide) (by decide)]; exact w7, fun k hk => by rw [o (8 + k) (by omega) (by omega)]; exact wl k hk, ?_, ?_, hI.2⟩, ?_, ?_, hW, fun j hj => ?_, fun j hj => ?_⟩
  · rw [o1]; exact wp.cga (mw := 40) rfl w0 (fun j h1 h2 => o j (by omega) (by omega))
  · rw [o2]; exact wn.cga (mw := 8) rfl w1 (fun j h1 h2 => o j (by omega) (by omega))
  · rw [o1]; exact (hp.cg (hC 5 (by decide) (by decide) (by decide)) (hC 7 (by decide) (by decide) (by decide)) (hC 9 (by decide) (by decide) (by decide))).cga (fun w hwd => (wp w hwd).1.2) rfl w0 (fun j h1 h2 => o j (by omega) (by omega))
  · rw [o2]; exact (hn.cg (hC 10 (by decide) (by decide) (by decide)) (hC 12 (by decide) (by decide) (by decide)) (hC 14 (by decide) (by decide) (by decide))).cga (fun w hwd => (wn w hwd).1.2) rfl w1 (fun j h1 h2 => o j (by omega) (by omega))
  · rw [hC (4 + 17) (by decide) (by decide) (by decide), o (8 + j) (by omega) (by omega)]; exact hl j hj
  · rw [hC (4 + 19) (by decide) (by decide) (by decide), o (3 + j) (by omega) (by omega)]; exact hs j hj
/-- a width of a letter, or a setting -/
theorem chgS {C' : kS} {a' : kA} (hw : WF a) (hS : StC C 4 a) (hC : ∀ j, j ≠ 21 → j ≠ 23 → C' j = C j) (h21 : LtC C' 21 a') (h23 : ∀ j, j < 5 → C' 23 j = nI (a' (3 + j))) (hI : a' 3 ≤ 3 ∧ (1 ≤ a' 4 ∧ a' 4 ≤ 50) ∧ (1 ≤ a' 5 ∧ a' 5 ≤ 8) ∧ (1 ≤ a' 6 ∧ a' 6 ≤ 9) ∧ (20 ≤ a' 7 ∧ a' 7 ≤ 200) ∧ ∀ k, k < 26 → 1 ≤ a' (8 + k) ∧ a' (8 + k) ≤ 9) (ho : ∀ j, (j < 3 ∨ 34 ≤ j) → a' j = a j) : WF a' ∧ StC C' 4 a' := by
  obtain ⟨w0, w1, w2, w3, w4, w5, w6, w7, wl, wp, wn, we⟩ := hw
  obtain ⟨hp, hn, he, hl, hs⟩ := hS
  have o0 := ho 0 (by decide)
  have o1 := ho 1 (by decide)
  have o2 := ho 2 (by decide)
  refine ⟨⟨by omega, by omega, by omega, hI.1, hI.2.1, hI.2.2.1, hI.2.2.2.1, hI.2.2.2.2.1, hI.2.2.2.2.2, ?_, ?_, ?_⟩, ?_, ?_, ?_, h21, h23⟩
  · rw [o0]; exact wp.cga (mw := 40) rfl w0 (fun j h1 h2 => ho j (by omega))
  · rw [o1]; exact wn.cga (mw := 8) rfl w1 (fun j h1 h2 => ho j (by omega))
  · rw [o2]; exact we.cga (mw := 4) rfl w2 (fun j h1 h2 => ho j (by omega))
  · rw [o0]; exact (hp.cg (hC 5 (by decide) (by decide)) (hC 7 (by decide) (by decide)) (hC 9 (by decide) (by decide))).cga (fun w hwd => (wp w hwd).1.2) rfl w0 (fun j h1 h2 => ho j (by omega))
  · rw [o1]; exact (hn.cg (hC 10 (by decide) (by decide)) (hC 12 (by decide) (by decide)) (hC 14 (by decide) (by decide))).cga (fun w hwd => (wn w hwd).1.2) rfl w1 (fun j h1 h2 => ho j (by omega))
  · rw [o2]; exact (he.cg (hC 15 (by decide) (by decide)) (hC 17 (by decide) (by decide)) (hC 19 (by decide) (by decide))).cga (fun w hwd => (we w hwd).1.2) rfl w2 (fun j h1 h2 => ho j (by omega))
end CC1
end
section
/-! ===== page ===== -/
def put1 (D : kS) (j v : Nat) : kS := up1 D 1 (upd (D 1) j (nI v))
theorem SM_put {M : kS} {a : kA} (h : SM M a) (j v : Nat) : SM (put1 M j v) (un a j v) := h.un j v
theorem put1_n {D : kS} {i j v : Nat} (h : i ≠ 1) : put1 D j v i = D i := up1_n h
section PP1
variable {C M : kS} {a : kA} {N t h ci base wide mw ml : Nat} {c : Nat → Nat} {p : Nat → Nat} {bs : Nat → kA}
theorem pgG_ok (hI : invW ci base wide mw ml a 0) (hci : ci < base) (hwd : wide = ml + 1) (hc : ∀ i, i < t → c i ≤ 126) (hb : ∀ j, j < t → isl (c j) = true → run c j < ml ∧ (run c j = 0 → a ci + wrd c j < mw)) : ∀ i, i ≤ t → (∀ j, j < i → isl (c j) = true → run c j < ml ∧ (run c j = 0 → pgG ci base wide a c j ci < mw)) ∧ pgG ci base wide a c i ci = a ci + wrd c i
  | 0, _ => ⟨fun j hj => absurd hj (Nat.not_lt_zero j), rfl⟩
  | i + 1, hi => by
    obtain ⟨h1, h2⟩ := pgG_ok hI hci hwd hc hb i (by omega)
    have h3 : ∀ j, j < i + 1 → isl (c j) = true → run c j < ml ∧ (run c j = 0 → pgG ci base wide a c j ci < mw) := fun j hj hl => by
      rcases Nat.lt_or_ge j i with q | q
      · exact h1 j q hl
      · have e : j = i := by omega
        subst e
        obtain ⟨b1, b2⟩ := hb j (by omega) hl
        exact ⟨b1, fun q => by rw [h2]; exact b2 q⟩
    refine ⟨h3, ?_⟩
    have hv := pgG_inv hI hci hwd (fun j hj => hc j (by omega)) h1 i (Nat.le_refl _)
    rw [pgG, wrd_s]
    cases z : isl (c i) with
    | false =>
      simp only [Bool.false_eq_true, ↓reduceIte, Bool.false_and, Nat.add_zero]
      exact h2
    | true =>
      simp only [↓reduceIte, Bool.true_and]
      obtain ⟨l1, l2, l3, l4, l5⟩ := lst_f hv (h3 i (Nat.lt_succ_self i) z).2
      rw [addL_ci hci]
      by_cases y : run c i = 0
      · simp only [y, decide_true, ↓reduceIte]
        rw [y] at l5
        have := l5 rfl
        rw [this, h2]
        omega
      · simp only [y, decide_false, Bool.false_eq_true, ↓reduceIte, Nat.add_zero]
        rw [← (l4 y).1, h2]
theorem m_pageS {D : kS} {A : kA} {i r L n : Nat} (hr : r ≤ 200) (ht : t ≤ 200) (hi : i < t) (hA0 : A 0 ≤ 40) (hL : L < 40) (hr12 : r < 12) (e4 : D 0 4 = nI t) (e3 : D 3 i = nI (c i)) (hb2 : 32 ≤ c i ∧ c i ≤ 126) (h97 : 97 ≤ c i ∧ c i ≤ 122) (b1 : SM D A) (l4 : ¬ r = 0 → A 0 = L + 1) (l5 : r = 0 → L = A 0) (kont : kS → Option (Int32 × kS)) : lp_X9_page_27 N kont (n + 1) (nI r) (nI i) D = lp_X9_page_27 N kont n (nI (r + 1)) (nI (i + 1)) (put1 (put1 (put1 D 0 (L + 1)) (34 + 13 * L) (r + 1)) (34 + 13 * L + (r + 1)) (c i - 97)) := by
  unfold put1
  have h32 : ¬ c i = 32 := by omega
  have e10 : D 1 0 = nI (A 0) := b1 0 (by decide)
  rw [lp_X9_page_27, e4]
  simp (disch := omega) only [q_le, Nat.not_le.mpr hi, ↓reduceIte, q_gIn, q_cl, e3, q_eq, h32, i_32, i_0, i_1, e10]
  rw [jn_eq, jn_eq]
  by_cases z : r = 0
  · have e := l5 z
    subst e
    rw [if_pos z]
    simp (disch := omega) only [↓jn_eq, up1_s, pk_us, q_gIn, q_cl, i_34, i_13, q_sub, Nat.add_sub_cancel, pk_mul, nI_add, up1_n (show (3 : Nat) ≠ 1 by decide), e3, i_97]
  · rw [if_neg z]
    simp (disch := omega) only [↓jn_eq, up1_s, pk_us, q_gIn, q_cl, i_34, i_13, q_sub, Nat.add_sub_cancel, Nat.add_zero, l4 z, pk_mul, nI_add, up1_n (show (3 : Nat) ≠ 1 by decide), e3, i_97]
theorem m_pageL (hT : TxC C M t c) (hM : SM M a) (hff : ffr c t t) (hI : invW 0 34 13 40 12 a 0) (kont : kS → Option (Int32 × kS)) (h0 : a 0 = 0) (hN : 3000 ≤ N) : ∃ M', lp_X9_page_27 N kont N (nI 0) (nI 0) M = kont M' ∧ SM M' (pgG 0 34 13 a c t) ∧ ∀ j, j ≠ 1 → M' j = M j := by
  have ht := hT.1
  have hb : ∀ j, j < t → isl (c j) = true → run c j < 12 ∧ (run c j = 0 → a 0 + wrd c j < 40) := fun j hj hl => by
    rcases rsn_0 (hff j hj) with q | q
    · rw [q.1, isl_32] at hl
      cases hl
    · exact ⟨q.2.2.1, fun z => by have := q.2.2.2 z; omega⟩
  have hok := (pgG_ok hI (by decide) rfl (fun i hi => (hT.2.2.2 i hi).1.2) hb t (Nat.le_refl _)).1
  have hinv := pgG_inv hI (by decide) rfl (fun i hi => (hT.2.2.2 i hi).1.2) hok
  obtain ⟨⟨x11, D⟩, n, ⟨g1, b0, b1⟩, e⟩ := lpN (fun n i (y : Int32 × kS) => lp_X9_page_27 N kont n y.1 (nI i) y.2) (fun i y => y.1 = nI (run c i) ∧ (∀ j, j ≠ 1 → y.2 j = M j) ∧ SM y.2 (pgG 0 34 13 a c i)) t (fun n i y hi hJ => by
    obtain ⟨x11, D⟩ := y
    obtain ⟨g1, b0, b1⟩ := hJ
    simp only at g1 b0 b1
    subst g1
    have e3 : D 3 i = nI (c i) := by rw [b0 3 (by decide)]; exact (hT.2.2.2 i hi).2.2
    have e4 : D 0 4 = nI t := by rw [b0 0 (by decide)]; exact hT.2.2.1
    have hb2 := (hT.2.2.2 i hi).1
    have hrl := run_le c i
    rcases rsn_0 (hff i hi) with q | q
    · refine ⟨(nI 0, D), ⟨?_, b0, ?_⟩, ?_⟩
      · simp only [run, q.1, isl_32, Bool.false_eq_true, ↓reduceIte]
      · simp only [pgG, q.1, isl_32, Bool.false_eq_true, ↓reduceIte]
        exact b1
      · show lp_X9_page_27 N kont (n + 1) (nI (run c i)) (nI i) D = lp_X9_page_27 N kont n (nI 0) (nI (i + 1)) D
        rw [lp_X9_page_27, e4]
        simp (disch := omega) only [q_le, Nat.not_le.mpr hi, ↓reduceIte, q_gIn, q_cl, e3, q.1, i_32, i_0, ↓jn_eq, i_1, nI_add]
    · obtain ⟨k1, k2⟩ := hok i hi q.1
      obtain ⟨l1, l2, l3, l4, l5⟩ := lst_f (hinv i (by omega)) k2
      have hw2 := hinv i (by omega)
      have hs := SM_put (SM_put (SM_put b1 0 (lstW 0 (pgG 0 34 13 a c i) (run c i) + 1)) (34 + 13 * lstW 0 (pgG 0 34 13 a c i) (run c i)) (run c i + 1)) (34 + 13 * lstW 0 (pgG 0 34 13 a c i) (run c i) + (run c i + 1)) (c i - 97)
      have h97 : 97 ≤ c i ∧ c i ≤ 122 := of_decide_eq_true q.1
      refine ⟨(nI (run c i + 1), put1 (put1 (put1 D 0 (lstW 0 (pgG 0 34 13 a c i) (run c i) + 1)) (34 + 13 * lstW 0 (pgG 0 34 13 a c i) (run c i)) (run c i + 1)) (34 + 13 * lstW 0 (pgG 0 34 13 a c i) (run c i) + (run c i + 1)) (c i - 97)), ⟨?_, ?_, ?_⟩, ?_⟩
      · simp only [run, q.1, ↓reduceIte]
      · intro j hj
        simp only []
        rw [put1_n hj, put1_n hj, put1_n hj]
        exact b0 j hj
      · simp only [pgG, q.1, ↓reduceIte]
        exact hs
      · show lp_X9_page_27 N kont (n + 1) (nI (run c i)) (nI i) D = lp_X9_page_27 N kont n (nI (run c i + 1)) (nI (i + 1)) (put1 (put1 (put1 D 0 (lstW 0 (pgG 0 34 13 a c i) (run c i) + 1)) (34 + 13 * lstW 0 (pgG 0 34 13 a c i) (run c i)) (run c i + 1)) (34 + 13 * lstW 0 (pgG 0 34 13 a c i) (run c i) + (run c i + 1)) (c i - 97))
        exact m_pageS (by omega) ht hi (by have := hw2.1; omega) l1 k1 e4 e3 hb2 h97 b1 (fun z => (l4 z).1) l5 kont) (N := N) 0 (nI 0, M) (Nat.zero_le _) (by omega) ⟨rfl, fun j _ => rfl, hM⟩
  simp only at g1 b0 b1
  refine ⟨D, e.trans ?_, b1, b0⟩
  show lp_X9_page_27 N kont (n + 1) x11 (nI t) D = _
  rw [lp_X9_page_27, b0 0 (by decide), hT.2.2.1]
  simp (disch := omega) only [q_le, Nat.le_refl, ↓reduceIte]
theorem J_page (hR : RD C M a) (hH : HsC C M h p bs) (hT : TxC C M t c) (hN : 3000 ≤ N) : ∃ r C' M', f_X8_page N C = some (r, C') ∧ f_X9_page N M = some (r, M') ∧ Rl C' M' := by
  obtain ⟨M1, e1, m1, m2, m3⟩ := m_faultAt (N := N) hT hN
  have hle : fltI c t ≤ t := fst_le _ _
  have ht := hT.1
  have hT1 : TxC C M1 t c := hT.cgM (m1 3 (by decide)) (m2 4 (by decide))
  have hH1 : HsC C M1 h p bs := hH.cg (fun _ _ _ => rfl) (m1 2 (by decide)) (m2 2 (by decide))
  obtain ⟨hw, hM, hS, hD⟩ := hR
  have hM1 : SM M1 a := fun i hi => by rw [m1 1 (by decide)]; exact hM i hi
  unfold f_X8_page f_X9_page
  rw [x_faultIndex hT hN, e1, ob, ob]
  by_cases z : fltI c t < t
  · refine ⟨-12, C, M1, ?_, ?_, a, h, p, bs, t, c, ⟨hw, hM1, hS, hD⟩, hH1, hT1⟩
    · rw [if_pos z, if_neg (nI_pos (by omega))]
    · simp (disch := omega) only [z, ↓reduceIte, q_m14]
  · have hff : ffr c t t := by
      have := fltI_ff c t
      rw [show fltI c t = t by omega] at this
      exact this
    obtain ⟨C2, M2, h', p', bs', e2, e3, hH2, kc, km⟩ := J_keep (N := N) hH1 hw hM1 hS hN
    have hS2 : StC C2 4 a := hS.cg (fun j _ _ => kc j (by omega))
    have hM2 : SM M2 a := fun i hi => by rw [km.1 1 (by decide) (by decide)]; exact hM1 i hi
    have hT2 : TxC C2 M2 t c := (hT1.cgM (km.1 3 (by decide) (by decide)) (km.2 4 (by decide))).cgC (by rw [kc 1 (by decide)]) (kc 3 (by decide))
    -- the page is emptied
    have hI0 : invW 0 34 13 40 12 (un a 0 0) 0 := ⟨by rw [un_s]; exact Nat.zero_le _, fun w hw => by rw [un_s] at hw; exact absurd hw (Nat.not_lt_zero w), fun q => absurd rfl q⟩
    have hM3 : SM (up1 M2 1 (upd (M2 1) 0 (nI 0))) (un a 0 0) := hM2.un 0 0
    have hT3 : TxC (up1 C2 5 (upd (C2 5) 4 (nI 0))) (up1 M2 1 (upd (M2 1) 0 (nI 0))) t c := (hT2.cgM (up1_n (by decide)) (by rw [up1_n (by decide)])).cgC (by rw [up1_n (by decide)]) (up1_n (by decide))
    have hW3 : WdC (up1 C2 5 (upd (C2 5) 4 (nI 0))) 5 40 12 (un a 0 0) ((un a 0 0) 0) 34 13 := ⟨by rw [up1_s, pk_un (by decide)]; exact hS2.1.1, by rw [up1_s, pk_un (by decide)]; exact hS2.1.2.1, by rw [up1_s, pk_us, un_s], fun w hw => by rw [un_s] at hw; exact absurd hw (Nat.not_lt_zero w)⟩
    have hb : ∀ j, j < t → isl (c j) = true → run c j < 12 ∧ (run c j = 0 → (un a 0 0) 0 + wrd c j < 40) := fun j hj hl => by
      rcases rsn_0 (hff j hj) with q | q
      · rw [q.1, isl_32] at hl
        cases hl
      · exact ⟨q.2.2.1, fun z => by have := q.2.2.2 z; rw [un_s]; omega⟩
    obtain ⟨hok, _⟩ := pgG_ok hI0 (by decide) rfl (fun i hi => (hT.2.2.2 i hi).1.2) hb t (Nat.le_refl _)
    obtain ⟨C4, e4, hW4, x4⟩ := x_addWords (N := N) hT3 hW3 hI0 (by decide) rfl (by decide) (by decide) rfl rfl (by decide) hok hN
    obtain ⟨M4, e5, hM4, y4⟩ := m_pageL (N := N) hT3 hM3 hff hI0 (fun C8 => gIn 0 642 (some (C8 1 (0 : Int32).toNatClampNeg, C8))) un_s hN
    have hv := pgG_inv hI0 (by decide) rfl (fun i hi => (hT.2.2.2 i hi).1.2) hok t (Nat.le_refl _)
    have hout := fun j (hj : j ≠ 0) (hj2 : j < 34 ∨ 554 ≤ j) => pgG_out hI0 (by decide) rfl (fun i hi => (hT.2.2.2 i hi).1.2) hok hj hj2 t (Nat.le_refl _)
    obtain ⟨hw4, hS4⟩ := chgP (C' := C4) (a' := pgG 0 34 13 (un a 0 0) c t) hw hS2 (fun j j5 j7 j9 => by rw [x4 j j5 j7 j9, up1_n j5]) hW4 ⟨hv.1, hv.2.1⟩ (fun j j0 j2 => by rw [hout j j0 j2, un_n j0])
    have hH4 : HsC C4 M4 h' p' bs' := hH2.cg (fun j j1 j2 => by rw [x4 j (by omega) (by omega) (by omega), up1_n (by omega)]) (by rw [y4 2 (by decide), up1_n (by decide)]) (by rw [y4 0 (by decide), up1_n (by decide)])
    have hT4 : TxC C4 M4 t c := (hT3.cgM (y4 3 (by decide)) (by rw [y4 0 (by decide)])).cgC (by rw [x4 1 (by decide) (by decide) (by decide)]) (x4 3 (by decide) (by decide) (by decide))
    obtain ⟨C5, e6, x5, hR5⟩ := J_fin (N := N) hw4 hM4 hS4 hH4 hT4 hN
    refine ⟨nI (pgG 0 34 13 (un a 0 0) c t 0), C5, M4, ?_, ?_, hR5⟩
    · rw [if_neg z, if_pos (by decide), e2, ob]
      unfold f_X7_empty
      simp only [jn_eq, ob, i_0]
      rw [e4, ob, e6, ob]
      unfold f_X7_size
      rw [x5 5 (by decide), hW4.2.2.1, ob]
    · rw [if_neg z, if_pos rfl, e3, ob]
      have e7 : gIn 0 642 (jn (up1 M2 1 (upd (M2 1) ((0 : Int32).toNatClampNeg) 0)) (fun C7 : kS => jn (fun (C8 : kS) => gIn 0 642 (some (C8 1 (0 : Int32).toNatClampNeg, C8))) (fun k117_8 => lp_X9_page_27 N k117_8 N 0 0 C7))) = lp_X9_page_27 N (fun C8 => gIn 0 642 (some (C8 1 (0 : Int32).toNatClampNeg, C8))) N (nI 0) (nI 0) (up1 M2 1 (upd (M2 1) 0 (nI 0))) := by
        simp (disch := omega) only [i_0, q_gIn, q_cl, jn_eq]
      rw [e7, e5]
      simp (disch := omega) only [i_0, q_gIn, q_cl, hM4 _]
end PP1
end
section
/-! ===== name and ending ===== -/
def oneW (c : Nat → Nat) (t ml : Nat) : Bool := decide (1 ≤ t ∧ t ≤ ml) && allB (fun i => isl (c i)) t
def eqW (a : kA) (base wide t : Nat) (c : Nat → Nat) (w : Nat) : Bool := decide (a (base + wide * w) = t) && allB (fun k => decide (a (base + wide * w + 1 + k) = c k - 97)) t
theorem oneW_t {c : Nat → Nat} {t ml : Nat} (h : oneW c t ml = true) : (1 ≤ t ∧ t ≤ ml) ∧ ∀ i, i < t → isl (c i) = true := by
  have h1 := Bool.and_eq_true_iff.mp h
  exact ⟨of_decide_eq_true h1.1, (allB_iff _ _).mp h1.2⟩
theorem run_all {c : Nat → Nat} {t : Nat} (h : ∀ i, i < t → isl (c i) = true) : ∀ i, i ≤ t → run c i = i
  | 0, _ => rfl
  | i + 1, hi => by rw [run, h i (by omega), if_pos rfl, run_all h i (by omega)]
section NN1
variable {C M : kS} {a : kA} {N t h ci base wide mw ml k : Nat} {c : Nat → Nat} {p : Nat → Nat} {bs : Nat → kA}
theorem x_oneWord (hT : TxC C M t c) (hml : ml ≤ 100) (hN : 3000 ≤ N) : f_X6_isOneWord N C (nI ml) = some (nI (if oneW c t ml = true then 1 else 0)) := by
  have ht := hT.1
  unfold f_X6_isOneWord oneW
  rw [hT.2.1, i_1, i_0, q_and0, q_and1]
  by_cases y : t < 1
  · have y2 : ¬ (1 ≤ t ∧ t ≤ ml) := by omega
    simp (disch := omega) only [q_lt, y, y2, ↓reduceIte, decide_false, Bool.false_and, Bool.false_eq_true]
  · by_cases z : t ≤ ml
    · have y2 : 1 ≤ t ∧ t ≤ ml := by omega
      simp (disch := omega) only [q_lt, q_le, y, z, y2, ↓reduceIte, ↓jn_eq, and_self, decide_true, Bool.true_and]
      refine (lpX (fun n i => lp_X6_isOneWord_20 N C (some (nI 1)) n (nI i)) t (fun i => !isl (c i)) (fun _ => some (nI 0)) (some (nI 1)) (fun n i hi hp => ?_) (fun n i hi hp => ?_) (fun n => ?_) (N := N) (by omega)).trans ?_
      · show lp_X6_isOneWord_20 N C (some (nI 1)) (n + 1) (nI i) = lp_X6_isOneWord_20 N C (some (nI 1)) n (nI (i + 1))
        have hp2 : isl (c i) = true := by simpa using hp
        have hb := (hT.2.2.2 i hi).1
        rw [lp_X6_isOneWord_20, hT.2.1]
        simp (disch := omega) only [q_le, Nat.not_le.mpr hi, ↓reduceIte, x_chr hT (i := i), ob, x_isLetter, hp2, i_0, i_1, q_nT, nI_add]
      · show lp_X6_isOneWord_20 N C (some (nI 1)) (n + 2) (nI i) = some (nI 0)
        have hp2 : isl (c i) = false := by simpa using hp
        have hb := (hT.2.2.2 i hi).1
        rw [lp_X6_isOneWord_20, hT.2.1]
        simp (disch := omega) only [q_le, Nat.not_le.mpr hi, ↓reduceIte, x_chr hT (i := i), ob, x_isLetter, hp2, i_0, i_1, q_and0, Bool.false_eq_true]
      · show lp_X6_isOneWord_20 N C (some (nI 1)) (n + 1) (nI t) = some (nI 1)
        rw [lp_X6_isOneWord_20, hT.2.1]
        simp (disch := omega) only [q_le, Nat.le_refl, ↓reduceIte]
      · rw [allB_fst]
        by_cases x : fst (fun i => !isl (c i)) t < t
        · simp only [x, ↓reduceIte, not_true, decide_false, Bool.false_eq_true]
        · simp only [x, ↓reduceIte, not_false_iff, decide_true]
    · have y2 : ¬ (1 ≤ t ∧ t ≤ ml) := by omega
      simp (disch := omega) only [q_lt, q_le, y, z, ↓reduceIte, decide_false, and_false, Bool.false_and, Bool.false_eq_true]
theorem m_oneWord (hT : TxC C M t c) (hml : ml ≤ 100) (hN : 3000 ≤ N) : f_X9_areLetters N M (nI ml) = some (nI (if oneW c t ml = true then 1 else 0)) := by
  have ht := hT.1
  unfold f_X9_areLetters
  rw [hT.2.2.1, i_1, m_inN (by omega) (by decide) (by omega), ob, i_0]
  simp only [↓jn_eq]
  have hs := lpE (N := N) (fun n x y => lp_X9_areLetters_12 N M (fun x3 => some (x3 &&& nI 1)) n x y) (fun i => if (decide (1 ≤ t ∧ t ≤ ml) && allB (fun i => isl (c i)) i) = true then 1 else 0) t (R := some (nI (if oneW c t ml = true then 1 else 0))) (by omega) (fun n i hi => ?_) (fun n => ?_)
  · refine Eq.trans ?_ hs
    simp only [allB, Bool.and_true, decide_eq_true_eq]
  · have hb := (hT.2.2.2 i hi).1
    have e3 := (hT.2.2.2 i hi).2.2
    rw [lp_X9_areLetters_12, allB, hT.2.2.1, ← Bool.and_assoc]
    generalize (decide (1 ≤ t ∧ t ≤ ml) && allB (fun i => isl (c i)) i) = T
    cases T with
    | false => simp (disch := omega) only [q_le, Nat.not_le.mpr hi, ↓reduceIte, ↓jn_eq, i_0, i_1, Bool.false_eq_true, Bool.false_and, nI_add]
    | true =>
      cases z : isl (c i) with
      | true => simp (disch := omega) only [q_le, Nat.not_le.mpr hi, ↓reduceIte, ↓jn_eq, i_0, i_1, q_nT, q_gIn, q_cl, e3, m_isLetter, z, ob, Bool.and_self, nI_add]
      | false => simp (disch := omega) only [q_le, Nat.not_le.mpr hi, ↓reduceIte, ↓jn_eq, i_0, i_1, q_nT, q_gIn, q_cl, e3, m_isLetter, z, ob, Bool.and_false, Bool.false_eq_true, nI_add]
  · rw [lp_X9_areLetters_12, hT.2.2.1]
    simp (disch := omega) only [q_le, Nat.le_refl, ↓reduceIte]
    unfold oneW
    split
    · rw [q_and1]
    · rw [show nI 0 &&& nI 1 = nI 0 from by decide]
theorem x_isWord (hT : TxC C M t c) (hW : WdC C k mw ml a (a ci) base wide) (hwl : WL a base wide ml (a ci)) (l2 : ln (k + 2) = mw * ml) (l4 : ln (k + 4) = mw) (hm : mw ≤ 40) (hm2 : ml ≤ 12) (hn : a ci ≤ mw) (hl : ∀ i, i < t → isl (c i) = true) {w : Nat} (hw : w < a ci) (hN : 3000 ≤ N) : f_X7_isWord N C k (nI w) = some (nI (if eqW a base wide t c w = true then 1 else 0)) := by
  have ht := hT.1
  have b := hwl w hw
  have hsz : f_X6_size N C = some (nI t) := by unfold f_X6_size; rw [hT.2.1]
  unfold f_X7_isWord
  rw [x_lengthOf hW l4 hm hn hw, ob, hsz, ob, i_0, i_1, q_and0, q_and1]
  simp (disch := omega) only [q_eq, jn_eq]
  unfold eqW
  by_cases z : a (base + wide * w) = t
  · simp only [z, ↓reduceIte, decide_true, Bool.true_and]
    refine (lpX (fun n i => lp_X7_isWord_16 N C k (nI w) (some (nI 1)) n (nI i)) t (fun i => !decide (a (base + wide * w + 1 + i) = c i - 97)) (fun _ => some (nI 0)) (some (nI 1)) (fun n i hi hp => ?_) (fun n i hi hp => ?_) (fun n => ?_) (N := N) (by omega)).trans ?_
    · show lp_X7_isWord_16 N C k (nI w) (some (nI 1)) (n + 1) (nI i) = lp_X7_isWord_16 N C k (nI w) (some (nI 1)) n (nI (i + 1))
      have hp2 : a (base + wide * w + 1 + i) = c i - 97 := by simpa using hp
      have h97 : 97 ≤ c i ∧ c i ≤ 122 := of_decide_eq_true (hl i hi)
      have hat : f_X6_at N C (nI i) = some (nI (c i)) := by unfold f_X6_at; rw [x_chr hT hi, ob]
      rw [lp_X7_isWord_16, hsz, x_letterOf hW l2 hm hm2 hn hw (by omega) b.1.2, hat, hp2]
      simp (disch := omega) only [ob, q_le, Nat.not_le.mpr hi, ↓reduceIte]
      rw [show 97 + (c i - 97) = c i by omega, if_pos rfl, i_1, nI_add]
    · show lp_X7_isWord_16 N C k (nI w) (some (nI 1)) (n + 2) (nI i) = some (nI 0)
      have hp2 : ¬ a (base + wide * w + 1 + i) = c i - 97 := by simpa using hp
      have h97 : 97 ≤ c i ∧ c i ≤ 122 := of_decide_eq_true (hl i hi)
      have hat : f_X6_at N C (nI i) = some (nI (c i)) := by unfold f_X6_at; rw [x_chr hT hi, ob]
      have b2 := b.2 i (by omega)
      rw [lp_X7_isWord_16, hsz, x_letterOf hW l2 hm hm2 hn hw (by omega) b.1.2, hat]
      simp (disch := omega) only [ob, q_le, Nat.not_le.mpr hi, ↓reduceIte]
      rw [if_neg (fun q => hp2 (by have := (nI_eq (by omega) (by omega)).mp q; omega)), i_0, i_1, q_and0]
    · show lp_X7_isWord_16 N C k (nI w) (some (nI 1)) (n + 1) (nI t) = some (nI 1)
      rw [lp_X7_isWord_16, hsz]
      simp (disch := omega) only [ob, q_le, Nat.le_refl, ↓reduceIte]
    · rw [allB_fst]
      by_cases x : fst (fun i => !decide (a (base + wide * w + 1 + i) = c i - 97)) t < t
      · simp only [x, ↓reduceIte, not_true, decide_false, Bool.false_eq_true]
      · simp only [x, ↓reduceIte, not_false_iff, decide_true]
  · simp only [z, ↓reduceIte, decide_false, Bool.false_and, Bool.false_eq_true]
theorem x_hasWord (hT : TxC C M t c) (hW : WdC C k mw ml a (a ci) base wide) (hwl : WL a base wide ml (a ci)) (l2 : ln (k + 2) = mw * ml) (l4 : ln (k + 4) = mw) (hm : mw ≤ 40) (hm2 : ml ≤ 12) (hn : a ci ≤ mw) (hl : ∀ i, i < t → isl (c i) = true) (hN : 3000 ≤ N) : f_X7_hasWord N C k = some (nI (if fst (eqW a base wide t c) (a ci) < a ci then 1 else 0)) := by
  unfold f_X7_hasWord
  simp only [jn_eq]
  rw [i_0, i_1, q_and0]
  refine (lpX (fun n i => lp_X7_hasWord_2 N C k (some (nI 0)) n (nI i)) (a ci) (eqW a base wide t c) (fun _ => some (nI 1)) (some (nI 0)) (fun n i hi hp => ?_) (fun n i hi hp => ?_) (fun n => ?_) (N := N) (by omega)).trans ?_
  · show lp_X7_hasWord_2 N C k (some (nI 0)) (n + 1) (nI i) = lp_X7_hasWord_2 N C k (some (nI 0)) n (nI (i + 1))
    rw [lp_X7_hasWord_2, hW.2.2.1, x_isWord hT hW hwl l2 l4 hm hm2 hn hl hi hN, hp]
    simp (disch := omega) only [q_le, Nat.not_le.mpr hi, ↓reduceIte, ob, i_0, i_1, Bool.false_eq_true, nI_add]
  · show lp_X7_hasWord_2 N C k (some (nI 0)) (n + 2) (nI i) = some (nI 1)
    rw [lp_X7_hasWord_2, hW.2.2.1, x_isWord hT hW hwl l2 l4 hm hm2 hn hl hi hN, hp]
    simp (disch := omega) only [q_le, Nat.not_le.mpr hi, ↓reduceIte, ob, i_0, i_1, q_nT, q_and1]
  · show lp_X7_hasWord_2 N C k (some (nI 0)) (n + 1) (nI (a ci)) = some (nI 0)
    rw [lp_X7_hasWord_2, hW.2.2.1]
    simp (disch := omega) only [q_le, Nat.le_refl, ↓reduceIte]
  · split <;> rfl
theorem m_isText (hT : TxC C M t c) (hM : SM M a) (hwl : WL a base wide ml (a ci)) (hwd : wide = ml + 1) (hn : a ci ≤ mw) (hfit : base + wide * mw ≤ 642) (hl : ∀ i, i < t → isl (c i) = true) {w : Nat} (hw : w < a ci) (hN : 3000 ≤ N) : f_X9_isText N M (nI (base + wide * w)) = some (nI (if eqW a base wide t c w = true then 1 else 0)) := by
  have ht := hT.1
  have b := hwl w hw
  have hm := wm (wide := wide) (show w < mw by omega)
  unfold f_X9_isText
  simp (disch := omega) only [q_gIn, q_cl, hM _, hT.2.2.1, q_eq, ↓jn_eq]
  unfold eqW
  by_cases z : a (base + wide * w) = t
  · simp only [z, ↓reduceIte, decide_true, Bool.true_and]
    rw [i_0, i_1]
    refine (lpX (fun n i => lp_X9_isText_21 N M (nI (base + wide * w)) (fun x4 => some (x4 &&& nI 1)) n (nI 1) (nI i)) t (fun i => !decide (a (base + wide * w + 1 + i) = c i - 97)) (fun _ => some (nI 0)) (some (nI 1)) (fun n i hi hp => ?_) (fun n i hi hp => ?_) (fun n => ?_) (N := N) (by omega)).trans ?_
    · show lp_X9_isText_21 N M (nI (base + wide * w)) (fun x4 => some (x4 &&& nI 1)) (n + 1) (nI 1) (nI i) = lp_X9_isText_21 N M (nI (base + wide * w)) (fun x4 => some (x4 &&& nI 1)) n (nI 1) (nI (i + 1))
      have hp2 : a (base + wide * w + 1 + i) = c i - 97 := by simpa using hp
      have h97 : 97 ≤ c i ∧ c i ≤ 122 := of_decide_eq_true (hl i hi)
      have e3 := (hT.2.2.2 i hi).2.2
      rw [lp_X9_isText_21]
      simp (disch := omega) only [q_gIn, q_cl, hM _, z, q_le, Nat.not_le.mpr hi, ↓reduceIte, i_0, q_nT, i_1, nI_add, e3, i_97, q_sub, hp2, ↓jn_eq]
    · show lp_X9_isText_21 N M (nI (base + wide * w)) (fun x4 => some (x4 &&& nI 1)) (n + 2) (nI 1) (nI i) = some (nI 0)
      have hp2 : ¬ a (base + wide * w + 1 + i) = c i - 97 := by simpa using hp
      have h97 : 97 ≤ c i ∧ c i ≤ 122 := of_decide_eq_true (hl i hi)
      have b2 := b.2 i (by omega)
      have e3 := (hT.2.2.2 i hi).2.2
      rw [lp_X9_isText_21]
      simp (disch := omega) only [q_gIn, q_cl, hM _, z, q_le, Nat.not_le.mpr hi, ↓reduceIte, i_0, q_nT, i_1, nI_add, e3, i_97, q_sub, hp2, ↓jn_eq, q_eq, Nat.one_ne_zero]
      rw [lp_X9_isText_21]
      simp (disch := omega) only [q_gIn, q_cl, hM _, z, ↓reduceIte, i_0, ite_self, q_and0]
    · show lp_X9_isText_21 N M (nI (base + wide * w)) (fun x4 => some (x4 &&& nI 1)) (n + 1) (nI 1) (nI t) = some (nI 1)
      rw [lp_X9_isText_21]
      simp (disch := omega) only [q_gIn, q_cl, hM _, z, q_le, Nat.le_refl, ↓reduceIte, q_and1]
    · rw [allB_fst]
      by_cases x : fst (fun i => !decide (a (base + wide * w + 1 + i) = c i - 97)) t < t
      · simp only [x, ↓reduceIte, not_true, decide_false, Bool.false_eq_true]
      · simp only [x, ↓reduceIte, not_false_iff, decide_true]
  · obtain ⟨n, hn2⟩ : ∃ n, N = n + 1 := ⟨N - 1, by omega⟩
    have e1 : ∀ n, lp_X9_isText_21 N M (nI (base + wide * w)) (fun x4 => some (x4 &&& 1)) (n + 1) (nI 0) (nI 0) = some (nI 0) := fun n => by
      rw [lp_X9_isText_21]
      simp (disch := omega) only [q_gIn, q_cl, hM _, i_0, i_1, ↓reduceIte, ite_self, q_and0]
    simp only [z, ↓reduceIte, decide_false, Bool.false_and, Bool.false_eq_true]
    have e2 := e1 n
    rw [← hn2] at e2
    exact e2
theorem pgG_all (hci : ci < base) (hl : ∀ i, i < t → isl (c i) = true) : ∀ i, i + 1 ≤ t → ∀ j, pgG ci base wide a c (i + 1) j = if j = ci then a ci + 1 else if j = base + wide * a ci then i + 1 else if base + wide * a ci + 1 ≤ j ∧ j < base + wide * a ci + 1 + (i + 1) then c (j - (base + wide * a ci + 1)) - 97 else a j
  | 0, h => fun j => by
    rw [pgG, hl 0 (by omega), if_pos rfl]
    show addL ci base wide a (a ci) 0 (c 0 - 97) j = _
    by_cases z1 : j = ci
    · rw [z1, addL_ci hci, if_pos rfl]
    · rw [if_neg z1]
      by_cases z2 : j = base + wide * a ci
      · rw [z2, addL_at, if_pos rfl]
      · rw [if_neg z2]
        by_cases z3 : j = base + wide * a ci + (0 + 1)
        · rw [if_pos (by omega), show j - (base + wide * a ci + 1) = 0 by omega, z3, addL_x]
        · rw [if_neg (by omega), addL_o z1 z2 z3]
  | i + 1, h => fun j => by
    have ih := pgG_all hci hl i (by omega)
    have hr := run_all hl (i + 1) (by omega)
    rw [pgG, hl (i + 1) (by omega), if_pos rfl, hr]
    have h0 : pgG ci base wide a c (i + 1) ci = a ci + 1 := by rw [ih ci, if_pos rfl]
    have h1 : lstW ci (pgG ci base wide a c (i + 1)) (i + 1) = a ci := by
      unfold lstW
      rw [if_neg (Nat.succ_ne_zero i), h0, Nat.add_sub_cancel]
    rw [h1]
    by_cases z1 : j = ci
    · rw [z1, addL_ci hci, if_pos rfl]
    · rw [if_neg z1]
      by_cases z2 : j = base + wide * a ci
      · rw [z2, addL_at, if_pos rfl]
      · rw [if_neg z2]
        by_cases z3 : j = base + wide * a ci + (i + 1 + 1)
        · rw [if_pos (by omega), show j - (base + wide * a ci + 1) = i + 1 by omega, z3, addL_x]
        · rw [addL_o z1 z2 z3, ih j, if_neg z1, if_neg z2]
          by_cases z4 : base + wide * a ci + 1 ≤ j ∧ j < base + wide * a ci + 1 + (i + 1)
          · rw [if_pos z4, if_pos (by omega)]
          · rw [if_neg z4, if_neg (by omega)]
end NN1
end
section
section NN2
variable {C M : kS} {a : kA} {N t h ci base wide mw ml k : Nat} {c : Nat → Nat} {p : Nat → Nat} {bs : Nat → kA}
/-- the reference's loop over the words of a list -/
theorem m_can (hT : TxC C M t c) (hM : SM M a) (hwl : WL a base wide ml (a ci)) (hwd : wide = ml + 1) (hn : a ci ≤ mw) (hmw : mw ≤ 40) (hfit : base + wide * mw ≤ 642) (hci : ci < base) (hb : base ≤ 642) (hN : 3000 ≤ N) (kont : Int32 → Option (Int32 × kS)) : lp_X9_makes_12 N M (nI ci) (nI base) (nI wide) kont N (nI (if oneW c t ml = true then 1 else 0)) (nI 0) = kont (nI (if oneW c t ml = true ∧ ¬ fst (eqW a base wide t c) (a ci) < a ci then 1 else 0)) := by
  cases z : oneW c t ml with
  | false =>
    obtain ⟨n, hn2⟩ : ∃ n, N = n + 1 := ⟨N - 1, by omega⟩
    have e1 : ∀ n, lp_X9_makes_12 N M (nI ci) (nI base) (nI wide) kont (n + 1) (nI 0) (nI 0) = kont (nI 0) := fun n => by
      rw [lp_X9_makes_12]
      simp (disch := omega) only [q_gIn, q_cl, hM _, i_0, ↓reduceIte, ite_self]
    have e2 := e1 n
    rw [← hn2] at e2
    simp only [Bool.false_eq_true, ↓reduceIte, false_and]
    exact e2
  | true =>
    have hl := (oneW_t z).2
    simp only [↓reduceIte, true_and]
    refine (lpX (fun n i => lp_X9_makes_12 N M (nI ci) (nI base) (nI wide) kont n (nI 1) (nI i)) (a ci) (eqW a base wide t c) (fun _ => kont (nI 0)) (kont (nI 1)) (fun n i hi hp => ?_) (fun n i hi hp => ?_) (fun n => ?_) (N := N) (by omega)).trans ?_
    · show lp_X9_makes_12 N M (nI ci) (nI base) (nI wide) kont (n + 1) (nI 1) (nI i) = lp_X9_makes_12 N M (nI ci) (nI base) (nI wide) kont n (nI 1) (nI (i + 1))
      have e1 := m_isText (N := N) hT hM hwl hwd hn hfit hl hi hN
      rw [hp] at e1
      rw [lp_X9_makes_12]
      simp (disch := omega) only [q_gIn, q_cl, hM _, q_le, Nat.not_le.mpr hi, ↓reduceIte, i_0, q_nT, pk_mul, nI_add, e1, ob, ↓jn_eq, Bool.false_eq_true, i_1]
    · show lp_X9_makes_12 N M (nI ci) (nI base) (nI wide) kont (n + 2) (nI 1) (nI i) = kont (nI 0)
      have e1 := m_isText (N := N) hT hM hwl hwd hn hfit hl hi hN
      rw [hp] at e1
      rw [lp_X9_makes_12]
      simp (disch := omega) only [q_gIn, q_cl, hM _, q_le, Nat.not_le.mpr hi, ↓reduceIte, i_0, q_nT, pk_mul, nI_add, e1, ob, ↓jn_eq, i_1]
      rw [lp_X9_makes_12]
      simp (disch := omega) only [q_gIn, q_cl, hM _, ↓reduceIte, i_0, ite_self]
    · show lp_X9_makes_12 N M (nI ci) (nI base) (nI wide) kont (n + 1) (nI 1) (nI (a ci)) = kont (nI 1)
      rw [lp_X9_makes_12]
      simp (disch := omega) only [q_gIn, q_cl, hM _, q_le, Nat.le_refl, ↓reduceIte]
    · by_cases x : fst (eqW a base wide t c) (a ci) < a ci
      · simp only [x, ↓reduceIte, not_true]
      · simp only [x, ↓reduceIte, not_false_iff]
theorem m_letters {M9 : kS} (hT : TxC C M t c) (hM9 : SM M9 a) (hl : ∀ i, i < t → isl (c i) = true) (hci : ci < 642) (hfit : base + wide * a ci + 1 + t ≤ 642) (kont : kS → Option (Int32 × kS)) (hN : 3000 ≤ N) : ∃ M', lp_X9_makes_106 N (nI ci) (nI base) (nI wide) M9 kont N (nI 0) M = kont M' ∧ (∀ j, j ≠ 1 → M' j = M j) ∧ ∀ j, M' 1 j = if base + wide * a ci + 1 ≤ j ∧ j < base + wide * a ci + 1 + t then nI (c (j - (base + wide * a ci + 1)) - 97) else M 1 j := by
  have ht := hT.1
  obtain ⟨D, n, ⟨b0, b1⟩, e⟩ := lpN (fun n i (x : kS) => lp_X9_makes_106 N (nI ci) (nI base) (nI wide) M9 kont n (nI i) x) (fun i x => (∀ j, j ≠ 1 → x j = M j) ∧ ∀ j, x 1 j = if base + wide * a ci + 1 ≤ j ∧ j < base + wide * a ci + 1 + i then nI (c (j - (base + wide * a ci + 1)) - 97) else M 1 j) t (fun n i x hi hI => by
    obtain ⟨c0, c1⟩ := hI
    have h97 : 97 ≤ c i ∧ c i ≤ 122 := of_decide_eq_true (hl i hi)
    refine ⟨up1 x 1 (upd (x 1) (base + wide * a ci + 1 + i) (nI (c i - 97))), ⟨fun j hj => by rw [up1_n hj]; exact c0 j hj, fun j => ?_⟩, ?_⟩
    · rw [up1_s]
      by_cases z : j = base + wide * a ci + 1 + i
      · subst z
        rw [pk_us, if_pos (by omega), Nat.add_sub_cancel_left]
      · rw [pk_un z, c1 j]
        by_cases z2 : base + wide * a ci + 1 ≤ j ∧ j < base + wide * a ci + 1 + i
        · rw [if_pos z2, if_pos (by omega)]
        · rw [if_neg z2, if_neg (by omega)]
    · show lp_X9_makes_106 N (nI ci) (nI base) (nI wide) M9 kont (n + 1) (nI i) x = lp_X9_makes_106 N (nI ci) (nI base) (nI wide) M9 kont n (nI (i + 1)) _
      have e4 : x 0 4 = nI t := by rw [c0 0 (by decide)]; exact hT.2.2.1
      have e3 : x 3 i = nI (c i) := by rw [c0 3 (by decide)]; exact (hT.2.2.2 i hi).2.2
      rw [lp_X9_makes_106, e4]
      simp (disch := omega) only [q_le, Nat.not_le.mpr hi, ↓reduceIte, q_gIn, q_cl, hM9 _, pk_mul, nI_add, i_1, e3, i_97, q_sub, ↓jn_eq]) (N := N) 0 M (Nat.zero_le _) (by omega) ⟨fun j _ => rfl, fun j => by rw [if_neg (by omega)]⟩
  refine ⟨D, e.trans ?_, b0, b1⟩
  show lp_X9_makes_106 N (nI ci) (nI base) (nI wide) M9 kont (n + 1) (nI t) D = _
  rw [lp_X9_makes_106, b0 0 (by decide), hT.2.2.1]
  simp (disch := omega) only [q_le, Nat.le_refl, ↓reduceIte]
theorem J_make (hR : RD C M a) (hH : HsC C M h p bs) (hT : TxC C M t c) (hW : ∀ D : kS, StC D 4 a → WdC D k mw ml a (a ci) base wide) (hwl : WL a base wide ml (a ci)) (hn : a ci ≤ mw) (hwd : wide = ml + 1) (hmw : mw ≤ 40) (hml : ml ≤ 12) (hci : ci < base) (hci3 : ci < 34) (hb : base + wide * mw ≤ 642) (l2 : ln (k + 2) = mw * ml) (l4 : ln (k + 4) = mw) (hk : 5 ≤ k ∧ k + 4 < 24) (hchg : ∀ (D D' : kS) (a' : kA), StC D 4 a → (∀ j, j ≠ k → j ≠ k + 2 → j ≠ k + 4 → D' j = D j) → WdC D' k mw ml a' (a' ci) base wide → a' ci ≤ mw ∧ WL a' base wide ml (a' ci) → (∀ j, j ≠ ci → (j < base ∨ base + wide * mw ≤ j) → a' j = a j) → WF a' ∧ StC D' 4 a') (hN : 3000 ≤ N) : ∃ r C' M', f_X8_addTextTo N C k = some (r, C') ∧ f_X9_makes N M (nI ci) (nI base) (nI wide) (nI mw) = some (r, M') ∧ Rl C' M' := by
  have hR0 := hR
  obtain ⟨hw, hM, hS, hD⟩ := hR
  have ht := hT.1
  have hWC := hW C hS
  have hmwf := wm (wide := wide) (v := 0) (w := mw)
  unfold f_X8_addTextTo f_X9_makes f_X7_greatestLength
  rw [hWC.2.1, ob, x_oneWord hT (by omega) hN]
  have e0 : nI wide - 1 = nI ml := by rw [i_1, hwd, q_sub (by omega), Nat.add_sub_cancel]
  rw [e0, m_oneWord hT (by omega) hN, ob, ob, i_0]
  simp only [jn_eq]
  rw [m_can hT hM hwl hwd hn hmw hb hci (by omega) hN]
  cases z : oneW c t ml with
  | false =>
    refine ⟨-12, C, M, ?_, ?_, a, h, p, bs, t, c, hR0, hH, hT⟩
    · simp only [Bool.false_eq_true, ↓reduceIte]
    · simp only [Bool.false_eq_true, false_and, ↓reduceIte]
  | true =>
    obtain ⟨ht2, hl⟩ := oneW_t z
    rw [x_hasWord hT hWC hwl l2 l4 hmw hml hn hl hN]
    by_cases y : fst (eqW a base wide t c) (a ci) < a ci
    · refine ⟨-12, C, M, ?_, ?_, a, h, p, bs, t, c, hR0, hH, hT⟩
      · simp only [y, ↓reduceIte, q_nT, ob]
      · simp only [y, not_true, and_false, ↓reduceIte]
    · have hfull : f_X7_isFull N C k = some (nI (if a ci = mw then 1 else 0)) := by
        unfold f_X7_isFull
        rw [hWC.1, hWC.2.2.1]
        simp only [jn_eq]
        by_cases x : a ci = mw
        · rw [if_neg (fun q => by have := (nI_ltI (by omega) (by omega)).mp q; omega), if_pos x]
          rfl
        · rw [if_pos ((nI_ltI (by omega) (by omega)).mpr (by omega)), if_neg x]
          rfl
      simp (disch := omega) only [y, ↓reduceIte, q_nT, ob, not_false_iff, and_self, hfull, q_gIn, q_cl, hM _, q_eq, Nat.one_ne_zero]
      by_cases x : a ci = mw
      · refine ⟨-13, C, M, ?_, ?_, a, h, p, bs, t, c, hR0, hH, hT⟩
        · simp only [x, ↓reduceIte, q_nT, Nat.one_ne_zero]
        · simp only [x, ↓reduceIte]
      · have hlt : a ci < mw := by omega
        have hm3 := wm (wide := wide) hlt
        simp only [x, ↓reduceIte]
        obtain ⟨C2, M2, h', p', bs', e2, e3, hH2, kc, km⟩ := J_keep (N := N) hH hw hM hS hN
        have hS2 : StC C2 4 a := hS.cg (fun j _ _ => kc j (by omega))
        have hM2 : SM M2 a := fun i hi => by rw [km.1 1 (by decide) (by decide)]; exact hM i hi
        have hT2 : TxC C2 M2 t c := (hT.cgM (km.1 3 (by decide) (by decide)) (km.2 4 (by decide))).cgC (by rw [kc 1 (by decide)]) (kc 3 (by decide))
        have hI0 : invW ci base wide mw ml a 0 := ⟨hn, hwl, fun q => absurd rfl q⟩
        have hok : ∀ i, i < t → isl (c i) = true → run c i < ml ∧ (run c i = 0 → pgG ci base wide a c i ci < mw) := fun i hi _ => by
          rw [run_all hl i (by omega)]
          refine ⟨by omega, fun q => ?_⟩
          rw [q]
          exact hlt
        obtain ⟨C4, e4, hW4, x4⟩ := x_addWords (N := N) hT2 (hW C2 hS2) hI0 hci hwd hmw hml l2 l4 hk.1 hok hN
        have hv := pgG_inv hI0 hci hwd (fun i hi => (hT2.2.2.2 i hi).1.2) hok t (Nat.le_refl _)
        have hout := fun j (hj : j ≠ ci) (hj2 : j < base ∨ base + wide * mw ≤ j) => pgG_out hI0 hci hwd (fun i hi => (hT2.2.2.2 i hi).1.2) hok hj hj2 t (Nat.le_refl _)
        obtain ⟨hw4, hS4⟩ := hchg C2 C4 (pgG ci base wide a c t) hS2 x4 hW4 ⟨hv.1, hv.2.1⟩ hout
        have hall := pgG_all (a := a) (wide := wide) hci hl (t - 1) (by omega)
        rw [show t - 1 + 1 = t by omega] at hall
        -- the reference's writes
        have hT3 : TxC C2 (up1 M2 1 (upd (M2 1) (base + wide * a ci) (nI t))) t c := hT2.cgM (up1_n (by decide)) (by rw [up1_n (by decide)])
        obtain ⟨M5, e5, y5, y6⟩ := m_letters (N := N) (ci := ci) (base := base) (wide := wide) hT3 hM2 hl (by omega) (by omega) (fun C13 => gIn (nI ci) 642 (gIn (nI ci) 642 (some ((up1 C13 1 (upd (C13 1) ci (C13 1 ci + 1))) 1 ci - 1, up1 C13 1 (upd (C13 1) ci (C13 1 ci + 1)))))) hN
        have y7 : M5 1 ci = nI (a ci) := by
          rw [y6 ci, if_neg (by omega), up1_s, pk_un (by omega)]
          exact hM2 ci (by omega)
        have hM6 : SM (up1 M5 1 (upd (M5 1) ci (nI (a ci + 1)))) (pgG ci base wide a c t) := fun i hi => by
          rw [up1_s, hall i]
          by_cases z1 : i = ci
          · subst z1
            rw [pk_us, if_pos rfl]
          · rw [pk_un z1, if_neg z1, y6 i]
            by_cases z2 : i = base + wide * a ci
            · rw [if_pos z2, if_neg (by omega), up1_s, z2, pk_us]
            · rw [if_neg z2]
              by_cases z3 : base + wide * a ci + 1 ≤ i ∧ i < base + wide * a ci + 1 + t
              · rw [if_pos z3, if_pos z3]
              · rw [if_neg z3, if_neg z3, up1_s, pk_un z2]
                exact hM2 i hi
        have hH4 : HsC C4 (up1 M5 1 (upd (M5 1) ci (nI (a ci + 1)))) h' p' bs' := hH2.cg (fun j j1 j2 => by rw [x4 j (by omega) (by omega) (by omega)]) (by rw [up1_n (by decide), y5 2 (by decide), up1_n (by decide)]) (by rw [up1_n (by decide), y5 0 (by decide), up1_n (by decide)])
        have hT4 : TxC C4 (up1 M5 1 (upd (M5 1) ci (nI (a ci + 1)))) t c := (hT3.cgM (by rw [up1_n (by decide), y5 3 (by decide)]) (by rw [up1_n (by decide), y5 0 (by decide)])).cgC (by rw [x4 1 (by omega) (by omega) (by omega)]) (x4 3 (by omega) (by omega) (by omega))
        obtain ⟨C5, e6, x5, hR5⟩ := J_fin (N := N) hw4 hM6 hS4 hH4 hT4 hN
        have hci2 : pgG ci base wide a c t ci = a ci + 1 := by rw [hall ci, if_pos rfl]
        refine ⟨nI (a ci), C5, _, ?_, ?_, hR5⟩
        · rw [e2, ob, e4, ob, e6, ob]
          unfold f_X7_size
          rw [x5 k (by omega), hW4.2.2.1, ob, hci2, i_1, q_sub (by omega), Nat.add_sub_cancel]
        · rw [e3, ob]
          simp (disch := omega) only [q_gIn, q_cl, hM2 _, pk_mul, nI_add, hT2.2.2.1]
          have e7 : lp_X9_makes_106 N (nI ci) (nI base) (nI wide) M2 (fun C13 => some (up1 C13 1 (upd (C13 1) ci (C13 1 ci + 1)) 1 ci - 1, up1 C13 1 (upd (C13 1) ci (C13 1 ci + 1)))) N (nI 0) (up1 M2 1 (upd (M2 1) (base + wide * a ci) (nI t))) = some (nI (a ci), up1 M5 1 (upd (M5 1) ci (nI (a ci + 1)))) := by
            simp (disch := omega) only [q_gIn] at e5
            rw [e5]
            simp (disch := omega) only [y7, i_1, nI_add, up1_s, pk_us, q_sub, Nat.add_sub_cancel]
          exact e7
end NN2
end
section
/-! ===== dropName and dropEnding ===== -/
def rmv (ci base wide w : Nat) (a : kA) : kA := fun j => if j = ci then a ci - 1 else if base + wide * w ≤ j ∧ j < base + wide * (a ci - 1) then a (j + wide) else a j
section DD1
variable {C M : kS} {a : kA} {N t h ci base wide mw ml k : Nat} {c : Nat → Nat} {p : Nat → Nat} {bs : Nat → kA}
theorem J_name (hR : RD C M a) (hH : HsC C M h p bs) (hT : TxC C M t c) (hN : 3000 ≤ N) : ∃ r C' M', f_X8_name N C = some (r, C') ∧ f_X9_name N M = some (r, M') ∧ Rl C' M' := by
  have hw := hR.1
  obtain ⟨r, C', M', e1, e2, e3⟩ := J_make (N := N) (ci := 1) (base := 554) (wide := 9) (mw := 8) (ml := 8) (k := 10) hR hH hT (fun D hS => hS.2.1) hw.2.2.2.2.2.2.2.2.2.2.1 hw.2.1 rfl (by decide) (by decide) (by decide) (by decide) (by decide) rfl rfl (by decide) (fun D D' a' hS x g1 g2 g3 => chgN hw hS x g1 g2 (fun j h1 h2 => g3 j h1 (by omega))) hN
  refine ⟨r, C', M', ?_, ?_, e3⟩
  · unfold f_X8_name
    rw [e1, ob]
  · unfold f_X9_name
    rw [i_1, show (554 : Int32) = nI 554 by decide, show (9 : Int32) = nI 9 by decide, show (8 : Int32) = nI 8 by decide, e2, ob]
theorem J_ending (hR : RD C M a) (hH : HsC C M h p bs) (hT : TxC C M t c) (hN : 3000 ≤ N) : ∃ r C' M', f_X8_ending N C = some (r, C') ∧ f_X9_ending N M = some (r, M') ∧ Rl C' M' := by
  have hw := hR.1
  obtain ⟨r, C', M', e1, e2, e3⟩ := J_make (N := N) (ci := 2) (base := 626) (wide := 4) (mw := 4) (ml := 3) (k := 15) hR hH hT (fun D hS => hS.2.2.1) hw.2.2.2.2.2.2.2.2.2.2.2 hw.2.2.1 rfl (by decide) (by decide) (by decide) (by decide) (by decide) rfl rfl (by decide) (fun D D' a' hS x g1 g2 g3 => chgE hw hS x g1 g2 (fun j h1 h2 => g3 j h1 (by omega))) hN
  refine ⟨r, C', M', ?_, ?_, e3⟩
  · unfold f_X8_ending
    rw [e1, ob]
  · unfold f_X9_ending
    rw [show (2 : Int32) = nI 2 by decide, show (626 : Int32) = nI 626 by decide, show (4 : Int32) = nI 4 by decide, e2, ob]
theorem x_rowShift {T : Nat → Int32} {D0 : kS} {v n : Nat} (hml : D0 k 1 = nI ml) (l2 : ln (k + 2) = mw * ml) (hm : mw ≤ 40) (hm2 : ml ≤ 12) (hv : v + 1 < mw) (hT : ∀ q, v * ml ≤ q → D0 (k + 2) q = T q) (kont : kS → Option kS) (hN : 3000 ≤ N) : ∃ D', lp_X7_remove_38 N k (nI v) kont N (nI 0) D0 = kont D' ∧ (∀ j, j ≠ k + 2 → D' j = D0 j) ∧ ∀ q, D' (k + 2) q = if v * ml ≤ q ∧ q < v * ml + ml then T (q + ml) else D0 (k + 2) q := by
  have h6 := Nat.mul_le_mul hm hm2
  have h7 : ∀ i, i < ml → (v + 1) * ml + i < mw * ml := fun i hi => row_lt hv hi
  obtain ⟨D, m, ⟨b0, b1⟩, e⟩ := lpN (fun n i (x : kS) => lp_X7_remove_38 N k (nI v) kont n (nI i) x) (fun i x => (∀ j, j ≠ k + 2 → x j = D0 j) ∧ ∀ q, x (k + 2) q = if v * ml ≤ q ∧ q < v * ml + i then T (q + ml) else D0 (k + 2) q) ml (fun n i x hi hI => by
    obtain ⟨c0, c1⟩ := hI
    have h8 := h7 i hi
    have h9 : (v + 1) * ml = v * ml + ml := Nat.succ_mul v ml
    have hmlx : x k 1 = nI ml := by rw [c0 k (by omega)]; exact hml
    refine ⟨up1 x (k + 2) (upd (x (k + 2)) (v * ml + i) (T (v * ml + i + ml))), ⟨fun j hj => by rw [up1_n hj]; exact c0 j hj, fun q => ?_⟩, ?_⟩
    · rw [up1_s]
      by_cases z : q = v * ml + i
      · subst z
        rw [pk_us, if_pos (by omega)]
      · rw [pk_un z, c1 q]
        by_cases z2 : v * ml ≤ q ∧ q < v * ml + i
        · rw [if_pos z2, if_pos (by omega)]
        · rw [if_neg z2, if_neg (by omega)]
    · show lp_X7_remove_38 N k (nI v) kont (n + 1) (nI i) x = lp_X7_remove_38 N k (nI v) kont n (nI (i + 1)) _
      have e1 : f_X7_letterOf N x k (nI (v + 1)) (nI i) = some (T (v * ml + i + ml)) := by
        unfold f_X7_letterOf
        rw [hmlx, pk_mul, nI_add, x_at (k := k + 1) l2 h8 (by omega), ob]
        show some (x (k + 2) ((v + 1) * ml + i)) = _
        rw [c1, if_neg (by omega), hT _ (by omega), h9, show v * ml + ml + i = v * ml + i + ml by omega]
      rw [lp_X7_remove_38, i_1, hmlx]
      simp (disch := omega) only [q_le, Nat.not_le.mpr hi, ↓reduceIte, nI_add, e1, ob, pk_mul]
      rw [x_put (k := k + 1) l2 (by omega) (by omega), ob]) (N := N) 0 D0 (Nat.zero_le _) (by omega) ⟨fun j _ => rfl, fun q => by rw [if_neg (by omega)]⟩
  refine ⟨D, e.trans ?_, b0, b1⟩
  show lp_X7_remove_38 N k (nI v) kont (m + 1) (nI ml) D = _
  rw [lp_X7_remove_38, b0 k (by omega), hml]
  simp (disch := omega) only [q_le, Nat.le_refl, ↓reduceIte]
theorem x_remove {w : Nat} (hW : WdC C k mw ml a (a ci) base wide) (hle : ∀ w, w < a ci → a (base + wide * w) ≤ ml) (hn : a ci ≤ mw) (hwn : w < a ci) (hci : ci < base) (hwd : wide = ml + 1) (hm : mw ≤ 40) (hm2 : ml ≤ 12) (l2 : ln (k + 2) = mw * ml) (l4 : ln (k + 4) = mw) (hN : 3000 ≤ N) : ∃ C', f_X7_remove N C k (nI w) = some C' ∧ WdC C' k mw ml (rmv ci base wide w a) ((rmv ci base wide w a) ci) base wide ∧ ∀ j, j ≠ k → j ≠ k + 2 → j ≠ k + 4 → C' j = C j := by
  have h6 := Nat.mul_le_mul hm hm2
  obtain ⟨w0, w1, w2, w3⟩ := hW
  unfold f_X7_remove
  rw [x_hasN w2 (by omega) (by omega), ob, if_pos hwn, i_0, if_neg (by rw [q_nT]; exact not_false)]
  simp only [jn_eq]
  obtain ⟨D, m, ⟨b0, b1, b2⟩, e⟩ := lpN (fun n i (x : kS) => lp_X7_remove_11 N k (fun C4 => some (up1 C4 k (upd (C4 k) 4 (C4 k 4 - 1)))) n (nI (w + i)) x) (fun i x => (∀ j, j ≠ k + 2 → j ≠ k + 4 → x j = C j) ∧ (∀ v, x (k + 4) v = if w ≤ v ∧ v < w + i then C (k + 4) (v + 1) else C (k + 4) v) ∧ ∀ q, x (k + 2) q = if w * ml ≤ q ∧ q < (w + i) * ml then C (k + 2) (q + ml) else C (k + 2) q) (a ci - 1 - w) (fun n i x hi hI => by
    obtain ⟨c0, c1, c2⟩ := hI
    have hk4 : x k 4 = nI (a ci) := by rw [c0 k (by omega) (by omega)]; exact w2
    have hk1 : x k 1 = nI ml := by rw [c0 k (by omega) (by omega)]; exact w1
    have hx4 : x (k + 4) (w + i + 1) = C (k + 4) (w + i + 1) := by rw [c1, if_neg (by omega)]
    have hD0 : (up1 x (k + 4) (upd (x (k + 4)) (w + i) (C (k + 4) (w + i + 1)))) k 1 = nI ml := by rw [up1_n (by omega)]; exact hk1
    obtain ⟨D', e1, d0, d1⟩ := x_rowShift (N := N) (n := n) (T := C (k + 2)) (v := w + i) hD0 l2 hm hm2 (by omega) (fun q hq => by rw [up1_n (by omega), c2 q, if_neg (by omega)]) (fun C14 => lp_X7_remove_11 N k (fun C4 => some (up1 C4 k (upd (C4 k) 4 (C4 k 4 - 1)))) n (nI (w + i + 1)) C14) hN
    have hsm : (w + (i + 1)) * ml = (w + i) * ml + ml := by rw [← Nat.add_assoc, Nat.succ_mul]
    refine ⟨D', ⟨fun j j2 j4 => by rw [d0 j j2, up1_n j4]; exact c0 j j2 j4, fun v => ?_, fun q => ?_⟩, ?_⟩
    · rw [d0 (k + 4) (by omega), up1_s]
      by_cases z : v = w + i
      · subst z
        rw [pk_us, if_pos (by omega)]
      · rw [pk_un z, c1 v]
        by_cases z2 : w ≤ v ∧ v < w + i
        · rw [if_pos z2, if_pos (by omega)]
        · rw [if_neg z2, if_neg (by omega)]
    · rw [d1 q, hsm, up1_n (show k + 2 ≠ k + 4 by omega), c2 q]
      have hmono := Nat.mul_le_mul_right ml (show w ≤ w + i by omega)
      by_cases z : (w + i) * ml ≤ q ∧ q < (w + i) * ml + ml
      · rw [if_pos z, if_pos (by omega)]
      · rw [if_neg z]
        by_cases z2 : w * ml ≤ q ∧ q < (w + i) * ml
        · rw [if_pos z2, if_pos (by omega)]
        · rw [if_neg z2, if_neg (by omega)]
    · show lp_X7_remove_11 N k _ (n + 1) (nI (w + i)) x = lp_X7_remove_11 N k _ n (nI (w + (i + 1))) D'
      rw [lp_X7_remove_11]
      unfold f_X7_lengthOf
      simp (disch := omega) only [hk4, i_1, q_sub, q_le, if_neg, nI_add]
      rw [x_at (k := k + 3) l4 (i := w + i + 1) (by omega) (by omega)]
      simp only [ob]
      have e8 : x (k + 3 + 1) (w + i + 1) = C (k + 4) (w + i + 1) := hx4
      rw [e8, x_put (k := k + 3) l4 (by omega) (by omega), ob, jn_eq, i_0]
      exact e1) (N := N) 0 C (Nat.zero_le _) (by omega) ⟨fun j _ _ => rfl, fun v => by rw [if_neg (by omega)], fun q => by rw [show w + 0 = w from rfl, if_neg (by omega)]⟩
  have hk4 : D k 4 = nI (a ci) := by rw [b0 k (by omega) (by omega)]; exact w2
  have hlast : w + (a ci - 1 - w) = a ci - 1 := by omega
  refine ⟨up1 D k (upd (D k) 4 (nI (a ci - 1))), ?_, ⟨?_, ?_, ?_, fun v hv => ?_⟩, fun j j0 j2 j4 => by rw [up1_n j0]; exact b0 j j2 j4⟩
  · refine Eq.trans ?_ (e.trans ?_)
    · rfl
    · show lp_X7_remove_11 N k _ (m + 1) (nI (w + (a ci - 1 - w))) D = _
      rw [lp_X7_remove_11, hlast]
      simp (disch := omega) only [hk4, i_1, q_sub, q_le, Nat.le_refl, ↓reduceIte]
  · rw [up1_s, pk_un (by decide), b0 k (by omega) (by omega)]; exact w0
  · rw [up1_s, pk_un (by decide), b0 k (by omega) (by omega)]; exact w1
  · rw [up1_s, pk_us]
    unfold rmv
    rw [if_pos rfl]
  · have hci2 : rmv ci base wide w a ci = a ci - 1 := by unfold rmv; rw [if_pos rfl]
    rw [hci2] at hv
    have hm3 := wm (wide := wide) (show v < a ci - 1 from hv)
    have hm5 := Nat.mul_le_mul_right ml (show v + 1 ≤ a ci - 1 from hv)
    rw [Nat.succ_mul] at hm5
    rw [up1_n (show k + 4 ≠ k by omega), up1_n (show k + 2 ≠ k by omega), b1 v, hlast]
    by_cases z : v < w
    · have hm4 := wm (wide := wide) z
      have hm6 := Nat.mul_le_mul_right ml (show v + 1 ≤ w from z)
      rw [Nat.succ_mul] at hm6
      have hlv := hle v (by omega)
      have r1 : rmv ci base wide w a (base + wide * v) = a (base + wide * v) := by
        unfold rmv
        rw [if_neg (by omega), if_neg (by omega)]
      rw [if_neg (by omega), r1]
      refine ⟨(w3 v (by omega)).1, fun i hi => ?_⟩
      have r2 : rmv ci base wide w a (base + wide * v + 1 + i) = a (base + wide * v + 1 + i) := by
        unfold rmv
        rw [if_neg (by omega), if_neg (by omega)]
      rw [b2, if_neg (by omega), r2]
      exact (w3 v (by omega)).2 i hi
    · have hm4 := Nat.mul_le_mul_left wide (show w ≤ v by omega)
      have hm6 := Nat.mul_le_mul_right ml (show w ≤ v by omega)
      have hlv := hle (v + 1) (by omega)
      have hs1 : wide * (v + 1) = wide * v + wide := Nat.mul_succ wide v
      have hs2 : (v + 1) * ml = v * ml + ml := Nat.succ_mul v ml
      have r1 : rmv ci base wide w a (base + wide * v) = a (base + wide * (v + 1)) := by
        unfold rmv
        rw [if_neg (by omega), if_pos (by omega), hs1, Nat.add_assoc]
      rw [if_pos (by omega), r1]
      refine ⟨(w3 (v + 1) (by omega)).1, fun i hi => ?_⟩
      have r2 : rmv ci base wide w a (base + wide * v + 1 + i) = a (base + wide * (v + 1) + 1 + i) := by
        unfold rmv
        rw [if_neg (by omega), if_pos (by omega), hs1, show base + wide * v + 1 + i + wide = base + (wide * v + wide) + 1 + i by omega]
      rw [b2, hlast, if_pos (by omega), r2, show v * ml + i + ml = (v + 1) * ml + i by omega]
      exact (w3 (v + 1) (by omega)).2 i hi
theorem rmv_inv {w : Nat} (hwl : WL a base wide ml (a ci)) (hwn : w < a ci) (hci : ci < base) (hwd : wide = ml + 1) : WL (rmv ci base wide w a) base wide ml (a ci - 1) := fun v hv => by
  have hm3 := wm (wide := wide) hv
  by_cases z : v < w
  · have hm4 := wm (wide := wide) z
    obtain ⟨b1, b2⟩ := hwl v (by omega)
    have r1 : rmv ci base wide w a (base + wide * v) = a (base + wide * v) := by
      unfold rmv
      rw [if_neg (by omega), if_neg (by omega)]
    rw [r1]
    refine ⟨b1, fun i hi => ?_⟩
    have r2 : rmv ci base wide w a (base + wide * v + 1 + i) = a (base + wide * v + 1 + i) := by
      unfold rmv
      rw [if_neg (by omega), if_neg (by omega)]
    rw [r2]
    exact b2 i hi
  · have hm4 := Nat.mul_le_mul_left wide (show w ≤ v by omega)
    obtain ⟨b1, b2⟩ := hwl (v + 1) (by omega)
    have hs1 : wide * (v + 1) = wide * v + wide := Nat.mul_succ wide v
    have r1 : rmv ci base wide w a (base + wide * v) = a (base + wide * (v + 1)) := by
      unfold rmv
      rw [if_neg (by omega), if_pos (by omega), hs1, Nat.add_assoc]
    rw [r1]
    refine ⟨b1, fun i hi => ?_⟩
    have r2 : rmv ci base wide w a (base + wide * v + 1 + i) = a (base + wide * (v + 1) + 1 + i) := by
      unfold rmv
      rw [if_neg (by omega), if_pos (by omega), hs1, show base + wide * v + 1 + i + wide = base + (wide * v + wide) + 1 + i by omega]
    rw [r2]
    exact b2 i hi
theorem m_shiftL {w : Nat} (hn : M 1 ci = nI (a ci - 1)) (hwn : w < a ci) (hci : ci < base) (hfit : base + wide * a ci ≤ 642) (hwp : 0 < wide) (kont : kS → Option (Int32 × kS)) (hN : 3000 ≤ N) : ∃ M', lp_X9_drops_41 N (nI ci) (nI base) (nI wide) kont N (nI (base + wide * w)) M = kont M' ∧ (∀ j, j ≠ 1 → M' j = M j) ∧ ∀ q, M' 1 q = if base + wide * w ≤ q ∧ q < base + wide * (a ci - 1) then M 1 (q + wide) else M 1 q := by
  have hsp : wide * (a ci - 1) = wide * w + wide * (a ci - 1 - w) := by rw [← Nat.mul_add, show w + (a ci - 1 - w) = a ci - 1 by omega]
  have hsp2 : wide * a ci = wide * (a ci - 1) + wide := by rw [← Nat.mul_succ, show (a ci - 1).succ = a ci by omega]
  obtain ⟨D, m, ⟨b0, b1⟩, e⟩ := lpN (fun n i (x : kS) => lp_X9_drops_41 N (nI ci) (nI base) (nI wide) kont n (nI (base + wide * w + i)) x) (fun i x => (∀ j, j ≠ 1 → x j = M j) ∧ ∀ q, x 1 q = if base + wide * w ≤ q ∧ q < base + wide * w + i then M 1 (q + wide) else M 1 q) (wide * (a ci - 1 - w)) (fun n i x hi hI => by
    obtain ⟨c0, c1⟩ := hI
    have e1 : x 1 ci = nI (a ci - 1) := by rw [c1, if_neg (by omega)]; exact hn
    refine ⟨up1 x 1 (upd (x 1) (base + wide * w + i) (M 1 (base + wide * w + i + wide))), ⟨fun j hj => by rw [up1_n hj]; exact c0 j hj, fun q => ?_⟩, ?_⟩
    · rw [up1_s]
      by_cases z : q = base + wide * w + i
      · subst z
        rw [pk_us, if_pos (by omega)]
      · rw [pk_un z, c1 q]
        by_cases z2 : base + wide * w ≤ q ∧ q < base + wide * w + i
        · rw [if_pos z2, if_pos (by omega)]
        · rw [if_neg z2, if_neg (by omega)]
    · show lp_X9_drops_41 N (nI ci) (nI base) (nI wide) kont (n + 1) (nI (base + wide * w + i)) x = lp_X9_drops_41 N (nI ci) (nI base) (nI wide) kont n (nI (base + wide * w + i + 1)) _
      have e2 : x 1 (base + wide * w + i + wide) = M 1 (base + wide * w + i + wide) := by rw [c1, if_neg (by omega)]
      rw [lp_X9_drops_41]
      simp (disch := omega) only [q_gIn, q_cl, e1, pk_mul, nI_add, q_le, if_neg, e2, ↓jn_eq, i_1]) (N := N) 0 M (Nat.zero_le _) (by omega) ⟨fun j _ => rfl, fun q => by rw [if_neg (by omega)]⟩
  refine ⟨D, ?_, b0, fun q => by rw [b1 q, hsp, ← Nat.add_assoc]⟩
  refine e.trans ?_
  show lp_X9_drops_41 N (nI ci) (nI base) (nI wide) kont (m + 1) (nI (base + wide * w + wide * (a ci - 1 - w))) D = _
  have e1 : D 1 ci = nI (a ci - 1) := by rw [b1, if_neg (by omega)]; exact hn
  have e2 : base + wide * (a ci - 1) ≤ base + wide * w + wide * (a ci - 1 - w) := by omega
  rw [lp_X9_drops_41]
  simp (disch := omega) only [q_gIn, q_cl, e1, pk_mul, nI_add, q_le, e2, ↓reduceIte]
theorem J_drop (hR : RD C M a) (hH : HsC C M h p bs) (hT : TxC C M t c) (v : Int32) (hW : ∀ D : kS, StC D 4 a → WdC D k mw ml a (a ci) base wide) (hwl : WL a base wide ml (a ci)) (hn : a ci ≤ mw) (hwd : wide = ml + 1) (hmw : mw ≤ 40) (hml : ml ≤ 12) (hci : ci < base) (hci3 : ci < 34) (hb : base + wide * mw ≤ 642) (l2 : ln (k + 2) = mw * ml) (l4 : ln (k + 4) = mw) (hk : 5 ≤ k ∧ k + 4 < 24) (hchg : ∀ (D D' : kS) (a' : kA), StC D 4 a → (∀ j, j ≠ k → j ≠ k + 2 → j ≠ k + 4 → D' j = D j) → WdC D' k mw ml a' (a' ci) base wide → a' ci ≤ mw ∧ WL a' base wide ml (a' ci) → (∀ j, j ≠ ci → (j < base ∨ base + wide * mw ≤ j) → a' j = a j) → WF a' ∧ StC D' 4 a') (hN : 3000 ≤ N) : ∃ r C' M', f_X8_dropFrom N C k v = some (r, C') ∧ f_X9_drops N M (nI ci) (nI base) (nI wide) v = some (r, M') ∧ Rl C' M' := by
  have hR0 := hR
  obtain ⟨hw, hM, hS, hD⟩ := hR
  have hWC := hW C hS
  unfold f_X8_dropFrom f_X9_drops
  rcases sg v with hv | ⟨w, hwk, rfl⟩
  · refine ⟨-11, C, M, ?_, ?_, a, h, p, bs, t, c, hR0, hH, hT⟩
    · rw [x_hasG hv, ob, i_0, if_pos rfl]
    · rw [if_pos hv]
  · rw [x_hasN hWC.2.2.1 (by omega) hwk, ob, if_neg (nI_pos hwk)]
    simp (disch := omega) only [q_gIn, q_cl, hM _, q_lt]
    by_cases hwn : w < a ci
    · have hm3 := wm (wide := wide) (show w < mw by omega)
      have hfit : base + wide * a ci ≤ 642 := by
        have := Nat.mul_le_mul_left wide hn
        omega
      obtain ⟨C2, M2, h', p', bs', e2, e3, hH2, kc, km⟩ := J_keep (N := N) hH hw hM hS hN
      have hS2 : StC C2 4 a := hS.cg (fun j _ _ => kc j (by omega))
      have hM2 : SM M2 a := fun i hi => by rw [km.1 1 (by decide) (by decide)]; exact hM i hi
      have hT2 : TxC C2 M2 t c := (hT.cgM (km.1 3 (by decide) (by decide)) (km.2 4 (by decide))).cgC (by rw [kc 1 (by decide)]) (kc 3 (by decide))
      obtain ⟨C4, e4, hW4, x4⟩ := x_remove (N := N) (w := w) (hW C2 hS2) (fun w hwd => (hwl w hwd).1.2) hn hwn hci hwd hmw hml l2 l4 hN
      have hci2 : rmv ci base wide w a ci = a ci - 1 := by unfold rmv; rw [if_pos rfl]
      obtain ⟨hw4, hS4⟩ := hchg C2 C4 (rmv ci base wide w a) hS2 x4 hW4 ⟨by rw [hci2]; omega, by rw [hci2]; exact rmv_inv hwl hwn hci hwd⟩ (fun j h1 h2 => by
        have h5 := Nat.mul_le_mul_left wide (show a ci - 1 ≤ mw by omega)
        unfold rmv
        rw [if_neg h1, if_neg (by omega)])
      have y0 : (up1 M2 1 (upd (M2 1) ci (nI (a ci - 1)))) 1 ci = nI (a ci - 1) := by rw [up1_s, pk_us]
      obtain ⟨M5, e5, y5, y6⟩ := m_shiftL (N := N) (base := base) (wide := wide) (w := w) y0 hwn hci hfit (by omega) (fun C9 => gIn (nI ci) 642 (some (C9 1 ci, C9))) hN
      have hM6 : SM M5 (rmv ci base wide w a) := fun i hi => by
        have hsp2 : wide * a ci = wide * (a ci - 1) + wide := by rw [← Nat.mul_succ, show (a ci - 1).succ = a ci by omega]
        rw [y6 i]
        unfold rmv
        by_cases z1 : i = ci
        · subst z1
          rw [if_neg (by omega), if_pos rfl]
          exact y0
        · rw [if_neg z1]
          by_cases z2 : base + wide * w ≤ i ∧ i < base + wide * (a ci - 1)
          · rw [if_pos z2, if_pos z2, up1_s, pk_un (by omega)]
            exact hM2 _ (by omega)
          · rw [if_neg z2, if_neg z2, up1_s, pk_un z1]
            exact hM2 i hi
      have hH4 : HsC C4 M5 h' p' bs' := hH2.cg (fun j j1 j2 => by rw [x4 j (by omega) (by omega) (by omega)]) (by rw [y5 2 (by decide), up1_n (by decide)]) (by rw [y5 0 (by decide), up1_n (by decide)])
      have hT4 : TxC C4 M5 t c := (hT2.cgM (by rw [y5 3 (by decide), up1_n (by decide)]) (by rw [y5 0 (by decide), up1_n (by decide)])).cgC (by rw [x4 1 (by omega) (by omega) (by omega)]) (x4 3 (by omega) (by omega) (by omega))
      obtain ⟨C5, e6, x5, hR5⟩ := J_fin (N := N) hw4 hM6 hS4 hH4 hT4 hN
      refine ⟨nI (a ci - 1), C5, M5, ?_, ?_, hR5⟩
      · rw [if_pos hwn, i_0, if_neg (by rw [q_nT]; exact not_false), e2, ob, e4, ob, e6, ob]
        unfold f_X7_size
        rw [x5 k (by omega), hW4.2.2.1, ob, hci2]
      · rw [if_pos hwn, e3, ob]
        have e8 : M2 1 ci = nI (a ci) := hM2 ci (by omega)
        have e9 : M5 1 ci = nI (a ci - 1) := by have := hM6 ci (by omega); rw [hci2] at this; exact this
        simp (disch := omega) only [q_gIn, q_cl, e8, i_1, q_sub, pk_mul, nI_add, jn_eq]
        simp (disch := omega) only [q_gIn] at e5
        rw [e5, e9]
    · refine ⟨-11, C, M, ?_, ?_, a, h, p, bs, t, c, hR0, hH, hT⟩
      · rw [if_neg hwn, i_0, if_pos rfl]
      · rw [if_neg hwn]
theorem J_dropName (hR : RD C M a) (hH : HsC C M h p bs) (hT : TxC C M t c) (v : Int32) (hN : 3000 ≤ N) : ∃ r C' M', f_X8_dropName N C v = some (r, C') ∧ f_X9_dropName N M v = some (r, M') ∧ Rl C' M' := by
  have hw := hR.1
  obtain ⟨r, C', M', e1, e2, e3⟩ := J_drop (N := N) (ci := 1) (base := 554) (wide := 9) (mw := 8) (ml := 8) (k := 10) hR hH hT v (fun D hS => hS.2.1) hw.2.2.2.2.2.2.2.2.2.2.1 hw.2.1 rfl (by decide) (by decide) (by decide) (by decide) (by decide) rfl rfl (by decide) (fun D D' a' hS x g1 g2 g3 => chgN hw hS x g1 g2 (fun j h1 h2 => g3 j h1 (by omega))) hN
  refine ⟨r, C', M', ?_, ?_, e3⟩
  · unfold f_X8_dropName
    rw [e1, ob]
  · unfold f_X9_dropName
    rw [i_1, show (554 : Int32) = nI 554 by decide, show (9 : Int32) = nI 9 by decide, e2, ob]
theorem J_dropEnding (hR : RD C M a) (hH : HsC C M h p bs) (hT : TxC C M t c) (v : Int32) (hN : 3000 ≤ N) : ∃ r C' M', f_X8_dropEnding N C v = some (r, C') ∧ f_X9_dropEnding N M v = some (r, M') ∧ Rl C' M' := by
  have hw := hR.1
  obtain ⟨r, C', M', e1, e2, e3⟩ := J_drop (N := N) (ci := 2) (base := 626) (wide := 4) (mw := 4) (ml := 3) (k := 15) hR hH hT v (fun D hS => hS.2.2.1) hw.2.2.2.2.2.2.2.2.2.2.2 hw.2.2.1 rfl (by decide) (by decide) (by decide) (by decide) (by decide) rfl rfl (by decide) (fun D D' a' hS x g1 g2 g3 => chgE hw hS x g1 g2 (fun j h1 h2 => g3 j h1 (by omega))) hN
  refine ⟨r, C', M', ?_, ?_, e3⟩
  · unfold f_X8_dropEnding
    rw [e1, ob]
  · unfold f_X9_dropEnding
    rw [show (2 : Int32) = nI 2 by decide, show (626 : Int32) = nI 626 by decide, show (4 : Int32) = nI 4 by decide, e2, ob]
end DD1
end
section
/-! ===== widen, set, undo ===== -/
section WW1
variable {C M : kS} {a : kA} {N t h : Nat} {c : Nat → Nat} {p : Nat → Nat} {bs : Nat → kA}
theorem isl_lt {x : Nat} (h : isl x = true) : 97 ≤ x ∧ x ≤ 122 := of_decide_eq_true h
theorem J_widen (hR : RD C M a) (hH : HsC C M h p bs) (hT : TxC C M t c) (v u : Int32) (hN : 3000 ≤ N) : ∃ r C' M', f_X8_widen N C v u = some (r, C') ∧ f_X9_widen N M v u = some (r, M') ∧ Rl C' M' := by
  have hR0 := hR
  obtain ⟨hw, hM, hS, hD⟩ := hR
  unfold f_X8_widen f_X9_widen
  rcases sg v with hv | ⟨x, hx, rfl⟩
  · refine ⟨-11, C, M, ?_, ?_, a, h, p, bs, t, c, hR0, hH, hT⟩
    · have e : f_X8_isLetter N v = some (nI 0) := by
        unfold f_X8_isLetter
        rw [i_97, jn_eq]
        simp (disch := omega) only [ngLt hv, ↓reduceIte, i_0, i_1, q_and0]
      rw [e, ob, i_0, if_pos rfl]
    · have e : f_X9_isLetter N v = some (nI 0) := by
        unfold f_X9_isLetter
        rw [i_97, i_122, m_inG hv (by decide), ob, i_1, q_and0]
      rw [e, ob, i_0, if_pos rfl]
  · rw [x_isLetter hx, m_isLetter hx, ob, ob]
    cases z : isl x with
    | false =>
      refine ⟨-11, C, M, ?_, ?_, a, h, p, bs, t, c, hR0, hH, hT⟩
      · simp only [Bool.false_eq_true, ↓reduceIte, i_0]
      · simp only [Bool.false_eq_true, ↓reduceIte, i_0]
    | true =>
      have hx2 := isl_lt z
      simp only [↓reduceIte, i_0, i_1, q_nT]
      rw [show (9 : Int32) = nI 9 by decide]
      rcases sg u with hu | ⟨y, hy, rfl⟩
      · refine ⟨-11, C, M, ?_, ?_, a, h, p, bs, t, c, hR0, hH, hT⟩
        · simp (disch := omega) only [ngLt hu, ↓reduceIte]
        · rw [m_inG hu (by decide), ob, if_pos rfl]
      · rw [m_inN hy (by decide) (by decide), ob]
        by_cases hy2 : 1 ≤ y ∧ y ≤ 9
        · obtain ⟨C2, M2, h', p', bs', e2, e3, hH2, kc, km⟩ := J_keep (N := N) hH hw hM hS hN
          have hS2 : StC C2 4 a := hS.cg (fun j _ _ => kc j (by omega))
          have hM2 : SM M2 a := fun i hi => by rw [km.1 1 (by decide) (by decide)]; exact hM i hi
          have hT2 : TxC C2 M2 t c := (hT.cgM (km.1 3 (by decide) (by decide)) (km.2 4 (by decide))).cgC (by rw [kc 1 (by decide)]) (kc 3 (by decide))
          have hL : LtC C 21 a := hS.2.2.2.1
          have hL2 : LtC C2 21 a := hS2.2.2.2.1
          have hM6 : SM (up1 M2 1 (upd (M2 1) (8 + (x - 97)) (nI y))) (un a (8 + (x - 97)) y) := hM2.un _ _
          obtain ⟨hw4, hS4⟩ := chgS (C' := up1 C2 21 (upd (C2 21) (x - 97) (nI y))) (a' := un a (8 + (x - 97)) y) hw hS2 (fun j h1 h2 => up1_n h1) (fun j hj => by
            rw [up1_s]
            by_cases q : j = x - 97
            · rw [q, pk_us, un_s]
            · rw [pk_un q, un_n (by omega)]
              exact hL2 j hj) (fun j hj => by
            rw [up1_n (by decide), un_n (by omega)]
            exact hS2.2.2.2.2 j hj) (by
            obtain ⟨w0, w1, w2, w3, w4, w5, w6, w7, wl, wp, wn, we⟩ := hw
            refine ⟨by rw [un_n (by omega)]; exact w3, by rw [un_n (by omega)]; exact w4, by rw [un_n (by omega)]; exact w5, by rw [un_n (by omega)]; exact w6, by rw [un_n (by omega)]; exact w7, fun k hk => ?_⟩
            by_cases q : k = x - 97
            · rw [q, un_s]; exact hy2
            · rw [un_n (by omega)]; exact wl k hk) (fun j hj => un_n (by omega))
          have hH4 : HsC (up1 C2 21 (upd (C2 21) (x - 97) (nI y))) (up1 M2 1 (upd (M2 1) (8 + (x - 97)) (nI y))) h' p' bs' := hH2.cg (fun j j1 j2 => up1_n (by omega)) (up1_n (by decide)) (by rw [up1_n (by decide)])
          have hT4 : TxC (up1 C2 21 (upd (C2 21) (x - 97) (nI y))) (up1 M2 1 (upd (M2 1) (8 + (x - 97)) (nI y))) t c := (hT2.cgM (up1_n (by decide)) (by rw [up1_n (by decide)])).cgC (by rw [up1_n (by decide)]) (up1_n (by decide))
          obtain ⟨C5, e6, x5, hR5⟩ := J_fin (N := N) hw4 hM6 hS4 hH4 hT4 hN
          refine ⟨nI (a (8 + (x - 97))), C5, _, ?_, ?_, hR5⟩
          · rw [if_neg (fun q => by have := (nI_ltI hy (by decide)).mp q; omega), if_pos ((nI_leI hy (by decide)).mpr hy2.2), i_97, q_sub (by omega), x_at (k := 20) (n := 26) rfl (by omega) (by decide), ob, e2, ob, x_put (k := 20) (n := 26) rfl (by omega) (by decide), ob, e6, ob]
            show some (C 21 (x - 97), C5) = _
            rw [hL _ (by omega)]
          · rw [if_pos hy2, if_neg (by rw [q_nT]; exact not_false), e3, ob]
            simp (disch := omega) only [i_8, i_97, nI_add, q_sub, q_gIn, q_cl, jn_eq, show 8 + x - 97 = 8 + (x - 97) by omega, hM2 _]
        · refine ⟨-11, C, M, ?_, ?_, a, h, p, bs, t, c, hR0, hH, hT⟩
          · by_cases q : y < 1
            · rw [if_pos ((nI_ltI hy (by decide)).mpr q)]
            · rw [if_neg (fun q2 => q ((nI_ltI hy (by decide)).mp q2)), if_neg (fun q2 => by have := (nI_leI hy (by decide)).mp q2; omega)]
          · rw [if_neg hy2, if_pos rfl]
def lvN (k : Nat) : Nat := if k = 0 then 0 else if k = 4 then 20 else 1
def gvN (k : Nat) : Nat := if k = 0 then 3 else if k = 1 then 50 else if k = 2 then 8 else if k = 3 then 9 else 200
theorem tbs : ∀ k, k < 5 → tb_LV k = nI (lvN k) ∧ tb_GV k = nI (gvN k) ∧ lvN k < 2147483648 ∧ gvN k < 2147483648 := by decide +kernel
theorem m_isSetN {k : Nat} {u : Int32} (hk : k < 5) : f_X9_isSetting N (nI k) u = (f_X9_in N u (nI (lvN k)) (nI (gvN k))).bind (fun r => some (r &&& 1)) := by
  unfold f_X9_isSetting
  obtain rfl | rfl | rfl | rfl | rfl : k = 0 ∨ k = 1 ∨ k = 2 ∨ k = 3 ∨ k = 4 := by omega
  · rw [if_pos (by decide)]; rfl
  · rw [if_neg (by decide), if_pos (by decide)]; rfl
  · rw [if_neg (by decide), if_neg (by decide), if_pos (by decide)]; rfl
  · rw [if_neg (by decide), if_neg (by decide), if_neg (by decide), if_pos (by decide)]; rfl
  · rw [if_neg (by decide), if_neg (by decide), if_neg (by decide), if_neg (by decide), if_pos (by decide)]; rfl
theorem J_set (hR : RD C M a) (hH : HsC C M h p bs) (hT : TxC C M t c) (v u : Int32) (hN : 3000 ≤ N) : ∃ r C' M', f_X8_set N C v u = some (r, C') ∧ f_X9_set N M v u = some (r, M') ∧ Rl C' M' := by
  have hR0 := hR
  obtain ⟨hw, hM, hS, hD⟩ := hR
  unfold f_X8_set f_X9_set
  rcases sg v with hv | ⟨k, hk, rfl⟩
  · refine ⟨-11, C, M, ?_, ?_, a, h, p, bs, t, c, hR0, hH, hT⟩
    · rw [if_pos hv]
    · have e : f_X9_isSetting N v u = some (nI 0) := by
        unfold f_X9_isSetting
        simp (disch := omega) only [i_0, i_1, i_2, i_3, i_4, ngE hv, ↓reduceIte, q_and0]
      rw [e, ob, i_0, if_pos rfl]
  · rw [if_neg (nI_pos hk), i_5]
    by_cases k5 : k < 5
    · obtain ⟨t1, t2, t3, t4⟩ := tbs k k5
      rw [if_pos ((nI_ltI hk (by decide)).mpr k5), m_isSetN k5]
      simp (disch := omega) only [q_gIn, q_cl, t1, t2]
      rcases sg u with hu | ⟨y, hy, rfl⟩
      · refine ⟨-11, C, M, ?_, ?_, a, h, p, bs, t, c, hR0, hH, hT⟩
        · simp (disch := omega) only [ngLt hu, ↓reduceIte]
        · rw [m_inG hu t3, ob, ob, i_0, i_1, q_and0, if_pos rfl]
      · rw [m_inN hy t3 t4, ob]
        by_cases hy2 : lvN k ≤ y ∧ y ≤ gvN k
        · obtain ⟨C2, M2, h', p', bs', e2, e3, hH2, kc, km⟩ := J_keep (N := N) hH hw hM hS hN
          have hS2 : StC C2 4 a := hS.cg (fun j _ _ => kc j (by omega))
          have hM2 : SM M2 a := fun i hi => by rw [km.1 1 (by decide) (by decide)]; exact hM i hi
          have hT2 : TxC C2 M2 t c := (hT.cgM (km.1 3 (by decide) (by decide)) (km.2 4 (by decide))).cgC (by rw [kc 1 (by decide)]) (kc 3 (by decide))
          have hM6 : SM (up1 M2 1 (upd (M2 1) (3 + k) (nI y))) (un a (3 + k) y) := hM2.un _ _
          obtain ⟨hw4, hS4⟩ := chgS (C' := up1 C2 23 (upd (C2 23) k (nI y))) (a' := un a (3 + k) y) hw hS2 (fun j h1 h2 => up1_n h2) (fun j hj => by
            rw [up1_n (by decide), un_n (by omega)]
            exact hS2.2.2.2.1 j hj) (fun j hj => by
            rw [up1_s]
            by_cases q : j = k
            · rw [q, pk_us, un_s]
            · rw [pk_un q, un_n (by omega)]
              exact hS2.2.2.2.2 j hj) (by
            obtain ⟨w0, w1, w2, w3, w4, w5, w6, w7, wl, wp, wn, we⟩ := hw
            unfold lvN gvN at hy2
            have hun : ∀ j, un a (3 + k) y j = if j = 3 + k then y else a j := fun _ => rfl
            refine ⟨?_, ?_, ?_, ?_, ?_, fun i hi => by rw [un_n (by omega)]; exact wl i hi⟩
            · rw [hun]
              split
              · have e : k = 0 := by omega
                subst e
                simpa using hy2
              · exact w3
            · rw [hun]
              split
              · have e : k = 1 := by omega
                subst e
                simpa using hy2
              · exact w4
            · rw [hun]
              split
              · have e : k = 2 := by omega
                subst e
                simpa using hy2
              · exact w5
            · rw [hun]
              split
              · have e : k = 3 := by omega
                subst e
                simpa using hy2
              · exact w6
            · rw [hun]
              split
              · have e : k = 4 := by omega
                subst e
                simpa using hy2
              · exact w7) (fun j hj => un_n (by omega))
          have hH4 : HsC (up1 C2 23 (upd (C2 23) k (nI y))) (up1 M2 1 (upd (M2 1) (3 + k) (nI y))) h' p' bs' := hH2.cg (fun j j1 j2 => up1_n (by omega)) (up1_n (by decide)) (by rw [up1_n (by decide)])
          have hT4 : TxC (up1 C2 23 (upd (C2 23) k (nI y))) (up1 M2 1 (upd (M2 1) (3 + k) (nI y))) t c := (hT2.cgM (up1_n (by decide)) (by rw [up1_n (by decide)])).cgC (by rw [up1_n (by decide)]) (up1_n (by decide))
          obtain ⟨C5, e6, x5, hR5⟩ := J_fin (N := N) hw4 hM6 hS4 hH4 hT4 hN
          refine ⟨nI (a (3 + k)), C5, _, ?_, ?_, hR5⟩
          · rw [if_neg (fun q => by have := (nI_ltI hy t3).mp q; omega), if_pos ((nI_leI hy t4).mpr hy2.2), x_at (k := 22) (n := 5) rfl k5 (by decide), ob, e2, ob, x_put (k := 22) (n := 5) rfl k5 (by decide), ob, e6, ob]
            show some (C 23 k, C5) = _
            rw [hS.2.2.2.2 k k5]
          · rw [if_pos hy2, ob, i_1, q_and1, i_0, if_neg (by rw [q_nT]; exact not_false), e3, ob]
            simp (disch := omega) only [i_3, nI_add, q_gIn, q_cl, jn_eq, hM2 _]
        · refine ⟨-11, C, M, ?_, ?_, a, h, p, bs, t, c, hR0, hH, hT⟩
          · by_cases q : y < lvN k
            · rw [if_pos ((nI_ltI hy t3).mpr q)]
            · rw [if_neg (fun q2 => q ((nI_ltI hy t3).mp q2)), if_neg (fun q2 => by have := (nI_leI hy t4).mp q2; omega)]
          · rw [if_neg hy2, ob, i_1, q_and0, i_0, if_pos rfl]
    · refine ⟨-11, C, M, ?_, ?_, a, h, p, bs, t, c, hR0, hH, hT⟩
      · rw [if_neg (fun q => k5 ((nI_ltI hk (by decide)).mp q))]
      · have e : f_X9_isSetting N (nI k) u = some (nI 0) := by
          unfold f_X9_isSetting
          simp (disch := omega) only [i_0, i_1, i_2, i_3, i_4, q_eq, if_neg, q_and0]
        rw [e, ob, i_0, if_pos rfl]
theorem J_undo (hR : RD C M a) (hH : HsC C M h p bs) (hT : TxC C M t c) (hN : 3000 ≤ N) : ∃ r C' M', f_X8_undo N C = some (r, C') ∧ f_X9_undo N M = some (r, M') ∧ Rl C' M' := by
  have hR0 := hR
  have hH0 := hH
  obtain ⟨hw, hM, hS, hD⟩ := hR
  obtain ⟨h4, h1, h2, hp, hi, hs⟩ := hH
  unfold f_X8_undo f_X9_undo f_X2_size
  rw [ob, h1, h2]
  by_cases z : h = 0
  · refine ⟨-12, C, M, ?_, ?_, a, h, p, bs, t, c, hR0, hH0, hT⟩
    · rw [z, i_0, if_pos rfl]
    · rw [z, i_0, if_pos rfl]
  · have hz : ¬ nI h = 0 := fun q => by rw [i_0] at q; exact z ((nI_eq (by omega) (by decide)).mp q)
    rw [if_neg hz, if_neg hz]
    obtain ⟨p1, p2, p3, p4⟩ := hp (h - 1) (by omega)
    obtain ⟨b1, b2, b3⟩ := hs (h - 1) (by omega)
    have hq : ∀ i, i < 4 → 26 ≤ p i ∧ p i ≤ 86 := fun i hi4 => by
      have := (hp i hi4).2.1
      have := (hp i hi4).2.2.1
      unfold Qs at *
      omega
    have hq1 := hq (h - 1) (by omega)
    obtain ⟨C1, e1, g1, x1⟩ := x_stCopy (N := N) b2 b1 p2 (Or.inl rfl) p3 hS.shp
    have hrest : f_X2_restore N C = some (up1 C1 24 (upd (C1 24) 1 (nI (h - 1)))) := by
      unfold f_X2_restore
      rw [x_latest h1 (by omega) h4 p1, ob]
      show gIf (kd (nI (p (h - 1))).toNatClampNeg = 5) _ = _
      rw [q_cl (by omega), gIf_y p2.ln.2.2.2.2.2, e1, ob]
      simp only [jn_eq]
      rw [x1 24 (by decide), h1, i_1, q_sub (by omega)]
    -- the reference's loop
    obtain ⟨M1, n, ⟨m0, m1⟩, e⟩ := lpN (fun n i (x : kS) => lp_X9_undo_22 N (fun C3 => some (C3 0 2, C3)) n (nI i) x) (fun i x => (∀ j, j ≠ 1 → x j = (up1 M 0 (upd (M 0) 2 (nI (h - 1)))) j) ∧ ∀ j, j < i → x 1 j = nI (bs (h - 1) j)) 642 (fun n i x hi2 hI => by
      obtain ⟨c0, c1⟩ := hI
      refine ⟨up1 x 1 (upd (x 1) i (nI (bs (h - 1) i))), ⟨fun j hj => by rw [up1_n hj]; exact c0 j hj, fun j hj => ?_⟩, ?_⟩
      · rw [up1_s]
        by_cases q : j = i
        · subst q
          rw [pk_us]
        · rw [pk_un q]
          exact c1 j (by omega)
      · show lp_X9_undo_22 N _ (n + 1) (nI i) x = lp_X9_undo_22 N _ n (nI (i + 1)) _
        have x0 : x 0 2 = nI (h - 1) := by rw [c0 0 (by decide), up1_s, pk_us]
        have x2 : x 2 (642 * (h - 1) + i) = nI (bs (h - 1) i) := by rw [c0 2 (by decide), up1_n (by decide)]; exact b3 i hi2
        rw [lp_X9_undo_22]
        simp (disch := omega) only [i_642, q_le, if_neg, x0, pk_mul, nI_add, q_gIn, q_cl, x2, ↓jn_eq, i_1]) (N := N) 0 (up1 M 0 (upd (M 0) 2 (nI (h - 1)))) (Nat.zero_le _) (by omega) ⟨fun j _ => rfl, fun j hj => absurd hj (Nat.not_lt_zero j)⟩
    have hM1 : SM M1 (bs (h - 1)) := m1
    have hS1 : StC (up1 C1 24 (upd (C1 24) 1 (nI (h - 1)))) 4 (bs (h - 1)) := g1.cg (fun j _ _ => up1_n (by omega))
    have hx : ∀ j, 25 ≤ j → (up1 C1 24 (upd (C1 24) 1 (nI (h - 1)))) j = C j := fun j hj => by rw [up1_n (by omega), x1 j (by omega)]
    have hH1 : HsC (up1 C1 24 (upd (C1 24) 1 (nI (h - 1)))) M1 (h - 1) p bs := by
      refine ⟨by omega, by rw [up1_s, pk_us], by rw [m0 0 (by decide), up1_s, pk_us], fun i hi4 => ?_, hi, fun j hj => ?_⟩
      · have := hq i hi4
        obtain ⟨q1, q2, q3, q4⟩ := hp i hi4
        exact ⟨by rw [hx 25 (by decide)]; exact q1, q2, q3, q4.cg (hx _ (by omega)) (hx _ (by omega)) (hx _ (by omega))⟩
      · have := hq j (by omega)
        obtain ⟨d1, d2, d3⟩ := hs j (by omega)
        exact ⟨d1, d2.cg (fun k k1 k2 => hx k (by omega)), fun i hi2 => by rw [m0 2 (by decide), up1_n (by decide)]; exact d3 i hi2⟩
    have hT1 : TxC (up1 C1 24 (upd (C1 24) 1 (nI (h - 1)))) M1 t c := (hT.cgM (by rw [m0 3 (by decide), up1_n (by decide)]) (by rw [m0 0 (by decide), up1_s, pk_un (by decide)])).cgC (by rw [up1_n (by decide), x1 1 (by decide)]) (by rw [up1_n (by decide), x1 3 (by decide)])
    obtain ⟨C5, e6, x5, hR5⟩ := J_fin (N := N) b1 hM1 hS1 hH1 hT1 hN
    refine ⟨nI (h - 1), C5, M1, ?_, ?_, hR5⟩
    · rw [hrest, ob, e6, ob, ob, x5 24 (by decide), up1_s, pk_us]
    · simp only [jn_eq]
      rw [i_1, q_sub (by omega), i_0]
      refine e.trans ?_
      show lp_X9_undo_22 N _ (n + 1) (nI 642) M1 = _
      rw [lp_X9_undo_22, if_pos (by decide), m0 0 (by decide), up1_s, pk_us]
end WW1
end
section
/-! ===== all calls ===== -/
section ALL
variable {C M : kS} {N : Nat}
theorem Rl.q {a : kA} {h t : Nat} {p : Nat → Nat} {bs : Nat → kA} {c : Nat → Nat} {M' : kS} (hR : RD C M a) (hH : HsC C M h p bs) (hT : TxC C M t c) (hA : AgM M M') : Rl C M' :=
  ⟨a, h, p, bs, t, c, ⟨hR.1, hA.sm hR.2.1, hR.2.2.1, hR.2.2.2⟩, hH.cg (fun _ _ _ => rfl) hA.2.1 hA.2.2.2.1, hT.cgM hA.2.2.1 hA.2.2.2.2.1⟩
theorem Rl.f {a : kA} {h t : Nat} {p : Nat → Nat} {bs : Nat → kA} {c : Nat → Nat} {C' M' : kS} (hR : RD C M a) (hH : HsC C M h p bs) (hT : TxC C' M' t c) (hC : ∀ j, j ≠ 1 → j ≠ 3 → C' j = C j) (hM : ∀ j, j ≠ 0 → j ≠ 3 → M' j = M j) (hM2 : M' 0 2 = M 0 2) : Rl C' M' := by
  obtain ⟨hw, hS, hSt, hF, hB, hHd, hSh⟩ := hR
  refine ⟨a, h, p, bs, t, c, ⟨hw, fun i hi => by rw [hM 1 (by decide) (by decide)]; exact hS i hi, hSt.cg (fun j _ _ => hC j (by omega) (by omega)), hF.cg (hC 106 (by decide) (by decide)) (hC 108 (by decide) (by decide)) (hC 110 (by decide) (by decide)) (hC 112 (by decide) (by decide)), hB.cg (hC 115 (by decide) (by decide)), hHd.cg (hC 121 (by decide) (by decide)) (hC 123 (by decide) (by decide)), ?_⟩, hH.cg (fun j _ _ => hC j (by omega) (by omega)) (hM 2 (by decide) (by decide)) hM2, hT⟩
  unfold ShC
  rw [hC 119 (by decide) (by decide), hC 125 (by decide) (by decide), hC 127 (by decide) (by decide), hC 129 (by decide) (by decide), hC 131 (by decide) (by decide)]
  exact hSh
theorem Rl.e {a : kA} {h t : Nat} {p : Nat → Nat} {bs : Nat → kA} {c : Nat → Nat} {C' M' : kS} (hR : RD C M a) (hH : HsC C M h p bs) (hT : TxC C M t c) (hA : AgM M M') (hx : Ex118 C C') : Rl C' M' := by
  obtain ⟨hw, hS, hSt, hF, hB, hHd, hSh⟩ := hR
  refine ⟨a, h, p, bs, t, c, ⟨hw, hA.sm hS, hSt.cg2 hx, hF.cg2 hx, hB.cg (hx 115 (by decide)), hHd.cg2 hx, ?_⟩, hH.cg (fun j _ _ => hx j (by omega)) hA.2.1 hA.2.2.2.1, (hT.cgM hA.2.2.1 hA.2.2.2.2.1).cgC (by rw [hx 1 (by decide)]) (hx 3 (by decide))⟩
  unfold ShC
  rw [hx 119 (by decide), hx 125 (by decide), hx 127 (by decide), hx 129 (by decide), hx 131 (by decide)]
  exact hSh
theorem K_count (h : Rl C M) (v : Int32) (hN : 3000 ≤ N) : ∃ r M', f_X8_count N C v = some r ∧ f_X9_count N M v = some (r, M') ∧ Rl C M' := by
  obtain ⟨a, h, p, bs, t, c, hR, hH, hT⟩ := h
  obtain ⟨r, M', e1, e2, hA⟩ := J_count hR (by rw [hH.2.1, hH.2.2.1]) (by rw [hT.2.1, hT.2.2.1]) v hN
  exact ⟨r, M', e1, e2, Rl.q hR hH hT hA⟩
theorem K_word (h : Rl C M) (v i : Int32) (hN : 3000 ≤ N) : ∃ r M', f_X8_word N C v i = some r ∧ f_X9_word N M v i = some (r, M') ∧ Rl C M' := by
  obtain ⟨a, h, p, bs, t, c, hR, hH, hT⟩ := h
  obtain ⟨r, M', e1, e2, hA⟩ := J_word hR v i hN
  exact ⟨r, M', e1, e2, Rl.q hR hH hT hA⟩
theorem K_letter (h : Rl C M) (v i : Int32) (hN : 3000 ≤ N) : ∃ r M', f_X8_letter N C v i = some r ∧ f_X9_letter N M v i = some (r, M') ∧ Rl C M' := by
  obtain ⟨a, h, p, bs, t, c, hR, hH, hT⟩ := h
  obtain ⟨r, M', e1, e2, hA⟩ := J_letter hR v i hN
  exact ⟨r, M', e1, e2, Rl.q hR hH hT hA⟩
theorem K_line (h : Rl C M) (v i : Int32) (hN : 3000 ≤ N) : ∃ r M', f_X8_line N C v i = some r ∧ f_X9_line N M v i = some (r, M') ∧ Rl C M' := by
  obtain ⟨a, h, p, bs, t, c, hR, hH, hT⟩ := h
  obtain ⟨r, M', e1, e2, hA⟩ := J_line hR v i hN
  exact ⟨r, M', e1, e2, Rl.q hR hH hT hA⟩
theorem K_again (h : Rl C M) (v : Int32) (hN : 3000 ≤ N) : ∃ r M', f_X8_widthAgain N C v = some r ∧ f_X9_widthAgain N M v = some (r, M') ∧ Rl C M' := by
  obtain ⟨a, h, p, bs, t, c, hR, hH, hT⟩ := h
  obtain ⟨r, M', e1, e2, hA⟩ := J_again hR v hN
  exact ⟨r, M', e1, e2, Rl.q hR hH hT hA⟩
theorem K_form (h : Rl C M) (v u i : Int32) (hN : 3000 ≤ N) : ∃ r M', f_X8_form N C v u i = some r ∧ f_X9_form N M v u i = some (r, M') ∧ Rl C M' := by
  obtain ⟨a, h, p, bs, t, c, hR, hH, hT⟩ := h
  obtain ⟨r, M', e1, e2, hA⟩ := J_form hR v u i hN
  exact ⟨r, M', e1, e2, Rl.q hR hH hT hA⟩
theorem K_under (h : Rl C M) (v : Int32) (hN : 3000 ≤ N) : ∃ r M', f_X8_under N C v = some r ∧ f_X9_under N M v = some (r, M') ∧ Rl C M' := by
  obtain ⟨a, h, p, bs, t, c, hR, hH, hT⟩ := h
  obtain ⟨r, M', e1, e2, hA⟩ := J_under hR v hN
  exact ⟨r, M', e1, e2, Rl.q hR hH hT hA⟩
theorem K_guess (h : Rl C M) (v u i : Int32) (hN : 3000 ≤ N) : ∃ r M', f_X8_guess N C v u i = some r ∧ f_X9_guess N M v u i = some (r, M') ∧ Rl C M' := by
  obtain ⟨a, h, p, bs, t, c, hR, hH, hT⟩ := h
  obtain ⟨r, M', e1, e2, hA⟩ := J_guess hR v u i hN
  exact ⟨r, M', e1, e2, Rl.q hR hH hT hA⟩
theorem K_same (h : Rl C M) (v i : Int32) (hN : 3000 ≤ N) : ∃ r M', f_X8_same N C v i = some r ∧ f_X9_same N M v i = some (r, M') ∧ Rl C M' := by
  obtain ⟨a, h, p, bs, t, c, hR, hH, hT⟩ := h
  obtain ⟨r, M', e1, e2, hA⟩ := J_same hR v i hN
  exact ⟨r, M', e1, e2, Rl.q hR hH hT hA⟩
theorem K_fault (h : Rl C M) (v : Int32) (hN : 3000 ≤ N) : ∃ r M', f_X8_fault N C v = some r ∧ f_X9_fault N M v = some (r, M') ∧ Rl C M' := by
  obtain ⟨a, h, p, bs, t, c, hR, hH, hT⟩ := h
  obtain ⟨r, M', e1, e2, h0, h5⟩ := J_fault hT v hN
  exact ⟨r, M', e1, e2, Rl.f hR hH (hT.cgM (h0 3 (by decide)) (h5 4 (by decide))) (fun _ _ _ => rfl) (fun j j0 _ => h0 j j0) (h5 2 (by decide))⟩
theorem K_type (h : Rl C M) (v : Int32) : ∃ r C' M', f_X8_type N C v = some (r, C') ∧ f_X9_type N M v = some (r, M') ∧ Rl C' M' := by
  obtain ⟨a, h, p, bs, t, c, hR, hH, hT⟩ := h
  obtain ⟨r, C', M', t', c', e1, e2, hT', x1, x2, x3⟩ := J_type (N := N) hT v
  exact ⟨r, C', M', e1, e2, Rl.f hR hH hT' x1 x2 (x3 2 (by decide))⟩
theorem K_clear (h : Rl C M) : ∃ r C' M', f_X8_clearText N C = some (r, C') ∧ f_X9_clearText N M = some (r, M') ∧ Rl C' M' := by
  obtain ⟨a, h, p, bs, t, c, hR, hH, hT⟩ := h
  obtain ⟨r, C', M', t', c', e1, e2, hT', x1, x2, x3⟩ := J_clear (N := N) hT
  exact ⟨r, C', M', e1, e2, Rl.f hR hH hT' x1 x2 (x3 2 (by decide))⟩
theorem K_page (h : Rl C M) (hN : 3000 ≤ N) : ∃ r C' M', f_X8_page N C = some (r, C') ∧ f_X9_page N M = some (r, M') ∧ Rl C' M' := by
  obtain ⟨a, h, p, bs, t, c, hR, hH, hT⟩ := h
  exact J_page hR hH hT hN
theorem K_name (h : Rl C M) (hN : 3000 ≤ N) : ∃ r C' M', f_X8_name N C = some (r, C') ∧ f_X9_name N M = some (r, M') ∧ Rl C' M' := by
  obtain ⟨a, h, p, bs, t, c, hR, hH, hT⟩ := h
  exact J_name hR hH hT hN
theorem K_ending (h : Rl C M) (hN : 3000 ≤ N) : ∃ r C' M', f_X8_ending N C = some (r, C') ∧ f_X9_ending N M = some (r, M') ∧ Rl C' M' := by
  obtain ⟨a, h, p, bs, t, c, hR, hH, hT⟩ := h
  exact J_ending hR hH hT hN
theorem K_dropName (h : Rl C M) (v : Int32) (hN : 3000 ≤ N) : ∃ r C' M', f_X8_dropName N C v = some (r, C') ∧ f_X9_dropName N M v = some (r, M') ∧ Rl C' M' := by
  obtain ⟨a, h, p, bs, t, c, hR, hH, hT⟩ := h
  exact J_dropName hR hH hT v hN
theorem K_dropEnding (h : Rl C M) (v : Int32) (hN : 3000 ≤ N) : ∃ r C' M', f_X8_dropEnding N C v = some (r, C') ∧ f_X9_dropEnding N M v = some (r, M') ∧ Rl C' M' := by
  obtain ⟨a, h, p, bs, t, c, hR, hH, hT⟩ := h
  exact J_dropEnding hR hH hT v hN
theorem K_widen (h : Rl C M) (v u : Int32) (hN : 3000 ≤ N) : ∃ r C' M', f_X8_widen N C v u = some (r, C') ∧ f_X9_widen N M v u = some (r, M') ∧ Rl C' M' := by
  obtain ⟨a, h, p, bs, t, c, hR, hH, hT⟩ := h
  exact J_widen hR hH hT v u hN
theorem K_set (h : Rl C M) (v u : Int32) (hN : 3000 ≤ N) : ∃ r C' M', f_X8_set N C v u = some (r, C') ∧ f_X9_set N M v u = some (r, M') ∧ Rl C' M' := by
  obtain ⟨a, h, p, bs, t, c, hR, hH, hT⟩ := h
  exact J_set hR hH hT v u hN
theorem K_undo (h : Rl C M) (hN : 3000 ≤ N) : ∃ r C' M', f_X8_undo N C = some (r, C') ∧ f_X9_undo N M = some (r, M') ∧ Rl C' M' := by
  obtain ⟨a, h, p, bs, t, c, hR, hH, hT⟩ := h
  exact J_undo hR hH hT hN
theorem K_stepFor (h : Rl C M) (v : Int32) (hN : 3000 ≤ N) : ∃ r C' M', f_X8_stepFor N C v = some (r, C') ∧ f_X9_stepFor N M v = some (r, M') ∧ Rl C' M' := by
  obtain ⟨a, h, p, bs, t, c, hR, hH, hT⟩ := h
  obtain ⟨r, C', M', e1, e2, hA, hx⟩ := J_stepFor hR v hN
  exact ⟨r, C', M', e1, e2, Rl.e hR hH hT hA hx⟩
theorem K_modeFor (h : Rl C M) (hN : 3000 ≤ N) : ∃ r C' M', f_X8_modeFor N C = some (r, C') ∧ f_X9_modeFor N M = some (r, M') ∧ Rl C' M' := by
  obtain ⟨a, h, p, bs, t, c, hR, hH, hT⟩ := h
  obtain ⟨r, C', M', e1, e2, hA, hx⟩ := J_modeFor hR hN
  exact ⟨r, C', M', e1, e2, Rl.e hR hH hT hA hx⟩
end ALL
end
section
/-! ===== the law's words: numbers to base 32 ===== -/
theorem lz_0 : (0 : Int64) = lN 0 := by decide
theorem lz_31 : (31 : Int64) = lN 31 := by decide
theorem lz_cnt : ∀ k, k < 60 → ((nI k).toInt64 &&& 63) = lN k := by decide +kernel
theorem lz_sm : ∀ k, k < 60 → (((nI k).toInt64 &&& 63).toBitVec.smod 64).toNat = k := by decide +kernel
theorem lz_smB : ∀ k, k < 60 → (lN k).toBitVec.smod 64 = BitVec.ofNat 64 k := by decide +kernel
theorem lz_or (a b : Nat) : lN a ||| lN b = lN (a ||| b) := by
  apply Int64.toBitVec_inj.1
  show BitVec.ofNat 64 a ||| BitVec.ofNat 64 b = BitVec.ofNat 64 (a ||| b)
  apply BitVec.eq_of_getLsbD_eq
  intro i hi
  simp [hi]
theorem lz_and (a b : Nat) : lN a &&& lN b = lN (a &&& b) := by
  apply Int64.toBitVec_inj.1
  show BitVec.ofNat 64 a &&& BitVec.ofNat 64 b = BitVec.ofNat 64 (a &&& b)
  apply BitVec.eq_of_getLsbD_eq
  intro i hi
  simp [hi]
theorem lz_m31 (a : Nat) : lN a &&& (31 : Int64) = lN (a % 32) := by
  rw [lz_31, lz_and, show (31 : Nat) = 2 ^ 5 - 1 from rfl, Nat.and_two_pow_sub_one_eq_mod]
theorem lz_shr {a k : Nat} (ha : a < 2147483648) (hk : k < 60) : lN a >>> ((nI k).toInt64 &&& 63) = lN (a / 2 ^ k) := by
  have hd : a / 2 ^ k ≤ a := Nat.div_le_self _ _
  apply Int64.toInt_inj.mp
  have e : (lN a >>> ((nI k).toInt64 &&& 63)).toInt = (lN a).toInt >>> k := by
    have h1 := lz_sm k hk
    generalize ((nI k).toInt64 &&& 63) = D at h1
    rw [← h1]
    exact BitVec.toInt_sshiftRight ..
  rw [e, Int.shiftRight_eq_div_pow, lN_toInt (by omega), lN_toInt (by omega)]
  rfl
theorem lz_shl (a : Nat) {k : Nat} (hk : k < 60) : lN a <<< ((nI k).toInt64 &&& 63) = lN (a * 2 ^ k) := by
  rw [lz_cnt k hk]
  apply Int64.toBitVec_inj.1
  rw [Int64.toBitVec_shiftLeft, lz_smB k hk]
  show BitVec.ofNat 64 a <<< BitVec.ofNat 64 k = BitVec.ofNat 64 (a * 2 ^ k)
  apply BitVec.eq_of_toNat_eq
  rw [BitVec.shiftLeft_eq', BitVec.toNat_shiftLeft, BitVec.toNat_ofNat, BitVec.toNat_ofNat, BitVec.toNat_ofNat, Nat.mod_eq_of_lt (show k < 2 ^ 64 by omega), Nat.shiftLeft_eq, Nat.mul_mod, Nat.mod_mod, ← Nat.mul_mod]
theorem p32 (k : Nat) : (2 : Nat) ^ (5 * k) = 32 ^ k := by rw [Nat.pow_mul]
/-- the number of the first letters of a word -/
def enc (c : Nat → Nat) : Nat → Nat
  | 0 => 0
  | i + 1 => enc c i * 32 + (c i + 1)
theorem enc_lt {c : Nat → Nat} : ∀ {n : Nat}, (∀ i, i < n → c i < 26) → enc c n < 32 ^ n
  | 0, _ => by rw [enc]; decide
  | n + 1, h => by
    have ih := enc_lt (c := c) (n := n) (fun i hi => h i (by omega))
    have h1 := h n (by omega)
    rw [enc, Nat.pow_succ]
    omega
theorem enc_div {c : Nat → Nat} : ∀ {n j : Nat}, (∀ i, i < n → c i < 26) → j ≤ n → enc c n / 32 ^ j = enc c (n - j)
  | n, 0, _, _ => by rw [Nat.pow_zero, Nat.div_one, Nat.sub_zero]
  | 0, j + 1, _, hj => absurd hj (Nat.not_succ_le_zero j)
  | n + 1, j + 1, h, hj => by
    have h1 := h n (by omega)
    rw [Nat.pow_succ', ← Nat.div_div_eq_div_mul, enc, show (enc c n * 32 + (c n + 1)) / 32 = enc c n by omega, enc_div (fun i hi => h i (by omega)) (by omega), Nat.add_sub_add_right]
theorem enc_pos {c : Nat → Nat} {n : Nat} (h : 0 < n) : 0 < enc c n := by
  obtain ⟨m, rfl⟩ : ∃ m, n = m + 1 := ⟨n - 1, by omega⟩
  rw [enc]
  omega
theorem enc_digit {c : Nat → Nat} {n k : Nat} (h : ∀ i, i < n → c i < 26) (hk : k < n) : enc c n / 32 ^ (n - 1 - k) % 32 = c k + 1 := by
  rw [enc_div h (by omega), show n - (n - 1 - k) = k + 1 by omega, enc]
  have := h k hk
  omega
theorem enc_inj {c d : Nat → Nat} : ∀ {n m : Nat}, (∀ i, i < n → c i < 26) → (∀ i, i < m → d i < 26) → enc c n = enc d m → n = m ∧ ∀ i, i < n → c i = d i
  | 0, 0, _, _, _ => ⟨rfl, fun i hi => absurd hi (Nat.not_lt_zero i)⟩
  | 0, m + 1, _, _, e => by rw [enc, enc] at e; omega
  | n + 1, 0, _, _, e => by rw [enc, enc] at e; omega
  | n + 1, m + 1, hc, hd, e => by
    have h1 := hc n (by omega)
    have h2 := hd m (by omega)
    rw [enc, enc] at e
    obtain ⟨e1, e2⟩ := enc_inj (c := c) (d := d) (n := n) (m := m) (fun i hi => hc i (by omega)) (fun i hi => hd i (by omega)) (by omega)
    refine ⟨by omega, fun i hi => ?_⟩
    rcases Nat.lt_or_ge i n with q | q
    · exact e2 i q
    · have z : i = n := by omega
      subst z
      subst e1
      omega
theorem enc_congr {c d : Nat → Nat} : ∀ {n : Nat}, (∀ i, i < n → c i = d i) → enc c n = enc d n
  | 0, _ => rfl
  | n + 1, h => by rw [enc, enc, enc_congr (fun i hi => h i (by omega)), h n (by omega)]
theorem enc_app {c d : Nat → Nat} {n : Nat} : ∀ {m : Nat}, enc (fun k => if k < n then c k else d (k - n)) (n + m) = enc c n * 32 ^ m + enc d m
  | 0 => by
    rw [Nat.add_zero, Nat.pow_zero, enc, Nat.mul_one, Nat.add_zero]
    exact enc_congr (fun i hi => if_pos hi)
  | m + 1 => by
    rw [← Nat.add_assoc, enc, enc_app, if_neg (by omega), Nat.add_sub_cancel_left, enc, Nat.pow_succ, Nat.add_mul, Nat.mul_assoc]
    omega
theorem enc_small {c : Nat → Nat} {n : Nat} (h : ∀ i, i < n → c i < 26) (hn : n ≤ 5) : enc c n < 33554432 := by
  refine Nat.lt_of_lt_of_le (enc_lt h) ?_
  exact Nat.pow_le_pow_right (n := 32) (by decide) hn
theorem lg_le0 {a b : Nat} (ha : a < 2147483648) (hb : b < 2147483648) : (lg_cmp (lN a) (lN b) ≤ (0 : Int32)) = (a ≤ b) := propext ((lg_cmp_le _ _).trans (lN_le ha hb))
theorem lg_eq0 {a b : Nat} (ha : a < 2147483648) (hb : b < 2147483648) : (lg_cmp (lN a) (lN b) = (0 : Int32)) = (a = b) := propext ((lg_cmp_eq _ _).trans (lN_eq ha hb))
/-! the length of a number -/
theorem f_len {v k N : Nat} (hv : v < 2147483648) (hk : k ≤ 10) (h0 : v / 32 ^ k = 0) (h1 : ∀ j, j < k → 0 < v / 32 ^ j) (hN : 3000 ≤ N) : f_L_length N (lN v) = some (nI k) := by
  have hd : ∀ j : Nat, v / 32 ^ j < 2147483648 := fun j => Nat.lt_of_le_of_lt (Nat.div_le_self _ _) hv
  unfold f_L_length
  simp only [jn, i_0]
  obtain ⟨n, e⟩ := lpF (fun n i (x : Int32) => lp_L_length_2 N (lN v) (fun x1 => some x1) n x) (fun i => nI i) k (fun n i hi => by
    have h2 := h1 i hi
    have h3 := hd i
    show lp_L_length_2 N (lN v) (fun x1 => some x1) (n + 1) (nI i) = lp_L_length_2 N (lN v) (fun x1 => some x1) n (nI (i + 1))
    rw [lp_L_length_2, i_5, pk_mul, lz_shr hv (by omega), p32, lz_0]
    simp only [lg_le0 h3 (show (0 : Nat) < 2147483648 by decide), Nat.not_le.mpr h2, ↓reduceIte, i_1, nI_add]) (N := N) 0 (Nat.zero_le _) (by omega)
  refine e.trans ?_
  show lp_L_length_2 N (lN v) (fun x1 => some x1) (n + 1) (nI k) = _
  rw [lp_L_length_2, i_5, pk_mul, lz_shr hv (by omega), p32, lz_0, h0, if_pos (by decide)]
theorem f_lenE {c : Nat → Nat} {n N : Nat} (h : ∀ i, i < n → c i < 26) (hn : n ≤ 5) (hN : 3000 ≤ N) : f_L_length N (lN (enc c n)) = some (nI n) := by
  have h1 := enc_small h hn
  refine f_len (by omega) (by omega) (Nat.div_eq_of_lt (enc_lt h)) (fun j hj => ?_) hN
  rw [enc_div h (by omega)]
  exact enc_pos (by omega)
/-- a word's width: the sum over its letters -/
def wS (x : Nat → Nat) (c : Nat → Nat) : Nat → Nat
  | 0 => 0
  | i + 1 => wS x c i + x (c i)
theorem wS_congr {x c d : Nat → Nat} : ∀ {n : Nat}, (∀ i, i < n → c i = d i) → wS x c n = wS x d n
  | 0, _ => rfl
  | n + 1, h => by rw [wS, wS, wS_congr (fun i hi => h i (by omega)), h n (by omega)]
theorem wS_app {x c d : Nat → Nat} {n : Nat} : ∀ {m : Nat}, wS x (fun k => if k < n then c k else d (k - n)) (n + m) = wS x c n + wS x d m
  | 0 => by
    rw [Nat.add_zero, wS, Nat.add_zero]
    exact wS_congr (fun i hi => if_pos hi)
  | m + 1 => by
    rw [← Nat.add_assoc, wS, wS_app, if_neg (by omega), Nat.add_sub_cancel_left, wS]
    omega
theorem f_wid {L : kS} {x c : Nat → Nat} {n N : Nat} (hx : ∀ k, k < 26 → L 1 k = nI (x k)) (h : ∀ i, i < n → c i < 26) (hn : n ≤ 5) (hN : 3000 ≤ N) : f_L_width N L (lN (enc c n)) = some (nI (wS x c n)) := by
  have hs := enc_small h hn
  unfold f_L_width
  rw [f_lenE h hn hN, ob]
  simp only [jn, i_0]
  obtain ⟨m, e⟩ := lpF (fun m i (y : Int32 × Int32) => lp_L_width_10 N L (lN (enc c n)) (fun x3 => some x3) m y.1 y.2) (fun i => (nI (wS x c i), nI (n - i) - 1)) n (fun m i hi => by
    have h1 := h i hi
    have hd : enc c n / 32 ^ (n - 1 - i) < 2147483648 := Nat.lt_of_le_of_lt (Nat.div_le_self _ _) (by omega)
    show lp_L_width_10 N L (lN (enc c n)) (fun x3 => some x3) (m + 1) (nI (wS x c i)) (nI (n - i) - 1) = lp_L_width_10 N L (lN (enc c n)) (fun x3 => some x3) m (nI (wS x c (i + 1))) (nI (n - (i + 1)) - 1)
    rw [lp_L_width_10, i_1, q_sub (by omega), if_neg (nI_pos (by omega)), i_5, pk_mul, show n - i - 1 = n - 1 - i by omega, lz_shr (by omega) (by omega), p32, lz_m31, enc_digit h hi, lN_i, q_sub (by omega), Nat.add_sub_cancel, q_gIn (by omega) (by decide), q_cl (by omega), hx _ h1, nI_add]
    have e2 : nI (n - 1 - i) + (-nI 1 : Int32) = nI (n - (i + 1)) - nI 1 := by
      rw [show n - (i + 1) = n - 1 - i by omega, Int32.sub_eq_add_neg]
    rw [e2]
    rfl) (N := N) 0 (Nat.zero_le _) (by omega)
  refine e.trans ?_
  show lp_L_width_10 N L (lN (enc c n)) (fun x3 => some x3) (m + 1) (nI (wS x c n)) (nI (n - n) - 1) = _
  rw [lp_L_width_10, Nat.sub_self, if_pos (by decide)]
end
section
/-! ===== the law's cells and the abstract state ===== -/
def lc (a : kA) (p : Nat) : Nat → Nat := fun i => a (p + 1 + i)
def lx (a : kA) : Nat → Nat := fun k => a (8 + k)
def LB (a : kA) : Prop := a 0 ≤ 8 ∧ a 1 ≤ 4 ∧ a 2 ≤ 2 ∧ (∀ w, w < a 0 → a (34 + 13 * w) ≤ 5) ∧ (∀ n, n < a 1 → a (554 + 9 * n) ≤ 3) ∧ ∀ e, e < a 2 → a (626 + 4 * e) ≤ 2
def LR (L : kS) (a : kA) : Prop := ((L 0 0 = nI (a 3) ∧ L 0 1 = nI (a 4) ∧ L 0 2 = nI (a 5) ∧ L 0 3 = nI (a 6) ∧ L 0 4 = nI (a 7)) ∧ L 0 5 = nI (a 0) ∧ L 0 6 = nI (a 1) ∧ L 0 7 = nI (a 2)) ∧ (∀ k, k < 26 → L 1 k = nI (a (8 + k))) ∧ (∀ w, w < a 0 → L 2 w = nI (enc (lc a (34 + 13 * w)) (a (34 + 13 * w)))) ∧ (∀ n, n < a 1 → L 2 (8 + n) = nI (enc (lc a (554 + 9 * n)) (a (554 + 9 * n)))) ∧ ∀ e, e < a 2 → L 2 (12 + e) = nI (enc (lc a (626 + 4 * e)) (a (626 + 4 * e)))
theorem sW_wS (a : kA) (p : Nat) : ∀ i, sW a p i = wS (lx a) (lc a p) i
  | 0 => rfl
  | i + 1 => by rw [sW, wS, sW_wS a p i]; rfl
theorem LR.cg {L L' : kS} {a : kA} (h : LR L a) (h0 : L' 0 = L 0) (h1 : L' 1 = L 1) (h2 : L' 2 = L 2) : LR L' a := by
  unfold LR
  rw [h0, h1, h2]
  exact h
/-- a form's number, as the law counts (three places a name), is there -/
def vl (a : kA) (f : Nat) : Bool := decide (f / 3 < a 1 ∧ f % 3 ≤ a 2)
/-- .. and its number without the empty places -/
def ph (a : kA) (f : Nat) : Nat := f / 3 * (a 2 + 1) + f % 3
def fv (a : kA) (f : Nat) : Nat := if vl a f = true then enc (fc a (ph a f)) (fl a (ph a f)) else 0
theorem ph_div {a : kA} {f : Nat} (h : vl a f = true) : ph a f / (a 2 + 1) = f / 3 ∧ ph a f % (a 2 + 1) = f % 3 := by
  have h1 := of_decide_eq_true h
  unfold ph
  rw [Nat.mul_comm (f / 3), Nat.mul_add_div (Nat.succ_pos _), Nat.mul_add_mod, Nat.div_eq_of_lt (show f % 3 < a 2 + 1 by omega), Nat.mod_eq_of_lt (show f % 3 < a 2 + 1 by omega)]
  exact ⟨Nat.add_zero _, rfl⟩
theorem ph_lt {a : kA} {f : Nat} (h : vl a f = true) : ph a f < sF a := by
  have h1 := of_decide_eq_true h
  have h2 := ph_div h
  unfold sF
  exact (Nat.div_lt_iff_lt_mul (Nat.succ_pos _)).mp (by rw [h2.1]; exact h1.1)
section FF
variable {L : kS} {a : kA} {N : Nat}
theorem nm_ok (hw : WF a) {n : Nat} (h : n < a 1) : ∀ i, i < a (554 + 9 * n) → lc a (554 + 9 * n) i < 26 := fun i hi => (hw.2.2.2.2.2.2.2.2.2.2.1 n h).2 i hi
theorem ed_ok (hw : WF a) {e : Nat} (h : e < a 2) : ∀ i, i < a (626 + 4 * e) → lc a (626 + 4 * e) i < 26 := fun i hi => (hw.2.2.2.2.2.2.2.2.2.2.2 e h).2 i hi
theorem pg_ok (hw : WF a) {w : Nat} (h : w < a 0) : ∀ i, i < a (34 + 13 * w) → lc a (34 + 13 * w) i < 26 := fun i hi => (hw.2.2.2.2.2.2.2.2.2.1 w h).2 i hi
/-- a form's letters -/
theorem fc_eq {f : Nat} (h : vl a f = true) : fl a (ph a f) = a (554 + 9 * (f / 3)) + (if f % 3 = 0 then 0 else a (626 + 4 * (f % 3 - 1))) ∧ fc a (ph a f) = fun k => if k < a (554 + 9 * (f / 3)) then lc a (554 + 9 * (f / 3)) k else lc a (626 + 4 * (f % 3 - 1)) (k - a (554 + 9 * (f / 3))) := by
  obtain ⟨h1, h2⟩ := ph_div h
  refine ⟨?_, ?_⟩
  · unfold fl fnA feA
    rw [h1, h2]
  · funext k
    unfold fc fnA feA
    rw [h1, h2]
    rfl
theorem fc_ok (hw : WF a) {f : Nat} (h : vl a f = true) : ∀ i, i < fl a (ph a f) → fc a (ph a f) i < 26 := by
  obtain ⟨h1, h2⟩ := fc_eq h
  have h3 := of_decide_eq_true h
  intro i hi
  rw [h1] at hi
  rw [h2]
  show (if i < a (554 + 9 * (f / 3)) then lc a (554 + 9 * (f / 3)) i else lc a (626 + 4 * (f % 3 - 1)) (i - a (554 + 9 * (f / 3)))) < 26
  by_cases z : i < a (554 + 9 * (f / 3))
  · rw [if_pos z]
    exact nm_ok hw h3.1 i z
  · rw [if_neg z]
    by_cases y : f % 3 = 0
    · rw [if_pos y] at hi
      omega
    · rw [if_neg y] at hi
      exact ed_ok hw (e := f % 3 - 1) (by omega) _ (by omega)
theorem fl_le (hb : LB a) {f : Nat} (h : vl a f = true) : fl a (ph a f) ≤ 5 := by
  have h3 := of_decide_eq_true h
  have h4 := hb.2.2.2.2.1 (f / 3) h3.1
  rw [(fc_eq h).1]
  by_cases y : f % 3 = 0
  · rw [if_pos y]
    omega
  · rw [if_neg y]
    have := hb.2.2.2.2.2 (f % 3 - 1) (by omega)
    omega
theorem fl_pos (hw : WF a) {f : Nat} (h : vl a f = true) : 0 < fl a (ph a f) := by
  have h3 := of_decide_eq_true h
  have h4 := (hw.2.2.2.2.2.2.2.2.2.2.1 (f / 3) h3.1).1
  rw [(fc_eq h).1]
  omega
theorem fv_lt (hw : WF a) (hb : LB a) (f : Nat) : fv a f < 33554432 := by
  unfold fv
  cases z : vl a f with
  | true =>
    rw [if_pos rfl]
    exact enc_small (fc_ok hw z) (fl_le hb z)
  | false =>
    rw [if_neg (by decide)]
    decide
theorem fv_pos (hw : WF a) (f : Nat) : (0 < fv a f) = (vl a f = true) := by
  unfold fv
  cases z : vl a f with
  | true => simp only [↓reduceIte, eq_iff_iff, iff_true]; exact enc_pos (fl_pos hw z)
  | false => simp
theorem f_form (hw : WF a) (hb : LB a) (hL : LR L a) {f : Nat} (hf : f < 12) (hN : 3000 ≤ N) : f_L_form N L (nI f) = some (lN (fv a f)) := by
  obtain ⟨⟨-, l5, l6, l7⟩, lx1, lw, ln1, le1⟩ := hL
  have b1 := hb.2.1
  have b2 := hb.2.2.1
  unfold f_L_form fv vl
  rw [i_3, q_nz (by decide) (by decide), q_nz (by decide) (by decide), q_rem (by omega) (by decide) (by decide), q_div (by omega) (by decide) (by decide), i_6, i_7, q_gIn (by decide) (by decide), q_gIn (by decide) (by decide), q_cl (by decide), q_cl (by decide), l6, l7]
  simp only [q_le (show a 1 < 2147483648 by omega) (show f / 3 < 2147483648 by omega)]
  by_cases z : f / 3 < a 1
  · have hn := ln1 _ z
    have hnm := nm_ok hw z
    have hnl := hb.2.2.2.2.1 _ z
    rw [if_neg (by omega), i_8, nI_add, q_gIn (by omega) (by decide), q_nz (by decide) (by decide), q_cl (by omega), hn, nI_l (Nat.lt_trans (enc_small hnm (by omega)) (by decide))]
    have hr : f % 3 = 0 ∨ f % 3 = 1 ∨ f % 3 = 2 := by omega
    by_cases y : f % 3 = 0
    · have hv : (decide (f / 3 < a 1 ∧ f % 3 ≤ a 2)) = true := decide_eq_true ⟨z, by omega⟩
      have hc := fc_eq (a := a) (f := f) hv
      have m1 : (nI 0 - (1 : Int32) < nI (a 2)) = True := by
        rcases (show a 2 = 0 ∨ a 2 = 1 ∨ a 2 = 2 by omega) with e | e | e <;> rw [e] <;> decide
      have m2 : ((0 : Int32) ≤ nI 0 - 1) = False := by decide
      rw [hv, y]
      simp only [m1, m2, ↓reduceIte, jn]
      rw [hc.1, hc.2, y, if_pos rfl, Nat.add_zero]
      exact congrArg (fun v => some (lN v)) (enc_congr (fun i hi => (if_pos hi).symm))
    · rw [i_1, q_sub (by omega)]
      simp only [q_lt (show f % 3 - 1 < 2147483648 by omega) (show a 2 < 2147483648 by omega)]
      by_cases x : f % 3 ≤ a 2
      · have hv : (decide (f / 3 < a 1 ∧ f % 3 ≤ a 2)) = true := decide_eq_true ⟨z, x⟩
        have hc := fc_eq (a := a) (f := f) hv
        have he := le1 (f % 3 - 1) (by omega)
        have hem := ed_ok hw (e := f % 3 - 1) (by omega)
        have hel := hb.2.2.2.2.2 (f % 3 - 1) (by omega)
        have hs := Nat.lt_trans (enc_small hem (by omega)) (show 33554432 < 2 ^ 31 by decide)
        have hi : ((0 : Int32) ≤ nI (f % 3 - 1)) = True := q_nn (by omega)
        rw [hv, if_pos (by omega)]
        simp only [hi, ↓reduceIte, jn]
        rw [show (12 : Int32) = nI 12 by decide, nI_add, q_gIn (by omega) (by decide), q_cl (by omega), he, nI_l hs, f_lenE hem (by omega) hN, ob, q_gIn (by omega) (by decide), i_5, pk_mul, lz_shl _ (by omega), p32, lz_or]
        rw [hc.1, hc.2, if_neg y, enc_app]
        have h2 := enc_lt hem
        rw [Nat.mul_comm, ← p32 (a (626 + 4 * (f % 3 - 1))), ← Nat.two_pow_add_eq_or_of_lt (by rw [p32]; exact h2)]
      · have hv : (decide (f / 3 < a 1 ∧ f % 3 ≤ a 2)) = false := decide_eq_false (fun q => x q.2)
        rw [hv, if_neg (by omega), if_neg (by decide), lz_0]
  · have hv : (decide (f / 3 < a 1 ∧ f % 3 ≤ a 2)) = false := decide_eq_false (fun q => z q.1)
    rw [hv, if_pos (by omega), if_neg (by decide), lz_0]
end FF
end
section
/-! ===== the two ways to number forms ===== -/
def ul (a : kA) (g : Nat) : Nat := 3 * (g / (a 2 + 1)) + g % (a 2 + 1)
section OO
variable {L : kS} {a : kA} {N : Nat}
theorem sF_12 (hb : LB a) : sF a ≤ 12 := by
  have h1 := hb.2.1
  have h2 := hb.2.2.1
  unfold sF
  exact Nat.le_trans (Nat.mul_le_mul h1 (Nat.succ_le_succ h2)) (by decide)
theorem ul_ok (hb : LB a) {g : Nat} (hg : g < sF a) : vl a (ul a g) = true ∧ ph a (ul a g) = g ∧ ul a g < 12 ∧ ul a g / 3 = g / (a 2 + 1) ∧ ul a g % 3 = g % (a 2 + 1) := by
  have h1 := hb.2.1
  have h2 := hb.2.2.1
  have h3 : g / (a 2 + 1) < a 1 := (Nat.div_lt_iff_lt_mul (Nat.succ_pos _)).mpr hg
  have h4 : g % (a 2 + 1) < a 2 + 1 := Nat.mod_lt _ (Nat.succ_pos _)
  have h5 : ul a g / 3 = g / (a 2 + 1) := by unfold ul; omega
  have h6 : ul a g % 3 = g % (a 2 + 1) := by unfold ul; omega
  refine ⟨decide_eq_true ⟨by rw [h5]; exact h3, by rw [h6]; omega⟩, ?_, by unfold ul; omega, h5, h6⟩
  unfold ph
  rw [h5, h6, Nat.mul_comm]
  exact Nat.div_add_mod _ _
theorem ph_mono {j k : Nat} (hj : vl a j = true) (hjk : j < k) : ph a j < ph a k := by
  have h1 := of_decide_eq_true hj
  unfold ph
  rcases (show j / 3 = k / 3 ∨ j / 3 + 1 ≤ k / 3 by omega) with e | e
  · rw [e]
    omega
  · have h2 := Nat.mul_le_mul_right (a 2 + 1) e
    rw [Nat.succ_mul] at h2
    omega
theorem ph_inj {j k : Nat} (hj : vl a j = true) (hk : vl a k = true) (h : ph a j = ph a k) : j = k := by
  rcases Nat.lt_trichotomy j k with q | q | q
  · have := ph_mono hj q
    omega
  · exact q
  · have := ph_mono hk q
    omega
theorem ul_ph (hb : LB a) {j : Nat} (hj : vl a j = true) : ul a (ph a j) = j := by
  obtain ⟨h1, h2, -⟩ := ul_ok hb (ph_lt hj)
  exact ph_inj h1 hj h2
theorem wS_b {x c : Nat → Nat} : ∀ {n : Nat}, (∀ i, i < n → c i < 26) → (∀ k, k < 26 → 1 ≤ x k ∧ x k ≤ 9) → n ≤ wS x c n ∧ wS x c n ≤ 9 * n
  | 0, _, _ => ⟨Nat.le_refl 0, Nat.le_refl 0⟩
  | n + 1, h, hx => by
    have ih := wS_b (x := x) (c := c) (n := n) (fun i hi => h i (by omega)) hx
    have h1 := hx _ (h n (by omega))
    rw [wS]
    omega
theorem fw_eq (hw : WF a) {f : Nat} (h : vl a f = true) : fw a (ph a f) = wS (lx a) (fc a (ph a f)) (fl a (ph a f)) := by
  obtain ⟨h1, h2⟩ := ph_div h
  obtain ⟨c1, c2⟩ := fc_eq h
  unfold fw wd fnA feA
  rw [c1, c2, h1, h2, sW_wS]
  by_cases y : f % 3 = 0
  · rw [if_pos y, if_pos y, Nat.add_zero, Nat.add_zero]
    exact wS_congr (fun i hi => (if_pos hi).symm)
  · rw [if_neg y, if_neg y, sW_wS, wS_app]
theorem fw_b (hw : WF a) (hb : LB a) {f : Nat} (h : vl a f = true) : 1 ≤ fw a (ph a f) ∧ fw a (ph a f) ≤ 45 := by
  have h1 := wS_b (x := lx a) (fc_ok hw h) (fun k hk => hw.2.2.2.2.2.2.2.2.1 k hk)
  have h2 := fl_le hb h
  have h3 := fl_pos hw h
  rw [fw_eq hw h]
  omega
theorem f_fwid (hw : WF a) (hb : LB a) (hL : LR L a) {f : Nat} (h : vl a f = true) (hN : 3000 ≤ N) : f_L_width N L (lN (fv a f)) = some (nI (fw a (ph a f))) := by
  unfold fv
  rw [if_pos h, fw_eq hw h]
  exact f_wid (x := lx a) (fun k hk => hL.2.1 k hk) (fc_ok hw h) (fl_le hb h) hN
theorem f_wwid (hw : WF a) (hb : LB a) (hL : LR L a) {w : Nat} (h : w < a 0) (hN : 3000 ≤ N) : f_L_width N L ((L 2 w).toInt64) = some (nI (wd a (34 + 13 * w))) := by
  have h1 := pg_ok hw h
  have h2 := hb.2.2.2.1 w h
  rw [hL.2.2.1 w h, nI_l (Nat.lt_trans (enc_small h1 h2) (by decide))]
  unfold wd
  rw [sW_wS]
  exact f_wid (x := lx a) (fun k hk => hL.2.1 k hk) h1 h2 hN
/-- a word is the form f -/
theorem isF_fv (hw : WF a) (hb : LB a) {w f : Nat} (hwd : w < a 0) : (fv a f = enc (lc a (34 + 13 * w)) (a (34 + 13 * w))) ↔ (vl a f = true ∧ isF a w (ph a f) = true) := by
  have hp := pg_ok hw hwd
  have hp1 := (hw.2.2.2.2.2.2.2.2.2.1 w hwd).1.1
  unfold fv
  constructor
  · intro h
    cases z : vl a f with
    | false =>
      rw [z, if_neg (by decide)] at h
      have := enc_pos (c := lc a (34 + 13 * w)) (n := a (34 + 13 * w)) (by omega)
      omega
    | true =>
      rw [z, if_pos rfl] at h
      obtain ⟨e1, e2⟩ := enc_inj (fc_ok hw z) hp h
      refine ⟨rfl, ?_⟩
      unfold isF
      rw [Bool.and_eq_true, allB_iff]
      refine ⟨decide_eq_true e1.symm, fun k hk => decide_eq_true ?_⟩
      exact (e2 k (by omega)).symm
  · rintro ⟨z, h⟩
    rw [if_pos z]
    unfold isF at h
    rw [Bool.and_eq_true, allB_iff] at h
    have e1 : a (34 + 13 * w) = fl a (ph a f) := of_decide_eq_true h.1
    rw [← e1]
    exact enc_congr (fun i hi => (of_decide_eq_true (h.2 i hi)).symm)
/-- the law's number of the form that hides a word, -1 if there is none -/
def fmI (a : kA) (w : Nat) : Int32 := if fo a w < sF a then nI (ul a (fo a w)) else -1
theorem f_formOf (hw : WF a) (hb : LB a) (hL : LR L a) {w : Nat} (hwd : w < a 0) (hN : 3000 ≤ N) : f_L_formOf N L (nI w) = some (fmI a w) := by
  have w8 := hb.1
  have hp := pg_ok hw hwd
  have hpl := hb.2.2.2.1 w hwd
  have hs := enc_small hp hpl
  unfold f_L_formOf
  simp only [jn]
  obtain ⟨⟨x3, x4⟩, n, ⟨h1, h2⟩, e⟩ := lpN (fun n i (y : Int32 × Int32) => lp_L_formOf_6 N L (nI w) (fun x1 => some x1) n y.1 y.2) (fun i y => y.2 = nI (12 - i) - 1 ∧ ((∃ j, 12 - i ≤ j ∧ j < 12 ∧ (vl a j = true ∧ isF a w (ph a j) = true) ∧ (∀ k, 12 - i ≤ k → k < j → ¬ (vl a k = true ∧ isF a w (ph a k) = true)) ∧ y.1 = nI j) ∨ ((∀ j, 12 - i ≤ j → j < 12 → ¬ (vl a j = true ∧ isF a w (ph a j) = true)) ∧ y.1 = -1))) 12 (fun n i y hi hI => by
    obtain ⟨x3, x4⟩ := y
    obtain ⟨h1, h2⟩ := hI
    simp only at h1 h2
    subst h1
    have e0 : nI (12 - i) - 1 = nI (11 - i) := by rw [i_1, q_sub (by omega), show 12 - i - 1 = 11 - i by omega]
    have e1 : nI (11 - i) + (-1 : Int32) = nI (12 - (i + 1)) - 1 := by rw [show 12 - (i + 1) = 11 - i by omega, Int32.sub_eq_add_neg]
    have hcmp : (lg_cmp (lN (fv a (11 - i))) (lN (enc (lc a (34 + 13 * w)) (a (34 + 13 * w)))) = (0 : Int32)) = (vl a (11 - i) = true ∧ isF a w (ph a (11 - i)) = true) := (lg_eq0 (by have := fv_lt hw hb (11 - i); omega) (by omega)).trans (propext (isF_fv hw hb hwd))
    refine ⟨(if (vl a (11 - i) = true ∧ isF a w (ph a (11 - i)) = true) then nI (11 - i) else x3, nI (12 - (i + 1)) - 1), ⟨rfl, ?_⟩, ?_⟩
    · simp only
      by_cases z : vl a (11 - i) = true ∧ isF a w (ph a (11 - i)) = true
      · rw [if_pos z]
        exact Or.inl ⟨11 - i, by omega, by omega, z, fun k k1 k2 => absurd k2 (by omega), rfl⟩
      · rw [if_neg z]
        rcases h2 with ⟨j, j1, j2, j3, j4, j5⟩ | ⟨j1, j2⟩
        · refine Or.inl ⟨j, by omega, j2, j3, fun k k1 k2 => ?_, j5⟩
          by_cases y : k = 11 - i
          · rw [y]; exact z
          · exact j4 k (by omega) k2
        · refine Or.inr ⟨fun j k1 k2 => ?_, j2⟩
          by_cases y : j = 11 - i
          · rw [y]; exact z
          · exact j1 j (by omega) k2
    · show lp_L_formOf_6 N L (nI w) (fun x1 => some x1) (n + 1) x3 (nI (12 - i) - 1) = lp_L_formOf_6 N L (nI w) (fun x1 => some x1) n _ (nI (12 - (i + 1)) - 1)
      rw [lp_L_formOf_6, e0, if_neg (nI_pos (by omega)), f_form hw hb hL (by omega) hN, ob, q_gIn (by omega) (by decide), q_cl (by omega), hL.2.2.1 w hwd, nI_l (by omega)]
      simp only [hcmp, jn, e1]
      split
      · rfl
      · rfl) (N := N) 0 (-1, 11) (Nat.zero_le _) (by omega) ⟨by decide, Or.inr ⟨fun j h1 h2 => absurd h2 (by omega), rfl⟩⟩
  refine e.trans ?_
  simp only at h1 h2
  show lp_L_formOf_6 N L (nI w) (fun x1 => some x1) (n + 1) x3 x4 = _
  rw [lp_L_formOf_6, h1, if_pos (by decide)]
  unfold fmI
  rcases h2 with ⟨j, j1, j2, ⟨j3, j4⟩, j5, j6⟩ | ⟨j1, j2⟩
  · have e1 : fo a w = ph a j := fst_uniq (ph_lt j3) j4 (fun g hg => by
      cases z : isF a w g with
      | false => rfl
      | true =>
        obtain ⟨u1, u2, u3, -⟩ := ul_ok hb (Nat.lt_trans hg (ph_lt j3))
        have hlt : ul a g < j := by
          rcases Nat.lt_or_ge (ul a g) j with q | q
          · exact q
          · rcases Nat.eq_or_lt_of_le q with q | q
            · rw [← q] at u2
              omega
            · have := ph_mono j3 q
              omega
        exact absurd ⟨u1, by rw [u2]; exact z⟩ (j5 (ul a g) (by omega) hlt))
    rw [e1, if_pos (ph_lt j3), ul_ph hb j3, j6]
  · have e1 : fo a w = sF a := fst_none (fun g hg => by
      cases z : isF a w g with
      | false => rfl
      | true =>
        obtain ⟨u1, u2, u3, -⟩ := ul_ok hb hg
        exact absurd ⟨u1, by rw [u2]; exact z⟩ (j1 (ul a g) (by omega) u3))
    rw [e1, if_neg (Nat.lt_irrefl _), j2]
end OO
end
section
/-! ===== the law's bars ===== -/
theorem up_eq {w st : Nat} (h : 0 < st) : (if w % st = 0 then w else w - w % st + st) = (w + st - 1) / st * st := by
  have h1 := Nat.div_add_mod w st
  have h2 := Nat.mod_lt w h
  rw [Nat.mul_comm] at h1
  generalize w / st = q at h1
  generalize w % st = r at h1 h2
  have e : w + st - 1 = st * q + (r + st - 1) := by rw [Nat.mul_comm st q]; omega
  rw [e, Nat.mul_add_div h]
  by_cases z : r = 0
  · subst z
    rw [if_pos rfl, Nat.div_eq_of_lt (by omega), Nat.add_zero]
    omega
  · rw [if_neg z, show r + st - 1 = st * 1 + (r - 1) by omega, Nat.mul_add_div h, Nat.div_eq_of_lt (show r - 1 < st by omega), Nat.add_zero, Nat.succ_mul]
    omega
def pr (a : kA) (v k j : Nat) : Prop := vl a j = true ∧ (fw a (ph a j) < v ∨ (fw a (ph a j) = v ∧ j < k))
def BI (a : kA) (L : kS) (f v k : Nat) (y : Int32 × Int32 × kS) : Prop := ∃ (n pl : Nat) (S : Nat → Nat), y.1 = nI n ∧ y.2.1 = nI pl ∧ (∀ j, j ≠ 3 → y.2.2 j = L j) ∧ n ≤ 12 ∧ pl ≤ 12 ∧ (∀ i, i < n → ∃ j, j < 12 ∧ pr a v k j ∧ S i = ph a j) ∧ (∀ i j, i < j → j < n → lf a (S i) (S j)) ∧ (∀ j, j < 12 → pr a v k j → ∃ i, i < n ∧ S i = ph a j) ∧ (∀ i, i < n → y.2.2 3 i = nI (fw a (S i))) ∧ (pr a v k f → pl < n ∧ S pl = ph a f)
section BB
variable {L : kS} {a : kA} {N f v k : Nat} {y : Int32 × Int32 × kS}
theorem BI.cg {v' k' : Nat} (h : BI a L f v k y) (hf : f < 12) (hp : ∀ j, j < 12 → (pr a v k j ↔ pr a v' k' j)) : BI a L f v' k' y := by
  obtain ⟨n, pl, S, h1, h2, h3, h4, h5, h6, h7, h8, h9, h10⟩ := h
  refine ⟨n, pl, S, h1, h2, h3, h4, h5, fun i hi => ?_, h7, fun j hj hq => h8 j hj ((hp j hj).mpr hq), h9, fun hq => h10 ((hp f hf).mpr hq)⟩
  obtain ⟨j, j1, j2, j3⟩ := h6 i hi
  exact ⟨j, j1, (hp j j1).mp j2, j3⟩
theorem BI.miss (h : BI a L f v k y) (hf : f < 12) (hm : ¬ (vl a k = true ∧ fw a (ph a k) = v)) : BI a L f v (k + 1) y := h.cg hf (fun j hj => by
  unfold pr
  constructor
  · rintro ⟨q1, q2 | ⟨q2, q3⟩⟩
    · exact ⟨q1, Or.inl q2⟩
    · exact ⟨q1, Or.inr ⟨q2, by omega⟩⟩
  · rintro ⟨q1, q2 | ⟨q2, q3⟩⟩
    · exact ⟨q1, Or.inl q2⟩
    · refine ⟨q1, Or.inr ⟨q2, ?_⟩⟩
      rcases Nat.lt_or_ge j k with z | z
      · exact z
      · have e : j = k := by omega
        subst e
        exact absurd ⟨q1, q2⟩ hm)
theorem BI.next (h : BI a L f v 12 y) (hf : f < 12) : BI a L f (v + 1) 0 y := h.cg hf (fun j hj => by
  unfold pr
  constructor
  · rintro ⟨q1, q2 | ⟨q2, q3⟩⟩
    · exact ⟨q1, Or.inl (by omega)⟩
    · exact ⟨q1, Or.inl (by omega)⟩
  · rintro ⟨q1, q2 | ⟨q2, q3⟩⟩
    · refine ⟨q1, ?_⟩
      rcases Nat.lt_or_ge (fw a (ph a j)) v with z | z
      · exact Or.inl z
      · exact Or.inr ⟨by omega, hj⟩
    · exact absurd q3 (Nat.not_lt_zero _))
theorem BI.hit (hb : LB a) (h : BI a L f v k y) (hf : f < 12) (hk : k < 12) (hv : vl a k = true) (hw : fw a (ph a k) = v) : ∃ n pl : Nat, n < 12 ∧ pl ≤ 12 ∧ y.1 = nI n ∧ y.2.1 = nI pl ∧ BI a L f v (k + 1) (nI (n + 1), (if k = f then nI n else nI pl), up1 y.2.2 3 (upd (y.2.2 3) n (nI v))) := by
  obtain ⟨n, pl, S, h1, h2, h3, h4, h5, h6, h7, h8, h9, h10⟩ := h
  have key : ∀ i, i < n → lf a (S i) (ph a k) := fun i hi => by
    obtain ⟨j, j1, ⟨j2, j3⟩, j4⟩ := h6 i hi
    rw [j4]
    unfold lf
    rcases j3 with q | ⟨q, q2⟩
    · exact Or.inl (by omega)
    · exact Or.inr ⟨by omega, ph_mono j2 q2⟩
  have hlt : n + 1 ≤ sF a := fb_holes (sF a) (n + 1) (fun i => if i = n then ph a k else S i) (fun i hi => by
    by_cases z : i = n
    · simp only [z, ↓reduceIte]
      exact ph_lt hv
    · simp only [z, ↓reduceIte]
      obtain ⟨j, j1, ⟨j2, j3⟩, j4⟩ := h6 i (by omega)
      rw [j4]
      exact ph_lt j2) (fun i j hij hj => by
    have zi : ¬ i = n := by omega
    simp only [zi, ↓reduceIte]
    intro e
    by_cases z : j = n
    · simp only [z, ↓reduceIte] at e
      have := key i (by omega)
      rw [e] at this
      exact lf_ir this
    · simp only [z, ↓reduceIte] at e
      have := h7 i j hij (by omega)
      rw [e] at this
      exact lf_ir this)
  have h12 := sF_12 hb
  refine ⟨n, pl, by omega, h5, h1, h2, n + 1, if k = f then n else pl, fun i => if i = n then ph a k else S i, rfl, ?_, fun j hj => ?_, by omega, ?_, fun i hi => ?_, fun i j hij hj => ?_, fun j hj hq => ?_, fun i hi => ?_, fun hq => ?_⟩
  · simp only
    split <;> rfl
  · simp only
    rw [up1_n hj]
    exact h3 j hj
  · split <;> omega
  · by_cases z : i = n
    · simp only [z, ↓reduceIte]
      exact ⟨k, hk, ⟨hv, Or.inr ⟨hw, Nat.lt_succ_self k⟩⟩, rfl⟩
    · simp only [z, ↓reduceIte]
      obtain ⟨j, j1, ⟨j2, j3⟩, j4⟩ := h6 i (by omega)
      exact ⟨j, j1, ⟨j2, j3.imp id (fun q => ⟨q.1, by omega⟩)⟩, j4⟩
  · have zi : ¬ i = n := by omega
    by_cases z : j = n
    · simp only [z, zi, ↓reduceIte]
      exact key i (by omega)
    · simp only [z, zi, ↓reduceIte]
      exact h7 i j hij (by omega)
  · by_cases z : j = k
    · refine ⟨n, Nat.lt_succ_self n, ?_⟩
      simp only [↓reduceIte, z]
    · obtain ⟨q1, q2⟩ := hq
      obtain ⟨i, i1, i2⟩ := h8 j hj ⟨q1, q2.imp id (fun q => ⟨q.1, by omega⟩)⟩
      have zi : ¬ i = n := by omega
      refine ⟨i, by omega, ?_⟩
      simp only [zi, ↓reduceIte]
      exact i2
  · simp only
    rw [up1_s]
    by_cases z : i = n
    · simp only [z, ↓reduceIte]
      rw [pk_us, hw]
    · simp only [z, ↓reduceIte]
      rw [pk_un z]
      exact h9 i (by omega)
  · by_cases z : k = f
    · subst z
      simp only [↓reduceIte]
      exact ⟨Nat.lt_succ_self n, trivial⟩
    · simp only [z, ↓reduceIte]
      obtain ⟨q1, q2⟩ := hq
      obtain ⟨i1, i2⟩ := h10 ⟨q1, q2.imp id (fun q => ⟨q.1, by omega⟩)⟩
      have zi : ¬ pl = n := by omega
      simp only [zi, ↓reduceIte]
      exact ⟨by omega, i2⟩
theorem BI.lr (h : BI a L f v k y) (hL : LR L a) : LR y.2.2 a := by
  obtain ⟨n, pl, S, h1, h2, h3, -⟩ := h
  exact hL.cg (h3 0 (by decide)) (h3 1 (by decide)) (h3 2 (by decide))
/-- one width: twelve forms -/
theorem f_bar77 (hw : WF a) (hb : LB a) (hL : LR L a) (hf : f < 12) (hv : v < 120) (h : BI a L f v 0 y) (kont : Int32 → Int32 → kS → Option Int32) (hN : 3000 ≤ N) : ∃ y', BI a L f (v + 1) 0 y' ∧ lp_L_bar_77 N (nI f) (nI v) kont N y.1 y.2.1 (nI 0) y.2.2 = kont y'.1 y'.2.1 y'.2.2 := by
  obtain ⟨y', m, h', e⟩ := lpN (fun m k (y : Int32 × Int32 × kS) => lp_L_bar_77 N (nI f) (nI v) kont m y.1 y.2.1 (nI k) y.2.2) (fun k y => BI a L f v k y) 12 (fun m k y hk hI => by
    obtain ⟨x1, x2, C⟩ := y
    have hLC : LR C a := hI.lr hL
    have hfv := fv_lt hw hb k
    have hcmp : (lg_cmp (lN (fv a k)) (lN 0) ≤ (0 : Int32)) = ¬ (vl a k = true) := by
      rw [lg_le0 (by omega) (by decide), ← fv_pos hw k]
      exact propext Nat.not_lt.symm
    have hstep : lp_L_bar_77 N (nI f) (nI v) kont (m + 1) x1 x2 (nI k) C = if vl a k = true then (if fw a (ph a k) = v then gIn x1 12 (lp_L_bar_77 N (nI f) (nI v) kont m (x1 + 1) (if k = f then x1 else x2) (nI (k + 1)) (up1 C 3 (upd (C 3) x1.toNatClampNeg (nI v)))) else lp_L_bar_77 N (nI f) (nI v) kont m x1 x2 (nI (k + 1)) C) else lp_L_bar_77 N (nI f) (nI v) kont m x1 x2 (nI (k + 1)) C := by
      rw [lp_L_bar_77, show (12 : Int32) = nI 12 by decide, f_form hw hb hLC hk hN, ob, lz_0]
      simp only [ob, hcmp, q_le (show 12 < 2147483648 by decide) (show k < 2147483648 by omega), Nat.not_le.mpr hk, ↓reduceIte, jn, i_1, nI_add]
      cases z : vl a k with
      | false => simp only [Bool.false_eq_true, not_false_eq_true, ↓reduceIte]
      | true =>
        have b := fw_b hw hb z
        simp only [not_true_eq_false, ↓reduceIte]
        rw [f_fwid hw hb hLC z hN, ob]
        simp only [q_eq (show fw a (ph a k) < 2147483648 by omega) (show v < 2147483648 by omega), q_eq (show k < 2147483648 by omega) (show f < 2147483648 by omega)]
        by_cases e1 : fw a (ph a k) = v
        · simp only [e1, ↓reduceIte]
          by_cases e2 : k = f
          · simp only [e2, ↓reduceIte]
          · simp only [e2, ↓reduceIte]
        · simp only [e1, ↓reduceIte]
    by_cases z : vl a k = true ∧ fw a (ph a k) = v
    · obtain ⟨n, pl, n1, n2, n3, n4, n5⟩ := hI.hit hb hf hk z.1 z.2
      simp only at n3 n4 n5
      refine ⟨_, n5, ?_⟩
      show lp_L_bar_77 N (nI f) (nI v) kont (m + 1) x1 x2 (nI k) C = _
      rw [hstep, if_pos z.1, if_pos z.2, n3, n4, show (12 : Nat) = 12 from rfl, q_gIn (by omega) (by decide), q_cl (by omega), i_1, nI_add]
    · refine ⟨(x1, x2, C), hI.miss hf z, ?_⟩
      show lp_L_bar_77 N (nI f) (nI v) kont (m + 1) x1 x2 (nI k) C = lp_L_bar_77 N (nI f) (nI v) kont m x1 x2 (nI (k + 1)) C
      rw [hstep]
      by_cases z1 : vl a k = true
      · rw [if_pos z1, if_neg (fun q => z ⟨z1, q⟩)]
      · rw [if_neg z1]) (N := N) 0 y (Nat.zero_le _) (by omega) h
  refine ⟨y', h'.next hf, e.trans ?_⟩
  show lp_L_bar_77 N (nI f) (nI v) kont (m + 1) y'.1 y'.2.1 (nI 12) y'.2.2 = _
  rw [lp_L_bar_77, if_pos (by decide)]
theorem f_bar67 (hw : WF a) (hb : LB a) (hL : LR L a) (hf : f < 12) (h : BI a L f 1 0 y) (kont : Int32 → Int32 → kS → Option Int32) (hN : 3000 ≤ N) : ∃ y', BI a L f 120 0 y' ∧ lp_L_bar_67 N (nI f) kont N y.1 y.2.1 1 y.2.2 = kont y'.1 y'.2.1 y'.2.2 := by
  obtain ⟨y', m, h', e⟩ := lpN (fun m i (y : Int32 × Int32 × kS) => lp_L_bar_67 N (nI f) kont m y.1 y.2.1 (nI (i + 1)) y.2.2) (fun i y => BI a L f (i + 1) 0 y) 119 (fun m i y hi hI => by
    obtain ⟨y2, h2, e2⟩ := f_bar77 (N := N) hw hb hL hf (by omega) hI (fun x27 x28 C29 => lp_L_bar_67 N (nI f) kont m x27 x28 (nI (i + 1) + 1) C29) hN
    refine ⟨y2, h2, ?_⟩
    show lp_L_bar_67 N (nI f) kont (m + 1) y.1 y.2.1 (nI (i + 1)) y.2.2 = lp_L_bar_67 N (nI f) kont m y2.1 y2.2.1 (nI (i + 1 + 1)) y2.2.2
    rw [lp_L_bar_67, if_neg (by rw [show (120 : Int32) = nI 120 by decide]; intro q; have := (nI_leI (by decide) (by omega)).mp q; omega)]
    simp only [jn]
    rw [i_0, e2, i_1, nI_add]) (N := N) 0 y (Nat.zero_le _) (by omega) h
  refine ⟨y', h', e.trans ?_⟩
  show lp_L_bar_67 N (nI f) kont (m + 1) y'.1 y'.2.1 (nI 120) y'.2.2 = _
  rw [lp_L_bar_67, if_pos (by decide)]
theorem BI.fin (hw : WF a) (hb : LB a) (h : BI a L f 120 0 y) (hf : vl a f = true) (hf2 : f < 12) : y.1 = nI (sF a) ∧ y.2.1 = nI (rk a (ph a f)) ∧ (∀ i, i < sF a → y.2.2 3 i = nI (fw a (srt a i))) := by
  obtain ⟨n, pl, S, h1, h2, h3, h4, h5, h6, h7, h8, h9, h10⟩ := h
  have hall : ∀ j, vl a j = true → pr a 120 0 j := fun j hj => ⟨hj, Or.inl (by have := fw_b hw hb hj; omega)⟩
  have hS1 : ∀ i, i < n → S i < sF a := fun i hi => by
    obtain ⟨j, j1, ⟨j2, -⟩, j4⟩ := h6 i hi
    rw [j4]
    exact ph_lt j2
  have hne : ∀ i j, i < j → j < n → S i ≠ S j := fun i j hij hj e => by
    have := h7 i j hij hj
    rw [e] at this
    exact lf_ir this
  have hn1 : n ≤ sF a := fb_holes (sF a) n S hS1 hne
  have hon : ∀ g, g < sF a → ∃ i, i < n ∧ S i = g := fun g hg => by
    obtain ⟨u1, u2, u3, -⟩ := ul_ok hb hg
    obtain ⟨i, i1, i2⟩ := h8 (ul a g) u3 (hall _ u1)
    exact ⟨i, i1, by rw [i2, u2]⟩
  have hn2 : sF a ≤ n := fb_holes n (sF a) (fun g => if h : g < sF a then Classical.choose (hon g h) else 0) (fun g hg => by
    simp only [hg, ↓reduceDIte]
    exact (Classical.choose_spec (hon g hg)).1) (fun g g' hgg hg' e => by
    have hg : g < sF a := by omega
    simp only [hg, hg', ↓reduceDIte] at e
    have e1 := (Classical.choose_spec (hon g hg)).2
    have e2 := (Classical.choose_spec (hon g' hg')).2
    rw [e] at e1
    omega)
  have hn : n = sF a := by omega
  subst hn
  have hSrt : Srt a S (sF a) := ⟨hS1, h7⟩
  obtain ⟨p1, p2⟩ := h10 (hall f hf)
  refine ⟨h1, ?_, fun i hi => ?_⟩
  · rw [h2, ← p2, hSrt.rk p1]
  · rw [h9 i hi, hSrt.srt hi]
theorem f_bar (hw : WF a) (hb : LB a) (hL : LR L a) {f : Nat} (hf : vl a f = true) (hf2 : f < 12) (hN : 3000 ≤ N) : f_L_bar N L (nI (a 3)) (nI (a 4)) (nI f) = some (nI (bw a (a 3) (a 4) (ph a f))) := by
  have w3 := hw.2.2.2.1
  have w4 := hw.2.2.2.2.1
  have w5 := hw.2.2.2.2.2.1
  have b := fw_b hw hb hf
  have h12 := sF_12 hb
  have hph := ph_lt hf
  have hrk := rk_lt hph
  unfold f_L_bar bw
  rw [f_form hw hb hL hf2 hN, ob, f_fwid hw hb hL hf hN, ob, i_2]
  simp only [q_le (show 2 < 2147483648 by decide) (show a 3 < 2147483648 by omega)]
  by_cases z2 : 2 ≤ a 3
  · have e1 : ¬ a 3 = 1 := by omega
    simp only [z2, e1, ↓reduceIte, jn]
    have hI : BI a L f 1 0 ((0 : Int32), (0 : Int32), up1 L 3 (fun _ => 0)) := ⟨0, 0, fun _ => 0, i_0, i_0, fun j hj => up1_n hj, by decide, by decide, fun i hi => absurd hi (Nat.not_lt_zero i), fun i j _ hj => absurd hj (Nat.not_lt_zero j), fun j hj hq => absurd hq.2 (by
      have := fw_b hw hb hq.1
      omega), fun i hi => absurd hi (Nat.not_lt_zero i), fun hq => absurd hq.2 (by
      have := fw_b hw hb hq.1
      omega)⟩
    obtain ⟨⟨x1, x2, C⟩, h', e⟩ := f_bar67 (N := N) hw hb hL hf2 hI _ hN
    simp only at e
    refine e.trans ?_
    have hLC : LR C a := h'.lr hL
    obtain ⟨f1, f2, f3⟩ := h'.fin hw hb hf hf2
    simp only at f1 f2 f3
    have hg : C 0 2 = nI (a 5) := hLC.1.1.2.2.1
    subst f1
    subst f2
    have hidx : ∀ t, 1 ≤ t → t ≤ sF a → gIn (nI t - 1) 12 (some (C 3 (nI t - 1).toNatClampNeg)) = some (nI (fw a (srt a (t - 1)))) := fun t t1 t2 => by
      rw [i_1, q_sub t1, q_gIn (by omega) (by decide), q_cl (by omega), f3 _ (by omega)]
    rw [i_3, q_gIn (by decide) (by decide), q_cl (by decide), hg]
    simp only [q_eq (show a 3 < 2147483648 by omega) (show 3 < 2147483648 by decide)]
    by_cases z3 : a 3 = 3
    · have e2 : ¬ a 3 = 2 := by omega
      have e3 : ¬ sF a + a 5 ≤ sF a := by omega
      simp only [z3, ↓reduceIte, nI_add, q_le (show sF a + a 5 < 2147483648 by omega) (show sF a < 2147483648 by omega), e3, hidx _ (show 1 ≤ sF a by omega) (Nat.le_refl _)]
      simp (config := { decide := true }) only [↓reduceIte]
    · have e2 : a 3 = 2 := by omega
      rw [if_neg z3, if_pos e2, q_nz (by omega) (by omega), q_div (by omega) (by omega) (by omega), i_1, nI_add, pk_mul, nI_add]
      have hq : (rk a (ph a f) / a 5 + 1) * a 5 ≤ 20 := by
        have h1 : rk a (ph a f) / a 5 * a 5 ≤ rk a (ph a f) := Nat.div_mul_le_self _ _
        rw [Nat.succ_mul]
        omega
      have hq1 : 1 ≤ (rk a (ph a f) / a 5 + 1) * a 5 := Nat.mul_pos (Nat.succ_pos _) (by omega)
      have hiff : ((rk a (ph a f) / a 5 + 1) * a 5 + a 5 ≤ sF a) = (rk a (ph a f) / a 5 + 1 < sF a / a 5) := by
        rw [← Nat.succ_mul]
        exact propext (Nat.le_div_iff_mul_le (by omega)).symm
      unfold eog
      simp only [q_le (show (rk a (ph a f) / a 5 + 1) * a 5 + a 5 < 2147483648 by omega) (show sF a < 2147483648 by omega), hiff]
      by_cases z4 : rk a (ph a f) / a 5 + 1 < sF a / a 5
      · have z5 : (rk a (ph a f) / a 5 + 1) * a 5 + a 5 ≤ sF a := by rw [hiff]; exact z4
        have h6 := hidx _ hq1 (by omega)
        rw [i_1] at h6
        simp only [z4, ↓reduceIte, h6, q_gIn (show 2 < 8 by decide) (show 8 ≤ 100000 by decide)]
        rw [Nat.succ_mul]
      · have h6 := hidx (sF a) (by omega) (Nat.le_refl _)
        rw [i_1] at h6
        simp only [z4, ↓reduceIte, h6, q_gIn (show 2 < 8 by decide) (show 8 ≤ 100000 by decide)]
  · simp only [z2, ↓reduceIte, jn, i_0, q_eq (show a 3 < 2147483648 by omega) (show 0 < 2147483648 by decide)]
    by_cases z0 : a 3 = 0
    · have e1 : ¬ a 3 = 1 := by omega
      have e2 : ¬ a 3 = 2 := by omega
      have e3 : ¬ a 3 = 3 := by omega
      simp only [z0, ↓reduceIte]
      simp (config := { decide := true }) only [↓reduceIte]
    · have e1 : a 3 = 1 := by omega
      rw [if_neg z0, if_pos e1, q_nz (by omega) (by omega), q_rem (by omega) (by omega) (by omega), q_nz (by omega) (by omega), ← up_eq (by omega)]
      have h1 := Nat.mod_le (fw a (ph a f)) (a 4)
      simp only [q_eq (show fw a (ph a f) % a 4 < 2147483648 by omega) (show 0 < 2147483648 by decide)]
      by_cases z : fw a (ph a f) % a 4 = 0
      · simp only [z, ↓reduceIte]
      · simp only [z, ↓reduceIte]
        rw [q_sub h1, nI_add]
end BB
end
section
/-! ===== shown widths, names under bars, ones ===== -/
def nl (a : kA) (b : Nat → Nat) (v : Nat) : Nat → Nat
  | 0 => 0
  | k + 1 => if vl a k = true ∧ b (ph a k) = v then nl a b v k ||| 2 ^ (k / 3) else nl a b v k
theorem nl_12 {a : kA} (b : Nat → Nat) (v : Nat) (hb : LB a) : nl a b v 12 = nu b (a 2 + 1) v (sF a) := by
  have h1 := hb.2.1
  have h2 := hb.2.2.1
  unfold sF
  have e1 : a 1 = 0 ∨ a 1 = 1 ∨ a 1 = 2 ∨ a 1 = 3 ∨ a 1 = 4 := by omega
  have e2 : a 2 = 0 ∨ a 2 = 1 ∨ a 2 = 2 := by omega
  rcases e1 with e1 | e1 | e1 | e1 | e1 <;> rcases e2 with e2 | e2 | e2 <;> simp [nl, nu, vl, ph, e1, e2]
theorem nl_256 {a : kA} {b : Nat → Nat} {v : Nat} : ∀ {k : Nat}, k ≤ 12 → nl a b v k < 256
  | 0, _ => Nat.succ_pos _
  | k + 1, h => by
    have ih := nl_256 (a := a) (b := b) (v := v) (k := k) (by omega)
    rw [nl]
    split
    · exact or_256 ih (bit_256 (by omega))
    · exact ih
def stp (x : Nat) : Nat := x &&& (x - 1)
theorem stp_ok : ∀ x, x < 256 → 0 < x → (nI x &&& (nI x - 1) = nI (stp x) ∧ stp x < 256 ∧ pop (stp x) + 1 = pop x) := by decide +kernel
theorem pop_0 : ∀ x, x < 256 → pop x = 0 → x = 0 := by decide +kernel
theorem pop_1 : ∀ x, x < 256 → 0 < pop x → 0 < x := by decide +kernel
theorem f_onesL {N : Nat} (kont : Int32 → Option Int32) : ∀ (p x c n : Nat), x < 256 → pop x = p → p < n → lp_L_ones_4 N kont n (nI c) (nI x) = kont (nI (c + p))
  | 0, x, c, n, hx, hp, hn => by
    obtain ⟨m, rfl⟩ : ∃ m, n = m + 1 := ⟨n - 1, by omega⟩
    have := pop_0 x hx hp
    subst this
    rw [lp_L_ones_4, if_pos (by decide), Nat.add_zero]
  | p + 1, x, c, n, hx, hp, hn => by
    obtain ⟨m, rfl⟩ : ∃ m, n = m + 1 := ⟨n - 1, by omega⟩
    have h0 := pop_1 x hx (by omega)
    obtain ⟨s1, s2, s3⟩ := stp_ok x hx h0
    have h1 : ¬ nI x ≤ 0 := by
      rw [i_0]
      intro q
      have := (nI_leI (by omega) (by decide)).mp q
      omega
    rw [lp_L_ones_4, if_neg h1, s1, nI_1]
    rw [f_onesL kont p (stp x) (c + 1) m s2 (by omega) (by omega), Nat.add_assoc, Nat.add_comm 1 p]
theorem f_ones {x N : Nat} (hx : x < 256) (hN : 3000 ≤ N) : f_L_ones N (nI x) = some (nI (pop x)) := by
  have h1 := pop_le x
  unfold f_L_ones
  simp only [jn]
  rw [i_0, f_onesL (fun x1 => some x1) (pop x) x 0 N hx rfl (by omega), Nat.zero_add]
section SS
variable {L : kS} {a : kA} {N : Nat}
theorem f_shown (hw : WF a) (hb : LB a) (hL : LR L a) {w : Nat} (hwd : w < a 0) (hN : 3000 ≤ N) : f_L_shown N L (nI (a 3)) (nI (a 4)) (nI w) = some (nI (sh a (a 3) (a 4) w)) := by
  have w8 := hb.1
  unfold f_L_shown sh
  rw [f_formOf hw hb hL hwd hN, ob]
  unfold fmI
  simp only [jn]
  by_cases z : fo a w < sF a
  · obtain ⟨u1, u2, u3, -⟩ := ul_ok hb z
    rw [if_pos z, if_pos z]
    rw [if_pos (nI_pos' (by omega)), f_bar hw hb hL u1 u3 hN, ob, u2]
  · rw [if_neg z, if_neg z]
    rw [if_neg (by decide), q_gIn (by omega) (by decide), q_cl (by omega), f_wwid hw hb hL hwd hN, ob]
theorem f_under (hw : WF a) (hb : LB a) (hL : LR L a) {v : Nat} (hv : v < 2147483648) (hN : 3000 ≤ N) : f_L_under N L (nI (a 3)) (nI (a 4)) (nI v) = some (nI (nuM a (a 3) (a 4) v)) := by
  unfold f_L_under nuM
  rw [← nl_12 _ v hb]
  simp only [jn]
  obtain ⟨n, e⟩ := lpF (fun n k (x : Int32) => lp_L_under_6 N L (nI (a 3)) (nI (a 4)) (nI v) (fun x1 => some x1) n x (nI k)) (fun k => nI (nl a (bw a (a 3) (a 4)) v k)) 12 (fun n k hk => by
    have hfv := fv_lt hw hb k
    have h256 := nl_256 (a := a) (b := bw a (a 3) (a 4)) (v := v) (k := k) (by omega)
    have hcmp : (lg_cmp (lN (fv a k)) (lN 0) ≤ (0 : Int32)) = ¬ (vl a k = true) := by
      rw [lg_le0 (by omega) (by decide), ← fv_pos hw k]
      exact propext Nat.not_lt.symm
    show lp_L_under_6 N L (nI (a 3)) (nI (a 4)) (nI v) (fun x1 => some x1) (n + 1) (nI (nl a (bw a (a 3) (a 4)) v k)) (nI k) = lp_L_under_6 N L (nI (a 3)) (nI (a 4)) (nI v) (fun x1 => some x1) n (nI (nl a (bw a (a 3) (a 4)) v (k + 1))) (nI (k + 1))
    rw [lp_L_under_6, show (12 : Int32) = nI 12 by decide, f_form hw hb hL hk hN, ob, lz_0, nl]
    simp only [hcmp, q_le (show 12 < 2147483648 by decide) (show k < 2147483648 by omega), Nat.not_le.mpr hk, ↓reduceIte, jn, nI_1]
    cases z : vl a k with
    | false =>
      simp only [Bool.false_eq_true, not_false_eq_true, ↓reduceIte, false_and]
      rw [i_0, nI_or h256 (by decide), Nat.or_zero]
    | true =>
      have hbw : bw a (a 3) (a 4) (ph a k) ≤ 2147483647 := by
        have hst := hw.2.2.2.2.1
        have h1 := Nat.div_mul_le_self (fw a (ph a k) + a 4 - 1) (a 4)
        have b1 := fw_b hw hb z
        have hall : ∀ g, fw a g ≤ 2147483647 ∨ True := fun _ => Or.inr trivial
        have hs : ∀ i, i < sF a → fw a (srt a i) ≤ 45 := fun i hi => by
          obtain ⟨s1, -⟩ := srt_ok hi
          obtain ⟨u1, u2, -⟩ := ul_ok hb s1
          have := fw_b hw hb u1
          rw [u2] at this
          exact this.2
        have hp := ph_lt z
        unfold bw
        split
        · omega
        · split
          · have : eog a (rk a (ph a k)) < sF a := by
              have hr := rk_lt hp
              have h5 := hw.2.2.2.2.2.1
              unfold eog
              split
              · rename_i h6
                have h7 := Nat.div_mul_le_self (sF a) (a 5)
                have h8 := Nat.mul_le_mul_right (a 5) (show rk a (ph a k) / a 5 + 1 ≤ sF a / a 5 by omega)
                rw [Nat.succ_mul] at h8
                omega
              · omega
            have := hs _ this
            omega
          · split
            · have := hs (sF a - 1) (by omega)
              omega
            · omega
      simp only [not_true_eq_false, ↓reduceIte, true_and]
      rw [f_bar hw hb hL z hk hN, ob]
      simp only [q_eq (show bw a (a 3) (a 4) (ph a k) < 2147483648 by omega) hv]
      by_cases y : bw a (a 3) (a 4) (ph a k) = v
      · simp only [y, ↓reduceIte]
        rw [i_3, q_nz (by decide) (by decide), q_div (by omega) (by decide) (by decide), nI_bit _ (by omega), nI_or h256 (bit_256 (by omega))]
      · simp only [y, ↓reduceIte]
        rw [i_0, nI_or h256 (by decide), Nat.or_zero]) (N := 13) 0 (Nat.zero_le _) (by decide)
  rw [i_0]
  refine e.trans ?_
  show lp_L_under_6 N L (nI (a 3)) (nI (a 4)) (nI v) (fun x1 => some x1) (n + 1) (nI (nl a (bw a (a 3) (a 4)) v 12)) (nI 12) = _
  rw [lp_L_under_6, if_pos (by decide)]
end SS
end
section
/-! ===== the class's answers by the spec ===== -/
def RC (C : kS) (a : kA) : Prop := WF a ∧ StC C 4 a ∧ DvC C a
section VV
variable {C : kS} {a : kA} {N : Nat}
theorem V_c0 (h : RC C a) : f_X8_count N C 0 = some (nI (a 0)) := by
  obtain ⟨hw, hS, hF, hB, hH, hD⟩ := h
  have e0 := (x_size (N := N) hS)
  unfold f_X8_count
  simp (disch := omega) only [i_0, ↓reduceIte, e0.1, ob]
theorem V_c1 (h : RC C a) (hN : 3000 ≤ N) : f_X8_count N C 1 = some (nI (sumN (tm a (a 3) (a 4) 1) (a 0))) := by
  obtain ⟨hw, hS, hF, hB, hH, hD⟩ := h
  have e0 := (x_size (N := N) hS)
  have e1 := x_bars0 (N := N) hH hw (a 3) (a 4) hN
  unfold f_X8_count
  simp (disch := omega) only [i_0, i_1, q_eq, Nat.reduceEqDiff, Nat.one_ne_zero, ↓reduceIte, e0.1, ob, e1]
theorem V_c2 (h : RC C a) : f_X8_count N C 2 = some (nI (lnN a (a 3) (a 4))) := by
  obtain ⟨hw, hS, hF, hB, hH, hD⟩ := h
  have e2 : f_X4_lineCount N C = some (nI (lnN a (a 3) (a 4))) := by unfold f_X4_lineCount; rw [hD.1]; rfl
  unfold f_X8_count
  simp (disch := omega) only [i_0, i_1, i_2, q_eq, Nat.reduceEqDiff, ↓reduceIte, e2, ob]
theorem V_c3 (h : RC C a) : f_X8_count N C 3 = some (nI (a 1)) := by
  obtain ⟨hw, hS, hF, hB, hH, hD⟩ := h
  have e0 := (x_size (N := N) hS)
  unfold f_X8_count
  simp (disch := omega) only [i_0, i_1, i_2, i_3, q_eq, Nat.reduceEqDiff, ↓reduceIte, e0.2.1, ob]
theorem V_c4 (h : RC C a) : f_X8_count N C 4 = some (nI (a 2)) := by
  obtain ⟨hw, hS, hF, hB, hH, hD⟩ := h
  have e0 := (x_size (N := N) hS)
  unfold f_X8_count
  simp (disch := omega) only [i_0, i_1, i_2, i_3, i_4, q_eq, Nat.reduceEqDiff, ↓reduceIte, e0.2.2, ob]
theorem V_c5 (h : RC C a) : f_X8_count N C 5 = some (nI (sF a)) := by
  obtain ⟨hw, hS, hF, hB, hH, hD⟩ := h
  have e5 : f_X1_size N C = some (nI (sF a)) := by unfold f_X1_size; rw [hF.2.1]
  unfold f_X8_count
  simp (disch := omega) only [i_0, i_1, i_2, i_3, i_4, i_5, q_eq, Nat.reduceEqDiff, ↓reduceIte, e5, ob]
theorem V_cs (h : RC C a) {k : Nat} (hk : k < 5) : f_X8_count N C (nI (6 + k)) = some (nI (a (3 + k))) := by
  obtain ⟨hw, hS, hF, hB, hH, hD⟩ := h
  have es : ∀ k, k < 5 → f_X3_at N C 22 (nI k) = some (nI (a (3 + k))) := fun k hk => by rw [x_at (k := 22) (n := 5) rfl hk (by decide), hS.2.2.2.2 k hk]
  unfold f_X8_count
  obtain rfl | rfl | rfl | rfl | rfl : k = 0 ∨ k = 1 ∨ k = 2 ∨ k = 3 ∨ k = 4 := by omega
  · simp (disch := omega) only [i_0, i_1, i_2, i_3, i_4, i_5, i_6, q_eq, Nat.reduceEqDiff, ↓reduceIte, es, ob, Nat.reduceAdd]
  · simp (disch := omega) only [i_0, i_1, i_2, i_3, i_4, i_5, i_6, i_7, q_eq, Nat.reduceEqDiff, ↓reduceIte, es, ob, Nat.reduceAdd]
  · simp (disch := omega) only [i_0, i_1, i_2, i_3, i_4, i_5, i_6, i_7, i_8, q_eq, Nat.reduceEqDiff, ↓reduceIte, es, ob, Nat.reduceAdd]
  · simp (disch := omega) only [i_0, i_1, i_2, i_3, i_4, i_5, i_6, i_7, i_8, i_9, q_eq, Nat.reduceEqDiff, ↓reduceIte, es, ob, Nat.reduceAdd]
  · simp (disch := omega) only [i_0, i_1, i_2, i_3, i_4, i_5, i_6, i_7, i_8, i_9, i_10, q_eq, Nat.reduceEqDiff, ↓reduceIte, es, ob, Nat.reduceAdd]
theorem V_c11 (h : RC C a) (hN : 3000 ≤ N) : f_X8_count N C 11 = some (nI (sumN (tm a (a 3) (a 4) 11) (a 0))) := by
  obtain ⟨hw, hS, hF, hB, hH, hD⟩ := h
  have hst := hw.2.2.2.2.1
  have e11 := x_betrayed (N := N) hS hF hH hB (Or.inl rfl) hw hst hN
  unfold f_X8_count
  simp (disch := omega) only [i_0, i_1, i_2, i_3, i_4, i_5, i_6, i_7, i_8, i_9, i_10, i_11, q_eq, Nat.reduceEqDiff, ↓reduceIte, e11, ob]
theorem V_c12 (h : RC C a) (hN : 3000 ≤ N) : f_X8_count N C 12 = some (nI (sumN (tm a (a 3) (a 4) 12) (a 0))) := by
  obtain ⟨hw, hS, hF, hB, hH, hD⟩ := h
  have e12 := x_sumW (N := N) hS hH hB (Or.inl rfl) hw hN
  unfold f_X8_count
  simp (disch := omega) only [i_0, i_1, i_2, i_3, i_4, i_5, i_6, i_7, i_8, i_9, i_10, i_11, i_12, q_eq, Nat.reduceEqDiff, ↓reduceIte, e12, ob]
theorem V_c13 (h : RC C a) (hN : 3000 ≤ N) : f_X8_count N C 13 = some (nI (sumN (tm a (a 3) (a 4) 13) (a 0))) := by
  obtain ⟨hw, hS, hF, hB, hH, hD⟩ := h
  have hst := hw.2.2.2.2.1
  have e13 := x_gaps (N := N) hS hF hH hB hw hst hN
  unfold f_X8_count
  simp (disch := omega) only [i_0, i_1, i_2, i_3, i_4, i_5, i_6, i_7, i_8, i_9, i_10, i_11, i_12, i_13, q_eq, Nat.reduceEqDiff, ↓reduceIte, e13, ob]
theorem V_c14 (h : RC C a) (hN : 3000 ≤ N) : f_X8_count N C 14 = some (nI (sumN (tm a (a 3) (a 4) 14) (a 0))) := by
  obtain ⟨hw, hS, hF, hB, hH, hD⟩ := h
  have hst := hw.2.2.2.2.1
  have e14 := x_diff (N := N) hS hH hD hw hst hN
  unfold f_X8_count
  simp (disch := omega) only [i_0, i_1, i_2, i_3, i_4, i_5, i_6, i_7, i_8, i_9, i_10, i_11, i_12, i_13, i_14, q_eq, Nat.reduceEqDiff, ↓reduceIte, e14, ob]
theorem V_c17 : f_X8_count N C 17 = some (-11) := by
  unfold f_X8_count
  simp (config := { decide := true }) only [↓reduceIte]
/-- the first of the word's questions -/
theorem V_wordP {w : Nat} (h : RC C a) (hwd : w < a 0) {j : Nat} (hj : j ≤ 9) (hN : 3000 ≤ N) : f_X8_word N C (nI w) (nI j) = some (if j = 0 then nI (a (34 + 13 * w)) else if j = 1 then nI (wd a (34 + 13 * w)) else if j = 2 then nI (sh a (a 3) (a 4) w) else if j = 3 then nI (if hid a w = true then 1 else 0) else if j = 6 then nI (lno (sh a (a 3) (a 4)) (a 6) (a 7) w) else if j = 7 then nI (plc (sh a (a 3) (a 4)) (a 6) (a 7) w) else if hid a w = true then (if j = 4 then nI (fo a w / (a 2 + 1)) else if j = 5 then nI (fo a w % (a 2 + 1)) - nI 1 else if j = 8 then nI (nuM a (a 3) (a 4) (sh a (a 3) (a 4) w)) else nI (pop (nuM a (a 3) (a 4) (sh a (a 3) (a 4) w)))) else -14) := by
  obtain ⟨hw, hS, hF, hB, hH, hD⟩ := h
  obtain ⟨w0, w1, w2, w3, w4, w5, w6, w7, wl, wp, wn, we⟩ := id hw
  have hst := hw.2.2.2.2.1
  have hwk : w < 2147483648 := by omega
  have hj2 : j < 2147483648 := by omega
  unfold f_X8_word
  rw [x_hasN hS.1.2.2.1 (by omega) hwk, ob]
  simp only [hwd, ↓reduceIte, i_0, i_9, q_nT]
  have e0 := x_lengthOf (N := N) (k := 5) (mw := 40) (ml := 12) hS.1 rfl (by decide) w0 hwd
  have e1 := x_ownWidth (N := N) hH hw hwd
  have e2 := x_shown (N := N) hD hw hwd
  have e3 := x_isHidden (N := N) hH hw hwd
  have e6 : f_X4_lineOf N C (nI w) = some (nI (lno (sh a (a 3) (a 4)) (a 6) (a 7) w)) := by
    unfold f_X4_lineOf
    rw [x_at (k := 126) (n := 40) rfl (by omega) (by decide), ob, (hD.2.1 w hwd).2.1]
  have e7 : f_X4_placeOf N C (nI w) = some (nI (plc (sh a (a 3) (a 4)) (a 6) (a 7) w)) := by
    unfold f_X4_placeOf
    rw [x_at (k := 128) (n := 40) rfl (by omega) (by decide), ob, (hD.2.1 w hwd).2.2]
  have eh := x_hiddenWord (N := N) hS hF hB hH hD hw hwd hj hN
  rw [if_neg (show ¬ nI j < nI 0 from nI_pos hj2), if_pos ((nI_leI hj2 (by decide)).mpr hj)]
  obtain rfl | rfl | rfl | rfl | rfl | rfl | rfl | rfl | rfl | rfl : j = 0 ∨ j = 1 ∨ j = 2 ∨ j = 3 ∨ j = 4 ∨ j = 5 ∨ j = 6 ∨ j = 7 ∨ j = 8 ∨ j = 9 := by omega
  · simp only [↓reduceIte, e0, ob]
  · simp only [↓reduceIte, q_nT, i_1, e1, ob, Nat.one_ne_zero]
  · simp (disch := omega) only [↓reduceIte, q_eq, Nat.reduceEqDiff, i_1, i_2, e2, ob]
  · simp (disch := omega) only [↓reduceIte, q_eq, Nat.reduceEqDiff, i_1, i_2, i_3, e3, ob, ↓jn_eq]
    cases z : hid a w with
    | true => simp only [↓reduceIte, q_nT]
    | false => simp only [Bool.false_eq_true, ↓reduceIte]
  · simp (disch := omega) only [↓reduceIte, q_eq, Nat.reduceEqDiff, i_1, i_2, i_3, i_4, i_5, i_6, i_7, eh, ob, ite_self]
  · simp (disch := omega) only [↓reduceIte, q_eq, Nat.reduceEqDiff, i_1, i_2, i_3, i_4, i_5, i_6, i_7, eh, ob, ite_self]
  · simp (disch := omega) only [↓reduceIte, q_eq, Nat.reduceEqDiff, i_1, i_2, i_3, i_4, i_5, i_6, e6, ob]
  · simp (disch := omega) only [↓reduceIte, q_eq, Nat.reduceEqDiff, i_1, i_2, i_3, i_4, i_5, i_6, i_7, e7, ob]
  · simp (disch := omega) only [↓reduceIte, q_eq, Nat.reduceEqDiff, i_1, i_2, i_3, i_4, i_5, i_6, i_7, eh, ob, ite_self]
  · simp (disch := omega) only [↓reduceIte, q_eq, Nat.reduceEqDiff, i_1, i_2, i_3, i_4, i_5, i_6, i_7, eh, ob, ite_self]
theorem V_wordX (h : RC C a) {w : Nat} (hw2 : w < 2147483648) (hwd : a 0 ≤ w) (j : Int32) : f_X8_word N C (nI w) j = some (-11) := by
  obtain ⟨hw, hS, -⟩ := h
  have w0 := hw.1
  unfold f_X8_word
  rw [x_hasN hS.1.2.2.1 (by omega) hw2, ob, if_neg (show ¬ w < a 0 by omega), i_0, if_pos rfl]
theorem V_wordM (h : RC C a) (j : Int32) : f_X8_word N C (-1) j = some (-11) := by
  unfold f_X8_word
  rw [x_hasG (by decide), ob, i_0, if_pos rfl]
theorem V_letter {w j : Nat} (h : RC C a) (hwd : w < a 0) (hj : j < 2147483648) (hN : 3000 ≤ N) : f_X8_letter N C (nI w) (nI j) = some (if hid a w = true then -12 else if j < a (34 + 13 * w) then nI (97 + a (34 + 13 * w + 1 + j)) else -14) := by
  obtain ⟨hw, hS, hF, hB, hH, hD⟩ := h
  obtain ⟨w0, w1, w2, w3, w4, w5, w6, w7, wl, wp, wn, we⟩ := id hw
  have hwk : w < 2147483648 := by omega
  have b1 := wp w hwd
  unfold f_X8_letter
  rw [x_hasN hS.1.2.2.1 (by omega) hwk, ob]
  simp only [hwd, ↓reduceIte, i_0, q_nT]
  rw [x_isHidden hH hw hwd, x_lengthOf (k := 5) (mw := 40) (ml := 12) hS.1 rfl (by decide) w0 hwd]
  simp (disch := omega) only [q_le, Nat.zero_le, ↓reduceIte, ob]
  cases z : hid a w with
  | true => simp only [↓reduceIte, q_nT]
  | false =>
    by_cases y : j < a (34 + 13 * w)
    · simp (disch := omega) only [Bool.false_eq_true, ↓reduceIte, q_lt, y]
      rw [x_letterOf (k := 5) (mw := 40) (ml := 12) hS.1 rfl (by decide) (by decide) w0 hwd y b1.1.2, ob]
    · simp (disch := omega) only [Bool.false_eq_true, ↓reduceIte, q_lt, y]
theorem V_line {k j : Nat} (h : RC C a) (hkl : k < lnN a (a 3) (a 4)) (hj : j ≤ 4) (hN : 3000 ≤ N) : f_X8_line N C (nI k) (nI j) = some (if j = 0 then nI (fsL a (a 3) (a 4) k) else if j = 1 then nI (bhL a (a 3) (a 4) k - fsL a (a 3) (a 4) k) else if j = 2 then nI (lsum a (a 3) (a 4) k 2 (a 0)) else if j = 3 then nI (a 7 - lsum a (a 3) (a 4) k 2 (a 0)) else nI (lsum a (a 3) (a 4) k 4 (a 0))) := by
  obtain ⟨hw, hS, hF, hB, hH, hD⟩ := h
  have hst := hw.2.2.2.2.1
  have b1 := lnN_le hw (m := a 3) hst
  have w0 := hw.1
  have w7 := hw.2.2.2.2.2.2.2.1
  have hk : k < 2147483648 := by omega
  unfold f_X8_line
  rw [x_hasLineN hD hw hst hk, ob]
  obtain ⟨f1, f2⟩ := x_lineFacts (N := N) hS hD hw hkl
  have f3 := bhL_b hD hkl
  have hWd := x_lineW hS hD hw hkl hN
  have hBr := x_lineB hH hD hw hkl hN
  rw [f1, f2]
  have hls : ∀ {what : Nat}, lsum a (a 3) (a 4) k what (a 0) ≤ 157 * a 0 := fun {what} => lsum_le hw hst _ (Nat.le_refl _)
  have e23 : C 23 4 = nI (a 7) := hS.2.2.2.2 4 (by decide)
  simp only [hkl, Nat.not_le.mpr hkl, ↓reduceIte, i_0, i_1, i_2, i_3, i_4, q_nT, ob, hWd, hBr]
  rw [x_at (k := 22) (n := 5) rfl (by decide) (by decide), e23]
  have hl2 := hls (what := 2)
  obtain rfl | rfl | rfl | rfl | rfl : j = 0 ∨ j = 1 ∨ j = 2 ∨ j = 3 ∨ j = 4 := by omega
  · simp only [↓reduceIte]
  · simp (disch := omega) only [q_eq, Nat.one_ne_zero, ↓reduceIte, q_sub]
  · simp (disch := omega) only [q_eq, Nat.reduceEqDiff, ↓reduceIte, ob]
  · simp (disch := omega) only [q_eq, Nat.reduceEqDiff, ↓reduceIte, ob, jn_eq]
    by_cases z : lsum a (a 3) (a 4) k 2 (a 0) < a 7
    · rw [q_sub (by omega)]
      simp (disch := omega) only [q_lt]
      rw [if_pos (by omega)]
    · have e : a 7 - lsum a (a 3) (a 4) k 2 (a 0) = 0 := by omega
      have z2 : ¬ nI 0 < nI (a 7) - nI (lsum a (a 3) (a 4) k 2 (a 0)) := by
        intro q
        have q2 := (Int32.lt_iff_toInt_lt).mp q
        rw [Int32.toInt_sub, nI_toInt (by omega), nI_toInt (by omega), nI_toInt (by omega), Int.bmod_def] at q2
        omega
      rw [if_neg z2, e]
  · simp (disch := omega) only [q_eq, Nat.reduceEqDiff, ↓reduceIte, ob]
theorem V_lineX {k : Nat} (h : RC C a) (hk : k < 2147483648) (hkl : lnN a (a 3) (a 4) ≤ k) (j : Int32) : f_X8_line N C (nI k) j = some (-11) := by
  obtain ⟨hw, hS, hF, hB, hH, hD⟩ := h
  have hst := hw.2.2.2.2.1
  unfold f_X8_line
  rw [x_hasLineN hD hw hst hk, ob, if_neg (Nat.not_lt.mpr hkl), i_0, if_pos rfl]
theorem V_again {k : Nat} (h : RC C a) (hkl : k < lnN a (a 3) (a 4)) : f_X8_widthAgain N C (nI k) = some (nI (plc (sh a (a 3) (a 4)) (a 6) (a 7) (bhL a (a 3) (a 4) k - 1) + sh a (a 3) (a 4) (bhL a (a 3) (a 4) k - 1))) := by
  obtain ⟨hw, hS, hF, hB, hH, hD⟩ := h
  have hst := hw.2.2.2.2.1
  have b1 := lnN_le hw (m := a 3) hst
  have w0 := hw.1
  have hk : k < 2147483648 := by omega
  unfold f_X8_widthAgain
  rw [x_hasLineN hD hw hst hk, ob]
  obtain ⟨f1, f2⟩ := x_lineFacts (N := N) hS hD hw hkl
  have f3 := bhL_b hD hkl
  simp (disch := omega) only [hkl, ↓reduceIte, i_0, i_1, q_nT, f2, ob, q_sub, x_shown hD hw]
  unfold f_X4_placeOf
  rw [x_at (k := 128) (n := 40) rfl (by omega) (by decide), ob, (hD.2.1 _ (by omega)).2.2, ob, nI_add]
end VV
end
