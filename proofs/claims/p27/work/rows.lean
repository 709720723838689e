section
-- ===== PART A: goes FIRST, ahead of the names: the tables' words, and 'selects' of the private methods out of them =====
/-- a private method of a class that the tables say can be made, by its rows of tables_1 -/
def lw_okq (q : MethodName × Nat) : Prop := (q.1.cls ≠ "java/lang/invoke/MethodHandle" ∧ q.1.cls ≠ "java/lang/invoke/VarHandle") ∧ Cond.instantiable q.1.cls q.2 ∈ tables_1 ∧ Cond.privateMethod q.1 ∈ tables_1 ∧ Cond.instanceMethod q.1 ∈ tables_1
theorem lw_p0 : lw_okq (⟨"MapSheets$Blocks", "join", "(II)V"⟩, 1) := ⟨⟨by decide +kernel, by decide +kernel⟩, List.mem_of_getElem? (i := 82) (by decide +kernel), List.mem_of_getElem? (i := 233) (by decide +kernel), List.mem_of_getElem? (i := 234) (by decide +kernel)⟩
theorem lw_p1 : lw_okq (⟨"MapSheets$History", "stateAt", "(I)LMapSheets$Atlas;"⟩, 3) := ⟨⟨by decide +kernel, by decide +kernel⟩, List.mem_of_getElem? (i := 63) (by decide +kernel), List.mem_of_getElem? (i := 329) (by decide +kernel), List.mem_of_getElem? (i := 330) (by decide +kernel)⟩
theorem lw_p2 : lw_okq (⟨"MapSheets", "endRevision", "(II)I"⟩, 4) := ⟨⟨by decide +kernel, by decide +kernel⟩, List.mem_of_getElem? (i := 10) (by decide +kernel), List.mem_of_getElem? (i := 380) (by decide +kernel), List.mem_of_getElem? (i := 381) (by decide +kernel)⟩
def lw_privs_1 : List (MethodName × Nat) := [(⟨"MapSheets$Blocks", "join", "(II)V"⟩, 1), (⟨"MapSheets$History", "stateAt", "(I)LMapSheets$Atlas;"⟩, 3), (⟨"MapSheets", "endRevision", "(II)I"⟩, 4)]
theorem lw_r1 : ∀ q ∈ lw_privs_1, lw_okq q := List.forall_mem_cons.mpr ⟨lw_p0, List.forall_mem_cons.mpr ⟨lw_p1, List.forall_mem_cons.mpr ⟨lw_p2, fun _ h => absurd h List.not_mem_nil⟩⟩⟩
def lw_privs : List (MethodName × Nat) := lw_privs_1
def lw_tbl : List Cond := k2_sels lw_privs ++ tables_1
theorem lw_privs_ok : ∀ q ∈ lw_privs, lw_okq q := lw_r1
/-- the streams that the claim lets the run draw from -/
abbrev lw_cs : List Choice := [Jvm.Choice.named "NaN.bits"]
theorem lw_bits : nanBits ∈ lw_cs := by first | decide | exact List.mem_cons_self | simp [lw_cs, nanBits]
-- ===== end of PART A; then your names; then what follows =====
end
section
/-! ===== BEGIN words of one list among another's, by their places ===== -/
theorem goodIn_r {big : List Cond} (ws : List Cond) (ps : List Nat) (hp : ws = ps.filterMap (fun i => big[i]?)) (h : ws.all goodWord = true) : GoodIn big ws := by
  intro w hw
  have h1 := List.all_eq_true.mp h w hw
  rw [hp] at hw
  obtain ⟨i, -, hi⟩ := List.mem_filterMap.mp hw
  have hm : w ∈ big := by first | exact List.mem_of_getElem? hi | exact List.getElem?_mem hi
  exact ⟨hm, good_of_word h1⟩
theorem goodIn_app {big a b : List Cond} (ha : GoodIn big a) (hb : GoodIn big b) : GoodIn big (a ++ b) := fun w h => (List.mem_append.mp h).elim (ha w) (hb w)
theorem goodIn_ca {big a b : List Cond} {c : Cond} (ha : GoodIn big (c :: a)) (hb : GoodIn big b) : GoodIn big (c :: (a ++ b)) := fun w h => (List.mem_cons.mp h).elim (fun e => ha w (List.mem_cons.mpr (Or.inl e))) (fun h => (List.mem_append.mp h).elim (fun h => ha w (List.mem_cons.mpr (Or.inr h))) (hb w))
theorem goodIn_sub {big ws : List Cond} (hm : ∀ w ∈ ws, w ∈ big) (h : ws.all goodWord = true) : GoodIn big ws := fun w hw => ⟨hm w hw, good_of_word (List.all_eq_true.mp h w hw)⟩
/-! ===== END ===== -/

/-! ===== BEGIN printed: names, fields, word lists, decode rows ===== -/
def RX0 : String := "MapSheets$Atlas"
def TX0 : u_T := fun k => match k with
  | 0 => ("MapSheets$Atlas", "signs", "[I", true)
  | 1 => ("MapSheets$Atlas", "meanings", "[I", true)
  | 2 => ("MapSheets$Atlas", "revisions", "[I", true)
  | 3 => ("MapSheets$Atlas", "published", "[I", true)
  | 4 => ("MapSheets$Atlas", "scales", "[I", true)
  | 5 => ("MapSheets$Atlas", "agreed", "[I", true)
  | 6 => ("MapSheets$Atlas", "columns", "I", false)
  | 7 => ("MapSheets$Atlas", "rows", "I", false)
  | 8 => ("MapSheets$Atlas", "guard", "I", false)
  | _ => ("MapSheets$Atlas", "tolerance", "I", false)
def tyX0 : Nat → FieldType := fun k => match k with
  | 0 => .array .int
  | 1 => .array .int
  | 2 => .array .int
  | 3 => .array .int
  | 4 => .array .int
  | 5 => .array .int
  | 6 => .int
  | 7 => .int
  | 8 => .int
  | _ => .int
abbrev wsX00 : List Cond := u_ws RX0 TX0 10
theorem nmX0 : ∀ a, a < 10 → ∀ b, b < 10 → a ≠ b → (TX0 a).2.1 ≠ (TX0 b).2.1 := by decide +kernel
theorem tyX0_ok : ∀ k, k < 10 → parseFieldDescriptor (TX0 k).2.2.1 = some (tyX0 k) := by decide +kernel
abbrev cX0_init : ByteArray := prog_2_method_1_code
def yX0_init : MethodName := ⟨RX0, "<init>", "()V"⟩
abbrev cX0_begin : ByteArray := prog_2_method_2_code
def yX0_begin : MethodName := ⟨RX0, "begin", "(II)V"⟩
abbrev cX0_copyFrom : ByteArray := prog_2_method_3_code
def yX0_copyFrom : MethodName := ⟨RX0, "copyFrom", "(LMapSheets$Atlas;)V"⟩
abbrev cX0_guardValue : ByteArray := prog_2_method_4_code
def yX0_guardValue : MethodName := ⟨RX0, "guardValue", "()I"⟩
abbrev cX0_toleranceValue : ByteArray := prog_2_method_5_code
def yX0_toleranceValue : MethodName := ⟨RX0, "toleranceValue", "()I"⟩
abbrev cX0_putGuard : ByteArray := prog_2_method_6_code
def yX0_putGuard : MethodName := ⟨RX0, "putGuard", "(I)I"⟩
abbrev cX0_putTolerance : ByteArray := prog_2_method_7_code
def yX0_putTolerance : MethodName := ⟨RX0, "putTolerance", "(I)I"⟩
abbrev cX0_columnCount : ByteArray := prog_2_method_8_code
def yX0_columnCount : MethodName := ⟨RX0, "columnCount", "()I"⟩
abbrev cX0_rowCount : ByteArray := prog_2_method_9_code
def yX0_rowCount : MethodName := ⟨RX0, "rowCount", "()I"⟩
abbrev cX0_sheetCount : ByteArray := prog_2_method_10_code
def yX0_sheetCount : MethodName := ⟨RX0, "sheetCount", "()I"⟩
abbrev cX0_hasSheet : ByteArray := prog_2_method_11_code
def yX0_hasSheet : MethodName := ⟨RX0, "hasSheet", "(I)Z"⟩
abbrev cX0_hasPlace : ByteArray := prog_2_method_12_code
def yX0_hasPlace : MethodName := ⟨RX0, "hasPlace", "(III)Z"⟩
abbrev cX0_columnOf : ByteArray := prog_2_method_13_code
def yX0_columnOf : MethodName := ⟨RX0, "columnOf", "(I)I"⟩
abbrev cX0_rowOf : ByteArray := prog_2_method_14_code
def yX0_rowOf : MethodName := ⟨RX0, "rowOf", "(I)I"⟩
abbrev cX0_rowEdgeCount : ByteArray := prog_2_method_15_code
def yX0_rowEdgeCount : MethodName := ⟨RX0, "rowEdgeCount", "()I"⟩
abbrev cX0_edgeCount : ByteArray := prog_2_method_16_code
def yX0_edgeCount : MethodName := ⟨RX0, "edgeCount", "()I"⟩
abbrev cX0_hasEdge : ByteArray := prog_2_method_17_code
def yX0_hasEdge : MethodName := ⟨RX0, "hasEdge", "(I)Z"⟩
abbrev cX0_firstSheet : ByteArray := prog_2_method_18_code
def yX0_firstSheet : MethodName := ⟨RX0, "firstSheet", "(I)I"⟩
abbrev cX0_secondSheet : ByteArray := prog_2_method_19_code
def yX0_secondSheet : MethodName := ⟨RX0, "secondSheet", "(I)I"⟩
abbrev cX0_firstSide : ByteArray := prog_2_method_20_code
def yX0_firstSide : MethodName := ⟨RX0, "firstSide", "(I)I"⟩
abbrev cX0_secondSide : ByteArray := prog_2_method_21_code
def yX0_secondSide : MethodName := ⟨RX0, "secondSide", "(I)I"⟩
abbrev cX0_edgeOf : ByteArray := prog_2_method_22_code
def yX0_edgeOf : MethodName := ⟨RX0, "edgeOf", "(II)I"⟩
abbrev cX0_edgesOf : ByteArray := prog_2_method_23_code
def yX0_edgesOf : MethodName := ⟨RX0, "edgesOf", "(I)I"⟩
abbrev cX0_placeOf : ByteArray := prog_2_method_24_code
def yX0_placeOf : MethodName := ⟨RX0, "placeOf", "(III)I"⟩
abbrev cX0_signAt : ByteArray := prog_2_method_25_code
def yX0_signAt : MethodName := ⟨RX0, "signAt", "(III)I"⟩
abbrev cX0_putSign : ByteArray := prog_2_method_26_code
def yX0_putSign : MethodName := ⟨RX0, "putSign", "(IIII)I"⟩
abbrev cX0_signsShownOn : ByteArray := prog_2_method_27_code
def yX0_signsShownOn : MethodName := ⟨RX0, "signsShownOn", "(I)I"⟩
abbrev cX0_meaningOf : ByteArray := prog_2_method_28_code
def yX0_meaningOf : MethodName := ⟨RX0, "meaningOf", "(II)I"⟩
abbrev cX0_putMeaning : ByteArray := prog_2_method_29_code
def yX0_putMeaning : MethodName := ⟨RX0, "putMeaning", "(III)I"⟩
abbrev cX0_lowestSign : ByteArray := prog_2_method_30_code
def yX0_lowestSign : MethodName := ⟨RX0, "lowestSign", "(II)I"⟩
abbrev cX0_meaningAt : ByteArray := prog_2_method_31_code
def yX0_meaningAt : MethodName := ⟨RX0, "meaningAt", "(III)I"⟩
abbrev cX0_reasonAt : ByteArray := prog_2_method_32_code
def yX0_reasonAt : MethodName := ⟨RX0, "reasonAt", "(II)I"⟩
abbrev cX0_quarrelsOf : ByteArray := prog_2_method_33_code
def yX0_quarrelsOf : MethodName := ⟨RX0, "quarrelsOf", "(I)I"⟩
abbrev cX0_positionOfQuarrel : ByteArray := prog_2_method_34_code
def yX0_positionOfQuarrel : MethodName := ⟨RX0, "positionOfQuarrel", "(II)I"⟩
abbrev cX0_signsOnBothSides : ByteArray := prog_2_method_35_code
def yX0_signsOnBothSides : MethodName := ⟨RX0, "signsOnBothSides", "(I)I"⟩
abbrev cX0_quarrelsOfAll : ByteArray := prog_2_method_36_code
def yX0_quarrelsOfAll : MethodName := ⟨RX0, "quarrelsOfAll", "()I"⟩
abbrev cX0_cleanEdges : ByteArray := prog_2_method_37_code
def yX0_cleanEdges : MethodName := ⟨RX0, "cleanEdges", "()I"⟩
abbrev cX0_isAgreed : ByteArray := prog_2_method_38_code
def yX0_isAgreed : MethodName := ⟨RX0, "isAgreed", "(I)Z"⟩
abbrev cX0_putAgreed : ByteArray := prog_2_method_39_code
def yX0_putAgreed : MethodName := ⟨RX0, "putAgreed", "(II)I"⟩
abbrev cX0_agreedEdges : ByteArray := prog_2_method_40_code
def yX0_agreedEdges : MethodName := ⟨RX0, "agreedEdges", "()I"⟩
abbrev cX0_agreedEdgesOf : ByteArray := prog_2_method_41_code
def yX0_agreedEdgesOf : MethodName := ⟨RX0, "agreedEdgesOf", "(I)I"⟩
abbrev cX0_breaksAgreement : ByteArray := prog_2_method_42_code
def yX0_breaksAgreement : MethodName := ⟨RX0, "breaksAgreement", "(I)Z"⟩
abbrev cX0_dropBrokenAgreements : ByteArray := prog_2_method_43_code
def yX0_dropBrokenAgreements : MethodName := ⟨RX0, "dropBrokenAgreements", "(I)V"⟩
abbrev cX0_settleFrom : ByteArray := prog_2_method_44_code
def yX0_settleFrom : MethodName := ⟨RX0, "settleFrom", "(II)I"⟩
abbrev cX0_revisionOf : ByteArray := prog_2_method_45_code
def yX0_revisionOf : MethodName := ⟨RX0, "revisionOf", "(I)I"⟩
abbrev cX0_addRevision : ByteArray := prog_2_method_46_code
def yX0_addRevision : MethodName := ⟨RX0, "addRevision", "(I)V"⟩
abbrev cX0_publishedOf : ByteArray := prog_2_method_47_code
def yX0_publishedOf : MethodName := ⟨RX0, "publishedOf", "(I)I"⟩
abbrev cX0_publishRevision : ByteArray := prog_2_method_48_code
def yX0_publishRevision : MethodName := ⟨RX0, "publishRevision", "(I)V"⟩
abbrev cX0_isPublished : ByteArray := prog_2_method_49_code
def yX0_isPublished : MethodName := ⟨RX0, "isPublished", "(I)Z"⟩
abbrev cX0_isUpToDate : ByteArray := prog_2_method_50_code
def yX0_isUpToDate : MethodName := ⟨RX0, "isUpToDate", "(I)Z"⟩
abbrev cX0_publishedSheets : ByteArray := prog_2_method_51_code
def yX0_publishedSheets : MethodName := ⟨RX0, "publishedSheets", "()I"⟩
abbrev cX0_sheetsUpToDate : ByteArray := prog_2_method_52_code
def yX0_sheetsUpToDate : MethodName := ⟨RX0, "sheetsUpToDate", "()I"⟩
abbrev cX0_scaleOf : ByteArray := prog_2_method_53_code
def yX0_scaleOf : MethodName := ⟨RX0, "scaleOf", "(I)I"⟩
abbrev cX0_putScale : ByteArray := prog_2_method_54_code
def yX0_putScale : MethodName := ⟨RX0, "putScale", "(II)I"⟩
abbrev cX0_floatScale : ByteArray := prog_2_method_55_code
def yX0_floatScale : MethodName := ⟨RX0, "floatScale", "(I)F"⟩
abbrev cX0_ratioOf : ByteArray := prog_2_method_56_code
def yX0_ratioOf : MethodName := ⟨RX0, "ratioOf", "(I)F"⟩
abbrev cX0_isFitting : ByteArray := prog_2_method_57_code
def yX0_isFitting : MethodName := ⟨RX0, "isFitting", "(I)Z"⟩
abbrev cX0_fittingEdges : ByteArray := prog_2_method_58_code
def yX0_fittingEdges : MethodName := ⟨RX0, "fittingEdges", "()I"⟩
def RX1 : String := "MapSheets$Blocks"
def TX1 : u_T := fun k => match k with
  | _ => ("MapSheets$Blocks", "lowest", "[I", true)
def tyX1 : Nat → FieldType := fun k => match k with
  | _ => .array .int
abbrev wsX10 : List Cond := u_ws RX1 TX1 1
theorem nmX1 : ∀ a, a < 1 → ∀ b, b < 1 → a ≠ b → (TX1 a).2.1 ≠ (TX1 b).2.1 := by decide +kernel
theorem tyX1_ok : ∀ k, k < 1 → parseFieldDescriptor (TX1 k).2.2.1 = some (tyX1 k) := by decide +kernel
abbrev cX1_init : ByteArray := prog_3_method_1_code
def yX1_init : MethodName := ⟨RX1, "<init>", "()V"⟩
abbrev cX1_find : ByteArray := prog_3_method_2_code
def yX1_find : MethodName := ⟨RX1, "find", "(LMapSheets$Atlas;)I"⟩
abbrev cX1_lowestOf : ByteArray := prog_3_method_3_code
def yX1_lowestOf : MethodName := ⟨RX1, "lowestOf", "(I)I"⟩
abbrev cX1_join : ByteArray := prog_3_method_4_code
def yX1_join : MethodName := ⟨RX1, "join", "(II)V"⟩
def RX2 : String := "MapSheets$History"
def TX2 : u_T := fun k => match k with
  | 0 => ("MapSheets$History", "states", "[LMapSheets$Atlas;", true)
  | 1 => ("MapSheets$History", "oldest", "I", false)
  | _ => ("MapSheets$History", "size", "I", false)
def tyX2 : Nat → FieldType := fun k => match k with
  | 0 => .array (.object "MapSheets$Atlas")
  | 1 => .int
  | _ => .int
abbrev wsX20 : List Cond := u_ws RX2 TX2 3
theorem nmX2 : ∀ a, a < 3 → ∀ b, b < 3 → a ≠ b → (TX2 a).2.1 ≠ (TX2 b).2.1 := by decide +kernel
theorem tyX2_ok : ∀ k, k < 3 → parseFieldDescriptor (TX2 k).2.2.1 = some (tyX2 k) := by decide +kernel
abbrev cX2_init : ByteArray := prog_4_method_1_code
def yX2_init : MethodName := ⟨RX2, "<init>", "()V"⟩
abbrev cX2_stateCount : ByteArray := prog_4_method_2_code
def yX2_stateCount : MethodName := ⟨RX2, "stateCount", "()I"⟩
abbrev cX2_recordState : ByteArray := prog_4_method_3_code
def yX2_recordState : MethodName := ⟨RX2, "recordState", "(LMapSheets$Atlas;)V"⟩
abbrev cX2_returnToRecord : ByteArray := prog_4_method_4_code
def yX2_returnToRecord : MethodName := ⟨RX2, "returnToRecord", "(LMapSheets$Atlas;)V"⟩
abbrev cX2_keepRecord : ByteArray := prog_4_method_5_code
def yX2_keepRecord : MethodName := ⟨RX2, "keepRecord", "()V"⟩
abbrev cX2_stateAt : ByteArray := prog_4_method_7_code
def yX2_stateAt : MethodName := ⟨RX2, "stateAt", "(I)LMapSheets$Atlas;"⟩
def RX3 : String := "MapSheets$SignText"
def TX3 : u_T := fun k => match k with
  | 0 => ("MapSheets$SignText", "characters", "[C", true)
  | _ => ("MapSheets$SignText", "length", "I", false)
def tyX3 : Nat → FieldType := fun k => match k with
  | 0 => .array .char
  | _ => .int
abbrev wsX30 : List Cond := u_ws RX3 TX3 2
theorem nmX3 : ∀ a, a < 2 → ∀ b, b < 2 → a ≠ b → (TX3 a).2.1 ≠ (TX3 b).2.1 := by decide +kernel
theorem tyX3_ok : ∀ k, k < 2 → parseFieldDescriptor (TX3 k).2.2.1 = some (tyX3 k) := by decide +kernel
abbrev cX3_init : ByteArray := prog_5_method_1_code
def yX3_init : MethodName := ⟨RX3, "<init>", "()V"⟩
abbrev cX3_characterCount : ByteArray := prog_5_method_2_code
def yX3_characterCount : MethodName := ⟨RX3, "characterCount", "()I"⟩
def RX4 : String := "MapSheets"
def TX4 : u_T := fun k => match k with
  | 0 => ("MapSheets", "now", "LMapSheets$Atlas;", true)
  | 1 => ("MapSheets", "history", "LMapSheets$History;", true)
  | 2 => ("MapSheets", "blocks", "LMapSheets$Blocks;", true)
  | _ => ("MapSheets", "text", "LMapSheets$SignText;", true)
def tyX4 : Nat → FieldType := fun k => match k with
  | 0 => .object "MapSheets$Atlas"
  | 1 => .object "MapSheets$History"
  | 2 => .object "MapSheets$Blocks"
  | _ => .object "MapSheets$SignText"
abbrev wsX40 : List Cond := u_ws RX4 TX4 4
theorem nmX4 : ∀ a, a < 4 → ∀ b, b < 4 → a ≠ b → (TX4 a).2.1 ≠ (TX4 b).2.1 := by decide +kernel
theorem tyX4_ok : ∀ k, k < 4 → parseFieldDescriptor (TX4 k).2.2.1 = some (tyX4 k) := by decide +kernel
abbrev cX4_init : ByteArray := prog_1_method_1_code
def yX4_init : MethodName := ⟨RX4, "<init>", "()V"⟩
abbrev cX4_grid : ByteArray := prog_1_method_2_code
def yX4_grid : MethodName := ⟨RX4, "grid", "(II)I"⟩
abbrev cX4_set : ByteArray := prog_1_method_3_code
def yX4_set : MethodName := ⟨RX4, "set", "(II)I"⟩
abbrev cX4_show : ByteArray := prog_1_method_4_code
def yX4_show : MethodName := ⟨RX4, "show", "(IIII)I"⟩
abbrev cX4_erase : ByteArray := prog_1_method_5_code
def yX4_erase : MethodName := ⟨RX4, "erase", "(III)I"⟩
abbrev cX4_mean : ByteArray := prog_1_method_6_code
def yX4_mean : MethodName := ⟨RX4, "mean", "(III)I"⟩
abbrev cX4_sign : ByteArray := prog_1_method_7_code
def yX4_sign : MethodName := ⟨RX4, "sign", "(III)I"⟩
abbrev cX4_meaning : ByteArray := prog_1_method_8_code
def yX4_meaning : MethodName := ⟨RX4, "meaning", "(II)I"⟩
abbrev cX4_sheet : ByteArray := prog_1_method_9_code
def yX4_sheet : MethodName := ⟨RX4, "sheet", "(II)I"⟩
abbrev cX4_count : ByteArray := prog_1_method_10_code
def yX4_count : MethodName := ⟨RX4, "count", "(I)I"⟩
abbrev cX4_edge : ByteArray := prog_1_method_12_code
def yX4_edge : MethodName := ⟨RX4, "edge", "(II)I"⟩
abbrev cX4_edgeAt : ByteArray := prog_1_method_13_code
def yX4_edgeAt : MethodName := ⟨RX4, "edgeAt", "(II)I"⟩
abbrev cX4_quarrel : ByteArray := prog_1_method_14_code
def yX4_quarrel : MethodName := ⟨RX4, "quarrel", "(III)I"⟩
abbrev cX4_agree : ByteArray := prog_1_method_15_code
def yX4_agree : MethodName := ⟨RX4, "agree", "(I)I"⟩
abbrev cX4_release : ByteArray := prog_1_method_16_code
def yX4_release : MethodName := ⟨RX4, "release", "(I)I"⟩
abbrev cX4_settle : ByteArray := prog_1_method_17_code
def yX4_settle : MethodName := ⟨RX4, "settle", "(II)I"⟩
abbrev cX4_publish : ByteArray := prog_1_method_19_code
def yX4_publish : MethodName := ⟨RX4, "publish", "(I)I"⟩
abbrev cX4_scale : ByteArray := prog_1_method_20_code
def yX4_scale : MethodName := ⟨RX4, "scale", "(II)I"⟩
abbrev cX4_endRevision : ByteArray := prog_1_method_26_code
def yX4_endRevision : MethodName := ⟨RX4, "endRevision", "(II)I"⟩
abbrev cX4_isWithin : ByteArray := prog_1_method_27_code
def yX4_isWithin : MethodName := ⟨RX4, "isWithin", "(III)Z"⟩
abbrev cX4_isDigit : ByteArray := prog_1_method_28_code
def yX4_isDigit : MethodName := ⟨RX4, "isDigit", "(I)Z"⟩
abbrev cX4_valueAt : ByteArray := prog_1_method_29_code
def yX4_valueAt : MethodName := ⟨RX4, "valueAt", "([III)I"⟩
abbrev cX4_exchange : ByteArray := prog_1_method_30_code
def yX4_exchange : MethodName := ⟨RX4, "exchange", "([III)I"⟩
abbrev cX4_copyRow : ByteArray := prog_1_method_31_code
def yX4_copyRow : MethodName := ⟨RX4, "copyRow", "([I[I)V"⟩
def RX5 : String := "MapSheetsModel"
def TX5 : u_T := fun k => match k with
  | _ => ("", "", "", false)
def tyX5 : Nat → FieldType := fun k => match k with
  | _ => .int
abbrev wsX50 : List Cond := u_ws RX5 TX5 0
theorem nmX5 : ∀ a, a < 0 → ∀ b, b < 0 → a ≠ b → (TX5 a).2.1 ≠ (TX5 b).2.1 := by decide +kernel
theorem tyX5_ok : ∀ k, k < 0 → parseFieldDescriptor (TX5 k).2.2.1 = some (tyX5 k) := by decide +kernel
def RJ9 : String := "java/lang/Math"
def TJ9 : u_T := fun k => match k with
  | _ => ("", "", "", false)
def tyJ9 : Nat → FieldType := fun k => match k with
  | _ => .int
abbrev wsJ90 : List Cond := u_ws RJ9 TJ9 0
theorem nmJ9 : ∀ a, a < 0 → ∀ b, b < 0 → a ≠ b → (TJ9 a).2.1 ≠ (TJ9 b).2.1 := by decide +kernel
theorem tyJ9_ok : ∀ k, k < 0 → parseFieldDescriptor (TJ9 k).2.2.1 = some (tyJ9 k) := by decide +kernel
abbrev cJ9_max_7cf53 : ByteArray := prog_8_method_65_code
def yJ9_max_7cf53 : MethodName := ⟨RJ9, "max", "(II)I"⟩
abbrev cJ9_min_7cf53 : ByteArray := prog_8_method_69_code
def yJ9_min_7cf53 : MethodName := ⟨RJ9, "min", "(II)I"⟩
def RJ10 : String := "java/lang/System"
def TJ10 : u_T := fun k => match k with
  | _ => ("", "", "", false)
def tyJ10 : Nat → FieldType := fun k => match k with
  | _ => .int
abbrev wsJ100 : List Cond := u_ws RJ10 TJ10 0
theorem nmJ10 : ∀ a, a < 0 → ∀ b, b < 0 → a ≠ b → (TJ10 a).2.1 ≠ (TJ10 b).2.1 := by decide +kernel
theorem tyJ10_ok : ∀ k, k < 0 → parseFieldDescriptor (TJ10 k).2.2.1 = some (tyJ10 k) := by decide +kernel
def RJ7 : String := "java/util/Arrays"
def TJ7 : u_T := fun k => match k with
  | _ => ("", "", "", false)
def tyJ7 : Nat → FieldType := fun k => match k with
  | _ => .int
abbrev wsJ70 : List Cond := u_ws RJ7 TJ7 0
theorem nmJ7 : ∀ a, a < 0 → ∀ b, b < 0 → a ≠ b → (TJ7 a).2.1 ≠ (TJ7 b).2.1 := by decide +kernel
theorem tyJ7_ok : ∀ k, k < 0 → parseFieldDescriptor (TJ7 k).2.2.1 = some (tyJ7 k) := by decide +kernel
abbrev cJ7_fill_53178 : ByteArray := prog_10_method_103_code
def yJ7_fill_53178 : MethodName := ⟨RJ7, "fill", "([II)V"⟩
def RL : String := "MapSheetsLaw"
abbrev cL_cell : ByteArray := method_2_code
def yL_cell : MethodName := ⟨RL, "cell", "([II)I"⟩
abbrev cL_low : ByteArray := method_3_code
def yL_low : MethodName := ⟨RL, "low", "(II)I"⟩
abbrev cL_power : ByteArray := method_4_code
def yL_power : MethodName := ⟨RL, "power", "(II)J"⟩
abbrev cL_digit : ByteArray := method_5_code
def yL_digit : MethodName := ⟨RL, "digit", "(JII)I"⟩
abbrev cL_means : ByteArray := method_6_code
def yL_means : MethodName := ⟨RL, "means", "([J[JIII)I"⟩
abbrev cL_edge : ByteArray := method_7_code
def yL_edge : MethodName := ⟨RL, "edge", "([II)I"⟩
abbrev cL_other : ByteArray := method_8_code
def yL_other : MethodName := ⟨RL, "other", "([II)I"⟩
abbrev cL_reason : ByteArray := method_9_code
def yL_reason : MethodName := ⟨RL, "reason", "([I[J[JII)I"⟩
abbrev cL_quarrels : ByteArray := method_10_code
def yL_quarrels : MethodName := ⟨RL, "quarrels", "([I[J[JI)I"⟩
abbrev cL_torn : ByteArray := method_11_code
def yL_torn : MethodName := ⟨RL, "torn", "([I[J[J)I"⟩
abbrev cL_begins : ByteArray := method_12_code
def yL_begins : MethodName := ⟨RL, "begins", "([I[I[J[JII)V"⟩
abbrev cL_keeps : ByteArray := method_13_code
def yL_keeps : MethodName := ⟨RL, "keeps", "([I[I[J[JIIJZ)Z"⟩
abbrev cL_edgeAt : ByteArray := method_14_code
def yL_edgeAt : MethodName := ⟨RL, "edgeAt", "([III)I"⟩
abbrev cL_acts : ByteArray := method_15_code
def yL_acts : MethodName := ⟨RL, "acts", "(LMapSheets;[I[I[J[JI)Z"⟩
abbrev cL_block : ByteArray := method_16_code
def yL_block : MethodName := ⟨RL, "block", "([II)I"⟩
abbrev cL_areEdges : ByteArray := method_17_code
def yL_areEdges : MethodName := ⟨RL, "areEdges", "(LMapSheets;[I[J[J)Z"⟩
abbrev cL_isSo : ByteArray := method_18_code
def yL_isSo : MethodName := ⟨RL, "isSo", "(LMapSheets;[I[I[J[J)Z"⟩
abbrev cL_law : ByteArray := code
def yL_law : MethodName := ⟨RL, "law", "([I)Z"⟩
def wsJ7_fill_53178 : List Cond := .code yJ7_fill_53178 cJ7_fill_53178 4 none :: ([])
def wsX0_begin : List Cond := .code yX0_begin cX0_begin 4 none :: ([.fieldLink RX0 41 "MapSheets$Atlas" "columns" "I", .fieldLink RX0 44 "MapSheets$Atlas" "rows" "I", .fieldLink RX0 9 "MapSheets$Atlas" "signs" "[I", .fieldLink RX0 15 "MapSheets$Atlas" "meanings" "[I", .fieldLink RX0 18 "MapSheets$Atlas" "revisions" "[I", .fieldLink RX0 21 "MapSheets$Atlas" "published" "[I", .fieldLink RX0 24 "MapSheets$Atlas" "scales" "[I", .fieldLink RX0 27 "MapSheets$Atlas" "agreed" "[I", .methodLink RX0 47 yJ7_fill_53178, .static yJ7_fill_53178, .initialized RJ7, .code yJ7_fill_53178 cJ7_fill_53178 4 none] ++ wsX00)
def wsX0_init : List Cond := .code yX0_init cX0_init 1 none :: ([.methodLink RX0 3 objectInit, .instanceMethod objectInit, .code objectInit ⟨#[0xb1]⟩ 1 none, .arrayClass .int, .fieldLink RX0 9 "MapSheets$Atlas" "signs" "[I", .fieldLink RX0 15 "MapSheets$Atlas" "meanings" "[I", .fieldLink RX0 18 "MapSheets$Atlas" "revisions" "[I", .fieldLink RX0 21 "MapSheets$Atlas" "published" "[I", .fieldLink RX0 24 "MapSheets$Atlas" "scales" "[I", .fieldLink RX0 27 "MapSheets$Atlas" "agreed" "[I", .fieldLink RX0 30 "MapSheets$Atlas" "guard" "I", .fieldLink RX0 34 "MapSheets$Atlas" "tolerance" "I", .methodLink RX0 37 yX0_begin, .instanceMethod yX0_begin, .selects RX0 yX0_begin yX0_begin, .initialized RX0, .code yX0_begin cX0_begin 4 none, .fieldLink RX0 41 "MapSheets$Atlas" "columns" "I", .fieldLink RX0 44 "MapSheets$Atlas" "rows" "I", .methodLink RX0 47 yJ7_fill_53178, .static yJ7_fill_53178, .initialized RJ7, .code yJ7_fill_53178 cJ7_fill_53178 4 none] ++ wsX00)
def wsX4_copyRow : List Cond := .code yX4_copyRow cX4_copyRow 2 none :: ([.methodLink RX4 261 arraycopyName, .native arraycopyName, .static arraycopyName, .initialized "java/lang/System"])
def wsX0_copyFrom : List Cond := .code yX0_copyFrom cX0_copyFrom 2 none :: ([.fieldLink RX0 9 "MapSheets$Atlas" "signs" "[I", .fieldLink RX0 15 "MapSheets$Atlas" "meanings" "[I", .fieldLink RX0 18 "MapSheets$Atlas" "revisions" "[I", .fieldLink RX0 21 "MapSheets$Atlas" "published" "[I", .fieldLink RX0 24 "MapSheets$Atlas" "scales" "[I", .fieldLink RX0 27 "MapSheets$Atlas" "agreed" "[I", .fieldLink RX0 41 "MapSheets$Atlas" "columns" "I", .fieldLink RX0 44 "MapSheets$Atlas" "rows" "I", .fieldLink RX0 30 "MapSheets$Atlas" "guard" "I", .fieldLink RX0 34 "MapSheets$Atlas" "tolerance" "I", .static yX4_copyRow, .initialized RX4, .code yX4_copyRow cX4_copyRow 2 none, .methodLink RX4 261 arraycopyName, .native arraycopyName, .static arraycopyName, .initialized "java/lang/System"] ++ wsX00)
def wsX0_guardValue : List Cond := .code yX0_guardValue cX0_guardValue 1 (some .int) :: ([.fieldLink RX0 30 "MapSheets$Atlas" "guard" "I"] ++ wsX00)
def wsX0_toleranceValue : List Cond := .code yX0_toleranceValue cX0_toleranceValue 1 (some .int) :: ([.fieldLink RX0 34 "MapSheets$Atlas" "tolerance" "I"] ++ wsX00)
def wsX0_putGuard : List Cond := .code yX0_putGuard cX0_putGuard 3 (some .int) :: ([.fieldLink RX0 30 "MapSheets$Atlas" "guard" "I"] ++ wsX00)
def wsX0_putTolerance : List Cond := .code yX0_putTolerance cX0_putTolerance 3 (some .int) :: ([.fieldLink RX0 34 "MapSheets$Atlas" "tolerance" "I"] ++ wsX00)
def wsX0_columnCount : List Cond := .code yX0_columnCount cX0_columnCount 1 (some .int) :: ([.fieldLink RX0 41 "MapSheets$Atlas" "columns" "I"] ++ wsX00)
def wsX0_rowCount : List Cond := .code yX0_rowCount cX0_rowCount 1 (some .int) :: ([.fieldLink RX0 44 "MapSheets$Atlas" "rows" "I"] ++ wsX00)
def wsX0_sheetCount : List Cond := .code yX0_sheetCount cX0_sheetCount 1 (some .int) :: ([.fieldLink RX0 41 "MapSheets$Atlas" "columns" "I", .fieldLink RX0 44 "MapSheets$Atlas" "rows" "I"] ++ wsX00)
def wsX0_hasSheet : List Cond := .code yX0_hasSheet cX0_hasSheet 2 (some .boolean) :: ([.methodLink RX0 57 yX0_sheetCount, .instanceMethod yX0_sheetCount, .selects RX0 yX0_sheetCount yX0_sheetCount, .initialized RX0, .code yX0_sheetCount cX0_sheetCount 1 (some .int), .fieldLink RX0 41 "MapSheets$Atlas" "columns" "I", .fieldLink RX0 44 "MapSheets$Atlas" "rows" "I"] ++ wsX00)
def wsX4_isWithin : List Cond := .code yX4_isWithin cX4_isWithin 3 (some .boolean) :: ([])
def wsX0_hasPlace : List Cond := .code yX0_hasPlace cX0_hasPlace 4 (some .boolean) :: ([.methodLink RX0 61 yX0_hasSheet, .instanceMethod yX0_hasSheet, .selects RX0 yX0_hasSheet yX0_hasSheet, .initialized RX0, .code yX0_hasSheet cX0_hasSheet 2 (some .boolean), .methodLink RX0 57 yX0_sheetCount, .instanceMethod yX0_sheetCount, .selects RX0 yX0_sheetCount yX0_sheetCount, .code yX0_sheetCount cX0_sheetCount 1 (some .int), .fieldLink RX0 41 "MapSheets$Atlas" "columns" "I", .fieldLink RX0 44 "MapSheets$Atlas" "rows" "I", .static yX4_isWithin, .initialized RX4, .code yX4_isWithin cX4_isWithin 3 (some .boolean)] ++ wsX00)
def wsX0_columnOf : List Cond := .code yX0_columnOf cX0_columnOf 2 (some .int) :: ([.fieldLink RX0 41 "MapSheets$Atlas" "columns" "I"] ++ wsX00)
def wsX0_rowOf : List Cond := .code yX0_rowOf cX0_rowOf 2 (some .int) :: ([.fieldLink RX0 41 "MapSheets$Atlas" "columns" "I"] ++ wsX00)
def wsX0_rowEdgeCount : List Cond := .code yX0_rowEdgeCount cX0_rowEdgeCount 1 (some .int) :: ([.fieldLink RX0 41 "MapSheets$Atlas" "columns" "I", .fieldLink RX0 44 "MapSheets$Atlas" "rows" "I"] ++ wsX00)
def wsX0_edgeCount : List Cond := .code yX0_edgeCount cX0_edgeCount 1 (some .int) :: ([.fieldLink RX0 41 "MapSheets$Atlas" "columns" "I", .fieldLink RX0 44 "MapSheets$Atlas" "rows" "I", .methodLink RX0 69 yX0_rowEdgeCount, .instanceMethod yX0_rowEdgeCount, .selects RX0 yX0_rowEdgeCount yX0_rowEdgeCount, .initialized RX0, .code yX0_rowEdgeCount cX0_rowEdgeCount 1 (some .int)] ++ wsX00)
def wsX0_hasEdge : List Cond := .code yX0_hasEdge cX0_hasEdge 2 (some .boolean) :: ([.methodLink RX0 72 yX0_edgeCount, .instanceMethod yX0_edgeCount, .selects RX0 yX0_edgeCount yX0_edgeCount, .initialized RX0, .code yX0_edgeCount cX0_edgeCount 1 (some .int), .fieldLink RX0 41 "MapSheets$Atlas" "columns" "I", .fieldLink RX0 44 "MapSheets$Atlas" "rows" "I", .methodLink RX0 69 yX0_rowEdgeCount, .instanceMethod yX0_rowEdgeCount, .selects RX0 yX0_rowEdgeCount yX0_rowEdgeCount, .code yX0_rowEdgeCount cX0_rowEdgeCount 1 (some .int)] ++ wsX00)
def wsX0_firstSheet : List Cond := .code yX0_firstSheet cX0_firstSheet 4 (some .int) :: ([.fieldLink RX0 41 "MapSheets$Atlas" "columns" "I", .fieldLink RX0 44 "MapSheets$Atlas" "rows" "I"] ++ wsX00)
def wsX0_secondSheet : List Cond := .code yX0_secondSheet cX0_secondSheet 2 (some .int) :: ([.fieldLink RX0 41 "MapSheets$Atlas" "columns" "I", .methodLink RX0 75 yX0_firstSheet, .instanceMethod yX0_firstSheet, .selects RX0 yX0_firstSheet yX0_firstSheet, .initialized RX0, .code yX0_firstSheet cX0_firstSheet 4 (some .int), .fieldLink RX0 44 "MapSheets$Atlas" "rows" "I", .methodLink RX0 69 yX0_rowEdgeCount, .instanceMethod yX0_rowEdgeCount, .selects RX0 yX0_rowEdgeCount yX0_rowEdgeCount, .code yX0_rowEdgeCount cX0_rowEdgeCount 1 (some .int)] ++ wsX00)
def wsX0_firstSide : List Cond := .code yX0_firstSide cX0_firstSide 2 (some .int) :: ([.methodLink RX0 69 yX0_rowEdgeCount, .instanceMethod yX0_rowEdgeCount, .selects RX0 yX0_rowEdgeCount yX0_rowEdgeCount, .initialized RX0, .code yX0_rowEdgeCount cX0_rowEdgeCount 1 (some .int), .fieldLink RX0 41 "MapSheets$Atlas" "columns" "I", .fieldLink RX0 44 "MapSheets$Atlas" "rows" "I"] ++ wsX00)
def wsX0_secondSide : List Cond := .code yX0_secondSide cX0_secondSide 2 (some .int) :: ([.methodLink RX0 69 yX0_rowEdgeCount, .instanceMethod yX0_rowEdgeCount, .selects RX0 yX0_rowEdgeCount yX0_rowEdgeCount, .initialized RX0, .code yX0_rowEdgeCount cX0_rowEdgeCount 1 (some .int), .fieldLink RX0 41 "MapSheets$Atlas" "columns" "I", .fieldLink RX0 44 "MapSheets$Atlas" "rows" "I"] ++ wsX00)
def wsX0_edgeOf : List Cond := .code yX0_edgeOf cX0_edgeOf 7 (some .int) :: ([.fieldLink RX0 41 "MapSheets$Atlas" "columns" "I", .fieldLink RX0 44 "MapSheets$Atlas" "rows" "I", .methodLink RX0 79 yX0_columnOf, .instanceMethod yX0_columnOf, .selects RX0 yX0_columnOf yX0_columnOf, .initialized RX0, .code yX0_columnOf cX0_columnOf 2 (some .int), .methodLink RX0 82 yX0_rowOf, .instanceMethod yX0_rowOf, .selects RX0 yX0_rowOf yX0_rowOf, .code yX0_rowOf cX0_rowOf 2 (some .int), .methodLink RX0 69 yX0_rowEdgeCount, .instanceMethod yX0_rowEdgeCount, .selects RX0 yX0_rowEdgeCount yX0_rowEdgeCount, .code yX0_rowEdgeCount cX0_rowEdgeCount 1 (some .int)] ++ wsX00)
def wsX0_edgesOf : List Cond := .code yX0_edgesOf cX0_edgesOf 4 (some .int) :: ([.methodLink RX0 85 yX0_edgeOf, .instanceMethod yX0_edgeOf, .selects RX0 yX0_edgeOf yX0_edgeOf, .initialized RX0, .code yX0_edgeOf cX0_edgeOf 7 (some .int), .fieldLink RX0 41 "MapSheets$Atlas" "columns" "I", .fieldLink RX0 44 "MapSheets$Atlas" "rows" "I", .methodLink RX0 79 yX0_columnOf, .instanceMethod yX0_columnOf, .selects RX0 yX0_columnOf yX0_columnOf, .code yX0_columnOf cX0_columnOf 2 (some .int), .methodLink RX0 82 yX0_rowOf, .instanceMethod yX0_rowOf, .selects RX0 yX0_rowOf yX0_rowOf, .code yX0_rowOf cX0_rowOf 2 (some .int), .methodLink RX0 69 yX0_rowEdgeCount, .instanceMethod yX0_rowEdgeCount, .selects RX0 yX0_rowEdgeCount yX0_rowEdgeCount, .code yX0_rowEdgeCount cX0_rowEdgeCount 1 (some .int)] ++ wsX00)
def wsX0_placeOf : List Cond := .code yX0_placeOf cX0_placeOf 3 (some .int) :: ([])
def wsX4_valueAt : List Cond := .code yX4_valueAt cX4_valueAt 3 (some .int) :: ([])
def wsX0_signAt : List Cond := .code yX0_signAt cX0_signAt 4 (some .int) :: ([.fieldLink RX0 9 "MapSheets$Atlas" "signs" "[I", .methodLink RX0 89 yX0_placeOf, .static yX0_placeOf, .initialized RX0, .code yX0_placeOf cX0_placeOf 3 (some .int), .static yX4_valueAt, .initialized RX4, .code yX4_valueAt cX4_valueAt 3 (some .int)] ++ wsX00)
def wsX4_exchange : List Cond := .code yX4_exchange cX4_exchange 4 (some .int) :: ([])
def wsX0_putSign : List Cond := .code yX0_putSign cX0_putSign 5 (some .int) :: ([.fieldLink RX0 9 "MapSheets$Atlas" "signs" "[I", .methodLink RX0 89 yX0_placeOf, .static yX0_placeOf, .initialized RX0, .code yX0_placeOf cX0_placeOf 3 (some .int), .static yX4_exchange, .initialized RX4, .code yX4_exchange cX4_exchange 4 (some .int)] ++ wsX00)
def wsX0_signsShownOn : List Cond := .code yX0_signsShownOn cX0_signsShownOn 5 (some .int) :: ([.methodLink RX0 100 yX0_signAt, .instanceMethod yX0_signAt, .selects RX0 yX0_signAt yX0_signAt, .initialized RX0, .code yX0_signAt cX0_signAt 4 (some .int), .fieldLink RX0 9 "MapSheets$Atlas" "signs" "[I", .methodLink RX0 89 yX0_placeOf, .static yX0_placeOf, .code yX0_placeOf cX0_placeOf 3 (some .int), .static yX4_valueAt, .initialized RX4, .code yX4_valueAt cX4_valueAt 3 (some .int)] ++ wsX00)
def wsX0_meaningOf : List Cond := .code yX0_meaningOf cX0_meaningOf 3 (some .int) :: ([.fieldLink RX0 15 "MapSheets$Atlas" "meanings" "[I", .static yX4_valueAt, .initialized RX4, .code yX4_valueAt cX4_valueAt 3 (some .int)] ++ wsX00)
def wsX0_putMeaning : List Cond := .code yX0_putMeaning cX0_putMeaning 4 (some .int) :: ([.fieldLink RX0 15 "MapSheets$Atlas" "meanings" "[I", .static yX4_exchange, .initialized RX4, .code yX4_exchange cX4_exchange 4 (some .int)] ++ wsX00)
def wsX0_lowestSign : List Cond := .code yX0_lowestSign cX0_lowestSign 4 (some .int) :: ([.methodLink RX0 103 yX0_meaningOf, .instanceMethod yX0_meaningOf, .selects RX0 yX0_meaningOf yX0_meaningOf, .initialized RX0, .code yX0_meaningOf cX0_meaningOf 3 (some .int), .fieldLink RX0 15 "MapSheets$Atlas" "meanings" "[I", .static yX4_valueAt, .initialized RX4, .code yX4_valueAt cX4_valueAt 3 (some .int)] ++ wsX00)
def wsX0_meaningAt : List Cond := .code yX0_meaningAt cX0_meaningAt 5 (some .int) :: ([.fieldLink RX0 9 "MapSheets$Atlas" "signs" "[I", .fieldLink RX0 15 "MapSheets$Atlas" "meanings" "[I", .methodLink RX0 89 yX0_placeOf, .static yX0_placeOf, .initialized RX0, .code yX0_placeOf cX0_placeOf 3 (some .int), .static yX4_valueAt, .initialized RX4, .code yX4_valueAt cX4_valueAt 3 (some .int)] ++ wsX00)
def wsX0_reasonAt_r1 : List Cond := [Cond.methodLink RX0 75 yX0_firstSheet, Cond.instanceMethod yX0_firstSheet, Cond.selects RX0 yX0_firstSheet yX0_firstSheet, Cond.initialized RX0, Cond.code yX0_firstSheet cX0_firstSheet 4 (some .int), Cond.fieldLink RX0 41 "MapSheets$Atlas" "columns" "I", Cond.fieldLink RX0 44 "MapSheets$Atlas" "rows" "I", Cond.methodLink RX0 106 yX0_firstSide, Cond.instanceMethod yX0_firstSide, Cond.selects RX0 yX0_firstSide yX0_firstSide, Cond.code yX0_firstSide cX0_firstSide 2 (some .int), Cond.methodLink RX0 69 yX0_rowEdgeCount, Cond.instanceMethod yX0_rowEdgeCount, Cond.selects RX0 yX0_rowEdgeCount yX0_rowEdgeCount, Cond.code yX0_rowEdgeCount cX0_rowEdgeCount 1 (some .int), Cond.methodLink RX0 109 yX0_meaningAt, Cond.instanceMethod yX0_meaningAt, Cond.selects RX0 yX0_meaningAt yX0_meaningAt, Cond.code yX0_meaningAt cX0_meaningAt 5 (some .int), Cond.fieldLink RX0 9 "MapSheets$Atlas" "signs" "[I", Cond.fieldLink RX0 15 "MapSheets$Atlas" "meanings" "[I", Cond.methodLink RX0 89 yX0_placeOf, Cond.static yX0_placeOf, Cond.code yX0_placeOf cX0_placeOf 3 (some .int)]
def wsX0_reasonAt_r2 : List Cond := [Cond.static yX4_valueAt, Cond.initialized RX4, Cond.code yX4_valueAt cX4_valueAt 3 (some .int), Cond.methodLink RX0 112 yX0_secondSheet, Cond.instanceMethod yX0_secondSheet, Cond.selects RX0 yX0_secondSheet yX0_secondSheet, Cond.code yX0_secondSheet cX0_secondSheet 2 (some .int), Cond.methodLink RX0 115 yX0_secondSide, Cond.instanceMethod yX0_secondSide, Cond.selects RX0 yX0_secondSide yX0_secondSide, Cond.code yX0_secondSide cX0_secondSide 2 (some .int)]
def wsX0_reasonAt : List Cond := .code yX0_reasonAt cX0_reasonAt 5 (some .int) :: ((wsX0_reasonAt_r1 ++ wsX0_reasonAt_r2) ++ wsX00)
def wsX0_quarrelsOf_r1 : List Cond := [Cond.methodLink RX0 118 yX0_reasonAt, Cond.instanceMethod yX0_reasonAt, Cond.selects RX0 yX0_reasonAt yX0_reasonAt, Cond.initialized RX0, Cond.code yX0_reasonAt cX0_reasonAt 5 (some .int), Cond.methodLink RX0 75 yX0_firstSheet, Cond.instanceMethod yX0_firstSheet, Cond.selects RX0 yX0_firstSheet yX0_firstSheet, Cond.code yX0_firstSheet cX0_firstSheet 4 (some .int), Cond.fieldLink RX0 41 "MapSheets$Atlas" "columns" "I", Cond.fieldLink RX0 44 "MapSheets$Atlas" "rows" "I", Cond.methodLink RX0 106 yX0_firstSide, Cond.instanceMethod yX0_firstSide, Cond.selects RX0 yX0_firstSide yX0_firstSide, Cond.code yX0_firstSide cX0_firstSide 2 (some .int), Cond.methodLink RX0 69 yX0_rowEdgeCount, Cond.instanceMethod yX0_rowEdgeCount, Cond.selects RX0 yX0_rowEdgeCount yX0_rowEdgeCount, Cond.code yX0_rowEdgeCount cX0_rowEdgeCount 1 (some .int), Cond.methodLink RX0 109 yX0_meaningAt, Cond.instanceMethod yX0_meaningAt, Cond.selects RX0 yX0_meaningAt yX0_meaningAt, Cond.code yX0_meaningAt cX0_meaningAt 5 (some .int), Cond.fieldLink RX0 9 "MapSheets$Atlas" "signs" "[I"]
def wsX0_quarrelsOf_r2 : List Cond := [Cond.fieldLink RX0 15 "MapSheets$Atlas" "meanings" "[I", Cond.methodLink RX0 89 yX0_placeOf, Cond.static yX0_placeOf, Cond.code yX0_placeOf cX0_placeOf 3 (some .int), Cond.static yX4_valueAt, Cond.initialized RX4, Cond.code yX4_valueAt cX4_valueAt 3 (some .int), Cond.methodLink RX0 112 yX0_secondSheet, Cond.instanceMethod yX0_secondSheet, Cond.selects RX0 yX0_secondSheet yX0_secondSheet, Cond.code yX0_secondSheet cX0_secondSheet 2 (some .int), Cond.methodLink RX0 115 yX0_secondSide, Cond.instanceMethod yX0_secondSide, Cond.selects RX0 yX0_secondSide yX0_secondSide, Cond.code yX0_secondSide cX0_secondSide 2 (some .int)]
def wsX0_quarrelsOf : List Cond := .code yX0_quarrelsOf cX0_quarrelsOf 4 (some .int) :: ((wsX0_quarrelsOf_r1 ++ wsX0_quarrelsOf_r2) ++ wsX00)
def wsX0_positionOfQuarrel_r1 : List Cond := [Cond.methodLink RX0 118 yX0_reasonAt, Cond.instanceMethod yX0_reasonAt, Cond.selects RX0 yX0_reasonAt yX0_reasonAt, Cond.initialized RX0, Cond.code yX0_reasonAt cX0_reasonAt 5 (some .int), Cond.methodLink RX0 75 yX0_firstSheet, Cond.instanceMethod yX0_firstSheet, Cond.selects RX0 yX0_firstSheet yX0_firstSheet, Cond.code yX0_firstSheet cX0_firstSheet 4 (some .int), Cond.fieldLink RX0 41 "MapSheets$Atlas" "columns" "I", Cond.fieldLink RX0 44 "MapSheets$Atlas" "rows" "I", Cond.methodLink RX0 106 yX0_firstSide, Cond.instanceMethod yX0_firstSide, Cond.selects RX0 yX0_firstSide yX0_firstSide, Cond.code yX0_firstSide cX0_firstSide 2 (some .int), Cond.methodLink RX0 69 yX0_rowEdgeCount, Cond.instanceMethod yX0_rowEdgeCount, Cond.selects RX0 yX0_rowEdgeCount yX0_rowEdgeCount, Cond.code yX0_rowEdgeCount cX0_rowEdgeCount 1 (some .int), Cond.methodLink RX0 109 yX0_meaningAt, Cond.instanceMethod yX0_meaningAt, Cond.selects RX0 yX0_meaningAt yX0_meaningAt, Cond.code yX0_meaningAt cX0_meaningAt 5 (some .int), Cond.fieldLink RX0 9 "MapSheets$Atlas" "signs" "[I"]
def wsX0_positionOfQuarrel_r2 : List Cond := [Cond.fieldLink RX0 15 "MapSheets$Atlas" "meanings" "[I", Cond.methodLink RX0 89 yX0_placeOf, Cond.static yX0_placeOf, Cond.code yX0_placeOf cX0_placeOf 3 (some .int), Cond.static yX4_valueAt, Cond.initialized RX4, Cond.code yX4_valueAt cX4_valueAt 3 (some .int), Cond.methodLink RX0 112 yX0_secondSheet, Cond.instanceMethod yX0_secondSheet, Cond.selects RX0 yX0_secondSheet yX0_secondSheet, Cond.code yX0_secondSheet cX0_secondSheet 2 (some .int), Cond.methodLink RX0 115 yX0_secondSide, Cond.instanceMethod yX0_secondSide, Cond.selects RX0 yX0_secondSide yX0_secondSide, Cond.code yX0_secondSide cX0_secondSide 2 (some .int)]
def wsX0_positionOfQuarrel : List Cond := .code yX0_positionOfQuarrel cX0_positionOfQuarrel 5 (some .int) :: ((wsX0_positionOfQuarrel_r1 ++ wsX0_positionOfQuarrel_r2) ++ wsX00)
def wsX0_signsOnBothSides_r1 : List Cond := [Cond.methodLink RX0 75 yX0_firstSheet, Cond.instanceMethod yX0_firstSheet, Cond.selects RX0 yX0_firstSheet yX0_firstSheet, Cond.initialized RX0, Cond.code yX0_firstSheet cX0_firstSheet 4 (some .int), Cond.fieldLink RX0 41 "MapSheets$Atlas" "columns" "I", Cond.fieldLink RX0 44 "MapSheets$Atlas" "rows" "I", Cond.methodLink RX0 106 yX0_firstSide, Cond.instanceMethod yX0_firstSide, Cond.selects RX0 yX0_firstSide yX0_firstSide, Cond.code yX0_firstSide cX0_firstSide 2 (some .int), Cond.methodLink RX0 69 yX0_rowEdgeCount, Cond.instanceMethod yX0_rowEdgeCount, Cond.selects RX0 yX0_rowEdgeCount yX0_rowEdgeCount, Cond.code yX0_rowEdgeCount cX0_rowEdgeCount 1 (some .int), Cond.methodLink RX0 100 yX0_signAt, Cond.instanceMethod yX0_signAt, Cond.selects RX0 yX0_signAt yX0_signAt, Cond.code yX0_signAt cX0_signAt 4 (some .int), Cond.fieldLink RX0 9 "MapSheets$Atlas" "signs" "[I", Cond.methodLink RX0 89 yX0_placeOf, Cond.static yX0_placeOf, Cond.code yX0_placeOf cX0_placeOf 3 (some .int), Cond.static yX4_valueAt]
def wsX0_signsOnBothSides_r2 : List Cond := [Cond.initialized RX4, Cond.code yX4_valueAt cX4_valueAt 3 (some .int), Cond.methodLink RX0 112 yX0_secondSheet, Cond.instanceMethod yX0_secondSheet, Cond.selects RX0 yX0_secondSheet yX0_secondSheet, Cond.code yX0_secondSheet cX0_secondSheet 2 (some .int), Cond.methodLink RX0 115 yX0_secondSide, Cond.instanceMethod yX0_secondSide, Cond.selects RX0 yX0_secondSide yX0_secondSide, Cond.code yX0_secondSide cX0_secondSide 2 (some .int)]
def wsX0_signsOnBothSides : List Cond := .code yX0_signsOnBothSides cX0_signsOnBothSides 6 (some .int) :: ((wsX0_signsOnBothSides_r1 ++ wsX0_signsOnBothSides_r2) ++ wsX00)
def wsX0_quarrelsOfAll_r1 : List Cond := [Cond.methodLink RX0 72 yX0_edgeCount, Cond.instanceMethod yX0_edgeCount, Cond.selects RX0 yX0_edgeCount yX0_edgeCount, Cond.initialized RX0, Cond.code yX0_edgeCount cX0_edgeCount 1 (some .int), Cond.fieldLink RX0 41 "MapSheets$Atlas" "columns" "I", Cond.fieldLink RX0 44 "MapSheets$Atlas" "rows" "I", Cond.methodLink RX0 69 yX0_rowEdgeCount, Cond.instanceMethod yX0_rowEdgeCount, Cond.selects RX0 yX0_rowEdgeCount yX0_rowEdgeCount, Cond.code yX0_rowEdgeCount cX0_rowEdgeCount 1 (some .int), Cond.methodLink RX0 121 yX0_quarrelsOf, Cond.instanceMethod yX0_quarrelsOf, Cond.selects RX0 yX0_quarrelsOf yX0_quarrelsOf, Cond.code yX0_quarrelsOf cX0_quarrelsOf 4 (some .int), Cond.methodLink RX0 118 yX0_reasonAt, Cond.instanceMethod yX0_reasonAt, Cond.selects RX0 yX0_reasonAt yX0_reasonAt, Cond.code yX0_reasonAt cX0_reasonAt 5 (some .int), Cond.methodLink RX0 75 yX0_firstSheet, Cond.instanceMethod yX0_firstSheet, Cond.selects RX0 yX0_firstSheet yX0_firstSheet, Cond.code yX0_firstSheet cX0_firstSheet 4 (some .int), Cond.methodLink RX0 106 yX0_firstSide]
def wsX0_quarrelsOfAll_r2 : List Cond := [Cond.instanceMethod yX0_firstSide, Cond.selects RX0 yX0_firstSide yX0_firstSide, Cond.code yX0_firstSide cX0_firstSide 2 (some .int), Cond.methodLink RX0 109 yX0_meaningAt, Cond.instanceMethod yX0_meaningAt, Cond.selects RX0 yX0_meaningAt yX0_meaningAt, Cond.code yX0_meaningAt cX0_meaningAt 5 (some .int), Cond.fieldLink RX0 9 "MapSheets$Atlas" "signs" "[I", Cond.fieldLink RX0 15 "MapSheets$Atlas" "meanings" "[I", Cond.methodLink RX0 89 yX0_placeOf, Cond.static yX0_placeOf, Cond.code yX0_placeOf cX0_placeOf 3 (some .int), Cond.static yX4_valueAt, Cond.initialized RX4, Cond.code yX4_valueAt cX4_valueAt 3 (some .int), Cond.methodLink RX0 112 yX0_secondSheet, Cond.instanceMethod yX0_secondSheet, Cond.selects RX0 yX0_secondSheet yX0_secondSheet, Cond.code yX0_secondSheet cX0_secondSheet 2 (some .int), Cond.methodLink RX0 115 yX0_secondSide, Cond.instanceMethod yX0_secondSide, Cond.selects RX0 yX0_secondSide yX0_secondSide, Cond.code yX0_secondSide cX0_secondSide 2 (some .int)]
def wsX0_quarrelsOfAll : List Cond := .code yX0_quarrelsOfAll cX0_quarrelsOfAll 4 (some .int) :: ((wsX0_quarrelsOfAll_r1 ++ wsX0_quarrelsOfAll_r2) ++ wsX00)
def wsX0_cleanEdges_r1 : List Cond := [Cond.methodLink RX0 72 yX0_edgeCount, Cond.instanceMethod yX0_edgeCount, Cond.selects RX0 yX0_edgeCount yX0_edgeCount, Cond.initialized RX0, Cond.code yX0_edgeCount cX0_edgeCount 1 (some .int), Cond.fieldLink RX0 41 "MapSheets$Atlas" "columns" "I", Cond.fieldLink RX0 44 "MapSheets$Atlas" "rows" "I", Cond.methodLink RX0 69 yX0_rowEdgeCount, Cond.instanceMethod yX0_rowEdgeCount, Cond.selects RX0 yX0_rowEdgeCount yX0_rowEdgeCount, Cond.code yX0_rowEdgeCount cX0_rowEdgeCount 1 (some .int), Cond.methodLink RX0 121 yX0_quarrelsOf, Cond.instanceMethod yX0_quarrelsOf, Cond.selects RX0 yX0_quarrelsOf yX0_quarrelsOf, Cond.code yX0_quarrelsOf cX0_quarrelsOf 4 (some .int), Cond.methodLink RX0 118 yX0_reasonAt, Cond.instanceMethod yX0_reasonAt, Cond.selects RX0 yX0_reasonAt yX0_reasonAt, Cond.code yX0_reasonAt cX0_reasonAt 5 (some .int), Cond.methodLink RX0 75 yX0_firstSheet, Cond.instanceMethod yX0_firstSheet, Cond.selects RX0 yX0_firstSheet yX0_firstSheet, Cond.code yX0_firstSheet cX0_firstSheet 4 (some .int), Cond.methodLink RX0 106 yX0_firstSide]
def wsX0_cleanEdges_r2 : List Cond := [Cond.instanceMethod yX0_firstSide, Cond.selects RX0 yX0_firstSide yX0_firstSide, Cond.code yX0_firstSide cX0_firstSide 2 (some .int), Cond.methodLink RX0 109 yX0_meaningAt, Cond.instanceMethod yX0_meaningAt, Cond.selects RX0 yX0_meaningAt yX0_meaningAt, Cond.code yX0_meaningAt cX0_meaningAt 5 (some .int), Cond.fieldLink RX0 9 "MapSheets$Atlas" "signs" "[I", Cond.fieldLink RX0 15 "MapSheets$Atlas" "meanings" "[I", Cond.methodLink RX0 89 yX0_placeOf, Cond.static yX0_placeOf, Cond.code yX0_placeOf cX0_placeOf 3 (some .int), Cond.static yX4_valueAt, Cond.initialized RX4, Cond.code yX4_valueAt cX4_valueAt 3 (some .int), Cond.methodLink RX0 112 yX0_secondSheet, Cond.instanceMethod yX0_secondSheet, Cond.selects RX0 yX0_secondSheet yX0_secondSheet, Cond.code yX0_secondSheet cX0_secondSheet 2 (some .int), Cond.methodLink RX0 115 yX0_secondSide, Cond.instanceMethod yX0_secondSide, Cond.selects RX0 yX0_secondSide yX0_secondSide, Cond.code yX0_secondSide cX0_secondSide 2 (some .int)]
def wsX0_cleanEdges : List Cond := .code yX0_cleanEdges cX0_cleanEdges 4 (some .int) :: ((wsX0_cleanEdges_r1 ++ wsX0_cleanEdges_r2) ++ wsX00)
def wsX0_isAgreed : List Cond := .code yX0_isAgreed cX0_isAgreed 2 (some .boolean) :: ([.fieldLink RX0 27 "MapSheets$Atlas" "agreed" "[I", .static yX4_valueAt, .initialized RX4, .code yX4_valueAt cX4_valueAt 3 (some .int)] ++ wsX00)
def wsX0_putAgreed : List Cond := .code yX0_putAgreed cX0_putAgreed 3 (some .int) :: ([.fieldLink RX0 27 "MapSheets$Atlas" "agreed" "[I", .static yX4_exchange, .initialized RX4, .code yX4_exchange cX4_exchange 4 (some .int)] ++ wsX00)
def wsX0_agreedEdges : List Cond := .code yX0_agreedEdges cX0_agreedEdges 4 (some .int) :: ([.methodLink RX0 72 yX0_edgeCount, .instanceMethod yX0_edgeCount, .selects RX0 yX0_edgeCount yX0_edgeCount, .initialized RX0, .code yX0_edgeCount cX0_edgeCount 1 (some .int), .fieldLink RX0 41 "MapSheets$Atlas" "columns" "I", .fieldLink RX0 44 "MapSheets$Atlas" "rows" "I", .methodLink RX0 69 yX0_rowEdgeCount, .instanceMethod yX0_rowEdgeCount, .selects RX0 yX0_rowEdgeCount yX0_rowEdgeCount, .code yX0_rowEdgeCount cX0_rowEdgeCount 1 (some .int), .methodLink RX0 124 yX0_isAgreed, .instanceMethod yX0_isAgreed, .selects RX0 yX0_isAgreed yX0_isAgreed, .code yX0_isAgreed cX0_isAgreed 2 (some .boolean), .fieldLink RX0 27 "MapSheets$Atlas" "agreed" "[I", .static yX4_valueAt, .initialized RX4, .code yX4_valueAt cX4_valueAt 3 (some .int)] ++ wsX00)
def wsX0_agreedEdgesOf_r1 : List Cond := [Cond.methodLink RX0 85 yX0_edgeOf, Cond.instanceMethod yX0_edgeOf, Cond.selects RX0 yX0_edgeOf yX0_edgeOf, Cond.initialized RX0, Cond.code yX0_edgeOf cX0_edgeOf 7 (some .int), Cond.fieldLink RX0 41 "MapSheets$Atlas" "columns" "I", Cond.fieldLink RX0 44 "MapSheets$Atlas" "rows" "I", Cond.methodLink RX0 79 yX0_columnOf, Cond.instanceMethod yX0_columnOf, Cond.selects RX0 yX0_columnOf yX0_columnOf, Cond.code yX0_columnOf cX0_columnOf 2 (some .int), Cond.methodLink RX0 82 yX0_rowOf, Cond.instanceMethod yX0_rowOf, Cond.selects RX0 yX0_rowOf yX0_rowOf, Cond.code yX0_rowOf cX0_rowOf 2 (some .int), Cond.methodLink RX0 69 yX0_rowEdgeCount, Cond.instanceMethod yX0_rowEdgeCount, Cond.selects RX0 yX0_rowEdgeCount yX0_rowEdgeCount, Cond.code yX0_rowEdgeCount cX0_rowEdgeCount 1 (some .int), Cond.methodLink RX0 124 yX0_isAgreed, Cond.instanceMethod yX0_isAgreed, Cond.selects RX0 yX0_isAgreed yX0_isAgreed, Cond.code yX0_isAgreed cX0_isAgreed 2 (some .boolean), Cond.fieldLink RX0 27 "MapSheets$Atlas" "agreed" "[I"]
def wsX0_agreedEdgesOf_r2 : List Cond := [Cond.static yX4_valueAt, Cond.initialized RX4, Cond.code yX4_valueAt cX4_valueAt 3 (some .int)]
def wsX0_agreedEdgesOf : List Cond := .code yX0_agreedEdgesOf cX0_agreedEdgesOf 4 (some .int) :: ((wsX0_agreedEdgesOf_r1 ++ wsX0_agreedEdgesOf_r2) ++ wsX00)
def wsX0_breaksAgreement_r1 : List Cond := [Cond.methodLink RX0 85 yX0_edgeOf, Cond.instanceMethod yX0_edgeOf, Cond.selects RX0 yX0_edgeOf yX0_edgeOf, Cond.initialized RX0, Cond.code yX0_edgeOf cX0_edgeOf 7 (some .int), Cond.fieldLink RX0 41 "MapSheets$Atlas" "columns" "I", Cond.fieldLink RX0 44 "MapSheets$Atlas" "rows" "I", Cond.methodLink RX0 79 yX0_columnOf, Cond.instanceMethod yX0_columnOf, Cond.selects RX0 yX0_columnOf yX0_columnOf, Cond.code yX0_columnOf cX0_columnOf 2 (some .int), Cond.methodLink RX0 82 yX0_rowOf, Cond.instanceMethod yX0_rowOf, Cond.selects RX0 yX0_rowOf yX0_rowOf, Cond.code yX0_rowOf cX0_rowOf 2 (some .int), Cond.methodLink RX0 69 yX0_rowEdgeCount, Cond.instanceMethod yX0_rowEdgeCount, Cond.selects RX0 yX0_rowEdgeCount yX0_rowEdgeCount, Cond.code yX0_rowEdgeCount cX0_rowEdgeCount 1 (some .int), Cond.methodLink RX0 124 yX0_isAgreed, Cond.instanceMethod yX0_isAgreed, Cond.selects RX0 yX0_isAgreed yX0_isAgreed, Cond.code yX0_isAgreed cX0_isAgreed 2 (some .boolean), Cond.fieldLink RX0 27 "MapSheets$Atlas" "agreed" "[I"]
def wsX0_breaksAgreement_r2 : List Cond := [Cond.static yX4_valueAt, Cond.initialized RX4, Cond.code yX4_valueAt cX4_valueAt 3 (some .int), Cond.methodLink RX0 121 yX0_quarrelsOf, Cond.instanceMethod yX0_quarrelsOf, Cond.selects RX0 yX0_quarrelsOf yX0_quarrelsOf, Cond.code yX0_quarrelsOf cX0_quarrelsOf 4 (some .int), Cond.methodLink RX0 118 yX0_reasonAt, Cond.instanceMethod yX0_reasonAt, Cond.selects RX0 yX0_reasonAt yX0_reasonAt, Cond.code yX0_reasonAt cX0_reasonAt 5 (some .int), Cond.methodLink RX0 75 yX0_firstSheet, Cond.instanceMethod yX0_firstSheet, Cond.selects RX0 yX0_firstSheet yX0_firstSheet, Cond.code yX0_firstSheet cX0_firstSheet 4 (some .int), Cond.methodLink RX0 106 yX0_firstSide, Cond.instanceMethod yX0_firstSide, Cond.selects RX0 yX0_firstSide yX0_firstSide, Cond.code yX0_firstSide cX0_firstSide 2 (some .int), Cond.methodLink RX0 109 yX0_meaningAt, Cond.instanceMethod yX0_meaningAt, Cond.selects RX0 yX0_meaningAt yX0_meaningAt, Cond.code yX0_meaningAt cX0_meaningAt 5 (some .int), Cond.fieldLink RX0 9 "MapSheets$Atlas" "signs" "[I"]
def wsX0_breaksAgreement_r3 : List Cond := [Cond.fieldLink RX0 15 "MapSheets$Atlas" "meanings" "[I", Cond.methodLink RX0 89 yX0_placeOf, Cond.static yX0_placeOf, Cond.code yX0_placeOf cX0_placeOf 3 (some .int), Cond.methodLink RX0 112 yX0_secondSheet, Cond.instanceMethod yX0_secondSheet, Cond.selects RX0 yX0_secondSheet yX0_secondSheet, Cond.code yX0_secondSheet cX0_secondSheet 2 (some .int), Cond.methodLink RX0 115 yX0_secondSide, Cond.instanceMethod yX0_secondSide, Cond.selects RX0 yX0_secondSide yX0_secondSide, Cond.code yX0_secondSide cX0_secondSide 2 (some .int)]
def wsX0_breaksAgreement : List Cond := .code yX0_breaksAgreement cX0_breaksAgreement 4 (some .boolean) :: ((wsX0_breaksAgreement_r1 ++ (wsX0_breaksAgreement_r2 ++ wsX0_breaksAgreement_r3)) ++ wsX00)
def wsX0_dropBrokenAgreements_r1 : List Cond := [Cond.methodLink RX0 85 yX0_edgeOf, Cond.instanceMethod yX0_edgeOf, Cond.selects RX0 yX0_edgeOf yX0_edgeOf, Cond.initialized RX0, Cond.code yX0_edgeOf cX0_edgeOf 7 (some .int), Cond.fieldLink RX0 41 "MapSheets$Atlas" "columns" "I", Cond.fieldLink RX0 44 "MapSheets$Atlas" "rows" "I", Cond.methodLink RX0 79 yX0_columnOf, Cond.instanceMethod yX0_columnOf, Cond.selects RX0 yX0_columnOf yX0_columnOf, Cond.code yX0_columnOf cX0_columnOf 2 (some .int), Cond.methodLink RX0 82 yX0_rowOf, Cond.instanceMethod yX0_rowOf, Cond.selects RX0 yX0_rowOf yX0_rowOf, Cond.code yX0_rowOf cX0_rowOf 2 (some .int), Cond.methodLink RX0 69 yX0_rowEdgeCount, Cond.instanceMethod yX0_rowEdgeCount, Cond.selects RX0 yX0_rowEdgeCount yX0_rowEdgeCount, Cond.code yX0_rowEdgeCount cX0_rowEdgeCount 1 (some .int), Cond.methodLink RX0 124 yX0_isAgreed, Cond.instanceMethod yX0_isAgreed, Cond.selects RX0 yX0_isAgreed yX0_isAgreed, Cond.code yX0_isAgreed cX0_isAgreed 2 (some .boolean), Cond.fieldLink RX0 27 "MapSheets$Atlas" "agreed" "[I"]
def wsX0_dropBrokenAgreements_r2 : List Cond := [Cond.static yX4_valueAt, Cond.initialized RX4, Cond.code yX4_valueAt cX4_valueAt 3 (some .int), Cond.methodLink RX0 121 yX0_quarrelsOf, Cond.instanceMethod yX0_quarrelsOf, Cond.selects RX0 yX0_quarrelsOf yX0_quarrelsOf, Cond.code yX0_quarrelsOf cX0_quarrelsOf 4 (some .int), Cond.methodLink RX0 118 yX0_reasonAt, Cond.instanceMethod yX0_reasonAt, Cond.selects RX0 yX0_reasonAt yX0_reasonAt, Cond.code yX0_reasonAt cX0_reasonAt 5 (some .int), Cond.methodLink RX0 75 yX0_firstSheet, Cond.instanceMethod yX0_firstSheet, Cond.selects RX0 yX0_firstSheet yX0_firstSheet, Cond.code yX0_firstSheet cX0_firstSheet 4 (some .int), Cond.methodLink RX0 106 yX0_firstSide, Cond.instanceMethod yX0_firstSide, Cond.selects RX0 yX0_firstSide yX0_firstSide, Cond.code yX0_firstSide cX0_firstSide 2 (some .int), Cond.methodLink RX0 109 yX0_meaningAt, Cond.instanceMethod yX0_meaningAt, Cond.selects RX0 yX0_meaningAt yX0_meaningAt, Cond.code yX0_meaningAt cX0_meaningAt 5 (some .int), Cond.fieldLink RX0 9 "MapSheets$Atlas" "signs" "[I"]
def wsX0_dropBrokenAgreements_r3 : List Cond := [Cond.fieldLink RX0 15 "MapSheets$Atlas" "meanings" "[I", Cond.methodLink RX0 89 yX0_placeOf, Cond.static yX0_placeOf, Cond.code yX0_placeOf cX0_placeOf 3 (some .int), Cond.methodLink RX0 112 yX0_secondSheet, Cond.instanceMethod yX0_secondSheet, Cond.selects RX0 yX0_secondSheet yX0_secondSheet, Cond.code yX0_secondSheet cX0_secondSheet 2 (some .int), Cond.methodLink RX0 115 yX0_secondSide, Cond.instanceMethod yX0_secondSide, Cond.selects RX0 yX0_secondSide yX0_secondSide, Cond.code yX0_secondSide cX0_secondSide 2 (some .int), Cond.methodLink RX0 127 yX0_putAgreed, Cond.instanceMethod yX0_putAgreed, Cond.selects RX0 yX0_putAgreed yX0_putAgreed, Cond.code yX0_putAgreed cX0_putAgreed 3 (some .int), Cond.static yX4_exchange, Cond.code yX4_exchange cX4_exchange 4 (some .int)]
def wsX0_dropBrokenAgreements : List Cond := .code yX0_dropBrokenAgreements cX0_dropBrokenAgreements 4 none :: ((wsX0_dropBrokenAgreements_r1 ++ (wsX0_dropBrokenAgreements_r2 ++ wsX0_dropBrokenAgreements_r3)) ++ wsX00)
def wsX0_revisionOf : List Cond := .code yX0_revisionOf cX0_revisionOf 2 (some .int) :: ([.fieldLink RX0 18 "MapSheets$Atlas" "revisions" "[I", .static yX4_valueAt, .initialized RX4, .code yX4_valueAt cX4_valueAt 3 (some .int)] ++ wsX00)
def wsX0_addRevision : List Cond := .code yX0_addRevision cX0_addRevision 2 none :: ([.fieldLink RX0 18 "MapSheets$Atlas" "revisions" "[I", .methodLink RX0 141 yX0_revisionOf, .instanceMethod yX0_revisionOf, .selects RX0 yX0_revisionOf yX0_revisionOf, .initialized RX0, .code yX0_revisionOf cX0_revisionOf 2 (some .int), .static yX4_valueAt, .initialized RX4, .code yX4_valueAt cX4_valueAt 3 (some .int), .static yX4_exchange, .code yX4_exchange cX4_exchange 4 (some .int)] ++ wsX00)
def wsX0_settleFrom_r1 : List Cond := [Cond.methodLink RX0 75 yX0_firstSheet, Cond.instanceMethod yX0_firstSheet, Cond.selects RX0 yX0_firstSheet yX0_firstSheet, Cond.initialized RX0, Cond.code yX0_firstSheet cX0_firstSheet 4 (some .int), Cond.fieldLink RX0 41 "MapSheets$Atlas" "columns" "I", Cond.fieldLink RX0 44 "MapSheets$Atlas" "rows" "I", Cond.methodLink RX0 106 yX0_firstSide, Cond.instanceMethod yX0_firstSide, Cond.selects RX0 yX0_firstSide yX0_firstSide, Cond.code yX0_firstSide cX0_firstSide 2 (some .int), Cond.methodLink RX0 69 yX0_rowEdgeCount, Cond.instanceMethod yX0_rowEdgeCount, Cond.selects RX0 yX0_rowEdgeCount yX0_rowEdgeCount, Cond.code yX0_rowEdgeCount cX0_rowEdgeCount 1 (some .int), Cond.methodLink RX0 115 yX0_secondSide, Cond.instanceMethod yX0_secondSide, Cond.selects RX0 yX0_secondSide yX0_secondSide, Cond.code yX0_secondSide cX0_secondSide 2 (some .int), Cond.methodLink RX0 112 yX0_secondSheet, Cond.instanceMethod yX0_secondSheet, Cond.selects RX0 yX0_secondSheet yX0_secondSheet, Cond.code yX0_secondSheet cX0_secondSheet 2 (some .int), Cond.methodLink RX0 109 yX0_meaningAt]
def wsX0_settleFrom_r2 : List Cond := [Cond.instanceMethod yX0_meaningAt, Cond.selects RX0 yX0_meaningAt yX0_meaningAt, Cond.code yX0_meaningAt cX0_meaningAt 5 (some .int), Cond.fieldLink RX0 9 "MapSheets$Atlas" "signs" "[I", Cond.fieldLink RX0 15 "MapSheets$Atlas" "meanings" "[I", Cond.methodLink RX0 89 yX0_placeOf, Cond.static yX0_placeOf, Cond.code yX0_placeOf cX0_placeOf 3 (some .int), Cond.static yX4_valueAt, Cond.initialized RX4, Cond.code yX4_valueAt cX4_valueAt 3 (some .int), Cond.methodLink RX0 130 yX0_lowestSign, Cond.instanceMethod yX0_lowestSign, Cond.selects RX0 yX0_lowestSign yX0_lowestSign, Cond.code yX0_lowestSign cX0_lowestSign 4 (some .int), Cond.methodLink RX0 103 yX0_meaningOf, Cond.instanceMethod yX0_meaningOf, Cond.selects RX0 yX0_meaningOf yX0_meaningOf, Cond.code yX0_meaningOf cX0_meaningOf 3 (some .int), Cond.methodLink RX0 133 yX0_putSign, Cond.instanceMethod yX0_putSign, Cond.selects RX0 yX0_putSign yX0_putSign, Cond.code yX0_putSign cX0_putSign 5 (some .int), Cond.static yX4_exchange]
def wsX0_settleFrom_r3 : List Cond := [Cond.code yX4_exchange cX4_exchange 4 (some .int), Cond.methodLink RX0 137 yX0_addRevision, Cond.instanceMethod yX0_addRevision, Cond.selects RX0 yX0_addRevision yX0_addRevision, Cond.code yX0_addRevision cX0_addRevision 2 none, Cond.fieldLink RX0 18 "MapSheets$Atlas" "revisions" "[I", Cond.methodLink RX0 141 yX0_revisionOf, Cond.instanceMethod yX0_revisionOf, Cond.selects RX0 yX0_revisionOf yX0_revisionOf, Cond.code yX0_revisionOf cX0_revisionOf 2 (some .int)]
def wsX0_settleFrom : List Cond := .code yX0_settleFrom cX0_settleFrom 11 (some .int) :: ((wsX0_settleFrom_r1 ++ (wsX0_settleFrom_r2 ++ wsX0_settleFrom_r3)) ++ wsX00)
def wsX0_publishedOf : List Cond := .code yX0_publishedOf cX0_publishedOf 2 (some .int) :: ([.fieldLink RX0 21 "MapSheets$Atlas" "published" "[I", .static yX4_valueAt, .initialized RX4, .code yX4_valueAt cX4_valueAt 3 (some .int)] ++ wsX00)
def wsX0_publishRevision : List Cond := .code yX0_publishRevision cX0_publishRevision 2 none :: ([.fieldLink RX0 21 "MapSheets$Atlas" "published" "[I", .methodLink RX0 141 yX0_revisionOf, .instanceMethod yX0_revisionOf, .selects RX0 yX0_revisionOf yX0_revisionOf, .initialized RX0, .code yX0_revisionOf cX0_revisionOf 2 (some .int), .fieldLink RX0 18 "MapSheets$Atlas" "revisions" "[I", .static yX4_valueAt, .initialized RX4, .code yX4_valueAt cX4_valueAt 3 (some .int), .static yX4_exchange, .code yX4_exchange cX4_exchange 4 (some .int)] ++ wsX00)
def wsX0_isPublished : List Cond := .code yX0_isPublished cX0_isPublished 2 (some .boolean) :: ([.methodLink RX0 144 yX0_publishedOf, .instanceMethod yX0_publishedOf, .selects RX0 yX0_publishedOf yX0_publishedOf, .initialized RX0, .code yX0_publishedOf cX0_publishedOf 2 (some .int), .fieldLink RX0 21 "MapSheets$Atlas" "published" "[I", .static yX4_valueAt, .initialized RX4, .code yX4_valueAt cX4_valueAt 3 (some .int)] ++ wsX00)
def wsX0_isUpToDate : List Cond := .code yX0_isUpToDate cX0_isUpToDate 2 (some .boolean) :: ([.methodLink RX0 147 yX0_isPublished, .instanceMethod yX0_isPublished, .selects RX0 yX0_isPublished yX0_isPublished, .initialized RX0, .code yX0_isPublished cX0_isPublished 2 (some .boolean), .methodLink RX0 144 yX0_publishedOf, .instanceMethod yX0_publishedOf, .selects RX0 yX0_publishedOf yX0_publishedOf, .code yX0_publishedOf cX0_publishedOf 2 (some .int), .fieldLink RX0 21 "MapSheets$Atlas" "published" "[I", .static yX4_valueAt, .initialized RX4, .code yX4_valueAt cX4_valueAt 3 (some .int), .methodLink RX0 141 yX0_revisionOf, .instanceMethod yX0_revisionOf, .selects RX0 yX0_revisionOf yX0_revisionOf, .code yX0_revisionOf cX0_revisionOf 2 (some .int), .fieldLink RX0 18 "MapSheets$Atlas" "revisions" "[I"] ++ wsX00)
def wsX0_publishedSheets : List Cond := .code yX0_publishedSheets cX0_publishedSheets 4 (some .int) :: ([.methodLink RX0 57 yX0_sheetCount, .instanceMethod yX0_sheetCount, .selects RX0 yX0_sheetCount yX0_sheetCount, .initialized RX0, .code yX0_sheetCount cX0_sheetCount 1 (some .int), .fieldLink RX0 41 "MapSheets$Atlas" "columns" "I", .fieldLink RX0 44 "MapSheets$Atlas" "rows" "I", .methodLink RX0 147 yX0_isPublished, .instanceMethod yX0_isPublished, .selects RX0 yX0_isPublished yX0_isPublished, .code yX0_isPublished cX0_isPublished 2 (some .boolean), .methodLink RX0 144 yX0_publishedOf, .instanceMethod yX0_publishedOf, .selects RX0 yX0_publishedOf yX0_publishedOf, .code yX0_publishedOf cX0_publishedOf 2 (some .int), .fieldLink RX0 21 "MapSheets$Atlas" "published" "[I", .static yX4_valueAt, .initialized RX4, .code yX4_valueAt cX4_valueAt 3 (some .int)] ++ wsX00)
def wsX0_sheetsUpToDate_r1 : List Cond := [Cond.methodLink RX0 57 yX0_sheetCount, Cond.instanceMethod yX0_sheetCount, Cond.selects RX0 yX0_sheetCount yX0_sheetCount, Cond.initialized RX0, Cond.code yX0_sheetCount cX0_sheetCount 1 (some .int), Cond.fieldLink RX0 41 "MapSheets$Atlas" "columns" "I", Cond.fieldLink RX0 44 "MapSheets$Atlas" "rows" "I", Cond.methodLink RX0 150 yX0_isUpToDate, Cond.instanceMethod yX0_isUpToDate, Cond.selects RX0 yX0_isUpToDate yX0_isUpToDate, Cond.code yX0_isUpToDate cX0_isUpToDate 2 (some .boolean), Cond.methodLink RX0 147 yX0_isPublished, Cond.instanceMethod yX0_isPublished, Cond.selects RX0 yX0_isPublished yX0_isPublished, Cond.code yX0_isPublished cX0_isPublished 2 (some .boolean), Cond.methodLink RX0 144 yX0_publishedOf, Cond.instanceMethod yX0_publishedOf, Cond.selects RX0 yX0_publishedOf yX0_publishedOf, Cond.code yX0_publishedOf cX0_publishedOf 2 (some .int), Cond.fieldLink RX0 21 "MapSheets$Atlas" "published" "[I", Cond.static yX4_valueAt, Cond.initialized RX4, Cond.code yX4_valueAt cX4_valueAt 3 (some .int), Cond.methodLink RX0 141 yX0_revisionOf]
def wsX0_sheetsUpToDate_r2 : List Cond := [Cond.instanceMethod yX0_revisionOf, Cond.selects RX0 yX0_revisionOf yX0_revisionOf, Cond.code yX0_revisionOf cX0_revisionOf 2 (some .int), Cond.fieldLink RX0 18 "MapSheets$Atlas" "revisions" "[I"]
def wsX0_sheetsUpToDate : List Cond := .code yX0_sheetsUpToDate cX0_sheetsUpToDate 4 (some .int) :: ((wsX0_sheetsUpToDate_r1 ++ wsX0_sheetsUpToDate_r2) ++ wsX00)
def wsX0_scaleOf : List Cond := .code yX0_scaleOf cX0_scaleOf 2 (some .int) :: ([.fieldLink RX0 24 "MapSheets$Atlas" "scales" "[I", .static yX4_valueAt, .initialized RX4, .code yX4_valueAt cX4_valueAt 3 (some .int)] ++ wsX00)
def wsX0_putScale : List Cond := .code yX0_putScale cX0_putScale 3 (some .int) :: ([.fieldLink RX0 24 "MapSheets$Atlas" "scales" "[I", .static yX4_exchange, .initialized RX4, .code yX4_exchange cX4_exchange 4 (some .int)] ++ wsX00)
def wsX0_floatScale : List Cond := .code yX0_floatScale cX0_floatScale 2 (some .float) :: ([.constantFloat RX0 156 (1148846080), .methodLink RX0 153 yX0_scaleOf, .instanceMethod yX0_scaleOf, .selects RX0 yX0_scaleOf yX0_scaleOf, .initialized RX0, .code yX0_scaleOf cX0_scaleOf 2 (some .int), .fieldLink RX0 24 "MapSheets$Atlas" "scales" "[I", .static yX4_valueAt, .initialized RX4, .code yX4_valueAt cX4_valueAt 3 (some .int)] ++ wsX00)
def wsX0_ratioOf_r1 : List Cond := [Cond.methodLink RX0 112 yX0_secondSheet, Cond.instanceMethod yX0_secondSheet, Cond.selects RX0 yX0_secondSheet yX0_secondSheet, Cond.initialized RX0, Cond.code yX0_secondSheet cX0_secondSheet 2 (some .int), Cond.fieldLink RX0 41 "MapSheets$Atlas" "columns" "I", Cond.methodLink RX0 75 yX0_firstSheet, Cond.instanceMethod yX0_firstSheet, Cond.selects RX0 yX0_firstSheet yX0_firstSheet, Cond.code yX0_firstSheet cX0_firstSheet 4 (some .int), Cond.fieldLink RX0 44 "MapSheets$Atlas" "rows" "I", Cond.methodLink RX0 69 yX0_rowEdgeCount, Cond.instanceMethod yX0_rowEdgeCount, Cond.selects RX0 yX0_rowEdgeCount yX0_rowEdgeCount, Cond.code yX0_rowEdgeCount cX0_rowEdgeCount 1 (some .int), Cond.methodLink RX0 157 yX0_floatScale, Cond.instanceMethod yX0_floatScale, Cond.selects RX0 yX0_floatScale yX0_floatScale, Cond.code yX0_floatScale cX0_floatScale 2 (some .float), Cond.constantFloat RX0 156 (1148846080), Cond.methodLink RX0 153 yX0_scaleOf, Cond.instanceMethod yX0_scaleOf, Cond.selects RX0 yX0_scaleOf yX0_scaleOf, Cond.code yX0_scaleOf cX0_scaleOf 2 (some .int)]
def wsX0_ratioOf_r2 : List Cond := [Cond.fieldLink RX0 24 "MapSheets$Atlas" "scales" "[I", Cond.static yX4_valueAt, Cond.initialized RX4, Cond.code yX4_valueAt cX4_valueAt 3 (some .int)]
def wsX0_ratioOf : List Cond := .code yX0_ratioOf cX0_ratioOf 3 (some .float) :: ((wsX0_ratioOf_r1 ++ wsX0_ratioOf_r2) ++ wsX00)
def wsX0_isFitting_r1 : List Cond := [Cond.fieldLink RX0 34 "MapSheets$Atlas" "tolerance" "I", Cond.constantDouble RX0 164 (4652007308841189376), Cond.methodLink RX0 161 yX0_ratioOf, Cond.instanceMethod yX0_ratioOf, Cond.selects RX0 yX0_ratioOf yX0_ratioOf, Cond.initialized RX0, Cond.code yX0_ratioOf cX0_ratioOf 3 (some .float), Cond.methodLink RX0 112 yX0_secondSheet, Cond.instanceMethod yX0_secondSheet, Cond.selects RX0 yX0_secondSheet yX0_secondSheet, Cond.code yX0_secondSheet cX0_secondSheet 2 (some .int), Cond.fieldLink RX0 41 "MapSheets$Atlas" "columns" "I", Cond.methodLink RX0 75 yX0_firstSheet, Cond.instanceMethod yX0_firstSheet, Cond.selects RX0 yX0_firstSheet yX0_firstSheet, Cond.code yX0_firstSheet cX0_firstSheet 4 (some .int), Cond.fieldLink RX0 44 "MapSheets$Atlas" "rows" "I", Cond.methodLink RX0 69 yX0_rowEdgeCount, Cond.instanceMethod yX0_rowEdgeCount, Cond.selects RX0 yX0_rowEdgeCount yX0_rowEdgeCount, Cond.code yX0_rowEdgeCount cX0_rowEdgeCount 1 (some .int), Cond.methodLink RX0 157 yX0_floatScale, Cond.instanceMethod yX0_floatScale, Cond.selects RX0 yX0_floatScale yX0_floatScale]
def wsX0_isFitting_r2 : List Cond := [Cond.code yX0_floatScale cX0_floatScale 2 (some .float), Cond.constantFloat RX0 156 (1148846080), Cond.methodLink RX0 153 yX0_scaleOf, Cond.instanceMethod yX0_scaleOf, Cond.selects RX0 yX0_scaleOf yX0_scaleOf, Cond.code yX0_scaleOf cX0_scaleOf 2 (some .int), Cond.fieldLink RX0 24 "MapSheets$Atlas" "scales" "[I", Cond.static yX4_valueAt, Cond.initialized RX4, Cond.code yX4_valueAt cX4_valueAt 3 (some .int)]
def wsX0_isFitting : List Cond := .code yX0_isFitting cX0_isFitting 6 (some .boolean) :: ((wsX0_isFitting_r1 ++ wsX0_isFitting_r2) ++ wsX00)
def wsX0_fittingEdges_r1 : List Cond := [Cond.methodLink RX0 72 yX0_edgeCount, Cond.instanceMethod yX0_edgeCount, Cond.selects RX0 yX0_edgeCount yX0_edgeCount, Cond.initialized RX0, Cond.code yX0_edgeCount cX0_edgeCount 1 (some .int), Cond.fieldLink RX0 41 "MapSheets$Atlas" "columns" "I", Cond.fieldLink RX0 44 "MapSheets$Atlas" "rows" "I", Cond.methodLink RX0 69 yX0_rowEdgeCount, Cond.instanceMethod yX0_rowEdgeCount, Cond.selects RX0 yX0_rowEdgeCount yX0_rowEdgeCount, Cond.code yX0_rowEdgeCount cX0_rowEdgeCount 1 (some .int), Cond.methodLink RX0 166 yX0_isFitting, Cond.instanceMethod yX0_isFitting, Cond.selects RX0 yX0_isFitting yX0_isFitting, Cond.code yX0_isFitting cX0_isFitting 6 (some .boolean), Cond.fieldLink RX0 34 "MapSheets$Atlas" "tolerance" "I", Cond.constantDouble RX0 164 (4652007308841189376), Cond.methodLink RX0 161 yX0_ratioOf, Cond.instanceMethod yX0_ratioOf, Cond.selects RX0 yX0_ratioOf yX0_ratioOf, Cond.code yX0_ratioOf cX0_ratioOf 3 (some .float), Cond.methodLink RX0 112 yX0_secondSheet, Cond.instanceMethod yX0_secondSheet, Cond.selects RX0 yX0_secondSheet yX0_secondSheet]
def wsX0_fittingEdges_r2 : List Cond := [Cond.code yX0_secondSheet cX0_secondSheet 2 (some .int), Cond.methodLink RX0 75 yX0_firstSheet, Cond.instanceMethod yX0_firstSheet, Cond.selects RX0 yX0_firstSheet yX0_firstSheet, Cond.code yX0_firstSheet cX0_firstSheet 4 (some .int), Cond.methodLink RX0 157 yX0_floatScale, Cond.instanceMethod yX0_floatScale, Cond.selects RX0 yX0_floatScale yX0_floatScale, Cond.code yX0_floatScale cX0_floatScale 2 (some .float), Cond.constantFloat RX0 156 (1148846080), Cond.methodLink RX0 153 yX0_scaleOf, Cond.instanceMethod yX0_scaleOf, Cond.selects RX0 yX0_scaleOf yX0_scaleOf, Cond.code yX0_scaleOf cX0_scaleOf 2 (some .int), Cond.fieldLink RX0 24 "MapSheets$Atlas" "scales" "[I", Cond.static yX4_valueAt, Cond.initialized RX4, Cond.code yX4_valueAt cX4_valueAt 3 (some .int)]
def wsX0_fittingEdges : List Cond := .code yX0_fittingEdges cX0_fittingEdges 4 (some .int) :: ((wsX0_fittingEdges_r1 ++ wsX0_fittingEdges_r2) ++ wsX00)
def wsX1_init : List Cond := .code yX1_init cX1_init 1 none :: ([.methodLink RX1 3 objectInit, .instanceMethod objectInit, .code objectInit ⟨#[0xb1]⟩ 1 none, .arrayClass .int, .fieldLink RX1 9 "MapSheets$Blocks" "lowest" "[I"] ++ wsX10)
def wsX1_lowestOf : List Cond := .code yX1_lowestOf cX1_lowestOf 2 (some .int) :: ([.fieldLink RX1 9 "MapSheets$Blocks" "lowest" "[I", .static yX4_valueAt, .initialized RX4, .code yX4_valueAt cX4_valueAt 3 (some .int)] ++ wsX10)
def wsX1_join : List Cond := .code yX1_join cX1_join 4 none :: ([.fieldLink RX1 9 "MapSheets$Blocks" "lowest" "[I"] ++ wsX10)
def wsX1_find_r1 : List Cond := [Cond.fieldLink RX1 9 "MapSheets$Blocks" "lowest" "[I", Cond.methodLink RX1 38 Lib.Math.min.name, Cond.static Lib.Math.min.name, Cond.initialized "java/lang/Math", Cond.code Lib.Math.min.name Lib.Math.min.code 2 (some .int), Cond.methodLink RX1 44 Lib.Math.max.name, Cond.static Lib.Math.max.name, Cond.code Lib.Math.max.name Lib.Math.max.code 2 (some .int), Cond.methodLink RX1 15 yX0_edgeCount, Cond.instanceMethod yX0_edgeCount, Cond.selects RX0 yX0_edgeCount yX0_edgeCount, Cond.initialized RX0, Cond.code yX0_edgeCount cX0_edgeCount 1 (some .int), Cond.fieldLink RX0 41 "MapSheets$Atlas" "columns" "I", Cond.fieldLink RX0 44 "MapSheets$Atlas" "rows" "I", Cond.methodLink RX0 69 yX0_rowEdgeCount, Cond.instanceMethod yX0_rowEdgeCount, Cond.selects RX0 yX0_rowEdgeCount yX0_rowEdgeCount, Cond.code yX0_rowEdgeCount cX0_rowEdgeCount 1 (some .int), Cond.methodLink RX1 21 yX0_sheetCount, Cond.instanceMethod yX0_sheetCount, Cond.selects RX0 yX0_sheetCount yX0_sheetCount, Cond.code yX0_sheetCount cX0_sheetCount 1 (some .int), Cond.methodLink RX1 24 yX0_isAgreed]
def wsX1_find_r2 : List Cond := [Cond.instanceMethod yX0_isAgreed, Cond.selects RX0 yX0_isAgreed yX0_isAgreed, Cond.code yX0_isAgreed cX0_isAgreed 2 (some .boolean), Cond.fieldLink RX0 27 "MapSheets$Atlas" "agreed" "[I", Cond.static yX4_valueAt, Cond.initialized RX4, Cond.code yX4_valueAt cX4_valueAt 3 (some .int), Cond.methodLink RX1 28 yX0_firstSheet, Cond.instanceMethod yX0_firstSheet, Cond.selects RX0 yX0_firstSheet yX0_firstSheet, Cond.code yX0_firstSheet cX0_firstSheet 4 (some .int), Cond.methodLink RX1 32 yX1_lowestOf, Cond.instanceMethod yX1_lowestOf, Cond.selects RX1 yX1_lowestOf yX1_lowestOf, Cond.initialized RX1, Cond.code yX1_lowestOf cX1_lowestOf 2 (some .int), Cond.methodLink RX1 35 yX0_secondSheet, Cond.instanceMethod yX0_secondSheet, Cond.selects RX0 yX0_secondSheet yX0_secondSheet, Cond.code yX0_secondSheet cX0_secondSheet 2 (some .int), Cond.methodLink RX0 75 yX0_firstSheet, Cond.methodLink RX1 47 yX1_join, Cond.instanceMethod yX1_join, Cond.selects RX1 yX1_join yX1_join]
def wsX1_find_r3 : List Cond := [Cond.code yX1_join cX1_join 4 none]
def wsX1_find : List Cond := .code yX1_find cX1_find 7 (some .int) :: ((wsX1_find_r1 ++ (wsX1_find_r2 ++ wsX1_find_r3)) ++ wsX10 ++ wsX00)
def wsX2_init_r1 : List Cond := [Cond.methodLink RX2 3 objectInit, Cond.instanceMethod objectInit, Cond.code objectInit ⟨#[0xb1]⟩ 1 none, Cond.classLink RX2 11 RX0, Cond.fieldLink RX2 13 "MapSheets$History" "states" "[LMapSheets$Atlas;", Cond.fieldLink RX2 17 "MapSheets$History" "oldest" "I", Cond.fieldLink RX2 21 "MapSheets$History" "size" "I", Cond.instantiable RX0 10, Cond.initialized RX0, Cond.methodLink RX2 24 yX0_init, Cond.instanceMethod yX0_init, Cond.code yX0_init cX0_init 1 none, Cond.methodLink RX0 3 objectInit, Cond.arrayClass .int, Cond.fieldLink RX0 9 "MapSheets$Atlas" "signs" "[I", Cond.fieldLink RX0 15 "MapSheets$Atlas" "meanings" "[I", Cond.fieldLink RX0 18 "MapSheets$Atlas" "revisions" "[I", Cond.fieldLink RX0 21 "MapSheets$Atlas" "published" "[I", Cond.fieldLink RX0 24 "MapSheets$Atlas" "scales" "[I", Cond.fieldLink RX0 27 "MapSheets$Atlas" "agreed" "[I", Cond.fieldLink RX0 30 "MapSheets$Atlas" "guard" "I", Cond.fieldLink RX0 34 "MapSheets$Atlas" "tolerance" "I", Cond.methodLink RX0 37 yX0_begin, Cond.instanceMethod yX0_begin]
def wsX2_init_r2 : List Cond := [Cond.selects RX0 yX0_begin yX0_begin, Cond.code yX0_begin cX0_begin 4 none, Cond.fieldLink RX0 41 "MapSheets$Atlas" "columns" "I", Cond.fieldLink RX0 44 "MapSheets$Atlas" "rows" "I", Cond.methodLink RX0 47 yJ7_fill_53178, Cond.static yJ7_fill_53178, Cond.initialized RJ7, Cond.code yJ7_fill_53178 cJ7_fill_53178 4 none]
def wsX2_init : List Cond := .code yX2_init cX2_init 2 none :: ((wsX2_init_r1 ++ wsX2_init_r2) ++ wsX20 ++ wsX00)
def wsX2_stateCount : List Cond := .code yX2_stateCount cX2_stateCount 1 (some .int) :: ([.fieldLink RX2 21 "MapSheets$History" "size" "I"] ++ wsX20)
def wsX2_stateAt : List Cond := .code yX2_stateAt cX2_stateAt 3 (some (.object "MapSheets$Atlas")) :: ([.fieldLink RX2 17 "MapSheets$History" "oldest" "I", .fieldLink RX2 13 "MapSheets$History" "states" "[LMapSheets$Atlas;"] ++ wsX20)
def wsX2_recordState_r1 : List Cond := [Cond.fieldLink RX2 21 "MapSheets$History" "size" "I", Cond.methodLink RX2 25 yX2_stateAt, Cond.instanceMethod yX2_stateAt, Cond.selects RX2 yX2_stateAt yX2_stateAt, Cond.initialized RX2, Cond.code yX2_stateAt cX2_stateAt 3 (some (.object "MapSheets$Atlas")), Cond.fieldLink RX2 17 "MapSheets$History" "oldest" "I", Cond.fieldLink RX2 13 "MapSheets$History" "states" "[LMapSheets$Atlas;", Cond.methodLink RX2 29 yX0_copyFrom, Cond.instanceMethod yX0_copyFrom, Cond.selects RX0 yX0_copyFrom yX0_copyFrom, Cond.initialized RX0, Cond.code yX0_copyFrom cX0_copyFrom 2 none, Cond.fieldLink RX0 9 "MapSheets$Atlas" "signs" "[I", Cond.fieldLink RX0 15 "MapSheets$Atlas" "meanings" "[I", Cond.fieldLink RX0 18 "MapSheets$Atlas" "revisions" "[I", Cond.fieldLink RX0 21 "MapSheets$Atlas" "published" "[I", Cond.fieldLink RX0 24 "MapSheets$Atlas" "scales" "[I", Cond.fieldLink RX0 27 "MapSheets$Atlas" "agreed" "[I", Cond.fieldLink RX0 41 "MapSheets$Atlas" "columns" "I", Cond.fieldLink RX0 44 "MapSheets$Atlas" "rows" "I", Cond.fieldLink RX0 30 "MapSheets$Atlas" "guard" "I", Cond.fieldLink RX0 34 "MapSheets$Atlas" "tolerance" "I", Cond.static yX4_copyRow]
def wsX2_recordState_r2 : List Cond := [Cond.initialized RX4, Cond.code yX4_copyRow cX4_copyRow 2 none, Cond.methodLink RX4 261 arraycopyName, Cond.native arraycopyName, Cond.static arraycopyName, Cond.initialized "java/lang/System"]
def wsX2_recordState : List Cond := .code yX2_recordState cX2_recordState 3 none :: ((wsX2_recordState_r1 ++ wsX2_recordState_r2) ++ wsX20 ++ wsX00)
def wsX2_returnToRecord_r1 : List Cond := [Cond.fieldLink RX2 21 "MapSheets$History" "size" "I", Cond.methodLink RX2 25 yX2_stateAt, Cond.instanceMethod yX2_stateAt, Cond.selects RX2 yX2_stateAt yX2_stateAt, Cond.initialized RX2, Cond.code yX2_stateAt cX2_stateAt 3 (some (.object "MapSheets$Atlas")), Cond.fieldLink RX2 17 "MapSheets$History" "oldest" "I", Cond.fieldLink RX2 13 "MapSheets$History" "states" "[LMapSheets$Atlas;", Cond.methodLink RX2 29 yX0_copyFrom, Cond.instanceMethod yX0_copyFrom, Cond.selects RX0 yX0_copyFrom yX0_copyFrom, Cond.initialized RX0, Cond.code yX0_copyFrom cX0_copyFrom 2 none, Cond.fieldLink RX0 9 "MapSheets$Atlas" "signs" "[I", Cond.fieldLink RX0 15 "MapSheets$Atlas" "meanings" "[I", Cond.fieldLink RX0 18 "MapSheets$Atlas" "revisions" "[I", Cond.fieldLink RX0 21 "MapSheets$Atlas" "published" "[I", Cond.fieldLink RX0 24 "MapSheets$Atlas" "scales" "[I", Cond.fieldLink RX0 27 "MapSheets$Atlas" "agreed" "[I", Cond.fieldLink RX0 41 "MapSheets$Atlas" "columns" "I", Cond.fieldLink RX0 44 "MapSheets$Atlas" "rows" "I", Cond.fieldLink RX0 30 "MapSheets$Atlas" "guard" "I", Cond.fieldLink RX0 34 "MapSheets$Atlas" "tolerance" "I", Cond.static yX4_copyRow]
def wsX2_returnToRecord_r2 : List Cond := [Cond.initialized RX4, Cond.code yX4_copyRow cX4_copyRow 2 none, Cond.methodLink RX4 261 arraycopyName, Cond.native arraycopyName, Cond.static arraycopyName, Cond.initialized "java/lang/System"]
def wsX2_returnToRecord : List Cond := .code yX2_returnToRecord cX2_returnToRecord 3 none :: ((wsX2_returnToRecord_r1 ++ wsX2_returnToRecord_r2) ++ wsX20 ++ wsX00)
def wsX2_keepRecord : List Cond := .code yX2_keepRecord cX2_keepRecord 1 none :: ([.fieldLink RX2 21 "MapSheets$History" "size" "I", .fieldLink RX2 17 "MapSheets$History" "oldest" "I"] ++ wsX20)
def wsX3_init : List Cond := .code yX3_init cX3_init 1 none :: ([.methodLink RX3 3 objectInit, .instanceMethod objectInit, .code objectInit ⟨#[0xb1]⟩ 1 none, .arrayClass .char, .fieldLink RX3 9 "MapSheets$SignText" "characters" "[C", .fieldLink RX3 15 "MapSheets$SignText" "length" "I"] ++ wsX30)
def wsX3_characterCount : List Cond := .code yX3_characterCount cX3_characterCount 1 (some .int) :: ([.fieldLink RX3 15 "MapSheets$SignText" "length" "I"] ++ wsX30)
def wsX4_init_r1 : List Cond := [Cond.methodLink RX4 1 objectInit, Cond.instanceMethod objectInit, Cond.code objectInit ⟨#[0xb1]⟩ 1 none, Cond.classLink RX4 7 RX0, Cond.instantiable RX0 10, Cond.initialized RX0, Cond.fieldLink RX4 10 "MapSheets" "now" "LMapSheets$Atlas;", Cond.classLink RX4 16 RX2, Cond.instantiable RX2 3, Cond.initialized RX2, Cond.fieldLink RX4 19 "MapSheets" "history" "LMapSheets$History;", Cond.classLink RX4 23 RX1, Cond.instantiable RX1 1, Cond.initialized RX1, Cond.fieldLink RX4 26 "MapSheets" "blocks" "LMapSheets$Blocks;", Cond.classLink RX4 30 RX3, Cond.instantiable RX3 2, Cond.initialized RX3, Cond.fieldLink RX4 33 "MapSheets" "text" "LMapSheets$SignText;", Cond.methodLink RX4 9 yX0_init, Cond.instanceMethod yX0_init, Cond.code yX0_init cX0_init 1 none, Cond.methodLink RX0 3 objectInit, Cond.arrayClass .int]
def wsX4_init_r2 : List Cond := [Cond.fieldLink RX0 9 "MapSheets$Atlas" "signs" "[I", Cond.fieldLink RX0 15 "MapSheets$Atlas" "meanings" "[I", Cond.fieldLink RX0 18 "MapSheets$Atlas" "revisions" "[I", Cond.fieldLink RX0 21 "MapSheets$Atlas" "published" "[I", Cond.fieldLink RX0 24 "MapSheets$Atlas" "scales" "[I", Cond.fieldLink RX0 27 "MapSheets$Atlas" "agreed" "[I", Cond.fieldLink RX0 30 "MapSheets$Atlas" "guard" "I", Cond.fieldLink RX0 34 "MapSheets$Atlas" "tolerance" "I", Cond.methodLink RX0 37 yX0_begin, Cond.instanceMethod yX0_begin, Cond.selects RX0 yX0_begin yX0_begin, Cond.code yX0_begin cX0_begin 4 none, Cond.fieldLink RX0 41 "MapSheets$Atlas" "columns" "I", Cond.fieldLink RX0 44 "MapSheets$Atlas" "rows" "I", Cond.methodLink RX0 47 yJ7_fill_53178, Cond.static yJ7_fill_53178, Cond.initialized RJ7, Cond.code yJ7_fill_53178 cJ7_fill_53178 4 none, Cond.methodLink RX4 18 yX2_init, Cond.instanceMethod yX2_init, Cond.code yX2_init cX2_init 2 none, Cond.methodLink RX2 3 objectInit, Cond.classLink RX2 11 RX0, Cond.fieldLink RX2 13 "MapSheets$History" "states" "[LMapSheets$Atlas;"]
def wsX4_init_r3 : List Cond := [Cond.fieldLink RX2 17 "MapSheets$History" "oldest" "I", Cond.fieldLink RX2 21 "MapSheets$History" "size" "I", Cond.methodLink RX2 24 yX0_init, Cond.instanceMethod yX1_init, Cond.code yX1_init cX1_init 1 none, Cond.methodLink RX1 3 objectInit, Cond.fieldLink RX1 9 "MapSheets$Blocks" "lowest" "[I", Cond.instanceMethod yX3_init, Cond.code yX3_init cX3_init 1 none, Cond.methodLink RX3 3 objectInit, Cond.arrayClass .char, Cond.fieldLink RX3 9 "MapSheets$SignText" "characters" "[C", Cond.fieldLink RX3 15 "MapSheets$SignText" "length" "I"]
def wsX4_init : List Cond := .code yX4_init cX4_init 1 none :: ((wsX4_init_r1 ++ (wsX4_init_r2 ++ wsX4_init_r3)) ++ wsX00 ++ wsX40 ++ wsX20 ++ wsX10 ++ wsX30)
def wsX4_grid_r1 : List Cond := [Cond.fieldLink RX4 19 "MapSheets" "history" "LMapSheets$History;", Cond.fieldLink RX4 10 "MapSheets" "now" "LMapSheets$Atlas;", Cond.methodLink RX4 37 yX4_isWithin, Cond.static yX4_isWithin, Cond.initialized RX4, Cond.code yX4_isWithin cX4_isWithin 3 (some .boolean), Cond.methodLink RX4 41 yX2_recordState, Cond.instanceMethod yX2_recordState, Cond.selects RX2 yX2_recordState yX2_recordState, Cond.initialized RX2, Cond.code yX2_recordState cX2_recordState 3 none, Cond.fieldLink RX2 21 "MapSheets$History" "size" "I", Cond.methodLink RX2 25 yX2_stateAt, Cond.instanceMethod yX2_stateAt, Cond.selects RX2 yX2_stateAt yX2_stateAt, Cond.code yX2_stateAt cX2_stateAt 3 (some (.object "MapSheets$Atlas")), Cond.fieldLink RX2 17 "MapSheets$History" "oldest" "I", Cond.fieldLink RX2 13 "MapSheets$History" "states" "[LMapSheets$Atlas;", Cond.methodLink RX2 29 yX0_copyFrom, Cond.instanceMethod yX0_copyFrom, Cond.selects RX0 yX0_copyFrom yX0_copyFrom, Cond.initialized RX0, Cond.code yX0_copyFrom cX0_copyFrom 2 none, Cond.fieldLink RX0 9 "MapSheets$Atlas" "signs" "[I"]
def wsX4_grid_r2 : List Cond := [Cond.fieldLink RX0 15 "MapSheets$Atlas" "meanings" "[I", Cond.fieldLink RX0 18 "MapSheets$Atlas" "revisions" "[I", Cond.fieldLink RX0 21 "MapSheets$Atlas" "published" "[I", Cond.fieldLink RX0 24 "MapSheets$Atlas" "scales" "[I", Cond.fieldLink RX0 27 "MapSheets$Atlas" "agreed" "[I", Cond.fieldLink RX0 41 "MapSheets$Atlas" "columns" "I", Cond.fieldLink RX0 44 "MapSheets$Atlas" "rows" "I", Cond.fieldLink RX0 30 "MapSheets$Atlas" "guard" "I", Cond.fieldLink RX0 34 "MapSheets$Atlas" "tolerance" "I", Cond.static yX4_copyRow, Cond.code yX4_copyRow cX4_copyRow 2 none, Cond.methodLink RX4 261 arraycopyName, Cond.native arraycopyName, Cond.static arraycopyName, Cond.initialized "java/lang/System", Cond.methodLink RX4 45 yX0_begin, Cond.instanceMethod yX0_begin, Cond.selects RX0 yX0_begin yX0_begin, Cond.code yX0_begin cX0_begin 4 none, Cond.methodLink RX0 47 yJ7_fill_53178, Cond.static yJ7_fill_53178, Cond.initialized RJ7, Cond.code yJ7_fill_53178 cJ7_fill_53178 4 none, Cond.methodLink RX4 49 yX2_keepRecord]
def wsX4_grid_r3 : List Cond := [Cond.instanceMethod yX2_keepRecord, Cond.selects RX2 yX2_keepRecord yX2_keepRecord, Cond.code yX2_keepRecord cX2_keepRecord 1 none, Cond.methodLink RX4 52 yX0_edgeCount, Cond.instanceMethod yX0_edgeCount, Cond.selects RX0 yX0_edgeCount yX0_edgeCount, Cond.code yX0_edgeCount cX0_edgeCount 1 (some .int), Cond.methodLink RX0 69 yX0_rowEdgeCount, Cond.instanceMethod yX0_rowEdgeCount, Cond.selects RX0 yX0_rowEdgeCount yX0_rowEdgeCount, Cond.code yX0_rowEdgeCount cX0_rowEdgeCount 1 (some .int)]
def wsX4_grid : List Cond := .code yX4_grid cX4_grid 3 (some .int) :: ((wsX4_grid_r1 ++ (wsX4_grid_r2 ++ wsX4_grid_r3)) ++ wsX40 ++ wsX20 ++ wsX00)
def wsX4_set_r1 : List Cond := [Cond.fieldLink RX4 19 "MapSheets" "history" "LMapSheets$History;", Cond.fieldLink RX4 10 "MapSheets" "now" "LMapSheets$Atlas;", Cond.methodLink RX4 37 yX4_isWithin, Cond.static yX4_isWithin, Cond.initialized RX4, Cond.code yX4_isWithin cX4_isWithin 3 (some .boolean), Cond.methodLink RX4 41 yX2_recordState, Cond.instanceMethod yX2_recordState, Cond.selects RX2 yX2_recordState yX2_recordState, Cond.initialized RX2, Cond.code yX2_recordState cX2_recordState 3 none, Cond.fieldLink RX2 21 "MapSheets$History" "size" "I", Cond.methodLink RX2 25 yX2_stateAt, Cond.instanceMethod yX2_stateAt, Cond.selects RX2 yX2_stateAt yX2_stateAt, Cond.code yX2_stateAt cX2_stateAt 3 (some (.object "MapSheets$Atlas")), Cond.fieldLink RX2 17 "MapSheets$History" "oldest" "I", Cond.fieldLink RX2 13 "MapSheets$History" "states" "[LMapSheets$Atlas;", Cond.methodLink RX2 29 yX0_copyFrom, Cond.instanceMethod yX0_copyFrom, Cond.selects RX0 yX0_copyFrom yX0_copyFrom, Cond.initialized RX0, Cond.code yX0_copyFrom cX0_copyFrom 2 none, Cond.fieldLink RX0 9 "MapSheets$Atlas" "signs" "[I"]
def wsX4_set_r2 : List Cond := [Cond.fieldLink RX0 15 "MapSheets$Atlas" "meanings" "[I", Cond.fieldLink RX0 18 "MapSheets$Atlas" "revisions" "[I", Cond.fieldLink RX0 21 "MapSheets$Atlas" "published" "[I", Cond.fieldLink RX0 24 "MapSheets$Atlas" "scales" "[I", Cond.fieldLink RX0 27 "MapSheets$Atlas" "agreed" "[I", Cond.fieldLink RX0 41 "MapSheets$Atlas" "columns" "I", Cond.fieldLink RX0 44 "MapSheets$Atlas" "rows" "I", Cond.fieldLink RX0 30 "MapSheets$Atlas" "guard" "I", Cond.fieldLink RX0 34 "MapSheets$Atlas" "tolerance" "I", Cond.static yX4_copyRow, Cond.code yX4_copyRow cX4_copyRow 2 none, Cond.methodLink RX4 261 arraycopyName, Cond.native arraycopyName, Cond.static arraycopyName, Cond.initialized "java/lang/System", Cond.methodLink RX4 56 yX0_putGuard, Cond.instanceMethod yX0_putGuard, Cond.selects RX0 yX0_putGuard yX0_putGuard, Cond.code yX0_putGuard cX0_putGuard 3 (some .int), Cond.methodLink RX4 60 yX0_putTolerance, Cond.instanceMethod yX0_putTolerance, Cond.selects RX0 yX0_putTolerance yX0_putTolerance, Cond.code yX0_putTolerance cX0_putTolerance 3 (some .int), Cond.methodLink RX4 49 yX2_keepRecord]
def wsX4_set_r3 : List Cond := [Cond.instanceMethod yX2_keepRecord, Cond.selects RX2 yX2_keepRecord yX2_keepRecord, Cond.code yX2_keepRecord cX2_keepRecord 1 none]
def wsX4_set : List Cond := .code yX4_set cX4_set 4 (some .int) :: ((wsX4_set_r1 ++ (wsX4_set_r2 ++ wsX4_set_r3)) ++ wsX40 ++ wsX20 ++ wsX00)
def wsX4_isDigit : List Cond := .code yX4_isDigit cX4_isDigit 1 (some .boolean) :: ([.methodLink RX4 37 yX4_isWithin, .static yX4_isWithin, .initialized RX4, .code yX4_isWithin cX4_isWithin 3 (some .boolean)])
def wsX4_endRevision_r1 : List Cond := [Cond.fieldLink RX4 10 "MapSheets" "now" "LMapSheets$Atlas;", Cond.fieldLink RX4 19 "MapSheets" "history" "LMapSheets$History;", Cond.methodLink RX4 161 yX0_guardValue, Cond.instanceMethod yX0_guardValue, Cond.selects RX0 yX0_guardValue yX0_guardValue, Cond.initialized RX0, Cond.code yX0_guardValue cX0_guardValue 1 (some .int), Cond.fieldLink RX0 30 "MapSheets$Atlas" "guard" "I", Cond.methodLink RX4 252 yX0_breaksAgreement, Cond.instanceMethod yX0_breaksAgreement, Cond.selects RX0 yX0_breaksAgreement yX0_breaksAgreement, Cond.code yX0_breaksAgreement cX0_breaksAgreement 4 (some .boolean), Cond.methodLink RX0 85 yX0_edgeOf, Cond.instanceMethod yX0_edgeOf, Cond.selects RX0 yX0_edgeOf yX0_edgeOf, Cond.code yX0_edgeOf cX0_edgeOf 7 (some .int), Cond.fieldLink RX0 41 "MapSheets$Atlas" "columns" "I", Cond.fieldLink RX0 44 "MapSheets$Atlas" "rows" "I", Cond.methodLink RX0 79 yX0_columnOf, Cond.instanceMethod yX0_columnOf, Cond.selects RX0 yX0_columnOf yX0_columnOf, Cond.code yX0_columnOf cX0_columnOf 2 (some .int), Cond.methodLink RX0 82 yX0_rowOf, Cond.instanceMethod yX0_rowOf]
def wsX4_endRevision_r2 : List Cond := [Cond.selects RX0 yX0_rowOf yX0_rowOf, Cond.code yX0_rowOf cX0_rowOf 2 (some .int), Cond.methodLink RX0 69 yX0_rowEdgeCount, Cond.instanceMethod yX0_rowEdgeCount, Cond.selects RX0 yX0_rowEdgeCount yX0_rowEdgeCount, Cond.code yX0_rowEdgeCount cX0_rowEdgeCount 1 (some .int), Cond.methodLink RX0 124 yX0_isAgreed, Cond.instanceMethod yX0_isAgreed, Cond.selects RX0 yX0_isAgreed yX0_isAgreed, Cond.code yX0_isAgreed cX0_isAgreed 2 (some .boolean), Cond.fieldLink RX0 27 "MapSheets$Atlas" "agreed" "[I", Cond.static yX4_valueAt, Cond.initialized RX4, Cond.code yX4_valueAt cX4_valueAt 3 (some .int), Cond.methodLink RX0 121 yX0_quarrelsOf, Cond.instanceMethod yX0_quarrelsOf, Cond.selects RX0 yX0_quarrelsOf yX0_quarrelsOf, Cond.code yX0_quarrelsOf cX0_quarrelsOf 4 (some .int), Cond.methodLink RX0 118 yX0_reasonAt, Cond.instanceMethod yX0_reasonAt, Cond.selects RX0 yX0_reasonAt yX0_reasonAt, Cond.code yX0_reasonAt cX0_reasonAt 5 (some .int), Cond.methodLink RX0 75 yX0_firstSheet, Cond.instanceMethod yX0_firstSheet]
def wsX4_endRevision_r3 : List Cond := [Cond.selects RX0 yX0_firstSheet yX0_firstSheet, Cond.code yX0_firstSheet cX0_firstSheet 4 (some .int), Cond.methodLink RX0 106 yX0_firstSide, Cond.instanceMethod yX0_firstSide, Cond.selects RX0 yX0_firstSide yX0_firstSide, Cond.code yX0_firstSide cX0_firstSide 2 (some .int), Cond.methodLink RX0 109 yX0_meaningAt, Cond.instanceMethod yX0_meaningAt, Cond.selects RX0 yX0_meaningAt yX0_meaningAt, Cond.code yX0_meaningAt cX0_meaningAt 5 (some .int), Cond.fieldLink RX0 9 "MapSheets$Atlas" "signs" "[I", Cond.fieldLink RX0 15 "MapSheets$Atlas" "meanings" "[I", Cond.methodLink RX0 89 yX0_placeOf, Cond.static yX0_placeOf, Cond.code yX0_placeOf cX0_placeOf 3 (some .int), Cond.methodLink RX0 112 yX0_secondSheet, Cond.instanceMethod yX0_secondSheet, Cond.selects RX0 yX0_secondSheet yX0_secondSheet, Cond.code yX0_secondSheet cX0_secondSheet 2 (some .int), Cond.methodLink RX0 115 yX0_secondSide, Cond.instanceMethod yX0_secondSide, Cond.selects RX0 yX0_secondSide yX0_secondSide, Cond.code yX0_secondSide cX0_secondSide 2 (some .int), Cond.methodLink RX4 215 yX2_returnToRecord]
def wsX4_endRevision_r4 : List Cond := [Cond.instanceMethod yX2_returnToRecord, Cond.selects RX2 yX2_returnToRecord yX2_returnToRecord, Cond.initialized RX2, Cond.code yX2_returnToRecord cX2_returnToRecord 3 none, Cond.fieldLink RX2 21 "MapSheets$History" "size" "I", Cond.methodLink RX2 25 yX2_stateAt, Cond.instanceMethod yX2_stateAt, Cond.selects RX2 yX2_stateAt yX2_stateAt, Cond.code yX2_stateAt cX2_stateAt 3 (some (.object "MapSheets$Atlas")), Cond.fieldLink RX2 17 "MapSheets$History" "oldest" "I", Cond.fieldLink RX2 13 "MapSheets$History" "states" "[LMapSheets$Atlas;", Cond.methodLink RX2 29 yX0_copyFrom, Cond.instanceMethod yX0_copyFrom, Cond.selects RX0 yX0_copyFrom yX0_copyFrom, Cond.code yX0_copyFrom cX0_copyFrom 2 none, Cond.fieldLink RX0 18 "MapSheets$Atlas" "revisions" "[I", Cond.fieldLink RX0 21 "MapSheets$Atlas" "published" "[I", Cond.fieldLink RX0 24 "MapSheets$Atlas" "scales" "[I", Cond.fieldLink RX0 34 "MapSheets$Atlas" "tolerance" "I", Cond.static yX4_copyRow, Cond.code yX4_copyRow cX4_copyRow 2 none, Cond.methodLink RX4 261 arraycopyName, Cond.native arraycopyName, Cond.static arraycopyName]
def wsX4_endRevision_r5 : List Cond := [Cond.initialized "java/lang/System", Cond.methodLink RX4 255 yX0_dropBrokenAgreements, Cond.instanceMethod yX0_dropBrokenAgreements, Cond.selects RX0 yX0_dropBrokenAgreements yX0_dropBrokenAgreements, Cond.code yX0_dropBrokenAgreements cX0_dropBrokenAgreements 4 none, Cond.methodLink RX0 127 yX0_putAgreed, Cond.instanceMethod yX0_putAgreed, Cond.selects RX0 yX0_putAgreed yX0_putAgreed, Cond.code yX0_putAgreed cX0_putAgreed 3 (some .int), Cond.static yX4_exchange, Cond.code yX4_exchange cX4_exchange 4 (some .int), Cond.methodLink RX4 258 yX0_addRevision, Cond.instanceMethod yX0_addRevision, Cond.selects RX0 yX0_addRevision yX0_addRevision, Cond.code yX0_addRevision cX0_addRevision 2 none, Cond.methodLink RX0 141 yX0_revisionOf, Cond.instanceMethod yX0_revisionOf, Cond.selects RX0 yX0_revisionOf yX0_revisionOf, Cond.code yX0_revisionOf cX0_revisionOf 2 (some .int), Cond.methodLink RX4 49 yX2_keepRecord, Cond.instanceMethod yX2_keepRecord, Cond.selects RX2 yX2_keepRecord yX2_keepRecord, Cond.code yX2_keepRecord cX2_keepRecord 1 none]
def wsX4_endRevision : List Cond := .code yX4_endRevision cX4_endRevision 3 (some .int) :: ((wsX4_endRevision_r1 ++ (wsX4_endRevision_r2 ++ (wsX4_endRevision_r3 ++ (wsX4_endRevision_r4 ++ wsX4_endRevision_r5)))) ++ wsX40 ++ wsX00 ++ wsX20)
def wsX4_show_r1 : List Cond := [Cond.fieldLink RX4 10 "MapSheets" "now" "LMapSheets$Atlas;", Cond.fieldLink RX4 19 "MapSheets" "history" "LMapSheets$History;", Cond.methodLink RX4 63 yX0_hasPlace, Cond.instanceMethod yX0_hasPlace, Cond.selects RX0 yX0_hasPlace yX0_hasPlace, Cond.initialized RX0, Cond.code yX0_hasPlace cX0_hasPlace 4 (some .boolean), Cond.methodLink RX0 61 yX0_hasSheet, Cond.instanceMethod yX0_hasSheet, Cond.selects RX0 yX0_hasSheet yX0_hasSheet, Cond.code yX0_hasSheet cX0_hasSheet 2 (some .boolean), Cond.methodLink RX0 57 yX0_sheetCount, Cond.instanceMethod yX0_sheetCount, Cond.selects RX0 yX0_sheetCount yX0_sheetCount, Cond.code yX0_sheetCount cX0_sheetCount 1 (some .int), Cond.fieldLink RX0 41 "MapSheets$Atlas" "columns" "I", Cond.fieldLink RX0 44 "MapSheets$Atlas" "rows" "I", Cond.static yX4_isWithin, Cond.initialized RX4, Cond.code yX4_isWithin cX4_isWithin 3 (some .boolean), Cond.methodLink RX4 66 yX4_isDigit, Cond.static yX4_isDigit, Cond.code yX4_isDigit cX4_isDigit 1 (some .boolean), Cond.methodLink RX4 37 yX4_isWithin]
def wsX4_show_r2 : List Cond := [Cond.methodLink RX4 41 yX2_recordState, Cond.instanceMethod yX2_recordState, Cond.selects RX2 yX2_recordState yX2_recordState, Cond.initialized RX2, Cond.code yX2_recordState cX2_recordState 3 none, Cond.fieldLink RX2 21 "MapSheets$History" "size" "I", Cond.methodLink RX2 25 yX2_stateAt, Cond.instanceMethod yX2_stateAt, Cond.selects RX2 yX2_stateAt yX2_stateAt, Cond.code yX2_stateAt cX2_stateAt 3 (some (.object "MapSheets$Atlas")), Cond.fieldLink RX2 17 "MapSheets$History" "oldest" "I", Cond.fieldLink RX2 13 "MapSheets$History" "states" "[LMapSheets$Atlas;", Cond.methodLink RX2 29 yX0_copyFrom, Cond.instanceMethod yX0_copyFrom, Cond.selects RX0 yX0_copyFrom yX0_copyFrom, Cond.code yX0_copyFrom cX0_copyFrom 2 none, Cond.fieldLink RX0 9 "MapSheets$Atlas" "signs" "[I", Cond.fieldLink RX0 15 "MapSheets$Atlas" "meanings" "[I", Cond.fieldLink RX0 18 "MapSheets$Atlas" "revisions" "[I", Cond.fieldLink RX0 21 "MapSheets$Atlas" "published" "[I", Cond.fieldLink RX0 24 "MapSheets$Atlas" "scales" "[I", Cond.fieldLink RX0 27 "MapSheets$Atlas" "agreed" "[I", Cond.fieldLink RX0 30 "MapSheets$Atlas" "guard" "I", Cond.fieldLink RX0 34 "MapSheets$Atlas" "tolerance" "I"]
def wsX4_show_r3 : List Cond := [Cond.static yX4_copyRow, Cond.code yX4_copyRow cX4_copyRow 2 none, Cond.methodLink RX4 261 arraycopyName, Cond.native arraycopyName, Cond.static arraycopyName, Cond.initialized "java/lang/System", Cond.methodLink RX4 70 yX0_putSign, Cond.instanceMethod yX0_putSign, Cond.selects RX0 yX0_putSign yX0_putSign, Cond.code yX0_putSign cX0_putSign 5 (some .int), Cond.methodLink RX0 89 yX0_placeOf, Cond.static yX0_placeOf, Cond.code yX0_placeOf cX0_placeOf 3 (some .int), Cond.static yX4_exchange, Cond.code yX4_exchange cX4_exchange 4 (some .int), Cond.methodLink RX4 74 yX4_endRevision, Cond.instanceMethod yX4_endRevision, Cond.selects RX4 yX4_endRevision yX4_endRevision, Cond.code yX4_endRevision cX4_endRevision 3 (some .int), Cond.methodLink RX4 161 yX0_guardValue, Cond.instanceMethod yX0_guardValue, Cond.selects RX0 yX0_guardValue yX0_guardValue, Cond.code yX0_guardValue cX0_guardValue 1 (some .int), Cond.methodLink RX4 252 yX0_breaksAgreement]
def wsX4_show_r4 : List Cond := [Cond.instanceMethod yX0_breaksAgreement, Cond.selects RX0 yX0_breaksAgreement yX0_breaksAgreement, Cond.code yX0_breaksAgreement cX0_breaksAgreement 4 (some .boolean), Cond.methodLink RX0 85 yX0_edgeOf, Cond.instanceMethod yX0_edgeOf, Cond.selects RX0 yX0_edgeOf yX0_edgeOf, Cond.code yX0_edgeOf cX0_edgeOf 7 (some .int), Cond.methodLink RX0 79 yX0_columnOf, Cond.instanceMethod yX0_columnOf, Cond.selects RX0 yX0_columnOf yX0_columnOf, Cond.code yX0_columnOf cX0_columnOf 2 (some .int), Cond.methodLink RX0 82 yX0_rowOf, Cond.instanceMethod yX0_rowOf, Cond.selects RX0 yX0_rowOf yX0_rowOf, Cond.code yX0_rowOf cX0_rowOf 2 (some .int), Cond.methodLink RX0 69 yX0_rowEdgeCount, Cond.instanceMethod yX0_rowEdgeCount, Cond.selects RX0 yX0_rowEdgeCount yX0_rowEdgeCount, Cond.code yX0_rowEdgeCount cX0_rowEdgeCount 1 (some .int), Cond.methodLink RX0 124 yX0_isAgreed, Cond.instanceMethod yX0_isAgreed, Cond.selects RX0 yX0_isAgreed yX0_isAgreed, Cond.code yX0_isAgreed cX0_isAgreed 2 (some .boolean), Cond.static yX4_valueAt]
def wsX4_show_r5 : List Cond := [Cond.code yX4_valueAt cX4_valueAt 3 (some .int), Cond.methodLink RX0 121 yX0_quarrelsOf, Cond.instanceMethod yX0_quarrelsOf, Cond.selects RX0 yX0_quarrelsOf yX0_quarrelsOf, Cond.code yX0_quarrelsOf cX0_quarrelsOf 4 (some .int), Cond.methodLink RX0 118 yX0_reasonAt, Cond.instanceMethod yX0_reasonAt, Cond.selects RX0 yX0_reasonAt yX0_reasonAt, Cond.code yX0_reasonAt cX0_reasonAt 5 (some .int), Cond.methodLink RX0 75 yX0_firstSheet, Cond.instanceMethod yX0_firstSheet, Cond.selects RX0 yX0_firstSheet yX0_firstSheet, Cond.code yX0_firstSheet cX0_firstSheet 4 (some .int), Cond.methodLink RX0 106 yX0_firstSide, Cond.instanceMethod yX0_firstSide, Cond.selects RX0 yX0_firstSide yX0_firstSide, Cond.code yX0_firstSide cX0_firstSide 2 (some .int), Cond.methodLink RX0 109 yX0_meaningAt, Cond.instanceMethod yX0_meaningAt, Cond.selects RX0 yX0_meaningAt yX0_meaningAt, Cond.code yX0_meaningAt cX0_meaningAt 5 (some .int), Cond.methodLink RX0 112 yX0_secondSheet, Cond.instanceMethod yX0_secondSheet, Cond.selects RX0 yX0_secondSheet yX0_secondSheet]
def wsX4_show_r6 : List Cond := [Cond.code yX0_secondSheet cX0_secondSheet 2 (some .int), Cond.methodLink RX0 115 yX0_secondSide, Cond.instanceMethod yX0_secondSide, Cond.selects RX0 yX0_secondSide yX0_secondSide, Cond.code yX0_secondSide cX0_secondSide 2 (some .int), Cond.methodLink RX4 215 yX2_returnToRecord, Cond.instanceMethod yX2_returnToRecord, Cond.selects RX2 yX2_returnToRecord yX2_returnToRecord, Cond.code yX2_returnToRecord cX2_returnToRecord 3 none, Cond.methodLink RX4 255 yX0_dropBrokenAgreements, Cond.instanceMethod yX0_dropBrokenAgreements, Cond.selects RX0 yX0_dropBrokenAgreements yX0_dropBrokenAgreements, Cond.code yX0_dropBrokenAgreements cX0_dropBrokenAgreements 4 none, Cond.methodLink RX0 127 yX0_putAgreed, Cond.instanceMethod yX0_putAgreed, Cond.selects RX0 yX0_putAgreed yX0_putAgreed, Cond.code yX0_putAgreed cX0_putAgreed 3 (some .int), Cond.methodLink RX4 258 yX0_addRevision, Cond.instanceMethod yX0_addRevision, Cond.selects RX0 yX0_addRevision yX0_addRevision, Cond.code yX0_addRevision cX0_addRevision 2 none, Cond.methodLink RX0 141 yX0_revisionOf, Cond.instanceMethod yX0_revisionOf, Cond.selects RX0 yX0_revisionOf yX0_revisionOf]
def wsX4_show_r7 : List Cond := [Cond.code yX0_revisionOf cX0_revisionOf 2 (some .int), Cond.methodLink RX4 49 yX2_keepRecord, Cond.instanceMethod yX2_keepRecord, Cond.selects RX2 yX2_keepRecord yX2_keepRecord, Cond.code yX2_keepRecord cX2_keepRecord 1 none]
def wsX4_show : List Cond := .code yX4_show cX4_show 6 (some .int) :: ((wsX4_show_r1 ++ (wsX4_show_r2 ++ (wsX4_show_r3 ++ (wsX4_show_r4 ++ (wsX4_show_r5 ++ (wsX4_show_r6 ++ wsX4_show_r7)))))) ++ wsX40 ++ wsX00 ++ wsX20)
def wsX4_erase_r1 : List Cond := [Cond.fieldLink RX4 10 "MapSheets" "now" "LMapSheets$Atlas;", Cond.fieldLink RX4 19 "MapSheets" "history" "LMapSheets$History;", Cond.methodLink RX4 63 yX0_hasPlace, Cond.instanceMethod yX0_hasPlace, Cond.selects RX0 yX0_hasPlace yX0_hasPlace, Cond.initialized RX0, Cond.code yX0_hasPlace cX0_hasPlace 4 (some .boolean), Cond.methodLink RX0 61 yX0_hasSheet, Cond.instanceMethod yX0_hasSheet, Cond.selects RX0 yX0_hasSheet yX0_hasSheet, Cond.code yX0_hasSheet cX0_hasSheet 2 (some .boolean), Cond.methodLink RX0 57 yX0_sheetCount, Cond.instanceMethod yX0_sheetCount, Cond.selects RX0 yX0_sheetCount yX0_sheetCount, Cond.code yX0_sheetCount cX0_sheetCount 1 (some .int), Cond.fieldLink RX0 41 "MapSheets$Atlas" "columns" "I", Cond.fieldLink RX0 44 "MapSheets$Atlas" "rows" "I", Cond.static yX4_isWithin, Cond.initialized RX4, Cond.code yX4_isWithin cX4_isWithin 3 (some .boolean), Cond.methodLink RX4 78 yX0_signAt, Cond.instanceMethod yX0_signAt, Cond.selects RX0 yX0_signAt yX0_signAt, Cond.code yX0_signAt cX0_signAt 4 (some .int)]
def wsX4_erase_r2 : List Cond := [Cond.fieldLink RX0 9 "MapSheets$Atlas" "signs" "[I", Cond.methodLink RX0 89 yX0_placeOf, Cond.static yX0_placeOf, Cond.code yX0_placeOf cX0_placeOf 3 (some .int), Cond.static yX4_valueAt, Cond.code yX4_valueAt cX4_valueAt 3 (some .int), Cond.methodLink RX4 41 yX2_recordState, Cond.instanceMethod yX2_recordState, Cond.selects RX2 yX2_recordState yX2_recordState, Cond.initialized RX2, Cond.code yX2_recordState cX2_recordState 3 none, Cond.fieldLink RX2 21 "MapSheets$History" "size" "I", Cond.methodLink RX2 25 yX2_stateAt, Cond.instanceMethod yX2_stateAt, Cond.selects RX2 yX2_stateAt yX2_stateAt, Cond.code yX2_stateAt cX2_stateAt 3 (some (.object "MapSheets$Atlas")), Cond.fieldLink RX2 17 "MapSheets$History" "oldest" "I", Cond.fieldLink RX2 13 "MapSheets$History" "states" "[LMapSheets$Atlas;", Cond.methodLink RX2 29 yX0_copyFrom, Cond.instanceMethod yX0_copyFrom, Cond.selects RX0 yX0_copyFrom yX0_copyFrom, Cond.code yX0_copyFrom cX0_copyFrom 2 none, Cond.fieldLink RX0 15 "MapSheets$Atlas" "meanings" "[I", Cond.fieldLink RX0 18 "MapSheets$Atlas" "revisions" "[I"]
def wsX4_erase_r3 : List Cond := [Cond.fieldLink RX0 21 "MapSheets$Atlas" "published" "[I", Cond.fieldLink RX0 24 "MapSheets$Atlas" "scales" "[I", Cond.fieldLink RX0 27 "MapSheets$Atlas" "agreed" "[I", Cond.fieldLink RX0 30 "MapSheets$Atlas" "guard" "I", Cond.fieldLink RX0 34 "MapSheets$Atlas" "tolerance" "I", Cond.static yX4_copyRow, Cond.code yX4_copyRow cX4_copyRow 2 none, Cond.methodLink RX4 261 arraycopyName, Cond.native arraycopyName, Cond.static arraycopyName, Cond.initialized "java/lang/System", Cond.methodLink RX4 70 yX0_putSign, Cond.instanceMethod yX0_putSign, Cond.selects RX0 yX0_putSign yX0_putSign, Cond.code yX0_putSign cX0_putSign 5 (some .int), Cond.static yX4_exchange, Cond.code yX4_exchange cX4_exchange 4 (some .int), Cond.methodLink RX4 74 yX4_endRevision, Cond.instanceMethod yX4_endRevision, Cond.selects RX4 yX4_endRevision yX4_endRevision, Cond.code yX4_endRevision cX4_endRevision 3 (some .int), Cond.methodLink RX4 161 yX0_guardValue, Cond.instanceMethod yX0_guardValue, Cond.selects RX0 yX0_guardValue yX0_guardValue]
def wsX4_erase_r4 : List Cond := [Cond.code yX0_guardValue cX0_guardValue 1 (some .int), Cond.methodLink RX4 252 yX0_breaksAgreement, Cond.instanceMethod yX0_breaksAgreement, Cond.selects RX0 yX0_breaksAgreement yX0_breaksAgreement, Cond.code yX0_breaksAgreement cX0_breaksAgreement 4 (some .boolean), Cond.methodLink RX0 85 yX0_edgeOf, Cond.instanceMethod yX0_edgeOf, Cond.selects RX0 yX0_edgeOf yX0_edgeOf, Cond.code yX0_edgeOf cX0_edgeOf 7 (some .int), Cond.methodLink RX0 79 yX0_columnOf, Cond.instanceMethod yX0_columnOf, Cond.selects RX0 yX0_columnOf yX0_columnOf, Cond.code yX0_columnOf cX0_columnOf 2 (some .int), Cond.methodLink RX0 82 yX0_rowOf, Cond.instanceMethod yX0_rowOf, Cond.selects RX0 yX0_rowOf yX0_rowOf, Cond.code yX0_rowOf cX0_rowOf 2 (some .int), Cond.methodLink RX0 69 yX0_rowEdgeCount, Cond.instanceMethod yX0_rowEdgeCount, Cond.selects RX0 yX0_rowEdgeCount yX0_rowEdgeCount, Cond.code yX0_rowEdgeCount cX0_rowEdgeCount 1 (some .int), Cond.methodLink RX0 124 yX0_isAgreed, Cond.instanceMethod yX0_isAgreed, Cond.selects RX0 yX0_isAgreed yX0_isAgreed]
def wsX4_erase_r5 : List Cond := [Cond.code yX0_isAgreed cX0_isAgreed 2 (some .boolean), Cond.methodLink RX0 121 yX0_quarrelsOf, Cond.instanceMethod yX0_quarrelsOf, Cond.selects RX0 yX0_quarrelsOf yX0_quarrelsOf, Cond.code yX0_quarrelsOf cX0_quarrelsOf 4 (some .int), Cond.methodLink RX0 118 yX0_reasonAt, Cond.instanceMethod yX0_reasonAt, Cond.selects RX0 yX0_reasonAt yX0_reasonAt, Cond.code yX0_reasonAt cX0_reasonAt 5 (some .int), Cond.methodLink RX0 75 yX0_firstSheet, Cond.instanceMethod yX0_firstSheet, Cond.selects RX0 yX0_firstSheet yX0_firstSheet, Cond.code yX0_firstSheet cX0_firstSheet 4 (some .int), Cond.methodLink RX0 106 yX0_firstSide, Cond.instanceMethod yX0_firstSide, Cond.selects RX0 yX0_firstSide yX0_firstSide, Cond.code yX0_firstSide cX0_firstSide 2 (some .int), Cond.methodLink RX0 109 yX0_meaningAt, Cond.instanceMethod yX0_meaningAt, Cond.selects RX0 yX0_meaningAt yX0_meaningAt, Cond.code yX0_meaningAt cX0_meaningAt 5 (some .int), Cond.methodLink RX0 112 yX0_secondSheet, Cond.instanceMethod yX0_secondSheet, Cond.selects RX0 yX0_secondSheet yX0_secondSheet]
def wsX4_erase_r6 : List Cond := [Cond.code yX0_secondSheet cX0_secondSheet 2 (some .int), Cond.methodLink RX0 115 yX0_secondSide, Cond.instanceMethod yX0_secondSide, Cond.selects RX0 yX0_secondSide yX0_secondSide, Cond.code yX0_secondSide cX0_secondSide 2 (some .int), Cond.methodLink RX4 215 yX2_returnToRecord, Cond.instanceMethod yX2_returnToRecord, Cond.selects RX2 yX2_returnToRecord yX2_returnToRecord, Cond.code yX2_returnToRecord cX2_returnToRecord 3 none, Cond.methodLink RX4 255 yX0_dropBrokenAgreements, Cond.instanceMethod yX0_dropBrokenAgreements, Cond.selects RX0 yX0_dropBrokenAgreements yX0_dropBrokenAgreements, Cond.code yX0_dropBrokenAgreements cX0_dropBrokenAgreements 4 none, Cond.methodLink RX0 127 yX0_putAgreed, Cond.instanceMethod yX0_putAgreed, Cond.selects RX0 yX0_putAgreed yX0_putAgreed, Cond.code yX0_putAgreed cX0_putAgreed 3 (some .int), Cond.methodLink RX4 258 yX0_addRevision, Cond.instanceMethod yX0_addRevision, Cond.selects RX0 yX0_addRevision yX0_addRevision, Cond.code yX0_addRevision cX0_addRevision 2 none, Cond.methodLink RX0 141 yX0_revisionOf, Cond.instanceMethod yX0_revisionOf, Cond.selects RX0 yX0_revisionOf yX0_revisionOf]
def wsX4_erase_r7 : List Cond := [Cond.code yX0_revisionOf cX0_revisionOf 2 (some .int), Cond.methodLink RX4 49 yX2_keepRecord, Cond.instanceMethod yX2_keepRecord, Cond.selects RX2 yX2_keepRecord yX2_keepRecord, Cond.code yX2_keepRecord cX2_keepRecord 1 none]
def wsX4_erase : List Cond := .code yX4_erase cX4_erase 5 (some .int) :: ((wsX4_erase_r1 ++ (wsX4_erase_r2 ++ (wsX4_erase_r3 ++ (wsX4_erase_r4 ++ (wsX4_erase_r5 ++ (wsX4_erase_r6 ++ wsX4_erase_r7)))))) ++ wsX40 ++ wsX00 ++ wsX20)
def wsX4_mean_r1 : List Cond := [Cond.fieldLink RX4 10 "MapSheets" "now" "LMapSheets$Atlas;", Cond.fieldLink RX4 19 "MapSheets" "history" "LMapSheets$History;", Cond.methodLink RX4 82 yX0_hasSheet, Cond.instanceMethod yX0_hasSheet, Cond.selects RX0 yX0_hasSheet yX0_hasSheet, Cond.initialized RX0, Cond.code yX0_hasSheet cX0_hasSheet 2 (some .boolean), Cond.methodLink RX0 57 yX0_sheetCount, Cond.instanceMethod yX0_sheetCount, Cond.selects RX0 yX0_sheetCount yX0_sheetCount, Cond.code yX0_sheetCount cX0_sheetCount 1 (some .int), Cond.fieldLink RX0 41 "MapSheets$Atlas" "columns" "I", Cond.fieldLink RX0 44 "MapSheets$Atlas" "rows" "I", Cond.methodLink RX4 66 yX4_isDigit, Cond.static yX4_isDigit, Cond.initialized RX4, Cond.code yX4_isDigit cX4_isDigit 1 (some .boolean), Cond.methodLink RX4 37 yX4_isWithin, Cond.static yX4_isWithin, Cond.code yX4_isWithin cX4_isWithin 3 (some .boolean), Cond.methodLink RX4 41 yX2_recordState, Cond.instanceMethod yX2_recordState, Cond.selects RX2 yX2_recordState yX2_recordState, Cond.initialized RX2]
def wsX4_mean_r2 : List Cond := [Cond.code yX2_recordState cX2_recordState 3 none, Cond.fieldLink RX2 21 "MapSheets$History" "size" "I", Cond.methodLink RX2 25 yX2_stateAt, Cond.instanceMethod yX2_stateAt, Cond.selects RX2 yX2_stateAt yX2_stateAt, Cond.code yX2_stateAt cX2_stateAt 3 (some (.object "MapSheets$Atlas")), Cond.fieldLink RX2 17 "MapSheets$History" "oldest" "I", Cond.fieldLink RX2 13 "MapSheets$History" "states" "[LMapSheets$Atlas;", Cond.methodLink RX2 29 yX0_copyFrom, Cond.instanceMethod yX0_copyFrom, Cond.selects RX0 yX0_copyFrom yX0_copyFrom, Cond.code yX0_copyFrom cX0_copyFrom 2 none, Cond.fieldLink RX0 9 "MapSheets$Atlas" "signs" "[I", Cond.fieldLink RX0 15 "MapSheets$Atlas" "meanings" "[I", Cond.fieldLink RX0 18 "MapSheets$Atlas" "revisions" "[I", Cond.fieldLink RX0 21 "MapSheets$Atlas" "published" "[I", Cond.fieldLink RX0 24 "MapSheets$Atlas" "scales" "[I", Cond.fieldLink RX0 27 "MapSheets$Atlas" "agreed" "[I", Cond.fieldLink RX0 30 "MapSheets$Atlas" "guard" "I", Cond.fieldLink RX0 34 "MapSheets$Atlas" "tolerance" "I", Cond.static yX4_copyRow, Cond.code yX4_copyRow cX4_copyRow 2 none, Cond.methodLink RX4 261 arraycopyName, Cond.native arraycopyName]
def wsX4_mean_r3 : List Cond := [Cond.static arraycopyName, Cond.initialized "java/lang/System", Cond.methodLink RX4 85 yX0_putMeaning, Cond.instanceMethod yX0_putMeaning, Cond.selects RX0 yX0_putMeaning yX0_putMeaning, Cond.code yX0_putMeaning cX0_putMeaning 4 (some .int), Cond.static yX4_exchange, Cond.code yX4_exchange cX4_exchange 4 (some .int), Cond.methodLink RX4 74 yX4_endRevision, Cond.instanceMethod yX4_endRevision, Cond.selects RX4 yX4_endRevision yX4_endRevision, Cond.code yX4_endRevision cX4_endRevision 3 (some .int), Cond.methodLink RX4 161 yX0_guardValue, Cond.instanceMethod yX0_guardValue, Cond.selects RX0 yX0_guardValue yX0_guardValue, Cond.code yX0_guardValue cX0_guardValue 1 (some .int), Cond.methodLink RX4 252 yX0_breaksAgreement, Cond.instanceMethod yX0_breaksAgreement, Cond.selects RX0 yX0_breaksAgreement yX0_breaksAgreement, Cond.code yX0_breaksAgreement cX0_breaksAgreement 4 (some .boolean), Cond.methodLink RX0 85 yX0_edgeOf, Cond.instanceMethod yX0_edgeOf, Cond.selects RX0 yX0_edgeOf yX0_edgeOf, Cond.code yX0_edgeOf cX0_edgeOf 7 (some .int)]
def wsX4_mean_r4 : List Cond := [Cond.methodLink RX0 79 yX0_columnOf, Cond.instanceMethod yX0_columnOf, Cond.selects RX0 yX0_columnOf yX0_columnOf, Cond.code yX0_columnOf cX0_columnOf 2 (some .int), Cond.methodLink RX0 82 yX0_rowOf, Cond.instanceMethod yX0_rowOf, Cond.selects RX0 yX0_rowOf yX0_rowOf, Cond.code yX0_rowOf cX0_rowOf 2 (some .int), Cond.methodLink RX0 69 yX0_rowEdgeCount, Cond.instanceMethod yX0_rowEdgeCount, Cond.selects RX0 yX0_rowEdgeCount yX0_rowEdgeCount, Cond.code yX0_rowEdgeCount cX0_rowEdgeCount 1 (some .int), Cond.methodLink RX0 124 yX0_isAgreed, Cond.instanceMethod yX0_isAgreed, Cond.selects RX0 yX0_isAgreed yX0_isAgreed, Cond.code yX0_isAgreed cX0_isAgreed 2 (some .boolean), Cond.static yX4_valueAt, Cond.code yX4_valueAt cX4_valueAt 3 (some .int), Cond.methodLink RX0 121 yX0_quarrelsOf, Cond.instanceMethod yX0_quarrelsOf, Cond.selects RX0 yX0_quarrelsOf yX0_quarrelsOf, Cond.code yX0_quarrelsOf cX0_quarrelsOf 4 (some .int), Cond.methodLink RX0 118 yX0_reasonAt, Cond.instanceMethod yX0_reasonAt]
def wsX4_mean_r5 : List Cond := [Cond.selects RX0 yX0_reasonAt yX0_reasonAt, Cond.code yX0_reasonAt cX0_reasonAt 5 (some .int), Cond.methodLink RX0 75 yX0_firstSheet, Cond.instanceMethod yX0_firstSheet, Cond.selects RX0 yX0_firstSheet yX0_firstSheet, Cond.code yX0_firstSheet cX0_firstSheet 4 (some .int), Cond.methodLink RX0 106 yX0_firstSide, Cond.instanceMethod yX0_firstSide, Cond.selects RX0 yX0_firstSide yX0_firstSide, Cond.code yX0_firstSide cX0_firstSide 2 (some .int), Cond.methodLink RX0 109 yX0_meaningAt, Cond.instanceMethod yX0_meaningAt, Cond.selects RX0 yX0_meaningAt yX0_meaningAt, Cond.code yX0_meaningAt cX0_meaningAt 5 (some .int), Cond.methodLink RX0 89 yX0_placeOf, Cond.static yX0_placeOf, Cond.code yX0_placeOf cX0_placeOf 3 (some .int), Cond.methodLink RX0 112 yX0_secondSheet, Cond.instanceMethod yX0_secondSheet, Cond.selects RX0 yX0_secondSheet yX0_secondSheet, Cond.code yX0_secondSheet cX0_secondSheet 2 (some .int), Cond.methodLink RX0 115 yX0_secondSide, Cond.instanceMethod yX0_secondSide, Cond.selects RX0 yX0_secondSide yX0_secondSide]
def wsX4_mean_r6 : List Cond := [Cond.code yX0_secondSide cX0_secondSide 2 (some .int), Cond.methodLink RX4 215 yX2_returnToRecord, Cond.instanceMethod yX2_returnToRecord, Cond.selects RX2 yX2_returnToRecord yX2_returnToRecord, Cond.code yX2_returnToRecord cX2_returnToRecord 3 none, Cond.methodLink RX4 255 yX0_dropBrokenAgreements, Cond.instanceMethod yX0_dropBrokenAgreements, Cond.selects RX0 yX0_dropBrokenAgreements yX0_dropBrokenAgreements, Cond.code yX0_dropBrokenAgreements cX0_dropBrokenAgreements 4 none, Cond.methodLink RX0 127 yX0_putAgreed, Cond.instanceMethod yX0_putAgreed, Cond.selects RX0 yX0_putAgreed yX0_putAgreed, Cond.code yX0_putAgreed cX0_putAgreed 3 (some .int), Cond.methodLink RX4 258 yX0_addRevision, Cond.instanceMethod yX0_addRevision, Cond.selects RX0 yX0_addRevision yX0_addRevision, Cond.code yX0_addRevision cX0_addRevision 2 none, Cond.methodLink RX0 141 yX0_revisionOf, Cond.instanceMethod yX0_revisionOf, Cond.selects RX0 yX0_revisionOf yX0_revisionOf, Cond.code yX0_revisionOf cX0_revisionOf 2 (some .int), Cond.methodLink RX4 49 yX2_keepRecord, Cond.instanceMethod yX2_keepRecord, Cond.selects RX2 yX2_keepRecord yX2_keepRecord]
def wsX4_mean_r7 : List Cond := [Cond.code yX2_keepRecord cX2_keepRecord 1 none]
def wsX4_mean : List Cond := .code yX4_mean cX4_mean 5 (some .int) :: ((wsX4_mean_r1 ++ (wsX4_mean_r2 ++ (wsX4_mean_r3 ++ (wsX4_mean_r4 ++ (wsX4_mean_r5 ++ (wsX4_mean_r6 ++ wsX4_mean_r7)))))) ++ wsX40 ++ wsX00 ++ wsX20)
def wsX4_sign_r1 : List Cond := [Cond.fieldLink RX4 10 "MapSheets" "now" "LMapSheets$Atlas;", Cond.methodLink RX4 63 yX0_hasPlace, Cond.instanceMethod yX0_hasPlace, Cond.selects RX0 yX0_hasPlace yX0_hasPlace, Cond.initialized RX0, Cond.code yX0_hasPlace cX0_hasPlace 4 (some .boolean), Cond.methodLink RX0 61 yX0_hasSheet, Cond.instanceMethod yX0_hasSheet, Cond.selects RX0 yX0_hasSheet yX0_hasSheet, Cond.code yX0_hasSheet cX0_hasSheet 2 (some .boolean), Cond.methodLink RX0 57 yX0_sheetCount, Cond.instanceMethod yX0_sheetCount, Cond.selects RX0 yX0_sheetCount yX0_sheetCount, Cond.code yX0_sheetCount cX0_sheetCount 1 (some .int), Cond.fieldLink RX0 41 "MapSheets$Atlas" "columns" "I", Cond.fieldLink RX0 44 "MapSheets$Atlas" "rows" "I", Cond.static yX4_isWithin, Cond.initialized RX4, Cond.code yX4_isWithin cX4_isWithin 3 (some .boolean), Cond.methodLink RX4 78 yX0_signAt, Cond.instanceMethod yX0_signAt, Cond.selects RX0 yX0_signAt yX0_signAt, Cond.code yX0_signAt cX0_signAt 4 (some .int), Cond.fieldLink RX0 9 "MapSheets$Atlas" "signs" "[I"]
def wsX4_sign_r2 : List Cond := [Cond.methodLink RX0 89 yX0_placeOf, Cond.static yX0_placeOf, Cond.code yX0_placeOf cX0_placeOf 3 (some .int), Cond.static yX4_valueAt, Cond.code yX4_valueAt cX4_valueAt 3 (some .int)]
def wsX4_sign : List Cond := .code yX4_sign cX4_sign 5 (some .int) :: ((wsX4_sign_r1 ++ wsX4_sign_r2) ++ wsX40 ++ wsX00)
def wsX4_meaning_r1 : List Cond := [Cond.fieldLink RX4 10 "MapSheets" "now" "LMapSheets$Atlas;", Cond.methodLink RX4 82 yX0_hasSheet, Cond.instanceMethod yX0_hasSheet, Cond.selects RX0 yX0_hasSheet yX0_hasSheet, Cond.initialized RX0, Cond.code yX0_hasSheet cX0_hasSheet 2 (some .boolean), Cond.methodLink RX0 57 yX0_sheetCount, Cond.instanceMethod yX0_sheetCount, Cond.selects RX0 yX0_sheetCount yX0_sheetCount, Cond.code yX0_sheetCount cX0_sheetCount 1 (some .int), Cond.fieldLink RX0 41 "MapSheets$Atlas" "columns" "I", Cond.fieldLink RX0 44 "MapSheets$Atlas" "rows" "I", Cond.methodLink RX4 66 yX4_isDigit, Cond.static yX4_isDigit, Cond.initialized RX4, Cond.code yX4_isDigit cX4_isDigit 1 (some .boolean), Cond.methodLink RX4 37 yX4_isWithin, Cond.static yX4_isWithin, Cond.code yX4_isWithin cX4_isWithin 3 (some .boolean), Cond.methodLink RX4 88 yX0_meaningOf, Cond.instanceMethod yX0_meaningOf, Cond.selects RX0 yX0_meaningOf yX0_meaningOf, Cond.code yX0_meaningOf cX0_meaningOf 3 (some .int), Cond.fieldLink RX0 15 "MapSheets$Atlas" "meanings" "[I"]
def wsX4_meaning_r2 : List Cond := [Cond.static yX4_valueAt, Cond.code yX4_valueAt cX4_valueAt 3 (some .int)]
def wsX4_meaning : List Cond := .code yX4_meaning cX4_meaning 3 (some .int) :: ((wsX4_meaning_r1 ++ wsX4_meaning_r2) ++ wsX40 ++ wsX00)
def wsX4_sheet_r1 : List Cond := [Cond.fieldLink RX4 10 "MapSheets" "now" "LMapSheets$Atlas;", Cond.fieldLink RX4 26 "MapSheets" "blocks" "LMapSheets$Blocks;", Cond.methodLink RX4 82 yX0_hasSheet, Cond.instanceMethod yX0_hasSheet, Cond.selects RX0 yX0_hasSheet yX0_hasSheet, Cond.initialized RX0, Cond.code yX0_hasSheet cX0_hasSheet 2 (some .boolean), Cond.methodLink RX0 57 yX0_sheetCount, Cond.instanceMethod yX0_sheetCount, Cond.selects RX0 yX0_sheetCount yX0_sheetCount, Cond.code yX0_sheetCount cX0_sheetCount 1 (some .int), Cond.fieldLink RX0 41 "MapSheets$Atlas" "columns" "I", Cond.fieldLink RX0 44 "MapSheets$Atlas" "rows" "I", Cond.methodLink RX4 91 yX0_columnOf, Cond.instanceMethod yX0_columnOf, Cond.selects RX0 yX0_columnOf yX0_columnOf, Cond.code yX0_columnOf cX0_columnOf 2 (some .int), Cond.methodLink RX4 94 yX0_rowOf, Cond.instanceMethod yX0_rowOf, Cond.selects RX0 yX0_rowOf yX0_rowOf, Cond.code yX0_rowOf cX0_rowOf 2 (some .int), Cond.methodLink RX4 97 yX0_edgesOf, Cond.instanceMethod yX0_edgesOf, Cond.selects RX0 yX0_edgesOf yX0_edgesOf]
def wsX4_sheet_r2 : List Cond := [Cond.code yX0_edgesOf cX0_edgesOf 4 (some .int), Cond.methodLink RX0 85 yX0_edgeOf, Cond.instanceMethod yX0_edgeOf, Cond.selects RX0 yX0_edgeOf yX0_edgeOf, Cond.code yX0_edgeOf cX0_edgeOf 7 (some .int), Cond.methodLink RX0 79 yX0_columnOf, Cond.methodLink RX0 82 yX0_rowOf, Cond.methodLink RX0 69 yX0_rowEdgeCount, Cond.instanceMethod yX0_rowEdgeCount, Cond.selects RX0 yX0_rowEdgeCount yX0_rowEdgeCount, Cond.code yX0_rowEdgeCount cX0_rowEdgeCount 1 (some .int), Cond.methodLink RX4 100 yX0_agreedEdgesOf, Cond.instanceMethod yX0_agreedEdgesOf, Cond.selects RX0 yX0_agreedEdgesOf yX0_agreedEdgesOf, Cond.code yX0_agreedEdgesOf cX0_agreedEdgesOf 4 (some .int), Cond.methodLink RX0 124 yX0_isAgreed, Cond.instanceMethod yX0_isAgreed, Cond.selects RX0 yX0_isAgreed yX0_isAgreed, Cond.code yX0_isAgreed cX0_isAgreed 2 (some .boolean), Cond.fieldLink RX0 27 "MapSheets$Atlas" "agreed" "[I", Cond.static yX4_valueAt, Cond.initialized RX4, Cond.code yX4_valueAt cX4_valueAt 3 (some .int), Cond.methodLink RX4 103 yX0_revisionOf]
def wsX4_sheet_r3 : List Cond := [Cond.instanceMethod yX0_revisionOf, Cond.selects RX0 yX0_revisionOf yX0_revisionOf, Cond.code yX0_revisionOf cX0_revisionOf 2 (some .int), Cond.fieldLink RX0 18 "MapSheets$Atlas" "revisions" "[I", Cond.methodLink RX4 106 yX0_isPublished, Cond.instanceMethod yX0_isPublished, Cond.selects RX0 yX0_isPublished yX0_isPublished, Cond.code yX0_isPublished cX0_isPublished 2 (some .boolean), Cond.methodLink RX0 144 yX0_publishedOf, Cond.instanceMethod yX0_publishedOf, Cond.selects RX0 yX0_publishedOf yX0_publishedOf, Cond.code yX0_publishedOf cX0_publishedOf 2 (some .int), Cond.fieldLink RX0 21 "MapSheets$Atlas" "published" "[I", Cond.methodLink RX4 109 yX0_publishedOf, Cond.methodLink RX4 112 yX0_isUpToDate, Cond.instanceMethod yX0_isUpToDate, Cond.selects RX0 yX0_isUpToDate yX0_isUpToDate, Cond.code yX0_isUpToDate cX0_isUpToDate 2 (some .boolean), Cond.methodLink RX0 147 yX0_isPublished, Cond.methodLink RX0 141 yX0_revisionOf, Cond.methodLink RX4 115 yX0_scaleOf, Cond.instanceMethod yX0_scaleOf, Cond.selects RX0 yX0_scaleOf yX0_scaleOf, Cond.code yX0_scaleOf cX0_scaleOf 2 (some .int)]
def wsX4_sheet_r4 : List Cond := [Cond.fieldLink RX0 24 "MapSheets$Atlas" "scales" "[I", Cond.methodLink RX4 118 yX0_signsShownOn, Cond.instanceMethod yX0_signsShownOn, Cond.selects RX0 yX0_signsShownOn yX0_signsShownOn, Cond.code yX0_signsShownOn cX0_signsShownOn 5 (some .int), Cond.methodLink RX0 100 yX0_signAt, Cond.instanceMethod yX0_signAt, Cond.selects RX0 yX0_signAt yX0_signAt, Cond.code yX0_signAt cX0_signAt 4 (some .int), Cond.fieldLink RX0 9 "MapSheets$Atlas" "signs" "[I", Cond.methodLink RX0 89 yX0_placeOf, Cond.static yX0_placeOf, Cond.code yX0_placeOf cX0_placeOf 3 (some .int), Cond.methodLink RX4 121 yX1_find, Cond.instanceMethod yX1_find, Cond.selects RX1 yX1_find yX1_find, Cond.initialized RX1, Cond.code yX1_find cX1_find 7 (some .int), Cond.fieldLink RX1 9 "MapSheets$Blocks" "lowest" "[I", Cond.methodLink RX1 38 Lib.Math.min.name, Cond.static Lib.Math.min.name, Cond.initialized "java/lang/Math", Cond.code Lib.Math.min.name Lib.Math.min.code 2 (some .int), Cond.methodLink RX1 44 Lib.Math.max.name]
def wsX4_sheet_r5 : List Cond := [Cond.static Lib.Math.max.name, Cond.code Lib.Math.max.name Lib.Math.max.code 2 (some .int), Cond.methodLink RX1 15 yX0_edgeCount, Cond.instanceMethod yX0_edgeCount, Cond.selects RX0 yX0_edgeCount yX0_edgeCount, Cond.code yX0_edgeCount cX0_edgeCount 1 (some .int), Cond.methodLink RX1 21 yX0_sheetCount, Cond.methodLink RX1 24 yX0_isAgreed, Cond.methodLink RX1 28 yX0_firstSheet, Cond.instanceMethod yX0_firstSheet, Cond.selects RX0 yX0_firstSheet yX0_firstSheet, Cond.code yX0_firstSheet cX0_firstSheet 4 (some .int), Cond.methodLink RX1 32 yX1_lowestOf, Cond.instanceMethod yX1_lowestOf, Cond.selects RX1 yX1_lowestOf yX1_lowestOf, Cond.code yX1_lowestOf cX1_lowestOf 2 (some .int), Cond.methodLink RX1 35 yX0_secondSheet, Cond.instanceMethod yX0_secondSheet, Cond.selects RX0 yX0_secondSheet yX0_secondSheet, Cond.code yX0_secondSheet cX0_secondSheet 2 (some .int), Cond.methodLink RX0 75 yX0_firstSheet, Cond.methodLink RX1 47 yX1_join, Cond.instanceMethod yX1_join, Cond.selects RX1 yX1_join yX1_join]
def wsX4_sheet_r6 : List Cond := [Cond.code yX1_join cX1_join 4 none, Cond.methodLink RX4 125 yX1_lowestOf]
def wsX4_sheet : List Cond := .code yX4_sheet cX4_sheet 3 (some .int) :: ((wsX4_sheet_r1 ++ (wsX4_sheet_r2 ++ (wsX4_sheet_r3 ++ (wsX4_sheet_r4 ++ (wsX4_sheet_r5 ++ wsX4_sheet_r6))))) ++ wsX40 ++ wsX00 ++ wsX10)
def wsX4_count_r1 : List Cond := [Cond.fieldLink RX4 10 "MapSheets" "now" "LMapSheets$Atlas;", Cond.fieldLink RX4 26 "MapSheets" "blocks" "LMapSheets$Blocks;", Cond.fieldLink RX4 19 "MapSheets" "history" "LMapSheets$History;", Cond.fieldLink RX4 33 "MapSheets" "text" "LMapSheets$SignText;", Cond.methodLink RX4 128 yX0_columnCount, Cond.instanceMethod yX0_columnCount, Cond.selects RX0 yX0_columnCount yX0_columnCount, Cond.initialized RX0, Cond.code yX0_columnCount cX0_columnCount 1 (some .int), Cond.fieldLink RX0 41 "MapSheets$Atlas" "columns" "I", Cond.methodLink RX4 131 yX0_rowCount, Cond.instanceMethod yX0_rowCount, Cond.selects RX0 yX0_rowCount yX0_rowCount, Cond.code yX0_rowCount cX0_rowCount 1 (some .int), Cond.fieldLink RX0 44 "MapSheets$Atlas" "rows" "I", Cond.methodLink RX4 134 yX0_sheetCount, Cond.instanceMethod yX0_sheetCount, Cond.selects RX0 yX0_sheetCount yX0_sheetCount, Cond.code yX0_sheetCount cX0_sheetCount 1 (some .int), Cond.methodLink RX4 52 yX0_edgeCount, Cond.instanceMethod yX0_edgeCount, Cond.selects RX0 yX0_edgeCount yX0_edgeCount, Cond.code yX0_edgeCount cX0_edgeCount 1 (some .int), Cond.methodLink RX0 69 yX0_rowEdgeCount]
def wsX4_count_r2 : List Cond := [Cond.instanceMethod yX0_rowEdgeCount, Cond.selects RX0 yX0_rowEdgeCount yX0_rowEdgeCount, Cond.code yX0_rowEdgeCount cX0_rowEdgeCount 1 (some .int), Cond.methodLink RX4 137 yX0_agreedEdges, Cond.instanceMethod yX0_agreedEdges, Cond.selects RX0 yX0_agreedEdges yX0_agreedEdges, Cond.code yX0_agreedEdges cX0_agreedEdges 4 (some .int), Cond.methodLink RX0 72 yX0_edgeCount, Cond.methodLink RX0 124 yX0_isAgreed, Cond.instanceMethod yX0_isAgreed, Cond.selects RX0 yX0_isAgreed yX0_isAgreed, Cond.code yX0_isAgreed cX0_isAgreed 2 (some .boolean), Cond.fieldLink RX0 27 "MapSheets$Atlas" "agreed" "[I", Cond.static yX4_valueAt, Cond.initialized RX4, Cond.code yX4_valueAt cX4_valueAt 3 (some .int), Cond.methodLink RX4 140 yX0_cleanEdges, Cond.instanceMethod yX0_cleanEdges, Cond.selects RX0 yX0_cleanEdges yX0_cleanEdges, Cond.code yX0_cleanEdges cX0_cleanEdges 4 (some .int), Cond.methodLink RX0 121 yX0_quarrelsOf, Cond.instanceMethod yX0_quarrelsOf, Cond.selects RX0 yX0_quarrelsOf yX0_quarrelsOf, Cond.code yX0_quarrelsOf cX0_quarrelsOf 4 (some .int)]
def wsX4_count_r3 : List Cond := [Cond.methodLink RX0 118 yX0_reasonAt, Cond.instanceMethod yX0_reasonAt, Cond.selects RX0 yX0_reasonAt yX0_reasonAt, Cond.code yX0_reasonAt cX0_reasonAt 5 (some .int), Cond.methodLink RX0 75 yX0_firstSheet, Cond.instanceMethod yX0_firstSheet, Cond.selects RX0 yX0_firstSheet yX0_firstSheet, Cond.code yX0_firstSheet cX0_firstSheet 4 (some .int), Cond.methodLink RX0 106 yX0_firstSide, Cond.instanceMethod yX0_firstSide, Cond.selects RX0 yX0_firstSide yX0_firstSide, Cond.code yX0_firstSide cX0_firstSide 2 (some .int), Cond.methodLink RX0 109 yX0_meaningAt, Cond.instanceMethod yX0_meaningAt, Cond.selects RX0 yX0_meaningAt yX0_meaningAt, Cond.code yX0_meaningAt cX0_meaningAt 5 (some .int), Cond.fieldLink RX0 9 "MapSheets$Atlas" "signs" "[I", Cond.fieldLink RX0 15 "MapSheets$Atlas" "meanings" "[I", Cond.methodLink RX0 89 yX0_placeOf, Cond.static yX0_placeOf, Cond.code yX0_placeOf cX0_placeOf 3 (some .int), Cond.methodLink RX0 112 yX0_secondSheet, Cond.instanceMethod yX0_secondSheet, Cond.selects RX0 yX0_secondSheet yX0_secondSheet]
def wsX4_count_r4 : List Cond := [Cond.code yX0_secondSheet cX0_secondSheet 2 (some .int), Cond.methodLink RX0 115 yX0_secondSide, Cond.instanceMethod yX0_secondSide, Cond.selects RX0 yX0_secondSide yX0_secondSide, Cond.code yX0_secondSide cX0_secondSide 2 (some .int), Cond.methodLink RX4 143 yX0_quarrelsOfAll, Cond.instanceMethod yX0_quarrelsOfAll, Cond.selects RX0 yX0_quarrelsOfAll yX0_quarrelsOfAll, Cond.code yX0_quarrelsOfAll cX0_quarrelsOfAll 4 (some .int), Cond.methodLink RX4 121 yX1_find, Cond.instanceMethod yX1_find, Cond.selects RX1 yX1_find yX1_find, Cond.initialized RX1, Cond.code yX1_find cX1_find 7 (some .int), Cond.fieldLink RX1 9 "MapSheets$Blocks" "lowest" "[I", Cond.methodLink RX1 38 Lib.Math.min.name, Cond.static Lib.Math.min.name, Cond.initialized "java/lang/Math", Cond.code Lib.Math.min.name Lib.Math.min.code 2 (some .int), Cond.methodLink RX1 44 Lib.Math.max.name, Cond.static Lib.Math.max.name, Cond.code Lib.Math.max.name Lib.Math.max.code 2 (some .int), Cond.methodLink RX1 15 yX0_edgeCount, Cond.methodLink RX1 21 yX0_sheetCount]
def wsX4_count_r5 : List Cond := [Cond.methodLink RX1 24 yX0_isAgreed, Cond.methodLink RX1 28 yX0_firstSheet, Cond.methodLink RX1 32 yX1_lowestOf, Cond.instanceMethod yX1_lowestOf, Cond.selects RX1 yX1_lowestOf yX1_lowestOf, Cond.code yX1_lowestOf cX1_lowestOf 2 (some .int), Cond.methodLink RX1 35 yX0_secondSheet, Cond.methodLink RX1 47 yX1_join, Cond.instanceMethod yX1_join, Cond.selects RX1 yX1_join yX1_join, Cond.code yX1_join cX1_join 4 none, Cond.methodLink RX4 146 yX0_publishedSheets, Cond.instanceMethod yX0_publishedSheets, Cond.selects RX0 yX0_publishedSheets yX0_publishedSheets, Cond.code yX0_publishedSheets cX0_publishedSheets 4 (some .int), Cond.methodLink RX0 57 yX0_sheetCount, Cond.methodLink RX0 147 yX0_isPublished, Cond.instanceMethod yX0_isPublished, Cond.selects RX0 yX0_isPublished yX0_isPublished, Cond.code yX0_isPublished cX0_isPublished 2 (some .boolean), Cond.methodLink RX0 144 yX0_publishedOf, Cond.instanceMethod yX0_publishedOf, Cond.selects RX0 yX0_publishedOf yX0_publishedOf, Cond.code yX0_publishedOf cX0_publishedOf 2 (some .int)]
def wsX4_count_r6 : List Cond := [Cond.fieldLink RX0 21 "MapSheets$Atlas" "published" "[I", Cond.methodLink RX4 149 yX0_sheetsUpToDate, Cond.instanceMethod yX0_sheetsUpToDate, Cond.selects RX0 yX0_sheetsUpToDate yX0_sheetsUpToDate, Cond.code yX0_sheetsUpToDate cX0_sheetsUpToDate 4 (some .int), Cond.methodLink RX0 150 yX0_isUpToDate, Cond.instanceMethod yX0_isUpToDate, Cond.selects RX0 yX0_isUpToDate yX0_isUpToDate, Cond.code yX0_isUpToDate cX0_isUpToDate 2 (some .boolean), Cond.methodLink RX0 141 yX0_revisionOf, Cond.instanceMethod yX0_revisionOf, Cond.selects RX0 yX0_revisionOf yX0_revisionOf, Cond.code yX0_revisionOf cX0_revisionOf 2 (some .int), Cond.fieldLink RX0 18 "MapSheets$Atlas" "revisions" "[I", Cond.methodLink RX4 152 yX0_fittingEdges, Cond.instanceMethod yX0_fittingEdges, Cond.selects RX0 yX0_fittingEdges yX0_fittingEdges, Cond.code yX0_fittingEdges cX0_fittingEdges 4 (some .int), Cond.methodLink RX0 166 yX0_isFitting, Cond.instanceMethod yX0_isFitting, Cond.selects RX0 yX0_isFitting yX0_isFitting, Cond.code yX0_isFitting cX0_isFitting 6 (some .boolean), Cond.fieldLink RX0 34 "MapSheets$Atlas" "tolerance" "I", Cond.constantDouble RX0 164 (4652007308841189376)]
def wsX4_count_r7 : List Cond := [Cond.methodLink RX0 161 yX0_ratioOf, Cond.instanceMethod yX0_ratioOf, Cond.selects RX0 yX0_ratioOf yX0_ratioOf, Cond.code yX0_ratioOf cX0_ratioOf 3 (some .float), Cond.methodLink RX0 157 yX0_floatScale, Cond.instanceMethod yX0_floatScale, Cond.selects RX0 yX0_floatScale yX0_floatScale, Cond.code yX0_floatScale cX0_floatScale 2 (some .float), Cond.constantFloat RX0 156 (1148846080), Cond.methodLink RX0 153 yX0_scaleOf, Cond.instanceMethod yX0_scaleOf, Cond.selects RX0 yX0_scaleOf yX0_scaleOf, Cond.code yX0_scaleOf cX0_scaleOf 2 (some .int), Cond.fieldLink RX0 24 "MapSheets$Atlas" "scales" "[I", Cond.methodLink RX4 155 yX2_stateCount, Cond.instanceMethod yX2_stateCount, Cond.selects RX2 yX2_stateCount yX2_stateCount, Cond.initialized RX2, Cond.code yX2_stateCount cX2_stateCount 1 (some .int), Cond.fieldLink RX2 21 "MapSheets$History" "size" "I", Cond.methodLink RX4 158 yX3_characterCount, Cond.instanceMethod yX3_characterCount, Cond.selects RX3 yX3_characterCount yX3_characterCount, Cond.initialized RX3]
def wsX4_count_r8 : List Cond := [Cond.code yX3_characterCount cX3_characterCount 1 (some .int), Cond.fieldLink RX3 15 "MapSheets$SignText" "length" "I", Cond.methodLink RX4 161 yX0_guardValue, Cond.instanceMethod yX0_guardValue, Cond.selects RX0 yX0_guardValue yX0_guardValue, Cond.code yX0_guardValue cX0_guardValue 1 (some .int), Cond.fieldLink RX0 30 "MapSheets$Atlas" "guard" "I", Cond.methodLink RX4 164 yX0_toleranceValue, Cond.instanceMethod yX0_toleranceValue, Cond.selects RX0 yX0_toleranceValue yX0_toleranceValue, Cond.code yX0_toleranceValue cX0_toleranceValue 1 (some .int)]
def wsX4_count : List Cond := .code yX4_count cX4_count 2 (some .int) :: ((wsX4_count_r1 ++ (wsX4_count_r2 ++ (wsX4_count_r3 ++ (wsX4_count_r4 ++ (wsX4_count_r5 ++ (wsX4_count_r6 ++ (wsX4_count_r7 ++ wsX4_count_r8))))))) ++ wsX40 ++ wsX00 ++ wsX10 ++ wsX20 ++ wsX30)
def wsX4_edge_r1 : List Cond := [Cond.fieldLink RX4 10 "MapSheets" "now" "LMapSheets$Atlas;", Cond.methodLink RX4 170 yX0_hasEdge, Cond.instanceMethod yX0_hasEdge, Cond.selects RX0 yX0_hasEdge yX0_hasEdge, Cond.initialized RX0, Cond.code yX0_hasEdge cX0_hasEdge 2 (some .boolean), Cond.methodLink RX0 72 yX0_edgeCount, Cond.instanceMethod yX0_edgeCount, Cond.selects RX0 yX0_edgeCount yX0_edgeCount, Cond.code yX0_edgeCount cX0_edgeCount 1 (some .int), Cond.fieldLink RX0 41 "MapSheets$Atlas" "columns" "I", Cond.fieldLink RX0 44 "MapSheets$Atlas" "rows" "I", Cond.methodLink RX0 69 yX0_rowEdgeCount, Cond.instanceMethod yX0_rowEdgeCount, Cond.selects RX0 yX0_rowEdgeCount yX0_rowEdgeCount, Cond.code yX0_rowEdgeCount cX0_rowEdgeCount 1 (some .int), Cond.methodLink RX4 173 yX0_firstSheet, Cond.instanceMethod yX0_firstSheet, Cond.selects RX0 yX0_firstSheet yX0_firstSheet, Cond.code yX0_firstSheet cX0_firstSheet 4 (some .int), Cond.methodLink RX4 176 yX0_secondSheet, Cond.instanceMethod yX0_secondSheet, Cond.selects RX0 yX0_secondSheet yX0_secondSheet, Cond.code yX0_secondSheet cX0_secondSheet 2 (some .int)]
def wsX4_edge_r2 : List Cond := [Cond.methodLink RX0 75 yX0_firstSheet, Cond.methodLink RX4 179 yX0_firstSide, Cond.instanceMethod yX0_firstSide, Cond.selects RX0 yX0_firstSide yX0_firstSide, Cond.code yX0_firstSide cX0_firstSide 2 (some .int), Cond.methodLink RX4 182 yX0_isAgreed, Cond.instanceMethod yX0_isAgreed, Cond.selects RX0 yX0_isAgreed yX0_isAgreed, Cond.code yX0_isAgreed cX0_isAgreed 2 (some .boolean), Cond.fieldLink RX0 27 "MapSheets$Atlas" "agreed" "[I", Cond.static yX4_valueAt, Cond.initialized RX4, Cond.code yX4_valueAt cX4_valueAt 3 (some .int), Cond.methodLink RX4 185 yX0_quarrelsOf, Cond.instanceMethod yX0_quarrelsOf, Cond.selects RX0 yX0_quarrelsOf yX0_quarrelsOf, Cond.code yX0_quarrelsOf cX0_quarrelsOf 4 (some .int), Cond.methodLink RX0 118 yX0_reasonAt, Cond.instanceMethod yX0_reasonAt, Cond.selects RX0 yX0_reasonAt yX0_reasonAt, Cond.code yX0_reasonAt cX0_reasonAt 5 (some .int), Cond.methodLink RX0 106 yX0_firstSide, Cond.methodLink RX0 109 yX0_meaningAt, Cond.instanceMethod yX0_meaningAt]
def wsX4_edge_r3 : List Cond := [Cond.selects RX0 yX0_meaningAt yX0_meaningAt, Cond.code yX0_meaningAt cX0_meaningAt 5 (some .int), Cond.fieldLink RX0 9 "MapSheets$Atlas" "signs" "[I", Cond.fieldLink RX0 15 "MapSheets$Atlas" "meanings" "[I", Cond.methodLink RX0 89 yX0_placeOf, Cond.static yX0_placeOf, Cond.code yX0_placeOf cX0_placeOf 3 (some .int), Cond.methodLink RX0 112 yX0_secondSheet, Cond.methodLink RX0 115 yX0_secondSide, Cond.instanceMethod yX0_secondSide, Cond.selects RX0 yX0_secondSide yX0_secondSide, Cond.code yX0_secondSide cX0_secondSide 2 (some .int), Cond.methodLink RX4 188 yX0_signsOnBothSides, Cond.instanceMethod yX0_signsOnBothSides, Cond.selects RX0 yX0_signsOnBothSides yX0_signsOnBothSides, Cond.code yX0_signsOnBothSides cX0_signsOnBothSides 6 (some .int), Cond.methodLink RX0 100 yX0_signAt, Cond.instanceMethod yX0_signAt, Cond.selects RX0 yX0_signAt yX0_signAt, Cond.code yX0_signAt cX0_signAt 4 (some .int), Cond.methodLink RX4 191 yX0_isFitting, Cond.instanceMethod yX0_isFitting, Cond.selects RX0 yX0_isFitting yX0_isFitting, Cond.code yX0_isFitting cX0_isFitting 6 (some .boolean)]
def wsX4_edge_r4 : List Cond := [Cond.fieldLink RX0 34 "MapSheets$Atlas" "tolerance" "I", Cond.constantDouble RX0 164 (4652007308841189376), Cond.methodLink RX0 161 yX0_ratioOf, Cond.instanceMethod yX0_ratioOf, Cond.selects RX0 yX0_ratioOf yX0_ratioOf, Cond.code yX0_ratioOf cX0_ratioOf 3 (some .float), Cond.methodLink RX0 157 yX0_floatScale, Cond.instanceMethod yX0_floatScale, Cond.selects RX0 yX0_floatScale yX0_floatScale, Cond.code yX0_floatScale cX0_floatScale 2 (some .float), Cond.constantFloat RX0 156 (1148846080), Cond.methodLink RX0 153 yX0_scaleOf, Cond.instanceMethod yX0_scaleOf, Cond.selects RX0 yX0_scaleOf yX0_scaleOf, Cond.code yX0_scaleOf cX0_scaleOf 2 (some .int), Cond.fieldLink RX0 24 "MapSheets$Atlas" "scales" "[I"]
def wsX4_edge : List Cond := .code yX4_edge cX4_edge 3 (some .int) :: ((wsX4_edge_r1 ++ (wsX4_edge_r2 ++ (wsX4_edge_r3 ++ wsX4_edge_r4))) ++ wsX40 ++ wsX00)
def wsX4_edgeAt_r1 : List Cond := [Cond.fieldLink RX4 10 "MapSheets" "now" "LMapSheets$Atlas;", Cond.methodLink RX4 82 yX0_hasSheet, Cond.instanceMethod yX0_hasSheet, Cond.selects RX0 yX0_hasSheet yX0_hasSheet, Cond.initialized RX0, Cond.code yX0_hasSheet cX0_hasSheet 2 (some .boolean), Cond.methodLink RX0 57 yX0_sheetCount, Cond.instanceMethod yX0_sheetCount, Cond.selects RX0 yX0_sheetCount yX0_sheetCount, Cond.code yX0_sheetCount cX0_sheetCount 1 (some .int), Cond.fieldLink RX0 41 "MapSheets$Atlas" "columns" "I", Cond.fieldLink RX0 44 "MapSheets$Atlas" "rows" "I", Cond.methodLink RX4 37 yX4_isWithin, Cond.static yX4_isWithin, Cond.initialized RX4, Cond.code yX4_isWithin cX4_isWithin 3 (some .boolean), Cond.methodLink RX4 194 yX0_edgeOf, Cond.instanceMethod yX0_edgeOf, Cond.selects RX0 yX0_edgeOf yX0_edgeOf, Cond.code yX0_edgeOf cX0_edgeOf 7 (some .int), Cond.methodLink RX0 79 yX0_columnOf, Cond.instanceMethod yX0_columnOf, Cond.selects RX0 yX0_columnOf yX0_columnOf, Cond.code yX0_columnOf cX0_columnOf 2 (some .int)]
def wsX4_edgeAt_r2 : List Cond := [Cond.methodLink RX0 82 yX0_rowOf, Cond.instanceMethod yX0_rowOf, Cond.selects RX0 yX0_rowOf yX0_rowOf, Cond.code yX0_rowOf cX0_rowOf 2 (some .int), Cond.methodLink RX0 69 yX0_rowEdgeCount, Cond.instanceMethod yX0_rowEdgeCount, Cond.selects RX0 yX0_rowEdgeCount yX0_rowEdgeCount, Cond.code yX0_rowEdgeCount cX0_rowEdgeCount 1 (some .int)]
def wsX4_edgeAt : List Cond := .code yX4_edgeAt cX4_edgeAt 3 (some .int) :: ((wsX4_edgeAt_r1 ++ wsX4_edgeAt_r2) ++ wsX40 ++ wsX00)
def wsX4_quarrel_r1 : List Cond := [Cond.fieldLink RX4 10 "MapSheets" "now" "LMapSheets$Atlas;", Cond.methodLink RX4 170 yX0_hasEdge, Cond.instanceMethod yX0_hasEdge, Cond.selects RX0 yX0_hasEdge yX0_hasEdge, Cond.initialized RX0, Cond.code yX0_hasEdge cX0_hasEdge 2 (some .boolean), Cond.methodLink RX0 72 yX0_edgeCount, Cond.instanceMethod yX0_edgeCount, Cond.selects RX0 yX0_edgeCount yX0_edgeCount, Cond.code yX0_edgeCount cX0_edgeCount 1 (some .int), Cond.fieldLink RX0 41 "MapSheets$Atlas" "columns" "I", Cond.fieldLink RX0 44 "MapSheets$Atlas" "rows" "I", Cond.methodLink RX0 69 yX0_rowEdgeCount, Cond.instanceMethod yX0_rowEdgeCount, Cond.selects RX0 yX0_rowEdgeCount yX0_rowEdgeCount, Cond.code yX0_rowEdgeCount cX0_rowEdgeCount 1 (some .int), Cond.methodLink RX4 37 yX4_isWithin, Cond.static yX4_isWithin, Cond.initialized RX4, Cond.code yX4_isWithin cX4_isWithin 3 (some .boolean), Cond.methodLink RX4 197 yX0_positionOfQuarrel, Cond.instanceMethod yX0_positionOfQuarrel, Cond.selects RX0 yX0_positionOfQuarrel yX0_positionOfQuarrel, Cond.code yX0_positionOfQuarrel cX0_positionOfQuarrel 5 (some .int)]
def wsX4_quarrel_r2 : List Cond := [Cond.methodLink RX0 118 yX0_reasonAt, Cond.instanceMethod yX0_reasonAt, Cond.selects RX0 yX0_reasonAt yX0_reasonAt, Cond.code yX0_reasonAt cX0_reasonAt 5 (some .int), Cond.methodLink RX0 75 yX0_firstSheet, Cond.instanceMethod yX0_firstSheet, Cond.selects RX0 yX0_firstSheet yX0_firstSheet, Cond.code yX0_firstSheet cX0_firstSheet 4 (some .int), Cond.methodLink RX0 106 yX0_firstSide, Cond.instanceMethod yX0_firstSide, Cond.selects RX0 yX0_firstSide yX0_firstSide, Cond.code yX0_firstSide cX0_firstSide 2 (some .int), Cond.methodLink RX0 109 yX0_meaningAt, Cond.instanceMethod yX0_meaningAt, Cond.selects RX0 yX0_meaningAt yX0_meaningAt, Cond.code yX0_meaningAt cX0_meaningAt 5 (some .int), Cond.fieldLink RX0 9 "MapSheets$Atlas" "signs" "[I", Cond.fieldLink RX0 15 "MapSheets$Atlas" "meanings" "[I", Cond.methodLink RX0 89 yX0_placeOf, Cond.static yX0_placeOf, Cond.code yX0_placeOf cX0_placeOf 3 (some .int), Cond.static yX4_valueAt, Cond.code yX4_valueAt cX4_valueAt 3 (some .int), Cond.methodLink RX0 112 yX0_secondSheet]
def wsX4_quarrel_r3 : List Cond := [Cond.instanceMethod yX0_secondSheet, Cond.selects RX0 yX0_secondSheet yX0_secondSheet, Cond.code yX0_secondSheet cX0_secondSheet 2 (some .int), Cond.methodLink RX0 115 yX0_secondSide, Cond.instanceMethod yX0_secondSide, Cond.selects RX0 yX0_secondSide yX0_secondSide, Cond.code yX0_secondSide cX0_secondSide 2 (some .int), Cond.methodLink RX4 200 yX0_reasonAt, Cond.methodLink RX4 173 yX0_firstSheet, Cond.methodLink RX4 179 yX0_firstSide, Cond.methodLink RX4 203 yX0_meaningAt, Cond.methodLink RX4 176 yX0_secondSheet, Cond.methodLink RX4 206 yX0_secondSide]
def wsX4_quarrel : List Cond := .code yX4_quarrel cX4_quarrel 5 (some .int) :: ((wsX4_quarrel_r1 ++ (wsX4_quarrel_r2 ++ wsX4_quarrel_r3)) ++ wsX40 ++ wsX00)
def wsX4_agree_r1 : List Cond := [Cond.fieldLink RX4 10 "MapSheets" "now" "LMapSheets$Atlas;", Cond.fieldLink RX4 19 "MapSheets" "history" "LMapSheets$History;", Cond.methodLink RX4 170 yX0_hasEdge, Cond.instanceMethod yX0_hasEdge, Cond.selects RX0 yX0_hasEdge yX0_hasEdge, Cond.initialized RX0, Cond.code yX0_hasEdge cX0_hasEdge 2 (some .boolean), Cond.methodLink RX0 72 yX0_edgeCount, Cond.instanceMethod yX0_edgeCount, Cond.selects RX0 yX0_edgeCount yX0_edgeCount, Cond.code yX0_edgeCount cX0_edgeCount 1 (some .int), Cond.fieldLink RX0 41 "MapSheets$Atlas" "columns" "I", Cond.fieldLink RX0 44 "MapSheets$Atlas" "rows" "I", Cond.methodLink RX0 69 yX0_rowEdgeCount, Cond.instanceMethod yX0_rowEdgeCount, Cond.selects RX0 yX0_rowEdgeCount yX0_rowEdgeCount, Cond.code yX0_rowEdgeCount cX0_rowEdgeCount 1 (some .int), Cond.methodLink RX4 185 yX0_quarrelsOf, Cond.instanceMethod yX0_quarrelsOf, Cond.selects RX0 yX0_quarrelsOf yX0_quarrelsOf, Cond.code yX0_quarrelsOf cX0_quarrelsOf 4 (some .int), Cond.methodLink RX0 118 yX0_reasonAt, Cond.instanceMethod yX0_reasonAt, Cond.selects RX0 yX0_reasonAt yX0_reasonAt]
def wsX4_agree_r2 : List Cond := [Cond.code yX0_reasonAt cX0_reasonAt 5 (some .int), Cond.methodLink RX0 75 yX0_firstSheet, Cond.instanceMethod yX0_firstSheet, Cond.selects RX0 yX0_firstSheet yX0_firstSheet, Cond.code yX0_firstSheet cX0_firstSheet 4 (some .int), Cond.methodLink RX0 106 yX0_firstSide, Cond.instanceMethod yX0_firstSide, Cond.selects RX0 yX0_firstSide yX0_firstSide, Cond.code yX0_firstSide cX0_firstSide 2 (some .int), Cond.methodLink RX0 109 yX0_meaningAt, Cond.instanceMethod yX0_meaningAt, Cond.selects RX0 yX0_meaningAt yX0_meaningAt, Cond.code yX0_meaningAt cX0_meaningAt 5 (some .int), Cond.fieldLink RX0 9 "MapSheets$Atlas" "signs" "[I", Cond.fieldLink RX0 15 "MapSheets$Atlas" "meanings" "[I", Cond.methodLink RX0 89 yX0_placeOf, Cond.static yX0_placeOf, Cond.code yX0_placeOf cX0_placeOf 3 (some .int), Cond.static yX4_valueAt, Cond.initialized RX4, Cond.code yX4_valueAt cX4_valueAt 3 (some .int), Cond.methodLink RX0 112 yX0_secondSheet, Cond.instanceMethod yX0_secondSheet, Cond.selects RX0 yX0_secondSheet yX0_secondSheet]
def wsX4_agree_r3 : List Cond := [Cond.code yX0_secondSheet cX0_secondSheet 2 (some .int), Cond.methodLink RX0 115 yX0_secondSide, Cond.instanceMethod yX0_secondSide, Cond.selects RX0 yX0_secondSide yX0_secondSide, Cond.code yX0_secondSide cX0_secondSide 2 (some .int), Cond.methodLink RX4 41 yX2_recordState, Cond.instanceMethod yX2_recordState, Cond.selects RX2 yX2_recordState yX2_recordState, Cond.initialized RX2, Cond.code yX2_recordState cX2_recordState 3 none, Cond.fieldLink RX2 21 "MapSheets$History" "size" "I", Cond.methodLink RX2 25 yX2_stateAt, Cond.instanceMethod yX2_stateAt, Cond.selects RX2 yX2_stateAt yX2_stateAt, Cond.code yX2_stateAt cX2_stateAt 3 (some (.object "MapSheets$Atlas")), Cond.fieldLink RX2 17 "MapSheets$History" "oldest" "I", Cond.fieldLink RX2 13 "MapSheets$History" "states" "[LMapSheets$Atlas;", Cond.methodLink RX2 29 yX0_copyFrom, Cond.instanceMethod yX0_copyFrom, Cond.selects RX0 yX0_copyFrom yX0_copyFrom, Cond.code yX0_copyFrom cX0_copyFrom 2 none, Cond.fieldLink RX0 18 "MapSheets$Atlas" "revisions" "[I", Cond.fieldLink RX0 21 "MapSheets$Atlas" "published" "[I", Cond.fieldLink RX0 24 "MapSheets$Atlas" "scales" "[I"]
def wsX4_agree_r4 : List Cond := [Cond.fieldLink RX0 27 "MapSheets$Atlas" "agreed" "[I", Cond.fieldLink RX0 30 "MapSheets$Atlas" "guard" "I", Cond.fieldLink RX0 34 "MapSheets$Atlas" "tolerance" "I", Cond.static yX4_copyRow, Cond.code yX4_copyRow cX4_copyRow 2 none, Cond.methodLink RX4 261 arraycopyName, Cond.native arraycopyName, Cond.static arraycopyName, Cond.initialized "java/lang/System", Cond.methodLink RX4 209 yX0_putAgreed, Cond.instanceMethod yX0_putAgreed, Cond.selects RX0 yX0_putAgreed yX0_putAgreed, Cond.code yX0_putAgreed cX0_putAgreed 3 (some .int), Cond.static yX4_exchange, Cond.code yX4_exchange cX4_exchange 4 (some .int), Cond.methodLink RX4 49 yX2_keepRecord, Cond.instanceMethod yX2_keepRecord, Cond.selects RX2 yX2_keepRecord yX2_keepRecord, Cond.code yX2_keepRecord cX2_keepRecord 1 none]
def wsX4_agree : List Cond := .code yX4_agree cX4_agree 3 (some .int) :: ((wsX4_agree_r1 ++ (wsX4_agree_r2 ++ (wsX4_agree_r3 ++ wsX4_agree_r4))) ++ wsX40 ++ wsX00 ++ wsX20)
def wsX4_release_r1 : List Cond := [Cond.fieldLink RX4 10 "MapSheets" "now" "LMapSheets$Atlas;", Cond.fieldLink RX4 19 "MapSheets" "history" "LMapSheets$History;", Cond.fieldLink RX4 26 "MapSheets" "blocks" "LMapSheets$Blocks;", Cond.methodLink RX4 170 yX0_hasEdge, Cond.instanceMethod yX0_hasEdge, Cond.selects RX0 yX0_hasEdge yX0_hasEdge, Cond.initialized RX0, Cond.code yX0_hasEdge cX0_hasEdge 2 (some .boolean), Cond.methodLink RX0 72 yX0_edgeCount, Cond.instanceMethod yX0_edgeCount, Cond.selects RX0 yX0_edgeCount yX0_edgeCount, Cond.code yX0_edgeCount cX0_edgeCount 1 (some .int), Cond.fieldLink RX0 41 "MapSheets$Atlas" "columns" "I", Cond.fieldLink RX0 44 "MapSheets$Atlas" "rows" "I", Cond.methodLink RX0 69 yX0_rowEdgeCount, Cond.instanceMethod yX0_rowEdgeCount, Cond.selects RX0 yX0_rowEdgeCount yX0_rowEdgeCount, Cond.code yX0_rowEdgeCount cX0_rowEdgeCount 1 (some .int), Cond.methodLink RX4 182 yX0_isAgreed, Cond.instanceMethod yX0_isAgreed, Cond.selects RX0 yX0_isAgreed yX0_isAgreed, Cond.code yX0_isAgreed cX0_isAgreed 2 (some .boolean), Cond.fieldLink RX0 27 "MapSheets$Atlas" "agreed" "[I", Cond.static yX4_valueAt]
def wsX4_release_r2 : List Cond := [Cond.initialized RX4, Cond.code yX4_valueAt cX4_valueAt 3 (some .int), Cond.methodLink RX4 41 yX2_recordState, Cond.instanceMethod yX2_recordState, Cond.selects RX2 yX2_recordState yX2_recordState, Cond.initialized RX2, Cond.code yX2_recordState cX2_recordState 3 none, Cond.fieldLink RX2 21 "MapSheets$History" "size" "I", Cond.methodLink RX2 25 yX2_stateAt, Cond.instanceMethod yX2_stateAt, Cond.selects RX2 yX2_stateAt yX2_stateAt, Cond.code yX2_stateAt cX2_stateAt 3 (some (.object "MapSheets$Atlas")), Cond.fieldLink RX2 17 "MapSheets$History" "oldest" "I", Cond.fieldLink RX2 13 "MapSheets$History" "states" "[LMapSheets$Atlas;", Cond.methodLink RX2 29 yX0_copyFrom, Cond.instanceMethod yX0_copyFrom, Cond.selects RX0 yX0_copyFrom yX0_copyFrom, Cond.code yX0_copyFrom cX0_copyFrom 2 none, Cond.fieldLink RX0 9 "MapSheets$Atlas" "signs" "[I", Cond.fieldLink RX0 15 "MapSheets$Atlas" "meanings" "[I", Cond.fieldLink RX0 18 "MapSheets$Atlas" "revisions" "[I", Cond.fieldLink RX0 21 "MapSheets$Atlas" "published" "[I", Cond.fieldLink RX0 24 "MapSheets$Atlas" "scales" "[I", Cond.fieldLink RX0 30 "MapSheets$Atlas" "guard" "I"]
def wsX4_release_r3 : List Cond := [Cond.fieldLink RX0 34 "MapSheets$Atlas" "tolerance" "I", Cond.static yX4_copyRow, Cond.code yX4_copyRow cX4_copyRow 2 none, Cond.methodLink RX4 261 arraycopyName, Cond.native arraycopyName, Cond.static arraycopyName, Cond.initialized "java/lang/System", Cond.methodLink RX4 209 yX0_putAgreed, Cond.instanceMethod yX0_putAgreed, Cond.selects RX0 yX0_putAgreed yX0_putAgreed, Cond.code yX0_putAgreed cX0_putAgreed 3 (some .int), Cond.static yX4_exchange, Cond.code yX4_exchange cX4_exchange 4 (some .int), Cond.methodLink RX4 49 yX2_keepRecord, Cond.instanceMethod yX2_keepRecord, Cond.selects RX2 yX2_keepRecord yX2_keepRecord, Cond.code yX2_keepRecord cX2_keepRecord 1 none, Cond.methodLink RX4 121 yX1_find, Cond.instanceMethod yX1_find, Cond.selects RX1 yX1_find yX1_find, Cond.initialized RX1, Cond.code yX1_find cX1_find 7 (some .int), Cond.fieldLink RX1 9 "MapSheets$Blocks" "lowest" "[I", Cond.methodLink RX1 38 Lib.Math.min.name]
def wsX4_release_r4 : List Cond := [Cond.static Lib.Math.min.name, Cond.initialized "java/lang/Math", Cond.code Lib.Math.min.name Lib.Math.min.code 2 (some .int), Cond.methodLink RX1 44 Lib.Math.max.name, Cond.static Lib.Math.max.name, Cond.code Lib.Math.max.name Lib.Math.max.code 2 (some .int), Cond.methodLink RX1 15 yX0_edgeCount, Cond.methodLink RX1 21 yX0_sheetCount, Cond.instanceMethod yX0_sheetCount, Cond.selects RX0 yX0_sheetCount yX0_sheetCount, Cond.code yX0_sheetCount cX0_sheetCount 1 (some .int), Cond.methodLink RX1 24 yX0_isAgreed, Cond.methodLink RX1 28 yX0_firstSheet, Cond.instanceMethod yX0_firstSheet, Cond.selects RX0 yX0_firstSheet yX0_firstSheet, Cond.code yX0_firstSheet cX0_firstSheet 4 (some .int), Cond.methodLink RX1 32 yX1_lowestOf, Cond.instanceMethod yX1_lowestOf, Cond.selects RX1 yX1_lowestOf yX1_lowestOf, Cond.code yX1_lowestOf cX1_lowestOf 2 (some .int), Cond.methodLink RX1 35 yX0_secondSheet, Cond.instanceMethod yX0_secondSheet, Cond.selects RX0 yX0_secondSheet yX0_secondSheet, Cond.code yX0_secondSheet cX0_secondSheet 2 (some .int)]
def wsX4_release_r5 : List Cond := [Cond.methodLink RX0 75 yX0_firstSheet, Cond.methodLink RX1 47 yX1_join, Cond.instanceMethod yX1_join, Cond.selects RX1 yX1_join yX1_join, Cond.code yX1_join cX1_join 4 none]
def wsX4_release : List Cond := .code yX4_release cX4_release 2 (some .int) :: ((wsX4_release_r1 ++ (wsX4_release_r2 ++ (wsX4_release_r3 ++ (wsX4_release_r4 ++ wsX4_release_r5)))) ++ wsX40 ++ wsX00 ++ wsX20 ++ wsX10)
def wsX4_settle_r1 : List Cond := [Cond.fieldLink RX4 10 "MapSheets" "now" "LMapSheets$Atlas;", Cond.fieldLink RX4 19 "MapSheets" "history" "LMapSheets$History;", Cond.methodLink RX4 170 yX0_hasEdge, Cond.instanceMethod yX0_hasEdge, Cond.selects RX0 yX0_hasEdge yX0_hasEdge, Cond.initialized RX0, Cond.code yX0_hasEdge cX0_hasEdge 2 (some .boolean), Cond.methodLink RX0 72 yX0_edgeCount, Cond.instanceMethod yX0_edgeCount, Cond.selects RX0 yX0_edgeCount yX0_edgeCount, Cond.code yX0_edgeCount cX0_edgeCount 1 (some .int), Cond.fieldLink RX0 41 "MapSheets$Atlas" "columns" "I", Cond.fieldLink RX0 44 "MapSheets$Atlas" "rows" "I", Cond.methodLink RX0 69 yX0_rowEdgeCount, Cond.instanceMethod yX0_rowEdgeCount, Cond.selects RX0 yX0_rowEdgeCount yX0_rowEdgeCount, Cond.code yX0_rowEdgeCount cX0_rowEdgeCount 1 (some .int), Cond.methodLink RX4 173 yX0_firstSheet, Cond.instanceMethod yX0_firstSheet, Cond.selects RX0 yX0_firstSheet yX0_firstSheet, Cond.code yX0_firstSheet cX0_firstSheet 4 (some .int), Cond.methodLink RX4 176 yX0_secondSheet, Cond.instanceMethod yX0_secondSheet, Cond.selects RX0 yX0_secondSheet yX0_secondSheet]
def wsX4_settle_r2 : List Cond := [Cond.code yX0_secondSheet cX0_secondSheet 2 (some .int), Cond.methodLink RX0 75 yX0_firstSheet, Cond.methodLink RX4 41 yX2_recordState, Cond.instanceMethod yX2_recordState, Cond.selects RX2 yX2_recordState yX2_recordState, Cond.initialized RX2, Cond.code yX2_recordState cX2_recordState 3 none, Cond.fieldLink RX2 21 "MapSheets$History" "size" "I", Cond.methodLink RX2 25 yX2_stateAt, Cond.instanceMethod yX2_stateAt, Cond.selects RX2 yX2_stateAt yX2_stateAt, Cond.code yX2_stateAt cX2_stateAt 3 (some (.object "MapSheets$Atlas")), Cond.fieldLink RX2 17 "MapSheets$History" "oldest" "I", Cond.fieldLink RX2 13 "MapSheets$History" "states" "[LMapSheets$Atlas;", Cond.methodLink RX2 29 yX0_copyFrom, Cond.instanceMethod yX0_copyFrom, Cond.selects RX0 yX0_copyFrom yX0_copyFrom, Cond.code yX0_copyFrom cX0_copyFrom 2 none, Cond.fieldLink RX0 9 "MapSheets$Atlas" "signs" "[I", Cond.fieldLink RX0 15 "MapSheets$Atlas" "meanings" "[I", Cond.fieldLink RX0 18 "MapSheets$Atlas" "revisions" "[I", Cond.fieldLink RX0 21 "MapSheets$Atlas" "published" "[I", Cond.fieldLink RX0 24 "MapSheets$Atlas" "scales" "[I", Cond.fieldLink RX0 27 "MapSheets$Atlas" "agreed" "[I"]
def wsX4_settle_r3 : List Cond := [Cond.fieldLink RX0 30 "MapSheets$Atlas" "guard" "I", Cond.fieldLink RX0 34 "MapSheets$Atlas" "tolerance" "I", Cond.static yX4_copyRow, Cond.initialized RX4, Cond.code yX4_copyRow cX4_copyRow 2 none, Cond.methodLink RX4 261 arraycopyName, Cond.native arraycopyName, Cond.static arraycopyName, Cond.initialized "java/lang/System", Cond.methodLink RX4 212 yX0_settleFrom, Cond.instanceMethod yX0_settleFrom, Cond.selects RX0 yX0_settleFrom yX0_settleFrom, Cond.code yX0_settleFrom cX0_settleFrom 11 (some .int), Cond.methodLink RX0 106 yX0_firstSide, Cond.instanceMethod yX0_firstSide, Cond.selects RX0 yX0_firstSide yX0_firstSide, Cond.code yX0_firstSide cX0_firstSide 2 (some .int), Cond.methodLink RX0 115 yX0_secondSide, Cond.instanceMethod yX0_secondSide, Cond.selects RX0 yX0_secondSide yX0_secondSide, Cond.code yX0_secondSide cX0_secondSide 2 (some .int), Cond.methodLink RX0 112 yX0_secondSheet, Cond.methodLink RX0 109 yX0_meaningAt, Cond.instanceMethod yX0_meaningAt]
def wsX4_settle_r4 : List Cond := [Cond.selects RX0 yX0_meaningAt yX0_meaningAt, Cond.code yX0_meaningAt cX0_meaningAt 5 (some .int), Cond.methodLink RX0 89 yX0_placeOf, Cond.static yX0_placeOf, Cond.code yX0_placeOf cX0_placeOf 3 (some .int), Cond.static yX4_valueAt, Cond.code yX4_valueAt cX4_valueAt 3 (some .int), Cond.methodLink RX0 130 yX0_lowestSign, Cond.instanceMethod yX0_lowestSign, Cond.selects RX0 yX0_lowestSign yX0_lowestSign, Cond.code yX0_lowestSign cX0_lowestSign 4 (some .int), Cond.methodLink RX0 103 yX0_meaningOf, Cond.instanceMethod yX0_meaningOf, Cond.selects RX0 yX0_meaningOf yX0_meaningOf, Cond.code yX0_meaningOf cX0_meaningOf 3 (some .int), Cond.methodLink RX0 133 yX0_putSign, Cond.instanceMethod yX0_putSign, Cond.selects RX0 yX0_putSign yX0_putSign, Cond.code yX0_putSign cX0_putSign 5 (some .int), Cond.static yX4_exchange, Cond.code yX4_exchange cX4_exchange 4 (some .int), Cond.methodLink RX0 137 yX0_addRevision, Cond.instanceMethod yX0_addRevision, Cond.selects RX0 yX0_addRevision yX0_addRevision]
def wsX4_settle_r5 : List Cond := [Cond.code yX0_addRevision cX0_addRevision 2 none, Cond.methodLink RX0 141 yX0_revisionOf, Cond.instanceMethod yX0_revisionOf, Cond.selects RX0 yX0_revisionOf yX0_revisionOf, Cond.code yX0_revisionOf cX0_revisionOf 2 (some .int), Cond.methodLink RX4 215 yX2_returnToRecord, Cond.instanceMethod yX2_returnToRecord, Cond.selects RX2 yX2_returnToRecord yX2_returnToRecord, Cond.code yX2_returnToRecord cX2_returnToRecord 3 none, Cond.methodLink RX4 49 yX2_keepRecord, Cond.instanceMethod yX2_keepRecord, Cond.selects RX2 yX2_keepRecord yX2_keepRecord, Cond.code yX2_keepRecord cX2_keepRecord 1 none]
def wsX4_settle : List Cond := .code yX4_settle cX4_settle 4 (some .int) :: ((wsX4_settle_r1 ++ (wsX4_settle_r2 ++ (wsX4_settle_r3 ++ (wsX4_settle_r4 ++ wsX4_settle_r5)))) ++ wsX40 ++ wsX00 ++ wsX20)
def wsX4_publish_r1 : List Cond := [Cond.fieldLink RX4 10 "MapSheets" "now" "LMapSheets$Atlas;", Cond.fieldLink RX4 19 "MapSheets" "history" "LMapSheets$History;", Cond.methodLink RX4 82 yX0_hasSheet, Cond.instanceMethod yX0_hasSheet, Cond.selects RX0 yX0_hasSheet yX0_hasSheet, Cond.initialized RX0, Cond.code yX0_hasSheet cX0_hasSheet 2 (some .boolean), Cond.methodLink RX0 57 yX0_sheetCount, Cond.instanceMethod yX0_sheetCount, Cond.selects RX0 yX0_sheetCount yX0_sheetCount, Cond.code yX0_sheetCount cX0_sheetCount 1 (some .int), Cond.fieldLink RX0 41 "MapSheets$Atlas" "columns" "I", Cond.fieldLink RX0 44 "MapSheets$Atlas" "rows" "I", Cond.methodLink RX4 100 yX0_agreedEdgesOf, Cond.instanceMethod yX0_agreedEdgesOf, Cond.selects RX0 yX0_agreedEdgesOf yX0_agreedEdgesOf, Cond.code yX0_agreedEdgesOf cX0_agreedEdgesOf 4 (some .int), Cond.methodLink RX0 85 yX0_edgeOf, Cond.instanceMethod yX0_edgeOf, Cond.selects RX0 yX0_edgeOf yX0_edgeOf, Cond.code yX0_edgeOf cX0_edgeOf 7 (some .int), Cond.methodLink RX0 79 yX0_columnOf, Cond.instanceMethod yX0_columnOf, Cond.selects RX0 yX0_columnOf yX0_columnOf]
def wsX4_publish_r2 : List Cond := [Cond.code yX0_columnOf cX0_columnOf 2 (some .int), Cond.methodLink RX0 82 yX0_rowOf, Cond.instanceMethod yX0_rowOf, Cond.selects RX0 yX0_rowOf yX0_rowOf, Cond.code yX0_rowOf cX0_rowOf 2 (some .int), Cond.methodLink RX0 69 yX0_rowEdgeCount, Cond.instanceMethod yX0_rowEdgeCount, Cond.selects RX0 yX0_rowEdgeCount yX0_rowEdgeCount, Cond.code yX0_rowEdgeCount cX0_rowEdgeCount 1 (some .int), Cond.methodLink RX0 124 yX0_isAgreed, Cond.instanceMethod yX0_isAgreed, Cond.selects RX0 yX0_isAgreed yX0_isAgreed, Cond.code yX0_isAgreed cX0_isAgreed 2 (some .boolean), Cond.fieldLink RX0 27 "MapSheets$Atlas" "agreed" "[I", Cond.static yX4_valueAt, Cond.initialized RX4, Cond.code yX4_valueAt cX4_valueAt 3 (some .int), Cond.methodLink RX4 97 yX0_edgesOf, Cond.instanceMethod yX0_edgesOf, Cond.selects RX0 yX0_edgesOf yX0_edgesOf, Cond.code yX0_edgesOf cX0_edgesOf 4 (some .int), Cond.methodLink RX4 41 yX2_recordState, Cond.instanceMethod yX2_recordState, Cond.selects RX2 yX2_recordState yX2_recordState]
def wsX4_publish_r3 : List Cond := [Cond.initialized RX2, Cond.code yX2_recordState cX2_recordState 3 none, Cond.fieldLink RX2 21 "MapSheets$History" "size" "I", Cond.methodLink RX2 25 yX2_stateAt, Cond.instanceMethod yX2_stateAt, Cond.selects RX2 yX2_stateAt yX2_stateAt, Cond.code yX2_stateAt cX2_stateAt 3 (some (.object "MapSheets$Atlas")), Cond.fieldLink RX2 17 "MapSheets$History" "oldest" "I", Cond.fieldLink RX2 13 "MapSheets$History" "states" "[LMapSheets$Atlas;", Cond.methodLink RX2 29 yX0_copyFrom, Cond.instanceMethod yX0_copyFrom, Cond.selects RX0 yX0_copyFrom yX0_copyFrom, Cond.code yX0_copyFrom cX0_copyFrom 2 none, Cond.fieldLink RX0 9 "MapSheets$Atlas" "signs" "[I", Cond.fieldLink RX0 15 "MapSheets$Atlas" "meanings" "[I", Cond.fieldLink RX0 18 "MapSheets$Atlas" "revisions" "[I", Cond.fieldLink RX0 21 "MapSheets$Atlas" "published" "[I", Cond.fieldLink RX0 24 "MapSheets$Atlas" "scales" "[I", Cond.fieldLink RX0 30 "MapSheets$Atlas" "guard" "I", Cond.fieldLink RX0 34 "MapSheets$Atlas" "tolerance" "I", Cond.static yX4_copyRow, Cond.code yX4_copyRow cX4_copyRow 2 none, Cond.methodLink RX4 261 arraycopyName, Cond.native arraycopyName]
def wsX4_publish_r4 : List Cond := [Cond.static arraycopyName, Cond.initialized "java/lang/System", Cond.methodLink RX4 226 yX0_publishRevision, Cond.instanceMethod yX0_publishRevision, Cond.selects RX0 yX0_publishRevision yX0_publishRevision, Cond.code yX0_publishRevision cX0_publishRevision 2 none, Cond.methodLink RX0 141 yX0_revisionOf, Cond.instanceMethod yX0_revisionOf, Cond.selects RX0 yX0_revisionOf yX0_revisionOf, Cond.code yX0_revisionOf cX0_revisionOf 2 (some .int), Cond.static yX4_exchange, Cond.code yX4_exchange cX4_exchange 4 (some .int), Cond.methodLink RX4 49 yX2_keepRecord, Cond.instanceMethod yX2_keepRecord, Cond.selects RX2 yX2_keepRecord yX2_keepRecord, Cond.code yX2_keepRecord cX2_keepRecord 1 none, Cond.methodLink RX4 103 yX0_revisionOf]
def wsX4_publish : List Cond := .code yX4_publish cX4_publish 2 (some .int) :: ((wsX4_publish_r1 ++ (wsX4_publish_r2 ++ (wsX4_publish_r3 ++ wsX4_publish_r4))) ++ wsX40 ++ wsX00 ++ wsX20)
def wsX4_scale_r1 : List Cond := [Cond.fieldLink RX4 10 "MapSheets" "now" "LMapSheets$Atlas;", Cond.constant RX4 230 (1000000), Cond.fieldLink RX4 19 "MapSheets" "history" "LMapSheets$History;", Cond.methodLink RX4 82 yX0_hasSheet, Cond.instanceMethod yX0_hasSheet, Cond.selects RX0 yX0_hasSheet yX0_hasSheet, Cond.initialized RX0, Cond.code yX0_hasSheet cX0_hasSheet 2 (some .boolean), Cond.methodLink RX0 57 yX0_sheetCount, Cond.instanceMethod yX0_sheetCount, Cond.selects RX0 yX0_sheetCount yX0_sheetCount, Cond.code yX0_sheetCount cX0_sheetCount 1 (some .int), Cond.fieldLink RX0 41 "MapSheets$Atlas" "columns" "I", Cond.fieldLink RX0 44 "MapSheets$Atlas" "rows" "I", Cond.methodLink RX4 37 yX4_isWithin, Cond.static yX4_isWithin, Cond.initialized RX4, Cond.code yX4_isWithin cX4_isWithin 3 (some .boolean), Cond.methodLink RX4 41 yX2_recordState, Cond.instanceMethod yX2_recordState, Cond.selects RX2 yX2_recordState yX2_recordState, Cond.initialized RX2, Cond.code yX2_recordState cX2_recordState 3 none, Cond.fieldLink RX2 21 "MapSheets$History" "size" "I"]
def wsX4_scale_r2 : List Cond := [Cond.methodLink RX2 25 yX2_stateAt, Cond.instanceMethod yX2_stateAt, Cond.selects RX2 yX2_stateAt yX2_stateAt, Cond.code yX2_stateAt cX2_stateAt 3 (some (.object "MapSheets$Atlas")), Cond.fieldLink RX2 17 "MapSheets$History" "oldest" "I", Cond.fieldLink RX2 13 "MapSheets$History" "states" "[LMapSheets$Atlas;", Cond.methodLink RX2 29 yX0_copyFrom, Cond.instanceMethod yX0_copyFrom, Cond.selects RX0 yX0_copyFrom yX0_copyFrom, Cond.code yX0_copyFrom cX0_copyFrom 2 none, Cond.fieldLink RX0 9 "MapSheets$Atlas" "signs" "[I", Cond.fieldLink RX0 15 "MapSheets$Atlas" "meanings" "[I", Cond.fieldLink RX0 18 "MapSheets$Atlas" "revisions" "[I", Cond.fieldLink RX0 21 "MapSheets$Atlas" "published" "[I", Cond.fieldLink RX0 24 "MapSheets$Atlas" "scales" "[I", Cond.fieldLink RX0 27 "MapSheets$Atlas" "agreed" "[I", Cond.fieldLink RX0 30 "MapSheets$Atlas" "guard" "I", Cond.fieldLink RX0 34 "MapSheets$Atlas" "tolerance" "I", Cond.static yX4_copyRow, Cond.code yX4_copyRow cX4_copyRow 2 none, Cond.methodLink RX4 261 arraycopyName, Cond.native arraycopyName, Cond.static arraycopyName, Cond.initialized "java/lang/System"]
def wsX4_scale_r3 : List Cond := [Cond.methodLink RX4 231 yX0_putScale, Cond.instanceMethod yX0_putScale, Cond.selects RX0 yX0_putScale yX0_putScale, Cond.code yX0_putScale cX0_putScale 3 (some .int), Cond.static yX4_exchange, Cond.code yX4_exchange cX4_exchange 4 (some .int), Cond.methodLink RX4 49 yX2_keepRecord, Cond.instanceMethod yX2_keepRecord, Cond.selects RX2 yX2_keepRecord yX2_keepRecord, Cond.code yX2_keepRecord cX2_keepRecord 1 none]
def wsX4_scale : List Cond := .code yX4_scale cX4_scale 4 (some .int) :: ((wsX4_scale_r1 ++ (wsX4_scale_r2 ++ wsX4_scale_r3)) ++ wsX40 ++ wsX00 ++ wsX20)
def wsJ9_max_7cf53 : List Cond := .code yJ9_max_7cf53 cJ9_max_7cf53 2 (some .int) :: ([])
def wsJ9_min_7cf53 : List Cond := .code yJ9_min_7cf53 cJ9_min_7cf53 2 (some .int) :: ([])
def wsL_cell : List Cond := .code yL_cell cL_cell 2 (some .int) :: ([.constant RL 7 (40503)])
def wsL_low : List Cond := .code yL_low cL_low 2 (some .int) :: ([.constant RL 8 (2147483647)])
def wsL_power : List Cond := .code yL_power cL_power 5 (some .long) :: ([])
def wsL_digit : List Cond := .code yL_digit cL_digit 4 (some .int) :: ([.methodLink RL 9 yL_power, .static yL_power, .initialized RL, .code yL_power cL_power 5 (some .long)])
def wsL_means : List Cond := .code yL_means cL_means 6 (some .int) :: ([.methodLink RL 15 yL_digit, .static yL_digit, .initialized RL, .code yL_digit cL_digit 4 (some .int), .methodLink RL 9 yL_power, .static yL_power, .code yL_power cL_power 5 (some .long)])
def wsL_edge : List Cond := .code yL_edge cL_edge 7 (some .int) :: ([])
def wsL_other : List Cond := .code yL_other cL_other 2 (some .int) :: ([])
def wsL_reason : List Cond := .code yL_reason cL_reason 7 (some .int) :: ([.methodLink RL 19 yL_means, .static yL_means, .initialized RL, .code yL_means cL_means 6 (some .int), .methodLink RL 15 yL_digit, .static yL_digit, .code yL_digit cL_digit 4 (some .int), .methodLink RL 9 yL_power, .static yL_power, .code yL_power cL_power 5 (some .long), .methodLink RL 23 yL_other, .static yL_other, .code yL_other cL_other 2 (some .int)])
def wsL_quarrels : List Cond := .code yL_quarrels cL_quarrels 6 (some .int) :: ([.methodLink RL 27 yL_reason, .static yL_reason, .initialized RL, .code yL_reason cL_reason 7 (some .int), .methodLink RL 19 yL_means, .static yL_means, .code yL_means cL_means 6 (some .int), .methodLink RL 15 yL_digit, .static yL_digit, .code yL_digit cL_digit 4 (some .int), .methodLink RL 9 yL_power, .static yL_power, .code yL_power cL_power 5 (some .long), .methodLink RL 23 yL_other, .static yL_other, .code yL_other cL_other 2 (some .int)])
def wsL_torn : List Cond := .code yL_torn cL_torn 5 (some .int) :: ([.methodLink RL 31 yL_edge, .static yL_edge, .initialized RL, .code yL_edge cL_edge 7 (some .int), .methodLink RL 34 yL_quarrels, .static yL_quarrels, .code yL_quarrels cL_quarrels 6 (some .int), .methodLink RL 27 yL_reason, .static yL_reason, .code yL_reason cL_reason 7 (some .int), .methodLink RL 19 yL_means, .static yL_means, .code yL_means cL_means 6 (some .int), .methodLink RL 15 yL_digit, .static yL_digit, .code yL_digit cL_digit 4 (some .int), .methodLink RL 9 yL_power, .static yL_power, .code yL_power cL_power 5 (some .long), .methodLink RL 23 yL_other, .static yL_other, .code yL_other cL_other 2 (some .int)])
def wsL_begins : List Cond := .code yL_begins cL_begins 7 none :: ([.constantLong RL 38 (9876543210), .methodLink RL 9 yL_power, .static yL_power, .initialized RL, .code yL_power cL_power 5 (some .long)])
def wsL_keeps_r1 : List Cond := [Cond.methodLink RL 40 yL_torn, Cond.static yL_torn, Cond.initialized RL, Cond.code yL_torn cL_torn 5 (some .int), Cond.methodLink RL 31 yL_edge, Cond.static yL_edge, Cond.code yL_edge cL_edge 7 (some .int), Cond.methodLink RL 34 yL_quarrels, Cond.static yL_quarrels, Cond.code yL_quarrels cL_quarrels 6 (some .int), Cond.methodLink RL 27 yL_reason, Cond.static yL_reason, Cond.code yL_reason cL_reason 7 (some .int), Cond.methodLink RL 19 yL_means, Cond.static yL_means, Cond.code yL_means cL_means 6 (some .int), Cond.methodLink RL 15 yL_digit, Cond.static yL_digit, Cond.code yL_digit cL_digit 4 (some .int), Cond.methodLink RL 9 yL_power, Cond.static yL_power, Cond.code yL_power cL_power 5 (some .long), Cond.methodLink RL 23 yL_other, Cond.static yL_other]
def wsL_keeps_r2 : List Cond := [Cond.code yL_other cL_other 2 (some .int)]
def wsL_keeps : List Cond := .code yL_keeps cL_keeps 10 (some .boolean) :: ((wsL_keeps_r1 ++ wsL_keeps_r2))
def wsL_edgeAt : List Cond := .code yL_edgeAt cL_edgeAt 7 (some .int) :: ([.methodLink RL 31 yL_edge, .static yL_edge, .initialized RL, .code yL_edge cL_edge 7 (some .int), .methodLink RL 23 yL_other, .static yL_other, .code yL_other cL_other 2 (some .int)])
def wsL_acts_r1 : List Cond := [Cond.constant RL 44 (10000000), Cond.constant RL 96 (1000000), Cond.methodLink RL 45 yL_low, Cond.static yL_low, Cond.initialized RL, Cond.code yL_low cL_low 2 (some .int), Cond.constant RL 8 (2147483647), Cond.methodLink RL 31 yL_edge, Cond.static yL_edge, Cond.code yL_edge cL_edge 7 (some .int), Cond.methodLink RL 49 yX4_grid, Cond.instanceMethod yX4_grid, Cond.selects RX4 yX4_grid yX4_grid, Cond.initialized RX4, Cond.code yX4_grid cX4_grid 3 (some .int), Cond.fieldLink RX4 19 "MapSheets" "history" "LMapSheets$History;", Cond.fieldLink RX4 10 "MapSheets" "now" "LMapSheets$Atlas;", Cond.methodLink RX4 37 yX4_isWithin, Cond.static yX4_isWithin, Cond.code yX4_isWithin cX4_isWithin 3 (some .boolean), Cond.methodLink RX4 41 yX2_recordState, Cond.instanceMethod yX2_recordState, Cond.selects RX2 yX2_recordState yX2_recordState, Cond.initialized RX2]
def wsL_acts_r2 : List Cond := [Cond.code yX2_recordState cX2_recordState 3 none, Cond.fieldLink RX2 21 "MapSheets$History" "size" "I", Cond.methodLink RX2 25 yX2_stateAt, Cond.instanceMethod yX2_stateAt, Cond.selects RX2 yX2_stateAt yX2_stateAt, Cond.code yX2_stateAt cX2_stateAt 3 (some (.object "MapSheets$Atlas")), Cond.fieldLink RX2 17 "MapSheets$History" "oldest" "I", Cond.fieldLink RX2 13 "MapSheets$History" "states" "[LMapSheets$Atlas;", Cond.methodLink RX2 29 yX0_copyFrom, Cond.instanceMethod yX0_copyFrom, Cond.selects RX0 yX0_copyFrom yX0_copyFrom, Cond.initialized RX0, Cond.code yX0_copyFrom cX0_copyFrom 2 none, Cond.fieldLink RX0 9 "MapSheets$Atlas" "signs" "[I", Cond.fieldLink RX0 15 "MapSheets$Atlas" "meanings" "[I", Cond.fieldLink RX0 18 "MapSheets$Atlas" "revisions" "[I", Cond.fieldLink RX0 21 "MapSheets$Atlas" "published" "[I", Cond.fieldLink RX0 24 "MapSheets$Atlas" "scales" "[I", Cond.fieldLink RX0 27 "MapSheets$Atlas" "agreed" "[I", Cond.fieldLink RX0 41 "MapSheets$Atlas" "columns" "I", Cond.fieldLink RX0 44 "MapSheets$Atlas" "rows" "I", Cond.fieldLink RX0 30 "MapSheets$Atlas" "guard" "I", Cond.fieldLink RX0 34 "MapSheets$Atlas" "tolerance" "I", Cond.static yX4_copyRow]
def wsL_acts_r3 : List Cond := [Cond.code yX4_copyRow cX4_copyRow 2 none, Cond.methodLink RX4 261 arraycopyName, Cond.native arraycopyName, Cond.static arraycopyName, Cond.initialized "java/lang/System", Cond.methodLink RX4 45 yX0_begin, Cond.instanceMethod yX0_begin, Cond.selects RX0 yX0_begin yX0_begin, Cond.code yX0_begin cX0_begin 4 none, Cond.methodLink RX0 47 yJ7_fill_53178, Cond.static yJ7_fill_53178, Cond.initialized RJ7, Cond.code yJ7_fill_53178 cJ7_fill_53178 4 none, Cond.methodLink RX4 49 yX2_keepRecord, Cond.instanceMethod yX2_keepRecord, Cond.selects RX2 yX2_keepRecord yX2_keepRecord, Cond.code yX2_keepRecord cX2_keepRecord 1 none, Cond.methodLink RX4 52 yX0_edgeCount, Cond.instanceMethod yX0_edgeCount, Cond.selects RX0 yX0_edgeCount yX0_edgeCount, Cond.code yX0_edgeCount cX0_edgeCount 1 (some .int), Cond.methodLink RX0 69 yX0_rowEdgeCount, Cond.instanceMethod yX0_rowEdgeCount, Cond.selects RX0 yX0_rowEdgeCount yX0_rowEdgeCount]
def wsL_acts_r4 : List Cond := [Cond.code yX0_rowEdgeCount cX0_rowEdgeCount 1 (some .int), Cond.methodLink RL 54 yL_begins, Cond.static yL_begins, Cond.code yL_begins cL_begins 7 none, Cond.constantLong RL 38 (9876543210), Cond.methodLink RL 9 yL_power, Cond.static yL_power, Cond.code yL_power cL_power 5 (some .long), Cond.methodLink RL 58 yX4_set, Cond.instanceMethod yX4_set, Cond.selects RX4 yX4_set yX4_set, Cond.code yX4_set cX4_set 4 (some .int), Cond.methodLink RX4 56 yX0_putGuard, Cond.instanceMethod yX0_putGuard, Cond.selects RX0 yX0_putGuard yX0_putGuard, Cond.code yX0_putGuard cX0_putGuard 3 (some .int), Cond.methodLink RX4 60 yX0_putTolerance, Cond.instanceMethod yX0_putTolerance, Cond.selects RX0 yX0_putTolerance yX0_putTolerance, Cond.code yX0_putTolerance cX0_putTolerance 3 (some .int), Cond.methodLink RL 15 yL_digit, Cond.static yL_digit, Cond.code yL_digit cL_digit 4 (some .int), Cond.methodLink RL 61 yX4_show]
def wsL_acts_r5 : List Cond := [Cond.instanceMethod yX4_show, Cond.selects RX4 yX4_show yX4_show, Cond.code yX4_show cX4_show 6 (some .int), Cond.methodLink RX4 63 yX0_hasPlace, Cond.instanceMethod yX0_hasPlace, Cond.selects RX0 yX0_hasPlace yX0_hasPlace, Cond.code yX0_hasPlace cX0_hasPlace 4 (some .boolean), Cond.methodLink RX0 61 yX0_hasSheet, Cond.instanceMethod yX0_hasSheet, Cond.selects RX0 yX0_hasSheet yX0_hasSheet, Cond.code yX0_hasSheet cX0_hasSheet 2 (some .boolean), Cond.methodLink RX0 57 yX0_sheetCount, Cond.instanceMethod yX0_sheetCount, Cond.selects RX0 yX0_sheetCount yX0_sheetCount, Cond.code yX0_sheetCount cX0_sheetCount 1 (some .int), Cond.methodLink RX4 66 yX4_isDigit, Cond.static yX4_isDigit, Cond.code yX4_isDigit cX4_isDigit 1 (some .boolean), Cond.methodLink RX4 70 yX0_putSign, Cond.instanceMethod yX0_putSign, Cond.selects RX0 yX0_putSign yX0_putSign, Cond.code yX0_putSign cX0_putSign 5 (some .int), Cond.methodLink RX0 89 yX0_placeOf, Cond.static yX0_placeOf]
def wsL_acts_r6 : List Cond := [Cond.code yX0_placeOf cX0_placeOf 3 (some .int), Cond.static yX4_exchange, Cond.code yX4_exchange cX4_exchange 4 (some .int), Cond.methodLink RX4 74 yX4_endRevision, Cond.instanceMethod yX4_endRevision, Cond.selects RX4 yX4_endRevision yX4_endRevision, Cond.code yX4_endRevision cX4_endRevision 3 (some .int), Cond.methodLink RX4 161 yX0_guardValue, Cond.instanceMethod yX0_guardValue, Cond.selects RX0 yX0_guardValue yX0_guardValue, Cond.code yX0_guardValue cX0_guardValue 1 (some .int), Cond.methodLink RX4 252 yX0_breaksAgreement, Cond.instanceMethod yX0_breaksAgreement, Cond.selects RX0 yX0_breaksAgreement yX0_breaksAgreement, Cond.code yX0_breaksAgreement cX0_breaksAgreement 4 (some .boolean), Cond.methodLink RX0 85 yX0_edgeOf, Cond.instanceMethod yX0_edgeOf, Cond.selects RX0 yX0_edgeOf yX0_edgeOf, Cond.code yX0_edgeOf cX0_edgeOf 7 (some .int), Cond.methodLink RX0 79 yX0_columnOf, Cond.instanceMethod yX0_columnOf, Cond.selects RX0 yX0_columnOf yX0_columnOf, Cond.code yX0_columnOf cX0_columnOf 2 (some .int), Cond.methodLink RX0 82 yX0_rowOf]
def wsL_acts_r7 : List Cond := [Cond.instanceMethod yX0_rowOf, Cond.selects RX0 yX0_rowOf yX0_rowOf, Cond.code yX0_rowOf cX0_rowOf 2 (some .int), Cond.methodLink RX0 124 yX0_isAgreed, Cond.instanceMethod yX0_isAgreed, Cond.selects RX0 yX0_isAgreed yX0_isAgreed, Cond.code yX0_isAgreed cX0_isAgreed 2 (some .boolean), Cond.static yX4_valueAt, Cond.code yX4_valueAt cX4_valueAt 3 (some .int), Cond.methodLink RX0 121 yX0_quarrelsOf, Cond.instanceMethod yX0_quarrelsOf, Cond.selects RX0 yX0_quarrelsOf yX0_quarrelsOf, Cond.code yX0_quarrelsOf cX0_quarrelsOf 4 (some .int), Cond.methodLink RX0 118 yX0_reasonAt, Cond.instanceMethod yX0_reasonAt, Cond.selects RX0 yX0_reasonAt yX0_reasonAt, Cond.code yX0_reasonAt cX0_reasonAt 5 (some .int), Cond.methodLink RX0 75 yX0_firstSheet, Cond.instanceMethod yX0_firstSheet, Cond.selects RX0 yX0_firstSheet yX0_firstSheet, Cond.code yX0_firstSheet cX0_firstSheet 4 (some .int), Cond.methodLink RX0 106 yX0_firstSide, Cond.instanceMethod yX0_firstSide, Cond.selects RX0 yX0_firstSide yX0_firstSide]
def wsL_acts_r8 : List Cond := [Cond.code yX0_firstSide cX0_firstSide 2 (some .int), Cond.methodLink RX0 109 yX0_meaningAt, Cond.instanceMethod yX0_meaningAt, Cond.selects RX0 yX0_meaningAt yX0_meaningAt, Cond.code yX0_meaningAt cX0_meaningAt 5 (some .int), Cond.methodLink RX0 112 yX0_secondSheet, Cond.instanceMethod yX0_secondSheet, Cond.selects RX0 yX0_secondSheet yX0_secondSheet, Cond.code yX0_secondSheet cX0_secondSheet 2 (some .int), Cond.methodLink RX0 115 yX0_secondSide, Cond.instanceMethod yX0_secondSide, Cond.selects RX0 yX0_secondSide yX0_secondSide, Cond.code yX0_secondSide cX0_secondSide 2 (some .int), Cond.methodLink RX4 215 yX2_returnToRecord, Cond.instanceMethod yX2_returnToRecord, Cond.selects RX2 yX2_returnToRecord yX2_returnToRecord, Cond.code yX2_returnToRecord cX2_returnToRecord 3 none, Cond.methodLink RX4 255 yX0_dropBrokenAgreements, Cond.instanceMethod yX0_dropBrokenAgreements, Cond.selects RX0 yX0_dropBrokenAgreements yX0_dropBrokenAgreements, Cond.code yX0_dropBrokenAgreements cX0_dropBrokenAgreements 4 none, Cond.methodLink RX0 127 yX0_putAgreed, Cond.instanceMethod yX0_putAgreed, Cond.selects RX0 yX0_putAgreed yX0_putAgreed]
def wsL_acts_r9 : List Cond := [Cond.code yX0_putAgreed cX0_putAgreed 3 (some .int), Cond.methodLink RX4 258 yX0_addRevision, Cond.instanceMethod yX0_addRevision, Cond.selects RX0 yX0_addRevision yX0_addRevision, Cond.code yX0_addRevision cX0_addRevision 2 none, Cond.methodLink RX0 141 yX0_revisionOf, Cond.instanceMethod yX0_revisionOf, Cond.selects RX0 yX0_revisionOf yX0_revisionOf, Cond.code yX0_revisionOf cX0_revisionOf 2 (some .int), Cond.methodLink RL 65 yL_keeps, Cond.static yL_keeps, Cond.code yL_keeps cL_keeps 10 (some .boolean), Cond.methodLink RL 40 yL_torn, Cond.static yL_torn, Cond.code yL_torn cL_torn 5 (some .int), Cond.methodLink RL 34 yL_quarrels, Cond.static yL_quarrels, Cond.code yL_quarrels cL_quarrels 6 (some .int), Cond.methodLink RL 27 yL_reason, Cond.static yL_reason, Cond.code yL_reason cL_reason 7 (some .int), Cond.methodLink RL 19 yL_means, Cond.static yL_means, Cond.code yL_means cL_means 6 (some .int)]
def wsL_acts_r10 : List Cond := [Cond.methodLink RL 23 yL_other, Cond.static yL_other, Cond.code yL_other cL_other 2 (some .int), Cond.methodLink RL 69 yX4_erase, Cond.instanceMethod yX4_erase, Cond.selects RX4 yX4_erase yX4_erase, Cond.code yX4_erase cX4_erase 5 (some .int), Cond.methodLink RX4 78 yX0_signAt, Cond.instanceMethod yX0_signAt, Cond.selects RX0 yX0_signAt yX0_signAt, Cond.code yX0_signAt cX0_signAt 4 (some .int), Cond.methodLink RL 73 yX4_mean, Cond.instanceMethod yX4_mean, Cond.selects RX4 yX4_mean yX4_mean, Cond.code yX4_mean cX4_mean 5 (some .int), Cond.methodLink RX4 82 yX0_hasSheet, Cond.methodLink RX4 85 yX0_putMeaning, Cond.instanceMethod yX0_putMeaning, Cond.selects RX0 yX0_putMeaning yX0_putMeaning, Cond.code yX0_putMeaning cX0_putMeaning 4 (some .int), Cond.methodLink RL 76 yX4_agree, Cond.instanceMethod yX4_agree, Cond.selects RX4 yX4_agree yX4_agree, Cond.code yX4_agree cX4_agree 3 (some .int)]
def wsL_acts_r11 : List Cond := [Cond.methodLink RX4 170 yX0_hasEdge, Cond.instanceMethod yX0_hasEdge, Cond.selects RX0 yX0_hasEdge yX0_hasEdge, Cond.code yX0_hasEdge cX0_hasEdge 2 (some .boolean), Cond.methodLink RX0 72 yX0_edgeCount, Cond.methodLink RX4 185 yX0_quarrelsOf, Cond.methodLink RX4 209 yX0_putAgreed, Cond.methodLink RL 80 yX4_release, Cond.instanceMethod yX4_release, Cond.selects RX4 yX4_release yX4_release, Cond.code yX4_release cX4_release 2 (some .int), Cond.fieldLink RX4 26 "MapSheets" "blocks" "LMapSheets$Blocks;", Cond.methodLink RX4 182 yX0_isAgreed, Cond.methodLink RX4 121 yX1_find, Cond.instanceMethod yX1_find, Cond.selects RX1 yX1_find yX1_find, Cond.initialized RX1, Cond.code yX1_find cX1_find 7 (some .int), Cond.fieldLink RX1 9 "MapSheets$Blocks" "lowest" "[I", Cond.methodLink RX1 38 Lib.Math.min.name, Cond.static Lib.Math.min.name, Cond.initialized "java/lang/Math", Cond.code Lib.Math.min.name Lib.Math.min.code 2 (some .int), Cond.methodLink RX1 44 Lib.Math.max.name]
def wsL_acts_r12 : List Cond := [Cond.static Lib.Math.max.name, Cond.code Lib.Math.max.name Lib.Math.max.code 2 (some .int), Cond.methodLink RX1 15 yX0_edgeCount, Cond.methodLink RX1 21 yX0_sheetCount, Cond.methodLink RX1 24 yX0_isAgreed, Cond.methodLink RX1 28 yX0_firstSheet, Cond.methodLink RX1 32 yX1_lowestOf, Cond.instanceMethod yX1_lowestOf, Cond.selects RX1 yX1_lowestOf yX1_lowestOf, Cond.code yX1_lowestOf cX1_lowestOf 2 (some .int), Cond.methodLink RX1 35 yX0_secondSheet, Cond.methodLink RX1 47 yX1_join, Cond.instanceMethod yX1_join, Cond.selects RX1 yX1_join yX1_join, Cond.code yX1_join cX1_join 4 none, Cond.methodLink RL 83 yX4_count, Cond.instanceMethod yX4_count, Cond.selects RX4 yX4_count yX4_count, Cond.code yX4_count cX4_count 2 (some .int), Cond.fieldLink RX4 33 "MapSheets" "text" "LMapSheets$SignText;", Cond.methodLink RX4 128 yX0_columnCount, Cond.instanceMethod yX0_columnCount, Cond.selects RX0 yX0_columnCount yX0_columnCount, Cond.code yX0_columnCount cX0_columnCount 1 (some .int)]
def wsL_acts_r13 : List Cond := [Cond.methodLink RX4 131 yX0_rowCount, Cond.instanceMethod yX0_rowCount, Cond.selects RX0 yX0_rowCount yX0_rowCount, Cond.code yX0_rowCount cX0_rowCount 1 (some .int), Cond.methodLink RX4 134 yX0_sheetCount, Cond.methodLink RX4 137 yX0_agreedEdges, Cond.instanceMethod yX0_agreedEdges, Cond.selects RX0 yX0_agreedEdges yX0_agreedEdges, Cond.code yX0_agreedEdges cX0_agreedEdges 4 (some .int), Cond.methodLink RX4 140 yX0_cleanEdges, Cond.instanceMethod yX0_cleanEdges, Cond.selects RX0 yX0_cleanEdges yX0_cleanEdges, Cond.code yX0_cleanEdges cX0_cleanEdges 4 (some .int), Cond.methodLink RX4 143 yX0_quarrelsOfAll, Cond.instanceMethod yX0_quarrelsOfAll, Cond.selects RX0 yX0_quarrelsOfAll yX0_quarrelsOfAll, Cond.code yX0_quarrelsOfAll cX0_quarrelsOfAll 4 (some .int), Cond.methodLink RX4 146 yX0_publishedSheets, Cond.instanceMethod yX0_publishedSheets, Cond.selects RX0 yX0_publishedSheets yX0_publishedSheets, Cond.code yX0_publishedSheets cX0_publishedSheets 4 (some .int), Cond.methodLink RX0 147 yX0_isPublished, Cond.instanceMethod yX0_isPublished, Cond.selects RX0 yX0_isPublished yX0_isPublished]
def wsL_acts_r14 : List Cond := [Cond.code yX0_isPublished cX0_isPublished 2 (some .boolean), Cond.methodLink RX0 144 yX0_publishedOf, Cond.instanceMethod yX0_publishedOf, Cond.selects RX0 yX0_publishedOf yX0_publishedOf, Cond.code yX0_publishedOf cX0_publishedOf 2 (some .int), Cond.methodLink RX4 149 yX0_sheetsUpToDate, Cond.instanceMethod yX0_sheetsUpToDate, Cond.selects RX0 yX0_sheetsUpToDate yX0_sheetsUpToDate, Cond.code yX0_sheetsUpToDate cX0_sheetsUpToDate 4 (some .int), Cond.methodLink RX0 150 yX0_isUpToDate, Cond.instanceMethod yX0_isUpToDate, Cond.selects RX0 yX0_isUpToDate yX0_isUpToDate, Cond.code yX0_isUpToDate cX0_isUpToDate 2 (some .boolean), Cond.methodLink RX4 152 yX0_fittingEdges, Cond.instanceMethod yX0_fittingEdges, Cond.selects RX0 yX0_fittingEdges yX0_fittingEdges, Cond.code yX0_fittingEdges cX0_fittingEdges 4 (some .int), Cond.methodLink RX0 166 yX0_isFitting, Cond.instanceMethod yX0_isFitting, Cond.selects RX0 yX0_isFitting yX0_isFitting, Cond.code yX0_isFitting cX0_isFitting 6 (some .boolean), Cond.constantDouble RX0 164 (4652007308841189376), Cond.methodLink RX0 161 yX0_ratioOf, Cond.instanceMethod yX0_ratioOf]
def wsL_acts_r15 : List Cond := [Cond.selects RX0 yX0_ratioOf yX0_ratioOf, Cond.code yX0_ratioOf cX0_ratioOf 3 (some .float), Cond.methodLink RX0 157 yX0_floatScale, Cond.instanceMethod yX0_floatScale, Cond.selects RX0 yX0_floatScale yX0_floatScale, Cond.code yX0_floatScale cX0_floatScale 2 (some .float), Cond.constantFloat RX0 156 (1148846080), Cond.methodLink RX0 153 yX0_scaleOf, Cond.instanceMethod yX0_scaleOf, Cond.selects RX0 yX0_scaleOf yX0_scaleOf, Cond.code yX0_scaleOf cX0_scaleOf 2 (some .int), Cond.methodLink RX4 155 yX2_stateCount, Cond.instanceMethod yX2_stateCount, Cond.selects RX2 yX2_stateCount yX2_stateCount, Cond.code yX2_stateCount cX2_stateCount 1 (some .int), Cond.methodLink RX4 158 yX3_characterCount, Cond.instanceMethod yX3_characterCount, Cond.selects RX3 yX3_characterCount yX3_characterCount, Cond.initialized RX3, Cond.code yX3_characterCount cX3_characterCount 1 (some .int), Cond.fieldLink RX3 15 "MapSheets$SignText" "length" "I", Cond.methodLink RX4 164 yX0_toleranceValue, Cond.instanceMethod yX0_toleranceValue, Cond.selects RX0 yX0_toleranceValue yX0_toleranceValue]
def wsL_acts_r16 : List Cond := [Cond.code yX0_toleranceValue cX0_toleranceValue 1 (some .int), Cond.methodLink RL 86 yX4_settle, Cond.instanceMethod yX4_settle, Cond.selects RX4 yX4_settle yX4_settle, Cond.code yX4_settle cX4_settle 4 (some .int), Cond.methodLink RX4 173 yX0_firstSheet, Cond.methodLink RX4 176 yX0_secondSheet, Cond.methodLink RX4 212 yX0_settleFrom, Cond.instanceMethod yX0_settleFrom, Cond.selects RX0 yX0_settleFrom yX0_settleFrom, Cond.code yX0_settleFrom cX0_settleFrom 11 (some .int), Cond.methodLink RX0 130 yX0_lowestSign, Cond.instanceMethod yX0_lowestSign, Cond.selects RX0 yX0_lowestSign yX0_lowestSign, Cond.code yX0_lowestSign cX0_lowestSign 4 (some .int), Cond.methodLink RX0 103 yX0_meaningOf, Cond.instanceMethod yX0_meaningOf, Cond.selects RX0 yX0_meaningOf yX0_meaningOf, Cond.code yX0_meaningOf cX0_meaningOf 3 (some .int), Cond.methodLink RX0 133 yX0_putSign, Cond.methodLink RX0 137 yX0_addRevision, Cond.methodLink RL 89 yL_edgeAt, Cond.static yL_edgeAt, Cond.code yL_edgeAt cL_edgeAt 7 (some .int)]
def wsL_acts_r17 : List Cond := [Cond.methodLink RL 93 yX4_publish, Cond.instanceMethod yX4_publish, Cond.selects RX4 yX4_publish yX4_publish, Cond.code yX4_publish cX4_publish 2 (some .int), Cond.methodLink RX4 100 yX0_agreedEdgesOf, Cond.instanceMethod yX0_agreedEdgesOf, Cond.selects RX0 yX0_agreedEdgesOf yX0_agreedEdgesOf, Cond.code yX0_agreedEdgesOf cX0_agreedEdgesOf 4 (some .int), Cond.methodLink RX4 97 yX0_edgesOf, Cond.instanceMethod yX0_edgesOf, Cond.selects RX0 yX0_edgesOf yX0_edgesOf, Cond.code yX0_edgesOf cX0_edgesOf 4 (some .int), Cond.methodLink RX4 226 yX0_publishRevision, Cond.instanceMethod yX0_publishRevision, Cond.selects RX0 yX0_publishRevision yX0_publishRevision, Cond.code yX0_publishRevision cX0_publishRevision 2 none, Cond.methodLink RX4 103 yX0_revisionOf, Cond.methodLink RL 97 yX4_scale, Cond.instanceMethod yX4_scale, Cond.selects RX4 yX4_scale yX4_scale, Cond.code yX4_scale cX4_scale 4 (some .int), Cond.constant RX4 230 (1000000), Cond.methodLink RX4 231 yX0_putScale, Cond.instanceMethod yX0_putScale]
def wsL_acts_r18 : List Cond := [Cond.selects RX0 yX0_putScale yX0_putScale, Cond.code yX0_putScale cX0_putScale 3 (some .int)]
def wsL_acts : List Cond := .code yL_acts cL_acts 43 (some .boolean) :: ((wsL_acts_r1 ++ (wsL_acts_r2 ++ (wsL_acts_r3 ++ (wsL_acts_r4 ++ (wsL_acts_r5 ++ (wsL_acts_r6 ++ (wsL_acts_r7 ++ (wsL_acts_r8 ++ (wsL_acts_r9 ++ (wsL_acts_r10 ++ (wsL_acts_r11 ++ (wsL_acts_r12 ++ (wsL_acts_r13 ++ (wsL_acts_r14 ++ (wsL_acts_r15 ++ (wsL_acts_r16 ++ (wsL_acts_r17 ++ wsL_acts_r18))))))))))))))))) ++ wsX40 ++ wsX20 ++ wsX00 ++ wsX10 ++ wsX30)
def wsL_block : List Cond := .code yL_block cL_block 7 (some .int) :: ([.methodLink RL 31 yL_edge, .static yL_edge, .initialized RL, .code yL_edge cL_edge 7 (some .int), .methodLink RL 23 yL_other, .static yL_other, .code yL_other cL_other 2 (some .int)])
def wsL_areEdges_r1 : List Cond := [Cond.methodLink RL 31 yL_edge, Cond.static yL_edge, Cond.initialized RL, Cond.code yL_edge cL_edge 7 (some .int), Cond.methodLink RL 19 yL_means, Cond.static yL_means, Cond.code yL_means cL_means 6 (some .int), Cond.methodLink RL 15 yL_digit, Cond.static yL_digit, Cond.code yL_digit cL_digit 4 (some .int), Cond.methodLink RL 9 yL_power, Cond.static yL_power, Cond.code yL_power cL_power 5 (some .long), Cond.methodLink RL 23 yL_other, Cond.static yL_other, Cond.code yL_other cL_other 2 (some .int), Cond.methodLink RL 27 yL_reason, Cond.static yL_reason, Cond.code yL_reason cL_reason 7 (some .int), Cond.methodLink RL 100 yX4_quarrel, Cond.instanceMethod yX4_quarrel, Cond.selects RX4 yX4_quarrel yX4_quarrel, Cond.initialized RX4, Cond.code yX4_quarrel cX4_quarrel 5 (some .int)]
def wsL_areEdges_r2 : List Cond := [Cond.fieldLink RX4 10 "MapSheets" "now" "LMapSheets$Atlas;", Cond.methodLink RX4 170 yX0_hasEdge, Cond.instanceMethod yX0_hasEdge, Cond.selects RX0 yX0_hasEdge yX0_hasEdge, Cond.initialized RX0, Cond.code yX0_hasEdge cX0_hasEdge 2 (some .boolean), Cond.methodLink RX0 72 yX0_edgeCount, Cond.instanceMethod yX0_edgeCount, Cond.selects RX0 yX0_edgeCount yX0_edgeCount, Cond.code yX0_edgeCount cX0_edgeCount 1 (some .int), Cond.fieldLink RX0 41 "MapSheets$Atlas" "columns" "I", Cond.fieldLink RX0 44 "MapSheets$Atlas" "rows" "I", Cond.methodLink RX0 69 yX0_rowEdgeCount, Cond.instanceMethod yX0_rowEdgeCount, Cond.selects RX0 yX0_rowEdgeCount yX0_rowEdgeCount, Cond.code yX0_rowEdgeCount cX0_rowEdgeCount 1 (some .int), Cond.methodLink RX4 37 yX4_isWithin, Cond.static yX4_isWithin, Cond.code yX4_isWithin cX4_isWithin 3 (some .boolean), Cond.methodLink RX4 197 yX0_positionOfQuarrel, Cond.instanceMethod yX0_positionOfQuarrel, Cond.selects RX0 yX0_positionOfQuarrel yX0_positionOfQuarrel, Cond.code yX0_positionOfQuarrel cX0_positionOfQuarrel 5 (some .int), Cond.methodLink RX0 118 yX0_reasonAt]
def wsL_areEdges_r3 : List Cond := [Cond.instanceMethod yX0_reasonAt, Cond.selects RX0 yX0_reasonAt yX0_reasonAt, Cond.code yX0_reasonAt cX0_reasonAt 5 (some .int), Cond.methodLink RX0 75 yX0_firstSheet, Cond.instanceMethod yX0_firstSheet, Cond.selects RX0 yX0_firstSheet yX0_firstSheet, Cond.code yX0_firstSheet cX0_firstSheet 4 (some .int), Cond.methodLink RX0 106 yX0_firstSide, Cond.instanceMethod yX0_firstSide, Cond.selects RX0 yX0_firstSide yX0_firstSide, Cond.code yX0_firstSide cX0_firstSide 2 (some .int), Cond.methodLink RX0 109 yX0_meaningAt, Cond.instanceMethod yX0_meaningAt, Cond.selects RX0 yX0_meaningAt yX0_meaningAt, Cond.code yX0_meaningAt cX0_meaningAt 5 (some .int), Cond.fieldLink RX0 9 "MapSheets$Atlas" "signs" "[I", Cond.fieldLink RX0 15 "MapSheets$Atlas" "meanings" "[I", Cond.methodLink RX0 89 yX0_placeOf, Cond.static yX0_placeOf, Cond.code yX0_placeOf cX0_placeOf 3 (some .int), Cond.static yX4_valueAt, Cond.code yX4_valueAt cX4_valueAt 3 (some .int), Cond.methodLink RX0 112 yX0_secondSheet, Cond.instanceMethod yX0_secondSheet]
def wsL_areEdges_r4 : List Cond := [Cond.selects RX0 yX0_secondSheet yX0_secondSheet, Cond.code yX0_secondSheet cX0_secondSheet 2 (some .int), Cond.methodLink RX0 115 yX0_secondSide, Cond.instanceMethod yX0_secondSide, Cond.selects RX0 yX0_secondSide yX0_secondSide, Cond.code yX0_secondSide cX0_secondSide 2 (some .int), Cond.methodLink RX4 200 yX0_reasonAt, Cond.methodLink RX4 173 yX0_firstSheet, Cond.methodLink RX4 179 yX0_firstSide, Cond.methodLink RX4 203 yX0_meaningAt, Cond.methodLink RX4 176 yX0_secondSheet, Cond.methodLink RX4 206 yX0_secondSide, Cond.methodLink RL 103 yX4_edge, Cond.instanceMethod yX4_edge, Cond.selects RX4 yX4_edge yX4_edge, Cond.code yX4_edge cX4_edge 3 (some .int), Cond.methodLink RX4 182 yX0_isAgreed, Cond.instanceMethod yX0_isAgreed, Cond.selects RX0 yX0_isAgreed yX0_isAgreed, Cond.code yX0_isAgreed cX0_isAgreed 2 (some .boolean), Cond.fieldLink RX0 27 "MapSheets$Atlas" "agreed" "[I", Cond.methodLink RX4 185 yX0_quarrelsOf, Cond.instanceMethod yX0_quarrelsOf, Cond.selects RX0 yX0_quarrelsOf yX0_quarrelsOf]
def wsL_areEdges_r5 : List Cond := [Cond.code yX0_quarrelsOf cX0_quarrelsOf 4 (some .int), Cond.methodLink RX4 188 yX0_signsOnBothSides, Cond.instanceMethod yX0_signsOnBothSides, Cond.selects RX0 yX0_signsOnBothSides yX0_signsOnBothSides, Cond.code yX0_signsOnBothSides cX0_signsOnBothSides 6 (some .int), Cond.methodLink RX0 100 yX0_signAt, Cond.instanceMethod yX0_signAt, Cond.selects RX0 yX0_signAt yX0_signAt, Cond.code yX0_signAt cX0_signAt 4 (some .int), Cond.methodLink RX4 191 yX0_isFitting, Cond.instanceMethod yX0_isFitting, Cond.selects RX0 yX0_isFitting yX0_isFitting, Cond.code yX0_isFitting cX0_isFitting 6 (some .boolean), Cond.fieldLink RX0 34 "MapSheets$Atlas" "tolerance" "I", Cond.constantDouble RX0 164 (4652007308841189376), Cond.methodLink RX0 161 yX0_ratioOf, Cond.instanceMethod yX0_ratioOf, Cond.selects RX0 yX0_ratioOf yX0_ratioOf, Cond.code yX0_ratioOf cX0_ratioOf 3 (some .float), Cond.methodLink RX0 157 yX0_floatScale, Cond.instanceMethod yX0_floatScale, Cond.selects RX0 yX0_floatScale yX0_floatScale, Cond.code yX0_floatScale cX0_floatScale 2 (some .float), Cond.constantFloat RX0 156 (1148846080)]
def wsL_areEdges_r6 : List Cond := [Cond.methodLink RX0 153 yX0_scaleOf, Cond.instanceMethod yX0_scaleOf, Cond.selects RX0 yX0_scaleOf yX0_scaleOf, Cond.code yX0_scaleOf cX0_scaleOf 2 (some .int), Cond.fieldLink RX0 24 "MapSheets$Atlas" "scales" "[I", Cond.methodLink RL 83 yX4_count, Cond.instanceMethod yX4_count, Cond.selects RX4 yX4_count yX4_count, Cond.code yX4_count cX4_count 2 (some .int), Cond.fieldLink RX4 26 "MapSheets" "blocks" "LMapSheets$Blocks;", Cond.fieldLink RX4 19 "MapSheets" "history" "LMapSheets$History;", Cond.fieldLink RX4 33 "MapSheets" "text" "LMapSheets$SignText;", Cond.methodLink RX4 128 yX0_columnCount, Cond.instanceMethod yX0_columnCount, Cond.selects RX0 yX0_columnCount yX0_columnCount, Cond.code yX0_columnCount cX0_columnCount 1 (some .int), Cond.methodLink RX4 131 yX0_rowCount, Cond.instanceMethod yX0_rowCount, Cond.selects RX0 yX0_rowCount yX0_rowCount, Cond.code yX0_rowCount cX0_rowCount 1 (some .int), Cond.methodLink RX4 134 yX0_sheetCount, Cond.instanceMethod yX0_sheetCount, Cond.selects RX0 yX0_sheetCount yX0_sheetCount, Cond.code yX0_sheetCount cX0_sheetCount 1 (some .int)]
def wsL_areEdges_r7 : List Cond := [Cond.methodLink RX4 52 yX0_edgeCount, Cond.methodLink RX4 137 yX0_agreedEdges, Cond.instanceMethod yX0_agreedEdges, Cond.selects RX0 yX0_agreedEdges yX0_agreedEdges, Cond.code yX0_agreedEdges cX0_agreedEdges 4 (some .int), Cond.methodLink RX0 124 yX0_isAgreed, Cond.methodLink RX4 140 yX0_cleanEdges, Cond.instanceMethod yX0_cleanEdges, Cond.selects RX0 yX0_cleanEdges yX0_cleanEdges, Cond.code yX0_cleanEdges cX0_cleanEdges 4 (some .int), Cond.methodLink RX0 121 yX0_quarrelsOf, Cond.methodLink RX4 143 yX0_quarrelsOfAll, Cond.instanceMethod yX0_quarrelsOfAll, Cond.selects RX0 yX0_quarrelsOfAll yX0_quarrelsOfAll, Cond.code yX0_quarrelsOfAll cX0_quarrelsOfAll 4 (some .int), Cond.methodLink RX4 121 yX1_find, Cond.instanceMethod yX1_find, Cond.selects RX1 yX1_find yX1_find, Cond.initialized RX1, Cond.code yX1_find cX1_find 7 (some .int), Cond.fieldLink RX1 9 "MapSheets$Blocks" "lowest" "[I", Cond.methodLink RX1 38 Lib.Math.min.name, Cond.static Lib.Math.min.name, Cond.initialized "java/lang/Math"]
def wsL_areEdges_r8 : List Cond := [Cond.code Lib.Math.min.name Lib.Math.min.code 2 (some .int), Cond.methodLink RX1 44 Lib.Math.max.name, Cond.static Lib.Math.max.name, Cond.code Lib.Math.max.name Lib.Math.max.code 2 (some .int), Cond.methodLink RX1 15 yX0_edgeCount, Cond.methodLink RX1 21 yX0_sheetCount, Cond.methodLink RX1 24 yX0_isAgreed, Cond.methodLink RX1 28 yX0_firstSheet, Cond.methodLink RX1 32 yX1_lowestOf, Cond.instanceMethod yX1_lowestOf, Cond.selects RX1 yX1_lowestOf yX1_lowestOf, Cond.code yX1_lowestOf cX1_lowestOf 2 (some .int), Cond.methodLink RX1 35 yX0_secondSheet, Cond.methodLink RX1 47 yX1_join, Cond.instanceMethod yX1_join, Cond.selects RX1 yX1_join yX1_join, Cond.code yX1_join cX1_join 4 none, Cond.methodLink RX4 146 yX0_publishedSheets, Cond.instanceMethod yX0_publishedSheets, Cond.selects RX0 yX0_publishedSheets yX0_publishedSheets, Cond.code yX0_publishedSheets cX0_publishedSheets 4 (some .int), Cond.methodLink RX0 57 yX0_sheetCount, Cond.methodLink RX0 147 yX0_isPublished, Cond.instanceMethod yX0_isPublished]
def wsL_areEdges_r9 : List Cond := [Cond.selects RX0 yX0_isPublished yX0_isPublished, Cond.code yX0_isPublished cX0_isPublished 2 (some .boolean), Cond.methodLink RX0 144 yX0_publishedOf, Cond.instanceMethod yX0_publishedOf, Cond.selects RX0 yX0_publishedOf yX0_publishedOf, Cond.code yX0_publishedOf cX0_publishedOf 2 (some .int), Cond.fieldLink RX0 21 "MapSheets$Atlas" "published" "[I", Cond.methodLink RX4 149 yX0_sheetsUpToDate, Cond.instanceMethod yX0_sheetsUpToDate, Cond.selects RX0 yX0_sheetsUpToDate yX0_sheetsUpToDate, Cond.code yX0_sheetsUpToDate cX0_sheetsUpToDate 4 (some .int), Cond.methodLink RX0 150 yX0_isUpToDate, Cond.instanceMethod yX0_isUpToDate, Cond.selects RX0 yX0_isUpToDate yX0_isUpToDate, Cond.code yX0_isUpToDate cX0_isUpToDate 2 (some .boolean), Cond.methodLink RX0 141 yX0_revisionOf, Cond.instanceMethod yX0_revisionOf, Cond.selects RX0 yX0_revisionOf yX0_revisionOf, Cond.code yX0_revisionOf cX0_revisionOf 2 (some .int), Cond.fieldLink RX0 18 "MapSheets$Atlas" "revisions" "[I", Cond.methodLink RX4 152 yX0_fittingEdges, Cond.instanceMethod yX0_fittingEdges, Cond.selects RX0 yX0_fittingEdges yX0_fittingEdges, Cond.code yX0_fittingEdges cX0_fittingEdges 4 (some .int)]
def wsL_areEdges_r10 : List Cond := [Cond.methodLink RX0 166 yX0_isFitting, Cond.methodLink RX4 155 yX2_stateCount, Cond.instanceMethod yX2_stateCount, Cond.selects RX2 yX2_stateCount yX2_stateCount, Cond.initialized RX2, Cond.code yX2_stateCount cX2_stateCount 1 (some .int), Cond.fieldLink RX2 21 "MapSheets$History" "size" "I", Cond.methodLink RX4 158 yX3_characterCount, Cond.instanceMethod yX3_characterCount, Cond.selects RX3 yX3_characterCount yX3_characterCount, Cond.initialized RX3, Cond.code yX3_characterCount cX3_characterCount 1 (some .int), Cond.fieldLink RX3 15 "MapSheets$SignText" "length" "I", Cond.methodLink RX4 161 yX0_guardValue, Cond.instanceMethod yX0_guardValue, Cond.selects RX0 yX0_guardValue yX0_guardValue, Cond.code yX0_guardValue cX0_guardValue 1 (some .int), Cond.fieldLink RX0 30 "MapSheets$Atlas" "guard" "I", Cond.methodLink RX4 164 yX0_toleranceValue, Cond.instanceMethod yX0_toleranceValue, Cond.selects RX0 yX0_toleranceValue yX0_toleranceValue, Cond.code yX0_toleranceValue cX0_toleranceValue 1 (some .int)]
def wsL_areEdges : List Cond := .code yL_areEdges cL_areEdges 16 (some .boolean) :: ((wsL_areEdges_r1 ++ (wsL_areEdges_r2 ++ (wsL_areEdges_r3 ++ (wsL_areEdges_r4 ++ (wsL_areEdges_r5 ++ (wsL_areEdges_r6 ++ (wsL_areEdges_r7 ++ (wsL_areEdges_r8 ++ (wsL_areEdges_r9 ++ wsL_areEdges_r10))))))))) ++ wsX40 ++ wsX00 ++ wsX10 ++ wsX20 ++ wsX30)
def wsL_isSo_r1 : List Cond := [Cond.methodLink RL 83 yX4_count, Cond.instanceMethod yX4_count, Cond.selects RX4 yX4_count yX4_count, Cond.initialized RX4, Cond.code yX4_count cX4_count 2 (some .int), Cond.fieldLink RX4 10 "MapSheets" "now" "LMapSheets$Atlas;", Cond.fieldLink RX4 26 "MapSheets" "blocks" "LMapSheets$Blocks;", Cond.fieldLink RX4 19 "MapSheets" "history" "LMapSheets$History;", Cond.fieldLink RX4 33 "MapSheets" "text" "LMapSheets$SignText;", Cond.methodLink RX4 128 yX0_columnCount, Cond.instanceMethod yX0_columnCount, Cond.selects RX0 yX0_columnCount yX0_columnCount, Cond.initialized RX0, Cond.code yX0_columnCount cX0_columnCount 1 (some .int), Cond.fieldLink RX0 41 "MapSheets$Atlas" "columns" "I", Cond.methodLink RX4 131 yX0_rowCount, Cond.instanceMethod yX0_rowCount, Cond.selects RX0 yX0_rowCount yX0_rowCount, Cond.code yX0_rowCount cX0_rowCount 1 (some .int), Cond.fieldLink RX0 44 "MapSheets$Atlas" "rows" "I", Cond.methodLink RX4 134 yX0_sheetCount, Cond.instanceMethod yX0_sheetCount, Cond.selects RX0 yX0_sheetCount yX0_sheetCount, Cond.code yX0_sheetCount cX0_sheetCount 1 (some .int)]
def wsL_isSo_r2 : List Cond := [Cond.methodLink RX4 52 yX0_edgeCount, Cond.instanceMethod yX0_edgeCount, Cond.selects RX0 yX0_edgeCount yX0_edgeCount, Cond.code yX0_edgeCount cX0_edgeCount 1 (some .int), Cond.methodLink RX0 69 yX0_rowEdgeCount, Cond.instanceMethod yX0_rowEdgeCount, Cond.selects RX0 yX0_rowEdgeCount yX0_rowEdgeCount, Cond.code yX0_rowEdgeCount cX0_rowEdgeCount 1 (some .int), Cond.methodLink RX4 137 yX0_agreedEdges, Cond.instanceMethod yX0_agreedEdges, Cond.selects RX0 yX0_agreedEdges yX0_agreedEdges, Cond.code yX0_agreedEdges cX0_agreedEdges 4 (some .int), Cond.methodLink RX0 72 yX0_edgeCount, Cond.methodLink RX0 124 yX0_isAgreed, Cond.instanceMethod yX0_isAgreed, Cond.selects RX0 yX0_isAgreed yX0_isAgreed, Cond.code yX0_isAgreed cX0_isAgreed 2 (some .boolean), Cond.fieldLink RX0 27 "MapSheets$Atlas" "agreed" "[I", Cond.static yX4_valueAt, Cond.code yX4_valueAt cX4_valueAt 3 (some .int), Cond.methodLink RX4 140 yX0_cleanEdges, Cond.instanceMethod yX0_cleanEdges, Cond.selects RX0 yX0_cleanEdges yX0_cleanEdges, Cond.code yX0_cleanEdges cX0_cleanEdges 4 (some .int)]
def wsL_isSo_r3 : List Cond := [Cond.methodLink RX0 121 yX0_quarrelsOf, Cond.instanceMethod yX0_quarrelsOf, Cond.selects RX0 yX0_quarrelsOf yX0_quarrelsOf, Cond.code yX0_quarrelsOf cX0_quarrelsOf 4 (some .int), Cond.methodLink RX0 118 yX0_reasonAt, Cond.instanceMethod yX0_reasonAt, Cond.selects RX0 yX0_reasonAt yX0_reasonAt, Cond.code yX0_reasonAt cX0_reasonAt 5 (some .int), Cond.methodLink RX0 75 yX0_firstSheet, Cond.instanceMethod yX0_firstSheet, Cond.selects RX0 yX0_firstSheet yX0_firstSheet, Cond.code yX0_firstSheet cX0_firstSheet 4 (some .int), Cond.methodLink RX0 106 yX0_firstSide, Cond.instanceMethod yX0_firstSide, Cond.selects RX0 yX0_firstSide yX0_firstSide, Cond.code yX0_firstSide cX0_firstSide 2 (some .int), Cond.methodLink RX0 109 yX0_meaningAt, Cond.instanceMethod yX0_meaningAt, Cond.selects RX0 yX0_meaningAt yX0_meaningAt, Cond.code yX0_meaningAt cX0_meaningAt 5 (some .int), Cond.fieldLink RX0 9 "MapSheets$Atlas" "signs" "[I", Cond.fieldLink RX0 15 "MapSheets$Atlas" "meanings" "[I", Cond.methodLink RX0 89 yX0_placeOf, Cond.static yX0_placeOf]
def wsL_isSo_r4 : List Cond := [Cond.code yX0_placeOf cX0_placeOf 3 (some .int), Cond.methodLink RX0 112 yX0_secondSheet, Cond.instanceMethod yX0_secondSheet, Cond.selects RX0 yX0_secondSheet yX0_secondSheet, Cond.code yX0_secondSheet cX0_secondSheet 2 (some .int), Cond.methodLink RX0 115 yX0_secondSide, Cond.instanceMethod yX0_secondSide, Cond.selects RX0 yX0_secondSide yX0_secondSide, Cond.code yX0_secondSide cX0_secondSide 2 (some .int), Cond.methodLink RX4 143 yX0_quarrelsOfAll, Cond.instanceMethod yX0_quarrelsOfAll, Cond.selects RX0 yX0_quarrelsOfAll yX0_quarrelsOfAll, Cond.code yX0_quarrelsOfAll cX0_quarrelsOfAll 4 (some .int), Cond.methodLink RX4 121 yX1_find, Cond.instanceMethod yX1_find, Cond.selects RX1 yX1_find yX1_find, Cond.initialized RX1, Cond.code yX1_find cX1_find 7 (some .int), Cond.fieldLink RX1 9 "MapSheets$Blocks" "lowest" "[I", Cond.methodLink RX1 38 Lib.Math.min.name, Cond.static Lib.Math.min.name, Cond.initialized "java/lang/Math", Cond.code Lib.Math.min.name Lib.Math.min.code 2 (some .int), Cond.methodLink RX1 44 Lib.Math.max.name]
def wsL_isSo_r5 : List Cond := [Cond.static Lib.Math.max.name, Cond.code Lib.Math.max.name Lib.Math.max.code 2 (some .int), Cond.methodLink RX1 15 yX0_edgeCount, Cond.methodLink RX1 21 yX0_sheetCount, Cond.methodLink RX1 24 yX0_isAgreed, Cond.methodLink RX1 28 yX0_firstSheet, Cond.methodLink RX1 32 yX1_lowestOf, Cond.instanceMethod yX1_lowestOf, Cond.selects RX1 yX1_lowestOf yX1_lowestOf, Cond.code yX1_lowestOf cX1_lowestOf 2 (some .int), Cond.methodLink RX1 35 yX0_secondSheet, Cond.methodLink RX1 47 yX1_join, Cond.instanceMethod yX1_join, Cond.selects RX1 yX1_join yX1_join, Cond.code yX1_join cX1_join 4 none, Cond.methodLink RX4 146 yX0_publishedSheets, Cond.instanceMethod yX0_publishedSheets, Cond.selects RX0 yX0_publishedSheets yX0_publishedSheets, Cond.code yX0_publishedSheets cX0_publishedSheets 4 (some .int), Cond.methodLink RX0 57 yX0_sheetCount, Cond.methodLink RX0 147 yX0_isPublished, Cond.instanceMethod yX0_isPublished, Cond.selects RX0 yX0_isPublished yX0_isPublished, Cond.code yX0_isPublished cX0_isPublished 2 (some .boolean)]
def wsL_isSo_r6 : List Cond := [Cond.methodLink RX0 144 yX0_publishedOf, Cond.instanceMethod yX0_publishedOf, Cond.selects RX0 yX0_publishedOf yX0_publishedOf, Cond.code yX0_publishedOf cX0_publishedOf 2 (some .int), Cond.fieldLink RX0 21 "MapSheets$Atlas" "published" "[I", Cond.methodLink RX4 149 yX0_sheetsUpToDate, Cond.instanceMethod yX0_sheetsUpToDate, Cond.selects RX0 yX0_sheetsUpToDate yX0_sheetsUpToDate, Cond.code yX0_sheetsUpToDate cX0_sheetsUpToDate 4 (some .int), Cond.methodLink RX0 150 yX0_isUpToDate, Cond.instanceMethod yX0_isUpToDate, Cond.selects RX0 yX0_isUpToDate yX0_isUpToDate, Cond.code yX0_isUpToDate cX0_isUpToDate 2 (some .boolean), Cond.methodLink RX0 141 yX0_revisionOf, Cond.instanceMethod yX0_revisionOf, Cond.selects RX0 yX0_revisionOf yX0_revisionOf, Cond.code yX0_revisionOf cX0_revisionOf 2 (some .int), Cond.fieldLink RX0 18 "MapSheets$Atlas" "revisions" "[I", Cond.methodLink RX4 152 yX0_fittingEdges, Cond.instanceMethod yX0_fittingEdges, Cond.selects RX0 yX0_fittingEdges yX0_fittingEdges, Cond.code yX0_fittingEdges cX0_fittingEdges 4 (some .int), Cond.methodLink RX0 166 yX0_isFitting, Cond.instanceMethod yX0_isFitting]
def wsL_isSo_r7 : List Cond := [Cond.selects RX0 yX0_isFitting yX0_isFitting, Cond.code yX0_isFitting cX0_isFitting 6 (some .boolean), Cond.fieldLink RX0 34 "MapSheets$Atlas" "tolerance" "I", Cond.constantDouble RX0 164 (4652007308841189376), Cond.methodLink RX0 161 yX0_ratioOf, Cond.instanceMethod yX0_ratioOf, Cond.selects RX0 yX0_ratioOf yX0_ratioOf, Cond.code yX0_ratioOf cX0_ratioOf 3 (some .float), Cond.methodLink RX0 157 yX0_floatScale, Cond.instanceMethod yX0_floatScale, Cond.selects RX0 yX0_floatScale yX0_floatScale, Cond.code yX0_floatScale cX0_floatScale 2 (some .float), Cond.constantFloat RX0 156 (1148846080), Cond.methodLink RX0 153 yX0_scaleOf, Cond.instanceMethod yX0_scaleOf, Cond.selects RX0 yX0_scaleOf yX0_scaleOf, Cond.code yX0_scaleOf cX0_scaleOf 2 (some .int), Cond.fieldLink RX0 24 "MapSheets$Atlas" "scales" "[I", Cond.methodLink RX4 155 yX2_stateCount, Cond.instanceMethod yX2_stateCount, Cond.selects RX2 yX2_stateCount yX2_stateCount, Cond.initialized RX2, Cond.code yX2_stateCount cX2_stateCount 1 (some .int), Cond.fieldLink RX2 21 "MapSheets$History" "size" "I"]
def wsL_isSo_r8 : List Cond := [Cond.methodLink RX4 158 yX3_characterCount, Cond.instanceMethod yX3_characterCount, Cond.selects RX3 yX3_characterCount yX3_characterCount, Cond.initialized RX3, Cond.code yX3_characterCount cX3_characterCount 1 (some .int), Cond.fieldLink RX3 15 "MapSheets$SignText" "length" "I", Cond.methodLink RX4 161 yX0_guardValue, Cond.instanceMethod yX0_guardValue, Cond.selects RX0 yX0_guardValue yX0_guardValue, Cond.code yX0_guardValue cX0_guardValue 1 (some .int), Cond.fieldLink RX0 30 "MapSheets$Atlas" "guard" "I", Cond.methodLink RX4 164 yX0_toleranceValue, Cond.instanceMethod yX0_toleranceValue, Cond.selects RX0 yX0_toleranceValue yX0_toleranceValue, Cond.code yX0_toleranceValue cX0_toleranceValue 1 (some .int), Cond.methodLink RL 89 yL_edgeAt, Cond.static yL_edgeAt, Cond.initialized RL, Cond.code yL_edgeAt cL_edgeAt 7 (some .int), Cond.methodLink RL 31 yL_edge, Cond.static yL_edge, Cond.code yL_edge cL_edge 7 (some .int), Cond.methodLink RL 23 yL_other, Cond.static yL_other]
def wsL_isSo_r9 : List Cond := [Cond.code yL_other cL_other 2 (some .int), Cond.methodLink RL 105 yX4_edgeAt, Cond.instanceMethod yX4_edgeAt, Cond.selects RX4 yX4_edgeAt yX4_edgeAt, Cond.code yX4_edgeAt cX4_edgeAt 3 (some .int), Cond.methodLink RX4 82 yX0_hasSheet, Cond.instanceMethod yX0_hasSheet, Cond.selects RX0 yX0_hasSheet yX0_hasSheet, Cond.code yX0_hasSheet cX0_hasSheet 2 (some .boolean), Cond.methodLink RX4 37 yX4_isWithin, Cond.static yX4_isWithin, Cond.code yX4_isWithin cX4_isWithin 3 (some .boolean), Cond.methodLink RX4 194 yX0_edgeOf, Cond.instanceMethod yX0_edgeOf, Cond.selects RX0 yX0_edgeOf yX0_edgeOf, Cond.code yX0_edgeOf cX0_edgeOf 7 (some .int), Cond.methodLink RX0 79 yX0_columnOf, Cond.instanceMethod yX0_columnOf, Cond.selects RX0 yX0_columnOf yX0_columnOf, Cond.code yX0_columnOf cX0_columnOf 2 (some .int), Cond.methodLink RX0 82 yX0_rowOf, Cond.instanceMethod yX0_rowOf, Cond.selects RX0 yX0_rowOf yX0_rowOf, Cond.code yX0_rowOf cX0_rowOf 2 (some .int)]
def wsL_isSo_r10 : List Cond := [Cond.methodLink RL 15 yL_digit, Cond.static yL_digit, Cond.code yL_digit cL_digit 4 (some .int), Cond.methodLink RL 9 yL_power, Cond.static yL_power, Cond.code yL_power cL_power 5 (some .long), Cond.methodLink RL 107 yX4_sign, Cond.instanceMethod yX4_sign, Cond.selects RX4 yX4_sign yX4_sign, Cond.code yX4_sign cX4_sign 5 (some .int), Cond.methodLink RX4 63 yX0_hasPlace, Cond.instanceMethod yX0_hasPlace, Cond.selects RX0 yX0_hasPlace yX0_hasPlace, Cond.code yX0_hasPlace cX0_hasPlace 4 (some .boolean), Cond.methodLink RX0 61 yX0_hasSheet, Cond.methodLink RX4 78 yX0_signAt, Cond.instanceMethod yX0_signAt, Cond.selects RX0 yX0_signAt yX0_signAt, Cond.code yX0_signAt cX0_signAt 4 (some .int), Cond.methodLink RL 110 yX4_meaning, Cond.instanceMethod yX4_meaning, Cond.selects RX4 yX4_meaning yX4_meaning, Cond.code yX4_meaning cX4_meaning 3 (some .int), Cond.methodLink RX4 66 yX4_isDigit]
def wsL_isSo_r11 : List Cond := [Cond.static yX4_isDigit, Cond.code yX4_isDigit cX4_isDigit 1 (some .boolean), Cond.methodLink RX4 88 yX0_meaningOf, Cond.instanceMethod yX0_meaningOf, Cond.selects RX0 yX0_meaningOf yX0_meaningOf, Cond.code yX0_meaningOf cX0_meaningOf 3 (some .int), Cond.methodLink RL 113 yL_block, Cond.static yL_block, Cond.code yL_block cL_block 7 (some .int), Cond.methodLink RL 116 yX4_sheet, Cond.instanceMethod yX4_sheet, Cond.selects RX4 yX4_sheet yX4_sheet, Cond.code yX4_sheet cX4_sheet 3 (some .int), Cond.methodLink RX4 91 yX0_columnOf, Cond.methodLink RX4 94 yX0_rowOf, Cond.methodLink RX4 97 yX0_edgesOf, Cond.instanceMethod yX0_edgesOf, Cond.selects RX0 yX0_edgesOf yX0_edgesOf, Cond.code yX0_edgesOf cX0_edgesOf 4 (some .int), Cond.methodLink RX0 85 yX0_edgeOf, Cond.methodLink RX4 100 yX0_agreedEdgesOf, Cond.instanceMethod yX0_agreedEdgesOf, Cond.selects RX0 yX0_agreedEdgesOf yX0_agreedEdgesOf, Cond.code yX0_agreedEdgesOf cX0_agreedEdgesOf 4 (some .int)]
def wsL_isSo_r12 : List Cond := [Cond.methodLink RX4 103 yX0_revisionOf, Cond.methodLink RX4 106 yX0_isPublished, Cond.methodLink RX4 109 yX0_publishedOf, Cond.methodLink RX4 112 yX0_isUpToDate, Cond.methodLink RX4 115 yX0_scaleOf, Cond.methodLink RX4 118 yX0_signsShownOn, Cond.instanceMethod yX0_signsShownOn, Cond.selects RX0 yX0_signsShownOn yX0_signsShownOn, Cond.code yX0_signsShownOn cX0_signsShownOn 5 (some .int), Cond.methodLink RX0 100 yX0_signAt, Cond.methodLink RX4 125 yX1_lowestOf, Cond.methodLink RL 119 yL_areEdges, Cond.static yL_areEdges, Cond.code yL_areEdges cL_areEdges 16 (some .boolean), Cond.methodLink RL 19 yL_means, Cond.static yL_means, Cond.code yL_means cL_means 6 (some .int), Cond.methodLink RL 27 yL_reason, Cond.static yL_reason, Cond.code yL_reason cL_reason 7 (some .int), Cond.methodLink RL 100 yX4_quarrel, Cond.instanceMethod yX4_quarrel, Cond.selects RX4 yX4_quarrel yX4_quarrel, Cond.code yX4_quarrel cX4_quarrel 5 (some .int)]
def wsL_isSo_r13 : List Cond := [Cond.methodLink RX4 170 yX0_hasEdge, Cond.instanceMethod yX0_hasEdge, Cond.selects RX0 yX0_hasEdge yX0_hasEdge, Cond.code yX0_hasEdge cX0_hasEdge 2 (some .boolean), Cond.methodLink RX4 197 yX0_positionOfQuarrel, Cond.instanceMethod yX0_positionOfQuarrel, Cond.selects RX0 yX0_positionOfQuarrel yX0_positionOfQuarrel, Cond.code yX0_positionOfQuarrel cX0_positionOfQuarrel 5 (some .int), Cond.methodLink RX4 200 yX0_reasonAt, Cond.methodLink RX4 173 yX0_firstSheet, Cond.methodLink RX4 179 yX0_firstSide, Cond.methodLink RX4 203 yX0_meaningAt, Cond.methodLink RX4 176 yX0_secondSheet, Cond.methodLink RX4 206 yX0_secondSide, Cond.methodLink RL 103 yX4_edge, Cond.instanceMethod yX4_edge, Cond.selects RX4 yX4_edge yX4_edge, Cond.code yX4_edge cX4_edge 3 (some .int), Cond.methodLink RX4 182 yX0_isAgreed, Cond.methodLink RX4 185 yX0_quarrelsOf, Cond.methodLink RX4 188 yX0_signsOnBothSides, Cond.instanceMethod yX0_signsOnBothSides, Cond.selects RX0 yX0_signsOnBothSides yX0_signsOnBothSides, Cond.code yX0_signsOnBothSides cX0_signsOnBothSides 6 (some .int)]
def wsL_isSo_r14 : List Cond := [Cond.methodLink RX4 191 yX0_isFitting]
def wsL_isSo : List Cond := .code yL_isSo cL_isSo 18 (some .boolean) :: ((wsL_isSo_r1 ++ (wsL_isSo_r2 ++ (wsL_isSo_r3 ++ (wsL_isSo_r4 ++ (wsL_isSo_r5 ++ (wsL_isSo_r6 ++ (wsL_isSo_r7 ++ (wsL_isSo_r8 ++ (wsL_isSo_r9 ++ (wsL_isSo_r10 ++ (wsL_isSo_r11 ++ (wsL_isSo_r12 ++ (wsL_isSo_r13 ++ wsL_isSo_r14))))))))))))) ++ wsX40 ++ wsX00 ++ wsX10 ++ wsX20 ++ wsX30)
def wsL_law_r1 : List Cond := [Cond.classLink RL 50 RX4, Cond.instantiable RX4 4, Cond.initialized RX4, Cond.arrayClass .int, Cond.arrayClass .long, Cond.methodLink RL 123 yX4_init, Cond.instanceMethod yX4_init, Cond.code yX4_init cX4_init 1 none, Cond.methodLink RX4 1 objectInit, Cond.instanceMethod objectInit, Cond.code objectInit ⟨#[0xb1]⟩ 1 none, Cond.classLink RX4 7 RX0, Cond.instantiable RX0 10, Cond.initialized RX0, Cond.fieldLink RX4 10 "MapSheets" "now" "LMapSheets$Atlas;", Cond.classLink RX4 16 RX2, Cond.instantiable RX2 3, Cond.initialized RX2, Cond.fieldLink RX4 19 "MapSheets" "history" "LMapSheets$History;", Cond.classLink RX4 23 RX1, Cond.instantiable RX1 1, Cond.initialized RX1, Cond.fieldLink RX4 26 "MapSheets" "blocks" "LMapSheets$Blocks;", Cond.classLink RX4 30 RX3]
def wsL_law_r2 : List Cond := [Cond.instantiable RX3 2, Cond.initialized RX3, Cond.fieldLink RX4 33 "MapSheets" "text" "LMapSheets$SignText;", Cond.methodLink RX4 9 yX0_init, Cond.instanceMethod yX0_init, Cond.code yX0_init cX0_init 1 none, Cond.methodLink RX0 3 objectInit, Cond.fieldLink RX0 9 "MapSheets$Atlas" "signs" "[I", Cond.fieldLink RX0 15 "MapSheets$Atlas" "meanings" "[I", Cond.fieldLink RX0 18 "MapSheets$Atlas" "revisions" "[I", Cond.fieldLink RX0 21 "MapSheets$Atlas" "published" "[I", Cond.fieldLink RX0 24 "MapSheets$Atlas" "scales" "[I", Cond.fieldLink RX0 27 "MapSheets$Atlas" "agreed" "[I", Cond.fieldLink RX0 30 "MapSheets$Atlas" "guard" "I", Cond.fieldLink RX0 34 "MapSheets$Atlas" "tolerance" "I", Cond.methodLink RX0 37 yX0_begin, Cond.instanceMethod yX0_begin, Cond.selects RX0 yX0_begin yX0_begin, Cond.code yX0_begin cX0_begin 4 none, Cond.fieldLink RX0 41 "MapSheets$Atlas" "columns" "I", Cond.fieldLink RX0 44 "MapSheets$Atlas" "rows" "I", Cond.methodLink RX0 47 yJ7_fill_53178, Cond.static yJ7_fill_53178, Cond.initialized RJ7]
def wsL_law_r3 : List Cond := [Cond.code yJ7_fill_53178 cJ7_fill_53178 4 none, Cond.methodLink RX4 18 yX2_init, Cond.instanceMethod yX2_init, Cond.code yX2_init cX2_init 2 none, Cond.methodLink RX2 3 objectInit, Cond.classLink RX2 11 RX0, Cond.fieldLink RX2 13 "MapSheets$History" "states" "[LMapSheets$Atlas;", Cond.fieldLink RX2 17 "MapSheets$History" "oldest" "I", Cond.fieldLink RX2 21 "MapSheets$History" "size" "I", Cond.methodLink RX2 24 yX0_init, Cond.instanceMethod yX1_init, Cond.code yX1_init cX1_init 1 none, Cond.methodLink RX1 3 objectInit, Cond.fieldLink RX1 9 "MapSheets$Blocks" "lowest" "[I", Cond.instanceMethod yX3_init, Cond.code yX3_init cX3_init 1 none, Cond.methodLink RX3 3 objectInit, Cond.arrayClass .char, Cond.fieldLink RX3 9 "MapSheets$SignText" "characters" "[C", Cond.fieldLink RX3 15 "MapSheets$SignText" "length" "I", Cond.methodLink RL 54 yL_begins, Cond.static yL_begins, Cond.initialized RL, Cond.code yL_begins cL_begins 7 none]
def wsL_law_r4 : List Cond := [Cond.constantLong RL 38 (9876543210), Cond.methodLink RL 9 yL_power, Cond.static yL_power, Cond.code yL_power cL_power 5 (some .long), Cond.methodLink RL 124 yL_isSo, Cond.static yL_isSo, Cond.code yL_isSo cL_isSo 18 (some .boolean), Cond.methodLink RL 83 yX4_count, Cond.instanceMethod yX4_count, Cond.selects RX4 yX4_count yX4_count, Cond.code yX4_count cX4_count 2 (some .int), Cond.methodLink RX4 128 yX0_columnCount, Cond.instanceMethod yX0_columnCount, Cond.selects RX0 yX0_columnCount yX0_columnCount, Cond.code yX0_columnCount cX0_columnCount 1 (some .int), Cond.methodLink RX4 131 yX0_rowCount, Cond.instanceMethod yX0_rowCount, Cond.selects RX0 yX0_rowCount yX0_rowCount, Cond.code yX0_rowCount cX0_rowCount 1 (some .int), Cond.methodLink RX4 134 yX0_sheetCount, Cond.instanceMethod yX0_sheetCount, Cond.selects RX0 yX0_sheetCount yX0_sheetCount, Cond.code yX0_sheetCount cX0_sheetCount 1 (some .int), Cond.methodLink RX4 52 yX0_edgeCount]
def wsL_law_r5 : List Cond := [Cond.instanceMethod yX0_edgeCount, Cond.selects RX0 yX0_edgeCount yX0_edgeCount, Cond.code yX0_edgeCount cX0_edgeCount 1 (some .int), Cond.methodLink RX0 69 yX0_rowEdgeCount, Cond.instanceMethod yX0_rowEdgeCount, Cond.selects RX0 yX0_rowEdgeCount yX0_rowEdgeCount, Cond.code yX0_rowEdgeCount cX0_rowEdgeCount 1 (some .int), Cond.methodLink RX4 137 yX0_agreedEdges, Cond.instanceMethod yX0_agreedEdges, Cond.selects RX0 yX0_agreedEdges yX0_agreedEdges, Cond.code yX0_agreedEdges cX0_agreedEdges 4 (some .int), Cond.methodLink RX0 72 yX0_edgeCount, Cond.methodLink RX0 124 yX0_isAgreed, Cond.instanceMethod yX0_isAgreed, Cond.selects RX0 yX0_isAgreed yX0_isAgreed, Cond.code yX0_isAgreed cX0_isAgreed 2 (some .boolean), Cond.static yX4_valueAt, Cond.code yX4_valueAt cX4_valueAt 3 (some .int), Cond.methodLink RX4 140 yX0_cleanEdges, Cond.instanceMethod yX0_cleanEdges, Cond.selects RX0 yX0_cleanEdges yX0_cleanEdges, Cond.code yX0_cleanEdges cX0_cleanEdges 4 (some .int), Cond.methodLink RX0 121 yX0_quarrelsOf, Cond.instanceMethod yX0_quarrelsOf]
def wsL_law_r6 : List Cond := [Cond.selects RX0 yX0_quarrelsOf yX0_quarrelsOf, Cond.code yX0_quarrelsOf cX0_quarrelsOf 4 (some .int), Cond.methodLink RX0 118 yX0_reasonAt, Cond.instanceMethod yX0_reasonAt, Cond.selects RX0 yX0_reasonAt yX0_reasonAt, Cond.code yX0_reasonAt cX0_reasonAt 5 (some .int), Cond.methodLink RX0 75 yX0_firstSheet, Cond.instanceMethod yX0_firstSheet, Cond.selects RX0 yX0_firstSheet yX0_firstSheet, Cond.code yX0_firstSheet cX0_firstSheet 4 (some .int), Cond.methodLink RX0 106 yX0_firstSide, Cond.instanceMethod yX0_firstSide, Cond.selects RX0 yX0_firstSide yX0_firstSide, Cond.code yX0_firstSide cX0_firstSide 2 (some .int), Cond.methodLink RX0 109 yX0_meaningAt, Cond.instanceMethod yX0_meaningAt, Cond.selects RX0 yX0_meaningAt yX0_meaningAt, Cond.code yX0_meaningAt cX0_meaningAt 5 (some .int), Cond.methodLink RX0 89 yX0_placeOf, Cond.static yX0_placeOf, Cond.code yX0_placeOf cX0_placeOf 3 (some .int), Cond.methodLink RX0 112 yX0_secondSheet, Cond.instanceMethod yX0_secondSheet, Cond.selects RX0 yX0_secondSheet yX0_secondSheet]
def wsL_law_r7 : List Cond := [Cond.code yX0_secondSheet cX0_secondSheet 2 (some .int), Cond.methodLink RX0 115 yX0_secondSide, Cond.instanceMethod yX0_secondSide, Cond.selects RX0 yX0_secondSide yX0_secondSide, Cond.code yX0_secondSide cX0_secondSide 2 (some .int), Cond.methodLink RX4 143 yX0_quarrelsOfAll, Cond.instanceMethod yX0_quarrelsOfAll, Cond.selects RX0 yX0_quarrelsOfAll yX0_quarrelsOfAll, Cond.code yX0_quarrelsOfAll cX0_quarrelsOfAll 4 (some .int), Cond.methodLink RX4 121 yX1_find, Cond.instanceMethod yX1_find, Cond.selects RX1 yX1_find yX1_find, Cond.code yX1_find cX1_find 7 (some .int), Cond.methodLink RX1 38 Lib.Math.min.name, Cond.static Lib.Math.min.name, Cond.initialized "java/lang/Math", Cond.code Lib.Math.min.name Lib.Math.min.code 2 (some .int), Cond.methodLink RX1 44 Lib.Math.max.name, Cond.static Lib.Math.max.name, Cond.code Lib.Math.max.name Lib.Math.max.code 2 (some .int), Cond.methodLink RX1 15 yX0_edgeCount, Cond.methodLink RX1 21 yX0_sheetCount, Cond.methodLink RX1 24 yX0_isAgreed, Cond.methodLink RX1 28 yX0_firstSheet]
def wsL_law_r8 : List Cond := [Cond.methodLink RX1 32 yX1_lowestOf, Cond.instanceMethod yX1_lowestOf, Cond.selects RX1 yX1_lowestOf yX1_lowestOf, Cond.code yX1_lowestOf cX1_lowestOf 2 (some .int), Cond.methodLink RX1 35 yX0_secondSheet, Cond.methodLink RX1 47 yX1_join, Cond.instanceMethod yX1_join, Cond.selects RX1 yX1_join yX1_join, Cond.code yX1_join cX1_join 4 none, Cond.methodLink RX4 146 yX0_publishedSheets, Cond.instanceMethod yX0_publishedSheets, Cond.selects RX0 yX0_publishedSheets yX0_publishedSheets, Cond.code yX0_publishedSheets cX0_publishedSheets 4 (some .int), Cond.methodLink RX0 57 yX0_sheetCount, Cond.methodLink RX0 147 yX0_isPublished, Cond.instanceMethod yX0_isPublished, Cond.selects RX0 yX0_isPublished yX0_isPublished, Cond.code yX0_isPublished cX0_isPublished 2 (some .boolean), Cond.methodLink RX0 144 yX0_publishedOf, Cond.instanceMethod yX0_publishedOf, Cond.selects RX0 yX0_publishedOf yX0_publishedOf, Cond.code yX0_publishedOf cX0_publishedOf 2 (some .int), Cond.methodLink RX4 149 yX0_sheetsUpToDate, Cond.instanceMethod yX0_sheetsUpToDate]
def wsL_law_r9 : List Cond := [Cond.selects RX0 yX0_sheetsUpToDate yX0_sheetsUpToDate, Cond.code yX0_sheetsUpToDate cX0_sheetsUpToDate 4 (some .int), Cond.methodLink RX0 150 yX0_isUpToDate, Cond.instanceMethod yX0_isUpToDate, Cond.selects RX0 yX0_isUpToDate yX0_isUpToDate, Cond.code yX0_isUpToDate cX0_isUpToDate 2 (some .boolean), Cond.methodLink RX0 141 yX0_revisionOf, Cond.instanceMethod yX0_revisionOf, Cond.selects RX0 yX0_revisionOf yX0_revisionOf, Cond.code yX0_revisionOf cX0_revisionOf 2 (some .int), Cond.methodLink RX4 152 yX0_fittingEdges, Cond.instanceMethod yX0_fittingEdges, Cond.selects RX0 yX0_fittingEdges yX0_fittingEdges, Cond.code yX0_fittingEdges cX0_fittingEdges 4 (some .int), Cond.methodLink RX0 166 yX0_isFitting, Cond.instanceMethod yX0_isFitting, Cond.selects RX0 yX0_isFitting yX0_isFitting, Cond.code yX0_isFitting cX0_isFitting 6 (some .boolean), Cond.constantDouble RX0 164 (4652007308841189376), Cond.methodLink RX0 161 yX0_ratioOf, Cond.instanceMethod yX0_ratioOf, Cond.selects RX0 yX0_ratioOf yX0_ratioOf, Cond.code yX0_ratioOf cX0_ratioOf 3 (some .float), Cond.methodLink RX0 157 yX0_floatScale]
def wsL_law_r10 : List Cond := [Cond.instanceMethod yX0_floatScale, Cond.selects RX0 yX0_floatScale yX0_floatScale, Cond.code yX0_floatScale cX0_floatScale 2 (some .float), Cond.constantFloat RX0 156 (1148846080), Cond.methodLink RX0 153 yX0_scaleOf, Cond.instanceMethod yX0_scaleOf, Cond.selects RX0 yX0_scaleOf yX0_scaleOf, Cond.code yX0_scaleOf cX0_scaleOf 2 (some .int), Cond.methodLink RX4 155 yX2_stateCount, Cond.instanceMethod yX2_stateCount, Cond.selects RX2 yX2_stateCount yX2_stateCount, Cond.code yX2_stateCount cX2_stateCount 1 (some .int), Cond.methodLink RX4 158 yX3_characterCount, Cond.instanceMethod yX3_characterCount, Cond.selects RX3 yX3_characterCount yX3_characterCount, Cond.code yX3_characterCount cX3_characterCount 1 (some .int), Cond.methodLink RX4 161 yX0_guardValue, Cond.instanceMethod yX0_guardValue, Cond.selects RX0 yX0_guardValue yX0_guardValue, Cond.code yX0_guardValue cX0_guardValue 1 (some .int), Cond.methodLink RX4 164 yX0_toleranceValue, Cond.instanceMethod yX0_toleranceValue, Cond.selects RX0 yX0_toleranceValue yX0_toleranceValue, Cond.code yX0_toleranceValue cX0_toleranceValue 1 (some .int)]
def wsL_law_r11 : List Cond := [Cond.methodLink RL 89 yL_edgeAt, Cond.static yL_edgeAt, Cond.code yL_edgeAt cL_edgeAt 7 (some .int), Cond.methodLink RL 31 yL_edge, Cond.static yL_edge, Cond.code yL_edge cL_edge 7 (some .int), Cond.methodLink RL 23 yL_other, Cond.static yL_other, Cond.code yL_other cL_other 2 (some .int), Cond.methodLink RL 105 yX4_edgeAt, Cond.instanceMethod yX4_edgeAt, Cond.selects RX4 yX4_edgeAt yX4_edgeAt, Cond.code yX4_edgeAt cX4_edgeAt 3 (some .int), Cond.methodLink RX4 82 yX0_hasSheet, Cond.instanceMethod yX0_hasSheet, Cond.selects RX0 yX0_hasSheet yX0_hasSheet, Cond.code yX0_hasSheet cX0_hasSheet 2 (some .boolean), Cond.methodLink RX4 37 yX4_isWithin, Cond.static yX4_isWithin, Cond.code yX4_isWithin cX4_isWithin 3 (some .boolean), Cond.methodLink RX4 194 yX0_edgeOf, Cond.instanceMethod yX0_edgeOf, Cond.selects RX0 yX0_edgeOf yX0_edgeOf, Cond.code yX0_edgeOf cX0_edgeOf 7 (some .int)]
def wsL_law_r12 : List Cond := [Cond.methodLink RX0 79 yX0_columnOf, Cond.instanceMethod yX0_columnOf, Cond.selects RX0 yX0_columnOf yX0_columnOf, Cond.code yX0_columnOf cX0_columnOf 2 (some .int), Cond.methodLink RX0 82 yX0_rowOf, Cond.instanceMethod yX0_rowOf, Cond.selects RX0 yX0_rowOf yX0_rowOf, Cond.code yX0_rowOf cX0_rowOf 2 (some .int), Cond.methodLink RL 15 yL_digit, Cond.static yL_digit, Cond.code yL_digit cL_digit 4 (some .int), Cond.methodLink RL 107 yX4_sign, Cond.instanceMethod yX4_sign, Cond.selects RX4 yX4_sign yX4_sign, Cond.code yX4_sign cX4_sign 5 (some .int), Cond.methodLink RX4 63 yX0_hasPlace, Cond.instanceMethod yX0_hasPlace, Cond.selects RX0 yX0_hasPlace yX0_hasPlace, Cond.code yX0_hasPlace cX0_hasPlace 4 (some .boolean), Cond.methodLink RX0 61 yX0_hasSheet, Cond.methodLink RX4 78 yX0_signAt, Cond.instanceMethod yX0_signAt, Cond.selects RX0 yX0_signAt yX0_signAt, Cond.code yX0_signAt cX0_signAt 4 (some .int)]
def wsL_law_r13 : List Cond := [Cond.methodLink RL 110 yX4_meaning, Cond.instanceMethod yX4_meaning, Cond.selects RX4 yX4_meaning yX4_meaning, Cond.code yX4_meaning cX4_meaning 3 (some .int), Cond.methodLink RX4 66 yX4_isDigit, Cond.static yX4_isDigit, Cond.code yX4_isDigit cX4_isDigit 1 (some .boolean), Cond.methodLink RX4 88 yX0_meaningOf, Cond.instanceMethod yX0_meaningOf, Cond.selects RX0 yX0_meaningOf yX0_meaningOf, Cond.code yX0_meaningOf cX0_meaningOf 3 (some .int), Cond.methodLink RL 113 yL_block, Cond.static yL_block, Cond.code yL_block cL_block 7 (some .int), Cond.methodLink RL 116 yX4_sheet, Cond.instanceMethod yX4_sheet, Cond.selects RX4 yX4_sheet yX4_sheet, Cond.code yX4_sheet cX4_sheet 3 (some .int), Cond.methodLink RX4 91 yX0_columnOf, Cond.methodLink RX4 94 yX0_rowOf, Cond.methodLink RX4 97 yX0_edgesOf, Cond.instanceMethod yX0_edgesOf, Cond.selects RX0 yX0_edgesOf yX0_edgesOf, Cond.code yX0_edgesOf cX0_edgesOf 4 (some .int)]
def wsL_law_r14 : List Cond := [Cond.methodLink RX0 85 yX0_edgeOf, Cond.methodLink RX4 100 yX0_agreedEdgesOf, Cond.instanceMethod yX0_agreedEdgesOf, Cond.selects RX0 yX0_agreedEdgesOf yX0_agreedEdgesOf, Cond.code yX0_agreedEdgesOf cX0_agreedEdgesOf 4 (some .int), Cond.methodLink RX4 103 yX0_revisionOf, Cond.methodLink RX4 106 yX0_isPublished, Cond.methodLink RX4 109 yX0_publishedOf, Cond.methodLink RX4 112 yX0_isUpToDate, Cond.methodLink RX4 115 yX0_scaleOf, Cond.methodLink RX4 118 yX0_signsShownOn, Cond.instanceMethod yX0_signsShownOn, Cond.selects RX0 yX0_signsShownOn yX0_signsShownOn, Cond.code yX0_signsShownOn cX0_signsShownOn 5 (some .int), Cond.methodLink RX0 100 yX0_signAt, Cond.methodLink RX4 125 yX1_lowestOf, Cond.methodLink RL 119 yL_areEdges, Cond.static yL_areEdges, Cond.code yL_areEdges cL_areEdges 16 (some .boolean), Cond.methodLink RL 19 yL_means, Cond.static yL_means, Cond.code yL_means cL_means 6 (some .int), Cond.methodLink RL 27 yL_reason, Cond.static yL_reason]
def wsL_law_r15 : List Cond := [Cond.code yL_reason cL_reason 7 (some .int), Cond.methodLink RL 100 yX4_quarrel, Cond.instanceMethod yX4_quarrel, Cond.selects RX4 yX4_quarrel yX4_quarrel, Cond.code yX4_quarrel cX4_quarrel 5 (some .int), Cond.methodLink RX4 170 yX0_hasEdge, Cond.instanceMethod yX0_hasEdge, Cond.selects RX0 yX0_hasEdge yX0_hasEdge, Cond.code yX0_hasEdge cX0_hasEdge 2 (some .boolean), Cond.methodLink RX4 197 yX0_positionOfQuarrel, Cond.instanceMethod yX0_positionOfQuarrel, Cond.selects RX0 yX0_positionOfQuarrel yX0_positionOfQuarrel, Cond.code yX0_positionOfQuarrel cX0_positionOfQuarrel 5 (some .int), Cond.methodLink RX4 200 yX0_reasonAt, Cond.methodLink RX4 173 yX0_firstSheet, Cond.methodLink RX4 179 yX0_firstSide, Cond.methodLink RX4 203 yX0_meaningAt, Cond.methodLink RX4 176 yX0_secondSheet, Cond.methodLink RX4 206 yX0_secondSide, Cond.methodLink RL 103 yX4_edge, Cond.instanceMethod yX4_edge, Cond.selects RX4 yX4_edge yX4_edge, Cond.code yX4_edge cX4_edge 3 (some .int), Cond.methodLink RX4 182 yX0_isAgreed]
def wsL_law_r16 : List Cond := [Cond.methodLink RX4 185 yX0_quarrelsOf, Cond.methodLink RX4 188 yX0_signsOnBothSides, Cond.instanceMethod yX0_signsOnBothSides, Cond.selects RX0 yX0_signsOnBothSides yX0_signsOnBothSides, Cond.code yX0_signsOnBothSides cX0_signsOnBothSides 6 (some .int), Cond.methodLink RX4 191 yX0_isFitting, Cond.methodLink RL 128 yL_cell, Cond.static yL_cell, Cond.code yL_cell cL_cell 2 (some .int), Cond.constant RL 7 (40503), Cond.methodLink RL 45 yL_low, Cond.static yL_low, Cond.code yL_low cL_low 2 (some .int), Cond.constant RL 8 (2147483647), Cond.methodLink RL 131 yL_acts, Cond.static yL_acts, Cond.code yL_acts cL_acts 43 (some .boolean), Cond.constant RL 44 (10000000), Cond.constant RL 96 (1000000), Cond.methodLink RL 49 yX4_grid, Cond.instanceMethod yX4_grid, Cond.selects RX4 yX4_grid yX4_grid, Cond.code yX4_grid cX4_grid 3 (some .int), Cond.methodLink RX4 41 yX2_recordState]
def wsL_law_r17 : List Cond := [Cond.instanceMethod yX2_recordState, Cond.selects RX2 yX2_recordState yX2_recordState, Cond.code yX2_recordState cX2_recordState 3 none, Cond.methodLink RX2 25 yX2_stateAt, Cond.instanceMethod yX2_stateAt, Cond.selects RX2 yX2_stateAt yX2_stateAt, Cond.code yX2_stateAt cX2_stateAt 3 (some (.object "MapSheets$Atlas")), Cond.methodLink RX2 29 yX0_copyFrom, Cond.instanceMethod yX0_copyFrom, Cond.selects RX0 yX0_copyFrom yX0_copyFrom, Cond.code yX0_copyFrom cX0_copyFrom 2 none, Cond.static yX4_copyRow, Cond.code yX4_copyRow cX4_copyRow 2 none, Cond.methodLink RX4 261 arraycopyName, Cond.native arraycopyName, Cond.static arraycopyName, Cond.initialized "java/lang/System", Cond.methodLink RX4 45 yX0_begin, Cond.methodLink RX4 49 yX2_keepRecord, Cond.instanceMethod yX2_keepRecord, Cond.selects RX2 yX2_keepRecord yX2_keepRecord, Cond.code yX2_keepRecord cX2_keepRecord 1 none, Cond.methodLink RL 58 yX4_set, Cond.instanceMethod yX4_set]
def wsL_law_r18 : List Cond := [Cond.selects RX4 yX4_set yX4_set, Cond.code yX4_set cX4_set 4 (some .int), Cond.methodLink RX4 56 yX0_putGuard, Cond.instanceMethod yX0_putGuard, Cond.selects RX0 yX0_putGuard yX0_putGuard, Cond.code yX0_putGuard cX0_putGuard 3 (some .int), Cond.methodLink RX4 60 yX0_putTolerance, Cond.instanceMethod yX0_putTolerance, Cond.selects RX0 yX0_putTolerance yX0_putTolerance, Cond.code yX0_putTolerance cX0_putTolerance 3 (some .int), Cond.methodLink RL 61 yX4_show, Cond.instanceMethod yX4_show, Cond.selects RX4 yX4_show yX4_show, Cond.code yX4_show cX4_show 6 (some .int), Cond.methodLink RX4 70 yX0_putSign, Cond.instanceMethod yX0_putSign, Cond.selects RX0 yX0_putSign yX0_putSign, Cond.code yX0_putSign cX0_putSign 5 (some .int), Cond.static yX4_exchange, Cond.code yX4_exchange cX4_exchange 4 (some .int), Cond.methodLink RX4 74 yX4_endRevision, Cond.instanceMethod yX4_endRevision, Cond.selects RX4 yX4_endRevision yX4_endRevision, Cond.code yX4_endRevision cX4_endRevision 3 (some .int)]
def wsL_law_r19 : List Cond := [Cond.methodLink RX4 252 yX0_breaksAgreement, Cond.instanceMethod yX0_breaksAgreement, Cond.selects RX0 yX0_breaksAgreement yX0_breaksAgreement, Cond.code yX0_breaksAgreement cX0_breaksAgreement 4 (some .boolean), Cond.methodLink RX4 215 yX2_returnToRecord, Cond.instanceMethod yX2_returnToRecord, Cond.selects RX2 yX2_returnToRecord yX2_returnToRecord, Cond.code yX2_returnToRecord cX2_returnToRecord 3 none, Cond.methodLink RX4 255 yX0_dropBrokenAgreements, Cond.instanceMethod yX0_dropBrokenAgreements, Cond.selects RX0 yX0_dropBrokenAgreements yX0_dropBrokenAgreements, Cond.code yX0_dropBrokenAgreements cX0_dropBrokenAgreements 4 none, Cond.methodLink RX0 127 yX0_putAgreed, Cond.instanceMethod yX0_putAgreed, Cond.selects RX0 yX0_putAgreed yX0_putAgreed, Cond.code yX0_putAgreed cX0_putAgreed 3 (some .int), Cond.methodLink RX4 258 yX0_addRevision, Cond.instanceMethod yX0_addRevision, Cond.selects RX0 yX0_addRevision yX0_addRevision, Cond.code yX0_addRevision cX0_addRevision 2 none, Cond.methodLink RL 65 yL_keeps, Cond.static yL_keeps, Cond.code yL_keeps cL_keeps 10 (some .boolean), Cond.methodLink RL 40 yL_torn]
def wsL_law_r20 : List Cond := [Cond.static yL_torn, Cond.code yL_torn cL_torn 5 (some .int), Cond.methodLink RL 34 yL_quarrels, Cond.static yL_quarrels, Cond.code yL_quarrels cL_quarrels 6 (some .int), Cond.methodLink RL 69 yX4_erase, Cond.instanceMethod yX4_erase, Cond.selects RX4 yX4_erase yX4_erase, Cond.code yX4_erase cX4_erase 5 (some .int), Cond.methodLink RL 73 yX4_mean, Cond.instanceMethod yX4_mean, Cond.selects RX4 yX4_mean yX4_mean, Cond.code yX4_mean cX4_mean 5 (some .int), Cond.methodLink RX4 85 yX0_putMeaning, Cond.instanceMethod yX0_putMeaning, Cond.selects RX0 yX0_putMeaning yX0_putMeaning, Cond.code yX0_putMeaning cX0_putMeaning 4 (some .int), Cond.methodLink RL 76 yX4_agree, Cond.instanceMethod yX4_agree, Cond.selects RX4 yX4_agree yX4_agree, Cond.code yX4_agree cX4_agree 3 (some .int), Cond.methodLink RX4 209 yX0_putAgreed, Cond.methodLink RL 80 yX4_release, Cond.instanceMethod yX4_release]
def wsL_law_r21 : List Cond := [Cond.selects RX4 yX4_release yX4_release, Cond.code yX4_release cX4_release 2 (some .int), Cond.methodLink RL 86 yX4_settle, Cond.instanceMethod yX4_settle, Cond.selects RX4 yX4_settle yX4_settle, Cond.code yX4_settle cX4_settle 4 (some .int), Cond.methodLink RX4 212 yX0_settleFrom, Cond.instanceMethod yX0_settleFrom, Cond.selects RX0 yX0_settleFrom yX0_settleFrom, Cond.code yX0_settleFrom cX0_settleFrom 11 (some .int), Cond.methodLink RX0 130 yX0_lowestSign, Cond.instanceMethod yX0_lowestSign, Cond.selects RX0 yX0_lowestSign yX0_lowestSign, Cond.code yX0_lowestSign cX0_lowestSign 4 (some .int), Cond.methodLink RX0 103 yX0_meaningOf, Cond.methodLink RX0 133 yX0_putSign, Cond.methodLink RX0 137 yX0_addRevision, Cond.methodLink RL 93 yX4_publish, Cond.instanceMethod yX4_publish, Cond.selects RX4 yX4_publish yX4_publish, Cond.code yX4_publish cX4_publish 2 (some .int), Cond.methodLink RX4 226 yX0_publishRevision, Cond.instanceMethod yX0_publishRevision, Cond.selects RX0 yX0_publishRevision yX0_publishRevision]
def wsL_law_r22 : List Cond := [Cond.code yX0_publishRevision cX0_publishRevision 2 none, Cond.methodLink RL 97 yX4_scale, Cond.instanceMethod yX4_scale, Cond.selects RX4 yX4_scale yX4_scale, Cond.code yX4_scale cX4_scale 4 (some .int), Cond.constant RX4 230 (1000000), Cond.methodLink RX4 231 yX0_putScale, Cond.instanceMethod yX0_putScale, Cond.selects RX0 yX0_putScale yX0_putScale, Cond.code yX0_putScale cX0_putScale 3 (some .int)]
def wsL_law : List Cond := (wsL_law_r1 ++ (wsL_law_r2 ++ (wsL_law_r3 ++ (wsL_law_r4 ++ (wsL_law_r5 ++ (wsL_law_r6 ++ (wsL_law_r7 ++ (wsL_law_r8 ++ (wsL_law_r9 ++ (wsL_law_r10 ++ (wsL_law_r11 ++ (wsL_law_r12 ++ (wsL_law_r13 ++ (wsL_law_r14 ++ (wsL_law_r15 ++ (wsL_law_r16 ++ (wsL_law_r17 ++ (wsL_law_r18 ++ (wsL_law_r19 ++ (wsL_law_r20 ++ (wsL_law_r21 ++ wsL_law_r22))))))))))))))))))))) ++ wsX40 ++ wsX00 ++ wsX20 ++ wsX10 ++ wsX30 ++ ([] : List Cond)
abbrev vwCl : List vw_C := [(RX0, TX0, 10), (RX1, TX1, 1), (RX2, TX2, 3), (RX3, TX3, 2), (RX4, TX4, 4)]
end
section
theorem zin_r {big ws : List Cond} (ps : List Nat) (hp : ws = ps.filterMap (fun i => big[i]?)) : ∀ w ∈ ws, w ∈ big := by
  intro w hw
  rw [hp] at hw
  obtain ⟨i, -, hi⟩ := List.mem_filterMap.mp hw
  first | exact List.mem_of_getElem? hi | exact List.getElem?_mem hi
theorem zin_app {big a b : List Cond} (ha : ∀ w ∈ a, w ∈ big) (hb : ∀ w ∈ b, w ∈ big) : ∀ w ∈ a ++ b, w ∈ big := fun w h => (List.mem_append.mp h).elim (ha w) (hb w)
set_option maxRecDepth 20000 in
theorem wsL_law_r1_in : ∀ w ∈ wsL_law_r1, w ∈ lw_tbl := zin_r [12, 13, 4, 64, 569, 14, 15, 16, 17, 18, 19, 20, 21, 5, 108, 65, 66, 7, 109, 84, 85, 8, 110, 94] (by decide +kernel)
set_option maxRecDepth 20000 in
theorem wsL_law_r2_in : ∀ w ∈ wsL_law_r2, w ∈ lw_tbl := zin_r [95, 9, 111, 22, 23, 24, 25, 33, 34, 35, 36, 37, 38, 41, 42, 26, 27, 28, 29, 39, 40, 30, 31, 6] (by decide +kernel)
set_option maxRecDepth 20000 in
theorem wsL_law_r3_in : ∀ w ∈ wsL_law_r3, w ∈ lw_tbl := zin_r [32, 67, 68, 69, 70, 71, 74, 75, 76, 73, 87, 88, 89, 90, 97, 98, 99, 107, 100, 101, 309, 310, 3, 311] (by decide +kernel)
set_option maxRecDepth 20000 in
theorem wsL_law_r4_in : ∀ w ∈ wsL_law_r4, w ∈ lw_tbl := zin_r [315, 312, 313, 314, 514, 515, 516, 146, 147, 148, 149, 150, 151, 152, 153, 154, 155, 156, 157, 158, 130, 131, 132, 159] (by rfl)
set_option maxRecDepth 20000 in
theorem wsL_law_r5_in : ∀ w ∈ wsL_law_r5, w ∈ lw_tbl := zin_r [160, 161, 162, 163, 164, 165, 166, 167, 168, 169, 170, 171, 172, 173, 174, 175, 144, 145, 176, 177, 178, 179, 180, 181] (by decide +kernel)
set_option maxRecDepth 20000 in
theorem wsL_law_r6_in : ∀ w ∈ wsL_law_r6, w ∈ lw_tbl := zin_r [182, 183, 184, 185, 186, 187, 188, 189, 190, 191, 192, 193, 194, 195, 196, 197, 198, 199, 200, 201, 202, 203, 204, 205] (by decide +kernel)
set_option maxRecDepth 20000 in
theorem wsL_law_r7_in : ∀ w ∈ wsL_law_r7, w ∈ lw_tbl := zin_r [206, 207, 208, 209, 210, 211, 212, 213, 214, 215, 216, 217, 218, 229, 230, 10, 231, 232, 233, 234, 219, 220, 221, 222] (by decide +kernel)
set_option maxRecDepth 20000 in
theorem wsL_law_r8_in : ∀ w ∈ wsL_law_r8, w ∈ lw_tbl := zin_r [223, 224, 225, 226, 228, 235, 237, 0, 238, 239, 240, 241, 242, 129, 243, 244, 245, 246, 247, 248, 249, 250, 251, 252] (by decide +kernel)
set_option maxRecDepth 20000 in
theorem wsL_law_r9_in : ∀ w ∈ wsL_law_r9, w ∈ lw_tbl := zin_r [253, 254, 255, 256, 257, 258, 259, 260, 261, 262, 263, 264, 265, 266, 267, 268, 269, 270, 284, 271, 272, 273, 274, 275] (by decide +kernel)
set_option maxRecDepth 20000 in
theorem wsL_law_r10_in : ∀ w ∈ wsL_law_r10, w ∈ lw_tbl := zin_r [276, 277, 278, 283, 279, 280, 281, 282, 285, 286, 287, 288, 289, 290, 291, 292, 293, 294, 295, 296, 297, 298, 299, 300] (by decide +kernel)
set_option maxRecDepth 20000 in
theorem wsL_law_r11_in : ∀ w ∈ wsL_law_r11, w ∈ lw_tbl := zin_r [484, 485, 486, 320, 321, 322, 433, 434, 435, 517, 518, 519, 520, 125, 126, 127, 128, 136, 137, 138, 521, 391, 392, 393] (by decide +kernel)
set_option maxRecDepth 20000 in
theorem wsL_law_r12_in : ∀ w ∈ wsL_law_r12, w ∈ lw_tbl := zin_r [394, 395, 396, 397, 398, 399, 400, 401, 362, 363, 364, 522, 523, 524, 525, 369, 370, 371, 372, 373, 440, 441, 442, 443] (by decide +kernel)
set_option maxRecDepth 20000 in
theorem wsL_law_r13_in : ∀ w ∈ wsL_law_r13, w ∈ lw_tbl := zin_r [121, 122, 123, 124, 133, 134, 135, 139, 140, 141, 142, 526, 527, 528, 529, 530, 531, 532, 533, 534, 495, 496, 497, 498] (by decide +kernel)
set_option maxRecDepth 20000 in
theorem wsL_law_r14_in : ∀ w ∈ wsL_law_r14, w ∈ lw_tbl := zin_r [390, 491, 492, 493, 494, 503, 535, 536, 537, 538, 539, 540, 541, 542, 543, 544, 545, 546, 547, 430, 431, 432, 427, 428] (by decide +kernel)
set_option maxRecDepth 20000 in
theorem wsL_law_r15_in : ∀ w ∈ wsL_law_r15, w ∈ lw_tbl := zin_r [429, 548, 549, 550, 551, 456, 457, 458, 459, 552, 553, 554, 555, 556, 471, 557, 558, 472, 559, 560, 561, 562, 563, 466] (by decide +kernel)
set_option maxRecDepth 20000 in
theorem wsL_law_r16_in : ∀ w ∈ wsL_law_r16, w ∈ lw_tbl := zin_r [460, 564, 565, 566, 567, 568, 301, 302, 303, 304, 305, 306, 307, 308, 316, 317, 318, 319, 504, 323, 324, 325, 326, 327] (by rfl)
set_option maxRecDepth 20000 in
theorem wsL_law_r17_in : ∀ w ∈ wsL_law_r17, w ∈ lw_tbl := zin_r [328, 329, 330, 331, 333, 1, 334, 335, 336, 337, 338, 340, 341, 342, 344, 343, 11, 345, 346, 347, 348, 349, 350, 351] (by decide +kernel)
set_option maxRecDepth 20000 in
theorem wsL_law_r18_in : ∀ w ∈ wsL_law_r18, w ∈ lw_tbl := zin_r [352, 353, 354, 355, 356, 357, 358, 359, 360, 361, 365, 366, 367, 368, 375, 376, 377, 378, 380, 381, 382, 384, 2, 385] (by decide +kernel)
set_option maxRecDepth 20000 in
theorem wsL_law_r19_in : ∀ w ∈ wsL_law_r19, w ∈ lw_tbl := zin_r [386, 387, 388, 389, 402, 403, 404, 405, 406, 407, 408, 409, 410, 411, 412, 413, 414, 415, 416, 417, 418, 419, 420, 421] (by decide +kernel)
set_option maxRecDepth 20000 in
theorem wsL_law_r20_in : ∀ w ∈ wsL_law_r20, w ∈ lw_tbl := zin_r [422, 423, 424, 425, 426, 436, 437, 438, 439, 444, 445, 446, 447, 448, 449, 450, 451, 452, 453, 454, 455, 461, 462, 463] (by decide +kernel)
set_option maxRecDepth 20000 in
theorem wsL_law_r21_in : ∀ w ∈ wsL_law_r21, w ∈ lw_tbl := zin_r [464, 465, 467, 468, 469, 470, 473, 474, 475, 476, 477, 478, 479, 480, 481, 482, 483, 487, 488, 489, 490, 499, 500, 501] (by decide +kernel)
set_option maxRecDepth 20000 in
theorem wsL_law_r22_in : ∀ w ∈ wsL_law_r22, w ∈ lw_tbl := zin_r [502, 505, 506, 507, 508, 509, 510, 511, 512, 513] (by decide +kernel)
set_option maxRecDepth 20000 in
theorem zin_X0 : ∀ w ∈ wsX00, w ∈ lw_tbl := zin_r [43, 45, 47, 49, 51, 53, 55, 57, 59, 61] (by decide +kernel)
set_option maxRecDepth 20000 in
theorem zin_X1 : ∀ w ∈ wsX10, w ∈ lw_tbl := zin_r [91] (by decide +kernel)
set_option maxRecDepth 20000 in
theorem zin_X2 : ∀ w ∈ wsX20, w ∈ lw_tbl := zin_r [77, 79, 81] (by decide +kernel)
set_option maxRecDepth 20000 in
theorem zin_X3 : ∀ w ∈ wsX30, w ∈ lw_tbl := zin_r [102, 104] (by decide +kernel)
set_option maxRecDepth 20000 in
theorem zin_X4 : ∀ w ∈ wsX40, w ∈ lw_tbl := zin_r [112, 114, 116, 118] (by decide +kernel)
theorem wsL_law_in : ∀ w ∈ wsL_law, w ∈ lw_tbl := (zin_app (zin_app (zin_app (zin_app (zin_app (zin_app (zin_app wsL_law_r1_in (zin_app wsL_law_r2_in (zin_app wsL_law_r3_in (zin_app wsL_law_r4_in (zin_app wsL_law_r5_in (zin_app wsL_law_r6_in (zin_app wsL_law_r7_in (zin_app wsL_law_r8_in (zin_app wsL_law_r9_in (zin_app wsL_law_r10_in (zin_app wsL_law_r11_in (zin_app wsL_law_r12_in (zin_app wsL_law_r13_in (zin_app wsL_law_r14_in (zin_app wsL_law_r15_in (zin_app wsL_law_r16_in (zin_app wsL_law_r17_in (zin_app wsL_law_r18_in (zin_app wsL_law_r19_in (zin_app wsL_law_r20_in (zin_app wsL_law_r21_in wsL_law_r22_in))))))))))))))))))))) zin_X4) zin_X0) zin_X2) zin_X1) zin_X3) (fun _ h => absurd h List.not_mem_nil))
end
section
theorem inlX0 : ∀ w ∈ wsX00, w ∈ wsL_law := fun _ h => List.mem_append_left _ (List.mem_append_left _ (List.mem_append_left _ (List.mem_append_left _ (List.mem_append_right _ h))))
theorem inX0 : ∀ w ∈ wsX00, w ∈ lw_tbl := fun w h => wsL_law_in w (inlX0 w h)
set_option maxRecDepth 20000 in
theorem ggX0_init_X0_begin : GoodIn wsX0_init wsX0_begin := goodIn_r _ [17, 18, 19, 5, 6, 7, 8, 9, 10, 20, 21, 22, 23, 24, 25, 26, 27, 28, 29, 30, 31, 32, 33] (by decide +kernel) (by decide +kernel)
set_option maxRecDepth 20000 in
theorem gX0_init_X0_begin : GoodIn wsX0_init (wsV RX0 37 RX0 yX0_begin wsX0_begin) := goodIn_app (goodIn_of _ (by decide +kernel)) ggX0_init_X0_begin
theorem dX0_init_0 : decode cX0_init 0 = .ok (.aload_n 0, 1) := by decide +kernel
theorem dX0_init_1 : decode cX0_init 1 = .ok (.invokespecial 3, 3) := by decide +kernel
theorem dX0_init_4 : decode cX0_init 4 = .ok (.aload_n 0, 1) := by decide +kernel
theorem dX0_init_5 : decode cX0_init 5 = .ok (.sipush 1440, 3) := by decide +kernel
theorem dX0_init_8 : decode cX0_init 8 = .ok (.newarray .int, 2) := by decide +kernel
theorem dX0_init_10 : decode cX0_init 10 = .ok (.putfield 9, 3) := by decide +kernel
theorem dX0_init_13 : decode cX0_init 13 = .ok (.aload_n 0, 1) := by decide +kernel
theorem dX0_init_14 : decode cX0_init 14 = .ok (.sipush 360, 3) := by decide +kernel
theorem dX0_init_17 : decode cX0_init 17 = .ok (.newarray .int, 2) := by decide +kernel
theorem dX0_init_19 : decode cX0_init 19 = .ok (.putfield 15, 3) := by decide +kernel
theorem dX0_init_22 : decode cX0_init 22 = .ok (.aload_n 0, 1) := by decide +kernel
theorem dX0_init_23 : decode cX0_init 23 = .ok (.bipush 36, 2) := by decide +kernel
theorem dX0_init_25 : decode cX0_init 25 = .ok (.newarray .int, 2) := by decide +kernel
theorem dX0_init_27 : decode cX0_init 27 = .ok (.putfield 18, 3) := by decide +kernel
theorem dX0_init_30 : decode cX0_init 30 = .ok (.aload_n 0, 1) := by decide +kernel
theorem dX0_init_31 : decode cX0_init 31 = .ok (.bipush 36, 2) := by decide +kernel
theorem dX0_init_33 : decode cX0_init 33 = .ok (.newarray .int, 2) := by decide +kernel
theorem dX0_init_35 : decode cX0_init 35 = .ok (.putfield 21, 3) := by decide +kernel
theorem dX0_init_38 : decode cX0_init 38 = .ok (.aload_n 0, 1) := by decide +kernel
theorem dX0_init_39 : decode cX0_init 39 = .ok (.bipush 36, 2) := by decide +kernel
theorem dX0_init_41 : decode cX0_init 41 = .ok (.newarray .int, 2) := by decide +kernel
theorem dX0_init_43 : decode cX0_init 43 = .ok (.putfield 24, 3) := by decide +kernel
theorem dX0_init_46 : decode cX0_init 46 = .ok (.aload_n 0, 1) := by decide +kernel
theorem dX0_init_47 : decode cX0_init 47 = .ok (.bipush 60, 2) := by decide +kernel
theorem dX0_init_49 : decode cX0_init 49 = .ok (.newarray .int, 2) := by decide +kernel
theorem dX0_init_51 : decode cX0_init 51 = .ok (.putfield 27, 3) := by decide +kernel
theorem dX0_init_54 : decode cX0_init 54 = .ok (.aload_n 0, 1) := by decide +kernel
theorem dX0_init_55 : decode cX0_init 55 = .ok (.iconst 1, 1) := by decide +kernel
theorem dX0_init_56 : decode cX0_init 56 = .ok (.putfield 30, 3) := by decide +kernel
theorem dX0_init_59 : decode cX0_init 59 = .ok (.aload_n 0, 1) := by decide +kernel
theorem dX0_init_60 : decode cX0_init 60 = .ok (.bipush 20, 2) := by decide +kernel
theorem dX0_init_62 : decode cX0_init 62 = .ok (.putfield 34, 3) := by decide +kernel
theorem dX0_init_65 : decode cX0_init 65 = .ok (.aload_n 0, 1) := by decide +kernel
theorem dX0_init_66 : decode cX0_init 66 = .ok (.iconst 3, 1) := by decide +kernel
theorem dX0_init_67 : decode cX0_init 67 = .ok (.iconst 2, 1) := by decide +kernel
theorem dX0_init_68 : decode cX0_init 68 = .ok (.invokevirtual 37, 3) := by decide +kernel
theorem dX0_init_71 : decode cX0_init 71 = .ok (.return_, 1) := by decide +kernel
set_option maxRecDepth 20000 in
theorem ggX0_begin_J7_fill_53178 : GoodIn wsX0_begin wsJ7_fill_53178 := goodIn_r _ [12] (by decide +kernel) (by decide +kernel)
set_option maxRecDepth 20000 in
theorem gX0_begin_J7_fill_53178 : GoodIn wsX0_begin (va_wsS RX0 47 yJ7_fill_53178 wsJ7_fill_53178) := goodIn_app (goodIn_of _ (by decide +kernel)) ggX0_begin_J7_fill_53178
theorem dX0_begin_0 : decode cX0_begin 0 = .ok (.aload_n 0, 1) := by decide +kernel
theorem dX0_begin_1 : decode cX0_begin 1 = .ok (.iload_n 1, 1) := by decide +kernel
theorem dX0_begin_2 : decode cX0_begin 2 = .ok (.putfield 41, 3) := by decide +kernel
theorem dX0_begin_5 : decode cX0_begin 5 = .ok (.aload_n 0, 1) := by decide +kernel
theorem dX0_begin_6 : decode cX0_begin 6 = .ok (.iload_n 2, 1) := by decide +kernel
theorem dX0_begin_7 : decode cX0_begin 7 = .ok (.putfield 44, 3) := by decide +kernel
theorem dX0_begin_10 : decode cX0_begin 10 = .ok (.aload_n 0, 1) := by decide +kernel
theorem dX0_begin_11 : decode cX0_begin 11 = .ok (.getfield 9, 3) := by decide +kernel
theorem dX0_begin_14 : decode cX0_begin 14 = .ok (.bipush 10, 2) := by decide +kernel
theorem dX0_begin_16 : decode cX0_begin 16 = .ok (.invokestatic 47, 3) := by decide +kernel
theorem dX0_begin_19 : decode cX0_begin 19 = .ok (.iconst 0, 1) := by decide +kernel
theorem dX0_begin_20 : decode cX0_begin 20 = .ok (.istore_n 3, 1) := by decide +kernel
theorem dX0_begin_21 : decode cX0_begin 21 = .ok (.iload_n 3, 1) := by decide +kernel
theorem dX0_begin_22 : decode cX0_begin 22 = .ok (.aload_n 0, 1) := by decide +kernel
theorem dX0_begin_23 : decode cX0_begin 23 = .ok (.getfield 15, 3) := by decide +kernel
theorem dX0_begin_26 : decode cX0_begin 26 = .ok (.arraylength, 1) := by decide +kernel
theorem dX0_begin_27 : decode cX0_begin 27 = .ok (.if_icmp .ge 19, 3) := by decide +kernel
theorem dX0_begin_30 : decode cX0_begin 30 = .ok (.aload_n 0, 1) := by decide +kernel
theorem dX0_begin_31 : decode cX0_begin 31 = .ok (.getfield 15, 3) := by decide +kernel
theorem dX0_begin_34 : decode cX0_begin 34 = .ok (.iload_n 3, 1) := by decide +kernel
theorem dX0_begin_35 : decode cX0_begin 35 = .ok (.iload_n 3, 1) := by decide +kernel
theorem dX0_begin_36 : decode cX0_begin 36 = .ok (.bipush 10, 2) := by decide +kernel
theorem dX0_begin_38 : decode cX0_begin 38 = .ok (.irem, 1) := by decide +kernel
theorem dX0_begin_39 : decode cX0_begin 39 = .ok (.iastore, 1) := by decide +kernel
theorem dX0_begin_40 : decode cX0_begin 40 = .ok (.iinc 3 1, 3) := by decide +kernel
theorem dX0_begin_43 : decode cX0_begin 43 = .ok (.goto (-22), 3) := by decide +kernel
theorem dX0_begin_46 : decode cX0_begin 46 = .ok (.aload_n 0, 1) := by decide +kernel
theorem dX0_begin_47 : decode cX0_begin 47 = .ok (.getfield 18, 3) := by decide +kernel
theorem dX0_begin_50 : decode cX0_begin 50 = .ok (.iconst 0, 1) := by decide +kernel
theorem dX0_begin_51 : decode cX0_begin 51 = .ok (.invokestatic 47, 3) := by decide +kernel
theorem dX0_begin_54 : decode cX0_begin 54 = .ok (.aload_n 0, 1) := by decide +kernel
theorem dX0_begin_55 : decode cX0_begin 55 = .ok (.getfield 21, 3) := by decide +kernel
theorem dX0_begin_58 : decode cX0_begin 58 = .ok (.iconst (-1), 1) := by decide +kernel
theorem dX0_begin_59 : decode cX0_begin 59 = .ok (.invokestatic 47, 3) := by decide +kernel
theorem dX0_begin_62 : decode cX0_begin 62 = .ok (.aload_n 0, 1) := by decide +kernel
theorem dX0_begin_63 : decode cX0_begin 63 = .ok (.getfield 24, 3) := by decide +kernel
theorem dX0_begin_66 : decode cX0_begin 66 = .ok (.sipush 1000, 3) := by decide +kernel
theorem dX0_begin_69 : decode cX0_begin 69 = .ok (.invokestatic 47, 3) := by decide +kernel
theorem dX0_begin_72 : decode cX0_begin 72 = .ok (.aload_n 0, 1) := by decide +kernel
theorem dX0_begin_73 : decode cX0_begin 73 = .ok (.getfield 27, 3) := by decide +kernel
theorem dX0_begin_76 : decode cX0_begin 76 = .ok (.iconst 0, 1) := by decide +kernel
theorem dX0_begin_77 : decode cX0_begin 77 = .ok (.invokestatic 47, 3) := by decide +kernel
theorem dX0_begin_80 : decode cX0_begin 80 = .ok (.return_, 1) := by decide +kernel
set_option maxRecDepth 20000 in
theorem ggX0_copyFrom_X4_copyRow : GoodIn wsX0_copyFrom wsX4_copyRow := goodIn_r _ [13, 14, 15, 16, 17] (by decide +kernel) (by decide +kernel)
set_option maxRecDepth 20000 in
theorem gX0_copyFrom_X4_copyRow_n53 : GoodIn wsX0_copyFrom (wsX4_copyRow) := ggX0_copyFrom_X4_copyRow
theorem dX0_copyFrom_0 : decode cX0_copyFrom 0 = .ok (.aload_n 1, 1) := by decide +kernel
theorem dX0_copyFrom_1 : decode cX0_copyFrom 1 = .ok (.getfield 9, 3) := by decide +kernel
theorem dX0_copyFrom_4 : decode cX0_copyFrom 4 = .ok (.aload_n 0, 1) := by decide +kernel
theorem dX0_copyFrom_5 : decode cX0_copyFrom 5 = .ok (.getfield 9, 3) := by decide +kernel
theorem dX0_copyFrom_8 : decode cX0_copyFrom 8 = .ok (.invokestatic 53, 3) := by decide +kernel
theorem dX0_copyFrom_11 : decode cX0_copyFrom 11 = .ok (.aload_n 1, 1) := by decide +kernel
theorem dX0_copyFrom_12 : decode cX0_copyFrom 12 = .ok (.getfield 15, 3) := by decide +kernel
theorem dX0_copyFrom_15 : decode cX0_copyFrom 15 = .ok (.aload_n 0, 1) := by decide +kernel
theorem dX0_copyFrom_16 : decode cX0_copyFrom 16 = .ok (.getfield 15, 3) := by decide +kernel
theorem dX0_copyFrom_19 : decode cX0_copyFrom 19 = .ok (.invokestatic 53, 3) := by decide +kernel
theorem dX0_copyFrom_22 : decode cX0_copyFrom 22 = .ok (.aload_n 1, 1) := by decide +kernel
theorem dX0_copyFrom_23 : decode cX0_copyFrom 23 = .ok (.getfield 18, 3) := by decide +kernel
theorem dX0_copyFrom_26 : decode cX0_copyFrom 26 = .ok (.aload_n 0, 1) := by decide +kernel
theorem dX0_copyFrom_27 : decode cX0_copyFrom 27 = .ok (.getfield 18, 3) := by decide +kernel
theorem dX0_copyFrom_30 : decode cX0_copyFrom 30 = .ok (.invokestatic 53, 3) := by decide +kernel
theorem dX0_copyFrom_33 : decode cX0_copyFrom 33 = .ok (.aload_n 1, 1) := by decide +kernel
theorem dX0_copyFrom_34 : decode cX0_copyFrom 34 = .ok (.getfield 21, 3) := by decide +kernel
theorem dX0_copyFrom_37 : decode cX0_copyFrom 37 = .ok (.aload_n 0, 1) := by decide +kernel
theorem dX0_copyFrom_38 : decode cX0_copyFrom 38 = .ok (.getfield 21, 3) := by decide +kernel
theorem dX0_copyFrom_41 : decode cX0_copyFrom 41 = .ok (.invokestatic 53, 3) := by decide +kernel
theorem dX0_copyFrom_44 : decode cX0_copyFrom 44 = .ok (.aload_n 1, 1) := by decide +kernel
theorem dX0_copyFrom_45 : decode cX0_copyFrom 45 = .ok (.getfield 24, 3) := by decide +kernel
theorem dX0_copyFrom_48 : decode cX0_copyFrom 48 = .ok (.aload_n 0, 1) := by decide +kernel
theorem dX0_copyFrom_49 : decode cX0_copyFrom 49 = .ok (.getfield 24, 3) := by decide +kernel
theorem dX0_copyFrom_52 : decode cX0_copyFrom 52 = .ok (.invokestatic 53, 3) := by decide +kernel
theorem dX0_copyFrom_55 : decode cX0_copyFrom 55 = .ok (.aload_n 1, 1) := by decide +kernel
theorem dX0_copyFrom_56 : decode cX0_copyFrom 56 = .ok (.getfield 27, 3) := by decide +kernel
theorem dX0_copyFrom_59 : decode cX0_copyFrom 59 = .ok (.aload_n 0, 1) := by decide +kernel
theorem dX0_copyFrom_60 : decode cX0_copyFrom 60 = .ok (.getfield 27, 3) := by decide +kernel
theorem dX0_copyFrom_63 : decode cX0_copyFrom 63 = .ok (.invokestatic 53, 3) := by decide +kernel
theorem dX0_copyFrom_66 : decode cX0_copyFrom 66 = .ok (.aload_n 0, 1) := by decide +kernel
theorem dX0_copyFrom_67 : decode cX0_copyFrom 67 = .ok (.aload_n 1, 1) := by decide +kernel
theorem dX0_copyFrom_68 : decode cX0_copyFrom 68 = .ok (.getfield 41, 3) := by decide +kernel
theorem dX0_copyFrom_71 : decode cX0_copyFrom 71 = .ok (.putfield 41, 3) := by decide +kernel
theorem dX0_copyFrom_74 : decode cX0_copyFrom 74 = .ok (.aload_n 0, 1) := by decide +kernel
theorem dX0_copyFrom_75 : decode cX0_copyFrom 75 = .ok (.aload_n 1, 1) := by decide +kernel
theorem dX0_copyFrom_76 : decode cX0_copyFrom 76 = .ok (.getfield 44, 3) := by decide +kernel
theorem dX0_copyFrom_79 : decode cX0_copyFrom 79 = .ok (.putfield 44, 3) := by decide +kernel
theorem dX0_copyFrom_82 : decode cX0_copyFrom 82 = .ok (.aload_n 0, 1) := by decide +kernel
theorem dX0_copyFrom_83 : decode cX0_copyFrom 83 = .ok (.aload_n 1, 1) := by decide +kernel
theorem dX0_copyFrom_84 : decode cX0_copyFrom 84 = .ok (.getfield 30, 3) := by decide +kernel
theorem dX0_copyFrom_87 : decode cX0_copyFrom 87 = .ok (.putfield 30, 3) := by decide +kernel
theorem dX0_copyFrom_90 : decode cX0_copyFrom 90 = .ok (.aload_n 0, 1) := by decide +kernel
theorem dX0_copyFrom_91 : decode cX0_copyFrom 91 = .ok (.aload_n 1, 1) := by decide +kernel
theorem dX0_copyFrom_92 : decode cX0_copyFrom 92 = .ok (.getfield 34, 3) := by decide +kernel
theorem dX0_copyFrom_95 : decode cX0_copyFrom 95 = .ok (.putfield 34, 3) := by decide +kernel
theorem dX0_copyFrom_98 : decode cX0_copyFrom 98 = .ok (.return_, 1) := by decide +kernel
theorem dX0_guardValue_0 : decode cX0_guardValue 0 = .ok (.aload_n 0, 1) := by decide +kernel
theorem dX0_guardValue_1 : decode cX0_guardValue 1 = .ok (.getfield 30, 3) := by decide +kernel
theorem dX0_guardValue_4 : decode cX0_guardValue 4 = .ok (.ireturn, 1) := by decide +kernel
theorem dX0_toleranceValue_0 : decode cX0_toleranceValue 0 = .ok (.aload_n 0, 1) := by decide +kernel
theorem dX0_toleranceValue_1 : decode cX0_toleranceValue 1 = .ok (.getfield 34, 3) := by decide +kernel
theorem dX0_toleranceValue_4 : decode cX0_toleranceValue 4 = .ok (.ireturn, 1) := by decide +kernel
theorem dX0_putGuard_0 : decode cX0_putGuard 0 = .ok (.aload_n 0, 1) := by decide +kernel
theorem dX0_putGuard_1 : decode cX0_putGuard 1 = .ok (.getfield 30, 3) := by decide +kernel
theorem dX0_putGuard_4 : decode cX0_putGuard 4 = .ok (.istore_n 2, 1) := by decide +kernel
theorem dX0_putGuard_5 : decode cX0_putGuard 5 = .ok (.aload_n 0, 1) := by decide +kernel
theorem dX0_putGuard_6 : decode cX0_putGuard 6 = .ok (.iload_n 1, 1) := by decide +kernel
theorem dX0_putGuard_7 : decode cX0_putGuard 7 = .ok (.putfield 30, 3) := by decide +kernel
theorem dX0_putGuard_10 : decode cX0_putGuard 10 = .ok (.iload_n 2, 1) := by decide +kernel
theorem dX0_putGuard_11 : decode cX0_putGuard 11 = .ok (.ireturn, 1) := by decide +kernel
theorem dX0_putTolerance_0 : decode cX0_putTolerance 0 = .ok (.aload_n 0, 1) := by decide +kernel
theorem dX0_putTolerance_1 : decode cX0_putTolerance 1 = .ok (.getfield 34, 3) := by decide +kernel
theorem dX0_putTolerance_4 : decode cX0_putTolerance 4 = .ok (.istore_n 2, 1) := by decide +kernel
theorem dX0_putTolerance_5 : decode cX0_putTolerance 5 = .ok (.aload_n 0, 1) := by decide +kernel
theorem dX0_putTolerance_6 : decode cX0_putTolerance 6 = .ok (.iload_n 1, 1) := by decide +kernel
theorem dX0_putTolerance_7 : decode cX0_putTolerance 7 = .ok (.putfield 34, 3) := by decide +kernel
theorem dX0_putTolerance_10 : decode cX0_putTolerance 10 = .ok (.iload_n 2, 1) := by decide +kernel
theorem dX0_putTolerance_11 : decode cX0_putTolerance 11 = .ok (.ireturn, 1) := by decide +kernel
theorem dX0_columnCount_0 : decode cX0_columnCount 0 = .ok (.aload_n 0, 1) := by decide +kernel
theorem dX0_columnCount_1 : decode cX0_columnCount 1 = .ok (.getfield 41, 3) := by decide +kernel
theorem dX0_columnCount_4 : decode cX0_columnCount 4 = .ok (.ireturn, 1) := by decide +kernel
theorem dX0_rowCount_0 : decode cX0_rowCount 0 = .ok (.aload_n 0, 1) := by decide +kernel
theorem dX0_rowCount_1 : decode cX0_rowCount 1 = .ok (.getfield 44, 3) := by decide +kernel
theorem dX0_rowCount_4 : decode cX0_rowCount 4 = .ok (.ireturn, 1) := by decide +kernel
theorem dX0_sheetCount_0 : decode cX0_sheetCount 0 = .ok (.aload_n 0, 1) := by decide +kernel
theorem dX0_sheetCount_1 : decode cX0_sheetCount 1 = .ok (.getfield 41, 3) := by decide +kernel
theorem dX0_sheetCount_4 : decode cX0_sheetCount 4 = .ok (.aload_n 0, 1) := by decide +kernel
theorem dX0_sheetCount_5 : decode cX0_sheetCount 5 = .ok (.getfield 44, 3) := by decide +kernel
theorem dX0_sheetCount_8 : decode cX0_sheetCount 8 = .ok (.imul, 1) := by decide +kernel
theorem dX0_sheetCount_9 : decode cX0_sheetCount 9 = .ok (.ireturn, 1) := by decide +kernel
set_option maxRecDepth 20000 in
theorem ggX0_hasSheet_X0_sheetCount : GoodIn wsX0_hasSheet wsX0_sheetCount := goodIn_r _ [5, 6, 7, 8, 9, 10, 11, 12, 13, 14, 15, 16, 17] (by decide +kernel) (by decide +kernel)
set_option maxRecDepth 20000 in
theorem gX0_hasSheet_X0_sheetCount : GoodIn wsX0_hasSheet (wsV RX0 57 RX0 yX0_sheetCount wsX0_sheetCount) := goodIn_app (goodIn_of _ (by decide +kernel)) ggX0_hasSheet_X0_sheetCount
theorem dX0_hasSheet_0 : decode cX0_hasSheet 0 = .ok (.iload_n 1, 1) := by decide +kernel
theorem dX0_hasSheet_1 : decode cX0_hasSheet 1 = .ok (.ifCond .lt 15, 3) := by decide +kernel
theorem dX0_hasSheet_4 : decode cX0_hasSheet 4 = .ok (.iload_n 1, 1) := by decide +kernel
theorem dX0_hasSheet_5 : decode cX0_hasSheet 5 = .ok (.aload_n 0, 1) := by decide +kernel
theorem dX0_hasSheet_6 : decode cX0_hasSheet 6 = .ok (.invokevirtual 57, 3) := by decide +kernel
theorem dX0_hasSheet_9 : decode cX0_hasSheet 9 = .ok (.if_icmp .ge 7, 3) := by decide +kernel
theorem dX0_hasSheet_12 : decode cX0_hasSheet 12 = .ok (.iconst 1, 1) := by decide +kernel
theorem dX0_hasSheet_13 : decode cX0_hasSheet 13 = .ok (.goto 4, 3) := by decide +kernel
theorem dX0_hasSheet_16 : decode cX0_hasSheet 16 = .ok (.iconst 0, 1) := by decide +kernel
theorem dX0_hasSheet_17 : decode cX0_hasSheet 17 = .ok (.ireturn, 1) := by decide +kernel
set_option maxRecDepth 20000 in
theorem ggX0_hasPlace_X0_hasSheet : GoodIn wsX0_hasPlace wsX0_hasSheet := goodIn_r _ [5, 6, 7, 8, 4, 9, 10, 11, 15, 16, 17, 18, 19, 20, 21, 22, 23, 24] (by decide +kernel) (by decide +kernel)
set_option maxRecDepth 20000 in
theorem gX0_hasPlace_X0_hasSheet : GoodIn wsX0_hasPlace (wsV RX0 61 RX0 yX0_hasSheet wsX0_hasSheet) := goodIn_app (goodIn_of _ (by decide +kernel)) ggX0_hasPlace_X0_hasSheet
set_option maxRecDepth 20000 in
theorem ggX0_hasPlace_X4_isWithin : GoodIn wsX0_hasPlace wsX4_isWithin := goodIn_r _ [14] (by decide +kernel) (by decide +kernel)
set_option maxRecDepth 20000 in
theorem gX0_hasPlace_X4_isWithin_n65 : GoodIn wsX0_hasPlace (wsX4_isWithin) := ggX0_hasPlace_X4_isWithin
theorem dX0_hasPlace_0 : decode cX0_hasPlace 0 = .ok (.aload_n 0, 1) := by decide +kernel
theorem dX0_hasPlace_1 : decode cX0_hasPlace 1 = .ok (.iload_n 1, 1) := by decide +kernel
theorem dX0_hasPlace_2 : decode cX0_hasPlace 2 = .ok (.invokevirtual 61, 3) := by decide +kernel
theorem dX0_hasPlace_5 : decode cX0_hasPlace 5 = .ok (.ifCond .eq 26, 3) := by decide +kernel
theorem dX0_hasPlace_8 : decode cX0_hasPlace 8 = .ok (.iload_n 2, 1) := by decide +kernel
theorem dX0_hasPlace_9 : decode cX0_hasPlace 9 = .ok (.iconst 0, 1) := by decide +kernel
theorem dX0_hasPlace_10 : decode cX0_hasPlace 10 = .ok (.iconst 3, 1) := by decide +kernel
theorem dX0_hasPlace_11 : decode cX0_hasPlace 11 = .ok (.invokestatic 65, 3) := by decide +kernel
theorem dX0_hasPlace_14 : decode cX0_hasPlace 14 = .ok (.ifCond .eq 17, 3) := by decide +kernel
theorem dX0_hasPlace_17 : decode cX0_hasPlace 17 = .ok (.iload_n 3, 1) := by decide +kernel
theorem dX0_hasPlace_18 : decode cX0_hasPlace 18 = .ok (.iconst 0, 1) := by decide +kernel
theorem dX0_hasPlace_19 : decode cX0_hasPlace 19 = .ok (.bipush 9, 2) := by decide +kernel
theorem dX0_hasPlace_21 : decode cX0_hasPlace 21 = .ok (.invokestatic 65, 3) := by decide +kernel
theorem dX0_hasPlace_24 : decode cX0_hasPlace 24 = .ok (.ifCond .eq 7, 3) := by decide +kernel
theorem dX0_hasPlace_27 : decode cX0_hasPlace 27 = .ok (.iconst 1, 1) := by decide +kernel
theorem dX0_hasPlace_28 : decode cX0_hasPlace 28 = .ok (.goto 4, 3) := by decide +kernel
theorem dX0_hasPlace_31 : decode cX0_hasPlace 31 = .ok (.iconst 0, 1) := by decide +kernel
theorem dX0_hasPlace_32 : decode cX0_hasPlace 32 = .ok (.ireturn, 1) := by decide +kernel
theorem dX0_columnOf_0 : decode cX0_columnOf 0 = .ok (.aload_n 0, 1) := by decide +kernel
theorem dX0_columnOf_1 : decode cX0_columnOf 1 = .ok (.getfield 41, 3) := by decide +kernel
theorem dX0_columnOf_4 : decode cX0_columnOf 4 = .ok (.ifCond .le 12, 3) := by decide +kernel
theorem dX0_columnOf_7 : decode cX0_columnOf 7 = .ok (.iload_n 1, 1) := by decide +kernel
theorem dX0_columnOf_8 : decode cX0_columnOf 8 = .ok (.aload_n 0, 1) := by decide +kernel
theorem dX0_columnOf_9 : decode cX0_columnOf 9 = .ok (.getfield 41, 3) := by decide +kernel
theorem dX0_columnOf_12 : decode cX0_columnOf 12 = .ok (.irem, 1) := by decide +kernel
theorem dX0_columnOf_13 : decode cX0_columnOf 13 = .ok (.goto 4, 3) := by decide +kernel
theorem dX0_columnOf_16 : decode cX0_columnOf 16 = .ok (.iconst 0, 1) := by decide +kernel
theorem dX0_columnOf_17 : decode cX0_columnOf 17 = .ok (.ireturn, 1) := by decide +kernel
theorem dX0_rowOf_0 : decode cX0_rowOf 0 = .ok (.aload_n 0, 1) := by decide +kernel
theorem dX0_rowOf_1 : decode cX0_rowOf 1 = .ok (.getfield 41, 3) := by decide +kernel
theorem dX0_rowOf_4 : decode cX0_rowOf 4 = .ok (.ifCond .le 12, 3) := by decide +kernel
theorem dX0_rowOf_7 : decode cX0_rowOf 7 = .ok (.iload_n 1, 1) := by decide +kernel
theorem dX0_rowOf_8 : decode cX0_rowOf 8 = .ok (.aload_n 0, 1) := by decide +kernel
theorem dX0_rowOf_9 : decode cX0_rowOf 9 = .ok (.getfield 41, 3) := by decide +kernel
theorem dX0_rowOf_12 : decode cX0_rowOf 12 = .ok (.idiv, 1) := by decide +kernel
theorem dX0_rowOf_13 : decode cX0_rowOf 13 = .ok (.goto 4, 3) := by decide +kernel
theorem dX0_rowOf_16 : decode cX0_rowOf 16 = .ok (.iconst 0, 1) := by decide +kernel
theorem dX0_rowOf_17 : decode cX0_rowOf 17 = .ok (.ireturn, 1) := by decide +kernel
theorem dX0_rowEdgeCount_0 : decode cX0_rowEdgeCount 0 = .ok (.aload_n 0, 1) := by decide +kernel
theorem dX0_rowEdgeCount_1 : decode cX0_rowEdgeCount 1 = .ok (.getfield 41, 3) := by decide +kernel
theorem dX0_rowEdgeCount_4 : decode cX0_rowEdgeCount 4 = .ok (.iconst 1, 1) := by decide +kernel
theorem dX0_rowEdgeCount_5 : decode cX0_rowEdgeCount 5 = .ok (.isub, 1) := by decide +kernel
theorem dX0_rowEdgeCount_6 : decode cX0_rowEdgeCount 6 = .ok (.aload_n 0, 1) := by decide +kernel
theorem dX0_rowEdgeCount_7 : decode cX0_rowEdgeCount 7 = .ok (.getfield 44, 3) := by decide +kernel
theorem dX0_rowEdgeCount_10 : decode cX0_rowEdgeCount 10 = .ok (.imul, 1) := by decide +kernel
theorem dX0_rowEdgeCount_11 : decode cX0_rowEdgeCount 11 = .ok (.ireturn, 1) := by decide +kernel
set_option maxRecDepth 20000 in
theorem ggX0_edgeCount_X0_rowEdgeCount : GoodIn wsX0_edgeCount wsX0_rowEdgeCount := goodIn_r _ [7, 1, 2, 8, 9, 10, 11, 12, 13, 14, 15, 16, 17] (by decide +kernel) (by decide +kernel)
set_option maxRecDepth 20000 in
theorem gX0_edgeCount_X0_rowEdgeCount : GoodIn wsX0_edgeCount (wsV RX0 69 RX0 yX0_rowEdgeCount wsX0_rowEdgeCount) := goodIn_app (goodIn_of _ (by decide +kernel)) ggX0_edgeCount_X0_rowEdgeCount
theorem dX0_edgeCount_0 : decode cX0_edgeCount 0 = .ok (.aload_n 0, 1) := by decide +kernel
theorem dX0_edgeCount_1 : decode cX0_edgeCount 1 = .ok (.invokevirtual 69, 3) := by decide +kernel
theorem dX0_edgeCount_4 : decode cX0_edgeCount 4 = .ok (.aload_n 0, 1) := by decide +kernel
theorem dX0_edgeCount_5 : decode cX0_edgeCount 5 = .ok (.getfield 41, 3) := by decide +kernel
theorem dX0_edgeCount_8 : decode cX0_edgeCount 8 = .ok (.aload_n 0, 1) := by decide +kernel
theorem dX0_edgeCount_9 : decode cX0_edgeCount 9 = .ok (.getfield 44, 3) := by decide +kernel
theorem dX0_edgeCount_12 : decode cX0_edgeCount 12 = .ok (.iconst 1, 1) := by decide +kernel
theorem dX0_edgeCount_13 : decode cX0_edgeCount 13 = .ok (.isub, 1) := by decide +kernel
theorem dX0_edgeCount_14 : decode cX0_edgeCount 14 = .ok (.imul, 1) := by decide +kernel
theorem dX0_edgeCount_15 : decode cX0_edgeCount 15 = .ok (.iadd, 1) := by decide +kernel
theorem dX0_edgeCount_16 : decode cX0_edgeCount 16 = .ok (.ireturn, 1) := by decide +kernel
set_option maxRecDepth 20000 in
theorem ggX0_hasEdge_X0_edgeCount : GoodIn wsX0_hasEdge wsX0_edgeCount := goodIn_r _ [5, 6, 7, 8, 9, 10, 4, 11, 12, 13, 14, 15, 16, 17, 18, 19, 20, 21] (by decide +kernel) (by decide +kernel)
set_option maxRecDepth 20000 in
theorem gX0_hasEdge_X0_edgeCount : GoodIn wsX0_hasEdge (wsV RX0 72 RX0 yX0_edgeCount wsX0_edgeCount) := goodIn_app (goodIn_of _ (by decide +kernel)) ggX0_hasEdge_X0_edgeCount
theorem dX0_hasEdge_0 : decode cX0_hasEdge 0 = .ok (.iload_n 1, 1) := by decide +kernel
theorem dX0_hasEdge_1 : decode cX0_hasEdge 1 = .ok (.ifCond .lt 15, 3) := by decide +kernel
theorem dX0_hasEdge_4 : decode cX0_hasEdge 4 = .ok (.iload_n 1, 1) := by decide +kernel
theorem dX0_hasEdge_5 : decode cX0_hasEdge 5 = .ok (.aload_n 0, 1) := by decide +kernel
theorem dX0_hasEdge_6 : decode cX0_hasEdge 6 = .ok (.invokevirtual 72, 3) := by decide +kernel
theorem dX0_hasEdge_9 : decode cX0_hasEdge 9 = .ok (.if_icmp .ge 7, 3) := by decide +kernel
theorem dX0_hasEdge_12 : decode cX0_hasEdge 12 = .ok (.iconst 1, 1) := by decide +kernel
theorem dX0_hasEdge_13 : decode cX0_hasEdge 13 = .ok (.goto 4, 3) := by decide +kernel
theorem dX0_hasEdge_16 : decode cX0_hasEdge 16 = .ok (.iconst 0, 1) := by decide +kernel
theorem dX0_hasEdge_17 : decode cX0_hasEdge 17 = .ok (.ireturn, 1) := by decide +kernel
theorem dX0_firstSheet_0 : decode cX0_firstSheet 0 = .ok (.aload_n 0, 1) := by decide +kernel
theorem dX0_firstSheet_1 : decode cX0_firstSheet 1 = .ok (.getfield 41, 3) := by decide +kernel
theorem dX0_firstSheet_4 : decode cX0_firstSheet 4 = .ok (.iconst 1, 1) := by decide +kernel
theorem dX0_firstSheet_5 : decode cX0_firstSheet 5 = .ok (.isub, 1) := by decide +kernel
theorem dX0_firstSheet_6 : decode cX0_firstSheet 6 = .ok (.istore_n 2, 1) := by decide +kernel
theorem dX0_firstSheet_7 : decode cX0_firstSheet 7 = .ok (.iload_n 2, 1) := by decide +kernel
theorem dX0_firstSheet_8 : decode cX0_firstSheet 8 = .ok (.aload_n 0, 1) := by decide +kernel
theorem dX0_firstSheet_9 : decode cX0_firstSheet 9 = .ok (.getfield 44, 3) := by decide +kernel
theorem dX0_firstSheet_12 : decode cX0_firstSheet 12 = .ok (.imul, 1) := by decide +kernel
theorem dX0_firstSheet_13 : decode cX0_firstSheet 13 = .ok (.istore_n 3, 1) := by decide +kernel
theorem dX0_firstSheet_14 : decode cX0_firstSheet 14 = .ok (.iload_n 2, 1) := by decide +kernel
theorem dX0_firstSheet_15 : decode cX0_firstSheet 15 = .ok (.ifCond .le 14, 3) := by decide +kernel
theorem dX0_firstSheet_18 : decode cX0_firstSheet 18 = .ok (.iload_n 1, 1) := by decide +kernel
theorem dX0_firstSheet_19 : decode cX0_firstSheet 19 = .ok (.iload_n 3, 1) := by decide +kernel
theorem dX0_firstSheet_20 : decode cX0_firstSheet 20 = .ok (.if_icmp .ge 9, 3) := by decide +kernel
theorem dX0_firstSheet_23 : decode cX0_firstSheet 23 = .ok (.iload_n 1, 1) := by decide +kernel
theorem dX0_firstSheet_24 : decode cX0_firstSheet 24 = .ok (.iload_n 1, 1) := by decide +kernel
theorem dX0_firstSheet_25 : decode cX0_firstSheet 25 = .ok (.iload_n 2, 1) := by decide +kernel
theorem dX0_firstSheet_26 : decode cX0_firstSheet 26 = .ok (.idiv, 1) := by decide +kernel
theorem dX0_firstSheet_27 : decode cX0_firstSheet 27 = .ok (.iadd, 1) := by decide +kernel
theorem dX0_firstSheet_28 : decode cX0_firstSheet 28 = .ok (.ireturn, 1) := by decide +kernel
theorem dX0_firstSheet_29 : decode cX0_firstSheet 29 = .ok (.iload_n 1, 1) := by decide +kernel
theorem dX0_firstSheet_30 : decode cX0_firstSheet 30 = .ok (.iload_n 3, 1) := by decide +kernel
theorem dX0_firstSheet_31 : decode cX0_firstSheet 31 = .ok (.isub, 1) := by decide +kernel
theorem dX0_firstSheet_32 : decode cX0_firstSheet 32 = .ok (.ireturn, 1) := by decide +kernel
set_option maxRecDepth 20000 in
theorem ggX0_secondSheet_X0_firstSheet : GoodIn wsX0_secondSheet wsX0_firstSheet := goodIn_r _ [6, 1, 7, 12, 13, 14, 15, 16, 17, 18, 19, 20, 21] (by decide +kernel) (by decide +kernel)
set_option maxRecDepth 20000 in
theorem gX0_secondSheet_X0_firstSheet : GoodIn wsX0_secondSheet (wsV RX0 75 RX0 yX0_firstSheet wsX0_firstSheet) := goodIn_app (goodIn_of _ (by decide +kernel)) ggX0_secondSheet_X0_firstSheet
set_option maxRecDepth 20000 in
theorem ggX0_secondSheet_X0_rowEdgeCount : GoodIn wsX0_secondSheet wsX0_rowEdgeCount := goodIn_r _ [11, 1, 7, 12, 13, 14, 15, 16, 17, 18, 19, 20, 21] (by decide +kernel) (by decide +kernel)
set_option maxRecDepth 20000 in
theorem gX0_secondSheet_X0_rowEdgeCount : GoodIn wsX0_secondSheet (wsV RX0 69 RX0 yX0_rowEdgeCount wsX0_rowEdgeCount) := goodIn_app (goodIn_of _ (by decide +kernel)) ggX0_secondSheet_X0_rowEdgeCount
theorem dX0_secondSheet_0 : decode cX0_secondSheet 0 = .ok (.aload_n 0, 1) := by decide +kernel
theorem dX0_secondSheet_1 : decode cX0_secondSheet 1 = .ok (.iload_n 1, 1) := by decide +kernel
theorem dX0_secondSheet_2 : decode cX0_secondSheet 2 = .ok (.invokevirtual 75, 3) := by decide +kernel
theorem dX0_secondSheet_5 : decode cX0_secondSheet 5 = .ok (.iload_n 1, 1) := by decide +kernel
theorem dX0_secondSheet_6 : decode cX0_secondSheet 6 = .ok (.aload_n 0, 1) := by decide +kernel
theorem dX0_secondSheet_7 : decode cX0_secondSheet 7 = .ok (.invokevirtual 69, 3) := by decide +kernel
theorem dX0_secondSheet_10 : decode cX0_secondSheet 10 = .ok (.if_icmp .ge 7, 3) := by decide +kernel
theorem dX0_secondSheet_13 : decode cX0_secondSheet 13 = .ok (.iconst 1, 1) := by decide +kernel
theorem dX0_secondSheet_14 : decode cX0_secondSheet 14 = .ok (.goto 7, 3) := by decide +kernel
theorem dX0_secondSheet_17 : decode cX0_secondSheet 17 = .ok (.aload_n 0, 1) := by decide +kernel
theorem dX0_secondSheet_18 : decode cX0_secondSheet 18 = .ok (.getfield 41, 3) := by decide +kernel
theorem dX0_secondSheet_21 : decode cX0_secondSheet 21 = .ok (.iadd, 1) := by decide +kernel
theorem dX0_secondSheet_22 : decode cX0_secondSheet 22 = .ok (.ireturn, 1) := by decide +kernel
set_option maxRecDepth 20000 in
theorem ggX0_firstSide_X0_rowEdgeCount : GoodIn wsX0_firstSide wsX0_rowEdgeCount := goodIn_r _ [5, 6, 7, 8, 9, 10, 11, 12, 13, 14, 15, 16, 17] (by decide +kernel) (by decide +kernel)
set_option maxRecDepth 20000 in
theorem gX0_firstSide_X0_rowEdgeCount : GoodIn wsX0_firstSide (wsV RX0 69 RX0 yX0_rowEdgeCount wsX0_rowEdgeCount) := goodIn_app (goodIn_of _ (by decide +kernel)) ggX0_firstSide_X0_rowEdgeCount
theorem dX0_firstSide_0 : decode cX0_firstSide 0 = .ok (.iload_n 1, 1) := by decide +kernel
theorem dX0_firstSide_1 : decode cX0_firstSide 1 = .ok (.aload_n 0, 1) := by decide +kernel
theorem dX0_firstSide_2 : decode cX0_firstSide 2 = .ok (.invokevirtual 69, 3) := by decide +kernel
theorem dX0_firstSide_5 : decode cX0_firstSide 5 = .ok (.if_icmp .ge 7, 3) := by decide +kernel
theorem dX0_firstSide_8 : decode cX0_firstSide 8 = .ok (.iconst 1, 1) := by decide +kernel
theorem dX0_firstSide_9 : decode cX0_firstSide 9 = .ok (.goto 4, 3) := by decide +kernel
theorem dX0_firstSide_12 : decode cX0_firstSide 12 = .ok (.iconst 2, 1) := by decide +kernel
theorem dX0_firstSide_13 : decode cX0_firstSide 13 = .ok (.ireturn, 1) := by decide +kernel
set_option maxRecDepth 20000 in
theorem ggX0_secondSide_X0_rowEdgeCount : GoodIn wsX0_secondSide wsX0_rowEdgeCount := goodIn_r _ [5, 6, 7, 8, 9, 10, 11, 12, 13, 14, 15, 16, 17] (by decide +kernel) (by decide +kernel)
set_option maxRecDepth 20000 in
theorem gX0_secondSide_X0_rowEdgeCount : GoodIn wsX0_secondSide (wsV RX0 69 RX0 yX0_rowEdgeCount wsX0_rowEdgeCount) := goodIn_app (goodIn_of _ (by decide +kernel)) ggX0_secondSide_X0_rowEdgeCount
theorem dX0_secondSide_0 : decode cX0_secondSide 0 = .ok (.iload_n 1, 1) := by decide +kernel
theorem dX0_secondSide_1 : decode cX0_secondSide 1 = .ok (.aload_n 0, 1) := by decide +kernel
theorem dX0_secondSide_2 : decode cX0_secondSide 2 = .ok (.invokevirtual 69, 3) := by decide +kernel
theorem dX0_secondSide_5 : decode cX0_secondSide 5 = .ok (.if_icmp .ge 7, 3) := by decide +kernel
theorem dX0_secondSide_8 : decode cX0_secondSide 8 = .ok (.iconst 3, 1) := by decide +kernel
theorem dX0_secondSide_9 : decode cX0_secondSide 9 = .ok (.goto 4, 3) := by decide +kernel
theorem dX0_secondSide_12 : decode cX0_secondSide 12 = .ok (.iconst 0, 1) := by decide +kernel
theorem dX0_secondSide_13 : decode cX0_secondSide 13 = .ok (.ireturn, 1) := by decide +kernel
set_option maxRecDepth 20000 in
theorem ggX0_edgeOf_X0_columnOf : GoodIn wsX0_edgeOf wsX0_columnOf := goodIn_r _ [7, 1, 16, 17, 18, 19, 20, 21, 22, 23, 24, 25] (by decide +kernel) (by decide +kernel)
set_option maxRecDepth 20000 in
theorem gX0_edgeOf_X0_columnOf : GoodIn wsX0_edgeOf (wsV RX0 79 RX0 yX0_columnOf wsX0_columnOf) := goodIn_app (goodIn_of _ (by decide +kernel)) ggX0_edgeOf_X0_columnOf
set_option maxRecDepth 20000 in
theorem ggX0_edgeOf_X0_rowOf : GoodIn wsX0_edgeOf wsX0_rowOf := goodIn_r _ [11, 1, 16, 17, 18, 19, 20, 21, 22, 23, 24, 25] (by decide +kernel) (by decide +kernel)
set_option maxRecDepth 20000 in
theorem gX0_edgeOf_X0_rowOf : GoodIn wsX0_edgeOf (wsV RX0 82 RX0 yX0_rowOf wsX0_rowOf) := goodIn_app (goodIn_of _ (by decide +kernel)) ggX0_edgeOf_X0_rowOf
set_option maxRecDepth 20000 in
theorem ggX0_edgeOf_X0_rowEdgeCount : GoodIn wsX0_edgeOf wsX0_rowEdgeCount := goodIn_r _ [15, 1, 2, 16, 17, 18, 19, 20, 21, 22, 23, 24, 25] (by decide +kernel) (by decide +kernel)
set_option maxRecDepth 20000 in
theorem gX0_edgeOf_X0_rowEdgeCount : GoodIn wsX0_edgeOf (wsV RX0 69 RX0 yX0_rowEdgeCount wsX0_rowEdgeCount) := goodIn_app (goodIn_of _ (by decide +kernel)) ggX0_edgeOf_X0_rowEdgeCount
theorem dX0_edgeOf_0 : decode cX0_edgeOf 0 = .ok (.aload_n 0, 1) := by decide +kernel
theorem dX0_edgeOf_1 : decode cX0_edgeOf 1 = .ok (.iload_n 1, 1) := by decide +kernel
theorem dX0_edgeOf_2 : decode cX0_edgeOf 2 = .ok (.invokevirtual 79, 3) := by decide +kernel
theorem dX0_edgeOf_5 : decode cX0_edgeOf 5 = .ok (.istore_n 3, 1) := by decide +kernel
theorem dX0_edgeOf_6 : decode cX0_edgeOf 6 = .ok (.aload_n 0, 1) := by decide +kernel
theorem dX0_edgeOf_7 : decode cX0_edgeOf 7 = .ok (.iload_n 1, 1) := by decide +kernel
theorem dX0_edgeOf_8 : decode cX0_edgeOf 8 = .ok (.invokevirtual 82, 3) := by decide +kernel
theorem dX0_edgeOf_11 : decode cX0_edgeOf 11 = .ok (.istore 4, 2) := by decide +kernel
theorem dX0_edgeOf_13 : decode cX0_edgeOf 13 = .ok (.iload 4, 2) := by decide +kernel
theorem dX0_edgeOf_15 : decode cX0_edgeOf 15 = .ok (.aload_n 0, 1) := by decide +kernel
theorem dX0_edgeOf_16 : decode cX0_edgeOf 16 = .ok (.getfield 41, 3) := by decide +kernel
theorem dX0_edgeOf_19 : decode cX0_edgeOf 19 = .ok (.iconst 1, 1) := by decide +kernel
theorem dX0_edgeOf_20 : decode cX0_edgeOf 20 = .ok (.isub, 1) := by decide +kernel
theorem dX0_edgeOf_21 : decode cX0_edgeOf 21 = .ok (.imul, 1) := by decide +kernel
theorem dX0_edgeOf_22 : decode cX0_edgeOf 22 = .ok (.iload_n 3, 1) := by decide +kernel
theorem dX0_edgeOf_23 : decode cX0_edgeOf 23 = .ok (.iadd, 1) := by decide +kernel
theorem dX0_edgeOf_24 : decode cX0_edgeOf 24 = .ok (.istore 5, 2) := by decide +kernel
theorem dX0_edgeOf_26 : decode cX0_edgeOf 26 = .ok (.aload_n 0, 1) := by decide +kernel
theorem dX0_edgeOf_27 : decode cX0_edgeOf 27 = .ok (.invokevirtual 69, 3) := by decide +kernel
theorem dX0_edgeOf_30 : decode cX0_edgeOf 30 = .ok (.iload_n 1, 1) := by decide +kernel
theorem dX0_edgeOf_31 : decode cX0_edgeOf 31 = .ok (.iadd, 1) := by decide +kernel
theorem dX0_edgeOf_32 : decode cX0_edgeOf 32 = .ok (.istore 6, 2) := by decide +kernel
theorem dX0_edgeOf_34 : decode cX0_edgeOf 34 = .ok (.iload_n 2, 1) := by decide +kernel
theorem dX0_edgeOf_35 : decode cX0_edgeOf 35 = .ok (.tableswitch 80 0 2 #[25, 43, 61], 25) := by decide +kernel
theorem dX0_edgeOf_60 : decode cX0_edgeOf 60 = .ok (.iload 4, 2) := by decide +kernel
theorem dX0_edgeOf_62 : decode cX0_edgeOf 62 = .ok (.ifCond .le 13, 3) := by decide +kernel
theorem dX0_edgeOf_65 : decode cX0_edgeOf 65 = .ok (.iload 6, 2) := by decide +kernel
theorem dX0_edgeOf_67 : decode cX0_edgeOf 67 = .ok (.aload_n 0, 1) := by decide +kernel
theorem dX0_edgeOf_68 : decode cX0_edgeOf 68 = .ok (.getfield 41, 3) := by decide +kernel
theorem dX0_edgeOf_71 : decode cX0_edgeOf 71 = .ok (.isub, 1) := by decide +kernel
theorem dX0_edgeOf_72 : decode cX0_edgeOf 72 = .ok (.goto 5, 3) := by decide +kernel
theorem dX0_edgeOf_75 : decode cX0_edgeOf 75 = .ok (.bipush (-4), 2) := by decide +kernel
theorem dX0_edgeOf_77 : decode cX0_edgeOf 77 = .ok (.ireturn, 1) := by decide +kernel
theorem dX0_edgeOf_78 : decode cX0_edgeOf 78 = .ok (.iload_n 3, 1) := by decide +kernel
theorem dX0_edgeOf_79 : decode cX0_edgeOf 79 = .ok (.aload_n 0, 1) := by decide +kernel
theorem dX0_edgeOf_80 : decode cX0_edgeOf 80 = .ok (.getfield 41, 3) := by decide +kernel
theorem dX0_edgeOf_83 : decode cX0_edgeOf 83 = .ok (.iconst 1, 1) := by decide +kernel
theorem dX0_edgeOf_84 : decode cX0_edgeOf 84 = .ok (.isub, 1) := by decide +kernel
theorem dX0_edgeOf_85 : decode cX0_edgeOf 85 = .ok (.if_icmp .ge 8, 3) := by decide +kernel
theorem dX0_edgeOf_88 : decode cX0_edgeOf 88 = .ok (.iload 5, 2) := by decide +kernel
theorem dX0_edgeOf_90 : decode cX0_edgeOf 90 = .ok (.goto 5, 3) := by decide +kernel
theorem dX0_edgeOf_93 : decode cX0_edgeOf 93 = .ok (.bipush (-4), 2) := by decide +kernel
theorem dX0_edgeOf_95 : decode cX0_edgeOf 95 = .ok (.ireturn, 1) := by decide +kernel
theorem dX0_edgeOf_96 : decode cX0_edgeOf 96 = .ok (.iload 4, 2) := by decide +kernel
theorem dX0_edgeOf_98 : decode cX0_edgeOf 98 = .ok (.aload_n 0, 1) := by decide +kernel
theorem dX0_edgeOf_99 : decode cX0_edgeOf 99 = .ok (.getfield 44, 3) := by decide +kernel
theorem dX0_edgeOf_102 : decode cX0_edgeOf 102 = .ok (.iconst 1, 1) := by decide +kernel
theorem dX0_edgeOf_103 : decode cX0_edgeOf 103 = .ok (.isub, 1) := by decide +kernel
theorem dX0_edgeOf_104 : decode cX0_edgeOf 104 = .ok (.if_icmp .ge 8, 3) := by decide +kernel
theorem dX0_edgeOf_107 : decode cX0_edgeOf 107 = .ok (.iload 6, 2) := by decide +kernel
theorem dX0_edgeOf_109 : decode cX0_edgeOf 109 = .ok (.goto 5, 3) := by decide +kernel
theorem dX0_edgeOf_112 : decode cX0_edgeOf 112 = .ok (.bipush (-4), 2) := by decide +kernel
theorem dX0_edgeOf_114 : decode cX0_edgeOf 114 = .ok (.ireturn, 1) := by decide +kernel
theorem dX0_edgeOf_115 : decode cX0_edgeOf 115 = .ok (.iload_n 3, 1) := by decide +kernel
theorem dX0_edgeOf_116 : decode cX0_edgeOf 116 = .ok (.ifCond .le 10, 3) := by decide +kernel
theorem dX0_edgeOf_119 : decode cX0_edgeOf 119 = .ok (.iload 5, 2) := by decide +kernel
theorem dX0_edgeOf_121 : decode cX0_edgeOf 121 = .ok (.iconst 1, 1) := by decide +kernel
theorem dX0_edgeOf_122 : decode cX0_edgeOf 122 = .ok (.isub, 1) := by decide +kernel
theorem dX0_edgeOf_123 : decode cX0_edgeOf 123 = .ok (.goto 5, 3) := by decide +kernel
theorem dX0_edgeOf_126 : decode cX0_edgeOf 126 = .ok (.bipush (-4), 2) := by decide +kernel
theorem dX0_edgeOf_128 : decode cX0_edgeOf 128 = .ok (.ireturn, 1) := by decide +kernel
set_option maxRecDepth 20000 in
theorem ggX0_edgesOf_X0_edgeOf : GoodIn wsX0_edgesOf wsX0_edgeOf := goodIn_r _ [5, 6, 7, 8, 9, 10, 4, 11, 12, 13, 14, 15, 16, 17, 18, 19, 20, 21, 22, 23, 24, 25, 26, 27, 28, 29] (by decide +kernel) (by decide +kernel)
set_option maxRecDepth 20000 in
theorem gX0_edgesOf_X0_edgeOf : GoodIn wsX0_edgesOf (wsV RX0 85 RX0 yX0_edgeOf wsX0_edgeOf) := goodIn_app (goodIn_of _ (by decide +kernel)) ggX0_edgesOf_X0_edgeOf
theorem dX0_edgesOf_0 : decode cX0_edgesOf 0 = .ok (.iconst 0, 1) := by decide +kernel
theorem dX0_edgesOf_1 : decode cX0_edgesOf 1 = .ok (.istore_n 2, 1) := by decide +kernel
theorem dX0_edgesOf_2 : decode cX0_edgesOf 2 = .ok (.iconst 0, 1) := by decide +kernel
theorem dX0_edgesOf_3 : decode cX0_edgesOf 3 = .ok (.istore_n 3, 1) := by decide +kernel
theorem dX0_edgesOf_4 : decode cX0_edgesOf 4 = .ok (.iload_n 3, 1) := by decide +kernel
theorem dX0_edgesOf_5 : decode cX0_edgesOf 5 = .ok (.iconst 4, 1) := by decide +kernel
theorem dX0_edgesOf_6 : decode cX0_edgesOf 6 = .ok (.if_icmp .ge 23, 3) := by decide +kernel
theorem dX0_edgesOf_9 : decode cX0_edgesOf 9 = .ok (.aload_n 0, 1) := by decide +kernel
theorem dX0_edgesOf_10 : decode cX0_edgesOf 10 = .ok (.iload_n 1, 1) := by decide +kernel
theorem dX0_edgesOf_11 : decode cX0_edgesOf 11 = .ok (.iload_n 3, 1) := by decide +kernel
theorem dX0_edgesOf_12 : decode cX0_edgesOf 12 = .ok (.invokevirtual 85, 3) := by decide +kernel
theorem dX0_edgesOf_15 : decode cX0_edgesOf 15 = .ok (.bipush (-4), 2) := by decide +kernel
theorem dX0_edgesOf_17 : decode cX0_edgesOf 17 = .ok (.if_icmp .eq 6, 3) := by decide +kernel
theorem dX0_edgesOf_20 : decode cX0_edgesOf 20 = .ok (.iinc 2 1, 3) := by decide +kernel
theorem dX0_edgesOf_23 : decode cX0_edgesOf 23 = .ok (.iinc 3 1, 3) := by decide +kernel
theorem dX0_edgesOf_26 : decode cX0_edgesOf 26 = .ok (.goto (-22), 3) := by decide +kernel
theorem dX0_edgesOf_29 : decode cX0_edgesOf 29 = .ok (.iload_n 2, 1) := by decide +kernel
theorem dX0_edgesOf_30 : decode cX0_edgesOf 30 = .ok (.ireturn, 1) := by decide +kernel
theorem dX0_placeOf_0 : decode cX0_placeOf 0 = .ok (.iload_n 0, 1) := by decide +kernel
theorem dX0_placeOf_1 : decode cX0_placeOf 1 = .ok (.iconst 4, 1) := by decide +kernel
theorem dX0_placeOf_2 : decode cX0_placeOf 2 = .ok (.imul, 1) := by decide +kernel
theorem dX0_placeOf_3 : decode cX0_placeOf 3 = .ok (.iload_n 1, 1) := by decide +kernel
theorem dX0_placeOf_4 : decode cX0_placeOf 4 = .ok (.iadd, 1) := by decide +kernel
theorem dX0_placeOf_5 : decode cX0_placeOf 5 = .ok (.bipush 10, 2) := by decide +kernel
theorem dX0_placeOf_7 : decode cX0_placeOf 7 = .ok (.imul, 1) := by decide +kernel
theorem dX0_placeOf_8 : decode cX0_placeOf 8 = .ok (.iload_n 2, 1) := by decide +kernel
theorem dX0_placeOf_9 : decode cX0_placeOf 9 = .ok (.iadd, 1) := by decide +kernel
theorem dX0_placeOf_10 : decode cX0_placeOf 10 = .ok (.ireturn, 1) := by decide +kernel
set_option maxRecDepth 20000 in
theorem ggX0_signAt_X0_placeOf : GoodIn wsX0_signAt wsX0_placeOf := goodIn_r _ [5] (by decide +kernel) (by decide +kernel)
set_option maxRecDepth 20000 in
theorem gX0_signAt_X0_placeOf : GoodIn wsX0_signAt (va_wsS RX0 89 yX0_placeOf wsX0_placeOf) := goodIn_app (goodIn_of _ (by decide +kernel)) ggX0_signAt_X0_placeOf
set_option maxRecDepth 20000 in
theorem ggX0_signAt_X4_valueAt : GoodIn wsX0_signAt wsX4_valueAt := goodIn_r _ [8] (by decide +kernel) (by decide +kernel)
set_option maxRecDepth 20000 in
theorem gX0_signAt_X4_valueAt_n93 : GoodIn wsX0_signAt (wsX4_valueAt) := ggX0_signAt_X4_valueAt
theorem dX0_signAt_0 : decode cX0_signAt 0 = .ok (.aload_n 0, 1) := by decide +kernel
theorem dX0_signAt_1 : decode cX0_signAt 1 = .ok (.getfield 9, 3) := by decide +kernel
theorem dX0_signAt_4 : decode cX0_signAt 4 = .ok (.iload_n 1, 1) := by decide +kernel
theorem dX0_signAt_5 : decode cX0_signAt 5 = .ok (.iload_n 2, 1) := by decide +kernel
theorem dX0_signAt_6 : decode cX0_signAt 6 = .ok (.iload_n 3, 1) := by decide +kernel
theorem dX0_signAt_7 : decode cX0_signAt 7 = .ok (.invokestatic 89, 3) := by decide +kernel
theorem dX0_signAt_10 : decode cX0_signAt 10 = .ok (.bipush 10, 2) := by decide +kernel
theorem dX0_signAt_12 : decode cX0_signAt 12 = .ok (.invokestatic 93, 3) := by decide +kernel
theorem dX0_signAt_15 : decode cX0_signAt 15 = .ok (.ireturn, 1) := by decide +kernel
set_option maxRecDepth 20000 in
theorem ggX0_putSign_X0_placeOf : GoodIn wsX0_putSign wsX0_placeOf := goodIn_r _ [5] (by decide +kernel) (by decide +kernel)
set_option maxRecDepth 20000 in
theorem gX0_putSign_X0_placeOf : GoodIn wsX0_putSign (va_wsS RX0 89 yX0_placeOf wsX0_placeOf) := goodIn_app (goodIn_of _ (by decide +kernel)) ggX0_putSign_X0_placeOf
set_option maxRecDepth 20000 in
theorem ggX0_putSign_X4_exchange : GoodIn wsX0_putSign wsX4_exchange := goodIn_r _ [8] (by decide +kernel) (by decide +kernel)
set_option maxRecDepth 20000 in
theorem gX0_putSign_X4_exchange_n97 : GoodIn wsX0_putSign (wsX4_exchange) := ggX0_putSign_X4_exchange
theorem dX0_putSign_0 : decode cX0_putSign 0 = .ok (.aload_n 0, 1) := by decide +kernel
theorem dX0_putSign_1 : decode cX0_putSign 1 = .ok (.getfield 9, 3) := by decide +kernel
theorem dX0_putSign_4 : decode cX0_putSign 4 = .ok (.iload_n 1, 1) := by decide +kernel
theorem dX0_putSign_5 : decode cX0_putSign 5 = .ok (.iload_n 2, 1) := by decide +kernel
theorem dX0_putSign_6 : decode cX0_putSign 6 = .ok (.iload_n 3, 1) := by decide +kernel
theorem dX0_putSign_7 : decode cX0_putSign 7 = .ok (.invokestatic 89, 3) := by decide +kernel
theorem dX0_putSign_10 : decode cX0_putSign 10 = .ok (.iload 4, 2) := by decide +kernel
theorem dX0_putSign_12 : decode cX0_putSign 12 = .ok (.invokestatic 97, 3) := by decide +kernel
theorem dX0_putSign_15 : decode cX0_putSign 15 = .ok (.ireturn, 1) := by decide +kernel
set_option maxRecDepth 20000 in
theorem ggX0_signsShownOn_X0_signAt : GoodIn wsX0_signsShownOn wsX0_signAt := goodIn_r _ [5, 6, 7, 8, 4, 9, 10, 11, 12, 13, 14, 15, 16, 17, 18, 19, 20, 21, 22] (by decide +kernel) (by decide +kernel)
set_option maxRecDepth 20000 in
theorem gX0_signsShownOn_X0_signAt : GoodIn wsX0_signsShownOn (wsV RX0 100 RX0 yX0_signAt wsX0_signAt) := goodIn_app (goodIn_of _ (by decide +kernel)) ggX0_signsShownOn_X0_signAt
theorem dX0_signsShownOn_0 : decode cX0_signsShownOn 0 = .ok (.iconst 0, 1) := by decide +kernel
theorem dX0_signsShownOn_1 : decode cX0_signsShownOn 1 = .ok (.istore_n 2, 1) := by decide +kernel
theorem dX0_signsShownOn_2 : decode cX0_signsShownOn 2 = .ok (.iconst 0, 1) := by decide +kernel
theorem dX0_signsShownOn_3 : decode cX0_signsShownOn 3 = .ok (.istore_n 3, 1) := by decide +kernel
theorem dX0_signsShownOn_4 : decode cX0_signsShownOn 4 = .ok (.iload_n 3, 1) := by decide +kernel
theorem dX0_signsShownOn_5 : decode cX0_signsShownOn 5 = .ok (.iconst 4, 1) := by decide +kernel
theorem dX0_signsShownOn_6 : decode cX0_signsShownOn 6 = .ok (.if_icmp .ge 41, 3) := by decide +kernel
theorem dX0_signsShownOn_9 : decode cX0_signsShownOn 9 = .ok (.iconst 0, 1) := by decide +kernel
theorem dX0_signsShownOn_10 : decode cX0_signsShownOn 10 = .ok (.istore 4, 2) := by decide +kernel
theorem dX0_signsShownOn_12 : decode cX0_signsShownOn 12 = .ok (.iload 4, 2) := by decide +kernel
theorem dX0_signsShownOn_14 : decode cX0_signsShownOn 14 = .ok (.bipush 10, 2) := by decide +kernel
theorem dX0_signsShownOn_16 : decode cX0_signsShownOn 16 = .ok (.if_icmp .ge 25, 3) := by decide +kernel
theorem dX0_signsShownOn_19 : decode cX0_signsShownOn 19 = .ok (.aload_n 0, 1) := by decide +kernel
theorem dX0_signsShownOn_20 : decode cX0_signsShownOn 20 = .ok (.iload_n 1, 1) := by decide +kernel
theorem dX0_signsShownOn_21 : decode cX0_signsShownOn 21 = .ok (.iload_n 3, 1) := by decide +kernel
theorem dX0_signsShownOn_22 : decode cX0_signsShownOn 22 = .ok (.iload 4, 2) := by decide +kernel
theorem dX0_signsShownOn_24 : decode cX0_signsShownOn 24 = .ok (.invokevirtual 100, 3) := by decide +kernel
theorem dX0_signsShownOn_27 : decode cX0_signsShownOn 27 = .ok (.bipush 10, 2) := by decide +kernel
theorem dX0_signsShownOn_29 : decode cX0_signsShownOn 29 = .ok (.if_icmp .eq 6, 3) := by decide +kernel
theorem dX0_signsShownOn_32 : decode cX0_signsShownOn 32 = .ok (.iinc 2 1, 3) := by decide +kernel
theorem dX0_signsShownOn_35 : decode cX0_signsShownOn 35 = .ok (.iinc 4 1, 3) := by decide +kernel
theorem dX0_signsShownOn_38 : decode cX0_signsShownOn 38 = .ok (.goto (-26), 3) := by decide +kernel
theorem dX0_signsShownOn_41 : decode cX0_signsShownOn 41 = .ok (.iinc 3 1, 3) := by decide +kernel
theorem dX0_signsShownOn_44 : decode cX0_signsShownOn 44 = .ok (.goto (-40), 3) := by decide +kernel
theorem dX0_signsShownOn_47 : decode cX0_signsShownOn 47 = .ok (.iload_n 2, 1) := by decide +kernel
theorem dX0_signsShownOn_48 : decode cX0_signsShownOn 48 = .ok (.ireturn, 1) := by decide +kernel
set_option maxRecDepth 20000 in
theorem ggX0_meaningOf_X4_valueAt : GoodIn wsX0_meaningOf wsX4_valueAt := goodIn_r _ [4] (by decide +kernel) (by decide +kernel)
set_option maxRecDepth 20000 in
theorem gX0_meaningOf_X4_valueAt_n93 : GoodIn wsX0_meaningOf (wsX4_valueAt) := ggX0_meaningOf_X4_valueAt
theorem dX0_meaningOf_0 : decode cX0_meaningOf 0 = .ok (.aload_n 0, 1) := by decide +kernel
theorem dX0_meaningOf_1 : decode cX0_meaningOf 1 = .ok (.getfield 15, 3) := by decide +kernel
theorem dX0_meaningOf_4 : decode cX0_meaningOf 4 = .ok (.iload_n 1, 1) := by decide +kernel
theorem dX0_meaningOf_5 : decode cX0_meaningOf 5 = .ok (.bipush 10, 2) := by decide +kernel
theorem dX0_meaningOf_7 : decode cX0_meaningOf 7 = .ok (.imul, 1) := by decide +kernel
theorem dX0_meaningOf_8 : decode cX0_meaningOf 8 = .ok (.iload_n 2, 1) := by decide +kernel
theorem dX0_meaningOf_9 : decode cX0_meaningOf 9 = .ok (.iadd, 1) := by decide +kernel
theorem dX0_meaningOf_10 : decode cX0_meaningOf 10 = .ok (.iconst 0, 1) := by decide +kernel
theorem dX0_meaningOf_11 : decode cX0_meaningOf 11 = .ok (.invokestatic 93, 3) := by decide +kernel
theorem dX0_meaningOf_14 : decode cX0_meaningOf 14 = .ok (.ireturn, 1) := by decide +kernel
set_option maxRecDepth 20000 in
theorem ggX0_putMeaning_X4_exchange : GoodIn wsX0_putMeaning wsX4_exchange := goodIn_r _ [4] (by decide +kernel) (by decide +kernel)
set_option maxRecDepth 20000 in
theorem gX0_putMeaning_X4_exchange_n97 : GoodIn wsX0_putMeaning (wsX4_exchange) := ggX0_putMeaning_X4_exchange
theorem dX0_putMeaning_0 : decode cX0_putMeaning 0 = .ok (.aload_n 0, 1) := by decide +kernel
theorem dX0_putMeaning_1 : decode cX0_putMeaning 1 = .ok (.getfield 15, 3) := by decide +kernel
theorem dX0_putMeaning_4 : decode cX0_putMeaning 4 = .ok (.iload_n 1, 1) := by decide +kernel
theorem dX0_putMeaning_5 : decode cX0_putMeaning 5 = .ok (.bipush 10, 2) := by decide +kernel
theorem dX0_putMeaning_7 : decode cX0_putMeaning 7 = .ok (.imul, 1) := by decide +kernel
theorem dX0_putMeaning_8 : decode cX0_putMeaning 8 = .ok (.iload_n 2, 1) := by decide +kernel
theorem dX0_putMeaning_9 : decode cX0_putMeaning 9 = .ok (.iadd, 1) := by decide +kernel
theorem dX0_putMeaning_10 : decode cX0_putMeaning 10 = .ok (.iload_n 3, 1) := by decide +kernel
theorem dX0_putMeaning_11 : decode cX0_putMeaning 11 = .ok (.invokestatic 97, 3) := by decide +kernel
theorem dX0_putMeaning_14 : decode cX0_putMeaning 14 = .ok (.ireturn, 1) := by decide +kernel
set_option maxRecDepth 20000 in
theorem ggX0_lowestSign_X0_meaningOf : GoodIn wsX0_lowestSign wsX0_meaningOf := goodIn_r _ [5, 6, 7, 8, 9, 10, 11, 12, 13, 14, 15, 16, 17, 18, 19] (by decide +kernel) (by decide +kernel)
set_option maxRecDepth 20000 in
theorem gX0_lowestSign_X0_meaningOf : GoodIn wsX0_lowestSign (wsV RX0 103 RX0 yX0_meaningOf wsX0_meaningOf) := goodIn_app (goodIn_of _ (by decide +kernel)) ggX0_lowestSign_X0_meaningOf
theorem dX0_lowestSign_0 : decode cX0_lowestSign 0 = .ok (.iconst 0, 1) := by decide +kernel
theorem dX0_lowestSign_1 : decode cX0_lowestSign 1 = .ok (.istore_n 3, 1) := by decide +kernel
theorem dX0_lowestSign_2 : decode cX0_lowestSign 2 = .ok (.iload_n 3, 1) := by decide +kernel
theorem dX0_lowestSign_3 : decode cX0_lowestSign 3 = .ok (.bipush 10, 2) := by decide +kernel
theorem dX0_lowestSign_5 : decode cX0_lowestSign 5 = .ok (.if_icmp .ge 21, 3) := by decide +kernel
theorem dX0_lowestSign_8 : decode cX0_lowestSign 8 = .ok (.aload_n 0, 1) := by decide +kernel
theorem dX0_lowestSign_9 : decode cX0_lowestSign 9 = .ok (.iload_n 1, 1) := by decide +kernel
theorem dX0_lowestSign_10 : decode cX0_lowestSign 10 = .ok (.iload_n 3, 1) := by decide +kernel
theorem dX0_lowestSign_11 : decode cX0_lowestSign 11 = .ok (.invokevirtual 103, 3) := by decide +kernel
theorem dX0_lowestSign_14 : decode cX0_lowestSign 14 = .ok (.iload_n 2, 1) := by decide +kernel
theorem dX0_lowestSign_15 : decode cX0_lowestSign 15 = .ok (.if_icmp .ne 5, 3) := by decide +kernel
theorem dX0_lowestSign_18 : decode cX0_lowestSign 18 = .ok (.iload_n 3, 1) := by decide +kernel
theorem dX0_lowestSign_19 : decode cX0_lowestSign 19 = .ok (.ireturn, 1) := by decide +kernel
theorem dX0_lowestSign_20 : decode cX0_lowestSign 20 = .ok (.iinc 3 1, 3) := by decide +kernel
theorem dX0_lowestSign_23 : decode cX0_lowestSign 23 = .ok (.goto (-21), 3) := by decide +kernel
theorem dX0_lowestSign_26 : decode cX0_lowestSign 26 = .ok (.bipush (-4), 2) := by decide +kernel
theorem dX0_lowestSign_28 : decode cX0_lowestSign 28 = .ok (.ireturn, 1) := by decide +kernel
set_option maxRecDepth 20000 in
theorem ggX0_meaningAt_X0_placeOf : GoodIn wsX0_meaningAt wsX0_placeOf := goodIn_r _ [6] (by decide +kernel) (by decide +kernel)
set_option maxRecDepth 20000 in
theorem gX0_meaningAt_X0_placeOf : GoodIn wsX0_meaningAt (va_wsS RX0 89 yX0_placeOf wsX0_placeOf) := goodIn_app (goodIn_of _ (by decide +kernel)) ggX0_meaningAt_X0_placeOf
set_option maxRecDepth 20000 in
theorem ggX0_meaningAt_X4_valueAt : GoodIn wsX0_meaningAt wsX4_valueAt := goodIn_r _ [9] (by decide +kernel) (by decide +kernel)
set_option maxRecDepth 20000 in
theorem gX0_meaningAt_X4_valueAt_n93 : GoodIn wsX0_meaningAt (wsX4_valueAt) := ggX0_meaningAt_X4_valueAt
theorem dX0_meaningAt_0 : decode cX0_meaningAt 0 = .ok (.aload_n 0, 1) := by decide +kernel
theorem dX0_meaningAt_1 : decode cX0_meaningAt 1 = .ok (.getfield 9, 3) := by decide +kernel
theorem dX0_meaningAt_4 : decode cX0_meaningAt 4 = .ok (.iload_n 1, 1) := by decide +kernel
theorem dX0_meaningAt_5 : decode cX0_meaningAt 5 = .ok (.iload_n 2, 1) := by decide +kernel
theorem dX0_meaningAt_6 : decode cX0_meaningAt 6 = .ok (.iload_n 3, 1) := by decide +kernel
theorem dX0_meaningAt_7 : decode cX0_meaningAt 7 = .ok (.invokestatic 89, 3) := by decide +kernel
theorem dX0_meaningAt_10 : decode cX0_meaningAt 10 = .ok (.bipush 10, 2) := by decide +kernel
theorem dX0_meaningAt_12 : decode cX0_meaningAt 12 = .ok (.invokestatic 93, 3) := by decide +kernel
theorem dX0_meaningAt_15 : decode cX0_meaningAt 15 = .ok (.istore 4, 2) := by decide +kernel
theorem dX0_meaningAt_17 : decode cX0_meaningAt 17 = .ok (.iload 4, 2) := by decide +kernel
theorem dX0_meaningAt_19 : decode cX0_meaningAt 19 = .ok (.bipush 10, 2) := by decide +kernel
theorem dX0_meaningAt_21 : decode cX0_meaningAt 21 = .ok (.if_icmp .ne 8, 3) := by decide +kernel
theorem dX0_meaningAt_24 : decode cX0_meaningAt 24 = .ok (.bipush (-4), 2) := by decide +kernel
theorem dX0_meaningAt_26 : decode cX0_meaningAt 26 = .ok (.goto 19, 3) := by decide +kernel
theorem dX0_meaningAt_29 : decode cX0_meaningAt 29 = .ok (.aload_n 0, 1) := by decide +kernel
theorem dX0_meaningAt_30 : decode cX0_meaningAt 30 = .ok (.getfield 15, 3) := by decide +kernel
theorem dX0_meaningAt_33 : decode cX0_meaningAt 33 = .ok (.iload_n 1, 1) := by decide +kernel
theorem dX0_meaningAt_34 : decode cX0_meaningAt 34 = .ok (.bipush 10, 2) := by decide +kernel
theorem dX0_meaningAt_36 : decode cX0_meaningAt 36 = .ok (.imul, 1) := by decide +kernel
theorem dX0_meaningAt_37 : decode cX0_meaningAt 37 = .ok (.iload 4, 2) := by decide +kernel
theorem dX0_meaningAt_39 : decode cX0_meaningAt 39 = .ok (.iadd, 1) := by decide +kernel
theorem dX0_meaningAt_40 : decode cX0_meaningAt 40 = .ok (.bipush (-4), 2) := by decide +kernel
theorem dX0_meaningAt_42 : decode cX0_meaningAt 42 = .ok (.invokestatic 93, 3) := by decide +kernel
theorem dX0_meaningAt_45 : decode cX0_meaningAt 45 = .ok (.ireturn, 1) := by decide +kernel
set_option maxRecDepth 20000 in
theorem ggX0_reasonAt_X0_firstSheet : GoodIn wsX0_reasonAt wsX0_firstSheet := goodIn_r _ [5, 6, 7, 36, 37, 38, 39, 40, 41, 42, 43, 44, 45] (by decide +kernel) (by decide +kernel)
set_option maxRecDepth 20000 in
theorem gX0_reasonAt_X0_firstSheet : GoodIn wsX0_reasonAt (wsV RX0 75 RX0 yX0_firstSheet wsX0_firstSheet) := goodIn_app (goodIn_of _ (by decide +kernel)) ggX0_reasonAt_X0_firstSheet
set_option maxRecDepth 20000 in
theorem ggX0_reasonAt_X0_firstSide : GoodIn wsX0_reasonAt wsX0_firstSide := goodIn_r _ [11, 12, 13, 14, 4, 15, 6, 7, 36, 37, 38, 39, 40, 41, 42, 43, 44, 45] (by decide +kernel) (by decide +kernel)
set_option maxRecDepth 20000 in
theorem gX0_reasonAt_X0_firstSide : GoodIn wsX0_reasonAt (wsV RX0 106 RX0 yX0_firstSide wsX0_firstSide) := goodIn_app (goodIn_of _ (by decide +kernel)) ggX0_reasonAt_X0_firstSide
set_option maxRecDepth 20000 in
theorem ggX0_reasonAt_X0_meaningAt : GoodIn wsX0_reasonAt wsX0_meaningAt := goodIn_r _ [19, 20, 21, 22, 23, 4, 24, 25, 26, 27, 36, 37, 38, 39, 40, 41, 42, 43, 44, 45] (by decide +kernel) (by decide +kernel)
set_option maxRecDepth 20000 in
theorem gX0_reasonAt_X0_meaningAt : GoodIn wsX0_reasonAt (wsV RX0 109 RX0 yX0_meaningAt wsX0_meaningAt) := goodIn_app (goodIn_of _ (by decide +kernel)) ggX0_reasonAt_X0_meaningAt
set_option maxRecDepth 20000 in
theorem ggX0_reasonAt_X0_secondSheet : GoodIn wsX0_reasonAt wsX0_secondSheet := goodIn_r _ [31, 6, 1, 2, 3, 4, 5, 7, 12, 13, 14, 15, 36, 37, 38, 39, 40, 41, 42, 43, 44, 45] (by decide +kernel) (by decide +kernel)
set_option maxRecDepth 20000 in
theorem gX0_reasonAt_X0_secondSheet : GoodIn wsX0_reasonAt (wsV RX0 112 RX0 yX0_secondSheet wsX0_secondSheet) := goodIn_app (goodIn_of _ (by decide +kernel)) ggX0_reasonAt_X0_secondSheet
set_option maxRecDepth 20000 in
theorem ggX0_reasonAt_X0_secondSide : GoodIn wsX0_reasonAt wsX0_secondSide := goodIn_r _ [35, 12, 13, 14, 4, 15, 6, 7, 36, 37, 38, 39, 40, 41, 42, 43, 44, 45] (by decide +kernel) (by decide +kernel)
set_option maxRecDepth 20000 in
theorem gX0_reasonAt_X0_secondSide : GoodIn wsX0_reasonAt (wsV RX0 115 RX0 yX0_secondSide wsX0_secondSide) := goodIn_app (goodIn_of _ (by decide +kernel)) ggX0_reasonAt_X0_secondSide
theorem dX0_reasonAt_0 : decode cX0_reasonAt 0 = .ok (.aload_n 0, 1) := by decide +kernel
theorem dX0_reasonAt_1 : decode cX0_reasonAt 1 = .ok (.aload_n 0, 1) := by decide +kernel
theorem dX0_reasonAt_2 : decode cX0_reasonAt 2 = .ok (.iload_n 1, 1) := by decide +kernel
theorem dX0_reasonAt_3 : decode cX0_reasonAt 3 = .ok (.invokevirtual 75, 3) := by decide +kernel
theorem dX0_reasonAt_6 : decode cX0_reasonAt 6 = .ok (.aload_n 0, 1) := by decide +kernel
theorem dX0_reasonAt_7 : decode cX0_reasonAt 7 = .ok (.iload_n 1, 1) := by decide +kernel
theorem dX0_reasonAt_8 : decode cX0_reasonAt 8 = .ok (.invokevirtual 106, 3) := by decide +kernel
theorem dX0_reasonAt_11 : decode cX0_reasonAt 11 = .ok (.iload_n 2, 1) := by decide +kernel
theorem dX0_reasonAt_12 : decode cX0_reasonAt 12 = .ok (.invokevirtual 109, 3) := by decide +kernel
theorem dX0_reasonAt_15 : decode cX0_reasonAt 15 = .ok (.istore_n 3, 1) := by decide +kernel
theorem dX0_reasonAt_16 : decode cX0_reasonAt 16 = .ok (.aload_n 0, 1) := by decide +kernel
theorem dX0_reasonAt_17 : decode cX0_reasonAt 17 = .ok (.aload_n 0, 1) := by decide +kernel
theorem dX0_reasonAt_18 : decode cX0_reasonAt 18 = .ok (.iload_n 1, 1) := by decide +kernel
theorem dX0_reasonAt_19 : decode cX0_reasonAt 19 = .ok (.invokevirtual 112, 3) := by decide +kernel
theorem dX0_reasonAt_22 : decode cX0_reasonAt 22 = .ok (.aload_n 0, 1) := by decide +kernel
theorem dX0_reasonAt_23 : decode cX0_reasonAt 23 = .ok (.iload_n 1, 1) := by decide +kernel
theorem dX0_reasonAt_24 : decode cX0_reasonAt 24 = .ok (.invokevirtual 115, 3) := by decide +kernel
theorem dX0_reasonAt_27 : decode cX0_reasonAt 27 = .ok (.iload_n 2, 1) := by decide +kernel
theorem dX0_reasonAt_28 : decode cX0_reasonAt 28 = .ok (.invokevirtual 109, 3) := by decide +kernel
theorem dX0_reasonAt_31 : decode cX0_reasonAt 31 = .ok (.istore 4, 2) := by decide +kernel
theorem dX0_reasonAt_33 : decode cX0_reasonAt 33 = .ok (.iload_n 3, 1) := by decide +kernel
theorem dX0_reasonAt_34 : decode cX0_reasonAt 34 = .ok (.iload 4, 2) := by decide +kernel
theorem dX0_reasonAt_36 : decode cX0_reasonAt 36 = .ok (.if_icmp .ne 5, 3) := by decide +kernel
theorem dX0_reasonAt_39 : decode cX0_reasonAt 39 = .ok (.iconst 0, 1) := by decide +kernel
theorem dX0_reasonAt_40 : decode cX0_reasonAt 40 = .ok (.ireturn, 1) := by decide +kernel
theorem dX0_reasonAt_41 : decode cX0_reasonAt 41 = .ok (.iload_n 3, 1) := by decide +kernel
theorem dX0_reasonAt_42 : decode cX0_reasonAt 42 = .ok (.bipush (-4), 2) := by decide +kernel
theorem dX0_reasonAt_44 : decode cX0_reasonAt 44 = .ok (.if_icmp .eq 10, 3) := by decide +kernel
theorem dX0_reasonAt_47 : decode cX0_reasonAt 47 = .ok (.iload 4, 2) := by decide +kernel
theorem dX0_reasonAt_49 : decode cX0_reasonAt 49 = .ok (.bipush (-4), 2) := by decide +kernel
theorem dX0_reasonAt_51 : decode cX0_reasonAt 51 = .ok (.if_icmp .ne 7, 3) := by decide +kernel
theorem dX0_reasonAt_54 : decode cX0_reasonAt 54 = .ok (.iconst 1, 1) := by decide +kernel
theorem dX0_reasonAt_55 : decode cX0_reasonAt 55 = .ok (.goto 4, 3) := by decide +kernel
theorem dX0_reasonAt_58 : decode cX0_reasonAt 58 = .ok (.iconst 2, 1) := by decide +kernel
theorem dX0_reasonAt_59 : decode cX0_reasonAt 59 = .ok (.ireturn, 1) := by decide +kernel
set_option maxRecDepth 20000 in
theorem ggX0_quarrelsOf_X0_reasonAt : GoodIn wsX0_quarrelsOf wsX0_reasonAt := goodIn_r _ [5, 6, 7, 8, 4, 9, 10, 11, 12, 13, 14, 15, 16, 17, 18, 19, 20, 21, 22, 23, 24, 25, 26, 27, 28, 29, 30, 31, 32, 33, 34, 35, 36, 37, 38, 39, 40, 41, 42, 43, 44, 45, 46, 47, 48, 49] (by decide +kernel) (by decide +kernel)
set_option maxRecDepth 20000 in
theorem gX0_quarrelsOf_X0_reasonAt : GoodIn wsX0_quarrelsOf (wsV RX0 118 RX0 yX0_reasonAt wsX0_reasonAt) := goodIn_app (goodIn_of _ (by decide +kernel)) ggX0_quarrelsOf_X0_reasonAt
theorem dX0_quarrelsOf_0 : decode cX0_quarrelsOf 0 = .ok (.iconst 0, 1) := by decide +kernel
theorem dX0_quarrelsOf_1 : decode cX0_quarrelsOf 1 = .ok (.istore_n 2, 1) := by decide +kernel
theorem dX0_quarrelsOf_2 : decode cX0_quarrelsOf 2 = .ok (.iconst 0, 1) := by decide +kernel
theorem dX0_quarrelsOf_3 : decode cX0_quarrelsOf 3 = .ok (.istore_n 3, 1) := by decide +kernel
theorem dX0_quarrelsOf_4 : decode cX0_quarrelsOf 4 = .ok (.iload_n 3, 1) := by decide +kernel
theorem dX0_quarrelsOf_5 : decode cX0_quarrelsOf 5 = .ok (.bipush 10, 2) := by decide +kernel
theorem dX0_quarrelsOf_7 : decode cX0_quarrelsOf 7 = .ok (.if_icmp .ge 21, 3) := by decide +kernel
theorem dX0_quarrelsOf_10 : decode cX0_quarrelsOf 10 = .ok (.aload_n 0, 1) := by decide +kernel
theorem dX0_quarrelsOf_11 : decode cX0_quarrelsOf 11 = .ok (.iload_n 1, 1) := by decide +kernel
theorem dX0_quarrelsOf_12 : decode cX0_quarrelsOf 12 = .ok (.iload_n 3, 1) := by decide +kernel
theorem dX0_quarrelsOf_13 : decode cX0_quarrelsOf 13 = .ok (.invokevirtual 118, 3) := by decide +kernel
theorem dX0_quarrelsOf_16 : decode cX0_quarrelsOf 16 = .ok (.ifCond .eq 6, 3) := by decide +kernel
theorem dX0_quarrelsOf_19 : decode cX0_quarrelsOf 19 = .ok (.iinc 2 1, 3) := by decide +kernel
theorem dX0_quarrelsOf_22 : decode cX0_quarrelsOf 22 = .ok (.iinc 3 1, 3) := by decide +kernel
theorem dX0_quarrelsOf_25 : decode cX0_quarrelsOf 25 = .ok (.goto (-21), 3) := by decide +kernel
theorem dX0_quarrelsOf_28 : decode cX0_quarrelsOf 28 = .ok (.iload_n 2, 1) := by decide +kernel
theorem dX0_quarrelsOf_29 : decode cX0_quarrelsOf 29 = .ok (.ireturn, 1) := by decide +kernel
set_option maxRecDepth 20000 in
theorem ggX0_positionOfQuarrel_X0_reasonAt : GoodIn wsX0_positionOfQuarrel wsX0_reasonAt := goodIn_r _ [5, 6, 7, 8, 4, 9, 10, 11, 12, 13, 14, 15, 16, 17, 18, 19, 20, 21, 22, 23, 24, 25, 26, 27, 28, 29, 30, 31, 32, 33, 34, 35, 36, 37, 38, 39, 40, 41, 42, 43, 44, 45, 46, 47, 48, 49] (by decide +kernel) (by decide +kernel)
set_option maxRecDepth 20000 in
theorem gX0_positionOfQuarrel_X0_reasonAt : GoodIn wsX0_positionOfQuarrel (wsV RX0 118 RX0 yX0_reasonAt wsX0_reasonAt) := goodIn_app (goodIn_of _ (by decide +kernel)) ggX0_positionOfQuarrel_X0_reasonAt
theorem dX0_positionOfQuarrel_0 : decode cX0_positionOfQuarrel 0 = .ok (.iconst 0, 1) := by decide +kernel
theorem dX0_positionOfQuarrel_1 : decode cX0_positionOfQuarrel 1 = .ok (.istore_n 3, 1) := by decide +kernel
theorem dX0_positionOfQuarrel_2 : decode cX0_positionOfQuarrel 2 = .ok (.iconst 0, 1) := by decide +kernel
theorem dX0_positionOfQuarrel_3 : decode cX0_positionOfQuarrel 3 = .ok (.istore 4, 2) := by decide +kernel
theorem dX0_positionOfQuarrel_5 : decode cX0_positionOfQuarrel 5 = .ok (.iload 4, 2) := by decide +kernel
theorem dX0_positionOfQuarrel_7 : decode cX0_positionOfQuarrel 7 = .ok (.bipush 10, 2) := by decide +kernel
theorem dX0_positionOfQuarrel_9 : decode cX0_positionOfQuarrel 9 = .ok (.if_icmp .ge 30, 3) := by decide +kernel
theorem dX0_positionOfQuarrel_12 : decode cX0_positionOfQuarrel 12 = .ok (.aload_n 0, 1) := by decide +kernel
theorem dX0_positionOfQuarrel_13 : decode cX0_positionOfQuarrel 13 = .ok (.iload_n 1, 1) := by decide +kernel
theorem dX0_positionOfQuarrel_14 : decode cX0_positionOfQuarrel 14 = .ok (.iload 4, 2) := by decide +kernel
theorem dX0_positionOfQuarrel_16 : decode cX0_positionOfQuarrel 16 = .ok (.invokevirtual 118, 3) := by decide +kernel
theorem dX0_positionOfQuarrel_19 : decode cX0_positionOfQuarrel 19 = .ok (.ifCond .eq 14, 3) := by decide +kernel
theorem dX0_positionOfQuarrel_22 : decode cX0_positionOfQuarrel 22 = .ok (.iload_n 3, 1) := by decide +kernel
theorem dX0_positionOfQuarrel_23 : decode cX0_positionOfQuarrel 23 = .ok (.iload_n 2, 1) := by decide +kernel
theorem dX0_positionOfQuarrel_24 : decode cX0_positionOfQuarrel 24 = .ok (.if_icmp .ne 6, 3) := by decide +kernel
theorem dX0_positionOfQuarrel_27 : decode cX0_positionOfQuarrel 27 = .ok (.iload 4, 2) := by decide +kernel
theorem dX0_positionOfQuarrel_29 : decode cX0_positionOfQuarrel 29 = .ok (.ireturn, 1) := by decide +kernel
theorem dX0_positionOfQuarrel_30 : decode cX0_positionOfQuarrel 30 = .ok (.iinc 3 1, 3) := by decide +kernel
theorem dX0_positionOfQuarrel_33 : decode cX0_positionOfQuarrel 33 = .ok (.iinc 4 1, 3) := by decide +kernel
theorem dX0_positionOfQuarrel_36 : decode cX0_positionOfQuarrel 36 = .ok (.goto (-31), 3) := by decide +kernel
theorem dX0_positionOfQuarrel_39 : decode cX0_positionOfQuarrel 39 = .ok (.bipush (-4), 2) := by decide +kernel
theorem dX0_positionOfQuarrel_41 : decode cX0_positionOfQuarrel 41 = .ok (.ireturn, 1) := by decide +kernel
set_option maxRecDepth 20000 in
theorem ggX0_signsOnBothSides_X0_firstSheet : GoodIn wsX0_signsOnBothSides wsX0_firstSheet := goodIn_r _ [5, 6, 7, 35, 36, 37, 38, 39, 40, 41, 42, 43, 44] (by decide +kernel) (by decide +kernel)
set_option maxRecDepth 20000 in
theorem gX0_signsOnBothSides_X0_firstSheet : GoodIn wsX0_signsOnBothSides (wsV RX0 75 RX0 yX0_firstSheet wsX0_firstSheet) := goodIn_app (goodIn_of _ (by decide +kernel)) ggX0_signsOnBothSides_X0_firstSheet
set_option maxRecDepth 20000 in
theorem ggX0_signsOnBothSides_X0_firstSide : GoodIn wsX0_signsOnBothSides wsX0_firstSide := goodIn_r _ [11, 12, 13, 14, 4, 15, 6, 7, 35, 36, 37, 38, 39, 40, 41, 42, 43, 44] (by decide +kernel) (by decide +kernel)
set_option maxRecDepth 20000 in
theorem gX0_signsOnBothSides_X0_firstSide : GoodIn wsX0_signsOnBothSides (wsV RX0 106 RX0 yX0_firstSide wsX0_firstSide) := goodIn_app (goodIn_of _ (by decide +kernel)) ggX0_signsOnBothSides_X0_firstSide
set_option maxRecDepth 20000 in
theorem ggX0_signsOnBothSides_X0_signAt : GoodIn wsX0_signsOnBothSides wsX0_signAt := goodIn_r _ [19, 20, 21, 22, 4, 23, 24, 25, 26, 35, 36, 37, 38, 39, 40, 41, 42, 43, 44] (by decide +kernel) (by decide +kernel)
set_option maxRecDepth 20000 in
theorem gX0_signsOnBothSides_X0_signAt : GoodIn wsX0_signsOnBothSides (wsV RX0 100 RX0 yX0_signAt wsX0_signAt) := goodIn_app (goodIn_of _ (by decide +kernel)) ggX0_signsOnBothSides_X0_signAt
set_option maxRecDepth 20000 in
theorem ggX0_signsOnBothSides_X0_secondSheet : GoodIn wsX0_signsOnBothSides wsX0_secondSheet := goodIn_r _ [30, 6, 1, 2, 3, 4, 5, 7, 12, 13, 14, 15, 35, 36, 37, 38, 39, 40, 41, 42, 43, 44] (by decide +kernel) (by decide +kernel)
set_option maxRecDepth 20000 in
theorem gX0_signsOnBothSides_X0_secondSheet : GoodIn wsX0_signsOnBothSides (wsV RX0 112 RX0 yX0_secondSheet wsX0_secondSheet) := goodIn_app (goodIn_of _ (by decide +kernel)) ggX0_signsOnBothSides_X0_secondSheet
set_option maxRecDepth 20000 in
theorem ggX0_signsOnBothSides_X0_secondSide : GoodIn wsX0_signsOnBothSides wsX0_secondSide := goodIn_r _ [34, 12, 13, 14, 4, 15, 6, 7, 35, 36, 37, 38, 39, 40, 41, 42, 43, 44] (by decide +kernel) (by decide +kernel)
set_option maxRecDepth 20000 in
theorem gX0_signsOnBothSides_X0_secondSide : GoodIn wsX0_signsOnBothSides (wsV RX0 115 RX0 yX0_secondSide wsX0_secondSide) := goodIn_app (goodIn_of _ (by decide +kernel)) ggX0_signsOnBothSides_X0_secondSide
theorem dX0_signsOnBothSides_0 : decode cX0_signsOnBothSides 0 = .ok (.iconst 0, 1) := by decide +kernel
theorem dX0_signsOnBothSides_1 : decode cX0_signsOnBothSides 1 = .ok (.istore_n 2, 1) := by decide +kernel
theorem dX0_signsOnBothSides_2 : decode cX0_signsOnBothSides 2 = .ok (.iconst 0, 1) := by decide +kernel
theorem dX0_signsOnBothSides_3 : decode cX0_signsOnBothSides 3 = .ok (.istore_n 3, 1) := by decide +kernel
theorem dX0_signsOnBothSides_4 : decode cX0_signsOnBothSides 4 = .ok (.iload_n 3, 1) := by decide +kernel
theorem dX0_signsOnBothSides_5 : decode cX0_signsOnBothSides 5 = .ok (.bipush 10, 2) := by decide +kernel
theorem dX0_signsOnBothSides_7 : decode cX0_signsOnBothSides 7 = .ok (.if_icmp .ge 60, 3) := by decide +kernel
theorem dX0_signsOnBothSides_10 : decode cX0_signsOnBothSides 10 = .ok (.aload_n 0, 1) := by decide +kernel
theorem dX0_signsOnBothSides_11 : decode cX0_signsOnBothSides 11 = .ok (.aload_n 0, 1) := by decide +kernel
theorem dX0_signsOnBothSides_12 : decode cX0_signsOnBothSides 12 = .ok (.iload_n 1, 1) := by decide +kernel
theorem dX0_signsOnBothSides_13 : decode cX0_signsOnBothSides 13 = .ok (.invokevirtual 75, 3) := by decide +kernel
theorem dX0_signsOnBothSides_16 : decode cX0_signsOnBothSides 16 = .ok (.aload_n 0, 1) := by decide +kernel
theorem dX0_signsOnBothSides_17 : decode cX0_signsOnBothSides 17 = .ok (.iload_n 1, 1) := by decide +kernel
theorem dX0_signsOnBothSides_18 : decode cX0_signsOnBothSides 18 = .ok (.invokevirtual 106, 3) := by decide +kernel
theorem dX0_signsOnBothSides_21 : decode cX0_signsOnBothSides 21 = .ok (.iload_n 3, 1) := by decide +kernel
theorem dX0_signsOnBothSides_22 : decode cX0_signsOnBothSides 22 = .ok (.invokevirtual 100, 3) := by decide +kernel
theorem dX0_signsOnBothSides_25 : decode cX0_signsOnBothSides 25 = .ok (.istore 4, 2) := by decide +kernel
theorem dX0_signsOnBothSides_27 : decode cX0_signsOnBothSides 27 = .ok (.aload_n 0, 1) := by decide +kernel
theorem dX0_signsOnBothSides_28 : decode cX0_signsOnBothSides 28 = .ok (.aload_n 0, 1) := by decide +kernel
theorem dX0_signsOnBothSides_29 : decode cX0_signsOnBothSides 29 = .ok (.iload_n 1, 1) := by decide +kernel
theorem dX0_signsOnBothSides_30 : decode cX0_signsOnBothSides 30 = .ok (.invokevirtual 112, 3) := by decide +kernel
theorem dX0_signsOnBothSides_33 : decode cX0_signsOnBothSides 33 = .ok (.aload_n 0, 1) := by decide +kernel
theorem dX0_signsOnBothSides_34 : decode cX0_signsOnBothSides 34 = .ok (.iload_n 1, 1) := by decide +kernel
theorem dX0_signsOnBothSides_35 : decode cX0_signsOnBothSides 35 = .ok (.invokevirtual 115, 3) := by decide +kernel
theorem dX0_signsOnBothSides_38 : decode cX0_signsOnBothSides 38 = .ok (.iload_n 3, 1) := by decide +kernel
theorem dX0_signsOnBothSides_39 : decode cX0_signsOnBothSides 39 = .ok (.invokevirtual 100, 3) := by decide +kernel
theorem dX0_signsOnBothSides_42 : decode cX0_signsOnBothSides 42 = .ok (.istore 5, 2) := by decide +kernel
theorem dX0_signsOnBothSides_44 : decode cX0_signsOnBothSides 44 = .ok (.iload 4, 2) := by decide +kernel
theorem dX0_signsOnBothSides_46 : decode cX0_signsOnBothSides 46 = .ok (.bipush 10, 2) := by decide +kernel
theorem dX0_signsOnBothSides_48 : decode cX0_signsOnBothSides 48 = .ok (.if_icmp .eq 13, 3) := by decide +kernel
theorem dX0_signsOnBothSides_51 : decode cX0_signsOnBothSides 51 = .ok (.iload 5, 2) := by decide +kernel
theorem dX0_signsOnBothSides_53 : decode cX0_signsOnBothSides 53 = .ok (.bipush 10, 2) := by decide +kernel
theorem dX0_signsOnBothSides_55 : decode cX0_signsOnBothSides 55 = .ok (.if_icmp .eq 6, 3) := by decide +kernel
theorem dX0_signsOnBothSides_58 : decode cX0_signsOnBothSides 58 = .ok (.iinc 2 1, 3) := by decide +kernel
theorem dX0_signsOnBothSides_61 : decode cX0_signsOnBothSides 61 = .ok (.iinc 3 1, 3) := by decide +kernel
theorem dX0_signsOnBothSides_64 : decode cX0_signsOnBothSides 64 = .ok (.goto (-60), 3) := by decide +kernel
theorem dX0_signsOnBothSides_67 : decode cX0_signsOnBothSides 67 = .ok (.iload_n 2, 1) := by decide +kernel
theorem dX0_signsOnBothSides_68 : decode cX0_signsOnBothSides 68 = .ok (.ireturn, 1) := by decide +kernel
set_option maxRecDepth 20000 in
theorem ggX0_quarrelsOfAll_X0_edgeCount : GoodIn wsX0_quarrelsOfAll wsX0_edgeCount := goodIn_r _ [5, 6, 7, 8, 9, 10, 4, 11, 48, 49, 50, 51, 52, 53, 54, 55, 56, 57] (by decide +kernel) (by decide +kernel)
set_option maxRecDepth 20000 in
theorem gX0_quarrelsOfAll_X0_edgeCount : GoodIn wsX0_quarrelsOfAll (wsV RX0 72 RX0 yX0_edgeCount wsX0_edgeCount) := goodIn_app (goodIn_of _ (by decide +kernel)) ggX0_quarrelsOfAll_X0_edgeCount
set_option maxRecDepth 20000 in
theorem ggX0_quarrelsOfAll_X0_quarrelsOf : GoodIn wsX0_quarrelsOfAll wsX0_quarrelsOf := goodIn_r _ [15, 16, 17, 18, 4, 19, 20, 21, 22, 23, 6, 7, 24, 25, 26, 27, 8, 9, 10, 11, 28, 29, 30, 31, 32, 33, 34, 35, 36, 37, 38, 39, 40, 41, 42, 43, 44, 45, 46, 47, 48, 49, 50, 51, 52, 53, 54, 55, 56, 57] (by decide +kernel) (by decide +kernel)
set_option maxRecDepth 20000 in
theorem gX0_quarrelsOfAll_X0_quarrelsOf : GoodIn wsX0_quarrelsOfAll (wsV RX0 121 RX0 yX0_quarrelsOf wsX0_quarrelsOf) := goodIn_app (goodIn_of _ (by decide +kernel)) ggX0_quarrelsOfAll_X0_quarrelsOf
theorem dX0_quarrelsOfAll_0 : decode cX0_quarrelsOfAll 0 = .ok (.aload_n 0, 1) := by decide +kernel
theorem dX0_quarrelsOfAll_1 : decode cX0_quarrelsOfAll 1 = .ok (.invokevirtual 72, 3) := by decide +kernel
theorem dX0_quarrelsOfAll_4 : decode cX0_quarrelsOfAll 4 = .ok (.istore_n 1, 1) := by decide +kernel
theorem dX0_quarrelsOfAll_5 : decode cX0_quarrelsOfAll 5 = .ok (.iconst 0, 1) := by decide +kernel
theorem dX0_quarrelsOfAll_6 : decode cX0_quarrelsOfAll 6 = .ok (.istore_n 2, 1) := by decide +kernel
theorem dX0_quarrelsOfAll_7 : decode cX0_quarrelsOfAll 7 = .ok (.iconst 0, 1) := by decide +kernel
theorem dX0_quarrelsOfAll_8 : decode cX0_quarrelsOfAll 8 = .ok (.istore_n 3, 1) := by decide +kernel
theorem dX0_quarrelsOfAll_9 : decode cX0_quarrelsOfAll 9 = .ok (.iload_n 3, 1) := by decide +kernel
theorem dX0_quarrelsOfAll_10 : decode cX0_quarrelsOfAll 10 = .ok (.iload_n 1, 1) := by decide +kernel
theorem dX0_quarrelsOfAll_11 : decode cX0_quarrelsOfAll 11 = .ok (.if_icmp .ge 17, 3) := by decide +kernel
theorem dX0_quarrelsOfAll_14 : decode cX0_quarrelsOfAll 14 = .ok (.iload_n 2, 1) := by decide +kernel
theorem dX0_quarrelsOfAll_15 : decode cX0_quarrelsOfAll 15 = .ok (.aload_n 0, 1) := by decide +kernel
theorem dX0_quarrelsOfAll_16 : decode cX0_quarrelsOfAll 16 = .ok (.iload_n 3, 1) := by decide +kernel
theorem dX0_quarrelsOfAll_17 : decode cX0_quarrelsOfAll 17 = .ok (.invokevirtual 121, 3) := by decide +kernel
theorem dX0_quarrelsOfAll_20 : decode cX0_quarrelsOfAll 20 = .ok (.iadd, 1) := by decide +kernel
theorem dX0_quarrelsOfAll_21 : decode cX0_quarrelsOfAll 21 = .ok (.istore_n 2, 1) := by decide +kernel
theorem dX0_quarrelsOfAll_22 : decode cX0_quarrelsOfAll 22 = .ok (.iinc 3 1, 3) := by decide +kernel
theorem dX0_quarrelsOfAll_25 : decode cX0_quarrelsOfAll 25 = .ok (.goto (-16), 3) := by decide +kernel
theorem dX0_quarrelsOfAll_28 : decode cX0_quarrelsOfAll 28 = .ok (.iload_n 2, 1) := by decide +kernel
theorem dX0_quarrelsOfAll_29 : decode cX0_quarrelsOfAll 29 = .ok (.ireturn, 1) := by decide +kernel
set_option maxRecDepth 20000 in
theorem ggX0_cleanEdges_X0_edgeCount : GoodIn wsX0_cleanEdges wsX0_edgeCount := goodIn_r _ [5, 6, 7, 8, 9, 10, 4, 11, 48, 49, 50, 51, 52, 53, 54, 55, 56, 57] (by decide +kernel) (by decide +kernel)
set_option maxRecDepth 20000 in
theorem gX0_cleanEdges_X0_edgeCount : GoodIn wsX0_cleanEdges (wsV RX0 72 RX0 yX0_edgeCount wsX0_edgeCount) := goodIn_app (goodIn_of _ (by decide +kernel)) ggX0_cleanEdges_X0_edgeCount
set_option maxRecDepth 20000 in
theorem ggX0_cleanEdges_X0_quarrelsOf : GoodIn wsX0_cleanEdges wsX0_quarrelsOf := goodIn_r _ [15, 16, 17, 18, 4, 19, 20, 21, 22, 23, 6, 7, 24, 25, 26, 27, 8, 9, 10, 11, 28, 29, 30, 31, 32, 33, 34, 35, 36, 37, 38, 39, 40, 41, 42, 43, 44, 45, 46, 47, 48, 49, 50, 51, 52, 53, 54, 55, 56, 57] (by decide +kernel) (by decide +kernel)
set_option maxRecDepth 20000 in
theorem gX0_cleanEdges_X0_quarrelsOf : GoodIn wsX0_cleanEdges (wsV RX0 121 RX0 yX0_quarrelsOf wsX0_quarrelsOf) := goodIn_app (goodIn_of _ (by decide +kernel)) ggX0_cleanEdges_X0_quarrelsOf
theorem dX0_cleanEdges_0 : decode cX0_cleanEdges 0 = .ok (.aload_n 0, 1) := by decide +kernel
theorem dX0_cleanEdges_1 : decode cX0_cleanEdges 1 = .ok (.invokevirtual 72, 3) := by decide +kernel
theorem dX0_cleanEdges_4 : decode cX0_cleanEdges 4 = .ok (.istore_n 1, 1) := by decide +kernel
theorem dX0_cleanEdges_5 : decode cX0_cleanEdges 5 = .ok (.iconst 0, 1) := by decide +kernel
theorem dX0_cleanEdges_6 : decode cX0_cleanEdges 6 = .ok (.istore_n 2, 1) := by decide +kernel
theorem dX0_cleanEdges_7 : decode cX0_cleanEdges 7 = .ok (.iconst 0, 1) := by decide +kernel
theorem dX0_cleanEdges_8 : decode cX0_cleanEdges 8 = .ok (.istore_n 3, 1) := by decide +kernel
theorem dX0_cleanEdges_9 : decode cX0_cleanEdges 9 = .ok (.iload_n 3, 1) := by decide +kernel
theorem dX0_cleanEdges_10 : decode cX0_cleanEdges 10 = .ok (.iload_n 1, 1) := by decide +kernel
theorem dX0_cleanEdges_11 : decode cX0_cleanEdges 11 = .ok (.if_icmp .ge 20, 3) := by decide +kernel
theorem dX0_cleanEdges_14 : decode cX0_cleanEdges 14 = .ok (.aload_n 0, 1) := by decide +kernel
theorem dX0_cleanEdges_15 : decode cX0_cleanEdges 15 = .ok (.iload_n 3, 1) := by decide +kernel
theorem dX0_cleanEdges_16 : decode cX0_cleanEdges 16 = .ok (.invokevirtual 121, 3) := by decide +kernel
theorem dX0_cleanEdges_19 : decode cX0_cleanEdges 19 = .ok (.ifCond .ne 6, 3) := by decide +kernel
theorem dX0_cleanEdges_22 : decode cX0_cleanEdges 22 = .ok (.iinc 2 1, 3) := by decide +kernel
theorem dX0_cleanEdges_25 : decode cX0_cleanEdges 25 = .ok (.iinc 3 1, 3) := by decide +kernel
theorem dX0_cleanEdges_28 : decode cX0_cleanEdges 28 = .ok (.goto (-19), 3) := by decide +kernel
theorem dX0_cleanEdges_31 : decode cX0_cleanEdges 31 = .ok (.iload_n 2, 1) := by decide +kernel
theorem dX0_cleanEdges_32 : decode cX0_cleanEdges 32 = .ok (.ireturn, 1) := by decide +kernel
set_option maxRecDepth 20000 in
theorem ggX0_isAgreed_X4_valueAt : GoodIn wsX0_isAgreed wsX4_valueAt := goodIn_r _ [4] (by decide +kernel) (by decide +kernel)
set_option maxRecDepth 20000 in
theorem gX0_isAgreed_X4_valueAt_n93 : GoodIn wsX0_isAgreed (wsX4_valueAt) := ggX0_isAgreed_X4_valueAt
theorem dX0_isAgreed_0 : decode cX0_isAgreed 0 = .ok (.aload_n 0, 1) := by decide +kernel
theorem dX0_isAgreed_1 : decode cX0_isAgreed 1 = .ok (.getfield 27, 3) := by decide +kernel
theorem dX0_isAgreed_4 : decode cX0_isAgreed 4 = .ok (.iload_n 1, 1) := by decide +kernel
theorem dX0_isAgreed_5 : decode cX0_isAgreed 5 = .ok (.iconst 0, 1) := by decide +kernel
theorem dX0_isAgreed_6 : decode cX0_isAgreed 6 = .ok (.invokestatic 93, 3) := by decide +kernel
theorem dX0_isAgreed_9 : decode cX0_isAgreed 9 = .ok (.iconst 1, 1) := by decide +kernel
theorem dX0_isAgreed_10 : decode cX0_isAgreed 10 = .ok (.if_icmp .ne 7, 3) := by decide +kernel
theorem dX0_isAgreed_13 : decode cX0_isAgreed 13 = .ok (.iconst 1, 1) := by decide +kernel
theorem dX0_isAgreed_14 : decode cX0_isAgreed 14 = .ok (.goto 4, 3) := by decide +kernel
theorem dX0_isAgreed_17 : decode cX0_isAgreed 17 = .ok (.iconst 0, 1) := by decide +kernel
theorem dX0_isAgreed_18 : decode cX0_isAgreed 18 = .ok (.ireturn, 1) := by decide +kernel
set_option maxRecDepth 20000 in
theorem ggX0_putAgreed_X4_exchange : GoodIn wsX0_putAgreed wsX4_exchange := goodIn_r _ [4] (by decide +kernel) (by decide +kernel)
set_option maxRecDepth 20000 in
theorem gX0_putAgreed_X4_exchange_n97 : GoodIn wsX0_putAgreed (wsX4_exchange) := ggX0_putAgreed_X4_exchange
theorem dX0_putAgreed_0 : decode cX0_putAgreed 0 = .ok (.aload_n 0, 1) := by decide +kernel
theorem dX0_putAgreed_1 : decode cX0_putAgreed 1 = .ok (.getfield 27, 3) := by decide +kernel
theorem dX0_putAgreed_4 : decode cX0_putAgreed 4 = .ok (.iload_n 1, 1) := by decide +kernel
theorem dX0_putAgreed_5 : decode cX0_putAgreed 5 = .ok (.iload_n 2, 1) := by decide +kernel
theorem dX0_putAgreed_6 : decode cX0_putAgreed 6 = .ok (.invokestatic 97, 3) := by decide +kernel
theorem dX0_putAgreed_9 : decode cX0_putAgreed 9 = .ok (.ireturn, 1) := by decide +kernel
set_option maxRecDepth 20000 in
theorem ggX0_agreedEdges_X0_edgeCount : GoodIn wsX0_agreedEdges wsX0_edgeCount := goodIn_r _ [5, 6, 7, 8, 9, 10, 4, 11, 20, 21, 22, 23, 24, 25, 26, 27, 28, 29] (by decide +kernel) (by decide +kernel)
set_option maxRecDepth 20000 in
theorem gX0_agreedEdges_X0_edgeCount : GoodIn wsX0_agreedEdges (wsV RX0 72 RX0 yX0_edgeCount wsX0_edgeCount) := goodIn_app (goodIn_of _ (by decide +kernel)) ggX0_agreedEdges_X0_edgeCount
set_option maxRecDepth 20000 in
theorem ggX0_agreedEdges_X0_isAgreed : GoodIn wsX0_agreedEdges wsX0_isAgreed := goodIn_r _ [15, 16, 17, 18, 19, 20, 21, 22, 23, 24, 25, 26, 27, 28, 29] (by decide +kernel) (by decide +kernel)
set_option maxRecDepth 20000 in
theorem gX0_agreedEdges_X0_isAgreed : GoodIn wsX0_agreedEdges (wsV RX0 124 RX0 yX0_isAgreed wsX0_isAgreed) := goodIn_app (goodIn_of _ (by decide +kernel)) ggX0_agreedEdges_X0_isAgreed
theorem dX0_agreedEdges_0 : decode cX0_agreedEdges 0 = .ok (.aload_n 0, 1) := by decide +kernel
theorem dX0_agreedEdges_1 : decode cX0_agreedEdges 1 = .ok (.invokevirtual 72, 3) := by decide +kernel
theorem dX0_agreedEdges_4 : decode cX0_agreedEdges 4 = .ok (.istore_n 1, 1) := by decide +kernel
theorem dX0_agreedEdges_5 : decode cX0_agreedEdges 5 = .ok (.iconst 0, 1) := by decide +kernel
theorem dX0_agreedEdges_6 : decode cX0_agreedEdges 6 = .ok (.istore_n 2, 1) := by decide +kernel
theorem dX0_agreedEdges_7 : decode cX0_agreedEdges 7 = .ok (.iconst 0, 1) := by decide +kernel
theorem dX0_agreedEdges_8 : decode cX0_agreedEdges 8 = .ok (.istore_n 3, 1) := by decide +kernel
theorem dX0_agreedEdges_9 : decode cX0_agreedEdges 9 = .ok (.iload_n 3, 1) := by decide +kernel
theorem dX0_agreedEdges_10 : decode cX0_agreedEdges 10 = .ok (.iload_n 1, 1) := by decide +kernel
theorem dX0_agreedEdges_11 : decode cX0_agreedEdges 11 = .ok (.if_icmp .ge 20, 3) := by decide +kernel
theorem dX0_agreedEdges_14 : decode cX0_agreedEdges 14 = .ok (.aload_n 0, 1) := by decide +kernel
theorem dX0_agreedEdges_15 : decode cX0_agreedEdges 15 = .ok (.iload_n 3, 1) := by decide +kernel
theorem dX0_agreedEdges_16 : decode cX0_agreedEdges 16 = .ok (.invokevirtual 124, 3) := by decide +kernel
theorem dX0_agreedEdges_19 : decode cX0_agreedEdges 19 = .ok (.ifCond .eq 6, 3) := by decide +kernel
theorem dX0_agreedEdges_22 : decode cX0_agreedEdges 22 = .ok (.iinc 2 1, 3) := by decide +kernel
theorem dX0_agreedEdges_25 : decode cX0_agreedEdges 25 = .ok (.iinc 3 1, 3) := by decide +kernel
theorem dX0_agreedEdges_28 : decode cX0_agreedEdges 28 = .ok (.goto (-19), 3) := by decide +kernel
theorem dX0_agreedEdges_31 : decode cX0_agreedEdges 31 = .ok (.iload_n 2, 1) := by decide +kernel
theorem dX0_agreedEdges_32 : decode cX0_agreedEdges 32 = .ok (.ireturn, 1) := by decide +kernel
set_option maxRecDepth 20000 in
theorem ggX0_agreedEdgesOf_X0_edgeOf : GoodIn wsX0_agreedEdgesOf wsX0_edgeOf := goodIn_r _ [5, 6, 7, 8, 9, 10, 4, 11, 12, 13, 14, 15, 16, 17, 18, 19, 28, 29, 30, 31, 32, 33, 34, 35, 36, 37] (by decide +kernel) (by decide +kernel)
set_option maxRecDepth 20000 in
theorem gX0_agreedEdgesOf_X0_edgeOf : GoodIn wsX0_agreedEdgesOf (wsV RX0 85 RX0 yX0_edgeOf wsX0_edgeOf) := goodIn_app (goodIn_of _ (by decide +kernel)) ggX0_agreedEdgesOf_X0_edgeOf
set_option maxRecDepth 20000 in
theorem ggX0_agreedEdgesOf_X0_isAgreed : GoodIn wsX0_agreedEdgesOf wsX0_isAgreed := goodIn_r _ [23, 24, 25, 26, 27, 28, 29, 30, 31, 32, 33, 34, 35, 36, 37] (by decide +kernel) (by decide +kernel)
set_option maxRecDepth 20000 in
theorem gX0_agreedEdgesOf_X0_isAgreed : GoodIn wsX0_agreedEdgesOf (wsV RX0 124 RX0 yX0_isAgreed wsX0_isAgreed) := goodIn_app (goodIn_of _ (by decide +kernel)) ggX0_agreedEdgesOf_X0_isAgreed
theorem dX0_agreedEdgesOf_0 : decode cX0_agreedEdgesOf 0 = .ok (.iconst 0, 1) := by decide +kernel
theorem dX0_agreedEdgesOf_1 : decode cX0_agreedEdgesOf 1 = .ok (.istore_n 2, 1) := by decide +kernel
theorem dX0_agreedEdgesOf_2 : decode cX0_agreedEdgesOf 2 = .ok (.iconst 0, 1) := by decide +kernel
theorem dX0_agreedEdgesOf_3 : decode cX0_agreedEdgesOf 3 = .ok (.istore_n 3, 1) := by decide +kernel
theorem dX0_agreedEdgesOf_4 : decode cX0_agreedEdgesOf 4 = .ok (.iload_n 3, 1) := by decide +kernel
theorem dX0_agreedEdgesOf_5 : decode cX0_agreedEdgesOf 5 = .ok (.iconst 4, 1) := by decide +kernel
theorem dX0_agreedEdgesOf_6 : decode cX0_agreedEdgesOf 6 = .ok (.if_icmp .ge 25, 3) := by decide +kernel
theorem dX0_agreedEdgesOf_9 : decode cX0_agreedEdgesOf 9 = .ok (.aload_n 0, 1) := by decide +kernel
theorem dX0_agreedEdgesOf_10 : decode cX0_agreedEdgesOf 10 = .ok (.aload_n 0, 1) := by decide +kernel
theorem dX0_agreedEdgesOf_11 : decode cX0_agreedEdgesOf 11 = .ok (.iload_n 1, 1) := by decide +kernel
theorem dX0_agreedEdgesOf_12 : decode cX0_agreedEdgesOf 12 = .ok (.iload_n 3, 1) := by decide +kernel
theorem dX0_agreedEdgesOf_13 : decode cX0_agreedEdgesOf 13 = .ok (.invokevirtual 85, 3) := by decide +kernel
theorem dX0_agreedEdgesOf_16 : decode cX0_agreedEdgesOf 16 = .ok (.invokevirtual 124, 3) := by decide +kernel
theorem dX0_agreedEdgesOf_19 : decode cX0_agreedEdgesOf 19 = .ok (.ifCond .eq 6, 3) := by decide +kernel
theorem dX0_agreedEdgesOf_22 : decode cX0_agreedEdgesOf 22 = .ok (.iinc 2 1, 3) := by decide +kernel
theorem dX0_agreedEdgesOf_25 : decode cX0_agreedEdgesOf 25 = .ok (.iinc 3 1, 3) := by decide +kernel
theorem dX0_agreedEdgesOf_28 : decode cX0_agreedEdgesOf 28 = .ok (.goto (-24), 3) := by decide +kernel
theorem dX0_agreedEdgesOf_31 : decode cX0_agreedEdgesOf 31 = .ok (.iload_n 2, 1) := by decide +kernel
theorem dX0_agreedEdgesOf_32 : decode cX0_agreedEdgesOf 32 = .ok (.ireturn, 1) := by decide +kernel
set_option maxRecDepth 20000 in
theorem ggX0_breaksAgreement_X0_edgeOf : GoodIn wsX0_breaksAgreement wsX0_edgeOf := goodIn_r _ [5, 6, 7, 8, 9, 10, 4, 11, 12, 13, 14, 15, 16, 17, 18, 19, 61, 62, 63, 64, 65, 66, 67, 68, 69, 70] (by decide +kernel) (by decide +kernel)
set_option maxRecDepth 20000 in
theorem gX0_breaksAgreement_X0_edgeOf : GoodIn wsX0_breaksAgreement (wsV RX0 85 RX0 yX0_edgeOf wsX0_edgeOf) := goodIn_app (goodIn_of _ (by decide +kernel)) ggX0_breaksAgreement_X0_edgeOf
set_option maxRecDepth 20000 in
theorem ggX0_breaksAgreement_X0_isAgreed : GoodIn wsX0_breaksAgreement wsX0_isAgreed := goodIn_r _ [23, 24, 25, 26, 27, 61, 62, 63, 64, 65, 66, 67, 68, 69, 70] (by decide +kernel) (by decide +kernel)
set_option maxRecDepth 20000 in
theorem gX0_breaksAgreement_X0_isAgreed : GoodIn wsX0_breaksAgreement (wsV RX0 124 RX0 yX0_isAgreed wsX0_isAgreed) := goodIn_app (goodIn_of _ (by decide +kernel)) ggX0_breaksAgreement_X0_isAgreed
set_option maxRecDepth 20000 in
theorem ggX0_breaksAgreement_X0_quarrelsOf : GoodIn wsX0_breaksAgreement wsX0_quarrelsOf := goodIn_r _ [31, 32, 33, 34, 4, 35, 36, 37, 38, 39, 6, 7, 40, 41, 42, 43, 16, 17, 18, 19, 44, 45, 46, 47, 48, 49, 50, 51, 52, 25, 26, 27, 53, 54, 55, 56, 57, 58, 59, 60, 61, 62, 63, 64, 65, 66, 67, 68, 69, 70] (by decide +kernel) (by decide +kernel)
set_option maxRecDepth 20000 in
theorem gX0_breaksAgreement_X0_quarrelsOf : GoodIn wsX0_breaksAgreement (wsV RX0 121 RX0 yX0_quarrelsOf wsX0_quarrelsOf) := goodIn_app (goodIn_of _ (by decide +kernel)) ggX0_breaksAgreement_X0_quarrelsOf
theorem dX0_breaksAgreement_0 : decode cX0_breaksAgreement 0 = .ok (.iconst 0, 1) := by decide +kernel
theorem dX0_breaksAgreement_1 : decode cX0_breaksAgreement 1 = .ok (.istore_n 2, 1) := by decide +kernel
theorem dX0_breaksAgreement_2 : decode cX0_breaksAgreement 2 = .ok (.iload_n 2, 1) := by decide +kernel
theorem dX0_breaksAgreement_3 : decode cX0_breaksAgreement 3 = .ok (.iconst 4, 1) := by decide +kernel
theorem dX0_breaksAgreement_4 : decode cX0_breaksAgreement 4 = .ok (.if_icmp .ge 34, 3) := by decide +kernel
theorem dX0_breaksAgreement_7 : decode cX0_breaksAgreement 7 = .ok (.aload_n 0, 1) := by decide +kernel
theorem dX0_breaksAgreement_8 : decode cX0_breaksAgreement 8 = .ok (.iload_n 1, 1) := by decide +kernel
theorem dX0_breaksAgreement_9 : decode cX0_breaksAgreement 9 = .ok (.iload_n 2, 1) := by decide +kernel
theorem dX0_breaksAgreement_10 : decode cX0_breaksAgreement 10 = .ok (.invokevirtual 85, 3) := by decide +kernel
theorem dX0_breaksAgreement_13 : decode cX0_breaksAgreement 13 = .ok (.istore_n 3, 1) := by decide +kernel
theorem dX0_breaksAgreement_14 : decode cX0_breaksAgreement 14 = .ok (.aload_n 0, 1) := by decide +kernel
theorem dX0_breaksAgreement_15 : decode cX0_breaksAgreement 15 = .ok (.iload_n 3, 1) := by decide +kernel
theorem dX0_breaksAgreement_16 : decode cX0_breaksAgreement 16 = .ok (.invokevirtual 124, 3) := by decide +kernel
theorem dX0_breaksAgreement_19 : decode cX0_breaksAgreement 19 = .ok (.ifCond .eq 13, 3) := by decide +kernel
theorem dX0_breaksAgreement_22 : decode cX0_breaksAgreement 22 = .ok (.aload_n 0, 1) := by decide +kernel
theorem dX0_breaksAgreement_23 : decode cX0_breaksAgreement 23 = .ok (.iload_n 3, 1) := by decide +kernel
theorem dX0_breaksAgreement_24 : decode cX0_breaksAgreement 24 = .ok (.invokevirtual 121, 3) := by decide +kernel
theorem dX0_breaksAgreement_27 : decode cX0_breaksAgreement 27 = .ok (.ifCond .le 5, 3) := by decide +kernel
theorem dX0_breaksAgreement_30 : decode cX0_breaksAgreement 30 = .ok (.iconst 1, 1) := by decide +kernel
theorem dX0_breaksAgreement_31 : decode cX0_breaksAgreement 31 = .ok (.ireturn, 1) := by decide +kernel
theorem dX0_breaksAgreement_32 : decode cX0_breaksAgreement 32 = .ok (.iinc 2 1, 3) := by decide +kernel
theorem dX0_breaksAgreement_35 : decode cX0_breaksAgreement 35 = .ok (.goto (-33), 3) := by decide +kernel
theorem dX0_breaksAgreement_38 : decode cX0_breaksAgreement 38 = .ok (.iconst 0, 1) := by decide +kernel
theorem dX0_breaksAgreement_39 : decode cX0_breaksAgreement 39 = .ok (.ireturn, 1) := by decide +kernel
set_option maxRecDepth 20000 in
theorem ggX0_dropBrokenAgreements_X0_edgeOf : GoodIn wsX0_dropBrokenAgreements wsX0_edgeOf := goodIn_r _ [5, 6, 7, 8, 9, 10, 4, 11, 12, 13, 14, 15, 16, 17, 18, 19, 67, 68, 69, 70, 71, 72, 73, 74, 75, 76] (by decide +kernel) (by decide +kernel)
set_option maxRecDepth 20000 in
theorem gX0_dropBrokenAgreements_X0_edgeOf : GoodIn wsX0_dropBrokenAgreements (wsV RX0 85 RX0 yX0_edgeOf wsX0_edgeOf) := goodIn_app (goodIn_of _ (by decide +kernel)) ggX0_dropBrokenAgreements_X0_edgeOf
set_option maxRecDepth 20000 in
theorem ggX0_dropBrokenAgreements_X0_isAgreed : GoodIn wsX0_dropBrokenAgreements wsX0_isAgreed := goodIn_r _ [23, 24, 25, 26, 27, 67, 68, 69, 70, 71, 72, 73, 74, 75, 76] (by decide +kernel) (by decide +kernel)
set_option maxRecDepth 20000 in
theorem gX0_dropBrokenAgreements_X0_isAgreed : GoodIn wsX0_dropBrokenAgreements (wsV RX0 124 RX0 yX0_isAgreed wsX0_isAgreed) := goodIn_app (goodIn_of _ (by decide +kernel)) ggX0_dropBrokenAgreements_X0_isAgreed
set_option maxRecDepth 20000 in
theorem ggX0_dropBrokenAgreements_X0_quarrelsOf : GoodIn wsX0_dropBrokenAgreements wsX0_quarrelsOf := goodIn_r _ [31, 32, 33, 34, 4, 35, 36, 37, 38, 39, 6, 7, 40, 41, 42, 43, 16, 17, 18, 19, 44, 45, 46, 47, 48, 49, 50, 51, 52, 25, 26, 27, 53, 54, 55, 56, 57, 58, 59, 60, 67, 68, 69, 70, 71, 72, 73, 74, 75, 76] (by decide +kernel) (by decide +kernel)
set_option maxRecDepth 20000 in
theorem gX0_dropBrokenAgreements_X0_quarrelsOf : GoodIn wsX0_dropBrokenAgreements (wsV RX0 121 RX0 yX0_quarrelsOf wsX0_quarrelsOf) := goodIn_app (goodIn_of _ (by decide +kernel)) ggX0_dropBrokenAgreements_X0_quarrelsOf
set_option maxRecDepth 20000 in
theorem ggX0_dropBrokenAgreements_X0_putAgreed : GoodIn wsX0_dropBrokenAgreements wsX0_putAgreed := goodIn_r _ [64, 24, 65, 26, 66, 67, 68, 69, 70, 71, 72, 73, 74, 75, 76] (by decide +kernel) (by decide +kernel)
set_option maxRecDepth 20000 in
theorem gX0_dropBrokenAgreements_X0_putAgreed : GoodIn wsX0_dropBrokenAgreements (wsV RX0 127 RX0 yX0_putAgreed wsX0_putAgreed) := goodIn_app (goodIn_of _ (by decide +kernel)) ggX0_dropBrokenAgreements_X0_putAgreed
theorem dX0_dropBrokenAgreements_0 : decode cX0_dropBrokenAgreements 0 = .ok (.iconst 0, 1) := by decide +kernel
theorem dX0_dropBrokenAgreements_1 : decode cX0_dropBrokenAgreements 1 = .ok (.istore_n 2, 1) := by decide +kernel
theorem dX0_dropBrokenAgreements_2 : decode cX0_dropBrokenAgreements 2 = .ok (.iload_n 2, 1) := by decide +kernel
theorem dX0_dropBrokenAgreements_3 : decode cX0_dropBrokenAgreements 3 = .ok (.iconst 4, 1) := by decide +kernel
theorem dX0_dropBrokenAgreements_4 : decode cX0_dropBrokenAgreements 4 = .ok (.if_icmp .ge 39, 3) := by decide +kernel
theorem dX0_dropBrokenAgreements_7 : decode cX0_dropBrokenAgreements 7 = .ok (.aload_n 0, 1) := by decide +kernel
theorem dX0_dropBrokenAgreements_8 : decode cX0_dropBrokenAgreements 8 = .ok (.iload_n 1, 1) := by decide +kernel
theorem dX0_dropBrokenAgreements_9 : decode cX0_dropBrokenAgreements 9 = .ok (.iload_n 2, 1) := by decide +kernel
theorem dX0_dropBrokenAgreements_10 : decode cX0_dropBrokenAgreements 10 = .ok (.invokevirtual 85, 3) := by decide +kernel
theorem dX0_dropBrokenAgreements_13 : decode cX0_dropBrokenAgreements 13 = .ok (.istore_n 3, 1) := by decide +kernel
theorem dX0_dropBrokenAgreements_14 : decode cX0_dropBrokenAgreements 14 = .ok (.aload_n 0, 1) := by decide +kernel
theorem dX0_dropBrokenAgreements_15 : decode cX0_dropBrokenAgreements 15 = .ok (.iload_n 3, 1) := by decide +kernel
theorem dX0_dropBrokenAgreements_16 : decode cX0_dropBrokenAgreements 16 = .ok (.invokevirtual 124, 3) := by decide +kernel
theorem dX0_dropBrokenAgreements_19 : decode cX0_dropBrokenAgreements 19 = .ok (.ifCond .eq 18, 3) := by decide +kernel
theorem dX0_dropBrokenAgreements_22 : decode cX0_dropBrokenAgreements 22 = .ok (.aload_n 0, 1) := by decide +kernel
theorem dX0_dropBrokenAgreements_23 : decode cX0_dropBrokenAgreements 23 = .ok (.iload_n 3, 1) := by decide +kernel
theorem dX0_dropBrokenAgreements_24 : decode cX0_dropBrokenAgreements 24 = .ok (.invokevirtual 121, 3) := by decide +kernel
theorem dX0_dropBrokenAgreements_27 : decode cX0_dropBrokenAgreements 27 = .ok (.ifCond .le 10, 3) := by decide +kernel
theorem dX0_dropBrokenAgreements_30 : decode cX0_dropBrokenAgreements 30 = .ok (.aload_n 0, 1) := by decide +kernel
theorem dX0_dropBrokenAgreements_31 : decode cX0_dropBrokenAgreements 31 = .ok (.iload_n 3, 1) := by decide +kernel
theorem dX0_dropBrokenAgreements_32 : decode cX0_dropBrokenAgreements 32 = .ok (.iconst 0, 1) := by decide +kernel
theorem dX0_dropBrokenAgreements_33 : decode cX0_dropBrokenAgreements 33 = .ok (.invokevirtual 127, 3) := by decide +kernel
theorem dX0_dropBrokenAgreements_36 : decode cX0_dropBrokenAgreements 36 = .ok (.pop, 1) := by decide +kernel
theorem dX0_dropBrokenAgreements_37 : decode cX0_dropBrokenAgreements 37 = .ok (.iinc 2 1, 3) := by decide +kernel
theorem dX0_dropBrokenAgreements_40 : decode cX0_dropBrokenAgreements 40 = .ok (.goto (-38), 3) := by decide +kernel
theorem dX0_dropBrokenAgreements_43 : decode cX0_dropBrokenAgreements 43 = .ok (.return_, 1) := by decide +kernel
set_option maxRecDepth 20000 in
theorem ggX0_settleFrom_X0_firstSheet : GoodIn wsX0_settleFrom wsX0_firstSheet := goodIn_r _ [5, 6, 7, 59, 60, 61, 62, 63, 64, 65, 66, 67, 68] (by decide +kernel) (by decide +kernel)
set_option maxRecDepth 20000 in
theorem gX0_settleFrom_X0_firstSheet : GoodIn wsX0_settleFrom (wsV RX0 75 RX0 yX0_firstSheet wsX0_firstSheet) := goodIn_app (goodIn_of _ (by decide +kernel)) ggX0_settleFrom_X0_firstSheet
set_option maxRecDepth 20000 in
theorem ggX0_settleFrom_X0_firstSide : GoodIn wsX0_settleFrom wsX0_firstSide := goodIn_r _ [11, 12, 13, 14, 4, 15, 6, 7, 59, 60, 61, 62, 63, 64, 65, 66, 67, 68] (by decide +kernel) (by decide +kernel)
set_option maxRecDepth 20000 in
theorem gX0_settleFrom_X0_firstSide : GoodIn wsX0_settleFrom (wsV RX0 106 RX0 yX0_firstSide wsX0_firstSide) := goodIn_app (goodIn_of _ (by decide +kernel)) ggX0_settleFrom_X0_firstSide
set_option maxRecDepth 20000 in
theorem ggX0_settleFrom_X0_secondSide : GoodIn wsX0_settleFrom wsX0_secondSide := goodIn_r _ [19, 12, 13, 14, 4, 15, 6, 7, 59, 60, 61, 62, 63, 64, 65, 66, 67, 68] (by decide +kernel) (by decide +kernel)
set_option maxRecDepth 20000 in
theorem gX0_settleFrom_X0_secondSide : GoodIn wsX0_settleFrom (wsV RX0 115 RX0 yX0_secondSide wsX0_secondSide) := goodIn_app (goodIn_of _ (by decide +kernel)) ggX0_settleFrom_X0_secondSide
set_option maxRecDepth 20000 in
theorem ggX0_settleFrom_X0_secondSheet : GoodIn wsX0_settleFrom wsX0_secondSheet := goodIn_r _ [23, 6, 1, 2, 3, 4, 5, 7, 12, 13, 14, 15, 59, 60, 61, 62, 63, 64, 65, 66, 67, 68] (by decide +kernel) (by decide +kernel)
set_option maxRecDepth 20000 in
theorem gX0_settleFrom_X0_secondSheet : GoodIn wsX0_settleFrom (wsV RX0 112 RX0 yX0_secondSheet wsX0_secondSheet) := goodIn_app (goodIn_of _ (by decide +kernel)) ggX0_settleFrom_X0_secondSheet
set_option maxRecDepth 20000 in
theorem ggX0_settleFrom_X0_meaningAt : GoodIn wsX0_settleFrom wsX0_meaningAt := goodIn_r _ [27, 28, 29, 30, 31, 4, 32, 33, 34, 35, 59, 60, 61, 62, 63, 64, 65, 66, 67, 68] (by decide +kernel) (by decide +kernel)
set_option maxRecDepth 20000 in
theorem gX0_settleFrom_X0_meaningAt : GoodIn wsX0_settleFrom (wsV RX0 109 RX0 yX0_meaningAt wsX0_meaningAt) := goodIn_app (goodIn_of _ (by decide +kernel)) ggX0_settleFrom_X0_meaningAt
set_option maxRecDepth 20000 in
theorem ggX0_settleFrom_X0_lowestSign : GoodIn wsX0_settleFrom wsX0_lowestSign := goodIn_r _ [39, 40, 41, 42, 4, 43, 29, 33, 34, 35, 59, 60, 61, 62, 63, 64, 65, 66, 67, 68] (by decide +kernel) (by decide +kernel)
set_option maxRecDepth 20000 in
theorem gX0_settleFrom_X0_lowestSign : GoodIn wsX0_settleFrom (wsV RX0 130 RX0 yX0_lowestSign wsX0_lowestSign) := goodIn_app (goodIn_of _ (by decide +kernel)) ggX0_settleFrom_X0_lowestSign
set_option maxRecDepth 20000 in
theorem ggX0_settleFrom_X0_putSign : GoodIn wsX0_settleFrom wsX0_putSign := goodIn_r _ [47, 28, 30, 31, 4, 32, 48, 34, 49, 59, 60, 61, 62, 63, 64, 65, 66, 67, 68] (by decide +kernel) (by decide +kernel)
set_option maxRecDepth 20000 in
theorem gX0_settleFrom_X0_putSign : GoodIn wsX0_settleFrom (wsV RX0 133 RX0 yX0_putSign wsX0_putSign) := goodIn_app (goodIn_of _ (by decide +kernel)) ggX0_settleFrom_X0_putSign
set_option maxRecDepth 20000 in
theorem ggX0_settleFrom_X0_addRevision : GoodIn wsX0_settleFrom wsX0_addRevision := goodIn_r _ [53, 54, 55, 56, 57, 4, 58, 33, 34, 35, 48, 49, 59, 60, 61, 62, 63, 64, 65, 66, 67, 68] (by decide +kernel) (by decide +kernel)
set_option maxRecDepth 20000 in
theorem gX0_settleFrom_X0_addRevision : GoodIn wsX0_settleFrom (wsV RX0 137 RX0 yX0_addRevision wsX0_addRevision) := goodIn_app (goodIn_of _ (by decide +kernel)) ggX0_settleFrom_X0_addRevision
theorem dX0_settleFrom_0 : decode cX0_settleFrom 0 = .ok (.iload_n 2, 1) := by decide +kernel
theorem dX0_settleFrom_1 : decode cX0_settleFrom 1 = .ok (.aload_n 0, 1) := by decide +kernel
theorem dX0_settleFrom_2 : decode cX0_settleFrom 2 = .ok (.iload_n 1, 1) := by decide +kernel
theorem dX0_settleFrom_3 : decode cX0_settleFrom 3 = .ok (.invokevirtual 75, 3) := by decide +kernel
theorem dX0_settleFrom_6 : decode cX0_settleFrom 6 = .ok (.if_icmp .ne 7, 3) := by decide +kernel
theorem dX0_settleFrom_9 : decode cX0_settleFrom 9 = .ok (.iconst 1, 1) := by decide +kernel
theorem dX0_settleFrom_10 : decode cX0_settleFrom 10 = .ok (.goto 4, 3) := by decide +kernel
theorem dX0_settleFrom_13 : decode cX0_settleFrom 13 = .ok (.iconst 0, 1) := by decide +kernel
theorem dX0_settleFrom_14 : decode cX0_settleFrom 14 = .ok (.istore_n 3, 1) := by decide +kernel
theorem dX0_settleFrom_15 : decode cX0_settleFrom 15 = .ok (.iload_n 3, 1) := by decide +kernel
theorem dX0_settleFrom_16 : decode cX0_settleFrom 16 = .ok (.ifCond .eq 11, 3) := by decide +kernel
theorem dX0_settleFrom_19 : decode cX0_settleFrom 19 = .ok (.aload_n 0, 1) := by decide +kernel
theorem dX0_settleFrom_20 : decode cX0_settleFrom 20 = .ok (.iload_n 1, 1) := by decide +kernel
theorem dX0_settleFrom_21 : decode cX0_settleFrom 21 = .ok (.invokevirtual 106, 3) := by decide +kernel
theorem dX0_settleFrom_24 : decode cX0_settleFrom 24 = .ok (.goto 8, 3) := by decide +kernel
theorem dX0_settleFrom_27 : decode cX0_settleFrom 27 = .ok (.aload_n 0, 1) := by decide +kernel
theorem dX0_settleFrom_28 : decode cX0_settleFrom 28 = .ok (.iload_n 1, 1) := by decide +kernel
theorem dX0_settleFrom_29 : decode cX0_settleFrom 29 = .ok (.invokevirtual 115, 3) := by decide +kernel
theorem dX0_settleFrom_32 : decode cX0_settleFrom 32 = .ok (.istore 4, 2) := by decide +kernel
theorem dX0_settleFrom_34 : decode cX0_settleFrom 34 = .ok (.iload_n 3, 1) := by decide +kernel
theorem dX0_settleFrom_35 : decode cX0_settleFrom 35 = .ok (.ifCond .eq 11, 3) := by decide +kernel
theorem dX0_settleFrom_38 : decode cX0_settleFrom 38 = .ok (.aload_n 0, 1) := by decide +kernel
theorem dX0_settleFrom_39 : decode cX0_settleFrom 39 = .ok (.iload_n 1, 1) := by decide +kernel
theorem dX0_settleFrom_40 : decode cX0_settleFrom 40 = .ok (.invokevirtual 112, 3) := by decide +kernel
theorem dX0_settleFrom_43 : decode cX0_settleFrom 43 = .ok (.goto 8, 3) := by decide +kernel
theorem dX0_settleFrom_46 : decode cX0_settleFrom 46 = .ok (.aload_n 0, 1) := by decide +kernel
theorem dX0_settleFrom_47 : decode cX0_settleFrom 47 = .ok (.iload_n 1, 1) := by decide +kernel
theorem dX0_settleFrom_48 : decode cX0_settleFrom 48 = .ok (.invokevirtual 75, 3) := by decide +kernel
theorem dX0_settleFrom_51 : decode cX0_settleFrom 51 = .ok (.istore 5, 2) := by decide +kernel
theorem dX0_settleFrom_53 : decode cX0_settleFrom 53 = .ok (.iload_n 3, 1) := by decide +kernel
theorem dX0_settleFrom_54 : decode cX0_settleFrom 54 = .ok (.ifCond .eq 11, 3) := by decide +kernel
theorem dX0_settleFrom_57 : decode cX0_settleFrom 57 = .ok (.aload_n 0, 1) := by decide +kernel
theorem dX0_settleFrom_58 : decode cX0_settleFrom 58 = .ok (.iload_n 1, 1) := by decide +kernel
theorem dX0_settleFrom_59 : decode cX0_settleFrom 59 = .ok (.invokevirtual 115, 3) := by decide +kernel
theorem dX0_settleFrom_62 : decode cX0_settleFrom 62 = .ok (.goto 8, 3) := by decide +kernel
theorem dX0_settleFrom_65 : decode cX0_settleFrom 65 = .ok (.aload_n 0, 1) := by decide +kernel
theorem dX0_settleFrom_66 : decode cX0_settleFrom 66 = .ok (.iload_n 1, 1) := by decide +kernel
theorem dX0_settleFrom_67 : decode cX0_settleFrom 67 = .ok (.invokevirtual 106, 3) := by decide +kernel
theorem dX0_settleFrom_70 : decode cX0_settleFrom 70 = .ok (.istore 6, 2) := by decide +kernel
theorem dX0_settleFrom_72 : decode cX0_settleFrom 72 = .ok (.iconst 0, 1) := by decide +kernel
theorem dX0_settleFrom_73 : decode cX0_settleFrom 73 = .ok (.istore 7, 2) := by decide +kernel
theorem dX0_settleFrom_75 : decode cX0_settleFrom 75 = .ok (.iconst 0, 1) := by decide +kernel
theorem dX0_settleFrom_76 : decode cX0_settleFrom 76 = .ok (.istore 8, 2) := by decide +kernel
theorem dX0_settleFrom_78 : decode cX0_settleFrom 78 = .ok (.iload 8, 2) := by decide +kernel
theorem dX0_settleFrom_80 : decode cX0_settleFrom 80 = .ok (.bipush 10, 2) := by decide +kernel
theorem dX0_settleFrom_82 : decode cX0_settleFrom 82 = .ok (.if_icmp .ge 86, 3) := by decide +kernel
theorem dX0_settleFrom_85 : decode cX0_settleFrom 85 = .ok (.aload_n 0, 1) := by decide +kernel
theorem dX0_settleFrom_86 : decode cX0_settleFrom 86 = .ok (.iload_n 2, 1) := by decide +kernel
theorem dX0_settleFrom_87 : decode cX0_settleFrom 87 = .ok (.iload 4, 2) := by decide +kernel
theorem dX0_settleFrom_89 : decode cX0_settleFrom 89 = .ok (.iload 8, 2) := by decide +kernel
theorem dX0_settleFrom_91 : decode cX0_settleFrom 91 = .ok (.invokevirtual 109, 3) := by decide +kernel
theorem dX0_settleFrom_94 : decode cX0_settleFrom 94 = .ok (.istore 9, 2) := by decide +kernel
theorem dX0_settleFrom_96 : decode cX0_settleFrom 96 = .ok (.iload 9, 2) := by decide +kernel
theorem dX0_settleFrom_98 : decode cX0_settleFrom 98 = .ok (.aload_n 0, 1) := by decide +kernel
theorem dX0_settleFrom_99 : decode cX0_settleFrom 99 = .ok (.iload 5, 2) := by decide +kernel
theorem dX0_settleFrom_101 : decode cX0_settleFrom 101 = .ok (.iload 6, 2) := by decide +kernel
theorem dX0_settleFrom_103 : decode cX0_settleFrom 103 = .ok (.iload 8, 2) := by decide +kernel
theorem dX0_settleFrom_105 : decode cX0_settleFrom 105 = .ok (.invokevirtual 109, 3) := by decide +kernel
theorem dX0_settleFrom_108 : decode cX0_settleFrom 108 = .ok (.if_icmp .ne 6, 3) := by decide +kernel
theorem dX0_settleFrom_111 : decode cX0_settleFrom 111 = .ok (.goto 51, 3) := by decide +kernel
theorem dX0_settleFrom_114 : decode cX0_settleFrom 114 = .ok (.iload 9, 2) := by decide +kernel
theorem dX0_settleFrom_116 : decode cX0_settleFrom 116 = .ok (.bipush (-4), 2) := by decide +kernel
theorem dX0_settleFrom_118 : decode cX0_settleFrom 118 = .ok (.if_icmp .ne 8, 3) := by decide +kernel
theorem dX0_settleFrom_121 : decode cX0_settleFrom 121 = .ok (.bipush 10, 2) := by decide +kernel
theorem dX0_settleFrom_123 : decode cX0_settleFrom 123 = .ok (.goto 11, 3) := by decide +kernel
theorem dX0_settleFrom_126 : decode cX0_settleFrom 126 = .ok (.aload_n 0, 1) := by decide +kernel
theorem dX0_settleFrom_127 : decode cX0_settleFrom 127 = .ok (.iload 5, 2) := by decide +kernel
theorem dX0_settleFrom_129 : decode cX0_settleFrom 129 = .ok (.iload 9, 2) := by decide +kernel
theorem dX0_settleFrom_131 : decode cX0_settleFrom 131 = .ok (.invokevirtual 130, 3) := by decide +kernel
theorem dX0_settleFrom_134 : decode cX0_settleFrom 134 = .ok (.istore 10, 2) := by decide +kernel
theorem dX0_settleFrom_136 : decode cX0_settleFrom 136 = .ok (.iload 10, 2) := by decide +kernel
theorem dX0_settleFrom_138 : decode cX0_settleFrom 138 = .ok (.bipush (-4), 2) := by decide +kernel
theorem dX0_settleFrom_140 : decode cX0_settleFrom 140 = .ok (.if_icmp .ne 6, 3) := by decide +kernel
theorem dX0_settleFrom_143 : decode cX0_settleFrom 143 = .ok (.bipush (-2), 2) := by decide +kernel
theorem dX0_settleFrom_145 : decode cX0_settleFrom 145 = .ok (.ireturn, 1) := by decide +kernel
theorem dX0_settleFrom_146 : decode cX0_settleFrom 146 = .ok (.aload_n 0, 1) := by decide +kernel
theorem dX0_settleFrom_147 : decode cX0_settleFrom 147 = .ok (.iload 5, 2) := by decide +kernel
theorem dX0_settleFrom_149 : decode cX0_settleFrom 149 = .ok (.iload 6, 2) := by decide +kernel
theorem dX0_settleFrom_151 : decode cX0_settleFrom 151 = .ok (.iload 8, 2) := by decide +kernel
theorem dX0_settleFrom_153 : decode cX0_settleFrom 153 = .ok (.iload 10, 2) := by decide +kernel
theorem dX0_settleFrom_155 : decode cX0_settleFrom 155 = .ok (.invokevirtual 133, 3) := by decide +kernel
theorem dX0_settleFrom_158 : decode cX0_settleFrom 158 = .ok (.pop, 1) := by decide +kernel
theorem dX0_settleFrom_159 : decode cX0_settleFrom 159 = .ok (.iinc 7 1, 3) := by decide +kernel
theorem dX0_settleFrom_162 : decode cX0_settleFrom 162 = .ok (.iinc 8 1, 3) := by decide +kernel
theorem dX0_settleFrom_165 : decode cX0_settleFrom 165 = .ok (.goto (-87), 3) := by decide +kernel
theorem dX0_settleFrom_168 : decode cX0_settleFrom 168 = .ok (.iload 7, 2) := by decide +kernel
theorem dX0_settleFrom_170 : decode cX0_settleFrom 170 = .ok (.ifCond .le 9, 3) := by decide +kernel
theorem dX0_settleFrom_173 : decode cX0_settleFrom 173 = .ok (.aload_n 0, 1) := by decide +kernel
theorem dX0_settleFrom_174 : decode cX0_settleFrom 174 = .ok (.iload 5, 2) := by decide +kernel
theorem dX0_settleFrom_176 : decode cX0_settleFrom 176 = .ok (.invokevirtual 137, 3) := by decide +kernel
theorem dX0_settleFrom_179 : decode cX0_settleFrom 179 = .ok (.iload 7, 2) := by decide +kernel
theorem dX0_settleFrom_181 : decode cX0_settleFrom 181 = .ok (.ireturn, 1) := by decide +kernel
set_option maxRecDepth 20000 in
theorem ggX0_revisionOf_X4_valueAt : GoodIn wsX0_revisionOf wsX4_valueAt := goodIn_r _ [4] (by decide +kernel) (by decide +kernel)
set_option maxRecDepth 20000 in
theorem gX0_revisionOf_X4_valueAt_n93 : GoodIn wsX0_revisionOf (wsX4_valueAt) := ggX0_revisionOf_X4_valueAt
theorem dX0_revisionOf_0 : decode cX0_revisionOf 0 = .ok (.aload_n 0, 1) := by decide +kernel
theorem dX0_revisionOf_1 : decode cX0_revisionOf 1 = .ok (.getfield 18, 3) := by decide +kernel
theorem dX0_revisionOf_4 : decode cX0_revisionOf 4 = .ok (.iload_n 1, 1) := by decide +kernel
theorem dX0_revisionOf_5 : decode cX0_revisionOf 5 = .ok (.iconst 0, 1) := by decide +kernel
theorem dX0_revisionOf_6 : decode cX0_revisionOf 6 = .ok (.invokestatic 93, 3) := by decide +kernel
theorem dX0_revisionOf_9 : decode cX0_revisionOf 9 = .ok (.ireturn, 1) := by decide +kernel
set_option maxRecDepth 20000 in
theorem ggX0_addRevision_X0_revisionOf : GoodIn wsX0_addRevision wsX0_revisionOf := goodIn_r _ [6, 1, 7, 8, 9, 12, 13, 14, 15, 16, 17, 18, 19, 20, 21] (by decide +kernel) (by decide +kernel)
set_option maxRecDepth 20000 in
theorem gX0_addRevision_X0_revisionOf : GoodIn wsX0_addRevision (wsV RX0 141 RX0 yX0_revisionOf wsX0_revisionOf) := goodIn_app (goodIn_of _ (by decide +kernel)) ggX0_addRevision_X0_revisionOf
set_option maxRecDepth 20000 in
theorem ggX0_addRevision_X4_exchange : GoodIn wsX0_addRevision wsX4_exchange := goodIn_r _ [11] (by decide +kernel) (by decide +kernel)
set_option maxRecDepth 20000 in
theorem gX0_addRevision_X4_exchange_n97 : GoodIn wsX0_addRevision (wsX4_exchange) := ggX0_addRevision_X4_exchange
theorem dX0_addRevision_0 : decode cX0_addRevision 0 = .ok (.aload_n 0, 1) := by decide +kernel
theorem dX0_addRevision_1 : decode cX0_addRevision 1 = .ok (.getfield 18, 3) := by decide +kernel
theorem dX0_addRevision_4 : decode cX0_addRevision 4 = .ok (.iload_n 1, 1) := by decide +kernel
theorem dX0_addRevision_5 : decode cX0_addRevision 5 = .ok (.aload_n 0, 1) := by decide +kernel
theorem dX0_addRevision_6 : decode cX0_addRevision 6 = .ok (.iload_n 1, 1) := by decide +kernel
theorem dX0_addRevision_7 : decode cX0_addRevision 7 = .ok (.invokevirtual 141, 3) := by decide +kernel
theorem dX0_addRevision_10 : decode cX0_addRevision 10 = .ok (.iconst 1, 1) := by decide +kernel
theorem dX0_addRevision_11 : decode cX0_addRevision 11 = .ok (.iadd, 1) := by decide +kernel
theorem dX0_addRevision_12 : decode cX0_addRevision 12 = .ok (.invokestatic 97, 3) := by decide +kernel
theorem dX0_addRevision_15 : decode cX0_addRevision 15 = .ok (.pop, 1) := by decide +kernel
theorem dX0_addRevision_16 : decode cX0_addRevision 16 = .ok (.return_, 1) := by decide +kernel
set_option maxRecDepth 20000 in
theorem ggX0_publishedOf_X4_valueAt : GoodIn wsX0_publishedOf wsX4_valueAt := goodIn_r _ [4] (by decide +kernel) (by decide +kernel)
set_option maxRecDepth 20000 in
theorem gX0_publishedOf_X4_valueAt_n93 : GoodIn wsX0_publishedOf (wsX4_valueAt) := ggX0_publishedOf_X4_valueAt
theorem dX0_publishedOf_0 : decode cX0_publishedOf 0 = .ok (.aload_n 0, 1) := by decide +kernel
theorem dX0_publishedOf_1 : decode cX0_publishedOf 1 = .ok (.getfield 21, 3) := by decide +kernel
theorem dX0_publishedOf_4 : decode cX0_publishedOf 4 = .ok (.iload_n 1, 1) := by decide +kernel
theorem dX0_publishedOf_5 : decode cX0_publishedOf 5 = .ok (.iconst (-1), 1) := by decide +kernel
theorem dX0_publishedOf_6 : decode cX0_publishedOf 6 = .ok (.invokestatic 93, 3) := by decide +kernel
theorem dX0_publishedOf_9 : decode cX0_publishedOf 9 = .ok (.ireturn, 1) := by decide +kernel
set_option maxRecDepth 20000 in
theorem ggX0_publishRevision_X0_revisionOf : GoodIn wsX0_publishRevision wsX0_revisionOf := goodIn_r _ [6, 7, 8, 9, 10, 13, 14, 15, 16, 17, 18, 19, 20, 21, 22] (by decide +kernel) (by decide +kernel)
set_option maxRecDepth 20000 in
theorem gX0_publishRevision_X0_revisionOf : GoodIn wsX0_publishRevision (wsV RX0 141 RX0 yX0_revisionOf wsX0_revisionOf) := goodIn_app (goodIn_of _ (by decide +kernel)) ggX0_publishRevision_X0_revisionOf
set_option maxRecDepth 20000 in
theorem ggX0_publishRevision_X4_exchange : GoodIn wsX0_publishRevision wsX4_exchange := goodIn_r _ [12] (by decide +kernel) (by decide +kernel)
set_option maxRecDepth 20000 in
theorem gX0_publishRevision_X4_exchange_n97 : GoodIn wsX0_publishRevision (wsX4_exchange) := ggX0_publishRevision_X4_exchange
theorem dX0_publishRevision_0 : decode cX0_publishRevision 0 = .ok (.aload_n 0, 1) := by decide +kernel
theorem dX0_publishRevision_1 : decode cX0_publishRevision 1 = .ok (.getfield 21, 3) := by decide +kernel
theorem dX0_publishRevision_4 : decode cX0_publishRevision 4 = .ok (.iload_n 1, 1) := by decide +kernel
theorem dX0_publishRevision_5 : decode cX0_publishRevision 5 = .ok (.aload_n 0, 1) := by decide +kernel
theorem dX0_publishRevision_6 : decode cX0_publishRevision 6 = .ok (.iload_n 1, 1) := by decide +kernel
theorem dX0_publishRevision_7 : decode cX0_publishRevision 7 = .ok (.invokevirtual 141, 3) := by decide +kernel
theorem dX0_publishRevision_10 : decode cX0_publishRevision 10 = .ok (.invokestatic 97, 3) := by decide +kernel
theorem dX0_publishRevision_13 : decode cX0_publishRevision 13 = .ok (.pop, 1) := by decide +kernel
theorem dX0_publishRevision_14 : decode cX0_publishRevision 14 = .ok (.return_, 1) := by decide +kernel
set_option maxRecDepth 20000 in
theorem ggX0_isPublished_X0_publishedOf : GoodIn wsX0_isPublished wsX0_publishedOf := goodIn_r _ [5, 6, 7, 8, 9, 10, 11, 12, 13, 14, 15, 16, 17, 18, 19] (by decide +kernel) (by decide +kernel)
set_option maxRecDepth 20000 in
theorem gX0_isPublished_X0_publishedOf : GoodIn wsX0_isPublished (wsV RX0 144 RX0 yX0_publishedOf wsX0_publishedOf) := goodIn_app (goodIn_of _ (by decide +kernel)) ggX0_isPublished_X0_publishedOf
theorem dX0_isPublished_0 : decode cX0_isPublished 0 = .ok (.aload_n 0, 1) := by decide +kernel
theorem dX0_isPublished_1 : decode cX0_isPublished 1 = .ok (.iload_n 1, 1) := by decide +kernel
theorem dX0_isPublished_2 : decode cX0_isPublished 2 = .ok (.invokevirtual 144, 3) := by decide +kernel
theorem dX0_isPublished_5 : decode cX0_isPublished 5 = .ok (.iconst (-1), 1) := by decide +kernel
theorem dX0_isPublished_6 : decode cX0_isPublished 6 = .ok (.if_icmp .eq 7, 3) := by decide +kernel
theorem dX0_isPublished_9 : decode cX0_isPublished 9 = .ok (.iconst 1, 1) := by decide +kernel
theorem dX0_isPublished_10 : decode cX0_isPublished 10 = .ok (.goto 4, 3) := by decide +kernel
theorem dX0_isPublished_13 : decode cX0_isPublished 13 = .ok (.iconst 0, 1) := by decide +kernel
theorem dX0_isPublished_14 : decode cX0_isPublished 14 = .ok (.ireturn, 1) := by decide +kernel
set_option maxRecDepth 20000 in
theorem ggX0_isUpToDate_X0_isPublished : GoodIn wsX0_isUpToDate wsX0_isPublished := goodIn_r _ [5, 6, 7, 8, 4, 9, 10, 11, 12, 13, 19, 20, 21, 22, 23, 24, 25, 26, 27, 28] (by decide +kernel) (by decide +kernel)
set_option maxRecDepth 20000 in
theorem gX0_isUpToDate_X0_isPublished : GoodIn wsX0_isUpToDate (wsV RX0 147 RX0 yX0_isPublished wsX0_isPublished) := goodIn_app (goodIn_of _ (by decide +kernel)) ggX0_isUpToDate_X0_isPublished
set_option maxRecDepth 20000 in
theorem ggX0_isUpToDate_X0_publishedOf : GoodIn wsX0_isUpToDate wsX0_publishedOf := goodIn_r _ [9, 10, 11, 12, 13, 19, 20, 21, 22, 23, 24, 25, 26, 27, 28] (by decide +kernel) (by decide +kernel)
set_option maxRecDepth 20000 in
theorem gX0_isUpToDate_X0_publishedOf : GoodIn wsX0_isUpToDate (wsV RX0 144 RX0 yX0_publishedOf wsX0_publishedOf) := goodIn_app (goodIn_of _ (by decide +kernel)) ggX0_isUpToDate_X0_publishedOf
set_option maxRecDepth 20000 in
theorem ggX0_isUpToDate_X0_revisionOf : GoodIn wsX0_isUpToDate wsX0_revisionOf := goodIn_r _ [17, 18, 11, 12, 13, 19, 20, 21, 22, 23, 24, 25, 26, 27, 28] (by decide +kernel) (by decide +kernel)
set_option maxRecDepth 20000 in
theorem gX0_isUpToDate_X0_revisionOf : GoodIn wsX0_isUpToDate (wsV RX0 141 RX0 yX0_revisionOf wsX0_revisionOf) := goodIn_app (goodIn_of _ (by decide +kernel)) ggX0_isUpToDate_X0_revisionOf
theorem dX0_isUpToDate_0 : decode cX0_isUpToDate 0 = .ok (.aload_n 0, 1) := by decide +kernel
theorem dX0_isUpToDate_1 : decode cX0_isUpToDate 1 = .ok (.iload_n 1, 1) := by decide +kernel
theorem dX0_isUpToDate_2 : decode cX0_isUpToDate 2 = .ok (.invokevirtual 147, 3) := by decide +kernel
theorem dX0_isUpToDate_5 : decode cX0_isUpToDate 5 = .ok (.ifCond .eq 20, 3) := by decide +kernel
theorem dX0_isUpToDate_8 : decode cX0_isUpToDate 8 = .ok (.aload_n 0, 1) := by decide +kernel
theorem dX0_isUpToDate_9 : decode cX0_isUpToDate 9 = .ok (.iload_n 1, 1) := by decide +kernel
theorem dX0_isUpToDate_10 : decode cX0_isUpToDate 10 = .ok (.invokevirtual 144, 3) := by decide +kernel
theorem dX0_isUpToDate_13 : decode cX0_isUpToDate 13 = .ok (.aload_n 0, 1) := by decide +kernel
theorem dX0_isUpToDate_14 : decode cX0_isUpToDate 14 = .ok (.iload_n 1, 1) := by decide +kernel
theorem dX0_isUpToDate_15 : decode cX0_isUpToDate 15 = .ok (.invokevirtual 141, 3) := by decide +kernel
theorem dX0_isUpToDate_18 : decode cX0_isUpToDate 18 = .ok (.if_icmp .ne 7, 3) := by decide +kernel
theorem dX0_isUpToDate_21 : decode cX0_isUpToDate 21 = .ok (.iconst 1, 1) := by decide +kernel
theorem dX0_isUpToDate_22 : decode cX0_isUpToDate 22 = .ok (.goto 4, 3) := by decide +kernel
theorem dX0_isUpToDate_25 : decode cX0_isUpToDate 25 = .ok (.iconst 0, 1) := by decide +kernel
theorem dX0_isUpToDate_26 : decode cX0_isUpToDate 26 = .ok (.ireturn, 1) := by decide +kernel
set_option maxRecDepth 20000 in
theorem ggX0_publishedSheets_X0_sheetCount : GoodIn wsX0_publishedSheets wsX0_sheetCount := goodIn_r _ [5, 6, 7, 20, 21, 22, 23, 24, 25, 26, 27, 28, 29] (by decide +kernel) (by decide +kernel)
set_option maxRecDepth 20000 in
theorem gX0_publishedSheets_X0_sheetCount : GoodIn wsX0_publishedSheets (wsV RX0 57 RX0 yX0_sheetCount wsX0_sheetCount) := goodIn_app (goodIn_of _ (by decide +kernel)) ggX0_publishedSheets_X0_sheetCount
set_option maxRecDepth 20000 in
theorem ggX0_publishedSheets_X0_isPublished : GoodIn wsX0_publishedSheets wsX0_isPublished := goodIn_r _ [11, 12, 13, 14, 4, 15, 16, 17, 18, 19, 20, 21, 22, 23, 24, 25, 26, 27, 28, 29] (by decide +kernel) (by decide +kernel)
set_option maxRecDepth 20000 in
theorem gX0_publishedSheets_X0_isPublished : GoodIn wsX0_publishedSheets (wsV RX0 147 RX0 yX0_isPublished wsX0_isPublished) := goodIn_app (goodIn_of _ (by decide +kernel)) ggX0_publishedSheets_X0_isPublished
theorem dX0_publishedSheets_0 : decode cX0_publishedSheets 0 = .ok (.aload_n 0, 1) := by decide +kernel
theorem dX0_publishedSheets_1 : decode cX0_publishedSheets 1 = .ok (.invokevirtual 57, 3) := by decide +kernel
theorem dX0_publishedSheets_4 : decode cX0_publishedSheets 4 = .ok (.istore_n 1, 1) := by decide +kernel
theorem dX0_publishedSheets_5 : decode cX0_publishedSheets 5 = .ok (.iconst 0, 1) := by decide +kernel
theorem dX0_publishedSheets_6 : decode cX0_publishedSheets 6 = .ok (.istore_n 2, 1) := by decide +kernel
theorem dX0_publishedSheets_7 : decode cX0_publishedSheets 7 = .ok (.iconst 0, 1) := by decide +kernel
theorem dX0_publishedSheets_8 : decode cX0_publishedSheets 8 = .ok (.istore_n 3, 1) := by decide +kernel
theorem dX0_publishedSheets_9 : decode cX0_publishedSheets 9 = .ok (.iload_n 3, 1) := by decide +kernel
theorem dX0_publishedSheets_10 : decode cX0_publishedSheets 10 = .ok (.iload_n 1, 1) := by decide +kernel
theorem dX0_publishedSheets_11 : decode cX0_publishedSheets 11 = .ok (.if_icmp .ge 20, 3) := by decide +kernel
theorem dX0_publishedSheets_14 : decode cX0_publishedSheets 14 = .ok (.aload_n 0, 1) := by decide +kernel
theorem dX0_publishedSheets_15 : decode cX0_publishedSheets 15 = .ok (.iload_n 3, 1) := by decide +kernel
theorem dX0_publishedSheets_16 : decode cX0_publishedSheets 16 = .ok (.invokevirtual 147, 3) := by decide +kernel
theorem dX0_publishedSheets_19 : decode cX0_publishedSheets 19 = .ok (.ifCond .eq 6, 3) := by decide +kernel
theorem dX0_publishedSheets_22 : decode cX0_publishedSheets 22 = .ok (.iinc 2 1, 3) := by decide +kernel
theorem dX0_publishedSheets_25 : decode cX0_publishedSheets 25 = .ok (.iinc 3 1, 3) := by decide +kernel
theorem dX0_publishedSheets_28 : decode cX0_publishedSheets 28 = .ok (.goto (-19), 3) := by decide +kernel
theorem dX0_publishedSheets_31 : decode cX0_publishedSheets 31 = .ok (.iload_n 2, 1) := by decide +kernel
theorem dX0_publishedSheets_32 : decode cX0_publishedSheets 32 = .ok (.ireturn, 1) := by decide +kernel
set_option maxRecDepth 20000 in
theorem ggX0_sheetsUpToDate_X0_sheetCount : GoodIn wsX0_sheetsUpToDate wsX0_sheetCount := goodIn_r _ [5, 6, 7, 29, 30, 31, 32, 33, 34, 35, 36, 37, 38] (by decide +kernel) (by decide +kernel)
set_option maxRecDepth 20000 in
theorem gX0_sheetsUpToDate_X0_sheetCount : GoodIn wsX0_sheetsUpToDate (wsV RX0 57 RX0 yX0_sheetCount wsX0_sheetCount) := goodIn_app (goodIn_of _ (by decide +kernel)) ggX0_sheetsUpToDate_X0_sheetCount
set_option maxRecDepth 20000 in
theorem ggX0_sheetsUpToDate_X0_isUpToDate : GoodIn wsX0_sheetsUpToDate wsX0_isUpToDate := goodIn_r _ [11, 12, 13, 14, 4, 15, 16, 17, 18, 19, 20, 21, 22, 23, 24, 25, 26, 27, 28, 29, 30, 31, 32, 33, 34, 35, 36, 37, 38] (by decide +kernel) (by decide +kernel)
set_option maxRecDepth 20000 in
theorem gX0_sheetsUpToDate_X0_isUpToDate : GoodIn wsX0_sheetsUpToDate (wsV RX0 150 RX0 yX0_isUpToDate wsX0_isUpToDate) := goodIn_app (goodIn_of _ (by decide +kernel)) ggX0_sheetsUpToDate_X0_isUpToDate
theorem dX0_sheetsUpToDate_0 : decode cX0_sheetsUpToDate 0 = .ok (.aload_n 0, 1) := by decide +kernel
theorem dX0_sheetsUpToDate_1 : decode cX0_sheetsUpToDate 1 = .ok (.invokevirtual 57, 3) := by decide +kernel
theorem dX0_sheetsUpToDate_4 : decode cX0_sheetsUpToDate 4 = .ok (.istore_n 1, 1) := by decide +kernel
theorem dX0_sheetsUpToDate_5 : decode cX0_sheetsUpToDate 5 = .ok (.iconst 0, 1) := by decide +kernel
theorem dX0_sheetsUpToDate_6 : decode cX0_sheetsUpToDate 6 = .ok (.istore_n 2, 1) := by decide +kernel
theorem dX0_sheetsUpToDate_7 : decode cX0_sheetsUpToDate 7 = .ok (.iconst 0, 1) := by decide +kernel
theorem dX0_sheetsUpToDate_8 : decode cX0_sheetsUpToDate 8 = .ok (.istore_n 3, 1) := by decide +kernel
theorem dX0_sheetsUpToDate_9 : decode cX0_sheetsUpToDate 9 = .ok (.iload_n 3, 1) := by decide +kernel
theorem dX0_sheetsUpToDate_10 : decode cX0_sheetsUpToDate 10 = .ok (.iload_n 1, 1) := by decide +kernel
theorem dX0_sheetsUpToDate_11 : decode cX0_sheetsUpToDate 11 = .ok (.if_icmp .ge 20, 3) := by decide +kernel
theorem dX0_sheetsUpToDate_14 : decode cX0_sheetsUpToDate 14 = .ok (.aload_n 0, 1) := by decide +kernel
theorem dX0_sheetsUpToDate_15 : decode cX0_sheetsUpToDate 15 = .ok (.iload_n 3, 1) := by decide +kernel
theorem dX0_sheetsUpToDate_16 : decode cX0_sheetsUpToDate 16 = .ok (.invokevirtual 150, 3) := by decide +kernel
theorem dX0_sheetsUpToDate_19 : decode cX0_sheetsUpToDate 19 = .ok (.ifCond .eq 6, 3) := by decide +kernel
theorem dX0_sheetsUpToDate_22 : decode cX0_sheetsUpToDate 22 = .ok (.iinc 2 1, 3) := by decide +kernel
theorem dX0_sheetsUpToDate_25 : decode cX0_sheetsUpToDate 25 = .ok (.iinc 3 1, 3) := by decide +kernel
theorem dX0_sheetsUpToDate_28 : decode cX0_sheetsUpToDate 28 = .ok (.goto (-19), 3) := by decide +kernel
theorem dX0_sheetsUpToDate_31 : decode cX0_sheetsUpToDate 31 = .ok (.iload_n 2, 1) := by decide +kernel
theorem dX0_sheetsUpToDate_32 : decode cX0_sheetsUpToDate 32 = .ok (.ireturn, 1) := by decide +kernel
set_option maxRecDepth 20000 in
theorem ggX0_scaleOf_X4_valueAt : GoodIn wsX0_scaleOf wsX4_valueAt := goodIn_r _ [4] (by decide +kernel) (by decide +kernel)
set_option maxRecDepth 20000 in
theorem gX0_scaleOf_X4_valueAt_n93 : GoodIn wsX0_scaleOf (wsX4_valueAt) := ggX0_scaleOf_X4_valueAt
theorem dX0_scaleOf_0 : decode cX0_scaleOf 0 = .ok (.aload_n 0, 1) := by decide +kernel
theorem dX0_scaleOf_1 : decode cX0_scaleOf 1 = .ok (.getfield 24, 3) := by decide +kernel
theorem dX0_scaleOf_4 : decode cX0_scaleOf 4 = .ok (.iload_n 1, 1) := by decide +kernel
theorem dX0_scaleOf_5 : decode cX0_scaleOf 5 = .ok (.sipush 1000, 3) := by decide +kernel
theorem dX0_scaleOf_8 : decode cX0_scaleOf 8 = .ok (.invokestatic 93, 3) := by decide +kernel
theorem dX0_scaleOf_11 : decode cX0_scaleOf 11 = .ok (.ireturn, 1) := by decide +kernel
set_option maxRecDepth 20000 in
theorem ggX0_putScale_X4_exchange : GoodIn wsX0_putScale wsX4_exchange := goodIn_r _ [4] (by decide +kernel) (by decide +kernel)
set_option maxRecDepth 20000 in
theorem gX0_putScale_X4_exchange_n97 : GoodIn wsX0_putScale (wsX4_exchange) := ggX0_putScale_X4_exchange
theorem dX0_putScale_0 : decode cX0_putScale 0 = .ok (.aload_n 0, 1) := by decide +kernel
theorem dX0_putScale_1 : decode cX0_putScale 1 = .ok (.getfield 24, 3) := by decide +kernel
theorem dX0_putScale_4 : decode cX0_putScale 4 = .ok (.iload_n 1, 1) := by decide +kernel
theorem dX0_putScale_5 : decode cX0_putScale 5 = .ok (.iload_n 2, 1) := by decide +kernel
theorem dX0_putScale_6 : decode cX0_putScale 6 = .ok (.invokestatic 97, 3) := by decide +kernel
theorem dX0_putScale_9 : decode cX0_putScale 9 = .ok (.ireturn, 1) := by decide +kernel
set_option maxRecDepth 20000 in
theorem ggX0_floatScale_X0_scaleOf : GoodIn wsX0_floatScale wsX0_scaleOf := goodIn_r _ [6, 7, 8, 9, 10, 11, 12, 13, 14, 15, 16, 17, 18, 19, 20] (by decide +kernel) (by decide +kernel)
set_option maxRecDepth 20000 in
theorem gX0_floatScale_X0_scaleOf : GoodIn wsX0_floatScale (wsV RX0 153 RX0 yX0_scaleOf wsX0_scaleOf) := goodIn_app (goodIn_of _ (by decide +kernel)) ggX0_floatScale_X0_scaleOf
theorem dX0_floatScale_0 : decode cX0_floatScale 0 = .ok (.aload_n 0, 1) := by decide +kernel
theorem dX0_floatScale_1 : decode cX0_floatScale 1 = .ok (.iload_n 1, 1) := by decide +kernel
theorem dX0_floatScale_2 : decode cX0_floatScale 2 = .ok (.invokevirtual 153, 3) := by decide +kernel
theorem dX0_floatScale_5 : decode cX0_floatScale 5 = .ok (.i2f, 1) := by decide +kernel
theorem dX0_floatScale_6 : decode cX0_floatScale 6 = .ok (.ldc 156, 2) := by decide +kernel
theorem dX0_floatScale_8 : decode cX0_floatScale 8 = .ok (.fdiv, 1) := by decide +kernel
theorem dX0_floatScale_9 : decode cX0_floatScale 9 = .ok (.freturn, 1) := by decide +kernel
set_option maxRecDepth 20000 in
theorem ggX0_ratioOf_X0_secondSheet : GoodIn wsX0_ratioOf wsX0_secondSheet := goodIn_r _ [5, 6, 7, 8, 9, 4, 10, 11, 12, 13, 14, 15, 29, 30, 31, 32, 33, 34, 35, 36, 37, 38] (by decide +kernel) (by decide +kernel)
set_option maxRecDepth 20000 in
theorem gX0_ratioOf_X0_secondSheet : GoodIn wsX0_ratioOf (wsV RX0 112 RX0 yX0_secondSheet wsX0_secondSheet) := goodIn_app (goodIn_of _ (by decide +kernel)) ggX0_ratioOf_X0_secondSheet
set_option maxRecDepth 20000 in
theorem ggX0_ratioOf_X0_floatScale : GoodIn wsX0_ratioOf wsX0_floatScale := goodIn_r _ [19, 20, 21, 22, 23, 4, 24, 25, 26, 27, 28, 29, 30, 31, 32, 33, 34, 35, 36, 37, 38] (by decide +kernel) (by decide +kernel)
set_option maxRecDepth 20000 in
theorem gX0_ratioOf_X0_floatScale : GoodIn wsX0_ratioOf (wsV RX0 157 RX0 yX0_floatScale wsX0_floatScale) := goodIn_app (goodIn_of _ (by decide +kernel)) ggX0_ratioOf_X0_floatScale
set_option maxRecDepth 20000 in
theorem ggX0_ratioOf_X0_firstSheet : GoodIn wsX0_ratioOf wsX0_firstSheet := goodIn_r _ [10, 6, 11, 29, 30, 31, 32, 33, 34, 35, 36, 37, 38] (by decide +kernel) (by decide +kernel)
set_option maxRecDepth 20000 in
theorem gX0_ratioOf_X0_firstSheet : GoodIn wsX0_ratioOf (wsV RX0 75 RX0 yX0_firstSheet wsX0_firstSheet) := goodIn_app (goodIn_of _ (by decide +kernel)) ggX0_ratioOf_X0_firstSheet
theorem dX0_ratioOf_0 : decode cX0_ratioOf 0 = .ok (.aload_n 0, 1) := by decide +kernel
theorem dX0_ratioOf_1 : decode cX0_ratioOf 1 = .ok (.aload_n 0, 1) := by decide +kernel
theorem dX0_ratioOf_2 : decode cX0_ratioOf 2 = .ok (.iload_n 1, 1) := by decide +kernel
theorem dX0_ratioOf_3 : decode cX0_ratioOf 3 = .ok (.invokevirtual 112, 3) := by decide +kernel
theorem dX0_ratioOf_6 : decode cX0_ratioOf 6 = .ok (.invokevirtual 157, 3) := by decide +kernel
theorem dX0_ratioOf_9 : decode cX0_ratioOf 9 = .ok (.fstore_n 2, 1) := by decide +kernel
theorem dX0_ratioOf_10 : decode cX0_ratioOf 10 = .ok (.fload_n 2, 1) := by decide +kernel
theorem dX0_ratioOf_11 : decode cX0_ratioOf 11 = .ok (.fconst 0, 1) := by decide +kernel
theorem dX0_ratioOf_12 : decode cX0_ratioOf 12 = .ok (.fcmp .l, 1) := by decide +kernel
theorem dX0_ratioOf_13 : decode cX0_ratioOf 13 = .ok (.ifCond .le 17, 3) := by decide +kernel
theorem dX0_ratioOf_16 : decode cX0_ratioOf 16 = .ok (.aload_n 0, 1) := by decide +kernel
theorem dX0_ratioOf_17 : decode cX0_ratioOf 17 = .ok (.aload_n 0, 1) := by decide +kernel
theorem dX0_ratioOf_18 : decode cX0_ratioOf 18 = .ok (.iload_n 1, 1) := by decide +kernel
theorem dX0_ratioOf_19 : decode cX0_ratioOf 19 = .ok (.invokevirtual 75, 3) := by decide +kernel
theorem dX0_ratioOf_22 : decode cX0_ratioOf 22 = .ok (.invokevirtual 157, 3) := by decide +kernel
theorem dX0_ratioOf_25 : decode cX0_ratioOf 25 = .ok (.fload_n 2, 1) := by decide +kernel
theorem dX0_ratioOf_26 : decode cX0_ratioOf 26 = .ok (.fdiv, 1) := by decide +kernel
theorem dX0_ratioOf_27 : decode cX0_ratioOf 27 = .ok (.goto 4, 3) := by decide +kernel
theorem dX0_ratioOf_30 : decode cX0_ratioOf 30 = .ok (.fconst 1, 1) := by decide +kernel
theorem dX0_ratioOf_31 : decode cX0_ratioOf 31 = .ok (.freturn, 1) := by decide +kernel
set_option maxRecDepth 20000 in
theorem ggX0_isFitting_X0_ratioOf : GoodIn wsX0_isFitting wsX0_ratioOf := goodIn_r _ [7, 8, 9, 10, 6, 11, 12, 13, 14, 15, 16, 17, 18, 19, 20, 21, 22, 23, 24, 25, 26, 27, 28, 29, 30, 31, 32, 33, 34, 35, 36, 37, 38, 39, 40, 41, 42, 43, 44] (by decide +kernel) (by decide +kernel)
set_option maxRecDepth 20000 in
theorem gX0_isFitting_X0_ratioOf : GoodIn wsX0_isFitting (wsV RX0 161 RX0 yX0_ratioOf wsX0_ratioOf) := goodIn_app (goodIn_of _ (by decide +kernel)) ggX0_isFitting_X0_ratioOf
theorem dX0_isFitting_0 : decode cX0_isFitting 0 = .ok (.aload_n 0, 1) := by decide +kernel
theorem dX0_isFitting_1 : decode cX0_isFitting 1 = .ok (.iload_n 1, 1) := by decide +kernel
theorem dX0_isFitting_2 : decode cX0_isFitting 2 = .ok (.invokevirtual 161, 3) := by decide +kernel
theorem dX0_isFitting_5 : decode cX0_isFitting 5 = .ok (.f2d, 1) := by decide +kernel
theorem dX0_isFitting_6 : decode cX0_isFitting 6 = .ok (.dconst 1, 1) := by decide +kernel
theorem dX0_isFitting_7 : decode cX0_isFitting 7 = .ok (.dsub, 1) := by decide +kernel
theorem dX0_isFitting_8 : decode cX0_isFitting 8 = .ok (.dstore_n 2, 1) := by decide +kernel
theorem dX0_isFitting_9 : decode cX0_isFitting 9 = .ok (.dload_n 2, 1) := by decide +kernel
theorem dX0_isFitting_10 : decode cX0_isFitting 10 = .ok (.dconst 0, 1) := by decide +kernel
theorem dX0_isFitting_11 : decode cX0_isFitting 11 = .ok (.dcmp .g, 1) := by decide +kernel
theorem dX0_isFitting_12 : decode cX0_isFitting 12 = .ok (.ifCond .ge 8, 3) := by decide +kernel
theorem dX0_isFitting_15 : decode cX0_isFitting 15 = .ok (.dload_n 2, 1) := by decide +kernel
theorem dX0_isFitting_16 : decode cX0_isFitting 16 = .ok (.dneg, 1) := by decide +kernel
theorem dX0_isFitting_17 : decode cX0_isFitting 17 = .ok (.goto 4, 3) := by decide +kernel
theorem dX0_isFitting_20 : decode cX0_isFitting 20 = .ok (.dload_n 2, 1) := by decide +kernel
theorem dX0_isFitting_21 : decode cX0_isFitting 21 = .ok (.dstore 4, 2) := by decide +kernel
theorem dX0_isFitting_23 : decode cX0_isFitting 23 = .ok (.dload 4, 2) := by decide +kernel
theorem dX0_isFitting_25 : decode cX0_isFitting 25 = .ok (.aload_n 0, 1) := by decide +kernel
theorem dX0_isFitting_26 : decode cX0_isFitting 26 = .ok (.getfield 34, 3) := by decide +kernel
theorem dX0_isFitting_29 : decode cX0_isFitting 29 = .ok (.i2d, 1) := by decide +kernel
theorem dX0_isFitting_30 : decode cX0_isFitting 30 = .ok (.ldc2_w 164, 3) := by decide +kernel
theorem dX0_isFitting_33 : decode cX0_isFitting 33 = .ok (.ddiv, 1) := by decide +kernel
theorem dX0_isFitting_34 : decode cX0_isFitting 34 = .ok (.dcmp .g, 1) := by decide +kernel
theorem dX0_isFitting_35 : decode cX0_isFitting 35 = .ok (.ifCond .gt 7, 3) := by decide +kernel
theorem dX0_isFitting_38 : decode cX0_isFitting 38 = .ok (.iconst 1, 1) := by decide +kernel
theorem dX0_isFitting_39 : decode cX0_isFitting 39 = .ok (.goto 4, 3) := by decide +kernel
theorem dX0_isFitting_42 : decode cX0_isFitting 42 = .ok (.iconst 0, 1) := by decide +kernel
theorem dX0_isFitting_43 : decode cX0_isFitting 43 = .ok (.ireturn, 1) := by decide +kernel
set_option maxRecDepth 20000 in
theorem ggX0_fittingEdges_X0_edgeCount : GoodIn wsX0_fittingEdges wsX0_edgeCount := goodIn_r _ [5, 6, 7, 8, 9, 10, 4, 11, 43, 44, 45, 46, 47, 48, 49, 50, 51, 52] (by decide +kernel) (by decide +kernel)
set_option maxRecDepth 20000 in
theorem gX0_fittingEdges_X0_edgeCount : GoodIn wsX0_fittingEdges (wsV RX0 72 RX0 yX0_edgeCount wsX0_edgeCount) := goodIn_app (goodIn_of _ (by decide +kernel)) ggX0_fittingEdges_X0_edgeCount
set_option maxRecDepth 20000 in
theorem ggX0_fittingEdges_X0_isFitting : GoodIn wsX0_fittingEdges wsX0_isFitting := goodIn_r _ [15, 16, 17, 18, 19, 20, 4, 21, 22, 23, 24, 25, 6, 26, 27, 28, 29, 7, 8, 9, 10, 11, 30, 31, 32, 33, 34, 35, 36, 37, 38, 39, 40, 41, 42, 43, 44, 45, 46, 47, 48, 49, 50, 51, 52] (by decide +kernel) (by decide +kernel)
set_option maxRecDepth 20000 in
theorem gX0_fittingEdges_X0_isFitting : GoodIn wsX0_fittingEdges (wsV RX0 166 RX0 yX0_isFitting wsX0_isFitting) := goodIn_app (goodIn_of _ (by decide +kernel)) ggX0_fittingEdges_X0_isFitting
theorem dX0_fittingEdges_0 : decode cX0_fittingEdges 0 = .ok (.aload_n 0, 1) := by decide +kernel
theorem dX0_fittingEdges_1 : decode cX0_fittingEdges 1 = .ok (.invokevirtual 72, 3) := by decide +kernel
theorem dX0_fittingEdges_4 : decode cX0_fittingEdges 4 = .ok (.istore_n 1, 1) := by decide +kernel
theorem dX0_fittingEdges_5 : decode cX0_fittingEdges 5 = .ok (.iconst 0, 1) := by decide +kernel
theorem dX0_fittingEdges_6 : decode cX0_fittingEdges 6 = .ok (.istore_n 2, 1) := by decide +kernel
theorem dX0_fittingEdges_7 : decode cX0_fittingEdges 7 = .ok (.iconst 0, 1) := by decide +kernel
theorem dX0_fittingEdges_8 : decode cX0_fittingEdges 8 = .ok (.istore_n 3, 1) := by decide +kernel
theorem dX0_fittingEdges_9 : decode cX0_fittingEdges 9 = .ok (.iload_n 3, 1) := by decide +kernel
theorem dX0_fittingEdges_10 : decode cX0_fittingEdges 10 = .ok (.iload_n 1, 1) := by decide +kernel
theorem dX0_fittingEdges_11 : decode cX0_fittingEdges 11 = .ok (.if_icmp .ge 20, 3) := by decide +kernel
theorem dX0_fittingEdges_14 : decode cX0_fittingEdges 14 = .ok (.aload_n 0, 1) := by decide +kernel
theorem dX0_fittingEdges_15 : decode cX0_fittingEdges 15 = .ok (.iload_n 3, 1) := by decide +kernel
theorem dX0_fittingEdges_16 : decode cX0_fittingEdges 16 = .ok (.invokevirtual 166, 3) := by decide +kernel
theorem dX0_fittingEdges_19 : decode cX0_fittingEdges 19 = .ok (.ifCond .eq 6, 3) := by decide +kernel
theorem dX0_fittingEdges_22 : decode cX0_fittingEdges 22 = .ok (.iinc 2 1, 3) := by decide +kernel
theorem dX0_fittingEdges_25 : decode cX0_fittingEdges 25 = .ok (.iinc 3 1, 3) := by decide +kernel
theorem dX0_fittingEdges_28 : decode cX0_fittingEdges 28 = .ok (.goto (-19), 3) := by decide +kernel
theorem dX0_fittingEdges_31 : decode cX0_fittingEdges 31 = .ok (.iload_n 2, 1) := by decide +kernel
theorem dX0_fittingEdges_32 : decode cX0_fittingEdges 32 = .ok (.ireturn, 1) := by decide +kernel
end
section
theorem inlX1 : ∀ w ∈ wsX10, w ∈ wsL_law := fun _ h => List.mem_append_left _ (List.mem_append_left _ (List.mem_append_right _ h))
theorem inX1 : ∀ w ∈ wsX10, w ∈ lw_tbl := fun w h => wsL_law_in w (inlX1 w h)
theorem inlX2 : ∀ w ∈ wsX20, w ∈ wsL_law := fun _ h => List.mem_append_left _ (List.mem_append_left _ (List.mem_append_left _ (List.mem_append_right _ h)))
theorem inX2 : ∀ w ∈ wsX20, w ∈ lw_tbl := fun w h => wsL_law_in w (inlX2 w h)
theorem inlX3 : ∀ w ∈ wsX30, w ∈ wsL_law := fun _ h => List.mem_append_left _ (List.mem_append_right _ h)
theorem inX3 : ∀ w ∈ wsX30, w ∈ lw_tbl := fun w h => wsL_law_in w (inlX3 w h)
theorem inJ9 : ∀ w ∈ wsJ90, w ∈ lw_tbl := by decide +kernel
theorem inJ10 : ∀ w ∈ wsJ100, w ∈ lw_tbl := by decide +kernel
theorem inJ7 : ∀ w ∈ wsJ70, w ∈ lw_tbl := by decide +kernel
theorem dX1_init_0 : decode cX1_init 0 = .ok (.aload_n 0, 1) := by decide +kernel
theorem dX1_init_1 : decode cX1_init 1 = .ok (.invokespecial 3, 3) := by decide +kernel
theorem dX1_init_4 : decode cX1_init 4 = .ok (.aload_n 0, 1) := by decide +kernel
theorem dX1_init_5 : decode cX1_init 5 = .ok (.bipush 36, 2) := by decide +kernel
theorem dX1_init_7 : decode cX1_init 7 = .ok (.newarray .int, 2) := by decide +kernel
theorem dX1_init_9 : decode cX1_init 9 = .ok (.putfield 9, 3) := by decide +kernel
theorem dX1_init_12 : decode cX1_init 12 = .ok (.return_, 1) := by decide +kernel
set_option maxRecDepth 20000 in
theorem ggX1_find_X0_edgeCount : GoodIn wsX1_find wsX0_edgeCount := goodIn_r _ [13, 14, 15, 16, 17, 18, 12, 19, 51, 52, 53, 54, 55, 56, 57, 58, 59, 60] (by decide +kernel) (by decide +kernel)
set_option maxRecDepth 20000 in
theorem gX1_find_X0_edgeCount : GoodIn wsX1_find (wsV RX1 15 RX0 yX0_edgeCount wsX0_edgeCount) := goodIn_app (goodIn_of _ (by decide +kernel)) ggX1_find_X0_edgeCount
set_option maxRecDepth 20000 in
theorem ggX1_find_X0_sheetCount : GoodIn wsX1_find wsX0_sheetCount := goodIn_r _ [23, 14, 15, 51, 52, 53, 54, 55, 56, 57, 58, 59, 60] (by decide +kernel) (by decide +kernel)
set_option maxRecDepth 20000 in
theorem gX1_find_X0_sheetCount : GoodIn wsX1_find (wsV RX1 21 RX0 yX0_sheetCount wsX0_sheetCount) := goodIn_app (goodIn_of _ (by decide +kernel)) ggX1_find_X0_sheetCount
set_option maxRecDepth 20000 in
theorem ggX1_find_X0_isAgreed : GoodIn wsX1_find wsX0_isAgreed := goodIn_r _ [27, 28, 29, 30, 31, 51, 52, 53, 54, 55, 56, 57, 58, 59, 60] (by decide +kernel) (by decide +kernel)
set_option maxRecDepth 20000 in
theorem gX1_find_X0_isAgreed : GoodIn wsX1_find (wsV RX1 24 RX0 yX0_isAgreed wsX0_isAgreed) := goodIn_app (goodIn_of _ (by decide +kernel)) ggX1_find_X0_isAgreed
set_option maxRecDepth 20000 in
theorem ggX1_find_X0_firstSheet : GoodIn wsX1_find wsX0_firstSheet := goodIn_r _ [35, 14, 15, 51, 52, 53, 54, 55, 56, 57, 58, 59, 60] (by decide +kernel) (by decide +kernel)
set_option maxRecDepth 20000 in
theorem gX1_find_X0_firstSheet : GoodIn wsX1_find (wsV RX1 28 RX0 yX0_firstSheet wsX0_firstSheet) := goodIn_app (goodIn_of _ (by decide +kernel)) ggX1_find_X0_firstSheet
set_option maxRecDepth 20000 in
theorem ggX1_find_X1_lowestOf : GoodIn wsX1_find wsX1_lowestOf := goodIn_r _ [40, 1, 29, 30, 31, 50] (by decide +kernel) (by decide +kernel)
set_option maxRecDepth 20000 in
theorem gX1_find_X1_lowestOf : GoodIn wsX1_find (wsV RX1 32 RX1 yX1_lowestOf wsX1_lowestOf) := goodIn_app (goodIn_of _ (by decide +kernel)) ggX1_find_X1_lowestOf
set_option maxRecDepth 20000 in
theorem ggX1_find_X0_secondSheet : GoodIn wsX1_find wsX0_secondSheet := goodIn_r _ [44, 14, 45, 33, 34, 12, 35, 15, 16, 17, 18, 19, 51, 52, 53, 54, 55, 56, 57, 58, 59, 60] (by decide +kernel) (by decide +kernel)
set_option maxRecDepth 20000 in
theorem gX1_find_X0_secondSheet : GoodIn wsX1_find (wsV RX1 35 RX0 yX0_secondSheet wsX0_secondSheet) := goodIn_app (goodIn_of _ (by decide +kernel)) ggX1_find_X0_secondSheet
set_option maxRecDepth 20000 in
theorem ggX1_find_X1_join : GoodIn wsX1_find wsX1_join := goodIn_r _ [49, 1, 50] (by decide +kernel) (by decide +kernel)
set_option maxRecDepth 20000 in
theorem gX1_find_X1_join : GoodIn wsX1_find (wsV RX1 47 RX1 yX1_join wsX1_join) := goodIn_app (goodIn_of _ (by decide +kernel)) ggX1_find_X1_join
theorem dX1_find_0 : decode cX1_find 0 = .ok (.iconst 0, 1) := by decide +kernel
theorem dX1_find_1 : decode cX1_find 1 = .ok (.istore_n 2, 1) := by decide +kernel
theorem dX1_find_2 : decode cX1_find 2 = .ok (.iload_n 2, 1) := by decide +kernel
theorem dX1_find_3 : decode cX1_find 3 = .ok (.aload_n 0, 1) := by decide +kernel
theorem dX1_find_4 : decode cX1_find 4 = .ok (.getfield 9, 3) := by decide +kernel
theorem dX1_find_7 : decode cX1_find 7 = .ok (.arraylength, 1) := by decide +kernel
theorem dX1_find_8 : decode cX1_find 8 = .ok (.if_icmp .ge 16, 3) := by decide +kernel
theorem dX1_find_11 : decode cX1_find 11 = .ok (.aload_n 0, 1) := by decide +kernel
theorem dX1_find_12 : decode cX1_find 12 = .ok (.getfield 9, 3) := by decide +kernel
theorem dX1_find_15 : decode cX1_find 15 = .ok (.iload_n 2, 1) := by decide +kernel
theorem dX1_find_16 : decode cX1_find 16 = .ok (.iload_n 2, 1) := by decide +kernel
theorem dX1_find_17 : decode cX1_find 17 = .ok (.iastore, 1) := by decide +kernel
theorem dX1_find_18 : decode cX1_find 18 = .ok (.iinc 2 1, 3) := by decide +kernel
theorem dX1_find_21 : decode cX1_find 21 = .ok (.goto (-19), 3) := by decide +kernel
theorem dX1_find_24 : decode cX1_find 24 = .ok (.aload_n 1, 1) := by decide +kernel
theorem dX1_find_25 : decode cX1_find 25 = .ok (.invokevirtual 15, 3) := by decide +kernel
theorem dX1_find_28 : decode cX1_find 28 = .ok (.istore_n 2, 1) := by decide +kernel
theorem dX1_find_29 : decode cX1_find 29 = .ok (.aload_n 1, 1) := by decide +kernel
theorem dX1_find_30 : decode cX1_find 30 = .ok (.invokevirtual 21, 3) := by decide +kernel
theorem dX1_find_33 : decode cX1_find 33 = .ok (.istore_n 3, 1) := by decide +kernel
theorem dX1_find_34 : decode cX1_find 34 = .ok (.iconst 0, 1) := by decide +kernel
theorem dX1_find_35 : decode cX1_find 35 = .ok (.istore 4, 2) := by decide +kernel
theorem dX1_find_37 : decode cX1_find 37 = .ok (.iload 4, 2) := by decide +kernel
theorem dX1_find_39 : decode cX1_find 39 = .ok (.iload_n 2, 1) := by decide +kernel
theorem dX1_find_40 : decode cX1_find 40 = .ok (.if_icmp .ge 73, 3) := by decide +kernel
theorem dX1_find_43 : decode cX1_find 43 = .ok (.aload_n 1, 1) := by decide +kernel
theorem dX1_find_44 : decode cX1_find 44 = .ok (.iload 4, 2) := by decide +kernel
theorem dX1_find_46 : decode cX1_find 46 = .ok (.invokevirtual 24, 3) := by decide +kernel
theorem dX1_find_49 : decode cX1_find 49 = .ok (.ifCond .ne 6, 3) := by decide +kernel
theorem dX1_find_52 : decode cX1_find 52 = .ok (.goto 55, 3) := by decide +kernel
theorem dX1_find_55 : decode cX1_find 55 = .ok (.aload_n 0, 1) := by decide +kernel
theorem dX1_find_56 : decode cX1_find 56 = .ok (.aload_n 1, 1) := by decide +kernel
theorem dX1_find_57 : decode cX1_find 57 = .ok (.iload 4, 2) := by decide +kernel
theorem dX1_find_59 : decode cX1_find 59 = .ok (.invokevirtual 28, 3) := by decide +kernel
theorem dX1_find_62 : decode cX1_find 62 = .ok (.invokevirtual 32, 3) := by decide +kernel
theorem dX1_find_65 : decode cX1_find 65 = .ok (.istore 5, 2) := by decide +kernel
theorem dX1_find_67 : decode cX1_find 67 = .ok (.aload_n 0, 1) := by decide +kernel
theorem dX1_find_68 : decode cX1_find 68 = .ok (.aload_n 1, 1) := by decide +kernel
theorem dX1_find_69 : decode cX1_find 69 = .ok (.iload 4, 2) := by decide +kernel
theorem dX1_find_71 : decode cX1_find 71 = .ok (.invokevirtual 35, 3) := by decide +kernel
theorem dX1_find_74 : decode cX1_find 74 = .ok (.invokevirtual 32, 3) := by decide +kernel
theorem dX1_find_77 : decode cX1_find 77 = .ok (.istore 6, 2) := by decide +kernel
theorem dX1_find_79 : decode cX1_find 79 = .ok (.iload 5, 2) := by decide +kernel
theorem dX1_find_81 : decode cX1_find 81 = .ok (.iload 6, 2) := by decide +kernel
theorem dX1_find_83 : decode cX1_find 83 = .ok (.if_icmp .eq 24, 3) := by decide +kernel
theorem dX1_find_86 : decode cX1_find 86 = .ok (.aload_n 0, 1) := by decide +kernel
theorem dX1_find_87 : decode cX1_find 87 = .ok (.iload 5, 2) := by decide +kernel
theorem dX1_find_89 : decode cX1_find 89 = .ok (.iload 6, 2) := by decide +kernel
theorem dX1_find_91 : decode cX1_find 91 = .ok (.invokestatic 38, 3) := by decide +kernel
theorem dX1_find_94 : decode cX1_find 94 = .ok (.iload 5, 2) := by decide +kernel
theorem dX1_find_96 : decode cX1_find 96 = .ok (.iload 6, 2) := by decide +kernel
theorem dX1_find_98 : decode cX1_find 98 = .ok (.invokestatic 44, 3) := by decide +kernel
theorem dX1_find_101 : decode cX1_find 101 = .ok (.invokevirtual 47, 3) := by decide +kernel
theorem dX1_find_104 : decode cX1_find 104 = .ok (.iinc 3 (-1), 3) := by decide +kernel
theorem dX1_find_107 : decode cX1_find 107 = .ok (.iinc 4 1, 3) := by decide +kernel
theorem dX1_find_110 : decode cX1_find 110 = .ok (.goto (-73), 3) := by decide +kernel
theorem dX1_find_113 : decode cX1_find 113 = .ok (.iload_n 3, 1) := by decide +kernel
theorem dX1_find_114 : decode cX1_find 114 = .ok (.ireturn, 1) := by decide +kernel
set_option maxRecDepth 20000 in
theorem ggX1_lowestOf_X4_valueAt : GoodIn wsX1_lowestOf wsX4_valueAt := goodIn_r _ [4] (by decide +kernel) (by decide +kernel)
set_option maxRecDepth 20000 in
theorem gX1_lowestOf_X4_valueAt_n51 : GoodIn wsX1_lowestOf (wsX4_valueAt) := ggX1_lowestOf_X4_valueAt
theorem dX1_lowestOf_0 : decode cX1_lowestOf 0 = .ok (.aload_n 0, 1) := by decide +kernel
theorem dX1_lowestOf_1 : decode cX1_lowestOf 1 = .ok (.getfield 9, 3) := by decide +kernel
theorem dX1_lowestOf_4 : decode cX1_lowestOf 4 = .ok (.iload_n 1, 1) := by decide +kernel
theorem dX1_lowestOf_5 : decode cX1_lowestOf 5 = .ok (.iload_n 1, 1) := by decide +kernel
theorem dX1_lowestOf_6 : decode cX1_lowestOf 6 = .ok (.invokestatic 51, 3) := by decide +kernel
theorem dX1_lowestOf_9 : decode cX1_lowestOf 9 = .ok (.ireturn, 1) := by decide +kernel
theorem dX1_join_0 : decode cX1_join 0 = .ok (.iconst 0, 1) := by decide +kernel
theorem dX1_join_1 : decode cX1_join 1 = .ok (.istore_n 3, 1) := by decide +kernel
theorem dX1_join_2 : decode cX1_join 2 = .ok (.iload_n 3, 1) := by decide +kernel
theorem dX1_join_3 : decode cX1_join 3 = .ok (.aload_n 0, 1) := by decide +kernel
theorem dX1_join_4 : decode cX1_join 4 = .ok (.getfield 9, 3) := by decide +kernel
theorem dX1_join_7 : decode cX1_join 7 = .ok (.arraylength, 1) := by decide +kernel
theorem dX1_join_8 : decode cX1_join 8 = .ok (.if_icmp .ge 26, 3) := by decide +kernel
theorem dX1_join_11 : decode cX1_join 11 = .ok (.aload_n 0, 1) := by decide +kernel
theorem dX1_join_12 : decode cX1_join 12 = .ok (.getfield 9, 3) := by decide +kernel
theorem dX1_join_15 : decode cX1_join 15 = .ok (.iload_n 3, 1) := by decide +kernel
theorem dX1_join_16 : decode cX1_join 16 = .ok (.iaload, 1) := by decide +kernel
theorem dX1_join_17 : decode cX1_join 17 = .ok (.iload_n 2, 1) := by decide +kernel
theorem dX1_join_18 : decode cX1_join 18 = .ok (.if_icmp .ne 10, 3) := by decide +kernel
theorem dX1_join_21 : decode cX1_join 21 = .ok (.aload_n 0, 1) := by decide +kernel
theorem dX1_join_22 : decode cX1_join 22 = .ok (.getfield 9, 3) := by decide +kernel
theorem dX1_join_25 : decode cX1_join 25 = .ok (.iload_n 3, 1) := by decide +kernel
theorem dX1_join_26 : decode cX1_join 26 = .ok (.iload_n 1, 1) := by decide +kernel
theorem dX1_join_27 : decode cX1_join 27 = .ok (.iastore, 1) := by decide +kernel
theorem dX1_join_28 : decode cX1_join 28 = .ok (.iinc 3 1, 3) := by decide +kernel
theorem dX1_join_31 : decode cX1_join 31 = .ok (.goto (-29), 3) := by decide +kernel
theorem dX1_join_34 : decode cX1_join 34 = .ok (.return_, 1) := by decide +kernel
set_option maxRecDepth 20000 in
theorem ggX2_init_X0_init : GoodIn wsX2_init wsX0_init := goodIn_r _ [12, 13, 2, 3, 14, 15, 16, 17, 18, 19, 20, 21, 22, 23, 24, 25, 9, 26, 27, 28, 29, 30, 31, 32, 36, 37, 38, 39, 40, 41, 42, 43, 44, 45] (by decide +kernel) (by decide +kernel)
set_option maxRecDepth 20000 in
theorem gX2_init_X0_init : GoodIn wsX2_init (wsX0_init) := ggX2_init_X0_init
theorem dX2_init_0 : decode cX2_init 0 = .ok (.aload_n 0, 1) := by decide +kernel
theorem dX2_init_1 : decode cX2_init 1 = .ok (.invokespecial 3, 3) := by decide +kernel
theorem dX2_init_4 : decode cX2_init 4 = .ok (.aload_n 0, 1) := by decide +kernel
theorem dX2_init_5 : decode cX2_init 5 = .ok (.iconst 5, 1) := by decide +kernel
theorem dX2_init_6 : decode cX2_init 6 = .ok (.anewarray 11, 3) := by decide +kernel
theorem dX2_init_9 : decode cX2_init 9 = .ok (.putfield 13, 3) := by decide +kernel
theorem dX2_init_12 : decode cX2_init 12 = .ok (.aload_n 0, 1) := by decide +kernel
theorem dX2_init_13 : decode cX2_init 13 = .ok (.iconst 0, 1) := by decide +kernel
theorem dX2_init_14 : decode cX2_init 14 = .ok (.putfield 17, 3) := by decide +kernel
theorem dX2_init_17 : decode cX2_init 17 = .ok (.aload_n 0, 1) := by decide +kernel
theorem dX2_init_18 : decode cX2_init 18 = .ok (.iconst 0, 1) := by decide +kernel
theorem dX2_init_19 : decode cX2_init 19 = .ok (.putfield 21, 3) := by decide +kernel
theorem dX2_init_22 : decode cX2_init 22 = .ok (.iconst 0, 1) := by decide +kernel
theorem dX2_init_23 : decode cX2_init 23 = .ok (.istore_n 1, 1) := by decide +kernel
theorem dX2_init_24 : decode cX2_init 24 = .ok (.iload_n 1, 1) := by decide +kernel
theorem dX2_init_25 : decode cX2_init 25 = .ok (.aload_n 0, 1) := by decide +kernel
theorem dX2_init_26 : decode cX2_init 26 = .ok (.getfield 13, 3) := by decide +kernel
theorem dX2_init_29 : decode cX2_init 29 = .ok (.arraylength, 1) := by decide +kernel
theorem dX2_init_30 : decode cX2_init 30 = .ok (.if_icmp .ge 22, 3) := by decide +kernel
theorem dX2_init_33 : decode cX2_init 33 = .ok (.aload_n 0, 1) := by decide +kernel
theorem dX2_init_34 : decode cX2_init 34 = .ok (.getfield 13, 3) := by decide +kernel
theorem dX2_init_37 : decode cX2_init 37 = .ok (.iload_n 1, 1) := by decide +kernel
theorem dX2_init_38 : decode cX2_init 38 = .ok (.new 11, 3) := by decide +kernel
theorem dX2_init_41 : decode cX2_init 41 = .ok (.dup, 1) := by decide +kernel
theorem dX2_init_42 : decode cX2_init 42 = .ok (.invokespecial 24, 3) := by decide +kernel
theorem dX2_init_45 : decode cX2_init 45 = .ok (.aastore, 1) := by decide +kernel
theorem dX2_init_46 : decode cX2_init 46 = .ok (.iinc 1 1, 3) := by decide +kernel
theorem dX2_init_49 : decode cX2_init 49 = .ok (.goto (-25), 3) := by decide +kernel
theorem dX2_init_52 : decode cX2_init 52 = .ok (.return_, 1) := by decide +kernel
theorem dX2_stateCount_0 : decode cX2_stateCount 0 = .ok (.aload_n 0, 1) := by decide +kernel
theorem dX2_stateCount_1 : decode cX2_stateCount 1 = .ok (.getfield 21, 3) := by decide +kernel
theorem dX2_stateCount_4 : decode cX2_stateCount 4 = .ok (.ireturn, 1) := by decide +kernel
set_option maxRecDepth 20000 in
theorem ggX2_recordState_X2_stateAt : GoodIn wsX2_recordState wsX2_stateAt := goodIn_r _ [6, 7, 8, 31, 32, 33] (by decide +kernel) (by decide +kernel)
set_option maxRecDepth 20000 in
theorem gX2_recordState_X2_stateAt : GoodIn wsX2_recordState (wsV RX2 25 RX2 yX2_stateAt wsX2_stateAt) := goodIn_app (goodIn_of _ (by decide +kernel)) ggX2_recordState_X2_stateAt
set_option maxRecDepth 20000 in
theorem ggX2_recordState_X0_copyFrom : GoodIn wsX2_recordState wsX0_copyFrom := goodIn_r _ [13, 14, 15, 16, 17, 18, 19, 20, 21, 22, 23, 24, 25, 26, 27, 28, 29, 30, 34, 35, 36, 37, 38, 39, 40, 41, 42, 43] (by decide +kernel) (by decide +kernel)
set_option maxRecDepth 20000 in
theorem gX2_recordState_X0_copyFrom : GoodIn wsX2_recordState (wsV RX2 29 RX0 yX0_copyFrom wsX0_copyFrom) := goodIn_app (goodIn_of _ (by decide +kernel)) ggX2_recordState_X0_copyFrom
theorem dX2_recordState_0 : decode cX2_recordState 0 = .ok (.aload_n 0, 1) := by decide +kernel
theorem dX2_recordState_1 : decode cX2_recordState 1 = .ok (.aload_n 0, 1) := by decide +kernel
theorem dX2_recordState_2 : decode cX2_recordState 2 = .ok (.getfield 21, 3) := by decide +kernel
theorem dX2_recordState_5 : decode cX2_recordState 5 = .ok (.invokevirtual 25, 3) := by decide +kernel
theorem dX2_recordState_8 : decode cX2_recordState 8 = .ok (.astore_n 2, 1) := by decide +kernel
theorem dX2_recordState_9 : decode cX2_recordState 9 = .ok (.aload_n 2, 1) := by decide +kernel
theorem dX2_recordState_10 : decode cX2_recordState 10 = .ok (.ifnull 8, 3) := by decide +kernel
theorem dX2_recordState_13 : decode cX2_recordState 13 = .ok (.aload_n 2, 1) := by decide +kernel
theorem dX2_recordState_14 : decode cX2_recordState 14 = .ok (.aload_n 1, 1) := by decide +kernel
theorem dX2_recordState_15 : decode cX2_recordState 15 = .ok (.invokevirtual 29, 3) := by decide +kernel
theorem dX2_recordState_18 : decode cX2_recordState 18 = .ok (.return_, 1) := by decide +kernel
set_option maxRecDepth 20000 in
theorem ggX2_returnToRecord_X2_stateAt : GoodIn wsX2_returnToRecord wsX2_stateAt := goodIn_r _ [6, 7, 8, 31, 32, 33] (by decide +kernel) (by decide +kernel)
set_option maxRecDepth 20000 in
theorem gX2_returnToRecord_X2_stateAt : GoodIn wsX2_returnToRecord (wsV RX2 25 RX2 yX2_stateAt wsX2_stateAt) := goodIn_app (goodIn_of _ (by decide +kernel)) ggX2_returnToRecord_X2_stateAt
set_option maxRecDepth 20000 in
theorem ggX2_returnToRecord_X0_copyFrom : GoodIn wsX2_returnToRecord wsX0_copyFrom := goodIn_r _ [13, 14, 15, 16, 17, 18, 19, 20, 21, 22, 23, 24, 25, 26, 27, 28, 29, 30, 34, 35, 36, 37, 38, 39, 40, 41, 42, 43] (by decide +kernel) (by decide +kernel)
set_option maxRecDepth 20000 in
theorem gX2_returnToRecord_X0_copyFrom : GoodIn wsX2_returnToRecord (wsV RX2 29 RX0 yX0_copyFrom wsX0_copyFrom) := goodIn_app (goodIn_of _ (by decide +kernel)) ggX2_returnToRecord_X0_copyFrom
theorem dX2_returnToRecord_0 : decode cX2_returnToRecord 0 = .ok (.aload_n 0, 1) := by decide +kernel
theorem dX2_returnToRecord_1 : decode cX2_returnToRecord 1 = .ok (.aload_n 0, 1) := by decide +kernel
theorem dX2_returnToRecord_2 : decode cX2_returnToRecord 2 = .ok (.getfield 21, 3) := by decide +kernel
theorem dX2_returnToRecord_5 : decode cX2_returnToRecord 5 = .ok (.invokevirtual 25, 3) := by decide +kernel
theorem dX2_returnToRecord_8 : decode cX2_returnToRecord 8 = .ok (.astore_n 2, 1) := by decide +kernel
theorem dX2_returnToRecord_9 : decode cX2_returnToRecord 9 = .ok (.aload_n 2, 1) := by decide +kernel
theorem dX2_returnToRecord_10 : decode cX2_returnToRecord 10 = .ok (.ifnull 8, 3) := by decide +kernel
theorem dX2_returnToRecord_13 : decode cX2_returnToRecord 13 = .ok (.aload_n 1, 1) := by decide +kernel
theorem dX2_returnToRecord_14 : decode cX2_returnToRecord 14 = .ok (.aload_n 2, 1) := by decide +kernel
theorem dX2_returnToRecord_15 : decode cX2_returnToRecord 15 = .ok (.invokevirtual 29, 3) := by decide +kernel
theorem dX2_returnToRecord_18 : decode cX2_returnToRecord 18 = .ok (.return_, 1) := by decide +kernel
theorem dX2_keepRecord_0 : decode cX2_keepRecord 0 = .ok (.aload_n 0, 1) := by decide +kernel
theorem dX2_keepRecord_1 : decode cX2_keepRecord 1 = .ok (.getfield 21, 3) := by decide +kernel
theorem dX2_keepRecord_4 : decode cX2_keepRecord 4 = .ok (.iconst 4, 1) := by decide +kernel
theorem dX2_keepRecord_5 : decode cX2_keepRecord 5 = .ok (.if_icmp .ge 16, 3) := by decide +kernel
theorem dX2_keepRecord_8 : decode cX2_keepRecord 8 = .ok (.aload_n 0, 1) := by decide +kernel
theorem dX2_keepRecord_9 : decode cX2_keepRecord 9 = .ok (.dup, 1) := by decide +kernel
theorem dX2_keepRecord_10 : decode cX2_keepRecord 10 = .ok (.getfield 21, 3) := by decide +kernel
theorem dX2_keepRecord_13 : decode cX2_keepRecord 13 = .ok (.iconst 1, 1) := by decide +kernel
theorem dX2_keepRecord_14 : decode cX2_keepRecord 14 = .ok (.iadd, 1) := by decide +kernel
theorem dX2_keepRecord_15 : decode cX2_keepRecord 15 = .ok (.putfield 21, 3) := by decide +kernel
theorem dX2_keepRecord_18 : decode cX2_keepRecord 18 = .ok (.goto 15, 3) := by decide +kernel
theorem dX2_keepRecord_21 : decode cX2_keepRecord 21 = .ok (.aload_n 0, 1) := by decide +kernel
theorem dX2_keepRecord_22 : decode cX2_keepRecord 22 = .ok (.aload_n 0, 1) := by decide +kernel
theorem dX2_keepRecord_23 : decode cX2_keepRecord 23 = .ok (.getfield 17, 3) := by decide +kernel
theorem dX2_keepRecord_26 : decode cX2_keepRecord 26 = .ok (.iconst 1, 1) := by decide +kernel
theorem dX2_keepRecord_27 : decode cX2_keepRecord 27 = .ok (.iadd, 1) := by decide +kernel
theorem dX2_keepRecord_28 : decode cX2_keepRecord 28 = .ok (.iconst 5, 1) := by decide +kernel
theorem dX2_keepRecord_29 : decode cX2_keepRecord 29 = .ok (.irem, 1) := by decide +kernel
theorem dX2_keepRecord_30 : decode cX2_keepRecord 30 = .ok (.putfield 17, 3) := by decide +kernel
theorem dX2_keepRecord_33 : decode cX2_keepRecord 33 = .ok (.return_, 1) := by decide +kernel
theorem dX2_stateAt_0 : decode cX2_stateAt 0 = .ok (.aload_n 0, 1) := by decide +kernel
theorem dX2_stateAt_1 : decode cX2_stateAt 1 = .ok (.getfield 17, 3) := by decide +kernel
theorem dX2_stateAt_4 : decode cX2_stateAt 4 = .ok (.iload_n 1, 1) := by decide +kernel
theorem dX2_stateAt_5 : decode cX2_stateAt 5 = .ok (.iadd, 1) := by decide +kernel
theorem dX2_stateAt_6 : decode cX2_stateAt 6 = .ok (.iconst 5, 1) := by decide +kernel
theorem dX2_stateAt_7 : decode cX2_stateAt 7 = .ok (.irem, 1) := by decide +kernel
theorem dX2_stateAt_8 : decode cX2_stateAt 8 = .ok (.istore_n 2, 1) := by decide +kernel
theorem dX2_stateAt_9 : decode cX2_stateAt 9 = .ok (.iload_n 2, 1) := by decide +kernel
theorem dX2_stateAt_10 : decode cX2_stateAt 10 = .ok (.ifCond .lt 21, 3) := by decide +kernel
theorem dX2_stateAt_13 : decode cX2_stateAt 13 = .ok (.iload_n 2, 1) := by decide +kernel
theorem dX2_stateAt_14 : decode cX2_stateAt 14 = .ok (.aload_n 0, 1) := by decide +kernel
theorem dX2_stateAt_15 : decode cX2_stateAt 15 = .ok (.getfield 13, 3) := by decide +kernel
theorem dX2_stateAt_18 : decode cX2_stateAt 18 = .ok (.arraylength, 1) := by decide +kernel
theorem dX2_stateAt_19 : decode cX2_stateAt 19 = .ok (.if_icmp .ge 12, 3) := by decide +kernel
theorem dX2_stateAt_22 : decode cX2_stateAt 22 = .ok (.aload_n 0, 1) := by decide +kernel
theorem dX2_stateAt_23 : decode cX2_stateAt 23 = .ok (.getfield 13, 3) := by decide +kernel
theorem dX2_stateAt_26 : decode cX2_stateAt 26 = .ok (.iload_n 2, 1) := by decide +kernel
theorem dX2_stateAt_27 : decode cX2_stateAt 27 = .ok (.aaload, 1) := by decide +kernel
theorem dX2_stateAt_28 : decode cX2_stateAt 28 = .ok (.goto 4, 3) := by decide +kernel
theorem dX2_stateAt_31 : decode cX2_stateAt 31 = .ok (.aconst_null, 1) := by decide +kernel
theorem dX2_stateAt_32 : decode cX2_stateAt 32 = .ok (.areturn, 1) := by decide +kernel
theorem dX3_init_0 : decode cX3_init 0 = .ok (.aload_n 0, 1) := by decide +kernel
theorem dX3_init_1 : decode cX3_init 1 = .ok (.invokespecial 3, 3) := by decide +kernel
theorem dX3_init_4 : decode cX3_init 4 = .ok (.aload_n 0, 1) := by decide +kernel
theorem dX3_init_5 : decode cX3_init 5 = .ok (.bipush 100, 2) := by decide +kernel
theorem dX3_init_7 : decode cX3_init 7 = .ok (.newarray .char, 2) := by decide +kernel
theorem dX3_init_9 : decode cX3_init 9 = .ok (.putfield 9, 3) := by decide +kernel
theorem dX3_init_12 : decode cX3_init 12 = .ok (.aload_n 0, 1) := by decide +kernel
theorem dX3_init_13 : decode cX3_init 13 = .ok (.iconst 0, 1) := by decide +kernel
theorem dX3_init_14 : decode cX3_init 14 = .ok (.putfield 15, 3) := by decide +kernel
theorem dX3_init_17 : decode cX3_init 17 = .ok (.return_, 1) := by decide +kernel
theorem dX3_characterCount_0 : decode cX3_characterCount 0 = .ok (.aload_n 0, 1) := by decide +kernel
theorem dX3_characterCount_1 : decode cX3_characterCount 1 = .ok (.getfield 15, 3) := by decide +kernel
theorem dX3_characterCount_4 : decode cX3_characterCount 4 = .ok (.ireturn, 1) := by decide +kernel
theorem dJ9_max_7cf53_0 : decode cJ9_max_7cf53 0 = .ok (.iload_n 0, 1) := by decide +kernel
theorem dJ9_max_7cf53_1 : decode cJ9_max_7cf53 1 = .ok (.iload_n 1, 1) := by decide +kernel
theorem dJ9_max_7cf53_2 : decode cJ9_max_7cf53 2 = .ok (.if_icmp .lt 7, 3) := by decide +kernel
theorem dJ9_max_7cf53_5 : decode cJ9_max_7cf53 5 = .ok (.iload_n 0, 1) := by decide +kernel
theorem dJ9_max_7cf53_6 : decode cJ9_max_7cf53 6 = .ok (.goto 4, 3) := by decide +kernel
theorem dJ9_max_7cf53_9 : decode cJ9_max_7cf53 9 = .ok (.iload_n 1, 1) := by decide +kernel
theorem dJ9_max_7cf53_10 : decode cJ9_max_7cf53 10 = .ok (.ireturn, 1) := by decide +kernel
theorem dJ9_min_7cf53_0 : decode cJ9_min_7cf53 0 = .ok (.iload_n 0, 1) := by decide +kernel
theorem dJ9_min_7cf53_1 : decode cJ9_min_7cf53 1 = .ok (.iload_n 1, 1) := by decide +kernel
theorem dJ9_min_7cf53_2 : decode cJ9_min_7cf53 2 = .ok (.if_icmp .gt 7, 3) := by decide +kernel
theorem dJ9_min_7cf53_5 : decode cJ9_min_7cf53 5 = .ok (.iload_n 0, 1) := by decide +kernel
theorem dJ9_min_7cf53_6 : decode cJ9_min_7cf53 6 = .ok (.goto 4, 3) := by decide +kernel
theorem dJ9_min_7cf53_9 : decode cJ9_min_7cf53 9 = .ok (.iload_n 1, 1) := by decide +kernel
theorem dJ9_min_7cf53_10 : decode cJ9_min_7cf53 10 = .ok (.ireturn, 1) := by decide +kernel
theorem dJ7_fill_53178_0 : decode cJ7_fill_53178 0 = .ok (.iconst 0, 1) := by decide +kernel
theorem dJ7_fill_53178_1 : decode cJ7_fill_53178 1 = .ok (.istore_n 2, 1) := by decide +kernel
theorem dJ7_fill_53178_2 : decode cJ7_fill_53178 2 = .ok (.aload_n 0, 1) := by decide +kernel
theorem dJ7_fill_53178_3 : decode cJ7_fill_53178 3 = .ok (.arraylength, 1) := by decide +kernel
theorem dJ7_fill_53178_4 : decode cJ7_fill_53178 4 = .ok (.istore_n 3, 1) := by decide +kernel
theorem dJ7_fill_53178_5 : decode cJ7_fill_53178 5 = .ok (.iload_n 2, 1) := by decide +kernel
theorem dJ7_fill_53178_6 : decode cJ7_fill_53178 6 = .ok (.iload_n 3, 1) := by decide +kernel
theorem dJ7_fill_53178_7 : decode cJ7_fill_53178 7 = .ok (.if_icmp .ge 13, 3) := by decide +kernel
theorem dJ7_fill_53178_10 : decode cJ7_fill_53178 10 = .ok (.aload_n 0, 1) := by decide +kernel
theorem dJ7_fill_53178_11 : decode cJ7_fill_53178 11 = .ok (.iload_n 2, 1) := by decide +kernel
theorem dJ7_fill_53178_12 : decode cJ7_fill_53178 12 = .ok (.iload_n 1, 1) := by decide +kernel
theorem dJ7_fill_53178_13 : decode cJ7_fill_53178 13 = .ok (.iastore, 1) := by decide +kernel
theorem dJ7_fill_53178_14 : decode cJ7_fill_53178 14 = .ok (.iinc 2 1, 3) := by decide +kernel
theorem dJ7_fill_53178_17 : decode cJ7_fill_53178 17 = .ok (.goto (-12), 3) := by decide +kernel
theorem dJ7_fill_53178_20 : decode cJ7_fill_53178 20 = .ok (.return_, 1) := by decide +kernel
end
section
theorem inlX4 : ∀ w ∈ wsX40, w ∈ wsL_law := fun _ h => List.mem_append_left _ (List.mem_append_left _ (List.mem_append_left _ (List.mem_append_left _ (List.mem_append_left _ (List.mem_append_right _ h)))))
theorem inX4 : ∀ w ∈ wsX40, w ∈ lw_tbl := fun w h => wsL_law_in w (inlX4 w h)
set_option maxRecDepth 20000 in
theorem ggX4_init_X0_init : GoodIn wsX4_init wsX0_init := goodIn_r _ [22, 23, 2, 3, 24, 25, 26, 27, 28, 29, 30, 31, 32, 33, 34, 35, 6, 36, 37, 38, 39, 40, 41, 42, 62, 63, 64, 65, 66, 67, 68, 69, 70, 71] (by decide +kernel) (by decide +kernel)
set_option maxRecDepth 20000 in
theorem gX4_init_X0_init : GoodIn wsX4_init (wsX0_init) := ggX4_init_X0_init
set_option maxRecDepth 20000 in
theorem ggX4_init_X2_init : GoodIn wsX4_init wsX2_init := goodIn_r _ [45, 46, 2, 3, 47, 48, 49, 50, 5, 6, 51, 21, 22, 23, 24, 25, 26, 27, 28, 29, 30, 31, 32, 33, 34, 35, 36, 37, 38, 39, 40, 41, 42, 76, 77, 78, 62, 63, 64, 65, 66, 67, 68, 69, 70, 71] (by decide +kernel) (by decide +kernel)
set_option maxRecDepth 20000 in
theorem gX4_init_X2_init : GoodIn wsX4_init (wsX2_init) := ggX4_init_X2_init
set_option maxRecDepth 20000 in
theorem ggX4_init_X1_init : GoodIn wsX4_init wsX1_init := goodIn_r _ [53, 54, 2, 3, 24, 55, 79] (by decide +kernel) (by decide +kernel)
set_option maxRecDepth 20000 in
theorem gX4_init_X1_init_n25 : GoodIn wsX4_init (wsX1_init) := ggX4_init_X1_init
set_option maxRecDepth 20000 in
theorem ggX4_init_X3_init : GoodIn wsX4_init wsX3_init := goodIn_r _ [57, 58, 2, 3, 59, 60, 61, 80, 81] (by decide +kernel) (by decide +kernel)
set_option maxRecDepth 20000 in
theorem gX4_init_X3_init_n32 : GoodIn wsX4_init (wsX3_init) := ggX4_init_X3_init
theorem dX4_init_0 : decode cX4_init 0 = .ok (.aload_n 0, 1) := by decide +kernel
theorem dX4_init_1 : decode cX4_init 1 = .ok (.invokespecial 1, 3) := by decide +kernel
theorem dX4_init_4 : decode cX4_init 4 = .ok (.aload_n 0, 1) := by decide +kernel
theorem dX4_init_5 : decode cX4_init 5 = .ok (.new 7, 3) := by decide +kernel
theorem dX4_init_8 : decode cX4_init 8 = .ok (.dup, 1) := by decide +kernel
theorem dX4_init_9 : decode cX4_init 9 = .ok (.invokespecial 9, 3) := by decide +kernel
theorem dX4_init_12 : decode cX4_init 12 = .ok (.putfield 10, 3) := by decide +kernel
theorem dX4_init_15 : decode cX4_init 15 = .ok (.aload_n 0, 1) := by decide +kernel
theorem dX4_init_16 : decode cX4_init 16 = .ok (.new 16, 3) := by decide +kernel
theorem dX4_init_19 : decode cX4_init 19 = .ok (.dup, 1) := by decide +kernel
theorem dX4_init_20 : decode cX4_init 20 = .ok (.invokespecial 18, 3) := by decide +kernel
theorem dX4_init_23 : decode cX4_init 23 = .ok (.putfield 19, 3) := by decide +kernel
theorem dX4_init_26 : decode cX4_init 26 = .ok (.aload_n 0, 1) := by decide +kernel
theorem dX4_init_27 : decode cX4_init 27 = .ok (.new 23, 3) := by decide +kernel
theorem dX4_init_30 : decode cX4_init 30 = .ok (.dup, 1) := by decide +kernel
theorem dX4_init_31 : decode cX4_init 31 = .ok (.invokespecial 25, 3) := by decide +kernel
theorem dX4_init_34 : decode cX4_init 34 = .ok (.putfield 26, 3) := by decide +kernel
theorem dX4_init_37 : decode cX4_init 37 = .ok (.aload_n 0, 1) := by decide +kernel
theorem dX4_init_38 : decode cX4_init 38 = .ok (.new 30, 3) := by decide +kernel
theorem dX4_init_41 : decode cX4_init 41 = .ok (.dup, 1) := by decide +kernel
theorem dX4_init_42 : decode cX4_init 42 = .ok (.invokespecial 32, 3) := by decide +kernel
theorem dX4_init_45 : decode cX4_init 45 = .ok (.putfield 33, 3) := by decide +kernel
theorem dX4_init_48 : decode cX4_init 48 = .ok (.return_, 1) := by decide +kernel
set_option maxRecDepth 20000 in
theorem ggX4_grid_X4_isWithin : GoodIn wsX4_grid wsX4_isWithin := goodIn_r _ [6] (by decide +kernel) (by decide +kernel)
set_option maxRecDepth 20000 in
theorem gX4_grid_X4_isWithin : GoodIn wsX4_grid (va_wsS RX4 37 yX4_isWithin wsX4_isWithin) := goodIn_app (goodIn_of _ (by decide +kernel)) ggX4_grid_X4_isWithin
set_option maxRecDepth 20000 in
theorem ggX4_grid_X2_recordState : GoodIn wsX4_grid wsX2_recordState := goodIn_r _ [11, 12, 13, 14, 15, 10, 16, 17, 18, 19, 20, 21, 22, 23, 24, 25, 26, 27, 28, 29, 30, 31, 32, 33, 34, 5, 35, 36, 37, 38, 39, 64, 65, 66, 67, 68, 69, 70, 71, 72, 73, 74, 75, 76] (by decide +kernel) (by decide +kernel)
set_option maxRecDepth 20000 in
theorem gX4_grid_X2_recordState : GoodIn wsX4_grid (wsV RX4 41 RX2 yX2_recordState wsX2_recordState) := goodIn_app (goodIn_of _ (by decide +kernel)) ggX4_grid_X2_recordState
set_option maxRecDepth 20000 in
theorem ggX4_grid_X0_begin : GoodIn wsX4_grid wsX0_begin := goodIn_r _ [43, 30, 31, 24, 25, 26, 27, 28, 29, 44, 45, 46, 47, 67, 68, 69, 70, 71, 72, 73, 74, 75, 76] (by decide +kernel) (by decide +kernel)
set_option maxRecDepth 20000 in
theorem gX4_grid_X0_begin : GoodIn wsX4_grid (wsV RX4 45 RX0 yX0_begin wsX0_begin) := goodIn_app (goodIn_of _ (by decide +kernel)) ggX4_grid_X0_begin
set_option maxRecDepth 20000 in
theorem ggX4_grid_X2_keepRecord : GoodIn wsX4_grid wsX2_keepRecord := goodIn_r _ [51, 12, 17, 64, 65, 66] (by decide +kernel) (by decide +kernel)
set_option maxRecDepth 20000 in
theorem gX4_grid_X2_keepRecord : GoodIn wsX4_grid (wsV RX4 49 RX2 yX2_keepRecord wsX2_keepRecord) := goodIn_app (goodIn_of _ (by decide +kernel)) ggX4_grid_X2_keepRecord
set_option maxRecDepth 20000 in
theorem ggX4_grid_X0_edgeCount : GoodIn wsX4_grid wsX0_edgeCount := goodIn_r _ [55, 30, 31, 56, 57, 58, 22, 59, 67, 68, 69, 70, 71, 72, 73, 74, 75, 76] (by decide +kernel) (by decide +kernel)
set_option maxRecDepth 20000 in
theorem gX4_grid_X0_edgeCount : GoodIn wsX4_grid (wsV RX4 52 RX0 yX0_edgeCount wsX0_edgeCount) := goodIn_app (goodIn_of _ (by decide +kernel)) ggX4_grid_X0_edgeCount
theorem dX4_grid_0 : decode cX4_grid 0 = .ok (.iload_n 1, 1) := by decide +kernel
theorem dX4_grid_1 : decode cX4_grid 1 = .ok (.iconst 1, 1) := by decide +kernel
theorem dX4_grid_2 : decode cX4_grid 2 = .ok (.bipush 6, 2) := by decide +kernel
theorem dX4_grid_4 : decode cX4_grid 4 = .ok (.invokestatic 37, 3) := by decide +kernel
theorem dX4_grid_7 : decode cX4_grid 7 = .ok (.ifCond .eq 13, 3) := by decide +kernel
theorem dX4_grid_10 : decode cX4_grid 10 = .ok (.iload_n 2, 1) := by decide +kernel
theorem dX4_grid_11 : decode cX4_grid 11 = .ok (.iconst 1, 1) := by decide +kernel
theorem dX4_grid_12 : decode cX4_grid 12 = .ok (.bipush 6, 2) := by decide +kernel
theorem dX4_grid_14 : decode cX4_grid 14 = .ok (.invokestatic 37, 3) := by decide +kernel
theorem dX4_grid_17 : decode cX4_grid 17 = .ok (.ifCond .ne 5, 3) := by decide +kernel
theorem dX4_grid_20 : decode cX4_grid 20 = .ok (.iconst (-1), 1) := by decide +kernel
theorem dX4_grid_21 : decode cX4_grid 21 = .ok (.ireturn, 1) := by decide +kernel
theorem dX4_grid_22 : decode cX4_grid 22 = .ok (.aload_n 0, 1) := by decide +kernel
theorem dX4_grid_23 : decode cX4_grid 23 = .ok (.getfield 19, 3) := by decide +kernel
theorem dX4_grid_26 : decode cX4_grid 26 = .ok (.aload_n 0, 1) := by decide +kernel
theorem dX4_grid_27 : decode cX4_grid 27 = .ok (.getfield 10, 3) := by decide +kernel
theorem dX4_grid_30 : decode cX4_grid 30 = .ok (.invokevirtual 41, 3) := by decide +kernel
theorem dX4_grid_33 : decode cX4_grid 33 = .ok (.aload_n 0, 1) := by decide +kernel
theorem dX4_grid_34 : decode cX4_grid 34 = .ok (.getfield 10, 3) := by decide +kernel
theorem dX4_grid_37 : decode cX4_grid 37 = .ok (.iload_n 1, 1) := by decide +kernel
theorem dX4_grid_38 : decode cX4_grid 38 = .ok (.iload_n 2, 1) := by decide +kernel
theorem dX4_grid_39 : decode cX4_grid 39 = .ok (.invokevirtual 45, 3) := by decide +kernel
theorem dX4_grid_42 : decode cX4_grid 42 = .ok (.aload_n 0, 1) := by decide +kernel
theorem dX4_grid_43 : decode cX4_grid 43 = .ok (.getfield 19, 3) := by decide +kernel
theorem dX4_grid_46 : decode cX4_grid 46 = .ok (.invokevirtual 49, 3) := by decide +kernel
theorem dX4_grid_49 : decode cX4_grid 49 = .ok (.aload_n 0, 1) := by decide +kernel
theorem dX4_grid_50 : decode cX4_grid 50 = .ok (.getfield 10, 3) := by decide +kernel
theorem dX4_grid_53 : decode cX4_grid 53 = .ok (.invokevirtual 52, 3) := by decide +kernel
theorem dX4_grid_56 : decode cX4_grid 56 = .ok (.ireturn, 1) := by decide +kernel
set_option maxRecDepth 20000 in
theorem ggX4_set_X4_isWithin : GoodIn wsX4_set wsX4_isWithin := goodIn_r _ [6] (by decide +kernel) (by decide +kernel)
set_option maxRecDepth 20000 in
theorem gX4_set_X4_isWithin : GoodIn wsX4_set (va_wsS RX4 37 yX4_isWithin wsX4_isWithin) := goodIn_app (goodIn_of _ (by decide +kernel)) ggX4_set_X4_isWithin
set_option maxRecDepth 20000 in
theorem ggX4_set_X2_recordState : GoodIn wsX4_set wsX2_recordState := goodIn_r _ [11, 12, 13, 14, 15, 10, 16, 17, 18, 19, 20, 21, 22, 23, 24, 25, 26, 27, 28, 29, 30, 31, 32, 33, 34, 5, 35, 36, 37, 38, 39, 56, 57, 58, 59, 60, 61, 62, 63, 64, 65, 66, 67, 68] (by decide +kernel) (by decide +kernel)
set_option maxRecDepth 20000 in
theorem gX4_set_X2_recordState : GoodIn wsX4_set (wsV RX4 41 RX2 yX2_recordState wsX2_recordState) := goodIn_app (goodIn_of _ (by decide +kernel)) ggX4_set_X2_recordState
set_option maxRecDepth 20000 in
theorem ggX4_set_X0_putGuard : GoodIn wsX4_set wsX0_putGuard := goodIn_r _ [43, 32, 59, 60, 61, 62, 63, 64, 65, 66, 67, 68] (by decide +kernel) (by decide +kernel)
set_option maxRecDepth 20000 in
theorem gX4_set_X0_putGuard : GoodIn wsX4_set (wsV RX4 56 RX0 yX0_putGuard wsX0_putGuard) := goodIn_app (goodIn_of _ (by decide +kernel)) ggX4_set_X0_putGuard
set_option maxRecDepth 20000 in
theorem ggX4_set_X0_putTolerance : GoodIn wsX4_set wsX0_putTolerance := goodIn_r _ [47, 33, 59, 60, 61, 62, 63, 64, 65, 66, 67, 68] (by decide +kernel) (by decide +kernel)
set_option maxRecDepth 20000 in
theorem gX4_set_X0_putTolerance : GoodIn wsX4_set (wsV RX4 60 RX0 yX0_putTolerance wsX0_putTolerance) := goodIn_app (goodIn_of _ (by decide +kernel)) ggX4_set_X0_putTolerance
set_option maxRecDepth 20000 in
theorem ggX4_set_X2_keepRecord : GoodIn wsX4_set wsX2_keepRecord := goodIn_r _ [51, 12, 17, 56, 57, 58] (by decide +kernel) (by decide +kernel)
set_option maxRecDepth 20000 in
theorem gX4_set_X2_keepRecord : GoodIn wsX4_set (wsV RX4 49 RX2 yX2_keepRecord wsX2_keepRecord) := goodIn_app (goodIn_of _ (by decide +kernel)) ggX4_set_X2_keepRecord
theorem dX4_set_0 : decode cX4_set 0 = .ok (.iload_n 1, 1) := by decide +kernel
theorem dX4_set_1 : decode cX4_set 1 = .ok (.iconst 0, 1) := by decide +kernel
theorem dX4_set_2 : decode cX4_set 2 = .ok (.iconst 1, 1) := by decide +kernel
theorem dX4_set_3 : decode cX4_set 3 = .ok (.invokestatic 37, 3) := by decide +kernel
theorem dX4_set_6 : decode cX4_set 6 = .ok (.ifCond .eq 22, 3) := by decide +kernel
theorem dX4_set_9 : decode cX4_set 9 = .ok (.iload_n 2, 1) := by decide +kernel
theorem dX4_set_10 : decode cX4_set 10 = .ok (.iconst 0, 1) := by decide +kernel
theorem dX4_set_11 : decode cX4_set 11 = .ok (.iload_n 1, 1) := by decide +kernel
theorem dX4_set_12 : decode cX4_set 12 = .ok (.ifCond .ne 7, 3) := by decide +kernel
theorem dX4_set_15 : decode cX4_set 15 = .ok (.iconst 1, 1) := by decide +kernel
theorem dX4_set_16 : decode cX4_set 16 = .ok (.goto 6, 3) := by decide +kernel
theorem dX4_set_19 : decode cX4_set 19 = .ok (.sipush 1000, 3) := by decide +kernel
theorem dX4_set_22 : decode cX4_set 22 = .ok (.invokestatic 37, 3) := by decide +kernel
theorem dX4_set_25 : decode cX4_set 25 = .ok (.ifCond .ne 5, 3) := by decide +kernel
theorem dX4_set_28 : decode cX4_set 28 = .ok (.iconst (-1), 1) := by decide +kernel
theorem dX4_set_29 : decode cX4_set 29 = .ok (.ireturn, 1) := by decide +kernel
theorem dX4_set_30 : decode cX4_set 30 = .ok (.aload_n 0, 1) := by decide +kernel
theorem dX4_set_31 : decode cX4_set 31 = .ok (.getfield 19, 3) := by decide +kernel
theorem dX4_set_34 : decode cX4_set 34 = .ok (.aload_n 0, 1) := by decide +kernel
theorem dX4_set_35 : decode cX4_set 35 = .ok (.getfield 10, 3) := by decide +kernel
theorem dX4_set_38 : decode cX4_set 38 = .ok (.invokevirtual 41, 3) := by decide +kernel
theorem dX4_set_41 : decode cX4_set 41 = .ok (.iload_n 1, 1) := by decide +kernel
theorem dX4_set_42 : decode cX4_set 42 = .ok (.ifCond .ne 14, 3) := by decide +kernel
theorem dX4_set_45 : decode cX4_set 45 = .ok (.aload_n 0, 1) := by decide +kernel
theorem dX4_set_46 : decode cX4_set 46 = .ok (.getfield 10, 3) := by decide +kernel
theorem dX4_set_49 : decode cX4_set 49 = .ok (.iload_n 2, 1) := by decide +kernel
theorem dX4_set_50 : decode cX4_set 50 = .ok (.invokevirtual 56, 3) := by decide +kernel
theorem dX4_set_53 : decode cX4_set 53 = .ok (.goto 11, 3) := by decide +kernel
theorem dX4_set_56 : decode cX4_set 56 = .ok (.aload_n 0, 1) := by decide +kernel
theorem dX4_set_57 : decode cX4_set 57 = .ok (.getfield 10, 3) := by decide +kernel
theorem dX4_set_60 : decode cX4_set 60 = .ok (.iload_n 2, 1) := by decide +kernel
theorem dX4_set_61 : decode cX4_set 61 = .ok (.invokevirtual 60, 3) := by decide +kernel
theorem dX4_set_64 : decode cX4_set 64 = .ok (.istore_n 3, 1) := by decide +kernel
theorem dX4_set_65 : decode cX4_set 65 = .ok (.aload_n 0, 1) := by decide +kernel
theorem dX4_set_66 : decode cX4_set 66 = .ok (.getfield 19, 3) := by decide +kernel
theorem dX4_set_69 : decode cX4_set 69 = .ok (.invokevirtual 49, 3) := by decide +kernel
theorem dX4_set_72 : decode cX4_set 72 = .ok (.iload_n 3, 1) := by decide +kernel
theorem dX4_set_73 : decode cX4_set 73 = .ok (.ireturn, 1) := by decide +kernel
set_option maxRecDepth 20000 in
theorem ggX4_show_X0_hasPlace : GoodIn wsX4_show wsX0_hasPlace := goodIn_r _ [7, 8, 9, 10, 6, 11, 12, 13, 14, 15, 16, 17, 18, 19, 20, 154, 155, 156, 157, 158, 159, 160, 161, 162, 163] (by decide +kernel) (by decide +kernel)
set_option maxRecDepth 20000 in
theorem gX4_show_X0_hasPlace : GoodIn wsX4_show (wsV RX4 63 RX0 yX0_hasPlace wsX0_hasPlace) := goodIn_app (goodIn_of _ (by decide +kernel)) ggX4_show_X0_hasPlace
set_option maxRecDepth 20000 in
theorem ggX4_show_X4_isDigit : GoodIn wsX4_show wsX4_isDigit := goodIn_r _ [23, 24, 18, 19, 20] (by decide +kernel) (by decide +kernel)
set_option maxRecDepth 20000 in
theorem gX4_show_X4_isDigit : GoodIn wsX4_show (va_wsS RX4 66 yX4_isDigit wsX4_isDigit) := goodIn_app (goodIn_of _ (by decide +kernel)) ggX4_show_X4_isDigit
set_option maxRecDepth 20000 in
theorem ggX4_show_X2_recordState : GoodIn wsX4_show wsX2_recordState := goodIn_r _ [29, 30, 31, 32, 33, 28, 34, 35, 36, 37, 38, 39, 6, 40, 41, 42, 43, 44, 45, 46, 16, 17, 47, 48, 49, 19, 50, 51, 52, 53, 54, 164, 165, 166, 154, 155, 156, 157, 158, 159, 160, 161, 162, 163] (by decide +kernel) (by decide +kernel)
set_option maxRecDepth 20000 in
theorem gX4_show_X2_recordState : GoodIn wsX4_show (wsV RX4 41 RX2 yX2_recordState wsX2_recordState) := goodIn_app (goodIn_of _ (by decide +kernel)) ggX4_show_X2_recordState
set_option maxRecDepth 20000 in
theorem ggX4_show_X0_putSign : GoodIn wsX4_show wsX0_putSign := goodIn_r _ [58, 41, 59, 60, 6, 61, 62, 19, 63, 154, 155, 156, 157, 158, 159, 160, 161, 162, 163] (by decide +kernel) (by decide +kernel)
set_option maxRecDepth 20000 in
theorem gX4_show_X0_putSign : GoodIn wsX4_show (wsV RX4 70 RX0 yX0_putSign wsX0_putSign) := goodIn_app (goodIn_of _ (by decide +kernel)) ggX4_show_X0_putSign
set_option maxRecDepth 20000 in
theorem ggX4_show_X4_endRevision : GoodIn wsX4_show wsX4_endRevision := goodIn_r _ [67, 1, 2, 68, 69, 70, 6, 71, 47, 72, 73, 74, 75, 76, 77, 78, 79, 16, 17, 80, 81, 82, 83, 84, 85, 86, 87, 88, 89, 90, 91, 92, 93, 94, 95, 46, 96, 19, 97, 98, 99, 100, 101, 102, 103, 104, 105, 106, 107, 108, 109, 110, 111, 112, 113, 114, 115, 116, 117, 41, 42, 59, 60, 61, 118, 119, 120, 121, 122, 123, 124, 125, 126, 127, 128, 28, 129, 30, 31, 32, 33, 34, 35, 36, 37, 38, 39, 40, 43, 44, 45, 48, 49, 50, 51, 52, 53, 54, 130, 131, 132, 133, 134, 135, 136, 137, 62, 63, 138, 139, 140, 141, 142, 143, 144, 145, 146, 147, 148, 149, 150, 151, 152, 153, 154, 155, 156, 157, 158, 159, 160, 161, 162, 163, 164, 165, 166] (by decide +kernel) (by decide +kernel)
set_option maxRecDepth 20000 in
theorem gX4_show_X4_endRevision : GoodIn wsX4_show (wsV RX4 74 RX4 yX4_endRevision wsX4_endRevision) := goodIn_app (goodIn_of _ (by decide +kernel)) ggX4_show_X4_endRevision
theorem dX4_show_0 : decode cX4_show 0 = .ok (.aload_n 0, 1) := by decide +kernel
theorem dX4_show_1 : decode cX4_show 1 = .ok (.getfield 10, 3) := by decide +kernel
theorem dX4_show_4 : decode cX4_show 4 = .ok (.iload_n 1, 1) := by decide +kernel
theorem dX4_show_5 : decode cX4_show 5 = .ok (.iload_n 2, 1) := by decide +kernel
theorem dX4_show_6 : decode cX4_show 6 = .ok (.iload_n 3, 1) := by decide +kernel
theorem dX4_show_7 : decode cX4_show 7 = .ok (.invokevirtual 63, 3) := by decide +kernel
theorem dX4_show_10 : decode cX4_show 10 = .ok (.ifCond .eq 11, 3) := by decide +kernel
theorem dX4_show_13 : decode cX4_show 13 = .ok (.iload 4, 2) := by decide +kernel
theorem dX4_show_15 : decode cX4_show 15 = .ok (.invokestatic 66, 3) := by decide +kernel
theorem dX4_show_18 : decode cX4_show 18 = .ok (.ifCond .ne 5, 3) := by decide +kernel
theorem dX4_show_21 : decode cX4_show 21 = .ok (.iconst (-1), 1) := by decide +kernel
theorem dX4_show_22 : decode cX4_show 22 = .ok (.ireturn, 1) := by decide +kernel
theorem dX4_show_23 : decode cX4_show 23 = .ok (.aload_n 0, 1) := by decide +kernel
theorem dX4_show_24 : decode cX4_show 24 = .ok (.getfield 19, 3) := by decide +kernel
theorem dX4_show_27 : decode cX4_show 27 = .ok (.aload_n 0, 1) := by decide +kernel
theorem dX4_show_28 : decode cX4_show 28 = .ok (.getfield 10, 3) := by decide +kernel
theorem dX4_show_31 : decode cX4_show 31 = .ok (.invokevirtual 41, 3) := by decide +kernel
theorem dX4_show_34 : decode cX4_show 34 = .ok (.aload_n 0, 1) := by decide +kernel
theorem dX4_show_35 : decode cX4_show 35 = .ok (.getfield 10, 3) := by decide +kernel
theorem dX4_show_38 : decode cX4_show 38 = .ok (.iload_n 1, 1) := by decide +kernel
theorem dX4_show_39 : decode cX4_show 39 = .ok (.iload_n 2, 1) := by decide +kernel
theorem dX4_show_40 : decode cX4_show 40 = .ok (.iload_n 3, 1) := by decide +kernel
theorem dX4_show_41 : decode cX4_show 41 = .ok (.iload 4, 2) := by decide +kernel
theorem dX4_show_43 : decode cX4_show 43 = .ok (.invokevirtual 70, 3) := by decide +kernel
theorem dX4_show_46 : decode cX4_show 46 = .ok (.istore 5, 2) := by decide +kernel
theorem dX4_show_48 : decode cX4_show 48 = .ok (.aload_n 0, 1) := by decide +kernel
theorem dX4_show_49 : decode cX4_show 49 = .ok (.iload_n 1, 1) := by decide +kernel
theorem dX4_show_50 : decode cX4_show 50 = .ok (.iload 5, 2) := by decide +kernel
theorem dX4_show_52 : decode cX4_show 52 = .ok (.invokevirtual 74, 3) := by decide +kernel
theorem dX4_show_55 : decode cX4_show 55 = .ok (.ireturn, 1) := by decide +kernel
set_option maxRecDepth 20000 in
theorem ggX4_erase_X0_hasPlace : GoodIn wsX4_erase wsX0_hasPlace := goodIn_r _ [7, 8, 9, 10, 6, 11, 12, 13, 14, 15, 16, 17, 18, 19, 20, 154, 155, 156, 157, 158, 159, 160, 161, 162, 163] (by decide +kernel) (by decide +kernel)
set_option maxRecDepth 20000 in
theorem gX4_erase_X0_hasPlace : GoodIn wsX4_erase (wsV RX4 63 RX0 yX0_hasPlace wsX0_hasPlace) := goodIn_app (goodIn_of _ (by decide +kernel)) ggX4_erase_X0_hasPlace
set_option maxRecDepth 20000 in
theorem ggX4_erase_X0_signAt : GoodIn wsX4_erase wsX0_signAt := goodIn_r _ [24, 25, 26, 27, 6, 28, 29, 19, 30, 154, 155, 156, 157, 158, 159, 160, 161, 162, 163] (by decide +kernel) (by decide +kernel)
set_option maxRecDepth 20000 in
theorem gX4_erase_X0_signAt : GoodIn wsX4_erase (wsV RX4 78 RX0 yX0_signAt wsX0_signAt) := goodIn_app (goodIn_of _ (by decide +kernel)) ggX4_erase_X0_signAt
set_option maxRecDepth 20000 in
theorem ggX4_erase_X2_recordState : GoodIn wsX4_erase wsX2_recordState := goodIn_r _ [35, 36, 37, 38, 39, 34, 40, 41, 42, 43, 44, 45, 6, 46, 25, 47, 48, 49, 50, 51, 16, 17, 52, 53, 54, 19, 55, 56, 57, 58, 59, 164, 165, 166, 154, 155, 156, 157, 158, 159, 160, 161, 162, 163] (by decide +kernel) (by decide +kernel)
set_option maxRecDepth 20000 in
theorem gX4_erase_X2_recordState : GoodIn wsX4_erase (wsV RX4 41 RX2 yX2_recordState wsX2_recordState) := goodIn_app (goodIn_of _ (by decide +kernel)) ggX4_erase_X2_recordState
set_option maxRecDepth 20000 in
theorem ggX4_erase_X0_putSign : GoodIn wsX4_erase wsX0_putSign := goodIn_r _ [63, 25, 26, 27, 6, 28, 64, 19, 65, 154, 155, 156, 157, 158, 159, 160, 161, 162, 163] (by decide +kernel) (by decide +kernel)
set_option maxRecDepth 20000 in
theorem gX4_erase_X0_putSign : GoodIn wsX4_erase (wsV RX4 70 RX0 yX0_putSign wsX0_putSign) := goodIn_app (goodIn_of _ (by decide +kernel)) ggX4_erase_X0_putSign
set_option maxRecDepth 20000 in
theorem ggX4_erase_X4_endRevision : GoodIn wsX4_erase wsX4_endRevision := goodIn_r _ [69, 1, 2, 70, 71, 72, 6, 73, 52, 74, 75, 76, 77, 78, 79, 80, 81, 16, 17, 82, 83, 84, 85, 86, 87, 88, 89, 90, 91, 92, 93, 94, 95, 96, 97, 51, 29, 19, 30, 98, 99, 100, 101, 102, 103, 104, 105, 106, 107, 108, 109, 110, 111, 112, 113, 114, 115, 116, 117, 25, 47, 26, 27, 28, 118, 119, 120, 121, 122, 123, 124, 125, 126, 127, 128, 34, 129, 36, 37, 38, 39, 40, 41, 42, 43, 44, 45, 46, 48, 49, 50, 53, 54, 55, 56, 57, 58, 59, 130, 131, 132, 133, 134, 135, 136, 137, 64, 65, 138, 139, 140, 141, 142, 143, 144, 145, 146, 147, 148, 149, 150, 151, 152, 153, 154, 155, 156, 157, 158, 159, 160, 161, 162, 163, 164, 165, 166] (by decide +kernel) (by decide +kernel)
set_option maxRecDepth 20000 in
theorem gX4_erase_X4_endRevision : GoodIn wsX4_erase (wsV RX4 74 RX4 yX4_endRevision wsX4_endRevision) := goodIn_app (goodIn_of _ (by decide +kernel)) ggX4_erase_X4_endRevision
theorem dX4_erase_0 : decode cX4_erase 0 = .ok (.aload_n 0, 1) := by decide +kernel
theorem dX4_erase_1 : decode cX4_erase 1 = .ok (.getfield 10, 3) := by decide +kernel
theorem dX4_erase_4 : decode cX4_erase 4 = .ok (.iload_n 1, 1) := by decide +kernel
theorem dX4_erase_5 : decode cX4_erase 5 = .ok (.iload_n 2, 1) := by decide +kernel
theorem dX4_erase_6 : decode cX4_erase 6 = .ok (.iload_n 3, 1) := by decide +kernel
theorem dX4_erase_7 : decode cX4_erase 7 = .ok (.invokevirtual 63, 3) := by decide +kernel
theorem dX4_erase_10 : decode cX4_erase 10 = .ok (.ifCond .ne 5, 3) := by decide +kernel
theorem dX4_erase_13 : decode cX4_erase 13 = .ok (.iconst (-1), 1) := by decide +kernel
theorem dX4_erase_14 : decode cX4_erase 14 = .ok (.ireturn, 1) := by decide +kernel
theorem dX4_erase_15 : decode cX4_erase 15 = .ok (.aload_n 0, 1) := by decide +kernel
theorem dX4_erase_16 : decode cX4_erase 16 = .ok (.getfield 10, 3) := by decide +kernel
theorem dX4_erase_19 : decode cX4_erase 19 = .ok (.iload_n 1, 1) := by decide +kernel
theorem dX4_erase_20 : decode cX4_erase 20 = .ok (.iload_n 2, 1) := by decide +kernel
theorem dX4_erase_21 : decode cX4_erase 21 = .ok (.iload_n 3, 1) := by decide +kernel
theorem dX4_erase_22 : decode cX4_erase 22 = .ok (.invokevirtual 78, 3) := by decide +kernel
theorem dX4_erase_25 : decode cX4_erase 25 = .ok (.bipush 10, 2) := by decide +kernel
theorem dX4_erase_27 : decode cX4_erase 27 = .ok (.if_icmp .ne 6, 3) := by decide +kernel
theorem dX4_erase_30 : decode cX4_erase 30 = .ok (.bipush (-2), 2) := by decide +kernel
theorem dX4_erase_32 : decode cX4_erase 32 = .ok (.ireturn, 1) := by decide +kernel
theorem dX4_erase_33 : decode cX4_erase 33 = .ok (.aload_n 0, 1) := by decide +kernel
theorem dX4_erase_34 : decode cX4_erase 34 = .ok (.getfield 19, 3) := by decide +kernel
theorem dX4_erase_37 : decode cX4_erase 37 = .ok (.aload_n 0, 1) := by decide +kernel
theorem dX4_erase_38 : decode cX4_erase 38 = .ok (.getfield 10, 3) := by decide +kernel
theorem dX4_erase_41 : decode cX4_erase 41 = .ok (.invokevirtual 41, 3) := by decide +kernel
theorem dX4_erase_44 : decode cX4_erase 44 = .ok (.aload_n 0, 1) := by decide +kernel
theorem dX4_erase_45 : decode cX4_erase 45 = .ok (.getfield 10, 3) := by decide +kernel
theorem dX4_erase_48 : decode cX4_erase 48 = .ok (.iload_n 1, 1) := by decide +kernel
theorem dX4_erase_49 : decode cX4_erase 49 = .ok (.iload_n 2, 1) := by decide +kernel
theorem dX4_erase_50 : decode cX4_erase 50 = .ok (.iload_n 3, 1) := by decide +kernel
theorem dX4_erase_51 : decode cX4_erase 51 = .ok (.bipush 10, 2) := by decide +kernel
theorem dX4_erase_53 : decode cX4_erase 53 = .ok (.invokevirtual 70, 3) := by decide +kernel
theorem dX4_erase_56 : decode cX4_erase 56 = .ok (.istore 4, 2) := by decide +kernel
theorem dX4_erase_58 : decode cX4_erase 58 = .ok (.aload_n 0, 1) := by decide +kernel
theorem dX4_erase_59 : decode cX4_erase 59 = .ok (.iload_n 1, 1) := by decide +kernel
theorem dX4_erase_60 : decode cX4_erase 60 = .ok (.iload 4, 2) := by decide +kernel
theorem dX4_erase_62 : decode cX4_erase 62 = .ok (.invokevirtual 74, 3) := by decide +kernel
theorem dX4_erase_65 : decode cX4_erase 65 = .ok (.ireturn, 1) := by decide +kernel
set_option maxRecDepth 20000 in
theorem ggX4_mean_X0_hasSheet : GoodIn wsX4_mean wsX0_hasSheet := goodIn_r _ [7, 8, 9, 10, 6, 11, 12, 13, 150, 151, 152, 153, 154, 155, 156, 157, 158, 159] (by decide +kernel) (by decide +kernel)
set_option maxRecDepth 20000 in
theorem gX4_mean_X0_hasSheet : GoodIn wsX4_mean (wsV RX4 82 RX0 yX0_hasSheet wsX0_hasSheet) := goodIn_app (goodIn_of _ (by decide +kernel)) ggX4_mean_X0_hasSheet
set_option maxRecDepth 20000 in
theorem ggX4_mean_X4_isDigit : GoodIn wsX4_mean wsX4_isDigit := goodIn_r _ [17, 18, 19, 16, 20] (by decide +kernel) (by decide +kernel)
set_option maxRecDepth 20000 in
theorem gX4_mean_X4_isDigit : GoodIn wsX4_mean (va_wsS RX4 66 yX4_isDigit wsX4_isDigit) := goodIn_app (goodIn_of _ (by decide +kernel)) ggX4_mean_X4_isDigit
set_option maxRecDepth 20000 in
theorem ggX4_mean_X2_recordState : GoodIn wsX4_mean wsX2_recordState := goodIn_r _ [25, 26, 27, 28, 29, 24, 30, 31, 32, 33, 34, 35, 6, 36, 37, 38, 39, 40, 41, 42, 12, 13, 43, 44, 45, 16, 46, 47, 48, 49, 50, 160, 161, 162, 150, 151, 152, 153, 154, 155, 156, 157, 158, 159] (by decide +kernel) (by decide +kernel)
set_option maxRecDepth 20000 in
theorem gX4_mean_X2_recordState : GoodIn wsX4_mean (wsV RX4 41 RX2 yX2_recordState wsX2_recordState) := goodIn_app (goodIn_of _ (by decide +kernel)) ggX4_mean_X2_recordState
set_option maxRecDepth 20000 in
theorem ggX4_mean_X0_putMeaning : GoodIn wsX4_mean wsX0_putMeaning := goodIn_r _ [54, 38, 55, 16, 56, 150, 151, 152, 153, 154, 155, 156, 157, 158, 159] (by decide +kernel) (by decide +kernel)
set_option maxRecDepth 20000 in
theorem gX4_mean_X0_putMeaning : GoodIn wsX4_mean (wsV RX4 85 RX0 yX0_putMeaning wsX0_putMeaning) := goodIn_app (goodIn_of _ (by decide +kernel)) ggX4_mean_X0_putMeaning
set_option maxRecDepth 20000 in
theorem ggX4_mean_X4_endRevision : GoodIn wsX4_mean wsX4_endRevision := goodIn_r _ [60, 1, 2, 61, 62, 63, 6, 64, 43, 65, 66, 67, 68, 69, 70, 71, 72, 12, 13, 73, 74, 75, 76, 77, 78, 79, 80, 81, 82, 83, 84, 85, 86, 87, 88, 42, 89, 16, 90, 91, 92, 93, 94, 95, 96, 97, 98, 99, 100, 101, 102, 103, 104, 105, 106, 107, 108, 109, 110, 37, 38, 111, 112, 113, 114, 115, 116, 117, 118, 119, 120, 121, 122, 123, 124, 24, 125, 26, 27, 28, 29, 30, 31, 32, 33, 34, 35, 36, 39, 40, 41, 44, 45, 46, 47, 48, 49, 50, 126, 127, 128, 129, 130, 131, 132, 133, 55, 56, 134, 135, 136, 137, 138, 139, 140, 141, 142, 143, 144, 145, 146, 147, 148, 149, 150, 151, 152, 153, 154, 155, 156, 157, 158, 159, 160, 161, 162] (by decide +kernel) (by decide +kernel)
set_option maxRecDepth 20000 in
theorem gX4_mean_X4_endRevision : GoodIn wsX4_mean (wsV RX4 74 RX4 yX4_endRevision wsX4_endRevision) := goodIn_app (goodIn_of _ (by decide +kernel)) ggX4_mean_X4_endRevision
theorem dX4_mean_0 : decode cX4_mean 0 = .ok (.aload_n 0, 1) := by decide +kernel
theorem dX4_mean_1 : decode cX4_mean 1 = .ok (.getfield 10, 3) := by decide +kernel
theorem dX4_mean_4 : decode cX4_mean 4 = .ok (.iload_n 1, 1) := by decide +kernel
theorem dX4_mean_5 : decode cX4_mean 5 = .ok (.invokevirtual 82, 3) := by decide +kernel
theorem dX4_mean_8 : decode cX4_mean 8 = .ok (.ifCond .eq 17, 3) := by decide +kernel
theorem dX4_mean_11 : decode cX4_mean 11 = .ok (.iload_n 2, 1) := by decide +kernel
theorem dX4_mean_12 : decode cX4_mean 12 = .ok (.invokestatic 66, 3) := by decide +kernel
theorem dX4_mean_15 : decode cX4_mean 15 = .ok (.ifCond .eq 10, 3) := by decide +kernel
theorem dX4_mean_18 : decode cX4_mean 18 = .ok (.iload_n 3, 1) := by decide +kernel
theorem dX4_mean_19 : decode cX4_mean 19 = .ok (.invokestatic 66, 3) := by decide +kernel
theorem dX4_mean_22 : decode cX4_mean 22 = .ok (.ifCond .ne 5, 3) := by decide +kernel
theorem dX4_mean_25 : decode cX4_mean 25 = .ok (.iconst (-1), 1) := by decide +kernel
theorem dX4_mean_26 : decode cX4_mean 26 = .ok (.ireturn, 1) := by decide +kernel
theorem dX4_mean_27 : decode cX4_mean 27 = .ok (.aload_n 0, 1) := by decide +kernel
theorem dX4_mean_28 : decode cX4_mean 28 = .ok (.getfield 19, 3) := by decide +kernel
theorem dX4_mean_31 : decode cX4_mean 31 = .ok (.aload_n 0, 1) := by decide +kernel
theorem dX4_mean_32 : decode cX4_mean 32 = .ok (.getfield 10, 3) := by decide +kernel
theorem dX4_mean_35 : decode cX4_mean 35 = .ok (.invokevirtual 41, 3) := by decide +kernel
theorem dX4_mean_38 : decode cX4_mean 38 = .ok (.aload_n 0, 1) := by decide +kernel
theorem dX4_mean_39 : decode cX4_mean 39 = .ok (.getfield 10, 3) := by decide +kernel
theorem dX4_mean_42 : decode cX4_mean 42 = .ok (.iload_n 1, 1) := by decide +kernel
theorem dX4_mean_43 : decode cX4_mean 43 = .ok (.iload_n 2, 1) := by decide +kernel
theorem dX4_mean_44 : decode cX4_mean 44 = .ok (.iload_n 3, 1) := by decide +kernel
theorem dX4_mean_45 : decode cX4_mean 45 = .ok (.invokevirtual 85, 3) := by decide +kernel
theorem dX4_mean_48 : decode cX4_mean 48 = .ok (.istore 4, 2) := by decide +kernel
theorem dX4_mean_50 : decode cX4_mean 50 = .ok (.aload_n 0, 1) := by decide +kernel
theorem dX4_mean_51 : decode cX4_mean 51 = .ok (.iload_n 1, 1) := by decide +kernel
theorem dX4_mean_52 : decode cX4_mean 52 = .ok (.iload 4, 2) := by decide +kernel
theorem dX4_mean_54 : decode cX4_mean 54 = .ok (.invokevirtual 74, 3) := by decide +kernel
theorem dX4_mean_57 : decode cX4_mean 57 = .ok (.ireturn, 1) := by decide +kernel
set_option maxRecDepth 20000 in
theorem ggX4_sign_X0_hasPlace : GoodIn wsX4_sign wsX0_hasPlace := goodIn_r _ [6, 7, 8, 9, 5, 10, 11, 12, 13, 14, 15, 16, 17, 18, 19, 34, 35, 36, 37, 38, 39, 40, 41, 42, 43] (by decide +kernel) (by decide +kernel)
set_option maxRecDepth 20000 in
theorem gX4_sign_X0_hasPlace : GoodIn wsX4_sign (wsV RX4 63 RX0 yX0_hasPlace wsX0_hasPlace) := goodIn_app (goodIn_of _ (by decide +kernel)) ggX4_sign_X0_hasPlace
set_option maxRecDepth 20000 in
theorem ggX4_sign_X0_signAt : GoodIn wsX4_sign wsX0_signAt := goodIn_r _ [23, 24, 25, 26, 5, 27, 28, 18, 29, 34, 35, 36, 37, 38, 39, 40, 41, 42, 43] (by decide +kernel) (by decide +kernel)
set_option maxRecDepth 20000 in
theorem gX4_sign_X0_signAt : GoodIn wsX4_sign (wsV RX4 78 RX0 yX0_signAt wsX0_signAt) := goodIn_app (goodIn_of _ (by decide +kernel)) ggX4_sign_X0_signAt
theorem dX4_sign_0 : decode cX4_sign 0 = .ok (.aload_n 0, 1) := by decide +kernel
theorem dX4_sign_1 : decode cX4_sign 1 = .ok (.getfield 10, 3) := by decide +kernel
theorem dX4_sign_4 : decode cX4_sign 4 = .ok (.iload_n 1, 1) := by decide +kernel
theorem dX4_sign_5 : decode cX4_sign 5 = .ok (.iload_n 2, 1) := by decide +kernel
theorem dX4_sign_6 : decode cX4_sign 6 = .ok (.iload_n 3, 1) := by decide +kernel
theorem dX4_sign_7 : decode cX4_sign 7 = .ok (.invokevirtual 63, 3) := by decide +kernel
theorem dX4_sign_10 : decode cX4_sign 10 = .ok (.ifCond .ne 5, 3) := by decide +kernel
theorem dX4_sign_13 : decode cX4_sign 13 = .ok (.iconst (-1), 1) := by decide +kernel
theorem dX4_sign_14 : decode cX4_sign 14 = .ok (.ireturn, 1) := by decide +kernel
theorem dX4_sign_15 : decode cX4_sign 15 = .ok (.aload_n 0, 1) := by decide +kernel
theorem dX4_sign_16 : decode cX4_sign 16 = .ok (.getfield 10, 3) := by decide +kernel
theorem dX4_sign_19 : decode cX4_sign 19 = .ok (.iload_n 1, 1) := by decide +kernel
theorem dX4_sign_20 : decode cX4_sign 20 = .ok (.iload_n 2, 1) := by decide +kernel
theorem dX4_sign_21 : decode cX4_sign 21 = .ok (.iload_n 3, 1) := by decide +kernel
theorem dX4_sign_22 : decode cX4_sign 22 = .ok (.invokevirtual 78, 3) := by decide +kernel
theorem dX4_sign_25 : decode cX4_sign 25 = .ok (.istore 4, 2) := by decide +kernel
theorem dX4_sign_27 : decode cX4_sign 27 = .ok (.iload 4, 2) := by decide +kernel
theorem dX4_sign_29 : decode cX4_sign 29 = .ok (.bipush 10, 2) := by decide +kernel
theorem dX4_sign_31 : decode cX4_sign 31 = .ok (.if_icmp .ne 8, 3) := by decide +kernel
theorem dX4_sign_34 : decode cX4_sign 34 = .ok (.bipush (-4), 2) := by decide +kernel
theorem dX4_sign_36 : decode cX4_sign 36 = .ok (.goto 5, 3) := by decide +kernel
theorem dX4_sign_39 : decode cX4_sign 39 = .ok (.iload 4, 2) := by decide +kernel
theorem dX4_sign_41 : decode cX4_sign 41 = .ok (.ireturn, 1) := by decide +kernel
set_option maxRecDepth 20000 in
theorem ggX4_meaning_X0_hasSheet : GoodIn wsX4_meaning wsX0_hasSheet := goodIn_r _ [6, 7, 8, 9, 5, 10, 11, 12, 31, 32, 33, 34, 35, 36, 37, 38, 39, 40] (by decide +kernel) (by decide +kernel)
set_option maxRecDepth 20000 in
theorem gX4_meaning_X0_hasSheet : GoodIn wsX4_meaning (wsV RX4 82 RX0 yX0_hasSheet wsX0_hasSheet) := goodIn_app (goodIn_of _ (by decide +kernel)) ggX4_meaning_X0_hasSheet
set_option maxRecDepth 20000 in
theorem ggX4_meaning_X4_isDigit : GoodIn wsX4_meaning wsX4_isDigit := goodIn_r _ [16, 17, 18, 15, 19] (by decide +kernel) (by decide +kernel)
set_option maxRecDepth 20000 in
theorem gX4_meaning_X4_isDigit : GoodIn wsX4_meaning (va_wsS RX4 66 yX4_isDigit wsX4_isDigit) := goodIn_app (goodIn_of _ (by decide +kernel)) ggX4_meaning_X4_isDigit
set_option maxRecDepth 20000 in
theorem ggX4_meaning_X0_meaningOf : GoodIn wsX4_meaning wsX0_meaningOf := goodIn_r _ [23, 24, 25, 15, 26, 31, 32, 33, 34, 35, 36, 37, 38, 39, 40] (by decide +kernel) (by decide +kernel)
set_option maxRecDepth 20000 in
theorem gX4_meaning_X0_meaningOf : GoodIn wsX4_meaning (wsV RX4 88 RX0 yX0_meaningOf wsX0_meaningOf) := goodIn_app (goodIn_of _ (by decide +kernel)) ggX4_meaning_X0_meaningOf
theorem dX4_meaning_0 : decode cX4_meaning 0 = .ok (.aload_n 0, 1) := by decide +kernel
theorem dX4_meaning_1 : decode cX4_meaning 1 = .ok (.getfield 10, 3) := by decide +kernel
theorem dX4_meaning_4 : decode cX4_meaning 4 = .ok (.iload_n 1, 1) := by decide +kernel
theorem dX4_meaning_5 : decode cX4_meaning 5 = .ok (.invokevirtual 82, 3) := by decide +kernel
theorem dX4_meaning_8 : decode cX4_meaning 8 = .ok (.ifCond .eq 10, 3) := by decide +kernel
theorem dX4_meaning_11 : decode cX4_meaning 11 = .ok (.iload_n 2, 1) := by decide +kernel
theorem dX4_meaning_12 : decode cX4_meaning 12 = .ok (.invokestatic 66, 3) := by decide +kernel
theorem dX4_meaning_15 : decode cX4_meaning 15 = .ok (.ifCond .ne 5, 3) := by decide +kernel
theorem dX4_meaning_18 : decode cX4_meaning 18 = .ok (.iconst (-1), 1) := by decide +kernel
theorem dX4_meaning_19 : decode cX4_meaning 19 = .ok (.ireturn, 1) := by decide +kernel
theorem dX4_meaning_20 : decode cX4_meaning 20 = .ok (.aload_n 0, 1) := by decide +kernel
theorem dX4_meaning_21 : decode cX4_meaning 21 = .ok (.getfield 10, 3) := by decide +kernel
theorem dX4_meaning_24 : decode cX4_meaning 24 = .ok (.iload_n 1, 1) := by decide +kernel
theorem dX4_meaning_25 : decode cX4_meaning 25 = .ok (.iload_n 2, 1) := by decide +kernel
theorem dX4_meaning_26 : decode cX4_meaning 26 = .ok (.invokevirtual 88, 3) := by decide +kernel
theorem dX4_meaning_29 : decode cX4_meaning 29 = .ok (.ireturn, 1) := by decide +kernel
set_option maxRecDepth 20000 in
theorem ggX4_sheet_X0_hasSheet : GoodIn wsX4_sheet wsX0_hasSheet := goodIn_r _ [7, 8, 9, 10, 6, 11, 12, 13, 127, 128, 129, 130, 131, 132, 133, 134, 135, 136] (by decide +kernel) (by decide +kernel)
set_option maxRecDepth 20000 in
theorem gX4_sheet_X0_hasSheet : GoodIn wsX4_sheet (wsV RX4 82 RX0 yX0_hasSheet wsX0_hasSheet) := goodIn_app (goodIn_of _ (by decide +kernel)) ggX4_sheet_X0_hasSheet
set_option maxRecDepth 20000 in
theorem ggX4_sheet_X0_columnOf : GoodIn wsX4_sheet wsX0_columnOf := goodIn_r _ [17, 12, 127, 128, 129, 130, 131, 132, 133, 134, 135, 136] (by decide +kernel) (by decide +kernel)
set_option maxRecDepth 20000 in
theorem gX4_sheet_X0_columnOf : GoodIn wsX4_sheet (wsV RX4 91 RX0 yX0_columnOf wsX0_columnOf) := goodIn_app (goodIn_of _ (by decide +kernel)) ggX4_sheet_X0_columnOf
set_option maxRecDepth 20000 in
theorem ggX4_sheet_X0_rowOf : GoodIn wsX4_sheet wsX0_rowOf := goodIn_r _ [21, 12, 127, 128, 129, 130, 131, 132, 133, 134, 135, 136] (by decide +kernel) (by decide +kernel)
set_option maxRecDepth 20000 in
theorem gX4_sheet_X0_rowOf : GoodIn wsX4_sheet (wsV RX4 94 RX0 yX0_rowOf wsX0_rowOf) := goodIn_app (goodIn_of _ (by decide +kernel)) ggX4_sheet_X0_rowOf
set_option maxRecDepth 20000 in
theorem ggX4_sheet_X0_edgesOf : GoodIn wsX4_sheet wsX0_edgesOf := goodIn_r _ [25, 26, 27, 28, 6, 29, 12, 13, 30, 15, 16, 17, 31, 19, 20, 21, 32, 33, 34, 35, 127, 128, 129, 130, 131, 132, 133, 134, 135, 136] (by decide +kernel) (by decide +kernel)
set_option maxRecDepth 20000 in
theorem gX4_sheet_X0_edgesOf : GoodIn wsX4_sheet (wsV RX4 97 RX0 yX0_edgesOf wsX0_edgesOf) := goodIn_app (goodIn_of _ (by decide +kernel)) ggX4_sheet_X0_edgesOf
set_option maxRecDepth 20000 in
theorem ggX4_sheet_X0_agreedEdgesOf : GoodIn wsX4_sheet wsX0_agreedEdgesOf := goodIn_r _ [39, 26, 27, 28, 6, 29, 12, 13, 30, 15, 16, 17, 31, 19, 20, 21, 32, 33, 34, 35, 40, 41, 42, 43, 44, 45, 46, 47, 127, 128, 129, 130, 131, 132, 133, 134, 135, 136] (by decide +kernel) (by decide +kernel)
set_option maxRecDepth 20000 in
theorem gX4_sheet_X0_agreedEdgesOf : GoodIn wsX4_sheet (wsV RX4 100 RX0 yX0_agreedEdgesOf wsX0_agreedEdgesOf) := goodIn_app (goodIn_of _ (by decide +kernel)) ggX4_sheet_X0_agreedEdgesOf
set_option maxRecDepth 20000 in
theorem ggX4_sheet_X0_revisionOf : GoodIn wsX4_sheet wsX0_revisionOf := goodIn_r _ [51, 52, 45, 46, 47, 127, 128, 129, 130, 131, 132, 133, 134, 135, 136] (by decide +kernel) (by decide +kernel)
set_option maxRecDepth 20000 in
theorem gX4_sheet_X0_revisionOf : GoodIn wsX4_sheet (wsV RX4 103 RX0 yX0_revisionOf wsX0_revisionOf) := goodIn_app (goodIn_of _ (by decide +kernel)) ggX4_sheet_X0_revisionOf
set_option maxRecDepth 20000 in
theorem ggX4_sheet_X0_isPublished : GoodIn wsX4_sheet wsX0_isPublished := goodIn_r _ [56, 57, 58, 59, 6, 60, 61, 45, 46, 47, 127, 128, 129, 130, 131, 132, 133, 134, 135, 136] (by decide +kernel) (by decide +kernel)
set_option maxRecDepth 20000 in
theorem gX4_sheet_X0_isPublished : GoodIn wsX4_sheet (wsV RX4 106 RX0 yX0_isPublished wsX0_isPublished) := goodIn_app (goodIn_of _ (by decide +kernel)) ggX4_sheet_X0_isPublished
set_option maxRecDepth 20000 in
theorem ggX4_sheet_X0_publishedOf : GoodIn wsX4_sheet wsX0_publishedOf := goodIn_r _ [60, 61, 45, 46, 47, 127, 128, 129, 130, 131, 132, 133, 134, 135, 136] (by decide +kernel) (by decide +kernel)
set_option maxRecDepth 20000 in
theorem gX4_sheet_X0_publishedOf : GoodIn wsX4_sheet (wsV RX4 109 RX0 yX0_publishedOf wsX0_publishedOf) := goodIn_app (goodIn_of _ (by decide +kernel)) ggX4_sheet_X0_publishedOf
set_option maxRecDepth 20000 in
theorem ggX4_sheet_X0_isUpToDate : GoodIn wsX4_sheet wsX0_isUpToDate := goodIn_r _ [66, 67, 54, 55, 6, 56, 57, 58, 59, 60, 61, 45, 46, 47, 68, 49, 50, 51, 52, 127, 128, 129, 130, 131, 132, 133, 134, 135, 136] (by decide +kernel) (by decide +kernel)
set_option maxRecDepth 20000 in
theorem gX4_sheet_X0_isUpToDate : GoodIn wsX4_sheet (wsV RX4 112 RX0 yX0_isUpToDate wsX0_isUpToDate) := goodIn_app (goodIn_of _ (by decide +kernel)) ggX4_sheet_X0_isUpToDate
set_option maxRecDepth 20000 in
theorem ggX4_sheet_X0_scaleOf : GoodIn wsX4_sheet wsX0_scaleOf := goodIn_r _ [72, 73, 45, 46, 47, 127, 128, 129, 130, 131, 132, 133, 134, 135, 136] (by decide +kernel) (by decide +kernel)
set_option maxRecDepth 20000 in
theorem gX4_sheet_X0_scaleOf : GoodIn wsX4_sheet (wsV RX4 115 RX0 yX0_scaleOf wsX0_scaleOf) := goodIn_app (goodIn_of _ (by decide +kernel)) ggX4_sheet_X0_scaleOf
set_option maxRecDepth 20000 in
theorem ggX4_sheet_X0_signsShownOn : GoodIn wsX4_sheet wsX0_signsShownOn := goodIn_r _ [77, 78, 79, 80, 6, 81, 82, 83, 84, 85, 45, 46, 47, 127, 128, 129, 130, 131, 132, 133, 134, 135, 136] (by decide +kernel) (by decide +kernel)
set_option maxRecDepth 20000 in
theorem gX4_sheet_X0_signsShownOn : GoodIn wsX4_sheet (wsV RX4 118 RX0 yX0_signsShownOn wsX0_signsShownOn) := goodIn_app (goodIn_of _ (by decide +kernel)) ggX4_sheet_X0_signsShownOn
set_option maxRecDepth 20000 in
theorem ggX4_sheet_X1_find : GoodIn wsX4_sheet wsX1_find := goodIn_r _ [90, 91, 92, 93, 94, 95, 96, 97, 98, 99, 100, 101, 6, 102, 12, 13, 32, 33, 34, 35, 103, 9, 10, 11, 104, 41, 42, 43, 44, 45, 46, 47, 105, 106, 107, 108, 109, 110, 111, 89, 112, 113, 114, 115, 116, 117, 118, 119, 120, 121, 137, 127, 128, 129, 130, 131, 132, 133, 134, 135, 136] (by decide +kernel) (by decide +kernel)
set_option maxRecDepth 20000 in
theorem gX4_sheet_X1_find : GoodIn wsX4_sheet (wsV RX4 121 RX1 yX1_find wsX1_find) := goodIn_app (goodIn_of _ (by decide +kernel)) ggX4_sheet_X1_find
set_option maxRecDepth 20000 in
theorem ggX4_sheet_X1_lowestOf : GoodIn wsX4_sheet wsX1_lowestOf := goodIn_r _ [112, 91, 45, 46, 47, 137] (by decide +kernel) (by decide +kernel)
set_option maxRecDepth 20000 in
theorem gX4_sheet_X1_lowestOf : GoodIn wsX4_sheet (wsV RX4 125 RX1 yX1_lowestOf wsX1_lowestOf) := goodIn_app (goodIn_of _ (by decide +kernel)) ggX4_sheet_X1_lowestOf
theorem dX4_sheet_0 : decode cX4_sheet 0 = .ok (.aload_n 0, 1) := by decide +kernel
theorem dX4_sheet_1 : decode cX4_sheet 1 = .ok (.getfield 10, 3) := by decide +kernel
theorem dX4_sheet_4 : decode cX4_sheet 4 = .ok (.iload_n 1, 1) := by decide +kernel
theorem dX4_sheet_5 : decode cX4_sheet 5 = .ok (.invokevirtual 82, 3) := by decide +kernel
theorem dX4_sheet_8 : decode cX4_sheet 8 = .ok (.ifCond .ne 5, 3) := by decide +kernel
theorem dX4_sheet_11 : decode cX4_sheet 11 = .ok (.iconst (-1), 1) := by decide +kernel
theorem dX4_sheet_12 : decode cX4_sheet 12 = .ok (.ireturn, 1) := by decide +kernel
theorem dX4_sheet_13 : decode cX4_sheet 13 = .ok (.iload_n 2, 1) := by decide +kernel
theorem dX4_sheet_14 : decode cX4_sheet 14 = .ok (.tableswitch 180 0 9 #[54, 63, 72, 81, 90, 99, 124, 141, 150, 159], 54) := by decide +kernel
theorem dX4_sheet_68 : decode cX4_sheet 68 = .ok (.aload_n 0, 1) := by decide +kernel
theorem dX4_sheet_69 : decode cX4_sheet 69 = .ok (.getfield 10, 3) := by decide +kernel
theorem dX4_sheet_72 : decode cX4_sheet 72 = .ok (.iload_n 1, 1) := by decide +kernel
theorem dX4_sheet_73 : decode cX4_sheet 73 = .ok (.invokevirtual 91, 3) := by decide +kernel
theorem dX4_sheet_76 : decode cX4_sheet 76 = .ok (.ireturn, 1) := by decide +kernel
theorem dX4_sheet_77 : decode cX4_sheet 77 = .ok (.aload_n 0, 1) := by decide +kernel
theorem dX4_sheet_78 : decode cX4_sheet 78 = .ok (.getfield 10, 3) := by decide +kernel
theorem dX4_sheet_81 : decode cX4_sheet 81 = .ok (.iload_n 1, 1) := by decide +kernel
theorem dX4_sheet_82 : decode cX4_sheet 82 = .ok (.invokevirtual 94, 3) := by decide +kernel
theorem dX4_sheet_85 : decode cX4_sheet 85 = .ok (.ireturn, 1) := by decide +kernel
theorem dX4_sheet_86 : decode cX4_sheet 86 = .ok (.aload_n 0, 1) := by decide +kernel
theorem dX4_sheet_87 : decode cX4_sheet 87 = .ok (.getfield 10, 3) := by decide +kernel
theorem dX4_sheet_90 : decode cX4_sheet 90 = .ok (.iload_n 1, 1) := by decide +kernel
theorem dX4_sheet_91 : decode cX4_sheet 91 = .ok (.invokevirtual 97, 3) := by decide +kernel
theorem dX4_sheet_94 : decode cX4_sheet 94 = .ok (.ireturn, 1) := by decide +kernel
theorem dX4_sheet_95 : decode cX4_sheet 95 = .ok (.aload_n 0, 1) := by decide +kernel
theorem dX4_sheet_96 : decode cX4_sheet 96 = .ok (.getfield 10, 3) := by decide +kernel
theorem dX4_sheet_99 : decode cX4_sheet 99 = .ok (.iload_n 1, 1) := by decide +kernel
theorem dX4_sheet_100 : decode cX4_sheet 100 = .ok (.invokevirtual 100, 3) := by decide +kernel
theorem dX4_sheet_103 : decode cX4_sheet 103 = .ok (.ireturn, 1) := by decide +kernel
theorem dX4_sheet_104 : decode cX4_sheet 104 = .ok (.aload_n 0, 1) := by decide +kernel
theorem dX4_sheet_105 : decode cX4_sheet 105 = .ok (.getfield 10, 3) := by decide +kernel
theorem dX4_sheet_108 : decode cX4_sheet 108 = .ok (.iload_n 1, 1) := by decide +kernel
theorem dX4_sheet_109 : decode cX4_sheet 109 = .ok (.invokevirtual 103, 3) := by decide +kernel
theorem dX4_sheet_112 : decode cX4_sheet 112 = .ok (.ireturn, 1) := by decide +kernel
theorem dX4_sheet_113 : decode cX4_sheet 113 = .ok (.aload_n 0, 1) := by decide +kernel
theorem dX4_sheet_114 : decode cX4_sheet 114 = .ok (.getfield 10, 3) := by decide +kernel
theorem dX4_sheet_117 : decode cX4_sheet 117 = .ok (.iload_n 1, 1) := by decide +kernel
theorem dX4_sheet_118 : decode cX4_sheet 118 = .ok (.invokevirtual 106, 3) := by decide +kernel
theorem dX4_sheet_121 : decode cX4_sheet 121 = .ok (.ifCond .eq 14, 3) := by decide +kernel
theorem dX4_sheet_124 : decode cX4_sheet 124 = .ok (.aload_n 0, 1) := by decide +kernel
theorem dX4_sheet_125 : decode cX4_sheet 125 = .ok (.getfield 10, 3) := by decide +kernel
theorem dX4_sheet_128 : decode cX4_sheet 128 = .ok (.iload_n 1, 1) := by decide +kernel
theorem dX4_sheet_129 : decode cX4_sheet 129 = .ok (.invokevirtual 109, 3) := by decide +kernel
theorem dX4_sheet_132 : decode cX4_sheet 132 = .ok (.goto 5, 3) := by decide +kernel
theorem dX4_sheet_135 : decode cX4_sheet 135 = .ok (.bipush (-4), 2) := by decide +kernel
theorem dX4_sheet_137 : decode cX4_sheet 137 = .ok (.ireturn, 1) := by decide +kernel
theorem dX4_sheet_138 : decode cX4_sheet 138 = .ok (.aload_n 0, 1) := by decide +kernel
theorem dX4_sheet_139 : decode cX4_sheet 139 = .ok (.getfield 10, 3) := by decide +kernel
theorem dX4_sheet_142 : decode cX4_sheet 142 = .ok (.iload_n 1, 1) := by decide +kernel
theorem dX4_sheet_143 : decode cX4_sheet 143 = .ok (.invokevirtual 112, 3) := by decide +kernel
theorem dX4_sheet_146 : decode cX4_sheet 146 = .ok (.ifCond .eq 7, 3) := by decide +kernel
theorem dX4_sheet_149 : decode cX4_sheet 149 = .ok (.iconst 1, 1) := by decide +kernel
theorem dX4_sheet_150 : decode cX4_sheet 150 = .ok (.goto 4, 3) := by decide +kernel
theorem dX4_sheet_153 : decode cX4_sheet 153 = .ok (.iconst 0, 1) := by decide +kernel
theorem dX4_sheet_154 : decode cX4_sheet 154 = .ok (.ireturn, 1) := by decide +kernel
theorem dX4_sheet_155 : decode cX4_sheet 155 = .ok (.aload_n 0, 1) := by decide +kernel
theorem dX4_sheet_156 : decode cX4_sheet 156 = .ok (.getfield 10, 3) := by decide +kernel
theorem dX4_sheet_159 : decode cX4_sheet 159 = .ok (.iload_n 1, 1) := by decide +kernel
theorem dX4_sheet_160 : decode cX4_sheet 160 = .ok (.invokevirtual 115, 3) := by decide +kernel
theorem dX4_sheet_163 : decode cX4_sheet 163 = .ok (.ireturn, 1) := by decide +kernel
theorem dX4_sheet_164 : decode cX4_sheet 164 = .ok (.aload_n 0, 1) := by decide +kernel
theorem dX4_sheet_165 : decode cX4_sheet 165 = .ok (.getfield 10, 3) := by decide +kernel
theorem dX4_sheet_168 : decode cX4_sheet 168 = .ok (.iload_n 1, 1) := by decide +kernel
theorem dX4_sheet_169 : decode cX4_sheet 169 = .ok (.invokevirtual 118, 3) := by decide +kernel
theorem dX4_sheet_172 : decode cX4_sheet 172 = .ok (.ireturn, 1) := by decide +kernel
theorem dX4_sheet_173 : decode cX4_sheet 173 = .ok (.aload_n 0, 1) := by decide +kernel
theorem dX4_sheet_174 : decode cX4_sheet 174 = .ok (.getfield 26, 3) := by decide +kernel
theorem dX4_sheet_177 : decode cX4_sheet 177 = .ok (.aload_n 0, 1) := by decide +kernel
theorem dX4_sheet_178 : decode cX4_sheet 178 = .ok (.getfield 10, 3) := by decide +kernel
theorem dX4_sheet_181 : decode cX4_sheet 181 = .ok (.invokevirtual 121, 3) := by decide +kernel
theorem dX4_sheet_184 : decode cX4_sheet 184 = .ok (.pop, 1) := by decide +kernel
theorem dX4_sheet_185 : decode cX4_sheet 185 = .ok (.aload_n 0, 1) := by decide +kernel
theorem dX4_sheet_186 : decode cX4_sheet 186 = .ok (.getfield 26, 3) := by decide +kernel
theorem dX4_sheet_189 : decode cX4_sheet 189 = .ok (.iload_n 1, 1) := by decide +kernel
theorem dX4_sheet_190 : decode cX4_sheet 190 = .ok (.invokevirtual 125, 3) := by decide +kernel
theorem dX4_sheet_193 : decode cX4_sheet 193 = .ok (.ireturn, 1) := by decide +kernel
theorem dX4_sheet_194 : decode cX4_sheet 194 = .ok (.iconst (-1), 1) := by decide +kernel
theorem dX4_sheet_195 : decode cX4_sheet 195 = .ok (.ireturn, 1) := by decide +kernel
set_option maxRecDepth 20000 in
theorem ggX4_count_X0_columnCount : GoodIn wsX4_count wsX0_columnCount := goodIn_r _ [9, 10, 184, 185, 186, 187, 188, 189, 190, 191, 192, 193] (by decide +kernel) (by decide +kernel)
set_option maxRecDepth 20000 in
theorem gX4_count_X0_columnCount : GoodIn wsX4_count (wsV RX4 128 RX0 yX0_columnCount wsX0_columnCount) := goodIn_app (goodIn_of _ (by decide +kernel)) ggX4_count_X0_columnCount
set_option maxRecDepth 20000 in
theorem ggX4_count_X0_rowCount : GoodIn wsX4_count wsX0_rowCount := goodIn_r _ [14, 15, 184, 185, 186, 187, 188, 189, 190, 191, 192, 193] (by decide +kernel) (by decide +kernel)
set_option maxRecDepth 20000 in
theorem gX4_count_X0_rowCount : GoodIn wsX4_count (wsV RX4 131 RX0 yX0_rowCount wsX0_rowCount) := goodIn_app (goodIn_of _ (by decide +kernel)) ggX4_count_X0_rowCount
set_option maxRecDepth 20000 in
theorem ggX4_count_X0_sheetCount : GoodIn wsX4_count wsX0_sheetCount := goodIn_r _ [19, 10, 15, 184, 185, 186, 187, 188, 189, 190, 191, 192, 193] (by decide +kernel) (by decide +kernel)
set_option maxRecDepth 20000 in
theorem gX4_count_X0_sheetCount : GoodIn wsX4_count (wsV RX4 134 RX0 yX0_sheetCount wsX0_sheetCount) := goodIn_app (goodIn_of _ (by decide +kernel)) ggX4_count_X0_sheetCount
set_option maxRecDepth 20000 in
theorem ggX4_count_X0_edgeCount : GoodIn wsX4_count wsX0_edgeCount := goodIn_r _ [23, 10, 15, 24, 25, 26, 8, 27, 184, 185, 186, 187, 188, 189, 190, 191, 192, 193] (by decide +kernel) (by decide +kernel)
set_option maxRecDepth 20000 in
theorem gX4_count_X0_edgeCount : GoodIn wsX4_count (wsV RX4 52 RX0 yX0_edgeCount wsX0_edgeCount) := goodIn_app (goodIn_of _ (by decide +kernel)) ggX4_count_X0_edgeCount
set_option maxRecDepth 20000 in
theorem ggX4_count_X0_agreedEdges : GoodIn wsX4_count wsX0_agreedEdges := goodIn_r _ [31, 32, 21, 22, 8, 23, 10, 15, 24, 25, 26, 27, 33, 34, 35, 36, 37, 38, 39, 40, 184, 185, 186, 187, 188, 189, 190, 191, 192, 193] (by decide +kernel) (by decide +kernel)
set_option maxRecDepth 20000 in
theorem gX4_count_X0_agreedEdges : GoodIn wsX4_count (wsV RX4 137 RX0 yX0_agreedEdges wsX0_agreedEdges) := goodIn_app (goodIn_of _ (by decide +kernel)) ggX4_count_X0_agreedEdges
set_option maxRecDepth 20000 in
theorem ggX4_count_X0_cleanEdges : GoodIn wsX4_count wsX0_cleanEdges := goodIn_r _ [44, 32, 21, 22, 8, 23, 10, 15, 24, 25, 26, 27, 45, 46, 47, 48, 49, 50, 51, 52, 53, 54, 55, 56, 57, 58, 59, 60, 61, 62, 63, 64, 65, 66, 67, 68, 69, 38, 39, 40, 70, 71, 72, 73, 74, 75, 76, 77, 184, 185, 186, 187, 188, 189, 190, 191, 192, 193] (by decide +kernel) (by decide +kernel)
set_option maxRecDepth 20000 in
theorem gX4_count_X0_cleanEdges : GoodIn wsX4_count (wsV RX4 140 RX0 yX0_cleanEdges wsX0_cleanEdges) := goodIn_app (goodIn_of _ (by decide +kernel)) ggX4_count_X0_cleanEdges
set_option maxRecDepth 20000 in
theorem ggX4_count_X0_quarrelsOfAll : GoodIn wsX4_count wsX0_quarrelsOfAll := goodIn_r _ [81, 32, 21, 22, 8, 23, 10, 15, 24, 25, 26, 27, 45, 46, 47, 48, 49, 50, 51, 52, 53, 54, 55, 56, 57, 58, 59, 60, 61, 62, 63, 64, 65, 66, 67, 68, 69, 38, 39, 40, 70, 71, 72, 73, 74, 75, 76, 77, 184, 185, 186, 187, 188, 189, 190, 191, 192, 193] (by decide +kernel) (by decide +kernel)
set_option maxRecDepth 20000 in
theorem gX4_count_X0_quarrelsOfAll : GoodIn wsX4_count (wsV RX4 143 RX0 yX0_quarrelsOfAll wsX0_quarrelsOfAll) := goodIn_app (goodIn_of _ (by decide +kernel)) ggX4_count_X0_quarrelsOfAll
set_option maxRecDepth 20000 in
theorem ggX4_count_X1_find : GoodIn wsX4_count wsX1_find := goodIn_r _ [86, 87, 88, 89, 90, 91, 92, 93, 94, 95, 21, 22, 8, 23, 10, 15, 24, 25, 26, 27, 96, 17, 18, 19, 97, 34, 35, 36, 37, 38, 39, 40, 98, 54, 55, 56, 99, 100, 101, 85, 102, 103, 71, 72, 73, 53, 104, 105, 106, 107, 194, 184, 185, 186, 187, 188, 189, 190, 191, 192, 193] (by decide +kernel) (by decide +kernel)
set_option maxRecDepth 20000 in
theorem gX4_count_X1_find : GoodIn wsX4_count (wsV RX4 121 RX1 yX1_find wsX1_find) := goodIn_app (goodIn_of _ (by decide +kernel)) ggX4_count_X1_find
set_option maxRecDepth 20000 in
theorem ggX4_count_X0_publishedSheets : GoodIn wsX4_count wsX0_publishedSheets := goodIn_r _ [111, 112, 17, 18, 8, 19, 10, 15, 113, 114, 115, 116, 117, 118, 119, 120, 121, 38, 39, 40, 184, 185, 186, 187, 188, 189, 190, 191, 192, 193] (by decide +kernel) (by decide +kernel)
set_option maxRecDepth 20000 in
theorem gX4_count_X0_publishedSheets : GoodIn wsX4_count (wsV RX4 146 RX0 yX0_publishedSheets wsX0_publishedSheets) := goodIn_app (goodIn_of _ (by decide +kernel)) ggX4_count_X0_publishedSheets
set_option maxRecDepth 20000 in
theorem ggX4_count_X0_sheetsUpToDate : GoodIn wsX4_count wsX0_sheetsUpToDate := goodIn_r _ [125, 112, 17, 18, 8, 19, 10, 15, 126, 127, 128, 129, 113, 114, 115, 116, 117, 118, 119, 120, 121, 38, 39, 40, 130, 131, 132, 133, 134, 184, 185, 186, 187, 188, 189, 190, 191, 192, 193] (by decide +kernel) (by decide +kernel)
set_option maxRecDepth 20000 in
theorem gX4_count_X0_sheetsUpToDate : GoodIn wsX4_count (wsV RX4 149 RX0 yX0_sheetsUpToDate wsX0_sheetsUpToDate) := goodIn_app (goodIn_of _ (by decide +kernel)) ggX4_count_X0_sheetsUpToDate
set_option maxRecDepth 20000 in
theorem ggX4_count_X0_fittingEdges : GoodIn wsX4_count wsX0_fittingEdges := goodIn_r _ [138, 32, 21, 22, 8, 23, 10, 15, 24, 25, 26, 27, 139, 140, 141, 142, 143, 144, 145, 146, 147, 148, 70, 71, 72, 73, 53, 54, 55, 56, 149, 150, 151, 152, 153, 154, 155, 156, 157, 158, 38, 39, 40, 184, 185, 186, 187, 188, 189, 190, 191, 192, 193] (by decide +kernel) (by decide +kernel)
set_option maxRecDepth 20000 in
theorem gX4_count_X0_fittingEdges : GoodIn wsX4_count (wsV RX4 152 RX0 yX0_fittingEdges wsX0_fittingEdges) := goodIn_app (goodIn_of _ (by decide +kernel)) ggX4_count_X0_fittingEdges
set_option maxRecDepth 20000 in
theorem ggX4_count_X2_stateCount : GoodIn wsX4_count wsX2_stateCount := goodIn_r _ [163, 164, 195, 196, 197] (by decide +kernel) (by decide +kernel)
set_option maxRecDepth 20000 in
theorem gX4_count_X2_stateCount : GoodIn wsX4_count (wsV RX4 155 RX2 yX2_stateCount wsX2_stateCount) := goodIn_app (goodIn_of _ (by decide +kernel)) ggX4_count_X2_stateCount
set_option maxRecDepth 20000 in
theorem ggX4_count_X3_characterCount : GoodIn wsX4_count wsX3_characterCount := goodIn_r _ [169, 170, 198, 199] (by decide +kernel) (by decide +kernel)
set_option maxRecDepth 20000 in
theorem gX4_count_X3_characterCount : GoodIn wsX4_count (wsV RX4 158 RX3 yX3_characterCount wsX3_characterCount) := goodIn_app (goodIn_of _ (by decide +kernel)) ggX4_count_X3_characterCount
set_option maxRecDepth 20000 in
theorem ggX4_count_X0_guardValue : GoodIn wsX4_count wsX0_guardValue := goodIn_r _ [174, 175, 184, 185, 186, 187, 188, 189, 190, 191, 192, 193] (by decide +kernel) (by decide +kernel)
set_option maxRecDepth 20000 in
theorem gX4_count_X0_guardValue : GoodIn wsX4_count (wsV RX4 161 RX0 yX0_guardValue wsX0_guardValue) := goodIn_app (goodIn_of _ (by decide +kernel)) ggX4_count_X0_guardValue
set_option maxRecDepth 20000 in
theorem ggX4_count_X0_toleranceValue : GoodIn wsX4_count wsX0_toleranceValue := goodIn_r _ [179, 143, 184, 185, 186, 187, 188, 189, 190, 191, 192, 193] (by decide +kernel) (by decide +kernel)
set_option maxRecDepth 20000 in
theorem gX4_count_X0_toleranceValue : GoodIn wsX4_count (wsV RX4 164 RX0 yX0_toleranceValue wsX0_toleranceValue) := goodIn_app (goodIn_of _ (by decide +kernel)) ggX4_count_X0_toleranceValue
theorem dX4_count_0 : decode cX4_count 0 = .ok (.iload_n 1, 1) := by decide +kernel
theorem dX4_count_1 : decode cX4_count 1 = .ok (.tableswitch 199 0 14 #[75, 83, 91, 99, 107, 115, 123, 131, 143, 151, 159, 167, 175, 183, 191], 75) := by decide +kernel
theorem dX4_count_76 : decode cX4_count 76 = .ok (.aload_n 0, 1) := by decide +kernel
theorem dX4_count_77 : decode cX4_count 77 = .ok (.getfield 10, 3) := by decide +kernel
theorem dX4_count_80 : decode cX4_count 80 = .ok (.invokevirtual 128, 3) := by decide +kernel
theorem dX4_count_83 : decode cX4_count 83 = .ok (.ireturn, 1) := by decide +kernel
theorem dX4_count_84 : decode cX4_count 84 = .ok (.aload_n 0, 1) := by decide +kernel
theorem dX4_count_85 : decode cX4_count 85 = .ok (.getfield 10, 3) := by decide +kernel
theorem dX4_count_88 : decode cX4_count 88 = .ok (.invokevirtual 131, 3) := by decide +kernel
theorem dX4_count_91 : decode cX4_count 91 = .ok (.ireturn, 1) := by decide +kernel
theorem dX4_count_92 : decode cX4_count 92 = .ok (.aload_n 0, 1) := by decide +kernel
theorem dX4_count_93 : decode cX4_count 93 = .ok (.getfield 10, 3) := by decide +kernel
theorem dX4_count_96 : decode cX4_count 96 = .ok (.invokevirtual 134, 3) := by decide +kernel
theorem dX4_count_99 : decode cX4_count 99 = .ok (.ireturn, 1) := by decide +kernel
theorem dX4_count_100 : decode cX4_count 100 = .ok (.aload_n 0, 1) := by decide +kernel
theorem dX4_count_101 : decode cX4_count 101 = .ok (.getfield 10, 3) := by decide +kernel
theorem dX4_count_104 : decode cX4_count 104 = .ok (.invokevirtual 52, 3) := by decide +kernel
theorem dX4_count_107 : decode cX4_count 107 = .ok (.ireturn, 1) := by decide +kernel
theorem dX4_count_108 : decode cX4_count 108 = .ok (.aload_n 0, 1) := by decide +kernel
theorem dX4_count_109 : decode cX4_count 109 = .ok (.getfield 10, 3) := by decide +kernel
theorem dX4_count_112 : decode cX4_count 112 = .ok (.invokevirtual 137, 3) := by decide +kernel
theorem dX4_count_115 : decode cX4_count 115 = .ok (.ireturn, 1) := by decide +kernel
theorem dX4_count_116 : decode cX4_count 116 = .ok (.aload_n 0, 1) := by decide +kernel
theorem dX4_count_117 : decode cX4_count 117 = .ok (.getfield 10, 3) := by decide +kernel
theorem dX4_count_120 : decode cX4_count 120 = .ok (.invokevirtual 140, 3) := by decide +kernel
theorem dX4_count_123 : decode cX4_count 123 = .ok (.ireturn, 1) := by decide +kernel
theorem dX4_count_124 : decode cX4_count 124 = .ok (.aload_n 0, 1) := by decide +kernel
theorem dX4_count_125 : decode cX4_count 125 = .ok (.getfield 10, 3) := by decide +kernel
theorem dX4_count_128 : decode cX4_count 128 = .ok (.invokevirtual 143, 3) := by decide +kernel
theorem dX4_count_131 : decode cX4_count 131 = .ok (.ireturn, 1) := by decide +kernel
theorem dX4_count_132 : decode cX4_count 132 = .ok (.aload_n 0, 1) := by decide +kernel
theorem dX4_count_133 : decode cX4_count 133 = .ok (.getfield 26, 3) := by decide +kernel
theorem dX4_count_136 : decode cX4_count 136 = .ok (.aload_n 0, 1) := by decide +kernel
theorem dX4_count_137 : decode cX4_count 137 = .ok (.getfield 10, 3) := by decide +kernel
theorem dX4_count_140 : decode cX4_count 140 = .ok (.invokevirtual 121, 3) := by decide +kernel
theorem dX4_count_143 : decode cX4_count 143 = .ok (.ireturn, 1) := by decide +kernel
theorem dX4_count_144 : decode cX4_count 144 = .ok (.aload_n 0, 1) := by decide +kernel
theorem dX4_count_145 : decode cX4_count 145 = .ok (.getfield 10, 3) := by decide +kernel
theorem dX4_count_148 : decode cX4_count 148 = .ok (.invokevirtual 146, 3) := by decide +kernel
theorem dX4_count_151 : decode cX4_count 151 = .ok (.ireturn, 1) := by decide +kernel
theorem dX4_count_152 : decode cX4_count 152 = .ok (.aload_n 0, 1) := by decide +kernel
theorem dX4_count_153 : decode cX4_count 153 = .ok (.getfield 10, 3) := by decide +kernel
theorem dX4_count_156 : decode cX4_count 156 = .ok (.invokevirtual 149, 3) := by decide +kernel
theorem dX4_count_159 : decode cX4_count 159 = .ok (.ireturn, 1) := by decide +kernel
theorem dX4_count_160 : decode cX4_count 160 = .ok (.aload_n 0, 1) := by decide +kernel
theorem dX4_count_161 : decode cX4_count 161 = .ok (.getfield 10, 3) := by decide +kernel
theorem dX4_count_164 : decode cX4_count 164 = .ok (.invokevirtual 152, 3) := by decide +kernel
theorem dX4_count_167 : decode cX4_count 167 = .ok (.ireturn, 1) := by decide +kernel
theorem dX4_count_168 : decode cX4_count 168 = .ok (.aload_n 0, 1) := by decide +kernel
theorem dX4_count_169 : decode cX4_count 169 = .ok (.getfield 19, 3) := by decide +kernel
theorem dX4_count_172 : decode cX4_count 172 = .ok (.invokevirtual 155, 3) := by decide +kernel
theorem dX4_count_175 : decode cX4_count 175 = .ok (.ireturn, 1) := by decide +kernel
theorem dX4_count_176 : decode cX4_count 176 = .ok (.aload_n 0, 1) := by decide +kernel
theorem dX4_count_177 : decode cX4_count 177 = .ok (.getfield 33, 3) := by decide +kernel
theorem dX4_count_180 : decode cX4_count 180 = .ok (.invokevirtual 158, 3) := by decide +kernel
theorem dX4_count_183 : decode cX4_count 183 = .ok (.ireturn, 1) := by decide +kernel
theorem dX4_count_184 : decode cX4_count 184 = .ok (.aload_n 0, 1) := by decide +kernel
theorem dX4_count_185 : decode cX4_count 185 = .ok (.getfield 10, 3) := by decide +kernel
theorem dX4_count_188 : decode cX4_count 188 = .ok (.invokevirtual 161, 3) := by decide +kernel
theorem dX4_count_191 : decode cX4_count 191 = .ok (.ireturn, 1) := by decide +kernel
theorem dX4_count_192 : decode cX4_count 192 = .ok (.aload_n 0, 1) := by decide +kernel
theorem dX4_count_193 : decode cX4_count 193 = .ok (.getfield 10, 3) := by decide +kernel
theorem dX4_count_196 : decode cX4_count 196 = .ok (.invokevirtual 164, 3) := by decide +kernel
theorem dX4_count_199 : decode cX4_count 199 = .ok (.ireturn, 1) := by decide +kernel
theorem dX4_count_200 : decode cX4_count 200 = .ok (.iconst (-1), 1) := by decide +kernel
theorem dX4_count_201 : decode cX4_count 201 = .ok (.ireturn, 1) := by decide +kernel
set_option maxRecDepth 20000 in
theorem ggX4_edge_X0_hasEdge : GoodIn wsX4_edge wsX0_hasEdge := goodIn_r _ [6, 7, 8, 9, 5, 10, 11, 12, 13, 14, 15, 16, 93, 94, 95, 96, 97, 98, 99, 100, 101, 102] (by decide +kernel) (by decide +kernel)
set_option maxRecDepth 20000 in
theorem gX4_edge_X0_hasEdge : GoodIn wsX4_edge (wsV RX4 170 RX0 yX0_hasEdge wsX0_hasEdge) := goodIn_app (goodIn_of _ (by decide +kernel)) ggX4_edge_X0_hasEdge
set_option maxRecDepth 20000 in
theorem ggX4_edge_X0_firstSheet : GoodIn wsX4_edge wsX0_firstSheet := goodIn_r _ [20, 11, 12, 93, 94, 95, 96, 97, 98, 99, 100, 101, 102] (by decide +kernel) (by decide +kernel)
set_option maxRecDepth 20000 in
theorem gX4_edge_X0_firstSheet : GoodIn wsX4_edge (wsV RX4 173 RX0 yX0_firstSheet wsX0_firstSheet) := goodIn_app (goodIn_of _ (by decide +kernel)) ggX4_edge_X0_firstSheet
set_option maxRecDepth 20000 in
theorem ggX4_edge_X0_secondSheet : GoodIn wsX4_edge wsX0_secondSheet := goodIn_r _ [24, 11, 25, 18, 19, 5, 20, 12, 13, 14, 15, 16, 93, 94, 95, 96, 97, 98, 99, 100, 101, 102] (by decide +kernel) (by decide +kernel)
set_option maxRecDepth 20000 in
theorem gX4_edge_X0_secondSheet : GoodIn wsX4_edge (wsV RX4 176 RX0 yX0_secondSheet wsX0_secondSheet) := goodIn_app (goodIn_of _ (by decide +kernel)) ggX4_edge_X0_secondSheet
set_option maxRecDepth 20000 in
theorem ggX4_edge_X0_firstSide : GoodIn wsX4_edge wsX0_firstSide := goodIn_r _ [29, 13, 14, 15, 5, 16, 11, 12, 93, 94, 95, 96, 97, 98, 99, 100, 101, 102] (by decide +kernel) (by decide +kernel)
set_option maxRecDepth 20000 in
theorem gX4_edge_X0_firstSide : GoodIn wsX4_edge (wsV RX4 179 RX0 yX0_firstSide wsX0_firstSide) := goodIn_app (goodIn_of _ (by decide +kernel)) ggX4_edge_X0_firstSide
set_option maxRecDepth 20000 in
theorem ggX4_edge_X0_isAgreed : GoodIn wsX4_edge wsX0_isAgreed := goodIn_r _ [33, 34, 35, 36, 37, 93, 94, 95, 96, 97, 98, 99, 100, 101, 102] (by decide +kernel) (by decide +kernel)
set_option maxRecDepth 20000 in
theorem gX4_edge_X0_isAgreed : GoodIn wsX4_edge (wsV RX4 182 RX0 yX0_isAgreed wsX0_isAgreed) := goodIn_app (goodIn_of _ (by decide +kernel)) ggX4_edge_X0_isAgreed
set_option maxRecDepth 20000 in
theorem ggX4_edge_X0_quarrelsOf : GoodIn wsX4_edge wsX0_quarrelsOf := goodIn_r _ [41, 42, 43, 44, 5, 45, 25, 18, 19, 20, 11, 12, 46, 27, 28, 29, 13, 14, 15, 16, 47, 48, 49, 50, 51, 52, 53, 54, 55, 35, 36, 37, 56, 22, 23, 24, 57, 58, 59, 60, 93, 94, 95, 96, 97, 98, 99, 100, 101, 102] (by decide +kernel) (by decide +kernel)
set_option maxRecDepth 20000 in
theorem gX4_edge_X0_quarrelsOf : GoodIn wsX4_edge (wsV RX4 185 RX0 yX0_quarrelsOf wsX0_quarrelsOf) := goodIn_app (goodIn_of _ (by decide +kernel)) ggX4_edge_X0_quarrelsOf
set_option maxRecDepth 20000 in
theorem ggX4_edge_X0_signsOnBothSides : GoodIn wsX4_edge wsX0_signsOnBothSides := goodIn_r _ [64, 25, 18, 19, 5, 20, 11, 12, 46, 27, 28, 29, 13, 14, 15, 16, 65, 66, 67, 68, 51, 53, 54, 55, 35, 36, 37, 56, 22, 23, 24, 57, 58, 59, 60, 93, 94, 95, 96, 97, 98, 99, 100, 101, 102] (by decide +kernel) (by decide +kernel)
set_option maxRecDepth 20000 in
theorem gX4_edge_X0_signsOnBothSides : GoodIn wsX4_edge (wsV RX4 188 RX0 yX0_signsOnBothSides wsX0_signsOnBothSides) := goodIn_app (goodIn_of _ (by decide +kernel)) ggX4_edge_X0_signsOnBothSides
set_option maxRecDepth 20000 in
theorem ggX4_edge_X0_isFitting : GoodIn wsX4_edge wsX0_isFitting := goodIn_r _ [72, 73, 74, 75, 76, 77, 5, 78, 56, 22, 23, 24, 11, 25, 18, 19, 20, 12, 13, 14, 15, 16, 79, 80, 81, 82, 83, 84, 85, 86, 87, 88, 35, 36, 37, 93, 94, 95, 96, 97, 98, 99, 100, 101, 102] (by decide +kernel) (by decide +kernel)
set_option maxRecDepth 20000 in
theorem gX4_edge_X0_isFitting : GoodIn wsX4_edge (wsV RX4 191 RX0 yX0_isFitting wsX0_isFitting) := goodIn_app (goodIn_of _ (by decide +kernel)) ggX4_edge_X0_isFitting
theorem dX4_edge_0 : decode cX4_edge 0 = .ok (.aload_n 0, 1) := by decide +kernel
theorem dX4_edge_1 : decode cX4_edge 1 = .ok (.getfield 10, 3) := by decide +kernel
theorem dX4_edge_4 : decode cX4_edge 4 = .ok (.iload_n 1, 1) := by decide +kernel
theorem dX4_edge_5 : decode cX4_edge 5 = .ok (.invokevirtual 170, 3) := by decide +kernel
theorem dX4_edge_8 : decode cX4_edge 8 = .ok (.ifCond .ne 5, 3) := by decide +kernel
theorem dX4_edge_11 : decode cX4_edge 11 = .ok (.iconst (-1), 1) := by decide +kernel
theorem dX4_edge_12 : decode cX4_edge 12 = .ok (.ireturn, 1) := by decide +kernel
theorem dX4_edge_13 : decode cX4_edge 13 = .ok (.iload_n 2, 1) := by decide +kernel
theorem dX4_edge_14 : decode cX4_edge 14 = .ok (.tableswitch 121 0 6 #[42, 51, 60, 69, 86, 95, 104], 42) := by decide +kernel
theorem dX4_edge_56 : decode cX4_edge 56 = .ok (.aload_n 0, 1) := by decide +kernel
theorem dX4_edge_57 : decode cX4_edge 57 = .ok (.getfield 10, 3) := by decide +kernel
theorem dX4_edge_60 : decode cX4_edge 60 = .ok (.iload_n 1, 1) := by decide +kernel
theorem dX4_edge_61 : decode cX4_edge 61 = .ok (.invokevirtual 173, 3) := by decide +kernel
theorem dX4_edge_64 : decode cX4_edge 64 = .ok (.ireturn, 1) := by decide +kernel
theorem dX4_edge_65 : decode cX4_edge 65 = .ok (.aload_n 0, 1) := by decide +kernel
theorem dX4_edge_66 : decode cX4_edge 66 = .ok (.getfield 10, 3) := by decide +kernel
theorem dX4_edge_69 : decode cX4_edge 69 = .ok (.iload_n 1, 1) := by decide +kernel
theorem dX4_edge_70 : decode cX4_edge 70 = .ok (.invokevirtual 176, 3) := by decide +kernel
theorem dX4_edge_73 : decode cX4_edge 73 = .ok (.ireturn, 1) := by decide +kernel
theorem dX4_edge_74 : decode cX4_edge 74 = .ok (.aload_n 0, 1) := by decide +kernel
theorem dX4_edge_75 : decode cX4_edge 75 = .ok (.getfield 10, 3) := by decide +kernel
theorem dX4_edge_78 : decode cX4_edge 78 = .ok (.iload_n 1, 1) := by decide +kernel
theorem dX4_edge_79 : decode cX4_edge 79 = .ok (.invokevirtual 179, 3) := by decide +kernel
theorem dX4_edge_82 : decode cX4_edge 82 = .ok (.ireturn, 1) := by decide +kernel
theorem dX4_edge_83 : decode cX4_edge 83 = .ok (.aload_n 0, 1) := by decide +kernel
theorem dX4_edge_84 : decode cX4_edge 84 = .ok (.getfield 10, 3) := by decide +kernel
theorem dX4_edge_87 : decode cX4_edge 87 = .ok (.iload_n 1, 1) := by decide +kernel
theorem dX4_edge_88 : decode cX4_edge 88 = .ok (.invokevirtual 182, 3) := by decide +kernel
theorem dX4_edge_91 : decode cX4_edge 91 = .ok (.ifCond .eq 7, 3) := by decide +kernel
theorem dX4_edge_94 : decode cX4_edge 94 = .ok (.iconst 1, 1) := by decide +kernel
theorem dX4_edge_95 : decode cX4_edge 95 = .ok (.goto 4, 3) := by decide +kernel
theorem dX4_edge_98 : decode cX4_edge 98 = .ok (.iconst 0, 1) := by decide +kernel
theorem dX4_edge_99 : decode cX4_edge 99 = .ok (.ireturn, 1) := by decide +kernel
theorem dX4_edge_100 : decode cX4_edge 100 = .ok (.aload_n 0, 1) := by decide +kernel
theorem dX4_edge_101 : decode cX4_edge 101 = .ok (.getfield 10, 3) := by decide +kernel
theorem dX4_edge_104 : decode cX4_edge 104 = .ok (.iload_n 1, 1) := by decide +kernel
theorem dX4_edge_105 : decode cX4_edge 105 = .ok (.invokevirtual 185, 3) := by decide +kernel
theorem dX4_edge_108 : decode cX4_edge 108 = .ok (.ireturn, 1) := by decide +kernel
theorem dX4_edge_109 : decode cX4_edge 109 = .ok (.aload_n 0, 1) := by decide +kernel
theorem dX4_edge_110 : decode cX4_edge 110 = .ok (.getfield 10, 3) := by decide +kernel
theorem dX4_edge_113 : decode cX4_edge 113 = .ok (.iload_n 1, 1) := by decide +kernel
theorem dX4_edge_114 : decode cX4_edge 114 = .ok (.invokevirtual 188, 3) := by decide +kernel
theorem dX4_edge_117 : decode cX4_edge 117 = .ok (.ireturn, 1) := by decide +kernel
theorem dX4_edge_118 : decode cX4_edge 118 = .ok (.aload_n 0, 1) := by decide +kernel
theorem dX4_edge_119 : decode cX4_edge 119 = .ok (.getfield 10, 3) := by decide +kernel
theorem dX4_edge_122 : decode cX4_edge 122 = .ok (.iload_n 1, 1) := by decide +kernel
theorem dX4_edge_123 : decode cX4_edge 123 = .ok (.invokevirtual 191, 3) := by decide +kernel
theorem dX4_edge_126 : decode cX4_edge 126 = .ok (.ifCond .eq 7, 3) := by decide +kernel
theorem dX4_edge_129 : decode cX4_edge 129 = .ok (.iconst 1, 1) := by decide +kernel
theorem dX4_edge_130 : decode cX4_edge 130 = .ok (.goto 4, 3) := by decide +kernel
theorem dX4_edge_133 : decode cX4_edge 133 = .ok (.iconst 0, 1) := by decide +kernel
theorem dX4_edge_134 : decode cX4_edge 134 = .ok (.ireturn, 1) := by decide +kernel
theorem dX4_edge_135 : decode cX4_edge 135 = .ok (.iconst (-1), 1) := by decide +kernel
theorem dX4_edge_136 : decode cX4_edge 136 = .ok (.ireturn, 1) := by decide +kernel
set_option maxRecDepth 20000 in
theorem ggX4_edgeAt_X0_hasSheet : GoodIn wsX4_edgeAt wsX0_hasSheet := goodIn_r _ [6, 7, 8, 9, 5, 10, 11, 12, 37, 38, 39, 40, 41, 42, 43, 44, 45, 46] (by decide +kernel) (by decide +kernel)
set_option maxRecDepth 20000 in
theorem gX4_edgeAt_X0_hasSheet : GoodIn wsX4_edgeAt (wsV RX4 82 RX0 yX0_hasSheet wsX0_hasSheet) := goodIn_app (goodIn_of _ (by decide +kernel)) ggX4_edgeAt_X0_hasSheet
set_option maxRecDepth 20000 in
theorem ggX4_edgeAt_X4_isWithin : GoodIn wsX4_edgeAt wsX4_isWithin := goodIn_r _ [16] (by decide +kernel) (by decide +kernel)
set_option maxRecDepth 20000 in
theorem gX4_edgeAt_X4_isWithin : GoodIn wsX4_edgeAt (va_wsS RX4 37 yX4_isWithin wsX4_isWithin) := goodIn_app (goodIn_of _ (by decide +kernel)) ggX4_edgeAt_X4_isWithin
set_option maxRecDepth 20000 in
theorem ggX4_edgeAt_X0_edgeOf : GoodIn wsX4_edgeAt wsX0_edgeOf := goodIn_r _ [20, 11, 12, 21, 22, 23, 5, 24, 25, 26, 27, 28, 29, 30, 31, 32, 37, 38, 39, 40, 41, 42, 43, 44, 45, 46] (by decide +kernel) (by decide +kernel)
set_option maxRecDepth 20000 in
theorem gX4_edgeAt_X0_edgeOf : GoodIn wsX4_edgeAt (wsV RX4 194 RX0 yX0_edgeOf wsX0_edgeOf) := goodIn_app (goodIn_of _ (by decide +kernel)) ggX4_edgeAt_X0_edgeOf
theorem dX4_edgeAt_0 : decode cX4_edgeAt 0 = .ok (.aload_n 0, 1) := by decide +kernel
theorem dX4_edgeAt_1 : decode cX4_edgeAt 1 = .ok (.getfield 10, 3) := by decide +kernel
theorem dX4_edgeAt_4 : decode cX4_edgeAt 4 = .ok (.iload_n 1, 1) := by decide +kernel
theorem dX4_edgeAt_5 : decode cX4_edgeAt 5 = .ok (.invokevirtual 82, 3) := by decide +kernel
theorem dX4_edgeAt_8 : decode cX4_edgeAt 8 = .ok (.ifCond .eq 12, 3) := by decide +kernel
theorem dX4_edgeAt_11 : decode cX4_edgeAt 11 = .ok (.iload_n 2, 1) := by decide +kernel
theorem dX4_edgeAt_12 : decode cX4_edgeAt 12 = .ok (.iconst 0, 1) := by decide +kernel
theorem dX4_edgeAt_13 : decode cX4_edgeAt 13 = .ok (.iconst 3, 1) := by decide +kernel
theorem dX4_edgeAt_14 : decode cX4_edgeAt 14 = .ok (.invokestatic 37, 3) := by decide +kernel
theorem dX4_edgeAt_17 : decode cX4_edgeAt 17 = .ok (.ifCond .ne 5, 3) := by decide +kernel
theorem dX4_edgeAt_20 : decode cX4_edgeAt 20 = .ok (.iconst (-1), 1) := by decide +kernel
theorem dX4_edgeAt_21 : decode cX4_edgeAt 21 = .ok (.ireturn, 1) := by decide +kernel
theorem dX4_edgeAt_22 : decode cX4_edgeAt 22 = .ok (.aload_n 0, 1) := by decide +kernel
theorem dX4_edgeAt_23 : decode cX4_edgeAt 23 = .ok (.getfield 10, 3) := by decide +kernel
theorem dX4_edgeAt_26 : decode cX4_edgeAt 26 = .ok (.iload_n 1, 1) := by decide +kernel
theorem dX4_edgeAt_27 : decode cX4_edgeAt 27 = .ok (.iload_n 2, 1) := by decide +kernel
theorem dX4_edgeAt_28 : decode cX4_edgeAt 28 = .ok (.invokevirtual 194, 3) := by decide +kernel
theorem dX4_edgeAt_31 : decode cX4_edgeAt 31 = .ok (.ireturn, 1) := by decide +kernel
set_option maxRecDepth 20000 in
theorem ggX4_quarrel_X0_hasEdge : GoodIn wsX4_quarrel wsX0_hasEdge := goodIn_r _ [6, 7, 8, 9, 5, 10, 11, 12, 13, 14, 15, 16, 66, 67, 68, 69, 70, 71, 72, 73, 74, 75] (by decide +kernel) (by decide +kernel)
set_option maxRecDepth 20000 in
theorem gX4_quarrel_X0_hasEdge : GoodIn wsX4_quarrel (wsV RX4 170 RX0 yX0_hasEdge wsX0_hasEdge) := goodIn_app (goodIn_of _ (by decide +kernel)) ggX4_quarrel_X0_hasEdge
set_option maxRecDepth 20000 in
theorem ggX4_quarrel_X4_isWithin : GoodIn wsX4_quarrel wsX4_isWithin := goodIn_r _ [20] (by decide +kernel) (by decide +kernel)
set_option maxRecDepth 20000 in
theorem gX4_quarrel_X4_isWithin : GoodIn wsX4_quarrel (va_wsS RX4 37 yX4_isWithin wsX4_isWithin) := goodIn_app (goodIn_of _ (by decide +kernel)) ggX4_quarrel_X4_isWithin
set_option maxRecDepth 20000 in
theorem ggX4_quarrel_X0_positionOfQuarrel : GoodIn wsX4_quarrel wsX0_positionOfQuarrel := goodIn_r _ [24, 25, 26, 27, 5, 28, 29, 30, 31, 32, 11, 12, 33, 34, 35, 36, 13, 14, 15, 16, 37, 38, 39, 40, 41, 42, 43, 44, 45, 46, 19, 47, 48, 49, 50, 51, 52, 53, 54, 55, 66, 67, 68, 69, 70, 71, 72, 73, 74, 75] (by decide +kernel) (by decide +kernel)
set_option maxRecDepth 20000 in
theorem gX4_quarrel_X0_positionOfQuarrel : GoodIn wsX4_quarrel (wsV RX4 197 RX0 yX0_positionOfQuarrel wsX0_positionOfQuarrel) := goodIn_app (goodIn_of _ (by decide +kernel)) ggX4_quarrel_X0_positionOfQuarrel
set_option maxRecDepth 20000 in
theorem ggX4_quarrel_X0_reasonAt : GoodIn wsX4_quarrel wsX0_reasonAt := goodIn_r _ [28, 29, 30, 31, 5, 32, 11, 12, 33, 34, 35, 36, 13, 14, 15, 16, 37, 38, 39, 40, 41, 42, 43, 44, 45, 46, 19, 47, 48, 49, 50, 51, 52, 53, 54, 55, 66, 67, 68, 69, 70, 71, 72, 73, 74, 75] (by decide +kernel) (by decide +kernel)
set_option maxRecDepth 20000 in
theorem gX4_quarrel_X0_reasonAt : GoodIn wsX4_quarrel (wsV RX4 200 RX0 yX0_reasonAt wsX0_reasonAt) := goodIn_app (goodIn_of _ (by decide +kernel)) ggX4_quarrel_X0_reasonAt
set_option maxRecDepth 20000 in
theorem ggX4_quarrel_X0_firstSheet : GoodIn wsX4_quarrel wsX0_firstSheet := goodIn_r _ [32, 11, 12, 66, 67, 68, 69, 70, 71, 72, 73, 74, 75] (by decide +kernel) (by decide +kernel)
set_option maxRecDepth 20000 in
theorem gX4_quarrel_X0_firstSheet : GoodIn wsX4_quarrel (wsV RX4 173 RX0 yX0_firstSheet wsX0_firstSheet) := goodIn_app (goodIn_of _ (by decide +kernel)) ggX4_quarrel_X0_firstSheet
set_option maxRecDepth 20000 in
theorem ggX4_quarrel_X0_firstSide : GoodIn wsX4_quarrel wsX0_firstSide := goodIn_r _ [36, 13, 14, 15, 5, 16, 11, 12, 66, 67, 68, 69, 70, 71, 72, 73, 74, 75] (by decide +kernel) (by decide +kernel)
set_option maxRecDepth 20000 in
theorem gX4_quarrel_X0_firstSide : GoodIn wsX4_quarrel (wsV RX4 179 RX0 yX0_firstSide wsX0_firstSide) := goodIn_app (goodIn_of _ (by decide +kernel)) ggX4_quarrel_X0_firstSide
set_option maxRecDepth 20000 in
theorem ggX4_quarrel_X0_meaningAt : GoodIn wsX4_quarrel wsX0_meaningAt := goodIn_r _ [40, 41, 42, 43, 44, 5, 45, 46, 19, 47, 66, 67, 68, 69, 70, 71, 72, 73, 74, 75] (by decide +kernel) (by decide +kernel)
set_option maxRecDepth 20000 in
theorem gX4_quarrel_X0_meaningAt : GoodIn wsX4_quarrel (wsV RX4 203 RX0 yX0_meaningAt wsX0_meaningAt) := goodIn_app (goodIn_of _ (by decide +kernel)) ggX4_quarrel_X0_meaningAt
set_option maxRecDepth 20000 in
theorem ggX4_quarrel_X0_secondSheet : GoodIn wsX4_quarrel wsX0_secondSheet := goodIn_r _ [51, 11, 29, 30, 31, 5, 32, 12, 13, 14, 15, 16, 66, 67, 68, 69, 70, 71, 72, 73, 74, 75] (by decide +kernel) (by decide +kernel)
set_option maxRecDepth 20000 in
theorem gX4_quarrel_X0_secondSheet : GoodIn wsX4_quarrel (wsV RX4 176 RX0 yX0_secondSheet wsX0_secondSheet) := goodIn_app (goodIn_of _ (by decide +kernel)) ggX4_quarrel_X0_secondSheet
set_option maxRecDepth 20000 in
theorem ggX4_quarrel_X0_secondSide : GoodIn wsX4_quarrel wsX0_secondSide := goodIn_r _ [55, 13, 14, 15, 5, 16, 11, 12, 66, 67, 68, 69, 70, 71, 72, 73, 74, 75] (by decide +kernel) (by decide +kernel)
set_option maxRecDepth 20000 in
theorem gX4_quarrel_X0_secondSide : GoodIn wsX4_quarrel (wsV RX4 206 RX0 yX0_secondSide wsX0_secondSide) := goodIn_app (goodIn_of _ (by decide +kernel)) ggX4_quarrel_X0_secondSide
theorem dX4_quarrel_0 : decode cX4_quarrel 0 = .ok (.aload_n 0, 1) := by decide +kernel
theorem dX4_quarrel_1 : decode cX4_quarrel 1 = .ok (.getfield 10, 3) := by decide +kernel
theorem dX4_quarrel_4 : decode cX4_quarrel 4 = .ok (.iload_n 1, 1) := by decide +kernel
theorem dX4_quarrel_5 : decode cX4_quarrel 5 = .ok (.invokevirtual 170, 3) := by decide +kernel
theorem dX4_quarrel_8 : decode cX4_quarrel 8 = .ok (.ifCond .eq 16, 3) := by decide +kernel
theorem dX4_quarrel_11 : decode cX4_quarrel 11 = .ok (.iload_n 2, 1) := by decide +kernel
theorem dX4_quarrel_12 : decode cX4_quarrel 12 = .ok (.ifCond .lt 12, 3) := by decide +kernel
theorem dX4_quarrel_15 : decode cX4_quarrel 15 = .ok (.iload_n 3, 1) := by decide +kernel
theorem dX4_quarrel_16 : decode cX4_quarrel 16 = .ok (.iconst 0, 1) := by decide +kernel
theorem dX4_quarrel_17 : decode cX4_quarrel 17 = .ok (.iconst 3, 1) := by decide +kernel
theorem dX4_quarrel_18 : decode cX4_quarrel 18 = .ok (.invokestatic 37, 3) := by decide +kernel
theorem dX4_quarrel_21 : decode cX4_quarrel 21 = .ok (.ifCond .ne 5, 3) := by decide +kernel
theorem dX4_quarrel_24 : decode cX4_quarrel 24 = .ok (.iconst (-1), 1) := by decide +kernel
theorem dX4_quarrel_25 : decode cX4_quarrel 25 = .ok (.ireturn, 1) := by decide +kernel
theorem dX4_quarrel_26 : decode cX4_quarrel 26 = .ok (.aload_n 0, 1) := by decide +kernel
theorem dX4_quarrel_27 : decode cX4_quarrel 27 = .ok (.getfield 10, 3) := by decide +kernel
theorem dX4_quarrel_30 : decode cX4_quarrel 30 = .ok (.iload_n 1, 1) := by decide +kernel
theorem dX4_quarrel_31 : decode cX4_quarrel 31 = .ok (.iload_n 2, 1) := by decide +kernel
theorem dX4_quarrel_32 : decode cX4_quarrel 32 = .ok (.invokevirtual 197, 3) := by decide +kernel
theorem dX4_quarrel_35 : decode cX4_quarrel 35 = .ok (.istore 4, 2) := by decide +kernel
theorem dX4_quarrel_37 : decode cX4_quarrel 37 = .ok (.iload 4, 2) := by decide +kernel
theorem dX4_quarrel_39 : decode cX4_quarrel 39 = .ok (.bipush (-4), 2) := by decide +kernel
theorem dX4_quarrel_41 : decode cX4_quarrel 41 = .ok (.if_icmp .ne 6, 3) := by decide +kernel
theorem dX4_quarrel_44 : decode cX4_quarrel 44 = .ok (.bipush (-4), 2) := by decide +kernel
theorem dX4_quarrel_46 : decode cX4_quarrel 46 = .ok (.ireturn, 1) := by decide +kernel
theorem dX4_quarrel_47 : decode cX4_quarrel 47 = .ok (.iload_n 3, 1) := by decide +kernel
theorem dX4_quarrel_48 : decode cX4_quarrel 48 = .ok (.tableswitch 68 0 2 #[28, 31, 42], 28) := by decide +kernel
theorem dX4_quarrel_76 : decode cX4_quarrel 76 = .ok (.iload 4, 2) := by decide +kernel
theorem dX4_quarrel_78 : decode cX4_quarrel 78 = .ok (.ireturn, 1) := by decide +kernel
theorem dX4_quarrel_79 : decode cX4_quarrel 79 = .ok (.aload_n 0, 1) := by decide +kernel
theorem dX4_quarrel_80 : decode cX4_quarrel 80 = .ok (.getfield 10, 3) := by decide +kernel
theorem dX4_quarrel_83 : decode cX4_quarrel 83 = .ok (.iload_n 1, 1) := by decide +kernel
theorem dX4_quarrel_84 : decode cX4_quarrel 84 = .ok (.iload 4, 2) := by decide +kernel
theorem dX4_quarrel_86 : decode cX4_quarrel 86 = .ok (.invokevirtual 200, 3) := by decide +kernel
theorem dX4_quarrel_89 : decode cX4_quarrel 89 = .ok (.ireturn, 1) := by decide +kernel
theorem dX4_quarrel_90 : decode cX4_quarrel 90 = .ok (.aload_n 0, 1) := by decide +kernel
theorem dX4_quarrel_91 : decode cX4_quarrel 91 = .ok (.getfield 10, 3) := by decide +kernel
theorem dX4_quarrel_94 : decode cX4_quarrel 94 = .ok (.aload_n 0, 1) := by decide +kernel
theorem dX4_quarrel_95 : decode cX4_quarrel 95 = .ok (.getfield 10, 3) := by decide +kernel
theorem dX4_quarrel_98 : decode cX4_quarrel 98 = .ok (.iload_n 1, 1) := by decide +kernel
theorem dX4_quarrel_99 : decode cX4_quarrel 99 = .ok (.invokevirtual 173, 3) := by decide +kernel
theorem dX4_quarrel_102 : decode cX4_quarrel 102 = .ok (.aload_n 0, 1) := by decide +kernel
theorem dX4_quarrel_103 : decode cX4_quarrel 103 = .ok (.getfield 10, 3) := by decide +kernel
theorem dX4_quarrel_106 : decode cX4_quarrel 106 = .ok (.iload_n 1, 1) := by decide +kernel
theorem dX4_quarrel_107 : decode cX4_quarrel 107 = .ok (.invokevirtual 179, 3) := by decide +kernel
theorem dX4_quarrel_110 : decode cX4_quarrel 110 = .ok (.iload 4, 2) := by decide +kernel
theorem dX4_quarrel_112 : decode cX4_quarrel 112 = .ok (.invokevirtual 203, 3) := by decide +kernel
theorem dX4_quarrel_115 : decode cX4_quarrel 115 = .ok (.ireturn, 1) := by decide +kernel
theorem dX4_quarrel_116 : decode cX4_quarrel 116 = .ok (.aload_n 0, 1) := by decide +kernel
theorem dX4_quarrel_117 : decode cX4_quarrel 117 = .ok (.getfield 10, 3) := by decide +kernel
theorem dX4_quarrel_120 : decode cX4_quarrel 120 = .ok (.aload_n 0, 1) := by decide +kernel
theorem dX4_quarrel_121 : decode cX4_quarrel 121 = .ok (.getfield 10, 3) := by decide +kernel
theorem dX4_quarrel_124 : decode cX4_quarrel 124 = .ok (.iload_n 1, 1) := by decide +kernel
theorem dX4_quarrel_125 : decode cX4_quarrel 125 = .ok (.invokevirtual 176, 3) := by decide +kernel
theorem dX4_quarrel_128 : decode cX4_quarrel 128 = .ok (.aload_n 0, 1) := by decide +kernel
theorem dX4_quarrel_129 : decode cX4_quarrel 129 = .ok (.getfield 10, 3) := by decide +kernel
theorem dX4_quarrel_132 : decode cX4_quarrel 132 = .ok (.iload_n 1, 1) := by decide +kernel
theorem dX4_quarrel_133 : decode cX4_quarrel 133 = .ok (.invokevirtual 206, 3) := by decide +kernel
theorem dX4_quarrel_136 : decode cX4_quarrel 136 = .ok (.iload 4, 2) := by decide +kernel
theorem dX4_quarrel_138 : decode cX4_quarrel 138 = .ok (.invokevirtual 203, 3) := by decide +kernel
theorem dX4_quarrel_141 : decode cX4_quarrel 141 = .ok (.ireturn, 1) := by decide +kernel
set_option maxRecDepth 20000 in
theorem ggX4_agree_X0_hasEdge : GoodIn wsX4_agree wsX0_hasEdge := goodIn_r _ [7, 8, 9, 10, 6, 11, 12, 13, 14, 15, 16, 17, 96, 97, 98, 99, 100, 101, 102, 103, 104, 105] (by decide +kernel) (by decide +kernel)
set_option maxRecDepth 20000 in
theorem gX4_agree_X0_hasEdge : GoodIn wsX4_agree (wsV RX4 170 RX0 yX0_hasEdge wsX0_hasEdge) := goodIn_app (goodIn_of _ (by decide +kernel)) ggX4_agree_X0_hasEdge
set_option maxRecDepth 20000 in
theorem ggX4_agree_X0_quarrelsOf : GoodIn wsX4_agree wsX0_quarrelsOf := goodIn_r _ [21, 22, 23, 24, 6, 25, 26, 27, 28, 29, 12, 13, 30, 31, 32, 33, 14, 15, 16, 17, 34, 35, 36, 37, 38, 39, 40, 41, 42, 43, 44, 45, 46, 47, 48, 49, 50, 51, 52, 53, 96, 97, 98, 99, 100, 101, 102, 103, 104, 105] (by decide +kernel) (by decide +kernel)
set_option maxRecDepth 20000 in
theorem gX4_agree_X0_quarrelsOf : GoodIn wsX4_agree (wsV RX4 185 RX0 yX0_quarrelsOf wsX0_quarrelsOf) := goodIn_app (goodIn_of _ (by decide +kernel)) ggX4_agree_X0_quarrelsOf
set_option maxRecDepth 20000 in
theorem ggX4_agree_X2_recordState : GoodIn wsX4_agree wsX2_recordState := goodIn_r _ [58, 59, 60, 61, 62, 57, 63, 64, 65, 66, 67, 68, 6, 69, 38, 39, 70, 71, 72, 73, 12, 13, 74, 75, 76, 44, 77, 78, 79, 80, 81, 106, 107, 108, 96, 97, 98, 99, 100, 101, 102, 103, 104, 105] (by decide +kernel) (by decide +kernel)
set_option maxRecDepth 20000 in
theorem gX4_agree_X2_recordState : GoodIn wsX4_agree (wsV RX4 41 RX2 yX2_recordState wsX2_recordState) := goodIn_app (goodIn_of _ (by decide +kernel)) ggX4_agree_X2_recordState
set_option maxRecDepth 20000 in
theorem ggX4_agree_X0_putAgreed : GoodIn wsX4_agree wsX0_putAgreed := goodIn_r _ [85, 73, 86, 44, 87, 96, 97, 98, 99, 100, 101, 102, 103, 104, 105] (by decide +kernel) (by decide +kernel)
set_option maxRecDepth 20000 in
theorem gX4_agree_X0_putAgreed : GoodIn wsX4_agree (wsV RX4 209 RX0 yX0_putAgreed wsX0_putAgreed) := goodIn_app (goodIn_of _ (by decide +kernel)) ggX4_agree_X0_putAgreed
set_option maxRecDepth 20000 in
theorem ggX4_agree_X2_keepRecord : GoodIn wsX4_agree wsX2_keepRecord := goodIn_r _ [91, 59, 64, 106, 107, 108] (by decide +kernel) (by decide +kernel)
set_option maxRecDepth 20000 in
theorem gX4_agree_X2_keepRecord : GoodIn wsX4_agree (wsV RX4 49 RX2 yX2_keepRecord wsX2_keepRecord) := goodIn_app (goodIn_of _ (by decide +kernel)) ggX4_agree_X2_keepRecord
theorem dX4_agree_0 : decode cX4_agree 0 = .ok (.aload_n 0, 1) := by decide +kernel
theorem dX4_agree_1 : decode cX4_agree 1 = .ok (.getfield 10, 3) := by decide +kernel
theorem dX4_agree_4 : decode cX4_agree 4 = .ok (.iload_n 1, 1) := by decide +kernel
theorem dX4_agree_5 : decode cX4_agree 5 = .ok (.invokevirtual 170, 3) := by decide +kernel
theorem dX4_agree_8 : decode cX4_agree 8 = .ok (.ifCond .ne 5, 3) := by decide +kernel
theorem dX4_agree_11 : decode cX4_agree 11 = .ok (.iconst (-1), 1) := by decide +kernel
theorem dX4_agree_12 : decode cX4_agree 12 = .ok (.ireturn, 1) := by decide +kernel
theorem dX4_agree_13 : decode cX4_agree 13 = .ok (.aload_n 0, 1) := by decide +kernel
theorem dX4_agree_14 : decode cX4_agree 14 = .ok (.getfield 10, 3) := by decide +kernel
theorem dX4_agree_17 : decode cX4_agree 17 = .ok (.iload_n 1, 1) := by decide +kernel
theorem dX4_agree_18 : decode cX4_agree 18 = .ok (.invokevirtual 185, 3) := by decide +kernel
theorem dX4_agree_21 : decode cX4_agree 21 = .ok (.ifCond .le 6, 3) := by decide +kernel
theorem dX4_agree_24 : decode cX4_agree 24 = .ok (.bipush (-2), 2) := by decide +kernel
theorem dX4_agree_26 : decode cX4_agree 26 = .ok (.ireturn, 1) := by decide +kernel
theorem dX4_agree_27 : decode cX4_agree 27 = .ok (.aload_n 0, 1) := by decide +kernel
theorem dX4_agree_28 : decode cX4_agree 28 = .ok (.getfield 19, 3) := by decide +kernel
theorem dX4_agree_31 : decode cX4_agree 31 = .ok (.aload_n 0, 1) := by decide +kernel
theorem dX4_agree_32 : decode cX4_agree 32 = .ok (.getfield 10, 3) := by decide +kernel
theorem dX4_agree_35 : decode cX4_agree 35 = .ok (.invokevirtual 41, 3) := by decide +kernel
theorem dX4_agree_38 : decode cX4_agree 38 = .ok (.aload_n 0, 1) := by decide +kernel
theorem dX4_agree_39 : decode cX4_agree 39 = .ok (.getfield 10, 3) := by decide +kernel
theorem dX4_agree_42 : decode cX4_agree 42 = .ok (.iload_n 1, 1) := by decide +kernel
theorem dX4_agree_43 : decode cX4_agree 43 = .ok (.iconst 1, 1) := by decide +kernel
theorem dX4_agree_44 : decode cX4_agree 44 = .ok (.invokevirtual 209, 3) := by decide +kernel
theorem dX4_agree_47 : decode cX4_agree 47 = .ok (.istore_n 2, 1) := by decide +kernel
theorem dX4_agree_48 : decode cX4_agree 48 = .ok (.aload_n 0, 1) := by decide +kernel
theorem dX4_agree_49 : decode cX4_agree 49 = .ok (.getfield 19, 3) := by decide +kernel
theorem dX4_agree_52 : decode cX4_agree 52 = .ok (.invokevirtual 49, 3) := by decide +kernel
theorem dX4_agree_55 : decode cX4_agree 55 = .ok (.iload_n 2, 1) := by decide +kernel
theorem dX4_agree_56 : decode cX4_agree 56 = .ok (.ireturn, 1) := by decide +kernel
set_option maxRecDepth 20000 in
theorem ggX4_release_X0_hasEdge : GoodIn wsX4_release wsX0_hasEdge := goodIn_r _ [8, 9, 10, 11, 7, 12, 13, 14, 15, 16, 17, 18, 106, 107, 108, 109, 110, 111, 112, 113, 114, 115] (by decide +kernel) (by decide +kernel)
set_option maxRecDepth 20000 in
theorem gX4_release_X0_hasEdge : GoodIn wsX4_release (wsV RX4 170 RX0 yX0_hasEdge wsX0_hasEdge) := goodIn_app (goodIn_of _ (by decide +kernel)) ggX4_release_X0_hasEdge
set_option maxRecDepth 20000 in
theorem ggX4_release_X0_isAgreed : GoodIn wsX4_release wsX0_isAgreed := goodIn_r _ [22, 23, 24, 25, 26, 106, 107, 108, 109, 110, 111, 112, 113, 114, 115] (by decide +kernel) (by decide +kernel)
set_option maxRecDepth 20000 in
theorem gX4_release_X0_isAgreed : GoodIn wsX4_release (wsV RX4 182 RX0 yX0_isAgreed wsX0_isAgreed) := goodIn_app (goodIn_of _ (by decide +kernel)) ggX4_release_X0_isAgreed
set_option maxRecDepth 20000 in
theorem ggX4_release_X2_recordState : GoodIn wsX4_release wsX2_recordState := goodIn_r _ [31, 32, 33, 34, 35, 30, 36, 37, 38, 39, 40, 41, 7, 42, 43, 44, 45, 46, 47, 23, 13, 14, 48, 49, 50, 25, 51, 52, 53, 54, 55, 116, 117, 118, 106, 107, 108, 109, 110, 111, 112, 113, 114, 115] (by decide +kernel) (by decide +kernel)
set_option maxRecDepth 20000 in
theorem gX4_release_X2_recordState : GoodIn wsX4_release (wsV RX4 41 RX2 yX2_recordState wsX2_recordState) := goodIn_app (goodIn_of _ (by decide +kernel)) ggX4_release_X2_recordState
set_option maxRecDepth 20000 in
theorem ggX4_release_X0_putAgreed : GoodIn wsX4_release wsX0_putAgreed := goodIn_r _ [59, 23, 60, 25, 61, 106, 107, 108, 109, 110, 111, 112, 113, 114, 115] (by decide +kernel) (by decide +kernel)
set_option maxRecDepth 20000 in
theorem gX4_release_X0_putAgreed : GoodIn wsX4_release (wsV RX4 209 RX0 yX0_putAgreed wsX0_putAgreed) := goodIn_app (goodIn_of _ (by decide +kernel)) ggX4_release_X0_putAgreed
set_option maxRecDepth 20000 in
theorem ggX4_release_X2_keepRecord : GoodIn wsX4_release wsX2_keepRecord := goodIn_r _ [65, 32, 37, 116, 117, 118] (by decide +kernel) (by decide +kernel)
set_option maxRecDepth 20000 in
theorem gX4_release_X2_keepRecord : GoodIn wsX4_release (wsV RX4 49 RX2 yX2_keepRecord wsX2_keepRecord) := goodIn_app (goodIn_of _ (by decide +kernel)) ggX4_release_X2_keepRecord
set_option maxRecDepth 20000 in
theorem ggX4_release_X1_find : GoodIn wsX4_release wsX1_find := goodIn_r _ [70, 71, 72, 73, 74, 75, 76, 77, 78, 79, 10, 11, 7, 12, 13, 14, 15, 16, 17, 18, 80, 81, 82, 83, 84, 20, 21, 22, 23, 24, 25, 26, 85, 86, 87, 88, 89, 90, 91, 69, 92, 93, 94, 95, 96, 97, 98, 99, 100, 101, 119, 106, 107, 108, 109, 110, 111, 112, 113, 114, 115] (by decide +kernel) (by decide +kernel)
set_option maxRecDepth 20000 in
theorem gX4_release_X1_find : GoodIn wsX4_release (wsV RX4 121 RX1 yX1_find wsX1_find) := goodIn_app (goodIn_of _ (by decide +kernel)) ggX4_release_X1_find
theorem dX4_release_0 : decode cX4_release 0 = .ok (.aload_n 0, 1) := by decide +kernel
theorem dX4_release_1 : decode cX4_release 1 = .ok (.getfield 10, 3) := by decide +kernel
theorem dX4_release_4 : decode cX4_release 4 = .ok (.iload_n 1, 1) := by decide +kernel
theorem dX4_release_5 : decode cX4_release 5 = .ok (.invokevirtual 170, 3) := by decide +kernel
theorem dX4_release_8 : decode cX4_release 8 = .ok (.ifCond .ne 5, 3) := by decide +kernel
theorem dX4_release_11 : decode cX4_release 11 = .ok (.iconst (-1), 1) := by decide +kernel
theorem dX4_release_12 : decode cX4_release 12 = .ok (.ireturn, 1) := by decide +kernel
theorem dX4_release_13 : decode cX4_release 13 = .ok (.aload_n 0, 1) := by decide +kernel
theorem dX4_release_14 : decode cX4_release 14 = .ok (.getfield 10, 3) := by decide +kernel
theorem dX4_release_17 : decode cX4_release 17 = .ok (.iload_n 1, 1) := by decide +kernel
theorem dX4_release_18 : decode cX4_release 18 = .ok (.invokevirtual 182, 3) := by decide +kernel
theorem dX4_release_21 : decode cX4_release 21 = .ok (.ifCond .ne 6, 3) := by decide +kernel
theorem dX4_release_24 : decode cX4_release 24 = .ok (.bipush (-2), 2) := by decide +kernel
theorem dX4_release_26 : decode cX4_release 26 = .ok (.ireturn, 1) := by decide +kernel
theorem dX4_release_27 : decode cX4_release 27 = .ok (.aload_n 0, 1) := by decide +kernel
theorem dX4_release_28 : decode cX4_release 28 = .ok (.getfield 19, 3) := by decide +kernel
theorem dX4_release_31 : decode cX4_release 31 = .ok (.aload_n 0, 1) := by decide +kernel
theorem dX4_release_32 : decode cX4_release 32 = .ok (.getfield 10, 3) := by decide +kernel
theorem dX4_release_35 : decode cX4_release 35 = .ok (.invokevirtual 41, 3) := by decide +kernel
theorem dX4_release_38 : decode cX4_release 38 = .ok (.aload_n 0, 1) := by decide +kernel
theorem dX4_release_39 : decode cX4_release 39 = .ok (.getfield 10, 3) := by decide +kernel
theorem dX4_release_42 : decode cX4_release 42 = .ok (.iload_n 1, 1) := by decide +kernel
theorem dX4_release_43 : decode cX4_release 43 = .ok (.iconst 0, 1) := by decide +kernel
theorem dX4_release_44 : decode cX4_release 44 = .ok (.invokevirtual 209, 3) := by decide +kernel
theorem dX4_release_47 : decode cX4_release 47 = .ok (.pop, 1) := by decide +kernel
theorem dX4_release_48 : decode cX4_release 48 = .ok (.aload_n 0, 1) := by decide +kernel
theorem dX4_release_49 : decode cX4_release 49 = .ok (.getfield 19, 3) := by decide +kernel
theorem dX4_release_52 : decode cX4_release 52 = .ok (.invokevirtual 49, 3) := by decide +kernel
theorem dX4_release_55 : decode cX4_release 55 = .ok (.aload_n 0, 1) := by decide +kernel
theorem dX4_release_56 : decode cX4_release 56 = .ok (.getfield 26, 3) := by decide +kernel
theorem dX4_release_59 : decode cX4_release 59 = .ok (.aload_n 0, 1) := by decide +kernel
theorem dX4_release_60 : decode cX4_release 60 = .ok (.getfield 10, 3) := by decide +kernel
theorem dX4_release_63 : decode cX4_release 63 = .ok (.invokevirtual 121, 3) := by decide +kernel
theorem dX4_release_66 : decode cX4_release 66 = .ok (.ireturn, 1) := by decide +kernel
set_option maxRecDepth 20000 in
theorem ggX4_settle_X0_hasEdge : GoodIn wsX4_settle wsX0_hasEdge := goodIn_r _ [7, 8, 9, 10, 6, 11, 12, 13, 14, 15, 16, 17, 114, 115, 116, 117, 118, 119, 120, 121, 122, 123] (by decide +kernel) (by decide +kernel)
set_option maxRecDepth 20000 in
theorem gX4_settle_X0_hasEdge : GoodIn wsX4_settle (wsV RX4 170 RX0 yX0_hasEdge wsX0_hasEdge) := goodIn_app (goodIn_of _ (by decide +kernel)) ggX4_settle_X0_hasEdge
set_option maxRecDepth 20000 in
theorem ggX4_settle_X0_firstSheet : GoodIn wsX4_settle wsX0_firstSheet := goodIn_r _ [21, 12, 13, 114, 115, 116, 117, 118, 119, 120, 121, 122, 123] (by decide +kernel) (by decide +kernel)
set_option maxRecDepth 20000 in
theorem gX4_settle_X0_firstSheet : GoodIn wsX4_settle (wsV RX4 173 RX0 yX0_firstSheet wsX0_firstSheet) := goodIn_app (goodIn_of _ (by decide +kernel)) ggX4_settle_X0_firstSheet
set_option maxRecDepth 20000 in
theorem ggX4_settle_X0_secondSheet : GoodIn wsX4_settle wsX0_secondSheet := goodIn_r _ [25, 12, 26, 19, 20, 6, 21, 13, 14, 15, 16, 17, 114, 115, 116, 117, 118, 119, 120, 121, 122, 123] (by decide +kernel) (by decide +kernel)
set_option maxRecDepth 20000 in
theorem gX4_settle_X0_secondSheet : GoodIn wsX4_settle (wsV RX4 176 RX0 yX0_secondSheet wsX0_secondSheet) := goodIn_app (goodIn_of _ (by decide +kernel)) ggX4_settle_X0_secondSheet
set_option maxRecDepth 20000 in
theorem ggX4_settle_X2_recordState : GoodIn wsX4_settle wsX2_recordState := goodIn_r _ [31, 32, 33, 34, 35, 30, 36, 37, 38, 39, 40, 41, 6, 42, 43, 44, 45, 46, 47, 48, 12, 13, 49, 50, 51, 52, 53, 54, 55, 56, 57, 124, 125, 126, 114, 115, 116, 117, 118, 119, 120, 121, 122, 123] (by decide +kernel) (by decide +kernel)
set_option maxRecDepth 20000 in
theorem gX4_settle_X2_recordState : GoodIn wsX4_settle (wsV RX4 41 RX2 yX2_recordState wsX2_recordState) := goodIn_app (goodIn_of _ (by decide +kernel)) ggX4_settle_X2_recordState
set_option maxRecDepth 20000 in
theorem ggX4_settle_X0_settleFrom : GoodIn wsX4_settle wsX0_settleFrom := goodIn_r _ [61, 26, 19, 20, 6, 21, 12, 13, 62, 63, 64, 65, 14, 15, 16, 17, 66, 67, 68, 69, 70, 23, 24, 25, 71, 72, 73, 74, 43, 44, 75, 76, 77, 78, 52, 79, 80, 81, 82, 83, 84, 85, 86, 87, 88, 89, 90, 91, 92, 93, 94, 95, 96, 97, 45, 98, 99, 100, 101, 114, 115, 116, 117, 118, 119, 120, 121, 122, 123] (by decide +kernel) (by decide +kernel)
set_option maxRecDepth 20000 in
theorem gX4_settle_X0_settleFrom : GoodIn wsX4_settle (wsV RX4 212 RX0 yX0_settleFrom wsX0_settleFrom) := goodIn_app (goodIn_of _ (by decide +kernel)) ggX4_settle_X0_settleFrom
set_option maxRecDepth 20000 in
theorem ggX4_settle_X2_returnToRecord : GoodIn wsX4_settle wsX2_returnToRecord := goodIn_r _ [105, 32, 33, 34, 35, 30, 36, 37, 38, 39, 40, 41, 6, 42, 43, 44, 45, 46, 47, 48, 12, 13, 49, 50, 51, 52, 53, 54, 55, 56, 57, 124, 125, 126, 114, 115, 116, 117, 118, 119, 120, 121, 122, 123] (by decide +kernel) (by decide +kernel)
set_option maxRecDepth 20000 in
theorem gX4_settle_X2_returnToRecord : GoodIn wsX4_settle (wsV RX4 215 RX2 yX2_returnToRecord wsX2_returnToRecord) := goodIn_app (goodIn_of _ (by decide +kernel)) ggX4_settle_X2_returnToRecord
set_option maxRecDepth 20000 in
theorem ggX4_settle_X2_keepRecord : GoodIn wsX4_settle wsX2_keepRecord := goodIn_r _ [109, 32, 37, 124, 125, 126] (by decide +kernel) (by decide +kernel)
set_option maxRecDepth 20000 in
theorem gX4_settle_X2_keepRecord : GoodIn wsX4_settle (wsV RX4 49 RX2 yX2_keepRecord wsX2_keepRecord) := goodIn_app (goodIn_of _ (by decide +kernel)) ggX4_settle_X2_keepRecord
theorem dX4_settle_0 : decode cX4_settle 0 = .ok (.aload_n 0, 1) := by decide +kernel
theorem dX4_settle_1 : decode cX4_settle 1 = .ok (.getfield 10, 3) := by decide +kernel
theorem dX4_settle_4 : decode cX4_settle 4 = .ok (.iload_n 1, 1) := by decide +kernel
theorem dX4_settle_5 : decode cX4_settle 5 = .ok (.invokevirtual 170, 3) := by decide +kernel
theorem dX4_settle_8 : decode cX4_settle 8 = .ok (.ifCond .ne 5, 3) := by decide +kernel
theorem dX4_settle_11 : decode cX4_settle 11 = .ok (.iconst (-1), 1) := by decide +kernel
theorem dX4_settle_12 : decode cX4_settle 12 = .ok (.ireturn, 1) := by decide +kernel
theorem dX4_settle_13 : decode cX4_settle 13 = .ok (.iload_n 2, 1) := by decide +kernel
theorem dX4_settle_14 : decode cX4_settle 14 = .ok (.aload_n 0, 1) := by decide +kernel
theorem dX4_settle_15 : decode cX4_settle 15 = .ok (.getfield 10, 3) := by decide +kernel
theorem dX4_settle_18 : decode cX4_settle 18 = .ok (.iload_n 1, 1) := by decide +kernel
theorem dX4_settle_19 : decode cX4_settle 19 = .ok (.invokevirtual 173, 3) := by decide +kernel
theorem dX4_settle_22 : decode cX4_settle 22 = .ok (.if_icmp .eq 17, 3) := by decide +kernel
theorem dX4_settle_25 : decode cX4_settle 25 = .ok (.iload_n 2, 1) := by decide +kernel
theorem dX4_settle_26 : decode cX4_settle 26 = .ok (.aload_n 0, 1) := by decide +kernel
theorem dX4_settle_27 : decode cX4_settle 27 = .ok (.getfield 10, 3) := by decide +kernel
theorem dX4_settle_30 : decode cX4_settle 30 = .ok (.iload_n 1, 1) := by decide +kernel
theorem dX4_settle_31 : decode cX4_settle 31 = .ok (.invokevirtual 176, 3) := by decide +kernel
theorem dX4_settle_34 : decode cX4_settle 34 = .ok (.if_icmp .eq 5, 3) := by decide +kernel
theorem dX4_settle_37 : decode cX4_settle 37 = .ok (.iconst (-1), 1) := by decide +kernel
theorem dX4_settle_38 : decode cX4_settle 38 = .ok (.ireturn, 1) := by decide +kernel
theorem dX4_settle_39 : decode cX4_settle 39 = .ok (.aload_n 0, 1) := by decide +kernel
theorem dX4_settle_40 : decode cX4_settle 40 = .ok (.getfield 19, 3) := by decide +kernel
theorem dX4_settle_43 : decode cX4_settle 43 = .ok (.aload_n 0, 1) := by decide +kernel
theorem dX4_settle_44 : decode cX4_settle 44 = .ok (.getfield 10, 3) := by decide +kernel
theorem dX4_settle_47 : decode cX4_settle 47 = .ok (.invokevirtual 41, 3) := by decide +kernel
theorem dX4_settle_50 : decode cX4_settle 50 = .ok (.aload_n 0, 1) := by decide +kernel
theorem dX4_settle_51 : decode cX4_settle 51 = .ok (.getfield 10, 3) := by decide +kernel
theorem dX4_settle_54 : decode cX4_settle 54 = .ok (.iload_n 1, 1) := by decide +kernel
theorem dX4_settle_55 : decode cX4_settle 55 = .ok (.iload_n 2, 1) := by decide +kernel
theorem dX4_settle_56 : decode cX4_settle 56 = .ok (.invokevirtual 212, 3) := by decide +kernel
theorem dX4_settle_59 : decode cX4_settle 59 = .ok (.istore_n 3, 1) := by decide +kernel
theorem dX4_settle_60 : decode cX4_settle 60 = .ok (.iload_n 3, 1) := by decide +kernel
theorem dX4_settle_61 : decode cX4_settle 61 = .ok (.bipush (-2), 2) := by decide +kernel
theorem dX4_settle_63 : decode cX4_settle 63 = .ok (.if_icmp .ne 17, 3) := by decide +kernel
theorem dX4_settle_66 : decode cX4_settle 66 = .ok (.aload_n 0, 1) := by decide +kernel
theorem dX4_settle_67 : decode cX4_settle 67 = .ok (.getfield 19, 3) := by decide +kernel
theorem dX4_settle_70 : decode cX4_settle 70 = .ok (.aload_n 0, 1) := by decide +kernel
theorem dX4_settle_71 : decode cX4_settle 71 = .ok (.getfield 10, 3) := by decide +kernel
theorem dX4_settle_74 : decode cX4_settle 74 = .ok (.invokevirtual 215, 3) := by decide +kernel
theorem dX4_settle_77 : decode cX4_settle 77 = .ok (.bipush (-2), 2) := by decide +kernel
theorem dX4_settle_79 : decode cX4_settle 79 = .ok (.ireturn, 1) := by decide +kernel
theorem dX4_settle_80 : decode cX4_settle 80 = .ok (.aload_n 0, 1) := by decide +kernel
theorem dX4_settle_81 : decode cX4_settle 81 = .ok (.getfield 19, 3) := by decide +kernel
theorem dX4_settle_84 : decode cX4_settle 84 = .ok (.invokevirtual 49, 3) := by decide +kernel
theorem dX4_settle_87 : decode cX4_settle 87 = .ok (.iload_n 3, 1) := by decide +kernel
theorem dX4_settle_88 : decode cX4_settle 88 = .ok (.ireturn, 1) := by decide +kernel
set_option maxRecDepth 20000 in
theorem ggX4_publish_X0_hasSheet : GoodIn wsX4_publish wsX0_hasSheet := goodIn_r _ [7, 8, 9, 10, 6, 11, 12, 13, 94, 95, 96, 97, 98, 99, 100, 101, 102, 103] (by decide +kernel) (by decide +kernel)
set_option maxRecDepth 20000 in
theorem gX4_publish_X0_hasSheet : GoodIn wsX4_publish (wsV RX4 82 RX0 yX0_hasSheet wsX0_hasSheet) := goodIn_app (goodIn_of _ (by decide +kernel)) ggX4_publish_X0_hasSheet
set_option maxRecDepth 20000 in
theorem ggX4_publish_X0_agreedEdgesOf : GoodIn wsX4_publish wsX0_agreedEdgesOf := goodIn_r _ [17, 18, 19, 20, 6, 21, 12, 13, 22, 23, 24, 25, 26, 27, 28, 29, 30, 31, 32, 33, 34, 35, 36, 37, 38, 39, 40, 41, 94, 95, 96, 97, 98, 99, 100, 101, 102, 103] (by decide +kernel) (by decide +kernel)
set_option maxRecDepth 20000 in
theorem gX4_publish_X0_agreedEdgesOf : GoodIn wsX4_publish (wsV RX4 100 RX0 yX0_agreedEdgesOf wsX0_agreedEdgesOf) := goodIn_app (goodIn_of _ (by decide +kernel)) ggX4_publish_X0_agreedEdgesOf
set_option maxRecDepth 20000 in
theorem ggX4_publish_X0_edgesOf : GoodIn wsX4_publish wsX0_edgesOf := goodIn_r _ [45, 18, 19, 20, 6, 21, 12, 13, 22, 23, 24, 25, 26, 27, 28, 29, 30, 31, 32, 33, 94, 95, 96, 97, 98, 99, 100, 101, 102, 103] (by decide +kernel) (by decide +kernel)
set_option maxRecDepth 20000 in
theorem gX4_publish_X0_edgesOf : GoodIn wsX4_publish (wsV RX4 97 RX0 yX0_edgesOf wsX0_edgesOf) := goodIn_app (goodIn_of _ (by decide +kernel)) ggX4_publish_X0_edgesOf
set_option maxRecDepth 20000 in
theorem ggX4_publish_X2_recordState : GoodIn wsX4_publish wsX2_recordState := goodIn_r _ [50, 51, 52, 53, 54, 49, 55, 56, 57, 58, 59, 60, 6, 61, 62, 63, 64, 65, 66, 38, 12, 13, 67, 68, 69, 40, 70, 71, 72, 73, 74, 104, 105, 106, 94, 95, 96, 97, 98, 99, 100, 101, 102, 103] (by decide +kernel) (by decide +kernel)
set_option maxRecDepth 20000 in
theorem gX4_publish_X2_recordState : GoodIn wsX4_publish (wsV RX4 41 RX2 yX2_recordState wsX2_recordState) := goodIn_app (goodIn_of _ (by decide +kernel)) ggX4_publish_X2_recordState
set_option maxRecDepth 20000 in
theorem ggX4_publish_X0_publishRevision : GoodIn wsX4_publish wsX0_publishRevision := goodIn_r _ [78, 65, 79, 80, 81, 6, 82, 64, 39, 40, 41, 83, 84, 94, 95, 96, 97, 98, 99, 100, 101, 102, 103] (by decide +kernel) (by decide +kernel)
set_option maxRecDepth 20000 in
theorem gX4_publish_X0_publishRevision : GoodIn wsX4_publish (wsV RX4 226 RX0 yX0_publishRevision wsX0_publishRevision) := goodIn_app (goodIn_of _ (by decide +kernel)) ggX4_publish_X0_publishRevision
set_option maxRecDepth 20000 in
theorem ggX4_publish_X2_keepRecord : GoodIn wsX4_publish wsX2_keepRecord := goodIn_r _ [88, 51, 56, 104, 105, 106] (by decide +kernel) (by decide +kernel)
set_option maxRecDepth 20000 in
theorem gX4_publish_X2_keepRecord : GoodIn wsX4_publish (wsV RX4 49 RX2 yX2_keepRecord wsX2_keepRecord) := goodIn_app (goodIn_of _ (by decide +kernel)) ggX4_publish_X2_keepRecord
set_option maxRecDepth 20000 in
theorem ggX4_publish_X0_revisionOf : GoodIn wsX4_publish wsX0_revisionOf := goodIn_r _ [82, 64, 39, 40, 41, 94, 95, 96, 97, 98, 99, 100, 101, 102, 103] (by decide +kernel) (by decide +kernel)
set_option maxRecDepth 20000 in
theorem gX4_publish_X0_revisionOf : GoodIn wsX4_publish (wsV RX4 103 RX0 yX0_revisionOf wsX0_revisionOf) := goodIn_app (goodIn_of _ (by decide +kernel)) ggX4_publish_X0_revisionOf
theorem dX4_publish_0 : decode cX4_publish 0 = .ok (.aload_n 0, 1) := by decide +kernel
theorem dX4_publish_1 : decode cX4_publish 1 = .ok (.getfield 10, 3) := by decide +kernel
theorem dX4_publish_4 : decode cX4_publish 4 = .ok (.iload_n 1, 1) := by decide +kernel
theorem dX4_publish_5 : decode cX4_publish 5 = .ok (.invokevirtual 82, 3) := by decide +kernel
theorem dX4_publish_8 : decode cX4_publish 8 = .ok (.ifCond .ne 5, 3) := by decide +kernel
theorem dX4_publish_11 : decode cX4_publish 11 = .ok (.iconst (-1), 1) := by decide +kernel
theorem dX4_publish_12 : decode cX4_publish 12 = .ok (.ireturn, 1) := by decide +kernel
theorem dX4_publish_13 : decode cX4_publish 13 = .ok (.aload_n 0, 1) := by decide +kernel
theorem dX4_publish_14 : decode cX4_publish 14 = .ok (.getfield 10, 3) := by decide +kernel
theorem dX4_publish_17 : decode cX4_publish 17 = .ok (.iload_n 1, 1) := by decide +kernel
theorem dX4_publish_18 : decode cX4_publish 18 = .ok (.invokevirtual 100, 3) := by decide +kernel
theorem dX4_publish_21 : decode cX4_publish 21 = .ok (.aload_n 0, 1) := by decide +kernel
theorem dX4_publish_22 : decode cX4_publish 22 = .ok (.getfield 10, 3) := by decide +kernel
theorem dX4_publish_25 : decode cX4_publish 25 = .ok (.iload_n 1, 1) := by decide +kernel
theorem dX4_publish_26 : decode cX4_publish 26 = .ok (.invokevirtual 97, 3) := by decide +kernel
theorem dX4_publish_29 : decode cX4_publish 29 = .ok (.if_icmp .ge 6, 3) := by decide +kernel
theorem dX4_publish_32 : decode cX4_publish 32 = .ok (.bipush (-2), 2) := by decide +kernel
theorem dX4_publish_34 : decode cX4_publish 34 = .ok (.ireturn, 1) := by decide +kernel
theorem dX4_publish_35 : decode cX4_publish 35 = .ok (.aload_n 0, 1) := by decide +kernel
theorem dX4_publish_36 : decode cX4_publish 36 = .ok (.getfield 19, 3) := by decide +kernel
theorem dX4_publish_39 : decode cX4_publish 39 = .ok (.aload_n 0, 1) := by decide +kernel
theorem dX4_publish_40 : decode cX4_publish 40 = .ok (.getfield 10, 3) := by decide +kernel
theorem dX4_publish_43 : decode cX4_publish 43 = .ok (.invokevirtual 41, 3) := by decide +kernel
theorem dX4_publish_46 : decode cX4_publish 46 = .ok (.aload_n 0, 1) := by decide +kernel
theorem dX4_publish_47 : decode cX4_publish 47 = .ok (.getfield 10, 3) := by decide +kernel
theorem dX4_publish_50 : decode cX4_publish 50 = .ok (.iload_n 1, 1) := by decide +kernel
theorem dX4_publish_51 : decode cX4_publish 51 = .ok (.invokevirtual 226, 3) := by decide +kernel
theorem dX4_publish_54 : decode cX4_publish 54 = .ok (.aload_n 0, 1) := by decide +kernel
theorem dX4_publish_55 : decode cX4_publish 55 = .ok (.getfield 19, 3) := by decide +kernel
theorem dX4_publish_58 : decode cX4_publish 58 = .ok (.invokevirtual 49, 3) := by decide +kernel
theorem dX4_publish_61 : decode cX4_publish 61 = .ok (.aload_n 0, 1) := by decide +kernel
theorem dX4_publish_62 : decode cX4_publish 62 = .ok (.getfield 10, 3) := by decide +kernel
theorem dX4_publish_65 : decode cX4_publish 65 = .ok (.iload_n 1, 1) := by decide +kernel
theorem dX4_publish_66 : decode cX4_publish 66 = .ok (.invokevirtual 103, 3) := by decide +kernel
theorem dX4_publish_69 : decode cX4_publish 69 = .ok (.ireturn, 1) := by decide +kernel
set_option maxRecDepth 20000 in
theorem ggX4_scale_X0_hasSheet : GoodIn wsX4_scale wsX0_hasSheet := goodIn_r _ [8, 9, 10, 11, 7, 12, 13, 14, 63, 64, 65, 66, 67, 68, 69, 70, 71, 72] (by decide +kernel) (by decide +kernel)
set_option maxRecDepth 20000 in
theorem gX4_scale_X0_hasSheet : GoodIn wsX4_scale (wsV RX4 82 RX0 yX0_hasSheet wsX0_hasSheet) := goodIn_app (goodIn_of _ (by decide +kernel)) ggX4_scale_X0_hasSheet
set_option maxRecDepth 20000 in
theorem ggX4_scale_X4_isWithin : GoodIn wsX4_scale wsX4_isWithin := goodIn_r _ [18] (by decide +kernel) (by decide +kernel)
set_option maxRecDepth 20000 in
theorem gX4_scale_X4_isWithin : GoodIn wsX4_scale (va_wsS RX4 37 yX4_isWithin wsX4_isWithin) := goodIn_app (goodIn_of _ (by decide +kernel)) ggX4_scale_X4_isWithin
set_option maxRecDepth 20000 in
theorem ggX4_scale_X2_recordState : GoodIn wsX4_scale wsX2_recordState := goodIn_r _ [23, 24, 25, 26, 27, 22, 28, 29, 30, 31, 32, 33, 7, 34, 35, 36, 37, 38, 39, 40, 13, 14, 41, 42, 43, 17, 44, 45, 46, 47, 48, 73, 74, 75, 63, 64, 65, 66, 67, 68, 69, 70, 71, 72] (by decide +kernel) (by decide +kernel)
set_option maxRecDepth 20000 in
theorem gX4_scale_X2_recordState : GoodIn wsX4_scale (wsV RX4 41 RX2 yX2_recordState wsX2_recordState) := goodIn_app (goodIn_of _ (by decide +kernel)) ggX4_scale_X2_recordState
set_option maxRecDepth 20000 in
theorem ggX4_scale_X0_putScale : GoodIn wsX4_scale wsX0_putScale := goodIn_r _ [52, 39, 53, 17, 54, 63, 64, 65, 66, 67, 68, 69, 70, 71, 72] (by decide +kernel) (by decide +kernel)
set_option maxRecDepth 20000 in
theorem gX4_scale_X0_putScale : GoodIn wsX4_scale (wsV RX4 231 RX0 yX0_putScale wsX0_putScale) := goodIn_app (goodIn_of _ (by decide +kernel)) ggX4_scale_X0_putScale
set_option maxRecDepth 20000 in
theorem ggX4_scale_X2_keepRecord : GoodIn wsX4_scale wsX2_keepRecord := goodIn_r _ [58, 24, 29, 73, 74, 75] (by decide +kernel) (by decide +kernel)
set_option maxRecDepth 20000 in
theorem gX4_scale_X2_keepRecord : GoodIn wsX4_scale (wsV RX4 49 RX2 yX2_keepRecord wsX2_keepRecord) := goodIn_app (goodIn_of _ (by decide +kernel)) ggX4_scale_X2_keepRecord
theorem dX4_scale_0 : decode cX4_scale 0 = .ok (.aload_n 0, 1) := by decide +kernel
theorem dX4_scale_1 : decode cX4_scale 1 = .ok (.getfield 10, 3) := by decide +kernel
theorem dX4_scale_4 : decode cX4_scale 4 = .ok (.iload_n 1, 1) := by decide +kernel
theorem dX4_scale_5 : decode cX4_scale 5 = .ok (.invokevirtual 82, 3) := by decide +kernel
theorem dX4_scale_8 : decode cX4_scale 8 = .ok (.ifCond .eq 13, 3) := by decide +kernel
theorem dX4_scale_11 : decode cX4_scale 11 = .ok (.iload_n 2, 1) := by decide +kernel
theorem dX4_scale_12 : decode cX4_scale 12 = .ok (.iconst 1, 1) := by decide +kernel
theorem dX4_scale_13 : decode cX4_scale 13 = .ok (.ldc 230, 2) := by decide +kernel
theorem dX4_scale_15 : decode cX4_scale 15 = .ok (.invokestatic 37, 3) := by decide +kernel
theorem dX4_scale_18 : decode cX4_scale 18 = .ok (.ifCond .ne 5, 3) := by decide +kernel
theorem dX4_scale_21 : decode cX4_scale 21 = .ok (.iconst (-1), 1) := by decide +kernel
theorem dX4_scale_22 : decode cX4_scale 22 = .ok (.ireturn, 1) := by decide +kernel
theorem dX4_scale_23 : decode cX4_scale 23 = .ok (.aload_n 0, 1) := by decide +kernel
theorem dX4_scale_24 : decode cX4_scale 24 = .ok (.getfield 19, 3) := by decide +kernel
theorem dX4_scale_27 : decode cX4_scale 27 = .ok (.aload_n 0, 1) := by decide +kernel
theorem dX4_scale_28 : decode cX4_scale 28 = .ok (.getfield 10, 3) := by decide +kernel
theorem dX4_scale_31 : decode cX4_scale 31 = .ok (.invokevirtual 41, 3) := by decide +kernel
theorem dX4_scale_34 : decode cX4_scale 34 = .ok (.aload_n 0, 1) := by decide +kernel
theorem dX4_scale_35 : decode cX4_scale 35 = .ok (.getfield 10, 3) := by decide +kernel
theorem dX4_scale_38 : decode cX4_scale 38 = .ok (.iload_n 1, 1) := by decide +kernel
theorem dX4_scale_39 : decode cX4_scale 39 = .ok (.iload_n 2, 1) := by decide +kernel
theorem dX4_scale_40 : decode cX4_scale 40 = .ok (.invokevirtual 231, 3) := by decide +kernel
theorem dX4_scale_43 : decode cX4_scale 43 = .ok (.istore_n 3, 1) := by decide +kernel
theorem dX4_scale_44 : decode cX4_scale 44 = .ok (.aload_n 0, 1) := by decide +kernel
theorem dX4_scale_45 : decode cX4_scale 45 = .ok (.getfield 19, 3) := by decide +kernel
theorem dX4_scale_48 : decode cX4_scale 48 = .ok (.invokevirtual 49, 3) := by decide +kernel
theorem dX4_scale_51 : decode cX4_scale 51 = .ok (.iload_n 3, 1) := by decide +kernel
theorem dX4_scale_52 : decode cX4_scale 52 = .ok (.ireturn, 1) := by decide +kernel
set_option maxRecDepth 20000 in
theorem ggX4_endRevision_X0_guardValue : GoodIn wsX4_endRevision wsX0_guardValue := goodIn_r _ [7, 8, 124, 125, 126, 127, 128, 129, 130, 131, 132, 133] (by decide +kernel) (by decide +kernel)
set_option maxRecDepth 20000 in
theorem gX4_endRevision_X0_guardValue : GoodIn wsX4_endRevision (wsV RX4 161 RX0 yX0_guardValue wsX0_guardValue) := goodIn_app (goodIn_of _ (by decide +kernel)) ggX4_endRevision_X0_guardValue
set_option maxRecDepth 20000 in
theorem ggX4_endRevision_X0_breaksAgreement : GoodIn wsX4_endRevision wsX0_breaksAgreement := goodIn_r _ [12, 13, 14, 15, 6, 16, 17, 18, 19, 20, 21, 22, 23, 24, 25, 26, 27, 28, 29, 30, 31, 32, 33, 34, 35, 36, 37, 38, 39, 40, 41, 42, 43, 44, 45, 46, 47, 48, 49, 50, 51, 52, 53, 54, 55, 56, 57, 58, 59, 60, 61, 62, 63, 64, 65, 66, 67, 68, 69, 70, 71, 124, 125, 126, 127, 128, 129, 130, 131, 132, 133] (by decide +kernel) (by decide +kernel)
set_option maxRecDepth 20000 in
theorem gX4_endRevision_X0_breaksAgreement : GoodIn wsX4_endRevision (wsV RX4 252 RX0 yX0_breaksAgreement wsX0_breaksAgreement) := goodIn_app (goodIn_of _ (by decide +kernel)) ggX4_endRevision_X0_breaksAgreement
set_option maxRecDepth 20000 in
theorem ggX4_endRevision_X2_returnToRecord : GoodIn wsX4_endRevision wsX2_returnToRecord := goodIn_r _ [76, 77, 78, 79, 80, 75, 81, 82, 83, 84, 85, 86, 6, 87, 59, 60, 88, 89, 90, 35, 17, 18, 8, 91, 92, 37, 93, 94, 95, 96, 97, 134, 135, 136, 124, 125, 126, 127, 128, 129, 130, 131, 132, 133] (by decide +kernel) (by decide +kernel)
set_option maxRecDepth 20000 in
theorem gX4_endRevision_X2_returnToRecord : GoodIn wsX4_endRevision (wsV RX4 215 RX2 yX2_returnToRecord wsX2_returnToRecord) := goodIn_app (goodIn_of _ (by decide +kernel)) ggX4_endRevision_X2_returnToRecord
set_option maxRecDepth 20000 in
theorem ggX4_endRevision_X0_dropBrokenAgreements : GoodIn wsX4_endRevision wsX0_dropBrokenAgreements := goodIn_r _ [101, 13, 14, 15, 6, 16, 17, 18, 19, 20, 21, 22, 23, 24, 25, 26, 27, 28, 29, 30, 31, 32, 33, 34, 35, 36, 37, 38, 39, 40, 41, 42, 43, 44, 45, 46, 47, 48, 49, 50, 51, 52, 53, 54, 55, 56, 57, 58, 59, 60, 61, 62, 63, 64, 65, 66, 67, 68, 69, 70, 71, 102, 103, 104, 105, 106, 107, 124, 125, 126, 127, 128, 129, 130, 131, 132, 133] (by decide +kernel) (by decide +kernel)
set_option maxRecDepth 20000 in
theorem gX4_endRevision_X0_dropBrokenAgreements : GoodIn wsX4_endRevision (wsV RX4 255 RX0 yX0_dropBrokenAgreements wsX0_dropBrokenAgreements) := goodIn_app (goodIn_of _ (by decide +kernel)) ggX4_endRevision_X0_dropBrokenAgreements
set_option maxRecDepth 20000 in
theorem ggX4_endRevision_X0_addRevision : GoodIn wsX4_endRevision wsX0_addRevision := goodIn_r _ [111, 88, 112, 113, 114, 6, 115, 36, 37, 38, 106, 107, 124, 125, 126, 127, 128, 129, 130, 131, 132, 133] (by decide +kernel) (by decide +kernel)
set_option maxRecDepth 20000 in
theorem gX4_endRevision_X0_addRevision : GoodIn wsX4_endRevision (wsV RX4 258 RX0 yX0_addRevision wsX0_addRevision) := goodIn_app (goodIn_of _ (by decide +kernel)) ggX4_endRevision_X0_addRevision
set_option maxRecDepth 20000 in
theorem ggX4_endRevision_X2_keepRecord : GoodIn wsX4_endRevision wsX2_keepRecord := goodIn_r _ [119, 77, 82, 134, 135, 136] (by decide +kernel) (by decide +kernel)
set_option maxRecDepth 20000 in
theorem gX4_endRevision_X2_keepRecord : GoodIn wsX4_endRevision (wsV RX4 49 RX2 yX2_keepRecord wsX2_keepRecord) := goodIn_app (goodIn_of _ (by decide +kernel)) ggX4_endRevision_X2_keepRecord
theorem dX4_endRevision_0 : decode cX4_endRevision 0 = .ok (.aload_n 0, 1) := by decide +kernel
theorem dX4_endRevision_1 : decode cX4_endRevision 1 = .ok (.getfield 10, 3) := by decide +kernel
theorem dX4_endRevision_4 : decode cX4_endRevision 4 = .ok (.invokevirtual 161, 3) := by decide +kernel
theorem dX4_endRevision_7 : decode cX4_endRevision 7 = .ok (.iconst 1, 1) := by decide +kernel
theorem dX4_endRevision_8 : decode cX4_endRevision 8 = .ok (.if_icmp .ne 28, 3) := by decide +kernel
theorem dX4_endRevision_11 : decode cX4_endRevision 11 = .ok (.aload_n 0, 1) := by decide +kernel
theorem dX4_endRevision_12 : decode cX4_endRevision 12 = .ok (.getfield 10, 3) := by decide +kernel
theorem dX4_endRevision_15 : decode cX4_endRevision 15 = .ok (.iload_n 1, 1) := by decide +kernel
theorem dX4_endRevision_16 : decode cX4_endRevision 16 = .ok (.invokevirtual 252, 3) := by decide +kernel
theorem dX4_endRevision_19 : decode cX4_endRevision 19 = .ok (.ifCond .eq 17, 3) := by decide +kernel
theorem dX4_endRevision_22 : decode cX4_endRevision 22 = .ok (.aload_n 0, 1) := by decide +kernel
theorem dX4_endRevision_23 : decode cX4_endRevision 23 = .ok (.getfield 19, 3) := by decide +kernel
theorem dX4_endRevision_26 : decode cX4_endRevision 26 = .ok (.aload_n 0, 1) := by decide +kernel
theorem dX4_endRevision_27 : decode cX4_endRevision 27 = .ok (.getfield 10, 3) := by decide +kernel
theorem dX4_endRevision_30 : decode cX4_endRevision 30 = .ok (.invokevirtual 215, 3) := by decide +kernel
theorem dX4_endRevision_33 : decode cX4_endRevision 33 = .ok (.bipush (-2), 2) := by decide +kernel
theorem dX4_endRevision_35 : decode cX4_endRevision 35 = .ok (.ireturn, 1) := by decide +kernel
theorem dX4_endRevision_36 : decode cX4_endRevision 36 = .ok (.aload_n 0, 1) := by decide +kernel
theorem dX4_endRevision_37 : decode cX4_endRevision 37 = .ok (.getfield 10, 3) := by decide +kernel
theorem dX4_endRevision_40 : decode cX4_endRevision 40 = .ok (.iload_n 1, 1) := by decide +kernel
theorem dX4_endRevision_41 : decode cX4_endRevision 41 = .ok (.invokevirtual 255, 3) := by decide +kernel
theorem dX4_endRevision_44 : decode cX4_endRevision 44 = .ok (.aload_n 0, 1) := by decide +kernel
theorem dX4_endRevision_45 : decode cX4_endRevision 45 = .ok (.getfield 10, 3) := by decide +kernel
theorem dX4_endRevision_48 : decode cX4_endRevision 48 = .ok (.iload_n 1, 1) := by decide +kernel
theorem dX4_endRevision_49 : decode cX4_endRevision 49 = .ok (.invokevirtual 258, 3) := by decide +kernel
theorem dX4_endRevision_52 : decode cX4_endRevision 52 = .ok (.aload_n 0, 1) := by decide +kernel
theorem dX4_endRevision_53 : decode cX4_endRevision 53 = .ok (.getfield 19, 3) := by decide +kernel
theorem dX4_endRevision_56 : decode cX4_endRevision 56 = .ok (.invokevirtual 49, 3) := by decide +kernel
theorem dX4_endRevision_59 : decode cX4_endRevision 59 = .ok (.iload_n 2, 1) := by decide +kernel
theorem dX4_endRevision_60 : decode cX4_endRevision 60 = .ok (.ireturn, 1) := by decide +kernel
theorem dX4_isWithin_0 : decode cX4_isWithin 0 = .ok (.iload_n 0, 1) := by decide +kernel
theorem dX4_isWithin_1 : decode cX4_isWithin 1 = .ok (.iload_n 1, 1) := by decide +kernel
theorem dX4_isWithin_2 : decode cX4_isWithin 2 = .ok (.if_icmp .lt 12, 3) := by decide +kernel
theorem dX4_isWithin_5 : decode cX4_isWithin 5 = .ok (.iload_n 0, 1) := by decide +kernel
theorem dX4_isWithin_6 : decode cX4_isWithin 6 = .ok (.iload_n 2, 1) := by decide +kernel
theorem dX4_isWithin_7 : decode cX4_isWithin 7 = .ok (.if_icmp .gt 7, 3) := by decide +kernel
theorem dX4_isWithin_10 : decode cX4_isWithin 10 = .ok (.iconst 1, 1) := by decide +kernel
theorem dX4_isWithin_11 : decode cX4_isWithin 11 = .ok (.goto 4, 3) := by decide +kernel
theorem dX4_isWithin_14 : decode cX4_isWithin 14 = .ok (.iconst 0, 1) := by decide +kernel
theorem dX4_isWithin_15 : decode cX4_isWithin 15 = .ok (.ireturn, 1) := by decide +kernel
set_option maxRecDepth 20000 in
theorem ggX4_isDigit_X4_isWithin : GoodIn wsX4_isDigit wsX4_isWithin := goodIn_r _ [4] (by decide +kernel) (by decide +kernel)
set_option maxRecDepth 20000 in
theorem gX4_isDigit_X4_isWithin : GoodIn wsX4_isDigit (va_wsS RX4 37 yX4_isWithin wsX4_isWithin) := goodIn_app (goodIn_of _ (by decide +kernel)) ggX4_isDigit_X4_isWithin
theorem dX4_isDigit_0 : decode cX4_isDigit 0 = .ok (.iload_n 0, 1) := by decide +kernel
theorem dX4_isDigit_1 : decode cX4_isDigit 1 = .ok (.iconst 0, 1) := by decide +kernel
theorem dX4_isDigit_2 : decode cX4_isDigit 2 = .ok (.bipush 9, 2) := by decide +kernel
theorem dX4_isDigit_4 : decode cX4_isDigit 4 = .ok (.invokestatic 37, 3) := by decide +kernel
theorem dX4_isDigit_7 : decode cX4_isDigit 7 = .ok (.ireturn, 1) := by decide +kernel
theorem dX4_valueAt_0 : decode cX4_valueAt 0 = .ok (.iload_n 1, 1) := by decide +kernel
theorem dX4_valueAt_1 : decode cX4_valueAt 1 = .ok (.ifCond .lt 15, 3) := by decide +kernel
theorem dX4_valueAt_4 : decode cX4_valueAt 4 = .ok (.iload_n 1, 1) := by decide +kernel
theorem dX4_valueAt_5 : decode cX4_valueAt 5 = .ok (.aload_n 0, 1) := by decide +kernel
theorem dX4_valueAt_6 : decode cX4_valueAt 6 = .ok (.arraylength, 1) := by decide +kernel
theorem dX4_valueAt_7 : decode cX4_valueAt 7 = .ok (.if_icmp .ge 9, 3) := by decide +kernel
theorem dX4_valueAt_10 : decode cX4_valueAt 10 = .ok (.aload_n 0, 1) := by decide +kernel
theorem dX4_valueAt_11 : decode cX4_valueAt 11 = .ok (.iload_n 1, 1) := by decide +kernel
theorem dX4_valueAt_12 : decode cX4_valueAt 12 = .ok (.iaload, 1) := by decide +kernel
theorem dX4_valueAt_13 : decode cX4_valueAt 13 = .ok (.goto 4, 3) := by decide +kernel
theorem dX4_valueAt_16 : decode cX4_valueAt 16 = .ok (.iload_n 2, 1) := by decide +kernel
theorem dX4_valueAt_17 : decode cX4_valueAt 17 = .ok (.ireturn, 1) := by decide +kernel
theorem dX4_exchange_0 : decode cX4_exchange 0 = .ok (.iload_n 1, 1) := by decide +kernel
theorem dX4_exchange_1 : decode cX4_exchange 1 = .ok (.ifCond .lt 9, 3) := by decide +kernel
theorem dX4_exchange_4 : decode cX4_exchange 4 = .ok (.iload_n 1, 1) := by decide +kernel
theorem dX4_exchange_5 : decode cX4_exchange 5 = .ok (.aload_n 0, 1) := by decide +kernel
theorem dX4_exchange_6 : decode cX4_exchange 6 = .ok (.arraylength, 1) := by decide +kernel
theorem dX4_exchange_7 : decode cX4_exchange 7 = .ok (.if_icmp .lt 5, 3) := by decide +kernel
theorem dX4_exchange_10 : decode cX4_exchange 10 = .ok (.iload_n 2, 1) := by decide +kernel
theorem dX4_exchange_11 : decode cX4_exchange 11 = .ok (.ireturn, 1) := by decide +kernel
theorem dX4_exchange_12 : decode cX4_exchange 12 = .ok (.aload_n 0, 1) := by decide +kernel
theorem dX4_exchange_13 : decode cX4_exchange 13 = .ok (.iload_n 1, 1) := by decide +kernel
theorem dX4_exchange_14 : decode cX4_exchange 14 = .ok (.iaload, 1) := by decide +kernel
theorem dX4_exchange_15 : decode cX4_exchange 15 = .ok (.istore_n 3, 1) := by decide +kernel
theorem dX4_exchange_16 : decode cX4_exchange 16 = .ok (.aload_n 0, 1) := by decide +kernel
theorem dX4_exchange_17 : decode cX4_exchange 17 = .ok (.iload_n 1, 1) := by decide +kernel
theorem dX4_exchange_18 : decode cX4_exchange 18 = .ok (.iload_n 2, 1) := by decide +kernel
theorem dX4_exchange_19 : decode cX4_exchange 19 = .ok (.iastore, 1) := by decide +kernel
theorem dX4_exchange_20 : decode cX4_exchange 20 = .ok (.iload_n 3, 1) := by decide +kernel
theorem dX4_exchange_21 : decode cX4_exchange 21 = .ok (.ireturn, 1) := by decide +kernel
theorem dX4_copyRow_0 : decode cX4_copyRow 0 = .ok (.aload_n 0, 1) := by decide +kernel
theorem dX4_copyRow_1 : decode cX4_copyRow 1 = .ok (.arraylength, 1) := by decide +kernel
theorem dX4_copyRow_2 : decode cX4_copyRow 2 = .ok (.aload_n 1, 1) := by decide +kernel
theorem dX4_copyRow_3 : decode cX4_copyRow 3 = .ok (.arraylength, 1) := by decide +kernel
theorem dX4_copyRow_4 : decode cX4_copyRow 4 = .ok (.if_icmp .ne 12, 3) := by decide +kernel
theorem dX4_copyRow_7 : decode cX4_copyRow 7 = .ok (.aload_n 0, 1) := by decide +kernel
theorem dX4_copyRow_8 : decode cX4_copyRow 8 = .ok (.iconst 0, 1) := by decide +kernel
theorem dX4_copyRow_9 : decode cX4_copyRow 9 = .ok (.aload_n 1, 1) := by decide +kernel
theorem dX4_copyRow_10 : decode cX4_copyRow 10 = .ok (.iconst 0, 1) := by decide +kernel
theorem dX4_copyRow_11 : decode cX4_copyRow 11 = .ok (.aload_n 0, 1) := by decide +kernel
theorem dX4_copyRow_12 : decode cX4_copyRow 12 = .ok (.arraylength, 1) := by decide +kernel
theorem dX4_copyRow_13 : decode cX4_copyRow 13 = .ok (.invokestatic 261, 3) := by decide +kernel
theorem dX4_copyRow_16 : decode cX4_copyRow 16 = .ok (.return_, 1) := by decide +kernel
end
section
theorem inX5 : ∀ w ∈ wsX50, w ∈ lw_tbl := by decide +kernel
end
section
set_option maxRecDepth 20000 in
theorem ggL_digit_L_power : GoodIn wsL_digit wsL_power := goodIn_r _ [4] (by rfl) (by decide +kernel)
set_option maxRecDepth 20000 in
theorem gL_digit_L_power : GoodIn wsL_digit (va_wsS RL 9 yL_power wsL_power) := goodIn_app (goodIn_of _ (by decide +kernel)) ggL_digit_L_power
set_option maxRecDepth 20000 in
theorem ggL_means_L_digit : GoodIn wsL_means wsL_digit := goodIn_r _ [4, 5, 6, 3, 7] (by rfl) (by decide +kernel)
set_option maxRecDepth 20000 in
theorem gL_means_L_digit : GoodIn wsL_means (va_wsS RL 15 yL_digit wsL_digit) := goodIn_app (goodIn_of _ (by decide +kernel)) ggL_means_L_digit
set_option maxRecDepth 20000 in
theorem ggL_reason_L_means : GoodIn wsL_reason wsL_means := goodIn_r _ [4, 5, 6, 3, 7, 8, 9, 10] (by rfl) (by decide +kernel)
set_option maxRecDepth 20000 in
theorem gL_reason_L_means : GoodIn wsL_reason (va_wsS RL 19 yL_means wsL_means) := goodIn_app (goodIn_of _ (by decide +kernel)) ggL_reason_L_means
set_option maxRecDepth 20000 in
theorem ggL_reason_L_other : GoodIn wsL_reason wsL_other := goodIn_r _ [13] (by rfl) (by decide +kernel)
set_option maxRecDepth 20000 in
theorem gL_reason_L_other : GoodIn wsL_reason (va_wsS RL 23 yL_other wsL_other) := goodIn_app (goodIn_of _ (by decide +kernel)) ggL_reason_L_other
set_option maxRecDepth 20000 in
theorem ggL_quarrels_L_reason : GoodIn wsL_quarrels wsL_reason := goodIn_r _ [4, 5, 6, 3, 7, 8, 9, 10, 11, 12, 13, 14, 15, 16] (by rfl) (by decide +kernel)
set_option maxRecDepth 20000 in
theorem gL_quarrels_L_reason : GoodIn wsL_quarrels (va_wsS RL 27 yL_reason wsL_reason) := goodIn_app (goodIn_of _ (by decide +kernel)) ggL_quarrels_L_reason
set_option maxRecDepth 20000 in
theorem ggL_torn_L_edge : GoodIn wsL_torn wsL_edge := goodIn_r _ [4] (by rfl) (by decide +kernel)
set_option maxRecDepth 20000 in
theorem gL_torn_L_edge : GoodIn wsL_torn (va_wsS RL 31 yL_edge wsL_edge) := goodIn_app (goodIn_of _ (by decide +kernel)) ggL_torn_L_edge
set_option maxRecDepth 20000 in
theorem ggL_torn_L_quarrels : GoodIn wsL_torn wsL_quarrels := goodIn_r _ [7, 8, 9, 3, 10, 11, 12, 13, 14, 15, 16, 17, 18, 19, 20, 21, 22] (by rfl) (by decide +kernel)
set_option maxRecDepth 20000 in
theorem gL_torn_L_quarrels : GoodIn wsL_torn (va_wsS RL 34 yL_quarrels wsL_quarrels) := goodIn_app (goodIn_of _ (by decide +kernel)) ggL_torn_L_quarrels
set_option maxRecDepth 20000 in
theorem ggL_begins_L_power : GoodIn wsL_begins wsL_power := goodIn_r _ [5] (by rfl) (by decide +kernel)
set_option maxRecDepth 20000 in
theorem gL_begins_L_power : GoodIn wsL_begins (va_wsS RL 9 yL_power wsL_power) := goodIn_app (goodIn_of _ (by decide +kernel)) ggL_begins_L_power
set_option maxRecDepth 20000 in
theorem ggL_keeps_L_torn : GoodIn wsL_keeps wsL_torn := goodIn_r _ [4, 5, 6, 3, 7, 8, 9, 10, 11, 12, 13, 14, 15, 16, 17, 18, 19, 20, 21, 22, 23, 24, 25] (by rfl) (by decide +kernel)
set_option maxRecDepth 20000 in
theorem gL_keeps_L_torn : GoodIn wsL_keeps (va_wsS RL 40 yL_torn wsL_torn) := goodIn_app (goodIn_of _ (by decide +kernel)) ggL_keeps_L_torn
set_option maxRecDepth 20000 in
theorem ggL_edgeAt_L_edge : GoodIn wsL_edgeAt wsL_edge := goodIn_r _ [4] (by rfl) (by decide +kernel)
set_option maxRecDepth 20000 in
theorem gL_edgeAt_L_edge : GoodIn wsL_edgeAt (va_wsS RL 31 yL_edge wsL_edge) := goodIn_app (goodIn_of _ (by decide +kernel)) ggL_edgeAt_L_edge
set_option maxRecDepth 20000 in
theorem ggL_edgeAt_L_other : GoodIn wsL_edgeAt wsL_other := goodIn_r _ [7] (by rfl) (by decide +kernel)
set_option maxRecDepth 20000 in
theorem gL_edgeAt_L_other : GoodIn wsL_edgeAt (va_wsS RL 23 yL_other wsL_other) := goodIn_app (goodIn_of _ (by decide +kernel)) ggL_edgeAt_L_other
set_option maxRecDepth 20000 in
theorem ggL_acts_L_low : GoodIn wsL_acts wsL_low := goodIn_r _ [6, 7] (by rfl) (by decide +kernel)
set_option maxRecDepth 20000 in
theorem gL_acts_L_low : GoodIn wsL_acts (va_wsS RL 45 yL_low wsL_low) := goodIn_app (goodIn_of _ (by decide +kernel)) ggL_acts_L_low
set_option maxRecDepth 20000 in
theorem ggL_acts_L_edge : GoodIn wsL_acts wsL_edge := goodIn_r _ [10] (by rfl) (by decide +kernel)
set_option maxRecDepth 20000 in
theorem gL_acts_L_edge : GoodIn wsL_acts (va_wsS RL 31 yL_edge wsL_edge) := goodIn_app (goodIn_of _ (by decide +kernel)) ggL_acts_L_edge
set_option maxRecDepth 20000 in
theorem ggL_acts_X4_grid : GoodIn wsL_acts wsX4_grid := goodIn_r _ [15, 16, 17, 18, 19, 14, 20, 21, 22, 23, 24, 25, 26, 27, 28, 29, 30, 31, 32, 33, 34, 35, 36, 37, 38, 39, 40, 41, 42, 43, 44, 45, 46, 47, 48, 49, 50, 51, 52, 53, 54, 55, 56, 57, 58, 59, 60, 61, 62, 63, 64, 65, 66, 67, 68, 69, 70, 71, 72, 73, 411, 412, 413, 414, 415, 416, 417, 418, 419, 420, 421, 422, 423, 424, 425, 426, 427] (by rfl) (by decide +kernel)
set_option maxRecDepth 20000 in
theorem gL_acts_X4_grid : GoodIn wsL_acts (wsV RL 49 RX4 yX4_grid wsX4_grid) := goodIn_app (goodIn_of _ (by decide +kernel)) ggL_acts_X4_grid
set_option maxRecDepth 20000 in
theorem ggL_acts_L_begins : GoodIn wsL_acts wsL_begins := goodIn_r _ [76, 77, 78, 79, 5, 80] (by rfl) (by decide +kernel)
set_option maxRecDepth 20000 in
theorem gL_acts_L_begins : GoodIn wsL_acts (va_wsS RL 54 yL_begins wsL_begins) := goodIn_app (goodIn_of _ (by decide +kernel)) ggL_acts_L_begins
set_option maxRecDepth 20000 in
theorem ggL_acts_X4_set : GoodIn wsL_acts wsX4_set := goodIn_r _ [84, 16, 17, 18, 19, 14, 20, 21, 22, 23, 24, 25, 26, 27, 28, 29, 30, 31, 32, 33, 34, 35, 36, 37, 38, 39, 40, 41, 42, 43, 44, 45, 46, 47, 48, 49, 50, 51, 52, 53, 85, 86, 87, 88, 89, 90, 91, 92, 62, 63, 64, 65, 411, 412, 413, 414, 415, 416, 417, 418, 419, 420, 421, 422, 423, 424, 425, 426, 427] (by rfl) (by decide +kernel)
set_option maxRecDepth 20000 in
theorem gL_acts_X4_set : GoodIn wsL_acts (wsV RL 58 RX4 yX4_set wsX4_set) := goodIn_app (goodIn_of _ (by decide +kernel)) ggL_acts_X4_set
set_option maxRecDepth 20000 in
theorem ggL_acts_L_digit : GoodIn wsL_acts wsL_digit := goodIn_r _ [95, 78, 79, 5, 80] (by rfl) (by decide +kernel)
set_option maxRecDepth 20000 in
theorem gL_acts_L_digit : GoodIn wsL_acts (va_wsS RL 15 yL_digit wsL_digit) := goodIn_app (goodIn_of _ (by decide +kernel)) ggL_acts_L_digit
set_option maxRecDepth 20000 in
theorem ggL_acts_L_power : GoodIn wsL_acts wsL_power := goodIn_r _ [80] (by rfl) (by decide +kernel)
set_option maxRecDepth 20000 in
theorem gL_acts_L_power : GoodIn wsL_acts (va_wsS RL 9 yL_power wsL_power) := goodIn_app (goodIn_of _ (by decide +kernel)) ggL_acts_L_power
set_option maxRecDepth 20000 in
theorem ggL_acts_X4_show : GoodIn wsL_acts wsX4_show := goodIn_r _ [99, 17, 16, 100, 101, 102, 36, 103, 104, 105, 106, 107, 108, 109, 110, 111, 44, 45, 19, 14, 20, 112, 113, 114, 18, 21, 22, 23, 24, 25, 26, 27, 28, 29, 30, 31, 32, 33, 34, 35, 37, 38, 39, 40, 41, 42, 43, 46, 47, 48, 49, 50, 51, 52, 53, 115, 116, 117, 118, 119, 120, 121, 122, 123, 124, 125, 126, 127, 128, 129, 130, 131, 132, 133, 134, 135, 136, 137, 138, 139, 140, 141, 142, 143, 144, 145, 146, 147, 70, 71, 72, 73, 148, 149, 150, 151, 152, 153, 154, 155, 156, 157, 158, 159, 160, 161, 162, 163, 164, 165, 166, 167, 168, 169, 170, 171, 172, 173, 174, 175, 176, 177, 178, 179, 180, 181, 182, 183, 184, 185, 186, 187, 188, 189, 190, 191, 192, 193, 194, 195, 196, 197, 198, 199, 200, 201, 62, 63, 64, 65, 411, 412, 413, 414, 418, 419, 420, 421, 422, 423, 424, 425, 426, 427, 415, 416, 417] (by rfl) (by decide +kernel)
set_option maxRecDepth 20000 in
theorem gL_acts_X4_show : GoodIn wsL_acts (wsV RL 61 RX4 yX4_show wsX4_show) := goodIn_app (goodIn_of _ (by decide +kernel)) ggL_acts_X4_show
set_option maxRecDepth 20000 in
theorem ggL_acts_L_keeps : GoodIn wsL_acts wsL_keeps := goodIn_r _ [204, 205, 206, 5, 207, 8, 9, 10, 208, 209, 210, 211, 212, 213, 214, 215, 216, 93, 94, 95, 78, 79, 80, 217, 218, 219] (by rfl) (by decide +kernel)
set_option maxRecDepth 20000 in
theorem gL_acts_L_keeps : GoodIn wsL_acts (va_wsS RL 65 yL_keeps wsL_keeps) := goodIn_app (goodIn_of _ (by decide +kernel)) ggL_acts_L_keeps
set_option maxRecDepth 20000 in
theorem ggL_acts_X4_erase : GoodIn wsL_acts wsX4_erase := goodIn_r _ [223, 17, 16, 100, 101, 102, 36, 103, 104, 105, 106, 107, 108, 109, 110, 111, 44, 45, 19, 14, 20, 224, 225, 226, 227, 38, 119, 120, 121, 152, 153, 21, 22, 23, 24, 25, 26, 27, 28, 29, 30, 31, 32, 33, 34, 35, 37, 39, 40, 41, 42, 43, 46, 47, 48, 49, 50, 51, 52, 53, 115, 116, 117, 118, 122, 123, 124, 125, 126, 127, 128, 129, 130, 131, 132, 133, 134, 135, 136, 137, 138, 139, 140, 141, 142, 143, 144, 145, 146, 147, 70, 71, 72, 73, 148, 149, 150, 151, 154, 155, 156, 157, 158, 159, 160, 161, 162, 163, 164, 165, 166, 167, 168, 169, 170, 171, 172, 173, 174, 175, 176, 177, 178, 179, 180, 181, 182, 183, 184, 185, 186, 187, 188, 189, 190, 191, 192, 193, 194, 195, 196, 197, 198, 199, 200, 201, 62, 63, 64, 65, 411, 412, 413, 414, 418, 419, 420, 421, 422, 423, 424, 425, 426, 427, 415, 416, 417] (by rfl) (by decide +kernel)
set_option maxRecDepth 20000 in
theorem gL_acts_X4_erase : GoodIn wsL_acts (wsV RL 69 RX4 yX4_erase wsX4_erase) := goodIn_app (goodIn_of _ (by decide +kernel)) ggL_acts_X4_erase
set_option maxRecDepth 20000 in
theorem ggL_acts_X4_mean : GoodIn wsL_acts wsX4_mean := goodIn_r _ [231, 17, 16, 232, 105, 106, 36, 107, 108, 109, 110, 111, 44, 45, 112, 113, 14, 114, 18, 19, 20, 21, 22, 23, 24, 25, 26, 27, 28, 29, 30, 31, 32, 33, 34, 35, 37, 38, 39, 40, 41, 42, 43, 46, 47, 48, 49, 50, 51, 52, 53, 233, 234, 235, 236, 122, 123, 124, 125, 126, 127, 128, 129, 130, 131, 132, 133, 134, 135, 136, 137, 138, 139, 140, 141, 142, 143, 144, 145, 146, 147, 70, 71, 72, 73, 148, 149, 150, 151, 152, 153, 154, 155, 156, 157, 158, 159, 160, 161, 162, 163, 164, 165, 166, 167, 168, 169, 170, 171, 172, 173, 119, 120, 121, 174, 175, 176, 177, 178, 179, 180, 181, 182, 183, 184, 185, 186, 187, 188, 189, 190, 191, 192, 193, 194, 195, 196, 197, 198, 199, 200, 201, 62, 63, 64, 65, 411, 412, 413, 414, 418, 419, 420, 421, 422, 423, 424, 425, 426, 427, 415, 416, 417] (by rfl) (by decide +kernel)
set_option maxRecDepth 20000 in
theorem gL_acts_X4_mean : GoodIn wsL_acts (wsV RL 73 RX4 yX4_mean wsX4_mean) := goodIn_app (goodIn_of _ (by decide +kernel)) ggL_acts_X4_mean
set_option maxRecDepth 20000 in
theorem ggL_acts_L_quarrels : GoodIn wsL_acts wsL_quarrels := goodIn_r _ [210, 211, 212, 5, 213, 214, 215, 216, 93, 94, 95, 78, 79, 80, 217, 218, 219] (by rfl) (by decide +kernel)
set_option maxRecDepth 20000 in
theorem gL_acts_L_quarrels : GoodIn wsL_acts (va_wsS RL 34 yL_quarrels wsL_quarrels) := goodIn_app (goodIn_of _ (by decide +kernel)) ggL_acts_L_quarrels
set_option maxRecDepth 20000 in
theorem ggL_acts_X4_agree : GoodIn wsL_acts wsX4_agree := goodIn_r _ [240, 17, 16, 241, 242, 243, 36, 244, 245, 67, 68, 69, 44, 45, 70, 71, 72, 73, 246, 155, 156, 157, 158, 159, 160, 161, 162, 163, 164, 165, 166, 167, 168, 169, 170, 171, 172, 173, 38, 39, 119, 120, 121, 152, 14, 153, 174, 175, 176, 177, 178, 179, 180, 181, 21, 22, 23, 24, 25, 26, 27, 28, 29, 30, 31, 32, 33, 34, 35, 37, 40, 41, 42, 43, 46, 47, 48, 49, 50, 51, 52, 53, 247, 191, 192, 193, 122, 123, 62, 63, 64, 65, 411, 412, 413, 414, 418, 419, 420, 421, 422, 423, 424, 425, 426, 427, 415, 416, 417] (by rfl) (by decide +kernel)
set_option maxRecDepth 20000 in
theorem gL_acts_X4_agree : GoodIn wsL_acts (wsV RL 76 RX4 yX4_agree wsX4_agree) := goodIn_app (goodIn_of _ (by decide +kernel)) ggL_acts_X4_agree
set_option maxRecDepth 20000 in
theorem ggL_acts_X4_release : GoodIn wsL_acts wsX4_release := goodIn_r _ [251, 17, 16, 252, 241, 242, 243, 36, 244, 245, 67, 68, 69, 44, 45, 70, 71, 72, 73, 253, 149, 150, 151, 43, 152, 14, 153, 21, 22, 23, 24, 25, 26, 27, 28, 29, 30, 31, 32, 33, 34, 35, 37, 38, 39, 40, 41, 42, 46, 47, 48, 49, 50, 51, 52, 53, 247, 191, 192, 193, 122, 123, 62, 63, 64, 65, 254, 255, 256, 257, 258, 259, 260, 261, 262, 263, 264, 265, 266, 267, 268, 109, 110, 111, 269, 270, 163, 164, 165, 271, 272, 273, 274, 275, 175, 176, 177, 162, 276, 277, 278, 279, 411, 412, 413, 414, 418, 419, 420, 421, 422, 423, 424, 425, 426, 427, 415, 416, 417, 428] (by rfl) (by decide +kernel)
set_option maxRecDepth 20000 in
theorem gL_acts_X4_release : GoodIn wsL_acts (wsV RL 80 RX4 yX4_release wsX4_release) := goodIn_app (goodIn_of _ (by decide +kernel)) ggL_acts_X4_release
set_option maxRecDepth 20000 in
theorem ggL_acts_X4_count : GoodIn wsL_acts wsX4_count := goodIn_r _ [283, 17, 252, 16, 284, 285, 286, 287, 36, 288, 44, 289, 290, 291, 292, 45, 293, 109, 110, 111, 66, 67, 68, 69, 70, 71, 72, 73, 294, 295, 296, 297, 245, 148, 149, 150, 151, 43, 152, 14, 153, 298, 299, 300, 301, 154, 155, 156, 157, 158, 159, 160, 161, 162, 163, 164, 165, 166, 167, 168, 169, 170, 171, 172, 173, 38, 39, 119, 120, 121, 174, 175, 176, 177, 178, 179, 180, 181, 302, 303, 304, 305, 254, 255, 256, 257, 258, 259, 260, 261, 262, 263, 264, 265, 266, 267, 268, 269, 270, 271, 272, 273, 274, 275, 276, 277, 278, 279, 306, 307, 308, 309, 108, 310, 311, 312, 313, 314, 315, 316, 317, 41, 318, 319, 320, 321, 322, 323, 324, 325, 198, 199, 200, 201, 40, 326, 327, 328, 329, 330, 331, 332, 333, 47, 334, 335, 336, 337, 338, 339, 340, 341, 342, 343, 344, 345, 346, 347, 42, 348, 349, 350, 24, 351, 26, 352, 353, 354, 355, 356, 357, 128, 129, 130, 131, 46, 358, 359, 360, 361, 411, 412, 413, 414, 418, 419, 420, 421, 422, 423, 424, 425, 426, 427, 428, 415, 416, 417, 429, 430] (by rfl) (by decide +kernel)
set_option maxRecDepth 20000 in
theorem gL_acts_X4_count : GoodIn wsL_acts (wsV RL 83 RX4 yX4_count wsX4_count) := goodIn_app (goodIn_of _ (by decide +kernel)) ggL_acts_X4_count
set_option maxRecDepth 20000 in
theorem ggL_acts_X4_settle : GoodIn wsL_acts wsX4_settle := goodIn_r _ [365, 17, 16, 241, 242, 243, 36, 244, 245, 67, 68, 69, 44, 45, 70, 71, 72, 73, 366, 163, 164, 165, 367, 175, 176, 177, 162, 21, 22, 23, 24, 25, 26, 27, 28, 29, 30, 31, 32, 33, 34, 35, 37, 38, 39, 40, 41, 42, 43, 46, 47, 48, 14, 49, 50, 51, 52, 53, 368, 369, 370, 371, 166, 167, 168, 169, 178, 179, 180, 181, 174, 170, 171, 172, 173, 119, 120, 121, 152, 153, 372, 373, 374, 375, 376, 377, 378, 379, 380, 116, 117, 118, 122, 123, 381, 195, 196, 197, 198, 199, 200, 201, 182, 183, 184, 185, 62, 63, 64, 65, 411, 412, 413, 414, 418, 419, 420, 421, 422, 423, 424, 425, 426, 427, 415, 416, 417] (by rfl) (by decide +kernel)
set_option maxRecDepth 20000 in
theorem gL_acts_X4_settle : GoodIn wsL_acts (wsV RL 86 RX4 yX4_settle wsX4_settle) := goodIn_app (goodIn_of _ (by decide +kernel)) ggL_acts_X4_settle
set_option maxRecDepth 20000 in
theorem ggL_acts_L_other : GoodIn wsL_acts wsL_other := goodIn_r _ [219] (by rfl) (by decide +kernel)
set_option maxRecDepth 20000 in
theorem gL_acts_L_other : GoodIn wsL_acts (va_wsS RL 23 yL_other wsL_other) := goodIn_app (goodIn_of _ (by decide +kernel)) ggL_acts_L_other
set_option maxRecDepth 20000 in
theorem ggL_acts_L_means : GoodIn wsL_acts wsL_means := goodIn_r _ [216, 93, 94, 5, 95, 78, 79, 80] (by rfl) (by decide +kernel)
set_option maxRecDepth 20000 in
theorem gL_acts_L_means : GoodIn wsL_acts (va_wsS RL 19 yL_means wsL_means) := goodIn_app (goodIn_of _ (by decide +kernel)) ggL_acts_L_means
set_option maxRecDepth 20000 in
theorem ggL_acts_L_edgeAt : GoodIn wsL_acts wsL_edgeAt := goodIn_r _ [384, 8, 9, 5, 10, 217, 218, 219] (by rfl) (by decide +kernel)
set_option maxRecDepth 20000 in
theorem gL_acts_L_edgeAt : GoodIn wsL_acts (va_wsS RL 89 yL_edgeAt wsL_edgeAt) := goodIn_app (goodIn_of _ (by decide +kernel)) ggL_acts_L_edgeAt
set_option maxRecDepth 20000 in
theorem ggL_acts_X4_publish : GoodIn wsL_acts wsX4_publish := goodIn_r _ [388, 17, 16, 232, 105, 106, 36, 107, 108, 109, 110, 111, 44, 45, 389, 390, 391, 392, 136, 137, 138, 139, 140, 141, 142, 143, 144, 145, 146, 147, 70, 71, 72, 73, 148, 149, 150, 151, 43, 152, 14, 153, 393, 394, 395, 396, 21, 22, 23, 24, 25, 26, 27, 28, 29, 30, 31, 32, 33, 34, 35, 37, 38, 39, 40, 41, 42, 46, 47, 48, 49, 50, 51, 52, 53, 397, 398, 399, 400, 198, 199, 200, 201, 122, 123, 62, 63, 64, 65, 401, 411, 412, 413, 414, 418, 419, 420, 421, 422, 423, 424, 425, 426, 427, 415, 416, 417] (by rfl) (by decide +kernel)
set_option maxRecDepth 20000 in
theorem gL_acts_X4_publish : GoodIn wsL_acts (wsV RL 93 RX4 yX4_publish wsX4_publish) := goodIn_app (goodIn_of _ (by decide +kernel)) ggL_acts_X4_publish
set_option maxRecDepth 20000 in
theorem ggL_acts_X4_scale : GoodIn wsL_acts wsX4_scale := goodIn_r _ [405, 17, 406, 16, 232, 105, 106, 36, 107, 108, 109, 110, 111, 44, 45, 18, 19, 14, 20, 21, 22, 23, 24, 25, 26, 27, 28, 29, 30, 31, 32, 33, 34, 35, 37, 38, 39, 40, 41, 42, 43, 46, 47, 48, 49, 50, 51, 52, 53, 407, 408, 409, 410, 122, 123, 62, 63, 64, 65, 411, 412, 413, 414, 418, 419, 420, 421, 422, 423, 424, 425, 426, 427, 415, 416, 417] (by rfl) (by decide +kernel)
set_option maxRecDepth 20000 in
theorem gL_acts_X4_scale : GoodIn wsL_acts (wsV RL 97 RX4 yX4_scale wsX4_scale) := goodIn_app (goodIn_of _ (by decide +kernel)) ggL_acts_X4_scale
set_option maxRecDepth 20000 in
theorem ggL_block_L_edge : GoodIn wsL_block wsL_edge := goodIn_r _ [4] (by rfl) (by decide +kernel)
set_option maxRecDepth 20000 in
theorem gL_block_L_edge : GoodIn wsL_block (va_wsS RL 31 yL_edge wsL_edge) := goodIn_app (goodIn_of _ (by decide +kernel)) ggL_block_L_edge
set_option maxRecDepth 20000 in
theorem ggL_block_L_other : GoodIn wsL_block wsL_other := goodIn_r _ [7] (by rfl) (by decide +kernel)
set_option maxRecDepth 20000 in
theorem gL_block_L_other : GoodIn wsL_block (va_wsS RL 23 yL_other wsL_other) := goodIn_app (goodIn_of _ (by decide +kernel)) ggL_block_L_other
set_option maxRecDepth 20000 in
theorem ggL_areEdges_L_edge : GoodIn wsL_areEdges wsL_edge := goodIn_r _ [4] (by rfl) (by decide +kernel)
set_option maxRecDepth 20000 in
theorem gL_areEdges_L_edge : GoodIn wsL_areEdges (va_wsS RL 31 yL_edge wsL_edge) := goodIn_app (goodIn_of _ (by decide +kernel)) ggL_areEdges_L_edge
set_option maxRecDepth 20000 in
theorem ggL_areEdges_L_means : GoodIn wsL_areEdges wsL_means := goodIn_r _ [7, 8, 9, 3, 10, 11, 12, 13] (by rfl) (by decide +kernel)
set_option maxRecDepth 20000 in
theorem gL_areEdges_L_means : GoodIn wsL_areEdges (va_wsS RL 19 yL_means wsL_means) := goodIn_app (goodIn_of _ (by decide +kernel)) ggL_areEdges_L_means
set_option maxRecDepth 20000 in
theorem ggL_areEdges_L_other : GoodIn wsL_areEdges wsL_other := goodIn_r _ [16] (by rfl) (by decide +kernel)
set_option maxRecDepth 20000 in
theorem gL_areEdges_L_other : GoodIn wsL_areEdges (va_wsS RL 23 yL_other wsL_other) := goodIn_app (goodIn_of _ (by decide +kernel)) ggL_areEdges_L_other
set_option maxRecDepth 20000 in
theorem ggL_areEdges_L_reason : GoodIn wsL_areEdges wsL_reason := goodIn_r _ [19, 5, 6, 3, 7, 8, 9, 10, 11, 12, 13, 14, 15, 16] (by rfl) (by decide +kernel)
set_option maxRecDepth 20000 in
theorem gL_areEdges_L_reason : GoodIn wsL_areEdges (va_wsS RL 27 yL_reason wsL_reason) := goodIn_app (goodIn_of _ (by decide +kernel)) ggL_areEdges_L_reason
set_option maxRecDepth 20000 in
theorem ggL_areEdges_X4_quarrel : GoodIn wsL_areEdges wsX4_quarrel := goodIn_r _ [24, 25, 26, 27, 28, 29, 30, 31, 32, 33, 34, 35, 36, 37, 38, 39, 40, 41, 42, 23, 43, 44, 45, 46, 47, 48, 49, 50, 51, 52, 53, 54, 55, 56, 57, 58, 59, 60, 61, 62, 63, 64, 65, 66, 67, 68, 69, 70, 71, 72, 73, 74, 75, 76, 77, 78, 79, 80, 81, 82, 83, 84, 239, 240, 241, 242, 243, 244, 245, 246, 247, 248, 249, 250, 251, 252] (by rfl) (by decide +kernel)
set_option maxRecDepth 20000 in
theorem gL_areEdges_X4_quarrel : GoodIn wsL_areEdges (wsV RL 100 RX4 yX4_quarrel wsX4_quarrel) := goodIn_app (goodIn_of _ (by decide +kernel)) ggL_areEdges_X4_quarrel
set_option maxRecDepth 20000 in
theorem ggL_areEdges_X4_edge : GoodIn wsL_areEdges wsX4_edge := goodIn_r _ [88, 25, 26, 27, 28, 29, 30, 31, 32, 33, 34, 35, 36, 37, 38, 39, 40, 80, 53, 54, 55, 83, 72, 73, 74, 52, 81, 57, 58, 59, 89, 90, 91, 92, 93, 69, 23, 70, 94, 95, 96, 97, 48, 49, 50, 51, 56, 60, 61, 62, 63, 64, 65, 66, 67, 68, 71, 75, 76, 77, 78, 98, 99, 100, 101, 102, 103, 104, 105, 106, 107, 108, 109, 110, 111, 112, 113, 114, 115, 116, 117, 118, 119, 120, 121, 122, 123, 124, 125, 239, 240, 241, 242, 243, 244, 245, 246, 247, 248, 249, 250, 251, 252] (by rfl) (by decide +kernel)
set_option maxRecDepth 20000 in
theorem gL_areEdges_X4_edge : GoodIn wsL_areEdges (wsV RL 103 RX4 yX4_edge wsX4_edge) := goodIn_app (goodIn_of _ (by decide +kernel)) ggL_areEdges_X4_edge
set_option maxRecDepth 20000 in
theorem ggL_areEdges_X4_count : GoodIn wsL_areEdges wsX4_count := goodIn_r _ [129, 25, 130, 131, 132, 133, 134, 135, 29, 136, 35, 137, 138, 139, 140, 36, 141, 142, 143, 144, 145, 32, 33, 34, 37, 38, 39, 40, 146, 147, 148, 149, 31, 150, 90, 91, 92, 93, 69, 23, 70, 151, 152, 153, 154, 155, 95, 96, 97, 48, 49, 50, 51, 52, 53, 54, 55, 56, 57, 58, 59, 60, 61, 62, 63, 64, 65, 66, 67, 68, 71, 72, 73, 74, 75, 76, 77, 78, 156, 157, 158, 159, 160, 161, 162, 163, 164, 165, 166, 167, 168, 169, 170, 171, 172, 173, 174, 175, 176, 177, 178, 179, 180, 181, 182, 183, 184, 185, 186, 187, 188, 189, 190, 191, 192, 193, 194, 195, 196, 197, 198, 199, 200, 201, 202, 203, 204, 205, 206, 207, 208, 209, 210, 211, 212, 213, 214, 215, 216, 217, 107, 108, 109, 110, 111, 112, 113, 114, 115, 116, 117, 118, 119, 120, 121, 122, 123, 124, 125, 218, 219, 220, 221, 222, 223, 224, 225, 226, 227, 228, 229, 230, 231, 232, 233, 234, 235, 236, 237, 238, 239, 240, 241, 242, 243, 244, 245, 246, 247, 248, 249, 250, 251, 252, 253, 254, 255, 256, 257, 258] (by rfl) (by decide +kernel)
set_option maxRecDepth 20000 in
theorem gL_areEdges_X4_count : GoodIn wsL_areEdges (wsV RL 83 RX4 yX4_count wsX4_count) := goodIn_app (goodIn_of _ (by decide +kernel)) ggL_areEdges_X4_count
set_option maxRecDepth 20000 in
theorem ggL_isSo_X4_count : GoodIn wsL_isSo wsX4_count := goodIn_r _ [5, 6, 7, 8, 9, 10, 11, 12, 13, 14, 15, 16, 17, 18, 19, 20, 21, 22, 23, 24, 25, 26, 27, 28, 29, 30, 31, 32, 33, 34, 35, 36, 37, 38, 39, 40, 41, 42, 43, 4, 44, 45, 46, 47, 48, 49, 50, 51, 52, 53, 54, 55, 56, 57, 58, 59, 60, 61, 62, 63, 64, 65, 66, 67, 68, 69, 70, 71, 72, 73, 74, 75, 76, 77, 78, 79, 80, 81, 82, 83, 84, 85, 86, 87, 88, 89, 90, 91, 92, 93, 94, 95, 96, 97, 98, 99, 100, 101, 102, 103, 104, 105, 106, 107, 108, 109, 110, 111, 112, 113, 114, 115, 116, 117, 118, 119, 120, 121, 122, 123, 124, 125, 126, 127, 128, 129, 130, 131, 132, 133, 134, 135, 136, 137, 138, 139, 140, 141, 142, 143, 144, 145, 146, 147, 148, 149, 150, 151, 152, 153, 154, 155, 156, 157, 158, 159, 160, 161, 162, 163, 164, 165, 166, 167, 168, 169, 170, 171, 172, 173, 174, 175, 176, 177, 178, 179, 180, 181, 182, 183, 314, 315, 316, 317, 318, 319, 320, 321, 322, 323, 324, 325, 326, 327, 328, 329, 330, 331, 332, 333] (by rfl) (by decide +kernel)
set_option maxRecDepth 20000 in
theorem gL_isSo_X4_count : GoodIn wsL_isSo (wsV RL 83 RX4 yX4_count wsX4_count) := goodIn_app (goodIn_of _ (by decide +kernel)) ggL_isSo_X4_count
set_option maxRecDepth 20000 in
theorem ggL_isSo_L_edgeAt : GoodIn wsL_isSo wsL_edgeAt := goodIn_r _ [187, 188, 189, 186, 190, 191, 192, 193] (by rfl) (by decide +kernel)
set_option maxRecDepth 20000 in
theorem gL_isSo_L_edgeAt : GoodIn wsL_isSo (va_wsS RL 89 yL_edgeAt wsL_edgeAt) := goodIn_app (goodIn_of _ (by decide +kernel)) ggL_isSo_L_edgeAt
set_option maxRecDepth 20000 in
theorem ggL_isSo_X4_edgeAt : GoodIn wsL_isSo wsX4_edgeAt := goodIn_r _ [197, 6, 198, 199, 200, 13, 201, 116, 22, 23, 24, 15, 20, 202, 203, 4, 204, 205, 206, 207, 208, 209, 210, 211, 212, 213, 214, 215, 216, 29, 30, 31, 32, 314, 315, 316, 317, 318, 319, 320, 321, 322, 323, 324, 325, 326, 327] (by rfl) (by decide +kernel)
set_option maxRecDepth 20000 in
theorem gL_isSo_X4_edgeAt : GoodIn wsL_isSo (wsV RL 105 RX4 yX4_edgeAt wsX4_edgeAt) := goodIn_app (goodIn_of _ (by decide +kernel)) ggL_isSo_X4_edgeAt
set_option maxRecDepth 20000 in
theorem ggL_isSo_L_digit : GoodIn wsL_isSo wsL_digit := goodIn_r _ [219, 220, 221, 186, 222] (by rfl) (by decide +kernel)
set_option maxRecDepth 20000 in
theorem gL_isSo_L_digit : GoodIn wsL_isSo (va_wsS RL 15 yL_digit wsL_digit) := goodIn_app (goodIn_of _ (by decide +kernel)) ggL_isSo_L_digit
set_option maxRecDepth 20000 in
theorem ggL_isSo_X4_sign : GoodIn wsL_isSo wsX4_sign := goodIn_r _ [226, 6, 227, 228, 229, 13, 230, 231, 199, 200, 201, 116, 22, 23, 24, 15, 20, 203, 4, 204, 232, 233, 234, 235, 69, 71, 72, 73, 43, 44, 314, 315, 316, 317, 318, 319, 320, 321, 322, 323, 324, 325, 326, 327] (by rfl) (by decide +kernel)
set_option maxRecDepth 20000 in
theorem gL_isSo_X4_sign : GoodIn wsL_isSo (wsV RL 107 RX4 yX4_sign wsX4_sign) := goodIn_app (goodIn_of _ (by decide +kernel)) ggL_isSo_X4_sign
set_option maxRecDepth 20000 in
theorem ggL_isSo_X4_meaning : GoodIn wsL_isSo wsX4_meaning := goodIn_r _ [239, 6, 198, 199, 200, 13, 201, 116, 22, 23, 24, 15, 20, 240, 241, 4, 242, 202, 203, 204, 243, 244, 245, 246, 70, 43, 44, 314, 315, 316, 317, 318, 319, 320, 321, 322, 323, 324, 325, 326, 327] (by rfl) (by decide +kernel)
set_option maxRecDepth 20000 in
theorem gL_isSo_X4_meaning : GoodIn wsL_isSo (wsV RL 110 RX4 yX4_meaning wsX4_meaning) := goodIn_app (goodIn_of _ (by decide +kernel)) ggL_isSo_X4_meaning
set_option maxRecDepth 20000 in
theorem ggL_isSo_L_block : GoodIn wsL_isSo wsL_block := goodIn_r _ [249, 188, 189, 186, 190, 191, 192, 193] (by rfl) (by decide +kernel)
set_option maxRecDepth 20000 in
theorem gL_isSo_L_block : GoodIn wsL_isSo (va_wsS RL 113 yL_block wsL_block) := goodIn_app (goodIn_of _ (by decide +kernel)) ggL_isSo_L_block
set_option maxRecDepth 20000 in
theorem ggL_isSo_X4_sheet : GoodIn wsL_isSo wsX4_sheet := goodIn_r _ [253, 6, 7, 198, 199, 200, 13, 201, 116, 22, 23, 24, 15, 20, 254, 210, 211, 212, 255, 214, 215, 216, 256, 257, 258, 259, 260, 206, 207, 208, 209, 213, 29, 30, 31, 32, 261, 262, 263, 264, 38, 39, 40, 41, 42, 43, 4, 44, 265, 135, 136, 137, 138, 266, 118, 119, 120, 121, 122, 123, 124, 125, 267, 268, 131, 132, 133, 117, 134, 269, 159, 160, 161, 162, 270, 271, 272, 273, 274, 233, 234, 235, 69, 71, 72, 73, 86, 87, 88, 89, 90, 91, 92, 93, 94, 95, 96, 97, 98, 99, 26, 27, 28, 100, 101, 102, 58, 59, 60, 103, 104, 105, 106, 107, 75, 76, 77, 57, 108, 109, 110, 111, 275, 314, 315, 316, 317, 318, 319, 320, 321, 322, 323, 324, 325, 326, 327, 328] (by rfl) (by decide +kernel)
set_option maxRecDepth 20000 in
theorem gL_isSo_X4_sheet : GoodIn wsL_isSo (wsV RL 116 RX4 yX4_sheet wsX4_sheet) := goodIn_app (goodIn_of _ (by decide +kernel)) ggL_isSo_X4_sheet
set_option maxRecDepth 20000 in
theorem ggL_isSo_L_areEdges : GoodIn wsL_isSo wsL_areEdges := goodIn_r _ [278, 188, 189, 186, 190, 279, 280, 281, 217, 218, 219, 220, 221, 222, 191, 192, 193, 282, 283, 284, 285, 286, 287, 4, 288, 6, 289, 290, 291, 13, 292, 37, 26, 27, 28, 15, 20, 29, 30, 31, 32, 202, 203, 204, 293, 294, 295, 296, 53, 54, 55, 56, 57, 58, 59, 60, 61, 62, 63, 64, 65, 66, 67, 68, 69, 70, 71, 72, 73, 43, 44, 74, 75, 76, 77, 78, 79, 80, 81, 297, 298, 299, 300, 301, 302, 303, 304, 305, 306, 307, 39, 40, 41, 42, 308, 50, 51, 52, 309, 310, 311, 312, 274, 233, 234, 235, 313, 144, 145, 146, 147, 148, 149, 150, 151, 152, 153, 154, 155, 156, 157, 158, 159, 160, 161, 162, 1, 2, 3, 5, 7, 8, 9, 10, 11, 12, 14, 16, 17, 18, 19, 21, 22, 23, 24, 25, 33, 34, 35, 36, 38, 45, 46, 47, 48, 49, 82, 83, 84, 85, 86, 87, 88, 89, 90, 91, 92, 93, 94, 95, 96, 97, 98, 99, 100, 101, 102, 103, 104, 105, 106, 107, 108, 109, 110, 111, 112, 113, 114, 115, 116, 117, 118, 119, 120, 121, 122, 123, 124, 125, 126, 127, 128, 129, 130, 131, 132, 133, 134, 135, 136, 137, 138, 139, 140, 141, 142, 143, 163, 164, 165, 166, 167, 168, 169, 170, 171, 172, 173, 174, 175, 176, 177, 178, 179, 180, 181, 182, 183, 314, 315, 316, 317, 318, 319, 320, 321, 322, 323, 324, 325, 326, 327, 328, 329, 330, 331, 332, 333] (by rfl) (by decide +kernel)
set_option maxRecDepth 20000 in
theorem gL_isSo_L_areEdges : GoodIn wsL_isSo (va_wsS RL 119 yL_areEdges wsL_areEdges) := goodIn_app (goodIn_of _ (by decide +kernel)) ggL_isSo_L_areEdges
set_option maxRecDepth 20000 in
theorem ggL_law_X4_init : GoodIn wsL_law wsX4_init := goodIn_r _ [7, 8, 9, 10, 11, 12, 13, 14, 15, 16, 17, 18, 19, 20, 21, 22, 23, 24, 25, 26, 27, 28, 29, 30, 3, 31, 32, 33, 34, 35, 36, 37, 38, 39, 40, 41, 42, 43, 44, 45, 46, 47, 48, 49, 50, 51, 52, 53, 54, 55, 56, 57, 58, 59, 60, 61, 62, 63, 64, 65, 66, 67, 518, 519, 520, 521, 522, 523, 524, 525, 526, 527, 514, 515, 516, 517, 528, 529, 530, 531, 532, 533] (by rfl) (by decide +kernel)
set_option maxRecDepth 20000 in
theorem gL_law_X4_init : GoodIn wsL_law (wsX4_init) := ggL_law_X4_init
set_option maxRecDepth 20000 in
theorem ggL_law_L_begins : GoodIn wsL_law wsL_begins := goodIn_r _ [71, 72, 73, 74, 70, 75] (by rfl) (by decide +kernel)
set_option maxRecDepth 20000 in
theorem gL_law_L_begins : GoodIn wsL_law (va_wsS RL 54 yL_begins wsL_begins) := goodIn_app (goodIn_of _ (by decide +kernel)) ggL_law_L_begins
set_option maxRecDepth 20000 in
theorem ggL_law_L_isSo : GoodIn wsL_law wsL_isSo := goodIn_r _ [78, 79, 80, 81, 2, 82, 14, 22, 18, 26, 83, 84, 85, 13, 86, 43, 87, 88, 89, 90, 44, 91, 92, 93, 94, 95, 96, 97, 98, 99, 100, 101, 102, 103, 104, 105, 106, 107, 108, 109, 110, 111, 36, 112, 113, 114, 115, 116, 117, 118, 119, 120, 121, 122, 123, 124, 125, 126, 127, 128, 129, 130, 131, 132, 133, 134, 135, 136, 137, 31, 32, 138, 139, 140, 141, 142, 143, 144, 145, 146, 147, 148, 149, 150, 151, 152, 153, 154, 155, 21, 156, 61, 157, 158, 159, 160, 161, 162, 163, 164, 165, 166, 167, 168, 169, 170, 171, 172, 173, 174, 175, 176, 177, 178, 179, 180, 181, 182, 183, 184, 185, 186, 187, 188, 189, 34, 190, 191, 192, 193, 194, 195, 196, 197, 198, 199, 200, 201, 33, 202, 203, 204, 205, 206, 207, 208, 209, 38, 210, 211, 212, 213, 214, 215, 216, 217, 218, 219, 220, 221, 222, 223, 35, 224, 225, 226, 17, 227, 56, 228, 229, 230, 25, 231, 67, 232, 233, 234, 235, 37, 236, 237, 238, 239, 240, 241, 70, 242, 243, 244, 245, 246, 247, 248, 249, 250, 251, 252, 253, 254, 255, 256, 257, 258, 259, 260, 261, 262, 263, 264, 265, 266, 267, 268, 269, 270, 271, 272, 273, 274, 73, 74, 75, 275, 276, 277, 278, 279, 280, 281, 282, 283, 284, 285, 286, 287, 288, 289, 290, 291, 292, 293, 294, 295, 296, 297, 298, 299, 300, 301, 302, 303, 304, 305, 306, 307, 308, 309, 310, 311, 312, 313, 314, 315, 316, 317, 318, 319, 320, 321, 322, 323, 324, 325, 326, 327, 328, 329, 330, 331, 332, 333, 334, 335, 336, 337, 338, 339, 340, 341, 342, 343, 344, 345, 346, 347, 348, 349, 350, 351, 352, 353, 354, 355, 356, 357, 358, 359, 360, 361, 362, 363, 364, 365, 514, 515, 516, 517, 518, 519, 520, 521, 522, 523, 524, 525, 526, 527, 531, 528, 529, 530, 532, 533] (by rfl) (by decide +kernel)
set_option maxRecDepth 20000 in
theorem gL_law_L_isSo : GoodIn wsL_law (va_wsS RL 124 yL_isSo wsL_isSo) := goodIn_app (goodIn_of _ (by decide +kernel)) ggL_law_L_isSo
set_option maxRecDepth 20000 in
theorem ggL_law_L_cell : GoodIn wsL_law wsL_cell := goodIn_r _ [368, 369] (by rfl) (by decide +kernel)
set_option maxRecDepth 20000 in
theorem gL_law_L_cell : GoodIn wsL_law (va_wsS RL 128 yL_cell wsL_cell) := goodIn_app (goodIn_of _ (by decide +kernel)) ggL_law_L_cell
set_option maxRecDepth 20000 in
theorem ggL_law_L_low : GoodIn wsL_law wsL_low := goodIn_r _ [372, 373] (by rfl) (by decide +kernel)
set_option maxRecDepth 20000 in
theorem gL_law_L_low : GoodIn wsL_law (va_wsS RL 45 yL_low wsL_low) := goodIn_app (goodIn_of _ (by decide +kernel)) ggL_law_L_low
set_option maxRecDepth 20000 in
theorem ggL_law_L_acts : GoodIn wsL_law wsL_acts := goodIn_r _ [376, 377, 378, 370, 371, 70, 372, 373, 243, 244, 245, 379, 380, 381, 2, 382, 18, 14, 257, 258, 259, 383, 384, 385, 17, 386, 56, 387, 388, 389, 390, 55, 54, 391, 392, 393, 13, 394, 31, 32, 33, 34, 35, 36, 43, 44, 37, 38, 395, 396, 397, 398, 399, 400, 401, 40, 41, 42, 45, 46, 47, 48, 402, 403, 404, 405, 95, 96, 97, 98, 99, 100, 101, 102, 68, 69, 71, 72, 73, 74, 75, 406, 407, 408, 409, 410, 411, 412, 413, 414, 415, 416, 417, 272, 273, 274, 418, 419, 420, 421, 279, 280, 281, 282, 283, 254, 255, 256, 181, 92, 93, 94, 292, 293, 294, 422, 423, 424, 425, 138, 139, 140, 426, 427, 428, 429, 430, 431, 232, 233, 234, 235, 432, 433, 434, 435, 312, 261, 262, 263, 264, 265, 266, 267, 268, 269, 270, 271, 108, 109, 110, 111, 112, 113, 118, 119, 120, 121, 122, 123, 124, 125, 126, 127, 128, 129, 130, 131, 132, 133, 134, 135, 136, 137, 141, 142, 143, 144, 145, 146, 147, 148, 436, 437, 438, 439, 440, 441, 442, 443, 444, 445, 446, 447, 448, 449, 450, 451, 198, 199, 200, 201, 452, 453, 454, 455, 456, 457, 458, 459, 460, 334, 335, 336, 331, 332, 333, 246, 247, 248, 461, 462, 463, 464, 284, 285, 286, 287, 465, 466, 467, 468, 253, 469, 470, 471, 472, 473, 474, 475, 476, 341, 342, 343, 344, 107, 360, 477, 478, 479, 480, 481, 22, 359, 153, 154, 155, 21, 156, 61, 157, 158, 159, 160, 161, 162, 163, 164, 165, 166, 167, 168, 169, 170, 171, 172, 173, 174, 175, 176, 79, 80, 81, 82, 26, 83, 84, 85, 86, 87, 88, 89, 90, 91, 103, 104, 105, 106, 114, 115, 116, 117, 149, 150, 151, 152, 177, 178, 179, 180, 182, 183, 184, 185, 186, 187, 188, 189, 190, 191, 192, 193, 194, 195, 196, 197, 202, 203, 204, 205, 206, 207, 208, 209, 210, 211, 212, 213, 214, 215, 216, 217, 218, 219, 220, 221, 222, 223, 224, 225, 226, 227, 228, 229, 230, 25, 231, 67, 236, 237, 238, 239, 482, 483, 484, 485, 350, 353, 486, 487, 488, 489, 490, 491, 492, 493, 494, 296, 297, 298, 495, 496, 240, 241, 242, 497, 498, 499, 500, 313, 314, 315, 316, 308, 309, 310, 311, 501, 502, 503, 504, 317, 505, 506, 507, 508, 509, 510, 511, 512, 513, 514, 515, 516, 517, 528, 529, 530, 518, 519, 520, 521, 522, 523, 524, 525, 526, 527, 531, 532, 533] (by rfl) (by decide +kernel)
set_option maxRecDepth 20000 in
theorem gL_law_L_acts : GoodIn wsL_law (va_wsS RL 131 yL_acts wsL_acts) := goodIn_app (goodIn_of _ (by decide +kernel)) ggL_law_L_acts
set_option maxRecDepth 20000 in
theorem ggL_law_X4_count : GoodIn wsL_law wsX4_count := goodIn_r _ [82, 14, 22, 18, 26, 83, 84, 85, 13, 86, 43, 87, 88, 89, 90, 44, 91, 92, 93, 94, 95, 96, 97, 98, 99, 100, 101, 102, 103, 104, 105, 106, 107, 108, 109, 110, 111, 36, 112, 2, 113, 114, 115, 116, 117, 118, 119, 120, 121, 122, 123, 124, 125, 126, 127, 128, 129, 130, 131, 132, 133, 134, 135, 136, 137, 31, 32, 138, 139, 140, 141, 142, 143, 144, 145, 146, 147, 148, 149, 150, 151, 152, 153, 154, 155, 21, 156, 61, 157, 158, 159, 160, 161, 162, 163, 164, 165, 166, 167, 168, 169, 170, 171, 172, 173, 174, 175, 176, 177, 178, 179, 180, 181, 182, 183, 184, 185, 186, 187, 188, 189, 34, 190, 191, 192, 193, 194, 195, 196, 197, 198, 199, 200, 201, 33, 202, 203, 204, 205, 206, 207, 208, 209, 38, 210, 211, 212, 213, 214, 215, 216, 217, 218, 219, 220, 221, 222, 223, 35, 224, 225, 226, 17, 227, 56, 228, 229, 230, 25, 231, 67, 232, 233, 234, 235, 37, 236, 237, 238, 239, 514, 515, 516, 517, 518, 519, 520, 521, 522, 523, 524, 525, 526, 527, 531, 528, 529, 530, 532, 533] (by rfl) (by decide +kernel)
set_option maxRecDepth 20000 in
theorem gL_law_X4_count : GoodIn wsL_law (wsV RL 83 RX4 yX4_count wsX4_count) := goodIn_app (goodIn_of _ (by decide +kernel)) ggL_law_X4_count
set_option maxRecDepth 20000 in
theorem ggL_law_X4_meaning : GoodIn wsL_law wsX4_meaning := goodIn_r _ [291, 14, 253, 254, 255, 13, 256, 181, 92, 93, 94, 43, 44, 292, 293, 2, 294, 257, 258, 259, 295, 296, 297, 298, 32, 112, 113, 514, 515, 516, 517, 518, 519, 520, 521, 522, 523, 524, 525, 526, 527] (by rfl) (by decide +kernel)
set_option maxRecDepth 20000 in
theorem gL_law_X4_meaning : GoodIn wsL_law (wsV RL 110 RX4 yX4_meaning wsX4_meaning) := goodIn_app (goodIn_of _ (by decide +kernel)) ggL_law_X4_meaning
end
