/-! the good words of the tables, and where each stands -/
def AW : List Cond := lw_tbl.filter goodWord
theorem AW_of {w : Cond} (h : w ∈ lw_tbl) (g : goodWord w = true) : w ∈ AW := List.mem_filter.mpr ⟨h, g⟩
theorem AW_in {w : Cond} (h : w ∈ AW) : w ∈ lw_tbl := (List.mem_filter.mp h).1
theorem AW_good {w : Cond} (h : w ∈ AW) : goodWord w = true := (List.mem_filter.mp h).2
theorem AW_at {w : Cond} (i : Nat) (h : (match lw_tbl[i]? with | some v => decide (v = w) && goodWord v | none => false) = true) : w ∈ AW := by
  cases hv : lw_tbl[i]? with
  | none => rw [hv] at h; cases h
  | some v =>
    rw [hv] at h
    simp only [Bool.and_eq_true, decide_eq_true_eq] at h
    obtain ⟨rfl, g⟩ := h
    exact AW_of (List.mem_of_getElem? hv) g
theorem AW_t1 {w : Cond} (j : Nat) (h : tables_1_1[j]? = some w) (g : goodWord w = true) : w ∈ AW := AW_of (List.mem_append_right _ (show w ∈ tables_1 from (fun (h : w ∈ tables_1_1) => List.mem_append_left _ h) (List.mem_of_getElem? h))) g
theorem AW_t2 {w : Cond} (j : Nat) (h : tables_1_2[j]? = some w) (g : goodWord w = true) : w ∈ AW := AW_of (List.mem_append_right _ (show w ∈ tables_1 from (fun (h : w ∈ tables_1_2) => List.mem_append_right _ (List.mem_append_left _ h)) (List.mem_of_getElem? h))) g
theorem AW_t3 {w : Cond} (j : Nat) (h : tables_1_3[j]? = some w) (g : goodWord w = true) : w ∈ AW := AW_of (List.mem_append_right _ (show w ∈ tables_1 from (fun (h : w ∈ tables_1_3) => List.mem_append_right _ (List.mem_append_right _ (List.mem_append_left _ h))) (List.mem_of_getElem? h))) g
theorem AW_t4 {w : Cond} (j : Nat) (h : tables_1_4[j]? = some w) (g : goodWord w = true) : w ∈ AW := AW_of (List.mem_append_right _ (show w ∈ tables_1 from (fun (h : w ∈ tables_1_4) => List.mem_append_right _ (List.mem_append_right _ (List.mem_append_right _ (List.mem_append_left _ h)))) (List.mem_of_getElem? h))) g
theorem AW_t5 {w : Cond} (j : Nat) (h : tables_1_5[j]? = some w) (g : goodWord w = true) : w ∈ AW := AW_of (List.mem_append_right _ (show w ∈ tables_1 from (fun (h : w ∈ tables_1_5) => List.mem_append_right _ (List.mem_append_right _ (List.mem_append_right _ (List.mem_append_right _ (List.mem_append_left _ h))))) (List.mem_of_getElem? h))) g
theorem AW_t6 {w : Cond} (j : Nat) (h : tables_1_6[j]? = some w) (g : goodWord w = true) : w ∈ AW := AW_of (List.mem_append_right _ (show w ∈ tables_1 from (fun (h : w ∈ tables_1_6) => List.mem_append_right _ (List.mem_append_right _ (List.mem_append_right _ (List.mem_append_right _ (List.mem_append_right _ (List.mem_append_left _ h)))))) (List.mem_of_getElem? h))) g
theorem AW_t7 {w : Cond} (j : Nat) (h : tables_1_7[j]? = some w) (g : goodWord w = true) : w ∈ AW := AW_of (List.mem_append_right _ (show w ∈ tables_1 from (fun (h : w ∈ tables_1_7) => List.mem_append_right _ (List.mem_append_right _ (List.mem_append_right _ (List.mem_append_right _ (List.mem_append_right _ (List.mem_append_right _ (List.mem_append_left _ h))))))) (List.mem_of_getElem? h))) g
theorem AW_t8 {w : Cond} (j : Nat) (h : tables_1_8[j]? = some w) (g : goodWord w = true) : w ∈ AW := AW_of (List.mem_append_right _ (show w ∈ tables_1 from (fun (h : w ∈ tables_1_8) => List.mem_append_right _ (List.mem_append_right _ (List.mem_append_right _ (List.mem_append_right _ (List.mem_append_right _ (List.mem_append_right _ (List.mem_append_right _ (h)))))))) (List.mem_of_getElem? h))) g
theorem m_0 : (.selects "WindWords" ⟨"WindWords", "refuse", "(II)I"⟩ ⟨"WindWords", "refuse", "(II)I"⟩ : Cond) ∈ AW := AW_at 0 (by decide +kernel)
theorem m_1 : (.selects "WindWords" ⟨"WindWords", "understood", "(IZ)Z"⟩ ⟨"WindWords", "understood", "(IZ)Z"⟩ : Cond) ∈ AW := AW_at 1 (by decide +kernel)
theorem m_2 : (.selects "WindWords$Tape" ⟨"WindWords$Tape", "take", "(II)I"⟩ ⟨"WindWords$Tape", "take", "(II)I"⟩ : Cond) ∈ AW := AW_at 2 (by decide +kernel)
theorem m_3 : (.selects "WindWords$Tape" ⟨"WindWords$Tape", "wordCode", "(II)I"⟩ ⟨"WindWords$Tape", "wordCode", "(II)I"⟩ : Cond) ∈ AW := AW_at 3 (by decide +kernel)
theorem m_4 : (.selects "WindWords$Tape" ⟨"WindWords$Tape", "isWord", "(IILjava/lang/String;)Z"⟩ ⟨"WindWords$Tape", "isWord", "(IILjava/lang/String;)Z"⟩ : Cond) ∈ AW := AW_at 4 (by decide +kernel)
theorem m_5 : (.selects "WindWords$Grammar" ⟨"WindWords$Grammar", "takesSort", "(LWindWords$Tape;LWindWords$Rules;)Z"⟩ ⟨"WindWords$Grammar", "takesSort", "(LWindWords$Tape;LWindWords$Rules;)Z"⟩ : Cond) ∈ AW := AW_at 5 (by decide +kernel)
theorem m_6 : (.selects "WindWords$Grammar" ⟨"WindWords$Grammar", "numberUpTo", "(LWindWords$Tape;I)I"⟩ ⟨"WindWords$Grammar", "numberUpTo", "(LWindWords$Tape;I)I"⟩ : Cond) ∈ AW := AW_at 6 (by decide +kernel)
theorem m_7 : (.selects "WindWords$Grammar" ⟨"WindWords$Grammar", "takes", "(LWindWords$Tape;I)Z"⟩ ⟨"WindWords$Grammar", "takes", "(LWindWords$Tape;I)Z"⟩ : Cond) ∈ AW := AW_at 7 (by decide +kernel)
theorem m_8 : (.selects "WindWords$Grammar" ⟨"WindWords$Grammar", "takesCondition", "(LWindWords$Tape;LWindWords$Rules;)Z"⟩ ⟨"WindWords$Grammar", "takesCondition", "(LWindWords$Tape;LWindWords$Rules;)Z"⟩ : Cond) ∈ AW := AW_at 8 (by decide +kernel)
theorem m_9 : (.selects "WindWords$Grammar" ⟨"WindWords$Grammar", "takesAny", "(LWindWords$Tape;LWindWords$Rules;I)Z"⟩ ⟨"WindWords$Grammar", "takesAny", "(LWindWords$Tape;LWindWords$Rules;I)Z"⟩ : Cond) ∈ AW := AW_at 9 (by decide +kernel)
theorem m_10 : (.selects "WindWords$Grammar" ⟨"WindWords$Grammar", "takesAll", "(LWindWords$Tape;LWindWords$Rules;I)Z"⟩ ⟨"WindWords$Grammar", "takesAll", "(LWindWords$Tape;LWindWords$Rules;I)Z"⟩ : Cond) ∈ AW := AW_at 10 (by decide +kernel)
theorem m_11 : (.selects "WindWords$Grammar" ⟨"WindWords$Grammar", "takesOne", "(LWindWords$Tape;LWindWords$Rules;I)Z"⟩ ⟨"WindWords$Grammar", "takesOne", "(LWindWords$Tape;LWindWords$Rules;I)Z"⟩ : Cond) ∈ AW := AW_at 11 (by decide +kernel)
theorem m_12 : (.selects "WindWords$Grammar" ⟨"WindWords$Grammar", "takesComparison", "(LWindWords$Tape;LWindWords$Rules;)Z"⟩ ⟨"WindWords$Grammar", "takesComparison", "(LWindWords$Tape;LWindWords$Rules;)Z"⟩ : Cond) ∈ AW := AW_at 12 (by decide +kernel)
theorem m_13 : (.selects "WindWords$Grammar" ⟨"WindWords$Grammar", "takesHabit", "(LWindWords$Tape;LWindWords$Rules;)Z"⟩ ⟨"WindWords$Grammar", "takesHabit", "(LWindWords$Tape;LWindWords$Rules;)Z"⟩ : Cond) ∈ AW := AW_at 13 (by decide +kernel)
theorem m_14 : (.selects "WindWords$Grammar" ⟨"WindWords$Grammar", "takesWrite", "(LWindWords$Tape;LWindWords$Rules;)Z"⟩ ⟨"WindWords$Grammar", "takesWrite", "(LWindWords$Tape;LWindWords$Rules;)Z"⟩ : Cond) ∈ AW := AW_at 14 (by decide +kernel)
theorem m_15 : (.selects "WindWords" ⟨"WindWords", "isCopied", "(LWindWords$Reading;)Z"⟩ ⟨"WindWords", "isCopied", "(LWindWords$Reading;)Z"⟩ : Cond) ∈ AW := AW_at 15 (by decide +kernel)
theorem m_16 : (.selects "WindWords$Fleet" ⟨"WindWords$Fleet", "beside", "(LWindWords$Reading;I)LWindWords$Reading;"⟩ ⟨"WindWords$Fleet", "beside", "(LWindWords$Reading;I)LWindWords$Reading;"⟩ : Cond) ∈ AW := AW_at 16 (by decide +kernel)
theorem m_17 : (.selects "WindWords$Scales" ⟨"WindWords$Scales", "rulesOf", "(I)LWindWords$Rules;"⟩ ⟨"WindWords$Scales", "rulesOf", "(I)LWindWords$Rules;"⟩ : Cond) ∈ AW := AW_at 17 (by decide +kernel)
theorem m_18 : (.selects "WindWords$Scales" ⟨"WindWords$Scales", "ask", "(II)V"⟩ ⟨"WindWords$Scales", "ask", "(II)V"⟩ : Cond) ∈ AW := AW_at 18 (by decide +kernel)
theorem m_19 : (.selects "WindWords" ⟨"WindWords", "written", "(LWindWords$Ship;II)I"⟩ ⟨"WindWords", "written", "(LWindWords$Ship;II)I"⟩ : Cond) ∈ AW := AW_at 19 (by decide +kernel)
theorem m_20 : (.selects "WindWords$Scales" ⟨"WindWords$Scales", "tellTurned", "(I)V"⟩ ⟨"WindWords$Scales", "tellTurned", "(I)V"⟩ : Cond) ∈ AW := AW_at 20 (by decide +kernel)
theorem m_21 : (.selects "WindWords$Leans" ⟨"WindWords$Leans", "hear", "(LWindWords$Reading;LWindWords$Reading;LWindWords$Fleet;)V"⟩ ⟨"WindWords$Leans", "hear", "(LWindWords$Reading;LWindWords$Reading;LWindWords$Fleet;)V"⟩ : Cond) ∈ AW := AW_at 21 (by decide +kernel)
theorem m_22 : (.selects "WindWords$Leans" ⟨"WindWords$Leans", "hold", "(IIII)V"⟩ ⟨"WindWords$Leans", "hold", "(IIII)V"⟩ : Cond) ∈ AW := AW_at 22 (by decide +kernel)
theorem m_23 : (.selects "WindWords$Leans" ⟨"WindWords$Leans", "hearCup", "(LWindWords$Reading;LWindWords$Reading;LWindWords$Fleet;LWindWords$Scales;)V"⟩ ⟨"WindWords$Leans", "hearCup", "(LWindWords$Reading;LWindWords$Reading;LWindWords$Fleet;LWindWords$Scales;)V"⟩ : Cond) ∈ AW := AW_at 23 (by decide +kernel)
theorem m_24 : (.selects "WindWords$Leans" ⟨"WindWords$Leans", "closes", "()Z"⟩ ⟨"WindWords$Leans", "closes", "()Z"⟩ : Cond) ∈ AW := AW_at 24 (by decide +kernel)
theorem m_25 : (.selects "WindWords$Leans" ⟨"WindWords$Leans", "join", "(III)V"⟩ ⟨"WindWords$Leans", "join", "(III)V"⟩ : Cond) ∈ AW := AW_at 25 (by decide +kernel)
theorem m_26 : (.selects "WindWords" ⟨"WindWords", "timesWritten", "(III)I"⟩ ⟨"WindWords", "timesWritten", "(III)I"⟩ : Cond) ∈ AW := AW_at 26 (by decide +kernel)
theorem m_27 : (.selects "WindWords$Winds" ⟨"WindWords$Winds", "keep", "(LWindWords$Reading;LWindWords$Scales;LWindWords$Leans;)V"⟩ ⟨"WindWords$Winds", "keep", "(LWindWords$Reading;LWindWords$Scales;LWindWords$Leans;)V"⟩ : Cond) ∈ AW := AW_at 27 (by decide +kernel)
theorem m_28 : (.selects "WindWords" ⟨"WindWords", "gatherLags", "()V"⟩ ⟨"WindWords", "gatherLags", "()V"⟩ : Cond) ∈ AW := AW_at 28 (by decide +kernel)
theorem m_29 : (.selects "WindWords" ⟨"WindWords", "gatherLagsOf", "(LWindWords$Reading;)V"⟩ ⟨"WindWords", "gatherLagsOf", "(LWindWords$Reading;)V"⟩ : Cond) ∈ AW := AW_at 29 (by decide +kernel)
theorem m_30 : (.selects "WindWords" ⟨"WindWords", "bestLag", "()I"⟩ ⟨"WindWords", "bestLag", "()I"⟩ : Cond) ∈ AW := AW_at 30 (by decide +kernel)
theorem m_31 : (.selects "WindWords" ⟨"WindWords", "firstBeside", "(LWindWords$Reading;)LWindWords$Reading;"⟩ ⟨"WindWords", "firstBeside", "(LWindWords$Reading;)LWindWords$Reading;"⟩ : Cond) ∈ AW := AW_at 31 (by decide +kernel)
theorem m_32 : (.selects "WindWords" ⟨"WindWords", "leadOf", "(II)I"⟩ ⟨"WindWords", "leadOf", "(II)I"⟩ : Cond) ∈ AW := AW_at 32 (by decide +kernel)
theorem m_33 : (.selects "WindWords" ⟨"WindWords", "waysLeading", "(III)I"⟩ ⟨"WindWords", "waysLeading", "(III)I"⟩ : Cond) ∈ AW := AW_at 33 (by decide +kernel)
theorem m_34 : (.selects "WindWords" ⟨"WindWords", "unlikeness", "(I)I"⟩ ⟨"WindWords", "unlikeness", "(I)I"⟩ : Cond) ∈ AW := AW_at 34 (by decide +kernel)
theorem m_35 : (.selects "WindWords$Storm" ⟨"WindWords$Storm", "allowed", "(ILWindWords$Fleet;)J"⟩ ⟨"WindWords$Storm", "allowed", "(ILWindWords$Fleet;)J"⟩ : Cond) ∈ AW := AW_at 35 (by decide +kernel)
theorem m_36 : (.selects "WindWords$Storm" ⟨"WindWords$Storm", "around", "(I)J"⟩ ⟨"WindWords$Storm", "around", "(I)J"⟩ : Cond) ∈ AW := AW_at 36 (by decide +kernel)
theorem m_37 : (.selects "WindWords" ⟨"WindWords", "statementsOfHabits", "()I"⟩ ⟨"WindWords", "statementsOfHabits", "()I"⟩ : Cond) ∈ AW := AW_at 37 (by decide +kernel)
theorem m_38 : (.selects "WindWordsModel" ⟨"WindWordsModel", "refuse", "(I)I"⟩ ⟨"WindWordsModel", "refuse", "(I)I"⟩ : Cond) ∈ AW := AW_at 38 (by decide +kernel)
theorem m_39 : (.selects "WindWordsModel" ⟨"WindWordsModel", "isOfficer", "(I)Z"⟩ ⟨"WindWordsModel", "isOfficer", "(I)Z"⟩ : Cond) ∈ AW := AW_at 39 (by decide +kernel)
theorem m_40 : (.selects "WindWordsModel" ⟨"WindWordsModel", "isShip", "(I)Z"⟩ ⟨"WindWordsModel", "isShip", "(I)Z"⟩ : Cond) ∈ AW := AW_at 40 (by decide +kernel)
theorem m_41 : (.selects "WindWordsModel" ⟨"WindWordsModel", "readingOf", "(II)I"⟩ ⟨"WindWordsModel", "readingOf", "(II)I"⟩ : Cond) ∈ AW := AW_at 41 (by decide +kernel)
theorem m_42 : (.selects "WindWordsModel" ⟨"WindWordsModel", "reads", "(IIZ)Z"⟩ ⟨"WindWordsModel", "reads", "(IIZ)Z"⟩ : Cond) ∈ AW := AW_at 42 (by decide +kernel)
theorem m_43 : (.selects "WindWordsModel" ⟨"WindWordsModel", "next", "()V"⟩ ⟨"WindWordsModel", "next", "()V"⟩ : Cond) ∈ AW := AW_at 43 (by decide +kernel)
theorem m_44 : (.selects "WindWordsModel" ⟨"WindWordsModel", "here", "()I"⟩ ⟨"WindWordsModel", "here", "()I"⟩ : Cond) ∈ AW := AW_at 44 (by decide +kernel)
theorem m_45 : (.selects "WindWordsModel" ⟨"WindWordsModel", "errs", "()V"⟩ ⟨"WindWordsModel", "errs", "()V"⟩ : Cond) ∈ AW := AW_at 45 (by decide +kernel)
theorem m_46 : (.selects "WindWordsModel" ⟨"WindWordsModel", "readScale", "(I)V"⟩ ⟨"WindWordsModel", "readScale", "(I)V"⟩ : Cond) ∈ AW := AW_at 46 (by decide +kernel)
theorem m_47 : (.selects "WindWordsModel" ⟨"WindWordsModel", "sortHere", "()I"⟩ ⟨"WindWordsModel", "sortHere", "()I"⟩ : Cond) ∈ AW := AW_at 47 (by decide +kernel)
theorem m_48 : (.selects "WindWordsModel" ⟨"WindWordsModel", "is", "(J)Z"⟩ ⟨"WindWordsModel", "is", "(J)Z"⟩ : Cond) ∈ AW := AW_at 48 (by decide +kernel)
theorem m_49 : (.selects "WindWordsModel" ⟨"WindWordsModel", "numeral", "(I)I"⟩ ⟨"WindWordsModel", "numeral", "(I)I"⟩ : Cond) ∈ AW := AW_at 49 (by decide +kernel)
theorem m_50 : (.selects "WindWordsModel" ⟨"WindWordsModel", "mustBe", "(J)V"⟩ ⟨"WindWordsModel", "mustBe", "(J)V"⟩ : Cond) ∈ AW := AW_at 50 (by decide +kernel)
theorem m_51 : (.selects "WindWordsModel" ⟨"WindWordsModel", "ending", "(IZZ)V"⟩ ⟨"WindWordsModel", "ending", "(IZZ)V"⟩ : Cond) ∈ AW := AW_at 51 (by decide +kernel)
theorem m_52 : (.selects "WindWordsModel" ⟨"WindWordsModel", "condition", "(Z)V"⟩ ⟨"WindWordsModel", "condition", "(Z)V"⟩ : Cond) ∈ AW := AW_at 52 (by decide +kernel)
theorem m_53 : (.selects "WindWordsModel" ⟨"WindWordsModel", "opens", "(I)V"⟩ ⟨"WindWordsModel", "opens", "(I)V"⟩ : Cond) ∈ AW := AW_at 53 (by decide +kernel)
theorem m_54 : (.selects "WindWordsModel" ⟨"WindWordsModel", "test", "(Z)V"⟩ ⟨"WindWordsModel", "test", "(Z)V"⟩ : Cond) ∈ AW := AW_at 54 (by decide +kernel)
theorem m_55 : (.selects "WindWordsModel" ⟨"WindWordsModel", "asked", "(Z)I"⟩ ⟨"WindWordsModel", "asked", "(Z)I"⟩ : Cond) ∈ AW := AW_at 55 (by decide +kernel)
theorem m_56 : (.selects "WindWordsModel" ⟨"WindWordsModel", "adds", "(II)V"⟩ ⟨"WindWordsModel", "adds", "(II)V"⟩ : Cond) ∈ AW := AW_at 56 (by decide +kernel)
theorem m_57 : (.selects "WindWordsModel" ⟨"WindWordsModel", "comes", "(II)V"⟩ ⟨"WindWordsModel", "comes", "(II)V"⟩ : Cond) ∈ AW := AW_at 57 (by decide +kernel)
theorem m_58 : (.selects "WindWordsModel" ⟨"WindWordsModel", "joins", "(I)V"⟩ ⟨"WindWordsModel", "joins", "(I)V"⟩ : Cond) ∈ AW := AW_at 58 (by decide +kernel)
theorem m_59 : (.selects "WindWordsModel" ⟨"WindWordsModel", "closes", "()V"⟩ ⟨"WindWordsModel", "closes", "()V"⟩ : Cond) ∈ AW := AW_at 59 (by decide +kernel)
theorem m_60 : (.selects "WindWordsModel" ⟨"WindWordsModel", "readHabit", "(I)V"⟩ ⟨"WindWordsModel", "readHabit", "(I)V"⟩ : Cond) ∈ AW := AW_at 60 (by decide +kernel)
theorem m_61 : (.selects "WindWordsModel" ⟨"WindWordsModel", "readIn", "(IIIII)I"⟩ ⟨"WindWordsModel", "readIn", "(IIIII)I"⟩ : Cond) ∈ AW := AW_at 61 (by decide +kernel)
theorem m_62 : (.selects "WindWordsModel" ⟨"WindWordsModel", "scaleFor", "(I)I"⟩ ⟨"WindWordsModel", "scaleFor", "(I)I"⟩ : Cond) ∈ AW := AW_at 62 (by decide +kernel)
theorem m_63 : (.selects "WindWordsModel" ⟨"WindWordsModel", "readsBy", "(IIIIII)I"⟩ ⟨"WindWordsModel", "readsBy", "(IIIIII)I"⟩ : Cond) ∈ AW := AW_at 63 (by decide +kernel)
theorem m_64 : (.selects "WindWordsModel" ⟨"WindWordsModel", "holds", "(II)Z"⟩ ⟨"WindWordsModel", "holds", "(II)Z"⟩ : Cond) ∈ AW := AW_at 64 (by decide +kernel)
theorem m_65 : (.selects "WindWordsModel" ⟨"WindWordsModel", "officerOf", "(II)I"⟩ ⟨"WindWordsModel", "officerOf", "(II)I"⟩ : Cond) ∈ AW := AW_at 65 (by decide +kernel)
theorem m_66 : (.selects "WindWordsModel" ⟨"WindWordsModel", "writes", "(IIIII)I"⟩ ⟨"WindWordsModel", "writes", "(IIIII)I"⟩ : Cond) ∈ AW := AW_at 66 (by decide +kernel)
theorem m_67 : (.selects "WindWordsModel" ⟨"WindWordsModel", "columns", "(IIII)V"⟩ ⟨"WindWordsModel", "columns", "(IIII)V"⟩ : Cond) ∈ AW := AW_at 67 (by decide +kernel)
theorem m_68 : (.selects "WindWordsModel" ⟨"WindWordsModel", "turns", "(IIIII)Z"⟩ ⟨"WindWordsModel", "turns", "(IIIII)Z"⟩ : Cond) ∈ AW := AW_at 68 (by decide +kernel)
theorem m_69 : (.selects "WindWordsModel" ⟨"WindWordsModel", "findLeans", "()V"⟩ ⟨"WindWordsModel", "findLeans", "()V"⟩ : Cond) ∈ AW := AW_at 69 (by decide +kernel)
theorem m_70 : (.selects "WindWordsModel" ⟨"WindWordsModel", "isMan", "(I)Z"⟩ ⟨"WindWordsModel", "isMan", "(I)Z"⟩ : Cond) ∈ AW := AW_at 70 (by decide +kernel)
theorem m_71 : (.selects "WindWordsModel" ⟨"WindWordsModel", "isTrustedOne", "(I)Z"⟩ ⟨"WindWordsModel", "isTrustedOne", "(I)Z"⟩ : Cond) ∈ AW := AW_at 71 (by decide +kernel)
theorem m_72 : (.selects "WindWordsModel" ⟨"WindWordsModel", "writer", "(I)I"⟩ ⟨"WindWordsModel", "writer", "(I)I"⟩ : Cond) ∈ AW := AW_at 72 (by decide +kernel)
theorem m_73 : (.selects "WindWordsModel" ⟨"WindWordsModel", "areInSight", "(II)Z"⟩ ⟨"WindWordsModel", "areInSight", "(II)Z"⟩ : Cond) ∈ AW := AW_at 73 (by decide +kernel)
theorem m_74 : (.selects "WindWordsModel" ⟨"WindWordsModel", "bindsBy", "(II)V"⟩ ⟨"WindWordsModel", "bindsBy", "(II)V"⟩ : Cond) ∈ AW := AW_at 74 (by decide +kernel)
theorem m_75 : (.selects "WindWordsModel" ⟨"WindWordsModel", "binds", "(III)V"⟩ ⟨"WindWordsModel", "binds", "(III)V"⟩ : Cond) ∈ AW := AW_at 75 (by decide +kernel)
theorem m_76 : (.selects "WindWordsModel" ⟨"WindWordsModel", "yearOf", "(I)I"⟩ ⟨"WindWordsModel", "yearOf", "(I)I"⟩ : Cond) ∈ AW := AW_at 76 (by decide +kernel)
theorem m_77 : (.selects "WindWordsModel" ⟨"WindWordsModel", "leanLeast", "(I)I"⟩ ⟨"WindWordsModel", "leanLeast", "(I)I"⟩ : Cond) ∈ AW := AW_at 77 (by decide +kernel)
theorem m_78 : (.selects "WindWordsModel" ⟨"WindWordsModel", "leanMost", "(I)I"⟩ ⟨"WindWordsModel", "leanMost", "(I)I"⟩ : Cond) ∈ AW := AW_at 78 (by decide +kernel)
theorem m_79 : (.selects "WindWordsModel" ⟨"WindWordsModel", "withNumber", "(II)I"⟩ ⟨"WindWordsModel", "withNumber", "(II)I"⟩ : Cond) ∈ AW := AW_at 79 (by decide +kernel)
theorem m_80 : (.selects "WindWordsModel" ⟨"WindWordsModel", "sumsOf", "(I)V"⟩ ⟨"WindWordsModel", "sumsOf", "(I)V"⟩ : Cond) ∈ AW := AW_at 80 (by decide +kernel)
theorem m_81 : (.selects "WindWordsModel" ⟨"WindWordsModel", "windOf", "(I)V"⟩ ⟨"WindWordsModel", "windOf", "(I)V"⟩ : Cond) ∈ AW := AW_at 81 (by decide +kernel)
theorem m_82 : (.selects "WindWordsModel" ⟨"WindWordsModel", "ordersWith", "(II)J"⟩ ⟨"WindWordsModel", "ordersWith", "(II)J"⟩ : Cond) ∈ AW := AW_at 82 (by decide +kernel)
theorem m_83 : (.selects "WindWordsModel" ⟨"WindWordsModel", "lateBy", "(I)V"⟩ ⟨"WindWordsModel", "lateBy", "(I)V"⟩ : Cond) ∈ AW := AW_at 83 (by decide +kernel)
theorem m_84 : (.selects "WindWordsModel" ⟨"WindWordsModel", "isCopied", "(I)Z"⟩ ⟨"WindWordsModel", "isCopied", "(I)Z"⟩ : Cond) ∈ AW := AW_at 84 (by decide +kernel)
theorem m_85 : (.selects "WindWordsModel" ⟨"WindWordsModel", "followed", "(I)I"⟩ ⟨"WindWordsModel", "followed", "(I)I"⟩ : Cond) ∈ AW := AW_at 85 (by decide +kernel)
theorem m_86 : (.selects "WindWordsModel" ⟨"WindWordsModel", "beside", "(I)I"⟩ ⟨"WindWordsModel", "beside", "(I)I"⟩ : Cond) ∈ AW := AW_at 86 (by decide +kernel)
theorem m_87 : (.selects "WindWordsModel" ⟨"WindWordsModel", "unlikeBy", "(I)I"⟩ ⟨"WindWordsModel", "unlikeBy", "(I)I"⟩ : Cond) ∈ AW := AW_at 87 (by decide +kernel)
theorem m_88 : (.selects "WindWordsModel" ⟨"WindWordsModel", "findWays", "()V"⟩ ⟨"WindWordsModel", "findWays", "()V"⟩ : Cond) ∈ AW := AW_at 88 (by decide +kernel)
theorem m_89 : (.selects "WindWordsModel" ⟨"WindWordsModel", "agrees", "(II)Z"⟩ ⟨"WindWordsModel", "agrees", "(II)Z"⟩ : Cond) ∈ AW := AW_at 89 (by decide +kernel)
theorem m_90 : (.selects "WindWordsModel" ⟨"WindWordsModel", "isNear", "(II)Z"⟩ ⟨"WindWordsModel", "isNear", "(II)Z"⟩ : Cond) ∈ AW := AW_at 90 (by decide +kernel)
theorem m_91 : (.selects "WindWordsModel" ⟨"WindWordsModel", "cellsOn", "(I)I"⟩ ⟨"WindWordsModel", "cellsOn", "(I)I"⟩ : Cond) ∈ AW := AW_at 91 (by decide +kernel)
theorem m_92 : (.selects "WindWordsModel" ⟨"WindWordsModel", "trusted", "()I"⟩ ⟨"WindWordsModel", "trusted", "()I"⟩ : Cond) ∈ AW := AW_at 92 (by decide +kernel)
theorem m_93 : (.selects "WindWordsModel" ⟨"WindWordsModel", "habitsInAll", "()I"⟩ ⟨"WindWordsModel", "habitsInAll", "()I"⟩ : Cond) ∈ AW := AW_at 93 (by decide +kernel)
theorem m_94 : (.initialized "WindWordsLaw" : Cond) ∈ AW := AW_t1 0 rfl rfl
theorem m_95 : (.initialized "WindWords" : Cond) ∈ AW := AW_t1 1 rfl rfl
theorem m_96 : (.initialized "WindWords$Fleet" : Cond) ∈ AW := AW_t1 2 rfl rfl
theorem m_97 : (.initialized "WindWords$Scales" : Cond) ∈ AW := AW_t1 3 rfl rfl
theorem m_98 : (.initialized "WindWords$Leans" : Cond) ∈ AW := AW_t1 4 rfl rfl
theorem m_99 : (.initialized "WindWords$Winds" : Cond) ∈ AW := AW_t1 5 rfl rfl
theorem m_100 : (.initialized "WindWords$Storm" : Cond) ∈ AW := AW_t1 6 rfl rfl
theorem m_101 : (.initialized "WindWords$Tape" : Cond) ∈ AW := AW_t1 7 rfl rfl
theorem m_102 : (.initialized "WindWords$Grammar" : Cond) ∈ AW := AW_t1 8 rfl rfl
theorem m_103 : (.initialized "WindWords$Rules" : Cond) ∈ AW := AW_t1 9 rfl rfl
theorem m_104 : (.initialized "WindWordsModel" : Cond) ∈ AW := AW_t1 10 rfl rfl
theorem m_105 : (.initialized "WindWords$Ship" : Cond) ∈ AW := AW_t1 11 rfl rfl
theorem m_106 : (.initialized "java/lang/Math" : Cond) ∈ AW := AW_t1 12 rfl rfl
theorem m_107 : (.initialized "WindWords$Reading" : Cond) ∈ AW := AW_t1 13 rfl rfl
theorem m_108 : (.initialized "java/lang/String" : Cond) ∈ AW := AW_t1 14 rfl rfl
theorem m_109 : (.initialized "java/lang/StringLatin1" : Cond) ∈ AW := AW_t1 15 rfl rfl
theorem m_110 : (.initialized "jdk/internal/util/Preconditions" : Cond) ∈ AW := AW_t1 16 rfl rfl
theorem m_111 : (.initialized "java/lang/StringUTF16" : Cond) ∈ AW := AW_t1 17 rfl rfl
theorem m_112 : (.initialized "java/lang/Character" : Cond) ∈ AW := AW_t1 18 rfl rfl
theorem m_113 : (.initialized "java/lang/Integer" : Cond) ∈ AW := AW_t1 19 rfl rfl
theorem m_114 : (.initialized "java/lang/Long" : Cond) ∈ AW := AW_t1 20 rfl rfl
theorem m_115 : (.initialized "WindWords$Image" : Cond) ∈ AW := AW_t1 21 rfl rfl
theorem m_116 : (.classLink "WindWordsLaw" (7 : Nat) "WindWords" : Cond) ∈ AW := AW_t1 22 rfl rfl
theorem m_117 : (.instantiable "WindWords" (19 : Nat) : Cond) ∈ AW := AW_t1 23 rfl rfl
theorem m_118 : (.methodLink "WindWordsLaw" (9 : Nat) ({ cls := "WindWords", name := "<init>", desc := "()V" } : Jvm.MethodName) : Cond) ∈ AW := AW_t1 24 rfl rfl
theorem m_119 : (.instanceMethod ({ cls := "WindWords", name := "<init>", desc := "()V" } : Jvm.MethodName) : Cond) ∈ AW := AW_t1 25 rfl rfl
theorem m_120 : (.code ({ cls := "WindWords", name := "<init>", desc := "()V" } : Jvm.MethodName) prog_1_method_1_code (1 : Nat) (Option.none : Option FieldType) : Cond) ∈ AW := AW_t1 26 rfl rfl
theorem m_121 : (.methodLink "WindWords" (1 : Nat) ({ cls := "java/lang/Object", name := "<init>", desc := "()V" } : Jvm.MethodName) : Cond) ∈ AW := AW_t1 27 rfl rfl
theorem m_122 : (.instanceMethod ({ cls := "java/lang/Object", name := "<init>", desc := "()V" } : Jvm.MethodName) : Cond) ∈ AW := AW_t1 28 rfl rfl
theorem m_123 : (.code ({ cls := "java/lang/Object", name := "<init>", desc := "()V" } : Jvm.MethodName) object_method_1_code (1 : Nat) (Option.none : Option FieldType) : Cond) ∈ AW := AW_t1 29 rfl rfl
theorem m_124 : (.classLink "WindWords" (7 : Nat) "WindWords$Fleet" : Cond) ∈ AW := AW_t1 30 rfl rfl
theorem m_125 : (.instantiable "WindWords$Fleet" (9 : Nat) : Cond) ∈ AW := AW_t1 31 rfl rfl
theorem m_127 : (.instanceMethod ({ cls := "WindWords$Fleet", name := "<init>", desc := "()V" } : Jvm.MethodName) : Cond) ∈ AW := AW_t1 33 rfl rfl
theorem m_128 : (.code ({ cls := "WindWords$Fleet", name := "<init>", desc := "()V" } : Jvm.MethodName) prog_2_method_1_code (1 : Nat) (Option.none : Option FieldType) : Cond) ∈ AW := AW_t1 34 rfl rfl
theorem m_129 : (.methodLink "WindWords$Fleet" (3 : Nat) ({ cls := "java/lang/Object", name := "<init>", desc := "()V" } : Jvm.MethodName) : Cond) ∈ AW := AW_t1 35 rfl rfl
theorem m_130 : (.classLink "WindWords$Fleet" (9 : Nat) "WindWords$Ship" : Cond) ∈ AW := AW_t1 36 rfl rfl
theorem m_132 : (.classLink "WindWords$Fleet" (17 : Nat) "WindWords$Reading" : Cond) ∈ AW := AW_t1 38 rfl rfl
theorem m_134 : (.fieldLink "WindWords$Fleet" (11 : Nat) "WindWords$Fleet" "shipRow" "[LWindWords$Ship;" : Cond) ∈ AW := AW_t1 40 rfl rfl
theorem m_135 : (.fieldLink "WindWords$Fleet" (19 : Nat) "WindWords$Fleet" "readingRow" "[LWindWords$Reading;" : Cond) ∈ AW := AW_t1 41 rfl rfl
theorem m_136 : (.fieldLink "WindWords$Fleet" (23 : Nat) "WindWords$Fleet" "officers" "I" : Cond) ∈ AW := AW_t1 42 rfl rfl
theorem m_137 : (.fieldLink "WindWords" (104 : Nat) "WindWords$Fleet" "officers" "I" : Cond) ∈ AW := AW_t1 43 rfl rfl
theorem m_138 : (.fieldLink "WindWords$Image" (16 : Nat) "WindWords$Fleet" "distrusted" "I" : Cond) ∈ AW := AW_t1 44 rfl rfl
theorem m_139 : (.fieldLink "WindWords$Fleet" (27 : Nat) "WindWords$Fleet" "distrusted" "I" : Cond) ∈ AW := AW_t1 45 rfl rfl
theorem m_140 : (.fieldLink "WindWords" (370 : Nat) "WindWords$Fleet" "distrusted" "I" : Cond) ∈ AW := AW_t1 46 rfl rfl
theorem m_141 : (.fieldLink "WindWords$Fleet" (30 : Nat) "WindWords$Fleet" "ships" "I" : Cond) ∈ AW := AW_t1 47 rfl rfl
theorem m_142 : (.fieldLink "WindWords$Leans" (26 : Nat) "WindWords$Fleet" "ships" "I" : Cond) ∈ AW := AW_t1 48 rfl rfl
theorem m_143 : (.fieldLink "WindWords" (119 : Nat) "WindWords$Fleet" "ships" "I" : Cond) ∈ AW := AW_t1 49 rfl rfl
theorem m_144 : (.fieldLink "WindWords$Image" (7 : Nat) "WindWords$Fleet" "readings" "I" : Cond) ∈ AW := AW_t1 50 rfl rfl
theorem m_145 : (.fieldLink "WindWords$Fleet" (33 : Nat) "WindWords$Fleet" "readings" "I" : Cond) ∈ AW := AW_t1 51 rfl rfl
theorem m_146 : (.fieldLink "WindWords$Winds" (34 : Nat) "WindWords$Fleet" "readings" "I" : Cond) ∈ AW := AW_t1 52 rfl rfl
theorem m_147 : (.fieldLink "WindWords$Leans" (16 : Nat) "WindWords$Fleet" "readings" "I" : Cond) ∈ AW := AW_t1 53 rfl rfl
theorem m_148 : (.fieldLink "WindWords$Storm" (52 : Nat) "WindWords$Fleet" "readings" "I" : Cond) ∈ AW := AW_t1 54 rfl rfl
theorem m_149 : (.fieldLink "WindWords" (155 : Nat) "WindWords$Fleet" "readings" "I" : Cond) ∈ AW := AW_t1 55 rfl rfl
theorem m_150 : (.fieldLink "WindWords$Fleet" (36 : Nat) "WindWords$Fleet" "signed" "I" : Cond) ∈ AW := AW_t1 56 rfl rfl
theorem m_151 : (.fieldLink "WindWords" (134 : Nat) "WindWords$Fleet" "signed" "I" : Cond) ∈ AW := AW_t1 57 rfl rfl
theorem m_152 : (.fieldLink "WindWords$Image" (20 : Nat) "WindWords$Fleet" "sight" "I" : Cond) ∈ AW := AW_t1 58 rfl rfl
theorem m_153 : (.fieldLink "WindWords$Fleet" (39 : Nat) "WindWords$Fleet" "sight" "I" : Cond) ∈ AW := AW_t1 59 rfl rfl
theorem m_154 : (.fieldLink "WindWords" (145 : Nat) "WindWords$Fleet" "sight" "I" : Cond) ∈ AW := AW_t1 60 rfl rfl
theorem m_155 : (.fieldLink "WindWords$Image" (24 : Nat) "WindWords$Fleet" "error" "I" : Cond) ∈ AW := AW_t1 61 rfl rfl
theorem m_156 : (.fieldLink "WindWords$Fleet" (42 : Nat) "WindWords$Fleet" "error" "I" : Cond) ∈ AW := AW_t1 62 rfl rfl
theorem m_157 : (.fieldLink "WindWords$Leans" (61 : Nat) "WindWords$Fleet" "error" "I" : Cond) ∈ AW := AW_t1 63 rfl rfl
theorem m_158 : (.fieldLink "WindWords" (148 : Nat) "WindWords$Fleet" "error" "I" : Cond) ∈ AW := AW_t1 64 rfl rfl
theorem m_178 : (.classLink "WindWords" (16 : Nat) "WindWords$Scales" : Cond) ∈ AW := AW_t1 84 rfl rfl
theorem m_179 : (.instantiable "WindWords$Scales" (8 : Nat) : Cond) ∈ AW := AW_t1 85 rfl rfl
theorem m_181 : (.instanceMethod ({ cls := "WindWords$Scales", name := "<init>", desc := "()V" } : Jvm.MethodName) : Cond) ∈ AW := AW_t1 87 rfl rfl
theorem m_182 : (.code ({ cls := "WindWords$Scales", name := "<init>", desc := "()V" } : Jvm.MethodName) prog_8_method_1_code (1 : Nat) (Option.none : Option FieldType) : Cond) ∈ AW := AW_t1 88 rfl rfl
theorem m_183 : (.methodLink "WindWords$Scales" (3 : Nat) ({ cls := "java/lang/Object", name := "<init>", desc := "()V" } : Jvm.MethodName) : Cond) ∈ AW := AW_t1 89 rfl rfl
theorem m_184 : (.classLink "WindWords$Scales" (9 : Nat) "WindWords$Rules" : Cond) ∈ AW := AW_t1 90 rfl rfl
theorem m_186 : (.fieldLink "WindWords$Scales" (11 : Nat) "WindWords$Scales" "rules" "[LWindWords$Rules;" : Cond) ∈ AW := AW_t1 92 rfl rfl
theorem m_187 : (.fieldLink "WindWords$Scales" (17 : Nat) "WindWords$Scales" "since" "[I" : Cond) ∈ AW := AW_t1 93 rfl rfl
theorem m_188 : (.fieldLink "WindWords$Scales" (21 : Nat) "WindWords$Scales" "words" "[I" : Cond) ∈ AW := AW_t1 94 rfl rfl
theorem m_189 : (.fieldLink "WindWords$Scales" (24 : Nat) "WindWords$Scales" "from" "[I" : Cond) ∈ AW := AW_t1 95 rfl rfl
theorem m_190 : (.fieldLink "WindWords$Scales" (27 : Nat) "WindWords$Scales" "into" "[I" : Cond) ∈ AW := AW_t1 96 rfl rfl
theorem m_191 : (.fieldLink "WindWords$Scales" (30 : Nat) "WindWords$Scales" "given" "[I" : Cond) ∈ AW := AW_t1 97 rfl rfl
theorem m_192 : (.fieldLink "WindWords$Scales" (33 : Nat) "WindWords$Scales" "turned" "[I" : Cond) ∈ AW := AW_t1 98 rfl rfl
theorem m_193 : (.fieldLink "WindWords" (260 : Nat) "WindWords$Scales" "turned" "[I" : Cond) ∈ AW := AW_t1 99 rfl rfl
theorem m_194 : (.fieldLink "WindWords$Scales" (36 : Nat) "WindWords$Scales" "told" "I" : Cond) ∈ AW := AW_t1 100 rfl rfl
theorem m_195 : (.fieldLink "WindWords" (174 : Nat) "WindWords$Scales" "told" "I" : Cond) ∈ AW := AW_t1 101 rfl rfl
theorem m_213 : (.arrayClass FieldType.int : Cond) ∈ AW := AW_t1 119 rfl rfl
theorem m_214 : (.classLink "WindWords" (23 : Nat) "WindWords$Leans" : Cond) ∈ AW := AW_t1 120 rfl rfl
theorem m_215 : (.instantiable "WindWords$Leans" (1 : Nat) : Cond) ∈ AW := AW_t1 121 rfl rfl
theorem m_217 : (.instanceMethod ({ cls := "WindWords$Leans", name := "<init>", desc := "()V" } : Jvm.MethodName) : Cond) ∈ AW := AW_t1 123 rfl rfl
theorem m_218 : (.code ({ cls := "WindWords$Leans", name := "<init>", desc := "()V" } : Jvm.MethodName) prog_5_method_1_code (1 : Nat) (Option.none : Option FieldType) : Cond) ∈ AW := AW_t1 124 rfl rfl
theorem m_219 : (.methodLink "WindWords$Leans" (3 : Nat) ({ cls := "java/lang/Object", name := "<init>", desc := "()V" } : Jvm.MethodName) : Cond) ∈ AW := AW_t1 125 rfl rfl
theorem m_220 : (.fieldLink "WindWords$Leans" (11 : Nat) "WindWords$Leans" "most" "[I" : Cond) ∈ AW := AW_t1 126 rfl rfl
theorem m_224 : (.classLink "WindWords" (30 : Nat) "WindWords$Winds" : Cond) ∈ AW := AW_t1 130 rfl rfl
theorem m_225 : (.instantiable "WindWords$Winds" (7 : Nat) : Cond) ∈ AW := AW_t1 131 rfl rfl
theorem m_227 : (.instanceMethod ({ cls := "WindWords$Winds", name := "<init>", desc := "()V" } : Jvm.MethodName) : Cond) ∈ AW := AW_t1 133 rfl rfl
theorem m_228 : (.code ({ cls := "WindWords$Winds", name := "<init>", desc := "()V" } : Jvm.MethodName) prog_12_method_1_code (1 : Nat) (Option.none : Option FieldType) : Cond) ∈ AW := AW_t1 134 rfl rfl
theorem m_229 : (.methodLink "WindWords$Winds" (3 : Nat) ({ cls := "java/lang/Object", name := "<init>", desc := "()V" } : Jvm.MethodName) : Cond) ∈ AW := AW_t1 135 rfl rfl
theorem m_230 : (.fieldLink "WindWords$Winds" (9 : Nat) "WindWords$Winds" "row" "[I" : Cond) ∈ AW := AW_t1 136 rfl rfl
theorem m_231 : (.fieldLink "WindWords$Winds" (15 : Nat) "WindWords$Winds" "value" "[I" : Cond) ∈ AW := AW_t1 137 rfl rfl
theorem m_232 : (.fieldLink "WindWords$Winds" (18 : Nat) "WindWords$Winds" "orders" "[I" : Cond) ∈ AW := AW_t1 138 rfl rfl
theorem m_233 : (.fieldLink "WindWords$Winds" (21 : Nat) "WindWords$Winds" "kept" "I" : Cond) ∈ AW := AW_t1 139 rfl rfl
theorem m_234 : (.fieldLink "WindWords" (284 : Nat) "WindWords$Winds" "kept" "I" : Cond) ∈ AW := AW_t1 140 rfl rfl
theorem m_235 : (.fieldLink "WindWords$Winds" (25 : Nat) "WindWords$Winds" "leastSum" "I" : Cond) ∈ AW := AW_t1 141 rfl rfl
theorem m_236 : (.fieldLink "WindWords" (287 : Nat) "WindWords$Winds" "leastSum" "I" : Cond) ∈ AW := AW_t1 142 rfl rfl
theorem m_237 : (.fieldLink "WindWords$Winds" (28 : Nat) "WindWords$Winds" "greatestSum" "I" : Cond) ∈ AW := AW_t1 143 rfl rfl
theorem m_238 : (.fieldLink "WindWords" (290 : Nat) "WindWords$Winds" "greatestSum" "I" : Cond) ∈ AW := AW_t1 144 rfl rfl
theorem m_239 : (.fieldLink "WindWords$Winds" (31 : Nat) "WindWords$Winds" "values" "I" : Cond) ∈ AW := AW_t1 145 rfl rfl
theorem m_240 : (.fieldLink "WindWords" (303 : Nat) "WindWords$Winds" "values" "I" : Cond) ∈ AW := AW_t1 146 rfl rfl
theorem m_256 : (.classLink "WindWords" (37 : Nat) "WindWords$Storm" : Cond) ∈ AW := AW_t1 162 rfl rfl
theorem m_257 : (.instantiable "WindWords$Storm" (6 : Nat) : Cond) ∈ AW := AW_t1 163 rfl rfl
theorem m_259 : (.instanceMethod ({ cls := "WindWords$Storm", name := "<init>", desc := "()V" } : Jvm.MethodName) : Cond) ∈ AW := AW_t1 165 rfl rfl
theorem m_260 : (.code ({ cls := "WindWords$Storm", name := "<init>", desc := "()V" } : Jvm.MethodName) prog_10_method_1_code (1 : Nat) (Option.none : Option FieldType) : Cond) ∈ AW := AW_t1 166 rfl rfl
theorem m_261 : (.methodLink "WindWords$Storm" (3 : Nat) ({ cls := "java/lang/Object", name := "<init>", desc := "()V" } : Jvm.MethodName) : Cond) ∈ AW := AW_t1 167 rfl rfl
theorem m_262 : (.fieldLink "WindWords$Storm" (9 : Nat) "WindWords$Storm" "cells" "[J" : Cond) ∈ AW := AW_t1 168 rfl rfl
theorem m_263 : (.fieldLink "WindWords$Storm" (15 : Nat) "WindWords$Storm" "isTold" "Z" : Cond) ∈ AW := AW_t1 169 rfl rfl
theorem m_264 : (.fieldLink "WindWords$Storm" (19 : Nat) "WindWords$Storm" "first" "I" : Cond) ∈ AW := AW_t1 170 rfl rfl
theorem m_265 : (.fieldLink "WindWords$Storm" (23 : Nat) "WindWords$Storm" "last" "I" : Cond) ∈ AW := AW_t1 171 rfl rfl
theorem m_266 : (.fieldLink "WindWords$Storm" (26 : Nat) "WindWords$Storm" "reach" "I" : Cond) ∈ AW := AW_t1 172 rfl rfl
theorem m_267 : (.fieldLink "WindWords$Storm" (29 : Nat) "WindWords$Storm" "least" "I" : Cond) ∈ AW := AW_t1 173 rfl rfl
theorem m_281 : (.arrayClass FieldType.long : Cond) ∈ AW := AW_t1 187 rfl rfl
theorem m_282 : (.classLink "WindWords" (44 : Nat) "WindWords$Tape" : Cond) ∈ AW := AW_t1 188 rfl rfl
theorem m_283 : (.instantiable "WindWords$Tape" (8 : Nat) : Cond) ∈ AW := AW_t1 189 rfl rfl
theorem m_285 : (.instanceMethod ({ cls := "WindWords$Tape", name := "<init>", desc := "()V" } : Jvm.MethodName) : Cond) ∈ AW := AW_t1 191 rfl rfl
theorem m_286 : (.code ({ cls := "WindWords$Tape", name := "<init>", desc := "()V" } : Jvm.MethodName) prog_11_method_1_code (1 : Nat) (Option.none : Option FieldType) : Cond) ∈ AW := AW_t1 192 rfl rfl
theorem m_287 : (.methodLink "WindWords$Tape" (3 : Nat) ({ cls := "java/lang/Object", name := "<init>", desc := "()V" } : Jvm.MethodName) : Cond) ∈ AW := AW_t1 193 rfl rfl
theorem m_288 : (.fieldLink "WindWords$Tape" (9 : Nat) "WindWords$Tape" "size" "I" : Cond) ∈ AW := AW_t1 194 rfl rfl
theorem m_289 : (.fieldLink "WindWords" (167 : Nat) "WindWords$Tape" "size" "I" : Cond) ∈ AW := AW_t1 195 rfl rfl
theorem m_290 : (.fieldLink "WindWords$Tape" (15 : Nat) "WindWords$Tape" "tokens" "I" : Cond) ∈ AW := AW_t1 196 rfl rfl
theorem m_291 : (.fieldLink "WindWords$Grammar" (24 : Nat) "WindWords$Tape" "tokens" "I" : Cond) ∈ AW := AW_t1 197 rfl rfl
theorem m_292 : (.fieldLink "WindWords$Tape" (18 : Nat) "WindWords$Tape" "bytes" "[I" : Cond) ∈ AW := AW_t1 198 rfl rfl
theorem m_293 : (.fieldLink "WindWords$Tape" (22 : Nat) "WindWords$Tape" "code" "[I" : Cond) ∈ AW := AW_t1 199 rfl rfl
theorem m_295 : (.fieldLink "WindWords$Tape" (25 : Nat) "WindWords$Tape" "place" "[I" : Cond) ∈ AW := AW_t1 201 rfl rfl
theorem m_296 : (.fieldLink "WindWords$Tape" (28 : Nat) "WindWords$Tape" "width" "[I" : Cond) ∈ AW := AW_t1 202 rfl rfl
theorem m_297 : (.fieldLink "WindWords$Tape" (31 : Nat) "WindWords$Tape" "value" "[I" : Cond) ∈ AW := AW_t1 203 rfl rfl
theorem m_299 : (.fieldLink "WindWords$Tape" (34 : Nat) "WindWords$Tape" "textEnd" "I" : Cond) ∈ AW := AW_t1 205 rfl rfl
theorem m_317 : (.classLink "WindWords" (51 : Nat) "WindWords$Grammar" : Cond) ∈ AW := AW_t1 223 rfl rfl
theorem m_318 : (.instantiable "WindWords$Grammar" (2 : Nat) : Cond) ∈ AW := AW_t1 224 rfl rfl
theorem m_320 : (.instanceMethod ({ cls := "WindWords$Grammar", name := "<init>", desc := "()V" } : Jvm.MethodName) : Cond) ∈ AW := AW_t1 226 rfl rfl
theorem m_321 : (.code ({ cls := "WindWords$Grammar", name := "<init>", desc := "()V" } : Jvm.MethodName) prog_3_method_1_code (1 : Nat) (Option.none : Option FieldType) : Cond) ∈ AW := AW_t1 227 rfl rfl
theorem m_322 : (.methodLink "WindWords$Grammar" (3 : Nat) ({ cls := "java/lang/Object", name := "<init>", desc := "()V" } : Jvm.MethodName) : Cond) ∈ AW := AW_t1 228 rfl rfl
theorem m_323 : (.fieldLink "WindWords$Grammar" (9 : Nat) "WindWords$Grammar" "ofScale" "Z" : Cond) ∈ AW := AW_t1 229 rfl rfl
theorem m_324 : (.fieldLink "WindWords$Grammar" (15 : Nat) "WindWords$Grammar" "at" "I" : Cond) ∈ AW := AW_t1 230 rfl rfl
theorem m_330 : (.classLink "WindWords" (58 : Nat) "WindWords$Rules" : Cond) ∈ AW := AW_t1 236 rfl rfl
theorem m_331 : (.classLink "WindWords" (64 : Nat) "WindWords$Image" : Cond) ∈ AW := AW_t1 237 rfl rfl
theorem m_333 : (.instantiable "WindWords$Rules" (7 : Nat) : Cond) ∈ AW := AW_t1 239 rfl rfl
theorem m_335 : (.instanceMethod ({ cls := "WindWords$Rules", name := "<init>", desc := "()V" } : Jvm.MethodName) : Cond) ∈ AW := AW_t2 1 rfl rfl
theorem m_336 : (.code ({ cls := "WindWords$Rules", name := "<init>", desc := "()V" } : Jvm.MethodName) prog_7_method_1_code (1 : Nat) (Option.none : Option FieldType) : Cond) ∈ AW := AW_t2 2 rfl rfl
theorem m_337 : (.methodLink "WindWords$Rules" (5 : Nat) ({ cls := "java/lang/Object", name := "<init>", desc := "()V" } : Jvm.MethodName) : Cond) ∈ AW := AW_t2 3 rfl rfl
theorem m_338 : (.fieldLink "WindWords$Rules" (13 : Nat) "WindWords$Rules" "sort" "[I" : Cond) ∈ AW := AW_t2 4 rfl rfl
theorem m_339 : (.fieldLink "WindWords$Rules" (17 : Nat) "WindWords$Rules" "number" "[I" : Cond) ∈ AW := AW_t2 5 rfl rfl
theorem m_340 : (.fieldLink "WindWords$Rules" (20 : Nat) "WindWords$Rules" "limit" "[I" : Cond) ∈ AW := AW_t2 6 rfl rfl
theorem m_341 : (.fieldLink "WindWords$Rules" (23 : Nat) "WindWords$Rules" "firstStep" "[I" : Cond) ∈ AW := AW_t2 7 rfl rfl
theorem m_342 : (.fieldLink "WindWords$Rules" (26 : Nat) "WindWords$Rules" "steps" "[I" : Cond) ∈ AW := AW_t2 8 rfl rfl
theorem m_343 : (.fieldLink "WindWords$Rules" (29 : Nat) "WindWords$Rules" "statements" "I" : Cond) ∈ AW := AW_t2 9 rfl rfl
theorem m_344 : (.fieldLink "WindWords" (184 : Nat) "WindWords$Rules" "statements" "I" : Cond) ∈ AW := AW_t2 10 rfl rfl
theorem m_345 : (.fieldLink "WindWords$Rules" (33 : Nat) "WindWords$Rules" "stepsTold" "I" : Cond) ∈ AW := AW_t2 11 rfl rfl
theorem m_361 : (.fieldLink "WindWords" (10 : Nat) "WindWords" "fleet" "LWindWords$Fleet;" : Cond) ∈ AW := AW_t2 27 rfl rfl
theorem m_362 : (.fieldLink "WindWords" (19 : Nat) "WindWords" "scales" "LWindWords$Scales;" : Cond) ∈ AW := AW_t2 28 rfl rfl
theorem m_363 : (.fieldLink "WindWords" (26 : Nat) "WindWords" "leans" "LWindWords$Leans;" : Cond) ∈ AW := AW_t2 29 rfl rfl
theorem m_364 : (.fieldLink "WindWords" (33 : Nat) "WindWords" "winds" "LWindWords$Winds;" : Cond) ∈ AW := AW_t2 30 rfl rfl
theorem m_365 : (.fieldLink "WindWords" (40 : Nat) "WindWords" "track" "LWindWords$Storm;" : Cond) ∈ AW := AW_t2 31 rfl rfl
theorem m_366 : (.fieldLink "WindWords" (47 : Nat) "WindWords" "tape" "LWindWords$Tape;" : Cond) ∈ AW := AW_t2 32 rfl rfl
theorem m_367 : (.fieldLink "WindWords" (54 : Nat) "WindWords" "grammar" "LWindWords$Grammar;" : Cond) ∈ AW := AW_t2 33 rfl rfl
theorem m_368 : (.fieldLink "WindWords" (60 : Nat) "WindWords" "habitsOf" "[LWindWords$Rules;" : Cond) ∈ AW := AW_t2 34 rfl rfl
theorem m_369 : (.fieldLink "WindWords" (66 : Nat) "WindWords" "images" "[LWindWords$Image;" : Cond) ∈ AW := AW_t2 35 rfl rfl
theorem m_370 : (.fieldLink "WindWords" (70 : Nat) "WindWords" "refused" "[I" : Cond) ∈ AW := AW_t2 36 rfl rfl
theorem m_371 : (.fieldLink "WindWords" (74 : Nat) "WindWords" "asked" "[I" : Cond) ∈ AW := AW_t2 37 rfl rfl
theorem m_372 : (.fieldLink "WindWords" (77 : Nat) "WindWords" "windRow" "[I" : Cond) ∈ AW := AW_t2 38 rfl rfl
theorem m_373 : (.fieldLink "WindWords" (80 : Nat) "WindWords" "turnedRow" "[I" : Cond) ∈ AW := AW_t2 39 rfl rfl
theorem m_374 : (.fieldLink "WindWords" (83 : Nat) "WindWords" "lagSum" "[I" : Cond) ∈ AW := AW_t2 40 rfl rfl
theorem m_375 : (.fieldLink "WindWords" (86 : Nat) "WindWords" "lagCouples" "[I" : Cond) ∈ AW := AW_t2 41 rfl rfl
theorem m_376 : (.fieldLink "WindWords" (89 : Nat) "WindWords" "wishes" "[I" : Cond) ∈ AW := AW_t2 42 rfl rfl
theorem m_377 : (.fieldLink "WindWords" (93 : Nat) "WindWords" "spare" "LWindWords$Rules;" : Cond) ∈ AW := AW_t2 43 rfl rfl
theorem m_378 : (.fieldLink "WindWords" (97 : Nat) "WindWords" "imagesMade" "I" : Cond) ∈ AW := AW_t2 44 rfl rfl
theorem m_379 : (.fieldLink "WindWords" (101 : Nat) "WindWords" "faultPlace" "I" : Cond) ∈ AW := AW_t2 45 rfl rfl
theorem m_419 : (.methodLink "WindWordsLaw" (13 : Nat) ({ cls := "WindWords", name := "officer", desc := "()I" } : Jvm.MethodName) : Cond) ∈ AW := AW_t2 85 rfl rfl
theorem m_420 : (.instanceMethod ({ cls := "WindWords", name := "officer", desc := "()I" } : Jvm.MethodName) : Cond) ∈ AW := AW_t2 86 rfl rfl
theorem m_421 : (.selects "WindWords" ({ cls := "WindWords", name := "officer", desc := "()I" } : Jvm.MethodName) ({ cls := "WindWords", name := "officer", desc := "()I" } : Jvm.MethodName) : Cond) ∈ AW := AW_t2 87 rfl rfl
theorem m_422 : (.code ({ cls := "WindWords", name := "officer", desc := "()I" } : Jvm.MethodName) prog_1_method_2_code (1 : Nat) (Option.some FieldType.int) : Cond) ∈ AW := AW_t2 88 rfl rfl
theorem m_423 : (.methodLink "WindWords" (107 : Nat) ({ cls := "WindWords", name := "refuse", desc := "(II)I" } : Jvm.MethodName) : Cond) ∈ AW := AW_t2 89 rfl rfl
theorem m_425 : (.instanceMethod ({ cls := "WindWords", name := "refuse", desc := "(II)I" } : Jvm.MethodName) : Cond) ∈ AW := AW_t2 91 rfl rfl
theorem m_426 : (.code ({ cls := "WindWords", name := "refuse", desc := "(II)I" } : Jvm.MethodName) prog_1_method_39_code (3 : Nat) (Option.some FieldType.int) : Cond) ∈ AW := AW_t2 92 rfl rfl
theorem m_427 : (.methodLink "WindWordsLaw" (18 : Nat) ({ cls := "WindWords", name := "ship", desc := "(II)I" } : Jvm.MethodName) : Cond) ∈ AW := AW_t2 93 rfl rfl
theorem m_428 : (.instanceMethod ({ cls := "WindWords", name := "ship", desc := "(II)I" } : Jvm.MethodName) : Cond) ∈ AW := AW_t2 94 rfl rfl
theorem m_429 : (.selects "WindWords" ({ cls := "WindWords", name := "ship", desc := "(II)I" } : Jvm.MethodName) ({ cls := "WindWords", name := "ship", desc := "(II)I" } : Jvm.MethodName) : Cond) ∈ AW := AW_t2 95 rfl rfl
theorem m_430 : (.code ({ cls := "WindWords", name := "ship", desc := "(II)I" } : Jvm.MethodName) prog_1_method_3_code (3 : Nat) (Option.some FieldType.int) : Cond) ∈ AW := AW_t2 96 rfl rfl
theorem m_431 : (.methodLink "WindWords" (111 : Nat) ({ cls := "WindWords", name := "within", desc := "(II)Z" } : Jvm.MethodName) : Cond) ∈ AW := AW_t2 97 rfl rfl
theorem m_432 : (.static ({ cls := "WindWords", name := "within", desc := "(II)Z" } : Jvm.MethodName) : Cond) ∈ AW := AW_t2 98 rfl rfl
theorem m_433 : (.code ({ cls := "WindWords", name := "within", desc := "(II)Z" } : Jvm.MethodName) prog_1_method_34_code (2 : Nat) (Option.some FieldType.boolean) : Cond) ∈ AW := AW_t2 99 rfl rfl
theorem m_434 : (.methodLink "WindWords" (115 : Nat) ({ cls := "WindWords$Fleet", name := "hasOfficer", desc := "(I)Z" } : Jvm.MethodName) : Cond) ∈ AW := AW_t2 100 rfl rfl
theorem m_435 : (.instanceMethod ({ cls := "WindWords$Fleet", name := "hasOfficer", desc := "(I)Z" } : Jvm.MethodName) : Cond) ∈ AW := AW_t2 101 rfl rfl
theorem m_436 : (.selects "WindWords$Fleet" ({ cls := "WindWords$Fleet", name := "hasOfficer", desc := "(I)Z" } : Jvm.MethodName) ({ cls := "WindWords$Fleet", name := "hasOfficer", desc := "(I)Z" } : Jvm.MethodName) : Cond) ∈ AW := AW_t2 102 rfl rfl
theorem m_437 : (.code ({ cls := "WindWords$Fleet", name := "hasOfficer", desc := "(I)Z" } : Jvm.MethodName) prog_2_method_2_code (2 : Nat) (Option.some FieldType.boolean) : Cond) ∈ AW := AW_t2 103 rfl rfl
theorem m_439 : (.methodLink "WindWords" (122 : Nat) ({ cls := "WindWords$Fleet", name := "launch", desc := "(II)I" } : Jvm.MethodName) : Cond) ∈ AW := AW_t2 105 rfl rfl
theorem m_440 : (.instanceMethod ({ cls := "WindWords$Fleet", name := "launch", desc := "(II)I" } : Jvm.MethodName) : Cond) ∈ AW := AW_t2 106 rfl rfl
theorem m_441 : (.selects "WindWords$Fleet" ({ cls := "WindWords$Fleet", name := "launch", desc := "(II)I" } : Jvm.MethodName) ({ cls := "WindWords$Fleet", name := "launch", desc := "(II)I" } : Jvm.MethodName) : Cond) ∈ AW := AW_t2 107 rfl rfl
theorem m_442 : (.code ({ cls := "WindWords$Fleet", name := "launch", desc := "(II)I" } : Jvm.MethodName) prog_2_method_5_code (3 : Nat) (Option.some FieldType.int) : Cond) ∈ AW := AW_t2 108 rfl rfl
theorem m_443 : (.instantiable "WindWords$Ship" (5 : Nat) : Cond) ∈ AW := AW_t2 109 rfl rfl
theorem m_444 : (.methodLink "WindWords$Fleet" (53 : Nat) ({ cls := "WindWords$Ship", name := "<init>", desc := "(III)V" } : Jvm.MethodName) : Cond) ∈ AW := AW_t2 110 rfl rfl
theorem m_445 : (.instanceMethod ({ cls := "WindWords$Ship", name := "<init>", desc := "(III)V" } : Jvm.MethodName) : Cond) ∈ AW := AW_t2 111 rfl rfl
theorem m_446 : (.code ({ cls := "WindWords$Ship", name := "<init>", desc := "(III)V" } : Jvm.MethodName) prog_9_method_1_code (4 : Nat) (Option.none : Option FieldType) : Cond) ∈ AW := AW_t2 112 rfl rfl
theorem m_447 : (.methodLink "WindWords$Ship" (3 : Nat) ({ cls := "java/lang/Object", name := "<init>", desc := "()V" } : Jvm.MethodName) : Cond) ∈ AW := AW_t2 113 rfl rfl
theorem m_448 : (.classLink "WindWords$Ship" (15 : Nat) "WindWords$Reading" : Cond) ∈ AW := AW_t2 114 rfl rfl
theorem m_449 : (.methodLink "WindWords$Ship" (31 : Nat) ({ cls := "WindWords$Ship", name := "signFrom", desc := "(II)V" } : Jvm.MethodName) : Cond) ∈ AW := AW_t2 115 rfl rfl
theorem m_450 : (.instanceMethod ({ cls := "WindWords$Ship", name := "signFrom", desc := "(II)V" } : Jvm.MethodName) : Cond) ∈ AW := AW_t2 116 rfl rfl
theorem m_451 : (.selects "WindWords$Ship" ({ cls := "WindWords$Ship", name := "signFrom", desc := "(II)V" } : Jvm.MethodName) ({ cls := "WindWords$Ship", name := "signFrom", desc := "(II)V" } : Jvm.MethodName) : Cond) ∈ AW := AW_t2 117 rfl rfl
theorem m_452 : (.code ({ cls := "WindWords$Ship", name := "signFrom", desc := "(II)V" } : Jvm.MethodName) prog_9_method_2_code (4 : Nat) (Option.none : Option FieldType) : Cond) ∈ AW := AW_t2 118 rfl rfl
theorem m_453 : (.methodLink "WindWords$Ship" (35 : Nat) ({ cls := "java/lang/Math", name := "max", desc := "(II)I" } : Jvm.MethodName) : Cond) ∈ AW := AW_t2 119 rfl rfl
theorem m_454 : (.static ({ cls := "java/lang/Math", name := "max", desc := "(II)I" } : Jvm.MethodName) : Cond) ∈ AW := AW_t2 120 rfl rfl
theorem m_455 : (.code ({ cls := "java/lang/Math", name := "max", desc := "(II)I" } : Jvm.MethodName) prog_18_method_65_code (2 : Nat) (Option.some FieldType.int) : Cond) ∈ AW := AW_t2 121 rfl rfl
theorem m_456 : (.fieldLink "WindWords$Ship" (25 : Nat) "WindWords$Ship" "place" "I" : Cond) ∈ AW := AW_t2 122 rfl rfl
theorem m_457 : (.fieldLink "WindWords$Fleet" (101 : Nat) "WindWords$Ship" "place" "I" : Cond) ∈ AW := AW_t2 123 rfl rfl
theorem m_458 : (.fieldLink "WindWords" (194 : Nat) "WindWords$Ship" "place" "I" : Cond) ∈ AW := AW_t2 124 rfl rfl
theorem m_459 : (.fieldLink "WindWords$Ship" (28 : Nat) "WindWords$Ship" "rig" "I" : Cond) ∈ AW := AW_t2 125 rfl rfl
theorem m_460 : (.fieldLink "WindWords$Reading" (43 : Nat) "WindWords$Ship" "rig" "I" : Cond) ∈ AW := AW_t2 126 rfl rfl
theorem m_461 : (.fieldLink "WindWords" (231 : Nat) "WindWords$Ship" "rig" "I" : Cond) ∈ AW := AW_t2 127 rfl rfl
theorem m_462 : (.fieldLink "WindWords$Ship" (9 : Nat) "WindWords$Ship" "officers" "[I" : Cond) ∈ AW := AW_t2 128 rfl rfl
theorem m_463 : (.fieldLink "WindWords$Ship" (17 : Nat) "WindWords$Ship" "readings" "[LWindWords$Reading;" : Cond) ∈ AW := AW_t2 129 rfl rfl
theorem m_464 : (.fieldLink "WindWords$Ship" (21 : Nat) "WindWords$Ship" "signedFrom" "I" : Cond) ∈ AW := AW_t2 130 rfl rfl
theorem m_465 : (.fieldLink "WindWords" (129 : Nat) "WindWords$Ship" "signedFrom" "I" : Cond) ∈ AW := AW_t2 131 rfl rfl
theorem m_477 : (.methodLink "WindWordsLaw" (23 : Nat) ({ cls := "WindWords", name := "signs", desc := "(III)I" } : Jvm.MethodName) : Cond) ∈ AW := AW_t2 143 rfl rfl
theorem m_478 : (.instanceMethod ({ cls := "WindWords", name := "signs", desc := "(III)I" } : Jvm.MethodName) : Cond) ∈ AW := AW_t2 144 rfl rfl
theorem m_479 : (.selects "WindWords" ({ cls := "WindWords", name := "signs", desc := "(III)I" } : Jvm.MethodName) ({ cls := "WindWords", name := "signs", desc := "(III)I" } : Jvm.MethodName) : Cond) ∈ AW := AW_t2 145 rfl rfl
theorem m_480 : (.code ({ cls := "WindWords", name := "signs", desc := "(III)I" } : Jvm.MethodName) prog_1_method_4_code (5 : Nat) (Option.some FieldType.int) : Cond) ∈ AW := AW_t2 146 rfl rfl
theorem m_481 : (.methodLink "WindWords" (125 : Nat) ({ cls := "WindWords$Fleet", name := "shipAt", desc := "(I)LWindWords$Ship;" } : Jvm.MethodName) : Cond) ∈ AW := AW_t2 147 rfl rfl
theorem m_482 : (.instanceMethod ({ cls := "WindWords$Fleet", name := "shipAt", desc := "(I)LWindWords$Ship;" } : Jvm.MethodName) : Cond) ∈ AW := AW_t2 148 rfl rfl
theorem m_483 : (.selects "WindWords$Fleet" ({ cls := "WindWords$Fleet", name := "shipAt", desc := "(I)LWindWords$Ship;" } : Jvm.MethodName) ({ cls := "WindWords$Fleet", name := "shipAt", desc := "(I)LWindWords$Ship;" } : Jvm.MethodName) : Cond) ∈ AW := AW_t2 149 rfl rfl
theorem m_484 : (.code ({ cls := "WindWords$Fleet", name := "shipAt", desc := "(I)LWindWords$Ship;" } : Jvm.MethodName) prog_2_method_8_code (2 : Nat) (Option.some (FieldType.object "WindWords$Ship")) : Cond) ∈ AW := AW_t2 150 rfl rfl
theorem m_485 : (.methodLink "WindWords" (137 : Nat) ({ cls := "WindWords$Ship", name := "signFrom", desc := "(II)V" } : Jvm.MethodName) : Cond) ∈ AW := AW_t2 151 rfl rfl
theorem m_486 : (.methodLink "WindWordsLaw" (28 : Nat) ({ cls := "WindWords", name := "trust", desc := "(IZ)Z" } : Jvm.MethodName) : Cond) ∈ AW := AW_t2 152 rfl rfl
theorem m_487 : (.instanceMethod ({ cls := "WindWords", name := "trust", desc := "(IZ)Z" } : Jvm.MethodName) : Cond) ∈ AW := AW_t2 153 rfl rfl
theorem m_488 : (.selects "WindWords" ({ cls := "WindWords", name := "trust", desc := "(IZ)Z" } : Jvm.MethodName) ({ cls := "WindWords", name := "trust", desc := "(IZ)Z" } : Jvm.MethodName) : Cond) ∈ AW := AW_t2 154 rfl rfl
theorem m_489 : (.code ({ cls := "WindWords", name := "trust", desc := "(IZ)Z" } : Jvm.MethodName) prog_1_method_5_code (3 : Nat) (Option.some FieldType.boolean) : Cond) ∈ AW := AW_t2 155 rfl rfl
theorem m_490 : (.methodLink "WindWords" (141 : Nat) ({ cls := "WindWords$Fleet", name := "setTrusted", desc := "(IZ)V" } : Jvm.MethodName) : Cond) ∈ AW := AW_t2 156 rfl rfl
theorem m_491 : (.instanceMethod ({ cls := "WindWords$Fleet", name := "setTrusted", desc := "(IZ)V" } : Jvm.MethodName) : Cond) ∈ AW := AW_t2 157 rfl rfl
theorem m_492 : (.selects "WindWords$Fleet" ({ cls := "WindWords$Fleet", name := "setTrusted", desc := "(IZ)V" } : Jvm.MethodName) ({ cls := "WindWords$Fleet", name := "setTrusted", desc := "(IZ)V" } : Jvm.MethodName) : Cond) ∈ AW := AW_t2 158 rfl rfl
theorem m_493 : (.code ({ cls := "WindWords$Fleet", name := "setTrusted", desc := "(IZ)V" } : Jvm.MethodName) prog_2_method_4_code (3 : Nat) (Option.none : Option FieldType) : Cond) ∈ AW := AW_t2 159 rfl rfl
theorem m_494 : (.methodLink "WindWordsLaw" (33 : Nat) ({ cls := "WindWords", name := "set", desc := "(II)Z" } : Jvm.MethodName) : Cond) ∈ AW := AW_t2 160 rfl rfl
theorem m_495 : (.instanceMethod ({ cls := "WindWords", name := "set", desc := "(II)Z" } : Jvm.MethodName) : Cond) ∈ AW := AW_t2 161 rfl rfl
theorem m_496 : (.selects "WindWords" ({ cls := "WindWords", name := "set", desc := "(II)Z" } : Jvm.MethodName) ({ cls := "WindWords", name := "set", desc := "(II)Z" } : Jvm.MethodName) : Cond) ∈ AW := AW_t2 162 rfl rfl
theorem m_497 : (.code ({ cls := "WindWords", name := "set", desc := "(II)Z" } : Jvm.MethodName) prog_1_method_6_code (3 : Nat) (Option.some FieldType.boolean) : Cond) ∈ AW := AW_t2 163 rfl rfl
theorem m_498 : (.methodLink "WindWordsLaw" (38 : Nat) ({ cls := "WindWords", name := "read", desc := "(IIIII)I" } : Jvm.MethodName) : Cond) ∈ AW := AW_t2 164 rfl rfl
theorem m_499 : (.instanceMethod ({ cls := "WindWords", name := "read", desc := "(IIIII)I" } : Jvm.MethodName) : Cond) ∈ AW := AW_t2 165 rfl rfl
theorem m_500 : (.selects "WindWords" ({ cls := "WindWords", name := "read", desc := "(IIIII)I" } : Jvm.MethodName) ({ cls := "WindWords", name := "read", desc := "(IIIII)I" } : Jvm.MethodName) : Cond) ∈ AW := AW_t2 166 rfl rfl
theorem m_501 : (.code ({ cls := "WindWords", name := "read", desc := "(IIIII)I" } : Jvm.MethodName) prog_1_method_7_code (7 : Nat) (Option.some FieldType.int) : Cond) ∈ AW := AW_t2 167 rfl rfl
theorem m_502 : (.methodLink "WindWords" (151 : Nat) ({ cls := "WindWords$Ship", name := "readingOn", desc := "(I)LWindWords$Reading;" } : Jvm.MethodName) : Cond) ∈ AW := AW_t2 168 rfl rfl
theorem m_503 : (.instanceMethod ({ cls := "WindWords$Ship", name := "readingOn", desc := "(I)LWindWords$Reading;" } : Jvm.MethodName) : Cond) ∈ AW := AW_t2 169 rfl rfl
theorem m_504 : (.selects "WindWords$Ship" ({ cls := "WindWords$Ship", name := "readingOn", desc := "(I)LWindWords$Reading;" } : Jvm.MethodName) ({ cls := "WindWords$Ship", name := "readingOn", desc := "(I)LWindWords$Reading;" } : Jvm.MethodName) : Cond) ∈ AW := AW_t2 170 rfl rfl
theorem m_505 : (.code ({ cls := "WindWords$Ship", name := "readingOn", desc := "(I)LWindWords$Reading;" } : Jvm.MethodName) prog_9_method_4_code (2 : Nat) (Option.some (FieldType.object "WindWords$Reading")) : Cond) ∈ AW := AW_t2 171 rfl rfl
theorem m_507 : (.classLink "WindWords" (158 : Nat) "WindWords$Reading" : Cond) ∈ AW := AW_t2 173 rfl rfl
theorem m_508 : (.instantiable "WindWords$Reading" (8 : Nat) : Cond) ∈ AW := AW_t2 174 rfl rfl
theorem m_509 : (.methodLink "WindWords" (160 : Nat) ({ cls := "WindWords$Reading", name := "<init>", desc := "(LWindWords$Ship;IIII)V" } : Jvm.MethodName) : Cond) ∈ AW := AW_t2 175 rfl rfl
theorem m_510 : (.instanceMethod ({ cls := "WindWords$Reading", name := "<init>", desc := "(LWindWords$Ship;IIII)V" } : Jvm.MethodName) : Cond) ∈ AW := AW_t2 176 rfl rfl
theorem m_511 : (.code ({ cls := "WindWords$Reading", name := "<init>", desc := "(LWindWords$Ship;IIII)V" } : Jvm.MethodName) prog_6_method_1_code (6 : Nat) (Option.none : Option FieldType) : Cond) ∈ AW := AW_t2 177 rfl rfl
theorem m_512 : (.methodLink "WindWords$Reading" (3 : Nat) ({ cls := "java/lang/Object", name := "<init>", desc := "()V" } : Jvm.MethodName) : Cond) ∈ AW := AW_t2 178 rfl rfl
theorem m_513 : (.fieldLink "WindWords$Reading" (15 : Nat) "WindWords$Reading" "ship" "LWindWords$Ship;" : Cond) ∈ AW := AW_t2 179 rfl rfl
theorem m_514 : (.fieldLink "WindWords$Fleet" (59 : Nat) "WindWords$Reading" "ship" "LWindWords$Ship;" : Cond) ∈ AW := AW_t2 180 rfl rfl
theorem m_515 : (.fieldLink "WindWords" (190 : Nat) "WindWords$Reading" "ship" "LWindWords$Ship;" : Cond) ∈ AW := AW_t2 181 rfl rfl
theorem m_516 : (.fieldLink "WindWords$Reading" (19 : Nat) "WindWords$Reading" "watch" "I" : Cond) ∈ AW := AW_t2 182 rfl rfl
theorem m_517 : (.fieldLink "WindWords$Storm" (61 : Nat) "WindWords$Reading" "watch" "I" : Cond) ∈ AW := AW_t2 183 rfl rfl
theorem m_518 : (.fieldLink "WindWords$Fleet" (63 : Nat) "WindWords$Reading" "watch" "I" : Cond) ∈ AW := AW_t2 184 rfl rfl
theorem m_519 : (.fieldLink "WindWords" (197 : Nat) "WindWords$Reading" "watch" "I" : Cond) ∈ AW := AW_t2 185 rfl rfl
theorem m_520 : (.fieldLink "WindWords$Reading" (22 : Nat) "WindWords$Reading" "cell" "I" : Cond) ∈ AW := AW_t2 186 rfl rfl
theorem m_521 : (.fieldLink "WindWords$Storm" (66 : Nat) "WindWords$Reading" "cell" "I" : Cond) ∈ AW := AW_t2 187 rfl rfl
theorem m_522 : (.fieldLink "WindWords$Fleet" (105 : Nat) "WindWords$Reading" "cell" "I" : Cond) ∈ AW := AW_t2 188 rfl rfl
theorem m_523 : (.fieldLink "WindWords" (200 : Nat) "WindWords$Reading" "cell" "I" : Cond) ∈ AW := AW_t2 189 rfl rfl
theorem m_524 : (.fieldLink "WindWords$Reading" (31 : Nat) "WindWords$Reading" "kind" "I" : Cond) ∈ AW := AW_t2 190 rfl rfl
theorem m_525 : (.fieldLink "WindWords$Winds" (80 : Nat) "WindWords$Reading" "kind" "I" : Cond) ∈ AW := AW_t2 191 rfl rfl
theorem m_526 : (.fieldLink "WindWords$Leans" (77 : Nat) "WindWords$Reading" "kind" "I" : Cond) ∈ AW := AW_t2 192 rfl rfl
theorem m_527 : (.fieldLink "WindWords" (203 : Nat) "WindWords$Reading" "kind" "I" : Cond) ∈ AW := AW_t2 193 rfl rfl
theorem m_528 : (.fieldLink "WindWords$Reading" (34 : Nat) "WindWords$Reading" "number" "I" : Cond) ∈ AW := AW_t2 194 rfl rfl
theorem m_529 : (.fieldLink "WindWords$Winds" (62 : Nat) "WindWords$Reading" "number" "I" : Cond) ∈ AW := AW_t2 195 rfl rfl
theorem m_530 : (.fieldLink "WindWords$Leans" (58 : Nat) "WindWords$Reading" "number" "I" : Cond) ∈ AW := AW_t2 196 rfl rfl
theorem m_531 : (.fieldLink "WindWords$Storm" (73 : Nat) "WindWords$Reading" "number" "I" : Cond) ∈ AW := AW_t2 197 rfl rfl
theorem m_532 : (.fieldLink "WindWords" (206 : Nat) "WindWords$Reading" "number" "I" : Cond) ∈ AW := AW_t2 198 rfl rfl
theorem m_533 : (.fieldLink "WindWords$Reading" (25 : Nat) "WindWords$Reading" "depth" "I" : Cond) ∈ AW := AW_t2 199 rfl rfl
theorem m_534 : (.fieldLink "WindWords" (209 : Nat) "WindWords$Reading" "depth" "I" : Cond) ∈ AW := AW_t2 200 rfl rfl
theorem m_535 : (.fieldLink "WindWords$Reading" (28 : Nat) "WindWords$Reading" "spars" "I" : Cond) ∈ AW := AW_t2 201 rfl rfl
theorem m_536 : (.fieldLink "WindWords" (212 : Nat) "WindWords$Reading" "spars" "I" : Cond) ∈ AW := AW_t2 202 rfl rfl
theorem m_537 : (.fieldLink "WindWords$Reading" (9 : Nat) "WindWords$Reading" "place" "I" : Cond) ∈ AW := AW_t2 203 rfl rfl
theorem m_538 : (.fieldLink "WindWords$Fleet" (56 : Nat) "WindWords$Reading" "place" "I" : Cond) ∈ AW := AW_t2 204 rfl rfl
theorem m_539 : (.fieldLink "WindWords" (426 : Nat) "WindWords$Reading" "place" "I" : Cond) ∈ AW := AW_t2 205 rfl rfl
theorem m_557 : (.methodLink "WindWords" (163 : Nat) ({ cls := "WindWords$Fleet", name := "add", desc := "(LWindWords$Reading;)I" } : Jvm.MethodName) : Cond) ∈ AW := AW_t2 223 rfl rfl
theorem m_558 : (.instanceMethod ({ cls := "WindWords$Fleet", name := "add", desc := "(LWindWords$Reading;)I" } : Jvm.MethodName) : Cond) ∈ AW := AW_t2 224 rfl rfl
theorem m_559 : (.selects "WindWords$Fleet" ({ cls := "WindWords$Fleet", name := "add", desc := "(LWindWords$Reading;)I" } : Jvm.MethodName) ({ cls := "WindWords$Fleet", name := "add", desc := "(LWindWords$Reading;)I" } : Jvm.MethodName) : Cond) ∈ AW := AW_t2 225 rfl rfl
theorem m_560 : (.code ({ cls := "WindWords$Fleet", name := "add", desc := "(LWindWords$Reading;)I" } : Jvm.MethodName) prog_2_method_6_code (2 : Nat) (Option.some FieldType.int) : Cond) ∈ AW := AW_t2 226 rfl rfl
theorem m_561 : (.methodLink "WindWords$Fleet" (66 : Nat) ({ cls := "WindWords$Ship", name := "put", desc := "(ILWindWords$Reading;)V" } : Jvm.MethodName) : Cond) ∈ AW := AW_t2 227 rfl rfl
theorem m_562 : (.instanceMethod ({ cls := "WindWords$Ship", name := "put", desc := "(ILWindWords$Reading;)V" } : Jvm.MethodName) : Cond) ∈ AW := AW_t2 228 rfl rfl
theorem m_563 : (.selects "WindWords$Ship" ({ cls := "WindWords$Ship", name := "put", desc := "(ILWindWords$Reading;)V" } : Jvm.MethodName) ({ cls := "WindWords$Ship", name := "put", desc := "(ILWindWords$Reading;)V" } : Jvm.MethodName) : Cond) ∈ AW := AW_t2 229 rfl rfl
theorem m_564 : (.code ({ cls := "WindWords$Ship", name := "put", desc := "(ILWindWords$Reading;)V" } : Jvm.MethodName) prog_9_method_5_code (3 : Nat) (Option.none : Option FieldType) : Cond) ∈ AW := AW_t2 230 rfl rfl
theorem m_565 : (.methodLink "WindWordsLaw" (43 : Nat) ({ cls := "WindWords", name := "feed", desc := "(IIIII)I" } : Jvm.MethodName) : Cond) ∈ AW := AW_t2 231 rfl rfl
theorem m_566 : (.instanceMethod ({ cls := "WindWords", name := "feed", desc := "(IIIII)I" } : Jvm.MethodName) : Cond) ∈ AW := AW_t2 232 rfl rfl
theorem m_567 : (.selects "WindWords" ({ cls := "WindWords", name := "feed", desc := "(IIIII)I" } : Jvm.MethodName) ({ cls := "WindWords", name := "feed", desc := "(IIIII)I" } : Jvm.MethodName) : Cond) ∈ AW := AW_t2 233 rfl rfl
theorem m_568 : (.code ({ cls := "WindWords", name := "feed", desc := "(IIIII)I" } : Jvm.MethodName) prog_1_method_8_code (6 : Nat) (Option.some FieldType.int) : Cond) ∈ AW := AW_t2 234 rfl rfl
theorem m_569 : (.methodLink "WindWords" (170 : Nat) ({ cls := "WindWords$Tape", name := "put", desc := "(I)V" } : Jvm.MethodName) : Cond) ∈ AW := AW_t2 235 rfl rfl
theorem m_570 : (.instanceMethod ({ cls := "WindWords$Tape", name := "put", desc := "(I)V" } : Jvm.MethodName) : Cond) ∈ AW := AW_t2 236 rfl rfl
theorem m_571 : (.selects "WindWords$Tape" ({ cls := "WindWords$Tape", name := "put", desc := "(I)V" } : Jvm.MethodName) ({ cls := "WindWords$Tape", name := "put", desc := "(I)V" } : Jvm.MethodName) : Cond) ∈ AW := AW_t2 237 rfl rfl
theorem m_572 : (.code ({ cls := "WindWords$Tape", name := "put", desc := "(I)V" } : Jvm.MethodName) prog_11_method_2_code (3 : Nat) (Option.none : Option FieldType) : Cond) ∈ AW := AW_t2 238 rfl rfl
theorem m_573 : (.methodLink "WindWordsLaw" (47 : Nat) ({ cls := "WindWords", name := "scale", desc := "(II)I" } : Jvm.MethodName) : Cond) ∈ AW := AW_t2 239 rfl rfl
theorem m_574 : (.instanceMethod ({ cls := "WindWords", name := "scale", desc := "(II)I" } : Jvm.MethodName) : Cond) ∈ AW := AW_t3 0 rfl rfl
theorem m_575 : (.selects "WindWords" ({ cls := "WindWords", name := "scale", desc := "(II)I" } : Jvm.MethodName) ({ cls := "WindWords", name := "scale", desc := "(II)I" } : Jvm.MethodName) : Cond) ∈ AW := AW_t3 1 rfl rfl
theorem m_576 : (.code ({ cls := "WindWords", name := "scale", desc := "(II)I" } : Jvm.MethodName) prog_1_method_9_code (4 : Nat) (Option.some FieldType.int) : Cond) ∈ AW := AW_t3 2 rfl rfl
theorem m_577 : (.methodLink "WindWords" (177 : Nat) ({ cls := "WindWords", name := "understood", desc := "(IZ)Z" } : Jvm.MethodName) : Cond) ∈ AW := AW_t3 3 rfl rfl
theorem m_579 : (.instanceMethod ({ cls := "WindWords", name := "understood", desc := "(IZ)Z" } : Jvm.MethodName) : Cond) ∈ AW := AW_t3 5 rfl rfl
theorem m_580 : (.code ({ cls := "WindWords", name := "understood", desc := "(IZ)Z" } : Jvm.MethodName) prog_1_method_40_code (3 : Nat) (Option.some FieldType.boolean) : Cond) ∈ AW := AW_t3 6 rfl rfl
theorem m_581 : (.methodLink "WindWords" (391 : Nat) ({ cls := "WindWords$Tape", name := "split", desc := "(I)V" } : Jvm.MethodName) : Cond) ∈ AW := AW_t3 7 rfl rfl
theorem m_582 : (.instanceMethod ({ cls := "WindWords$Tape", name := "split", desc := "(I)V" } : Jvm.MethodName) : Cond) ∈ AW := AW_t3 8 rfl rfl
theorem m_583 : (.selects "WindWords$Tape" ({ cls := "WindWords$Tape", name := "split", desc := "(I)V" } : Jvm.MethodName) ({ cls := "WindWords$Tape", name := "split", desc := "(I)V" } : Jvm.MethodName) : Cond) ∈ AW := AW_t3 9 rfl rfl
theorem m_584 : (.code ({ cls := "WindWords$Tape", name := "split", desc := "(I)V" } : Jvm.MethodName) prog_11_method_3_code (4 : Nat) (Option.none : Option FieldType) : Cond) ∈ AW := AW_t3 10 rfl rfl
theorem m_585 : (.methodLink "WindWords$Tape" (37 : Nat) ({ cls := "java/lang/Math", name := "min", desc := "(II)I" } : Jvm.MethodName) : Cond) ∈ AW := AW_t3 11 rfl rfl
theorem m_586 : (.static ({ cls := "java/lang/Math", name := "min", desc := "(II)I" } : Jvm.MethodName) : Cond) ∈ AW := AW_t3 12 rfl rfl
theorem m_587 : (.code ({ cls := "java/lang/Math", name := "min", desc := "(II)I" } : Jvm.MethodName) prog_18_method_69_code (2 : Nat) (Option.some FieldType.int) : Cond) ∈ AW := AW_t3 13 rfl rfl
theorem m_588 : (.methodLink "WindWords$Tape" (43 : Nat) ({ cls := "java/lang/Math", name := "max", desc := "(II)I" } : Jvm.MethodName) : Cond) ∈ AW := AW_t3 14 rfl rfl
theorem m_589 : (.methodLink "WindWords$Tape" (46 : Nat) ({ cls := "WindWords$Tape", name := "isBlank", desc := "(I)Z" } : Jvm.MethodName) : Cond) ∈ AW := AW_t3 15 rfl rfl
theorem m_590 : (.static ({ cls := "WindWords$Tape", name := "isBlank", desc := "(I)Z" } : Jvm.MethodName) : Cond) ∈ AW := AW_t3 16 rfl rfl
theorem m_591 : (.code ({ cls := "WindWords$Tape", name := "isBlank", desc := "(I)Z" } : Jvm.MethodName) prog_11_method_13_code (1 : Nat) (Option.some FieldType.boolean) : Cond) ∈ AW := AW_t3 17 rfl rfl
theorem m_592 : (.methodLink "WindWords$Tape" (50 : Nat) ({ cls := "WindWords$Tape", name := "take", desc := "(II)I" } : Jvm.MethodName) : Cond) ∈ AW := AW_t3 18 rfl rfl
theorem m_594 : (.instanceMethod ({ cls := "WindWords$Tape", name := "take", desc := "(II)I" } : Jvm.MethodName) : Cond) ∈ AW := AW_t3 20 rfl rfl
theorem m_595 : (.code ({ cls := "WindWords$Tape", name := "take", desc := "(II)I" } : Jvm.MethodName) prog_11_method_7_code (5 : Nat) (Option.some FieldType.int) : Cond) ∈ AW := AW_t3 21 rfl rfl
theorem m_596 : (.methodLink "WindWords$Tape" (53 : Nat) ({ cls := "WindWords$Tape", name := "isDigit", desc := "(I)Z" } : Jvm.MethodName) : Cond) ∈ AW := AW_t3 22 rfl rfl
theorem m_597 : (.static ({ cls := "WindWords$Tape", name := "isDigit", desc := "(I)Z" } : Jvm.MethodName) : Cond) ∈ AW := AW_t3 23 rfl rfl
theorem m_598 : (.code ({ cls := "WindWords$Tape", name := "isDigit", desc := "(I)Z" } : Jvm.MethodName) prog_11_method_14_code (1 : Nat) (Option.some FieldType.boolean) : Cond) ∈ AW := AW_t3 24 rfl rfl
theorem m_599 : (.constant "WindWords$Tape" (56 : Nat) (100000 : Int32) : Cond) ∈ AW := AW_t3 25 rfl rfl
theorem m_600 : (.methodLink "WindWords$Tape" (57 : Nat) ({ cls := "WindWords$Tape", name := "isLetter", desc := "(I)Z" } : Jvm.MethodName) : Cond) ∈ AW := AW_t3 26 rfl rfl
theorem m_601 : (.static ({ cls := "WindWords$Tape", name := "isLetter", desc := "(I)Z" } : Jvm.MethodName) : Cond) ∈ AW := AW_t3 27 rfl rfl
theorem m_602 : (.code ({ cls := "WindWords$Tape", name := "isLetter", desc := "(I)Z" } : Jvm.MethodName) prog_11_method_15_code (1 : Nat) (Option.some FieldType.boolean) : Cond) ∈ AW := AW_t3 28 rfl rfl
theorem m_603 : (.methodLink "WindWords$Tape" (60 : Nat) ({ cls := "WindWords$Tape", name := "wordCode", desc := "(II)I" } : Jvm.MethodName) : Cond) ∈ AW := AW_t3 29 rfl rfl
theorem m_605 : (.instanceMethod ({ cls := "WindWords$Tape", name := "wordCode", desc := "(II)I" } : Jvm.MethodName) : Cond) ∈ AW := AW_t3 31 rfl rfl
theorem m_606 : (.code ({ cls := "WindWords$Tape", name := "wordCode", desc := "(II)I" } : Jvm.MethodName) prog_11_method_8_code (4 : Nat) (Option.some FieldType.int) : Cond) ∈ AW := AW_t3 32 rfl rfl
theorem m_607 : (.methodLink "WindWords$Tape" (71 : Nat) ({ cls := "WindWords$Tape", name := "kindName", desc := "(I)Ljava/lang/String;" } : Jvm.MethodName) : Cond) ∈ AW := AW_t3 33 rfl rfl
theorem m_608 : (.static ({ cls := "WindWords$Tape", name := "kindName", desc := "(I)Ljava/lang/String;" } : Jvm.MethodName) : Cond) ∈ AW := AW_t3 34 rfl rfl
theorem m_609 : (.code ({ cls := "WindWords$Tape", name := "kindName", desc := "(I)Ljava/lang/String;" } : Jvm.MethodName) prog_11_method_9_code (1 : Nat) (Option.some (FieldType.object "java/lang/String")) : Cond) ∈ AW := AW_t3 35 rfl rfl
theorem m_613 : (.methodLink "WindWords$Tape" (75 : Nat) ({ cls := "WindWords$Tape", name := "isWord", desc := "(IILjava/lang/String;)Z" } : Jvm.MethodName) : Cond) ∈ AW := AW_t3 39 rfl rfl
theorem m_615 : (.instanceMethod ({ cls := "WindWords$Tape", name := "isWord", desc := "(IILjava/lang/String;)Z" } : Jvm.MethodName) : Cond) ∈ AW := AW_t3 41 rfl rfl
theorem m_616 : (.code ({ cls := "WindWords$Tape", name := "isWord", desc := "(IILjava/lang/String;)Z" } : Jvm.MethodName) prog_11_method_12_code (5 : Nat) (Option.some FieldType.boolean) : Cond) ∈ AW := AW_t3 42 rfl rfl
theorem m_617 : (.methodLink "WindWords$Tape" (121 : Nat) ({ cls := "java/lang/String", name := "length", desc := "()I" } : Jvm.MethodName) : Cond) ∈ AW := AW_t3 43 rfl rfl
theorem m_618 : (.instanceMethod ({ cls := "java/lang/String", name := "length", desc := "()I" } : Jvm.MethodName) : Cond) ∈ AW := AW_t3 44 rfl rfl
theorem m_619 : (.selects "java/lang/String" ({ cls := "java/lang/String", name := "length", desc := "()I" } : Jvm.MethodName) ({ cls := "java/lang/String", name := "length", desc := "()I" } : Jvm.MethodName) : Cond) ∈ AW := AW_t3 45 rfl rfl
theorem m_620 : (.code ({ cls := "java/lang/String", name := "length", desc := "()I" } : Jvm.MethodName) prog_19_method_54_code (1 : Nat) (Option.some FieldType.int) : Cond) ∈ AW := AW_t3 46 rfl rfl
theorem m_621 : (.methodLink "java/lang/String" (335 : Nat) ({ cls := "java/lang/String", name := "coder", desc := "()B" } : Jvm.MethodName) : Cond) ∈ AW := AW_t3 47 rfl rfl
theorem m_622 : (.instanceMethod ({ cls := "java/lang/String", name := "coder", desc := "()B" } : Jvm.MethodName) : Cond) ∈ AW := AW_t3 48 rfl rfl
theorem m_623 : (.selects "java/lang/String" ({ cls := "java/lang/String", name := "coder", desc := "()B" } : Jvm.MethodName) ({ cls := "java/lang/String", name := "coder", desc := "()B" } : Jvm.MethodName) : Cond) ∈ AW := AW_t3 49 rfl rfl
theorem m_624 : (.code ({ cls := "java/lang/String", name := "coder", desc := "()B" } : Jvm.MethodName) prog_19_method_152_code (1 : Nat) (Option.some FieldType.byte) : Cond) ∈ AW := AW_t3 50 rfl rfl
theorem m_625 : (.fieldLink "java/lang/String" (38 : Nat) "java/lang/String" "COMPACT_STRINGS" "Z" : Cond) ∈ AW := AW_t3 51 rfl rfl
theorem m_627 : (.methodLink "WindWords$Tape" (125 : Nat) ({ cls := "java/lang/String", name := "charAt", desc := "(I)C" } : Jvm.MethodName) : Cond) ∈ AW := AW_t3 53 rfl rfl
theorem m_628 : (.instanceMethod ({ cls := "java/lang/String", name := "charAt", desc := "(I)C" } : Jvm.MethodName) : Cond) ∈ AW := AW_t3 54 rfl rfl
theorem m_629 : (.selects "java/lang/String" ({ cls := "java/lang/String", name := "charAt", desc := "(I)C" } : Jvm.MethodName) ({ cls := "java/lang/String", name := "charAt", desc := "(I)C" } : Jvm.MethodName) : Cond) ∈ AW := AW_t3 55 rfl rfl
theorem m_630 : (.code ({ cls := "java/lang/String", name := "charAt", desc := "(I)C" } : Jvm.MethodName) prog_19_method_56_code (2 : Nat) (Option.some FieldType.char) : Cond) ∈ AW := AW_t3 56 rfl rfl
theorem m_631 : (.methodLink "java/lang/String" (492 : Nat) ({ cls := "java/lang/String", name := "isLatin1", desc := "()Z" } : Jvm.MethodName) : Cond) ∈ AW := AW_t3 57 rfl rfl
theorem m_632 : (.instanceMethod ({ cls := "java/lang/String", name := "isLatin1", desc := "()Z" } : Jvm.MethodName) : Cond) ∈ AW := AW_t3 58 rfl rfl
theorem m_633 : (.selects "java/lang/String" ({ cls := "java/lang/String", name := "isLatin1", desc := "()Z" } : Jvm.MethodName) ({ cls := "java/lang/String", name := "isLatin1", desc := "()Z" } : Jvm.MethodName) : Cond) ∈ AW := AW_t3 59 rfl rfl
theorem m_634 : (.code ({ cls := "java/lang/String", name := "isLatin1", desc := "()Z" } : Jvm.MethodName) prog_19_method_154_code (1 : Nat) (Option.some FieldType.boolean) : Cond) ∈ AW := AW_t3 60 rfl rfl
theorem m_635 : (.methodLink "java/lang/String" (495 : Nat) ({ cls := "java/lang/StringLatin1", name := "charAt", desc := "([BI)C" } : Jvm.MethodName) : Cond) ∈ AW := AW_t3 61 rfl rfl
theorem m_636 : (.static ({ cls := "java/lang/StringLatin1", name := "charAt", desc := "([BI)C" } : Jvm.MethodName) : Cond) ∈ AW := AW_t3 62 rfl rfl
theorem m_637 : (.code ({ cls := "java/lang/StringLatin1", name := "charAt", desc := "([BI)C" } : Jvm.MethodName) prog_20_method_2_code (2 : Nat) (Option.some FieldType.char) : Cond) ∈ AW := AW_t3 63 rfl rfl
theorem m_638 : (.methodLink "java/lang/StringLatin1" (9 : Nat) ({ cls := "java/lang/String", name := "checkIndex", desc := "(II)V" } : Jvm.MethodName) : Cond) ∈ AW := AW_t3 64 rfl rfl
theorem m_639 : (.static ({ cls := "java/lang/String", name := "checkIndex", desc := "(II)V" } : Jvm.MethodName) : Cond) ∈ AW := AW_t3 65 rfl rfl
theorem m_640 : (.code ({ cls := "java/lang/String", name := "checkIndex", desc := "(II)V" } : Jvm.MethodName) prog_19_method_155_code (2 : Nat) (Option.none : Option FieldType) : Cond) ∈ AW := AW_t3 66 rfl rfl
theorem m_641 : (.fieldLink "java/lang/String" (1053 : Nat) "jdk/internal/util/Preconditions" "SIOOBE_FORMATTER" "Ljava/util/function/BiFunction;" : Cond) ∈ AW := AW_t3 67 rfl rfl
theorem m_643 : (.methodLink "java/lang/String" (1059 : Nat) ({ cls := "jdk/internal/util/Preconditions", name := "checkIndex", desc := "(IILjava/util/function/BiFunction;)I" } : Jvm.MethodName) : Cond) ∈ AW := AW_t3 69 rfl rfl
theorem m_644 : (.static ({ cls := "jdk/internal/util/Preconditions", name := "checkIndex", desc := "(IILjava/util/function/BiFunction;)I" } : Jvm.MethodName) : Cond) ∈ AW := AW_t3 70 rfl rfl
theorem m_645 : (.code ({ cls := "jdk/internal/util/Preconditions", name := "checkIndex", desc := "(IILjava/util/function/BiFunction;)I" } : Jvm.MethodName) prog_22_method_11_code (3 : Nat) (Option.some FieldType.int) : Cond) ∈ AW := AW_t3 71 rfl rfl
theorem m_646 : (.methodLink "java/lang/String" (498 : Nat) ({ cls := "java/lang/StringUTF16", name := "charAt", desc := "([BI)C" } : Jvm.MethodName) : Cond) ∈ AW := AW_t3 72 rfl rfl
theorem m_647 : (.static ({ cls := "java/lang/StringUTF16", name := "charAt", desc := "([BI)C" } : Jvm.MethodName) : Cond) ∈ AW := AW_t3 73 rfl rfl
theorem m_648 : (.code ({ cls := "java/lang/StringUTF16", name := "charAt", desc := "([BI)C" } : Jvm.MethodName) prog_21_method_83_code (2 : Nat) (Option.some FieldType.char) : Cond) ∈ AW := AW_t3 74 rfl rfl
theorem m_649 : (.methodLink "java/lang/StringUTF16" (67 : Nat) ({ cls := "java/lang/StringUTF16", name := "checkIndex", desc := "(I[B)V" } : Jvm.MethodName) : Cond) ∈ AW := AW_t3 75 rfl rfl
theorem m_650 : (.static ({ cls := "java/lang/StringUTF16", name := "checkIndex", desc := "(I[B)V" } : Jvm.MethodName) : Cond) ∈ AW := AW_t3 76 rfl rfl
theorem m_651 : (.code ({ cls := "java/lang/StringUTF16", name := "checkIndex", desc := "(I[B)V" } : Jvm.MethodName) prog_21_method_91_code (2 : Nat) (Option.none : Option FieldType) : Cond) ∈ AW := AW_t3 77 rfl rfl
theorem m_652 : (.methodLink "java/lang/StringUTF16" (48 : Nat) ({ cls := "java/lang/StringUTF16", name := "length", desc := "([B)I" } : Jvm.MethodName) : Cond) ∈ AW := AW_t3 78 rfl rfl
theorem m_653 : (.static ({ cls := "java/lang/StringUTF16", name := "length", desc := "([B)I" } : Jvm.MethodName) : Cond) ∈ AW := AW_t3 79 rfl rfl
theorem m_654 : (.code ({ cls := "java/lang/StringUTF16", name := "length", desc := "([B)I" } : Jvm.MethodName) prog_21_method_6_code (1 : Nat) (Option.some FieldType.int) : Cond) ∈ AW := AW_t3 80 rfl rfl
theorem m_655 : (.methodLink "java/lang/StringUTF16" (414 : Nat) ({ cls := "java/lang/String", name := "checkIndex", desc := "(II)V" } : Jvm.MethodName) : Cond) ∈ AW := AW_t3 81 rfl rfl
theorem m_656 : (.methodLink "java/lang/StringUTF16" (71 : Nat) ({ cls := "java/lang/StringUTF16", name := "getChar", desc := "([BI)C" } : Jvm.MethodName) : Cond) ∈ AW := AW_t3 82 rfl rfl
theorem m_657 : (.static ({ cls := "java/lang/StringUTF16", name := "getChar", desc := "([BI)C" } : Jvm.MethodName) : Cond) ∈ AW := AW_t3 83 rfl rfl
theorem m_658 : (.code ({ cls := "java/lang/StringUTF16", name := "getChar", desc := "([BI)C" } : Jvm.MethodName) prog_21_method_5_code (2 : Nat) (Option.some FieldType.char) : Cond) ∈ AW := AW_t3 84 rfl rfl
theorem m_659 : (.fieldLink "java/lang/StringUTF16" (44 : Nat) "java/lang/StringUTF16" "$assertionsDisabled" "Z" : Cond) ∈ AW := AW_t3 85 rfl rfl
theorem m_661 : (.fieldLink "java/lang/StringUTF16" (59 : Nat) "java/lang/StringUTF16" "HI_BYTE_SHIFT" "I" : Cond) ∈ AW := AW_t3 87 rfl rfl
theorem m_663 : (.fieldLink "java/lang/StringUTF16" (63 : Nat) "java/lang/StringUTF16" "LO_BYTE_SHIFT" "I" : Cond) ∈ AW := AW_t3 89 rfl rfl
theorem m_665 : (.methodLink "WindWords$Tape" (79 : Nat) ({ cls := "WindWords$Tape", name := "askedName", desc := "(I)Ljava/lang/String;" } : Jvm.MethodName) : Cond) ∈ AW := AW_t3 91 rfl rfl
theorem m_666 : (.static ({ cls := "WindWords$Tape", name := "askedName", desc := "(I)Ljava/lang/String;" } : Jvm.MethodName) : Cond) ∈ AW := AW_t3 92 rfl rfl
theorem m_667 : (.code ({ cls := "WindWords$Tape", name := "askedName", desc := "(I)Ljava/lang/String;" } : Jvm.MethodName) prog_11_method_10_code (1 : Nat) (Option.some (FieldType.object "java/lang/String")) : Cond) ∈ AW := AW_t3 93 rfl rfl
theorem m_673 : (.methodLink "WindWords$Tape" (82 : Nat) ({ cls := "WindWords$Tape", name := "binderName", desc := "(I)Ljava/lang/String;" } : Jvm.MethodName) : Cond) ∈ AW := AW_t3 99 rfl rfl
theorem m_674 : (.static ({ cls := "WindWords$Tape", name := "binderName", desc := "(I)Ljava/lang/String;" } : Jvm.MethodName) : Cond) ∈ AW := AW_t3 100 rfl rfl
theorem m_675 : (.code ({ cls := "WindWords$Tape", name := "binderName", desc := "(I)Ljava/lang/String;" } : Jvm.MethodName) prog_11_method_11_code (1 : Nat) (Option.some (FieldType.object "java/lang/String")) : Cond) ∈ AW := AW_t3 101 rfl rfl
theorem m_687 : (.methodLink "WindWords$Tape" (65 : Nat) ({ cls := "java/lang/String", name := "indexOf", desc := "(I)I" } : Jvm.MethodName) : Cond) ∈ AW := AW_t3 113 rfl rfl
theorem m_688 : (.instanceMethod ({ cls := "java/lang/String", name := "indexOf", desc := "(I)I" } : Jvm.MethodName) : Cond) ∈ AW := AW_t3 114 rfl rfl
theorem m_689 : (.selects "java/lang/String" ({ cls := "java/lang/String", name := "indexOf", desc := "(I)I" } : Jvm.MethodName) ({ cls := "java/lang/String", name := "indexOf", desc := "(I)I" } : Jvm.MethodName) : Cond) ∈ AW := AW_t3 115 rfl rfl
theorem m_690 : (.code ({ cls := "java/lang/String", name := "indexOf", desc := "(I)I" } : Jvm.MethodName) prog_19_method_79_code (2 : Nat) (Option.some FieldType.int) : Cond) ∈ AW := AW_t3 116 rfl rfl
theorem m_691 : (.methodLink "java/lang/String" (633 : Nat) ({ cls := "java/lang/String", name := "indexOf", desc := "(II)I" } : Jvm.MethodName) : Cond) ∈ AW := AW_t3 117 rfl rfl
theorem m_692 : (.instanceMethod ({ cls := "java/lang/String", name := "indexOf", desc := "(II)I" } : Jvm.MethodName) : Cond) ∈ AW := AW_t3 118 rfl rfl
theorem m_693 : (.selects "java/lang/String" ({ cls := "java/lang/String", name := "indexOf", desc := "(II)I" } : Jvm.MethodName) ({ cls := "java/lang/String", name := "indexOf", desc := "(II)I" } : Jvm.MethodName) : Cond) ∈ AW := AW_t3 119 rfl rfl
theorem m_694 : (.code ({ cls := "java/lang/String", name := "indexOf", desc := "(II)I" } : Jvm.MethodName) prog_19_method_80_code (3 : Nat) (Option.some FieldType.int) : Cond) ∈ AW := AW_t3 120 rfl rfl
theorem m_695 : (.methodLink "java/lang/String" (505 : Nat) ({ cls := "java/lang/String", name := "length", desc := "()I" } : Jvm.MethodName) : Cond) ∈ AW := AW_t3 121 rfl rfl
theorem m_696 : (.methodLink "java/lang/String" (637 : Nat) ({ cls := "java/lang/StringLatin1", name := "indexOf", desc := "([BIII)I" } : Jvm.MethodName) : Cond) ∈ AW := AW_t3 122 rfl rfl
theorem m_697 : (.static ({ cls := "java/lang/StringLatin1", name := "indexOf", desc := "([BIII)I" } : Jvm.MethodName) : Cond) ∈ AW := AW_t3 123 rfl rfl
theorem m_698 : (.code ({ cls := "java/lang/StringLatin1", name := "indexOf", desc := "([BIII)I" } : Jvm.MethodName) prog_20_method_22_code (4 : Nat) (Option.some FieldType.int) : Cond) ∈ AW := AW_t3 124 rfl rfl
theorem m_699 : (.methodLink "java/lang/StringLatin1" (88 : Nat) ({ cls := "java/lang/StringLatin1", name := "canEncode", desc := "(I)Z" } : Jvm.MethodName) : Cond) ∈ AW := AW_t3 125 rfl rfl
theorem m_700 : (.static ({ cls := "java/lang/StringLatin1", name := "canEncode", desc := "(I)Z" } : Jvm.MethodName) : Cond) ∈ AW := AW_t3 126 rfl rfl
theorem m_701 : (.code ({ cls := "java/lang/StringLatin1", name := "canEncode", desc := "(I)Z" } : Jvm.MethodName) prog_20_method_4_code (1 : Nat) (Option.some FieldType.boolean) : Cond) ∈ AW := AW_t3 127 rfl rfl
theorem m_702 : (.methodLink "java/lang/StringLatin1" (92 : Nat) ({ cls := "java/lang/Math", name := "max", desc := "(II)I" } : Jvm.MethodName) : Cond) ∈ AW := AW_t3 128 rfl rfl
theorem m_703 : (.methodLink "java/lang/StringLatin1" (38 : Nat) ({ cls := "java/lang/Math", name := "min", desc := "(II)I" } : Jvm.MethodName) : Cond) ∈ AW := AW_t3 129 rfl rfl
theorem m_704 : (.methodLink "java/lang/StringLatin1" (95 : Nat) ({ cls := "java/lang/StringLatin1", name := "indexOfChar", desc := "([BIII)I" } : Jvm.MethodName) : Cond) ∈ AW := AW_t3 130 rfl rfl
theorem m_705 : (.static ({ cls := "java/lang/StringLatin1", name := "indexOfChar", desc := "([BIII)I" } : Jvm.MethodName) : Cond) ∈ AW := AW_t3 131 rfl rfl
theorem m_706 : (.code ({ cls := "java/lang/StringLatin1", name := "indexOfChar", desc := "([BIII)I" } : Jvm.MethodName) prog_20_method_23_code (6 : Nat) (Option.some FieldType.int) : Cond) ∈ AW := AW_t3 132 rfl rfl
theorem m_707 : (.methodLink "java/lang/String" (640 : Nat) ({ cls := "java/lang/StringUTF16", name := "indexOf", desc := "([BIII)I" } : Jvm.MethodName) : Cond) ∈ AW := AW_t3 133 rfl rfl
theorem m_708 : (.static ({ cls := "java/lang/StringUTF16", name := "indexOf", desc := "([BIII)I" } : Jvm.MethodName) : Cond) ∈ AW := AW_t3 134 rfl rfl
theorem m_709 : (.code ({ cls := "java/lang/StringUTF16", name := "indexOf", desc := "([BIII)I" } : Jvm.MethodName) prog_21_method_40_code (4 : Nat) (Option.some FieldType.int) : Cond) ∈ AW := AW_t3 135 rfl rfl
theorem m_710 : (.methodLink "java/lang/StringUTF16" (224 : Nat) ({ cls := "java/lang/Math", name := "max", desc := "(II)I" } : Jvm.MethodName) : Cond) ∈ AW := AW_t3 136 rfl rfl
theorem m_711 : (.methodLink "java/lang/StringUTF16" (183 : Nat) ({ cls := "java/lang/Math", name := "min", desc := "(II)I" } : Jvm.MethodName) : Cond) ∈ AW := AW_t3 137 rfl rfl
theorem m_712 : (.constant "java/lang/StringUTF16" (227 : Nat) (65536 : Int32) : Cond) ∈ AW := AW_t3 138 rfl rfl
theorem m_713 : (.methodLink "java/lang/StringUTF16" (228 : Nat) ({ cls := "java/lang/StringUTF16", name := "indexOfChar", desc := "([BIII)I" } : Jvm.MethodName) : Cond) ∈ AW := AW_t3 139 rfl rfl
theorem m_714 : (.static ({ cls := "java/lang/StringUTF16", name := "indexOfChar", desc := "([BIII)I" } : Jvm.MethodName) : Cond) ∈ AW := AW_t3 140 rfl rfl
theorem m_715 : (.code ({ cls := "java/lang/StringUTF16", name := "indexOfChar", desc := "([BIII)I" } : Jvm.MethodName) prog_21_method_47_code (4 : Nat) (Option.some FieldType.int) : Cond) ∈ AW := AW_t3 141 rfl rfl
theorem m_716 : (.methodLink "java/lang/StringUTF16" (96 : Nat) ({ cls := "java/lang/StringUTF16", name := "checkBoundsBeginEnd", desc := "(II[B)V" } : Jvm.MethodName) : Cond) ∈ AW := AW_t3 142 rfl rfl
theorem m_717 : (.static ({ cls := "java/lang/StringUTF16", name := "checkBoundsBeginEnd", desc := "(II[B)V" } : Jvm.MethodName) : Cond) ∈ AW := AW_t3 143 rfl rfl
theorem m_718 : (.code ({ cls := "java/lang/StringUTF16", name := "checkBoundsBeginEnd", desc := "(II[B)V" } : Jvm.MethodName) prog_21_method_93_code (3 : Nat) (Option.none : Option FieldType) : Cond) ∈ AW := AW_t3 144 rfl rfl
theorem m_719 : (.methodLink "java/lang/StringUTF16" (241 : Nat) ({ cls := "java/lang/String", name := "checkBoundsBeginEnd", desc := "(III)V" } : Jvm.MethodName) : Cond) ∈ AW := AW_t3 145 rfl rfl
theorem m_720 : (.static ({ cls := "java/lang/String", name := "checkBoundsBeginEnd", desc := "(III)V" } : Jvm.MethodName) : Cond) ∈ AW := AW_t3 146 rfl rfl
theorem m_721 : (.code ({ cls := "java/lang/String", name := "checkBoundsBeginEnd", desc := "(III)V" } : Jvm.MethodName) prog_19_method_158_code (3 : Nat) (Option.none : Option FieldType) : Cond) ∈ AW := AW_t3 147 rfl rfl
theorem m_722 : (.methodLink "java/lang/String" (1062 : Nat) ({ cls := "jdk/internal/util/Preconditions", name := "checkFromToIndex", desc := "(IIILjava/util/function/BiFunction;)I" } : Jvm.MethodName) : Cond) ∈ AW := AW_t3 148 rfl rfl
theorem m_723 : (.static ({ cls := "jdk/internal/util/Preconditions", name := "checkFromToIndex", desc := "(IIILjava/util/function/BiFunction;)I" } : Jvm.MethodName) : Cond) ∈ AW := AW_t3 149 rfl rfl
theorem m_724 : (.code ({ cls := "jdk/internal/util/Preconditions", name := "checkFromToIndex", desc := "(IIILjava/util/function/BiFunction;)I" } : Jvm.MethodName) prog_22_method_12_code (4 : Nat) (Option.some FieldType.int) : Cond) ∈ AW := AW_t3 150 rfl rfl
theorem m_725 : (.methodLink "java/lang/StringUTF16" (244 : Nat) ({ cls := "java/lang/StringUTF16", name := "indexOfCharUnsafe", desc := "([BIII)I" } : Jvm.MethodName) : Cond) ∈ AW := AW_t3 151 rfl rfl
theorem m_726 : (.static ({ cls := "java/lang/StringUTF16", name := "indexOfCharUnsafe", desc := "([BIII)I" } : Jvm.MethodName) : Cond) ∈ AW := AW_t3 152 rfl rfl
theorem m_727 : (.code ({ cls := "java/lang/StringUTF16", name := "indexOfCharUnsafe", desc := "([BIII)I" } : Jvm.MethodName) prog_21_method_48_code (5 : Nat) (Option.some FieldType.int) : Cond) ∈ AW := AW_t3 153 rfl rfl
theorem m_728 : (.methodLink "java/lang/StringUTF16" (232 : Nat) ({ cls := "java/lang/StringUTF16", name := "indexOfSupplementary", desc := "([BIII)I" } : Jvm.MethodName) : Cond) ∈ AW := AW_t3 154 rfl rfl
theorem m_729 : (.static ({ cls := "java/lang/StringUTF16", name := "indexOfSupplementary", desc := "([BIII)I" } : Jvm.MethodName) : Cond) ∈ AW := AW_t3 155 rfl rfl
theorem m_730 : (.code ({ cls := "java/lang/StringUTF16", name := "indexOfSupplementary", desc := "([BIII)I" } : Jvm.MethodName) prog_21_method_49_code (7 : Nat) (Option.some FieldType.int) : Cond) ∈ AW := AW_t3 156 rfl rfl
theorem m_731 : (.methodLink "java/lang/StringUTF16" (164 : Nat) ({ cls := "java/lang/Character", name := "isValidCodePoint", desc := "(I)Z" } : Jvm.MethodName) : Cond) ∈ AW := AW_t3 157 rfl rfl
theorem m_732 : (.static ({ cls := "java/lang/Character", name := "isValidCodePoint", desc := "(I)Z" } : Jvm.MethodName) : Cond) ∈ AW := AW_t3 158 rfl rfl
theorem m_733 : (.code ({ cls := "java/lang/Character", name := "isValidCodePoint", desc := "(I)Z" } : Jvm.MethodName) prog_15_method_11_code (2 : Nat) (Option.some FieldType.boolean) : Cond) ∈ AW := AW_t3 159 rfl rfl
theorem m_734 : (.methodLink "java/lang/StringUTF16" (157 : Nat) ({ cls := "java/lang/Character", name := "highSurrogate", desc := "(I)C" } : Jvm.MethodName) : Cond) ∈ AW := AW_t3 160 rfl rfl
theorem m_735 : (.static ({ cls := "java/lang/Character", name := "highSurrogate", desc := "(I)C" } : Jvm.MethodName) : Cond) ∈ AW := AW_t3 161 rfl rfl
theorem m_736 : (.code ({ cls := "java/lang/Character", name := "highSurrogate", desc := "(I)C" } : Jvm.MethodName) prog_15_method_28_code (1 : Nat) (Option.some FieldType.char) : Cond) ∈ AW := AW_t3 162 rfl rfl
theorem m_737 : (.constant "java/lang/Character" (110 : Nat) (55232 : Int32) : Cond) ∈ AW := AW_t3 163 rfl rfl
theorem m_738 : (.methodLink "java/lang/StringUTF16" (161 : Nat) ({ cls := "java/lang/Character", name := "lowSurrogate", desc := "(I)C" } : Jvm.MethodName) : Cond) ∈ AW := AW_t3 164 rfl rfl
theorem m_739 : (.static ({ cls := "java/lang/Character", name := "lowSurrogate", desc := "(I)C" } : Jvm.MethodName) : Cond) ∈ AW := AW_t3 165 rfl rfl
theorem m_740 : (.code ({ cls := "java/lang/Character", name := "lowSurrogate", desc := "(I)C" } : Jvm.MethodName) prog_15_method_29_code (1 : Nat) (Option.some FieldType.char) : Cond) ∈ AW := AW_t3 166 rfl rfl
theorem m_741 : (.constant "java/lang/Character" (76 : Nat) (56320 : Int32) : Cond) ∈ AW := AW_t3 167 rfl rfl
theorem m_742 : (.methodLink "WindWords" (394 : Nat) ({ cls := "WindWords$Grammar", name := "faultOf", desc := "(LWindWords$Tape;LWindWords$Rules;Z)I" } : Jvm.MethodName) : Cond) ∈ AW := AW_t3 168 rfl rfl
theorem m_743 : (.instanceMethod ({ cls := "WindWords$Grammar", name := "faultOf", desc := "(LWindWords$Tape;LWindWords$Rules;Z)I" } : Jvm.MethodName) : Cond) ∈ AW := AW_t3 169 rfl rfl
theorem m_744 : (.selects "WindWords$Grammar" ({ cls := "WindWords$Grammar", name := "faultOf", desc := "(LWindWords$Tape;LWindWords$Rules;Z)I" } : Jvm.MethodName) ({ cls := "WindWords$Grammar", name := "faultOf", desc := "(LWindWords$Tape;LWindWords$Rules;Z)I" } : Jvm.MethodName) : Cond) ∈ AW := AW_t3 170 rfl rfl
theorem m_745 : (.code ({ cls := "WindWords$Grammar", name := "faultOf", desc := "(LWindWords$Tape;LWindWords$Rules;Z)I" } : Jvm.MethodName) prog_3_method_2_code (6 : Nat) (Option.some FieldType.int) : Cond) ∈ AW := AW_t3 171 rfl rfl
theorem m_746 : (.methodLink "WindWords$Grammar" (19 : Nat) ({ cls := "WindWords$Rules", name := "clear", desc := "()V" } : Jvm.MethodName) : Cond) ∈ AW := AW_t3 172 rfl rfl
theorem m_747 : (.instanceMethod ({ cls := "WindWords$Rules", name := "clear", desc := "()V" } : Jvm.MethodName) : Cond) ∈ AW := AW_t3 173 rfl rfl
theorem m_748 : (.selects "WindWords$Rules" ({ cls := "WindWords$Rules", name := "clear", desc := "()V" } : Jvm.MethodName) ({ cls := "WindWords$Rules", name := "clear", desc := "()V" } : Jvm.MethodName) : Cond) ∈ AW := AW_t3 174 rfl rfl
theorem m_749 : (.code ({ cls := "WindWords$Rules", name := "clear", desc := "()V" } : Jvm.MethodName) prog_7_method_2_code (1 : Nat) (Option.none : Option FieldType) : Cond) ∈ AW := AW_t3 175 rfl rfl
theorem m_750 : (.methodLink "WindWords$Grammar" (29 : Nat) ({ cls := "WindWords$Grammar", name := "takesSort", desc := "(LWindWords$Tape;LWindWords$Rules;)Z" } : Jvm.MethodName) : Cond) ∈ AW := AW_t3 176 rfl rfl
theorem m_752 : (.instanceMethod ({ cls := "WindWords$Grammar", name := "takesSort", desc := "(LWindWords$Tape;LWindWords$Rules;)Z" } : Jvm.MethodName) : Cond) ∈ AW := AW_t3 178 rfl rfl
theorem m_753 : (.code ({ cls := "WindWords$Grammar", name := "takesSort", desc := "(LWindWords$Tape;LWindWords$Rules;)Z" } : Jvm.MethodName) prog_3_method_3_code (6 : Nat) (Option.some FieldType.boolean) : Cond) ∈ AW := AW_t3 179 rfl rfl
theorem m_754 : (.methodLink "WindWords$Grammar" (40 : Nat) ({ cls := "WindWords$Tape", name := "codeAt", desc := "(I)I" } : Jvm.MethodName) : Cond) ∈ AW := AW_t3 180 rfl rfl
theorem m_755 : (.instanceMethod ({ cls := "WindWords$Tape", name := "codeAt", desc := "(I)I" } : Jvm.MethodName) : Cond) ∈ AW := AW_t3 181 rfl rfl
theorem m_756 : (.selects "WindWords$Tape" ({ cls := "WindWords$Tape", name := "codeAt", desc := "(I)I" } : Jvm.MethodName) ({ cls := "WindWords$Tape", name := "codeAt", desc := "(I)I" } : Jvm.MethodName) : Cond) ∈ AW := AW_t3 182 rfl rfl
theorem m_757 : (.code ({ cls := "WindWords$Tape", name := "codeAt", desc := "(I)I" } : Jvm.MethodName) prog_11_method_4_code (2 : Nat) (Option.some FieldType.int) : Cond) ∈ AW := AW_t3 183 rfl rfl
theorem m_758 : (.methodLink "WindWords$Grammar" (43 : Nat) ({ cls := "WindWords$Grammar", name := "numberUpTo", desc := "(LWindWords$Tape;I)I" } : Jvm.MethodName) : Cond) ∈ AW := AW_t3 184 rfl rfl
theorem m_760 : (.instanceMethod ({ cls := "WindWords$Grammar", name := "numberUpTo", desc := "(LWindWords$Tape;I)I" } : Jvm.MethodName) : Cond) ∈ AW := AW_t3 186 rfl rfl
theorem m_761 : (.code ({ cls := "WindWords$Grammar", name := "numberUpTo", desc := "(LWindWords$Tape;I)I" } : Jvm.MethodName) prog_3_method_12_code (3 : Nat) (Option.some FieldType.int) : Cond) ∈ AW := AW_t3 187 rfl rfl
theorem m_762 : (.methodLink "WindWords$Grammar" (47 : Nat) ({ cls := "WindWords$Grammar", name := "takes", desc := "(LWindWords$Tape;I)Z" } : Jvm.MethodName) : Cond) ∈ AW := AW_t3 188 rfl rfl
theorem m_764 : (.instanceMethod ({ cls := "WindWords$Grammar", name := "takes", desc := "(LWindWords$Tape;I)Z" } : Jvm.MethodName) : Cond) ∈ AW := AW_t3 190 rfl rfl
theorem m_765 : (.code ({ cls := "WindWords$Grammar", name := "takes", desc := "(LWindWords$Tape;I)Z" } : Jvm.MethodName) prog_3_method_11_code (4 : Nat) (Option.some FieldType.boolean) : Cond) ∈ AW := AW_t3 191 rfl rfl
theorem m_766 : (.methodLink "WindWords$Grammar" (51 : Nat) ({ cls := "WindWords$Grammar", name := "takesCondition", desc := "(LWindWords$Tape;LWindWords$Rules;)Z" } : Jvm.MethodName) : Cond) ∈ AW := AW_t3 192 rfl rfl
theorem m_768 : (.instanceMethod ({ cls := "WindWords$Grammar", name := "takesCondition", desc := "(LWindWords$Tape;LWindWords$Rules;)Z" } : Jvm.MethodName) : Cond) ∈ AW := AW_t3 194 rfl rfl
theorem m_769 : (.code ({ cls := "WindWords$Grammar", name := "takesCondition", desc := "(LWindWords$Tape;LWindWords$Rules;)Z" } : Jvm.MethodName) prog_3_method_6_code (3 : Nat) (Option.some FieldType.boolean) : Cond) ∈ AW := AW_t3 195 rfl rfl
theorem m_770 : (.methodLink "WindWords$Grammar" (61 : Nat) ({ cls := "WindWords$Grammar", name := "takesAny", desc := "(LWindWords$Tape;LWindWords$Rules;I)Z" } : Jvm.MethodName) : Cond) ∈ AW := AW_t3 196 rfl rfl
theorem m_772 : (.instanceMethod ({ cls := "WindWords$Grammar", name := "takesAny", desc := "(LWindWords$Tape;LWindWords$Rules;I)Z" } : Jvm.MethodName) : Cond) ∈ AW := AW_t3 198 rfl rfl
theorem m_773 : (.code ({ cls := "WindWords$Grammar", name := "takesAny", desc := "(LWindWords$Tape;LWindWords$Rules;I)Z" } : Jvm.MethodName) prog_3_method_7_code (5 : Nat) (Option.some FieldType.boolean) : Cond) ∈ AW := AW_t3 199 rfl rfl
theorem m_774 : (.methodLink "WindWords$Grammar" (65 : Nat) ({ cls := "WindWords$Grammar", name := "takesAll", desc := "(LWindWords$Tape;LWindWords$Rules;I)Z" } : Jvm.MethodName) : Cond) ∈ AW := AW_t3 200 rfl rfl
theorem m_776 : (.instanceMethod ({ cls := "WindWords$Grammar", name := "takesAll", desc := "(LWindWords$Tape;LWindWords$Rules;I)Z" } : Jvm.MethodName) : Cond) ∈ AW := AW_t3 202 rfl rfl
theorem m_777 : (.code ({ cls := "WindWords$Grammar", name := "takesAll", desc := "(LWindWords$Tape;LWindWords$Rules;I)Z" } : Jvm.MethodName) prog_3_method_8_code (5 : Nat) (Option.some FieldType.boolean) : Cond) ∈ AW := AW_t3 203 rfl rfl
theorem m_778 : (.methodLink "WindWords$Grammar" (72 : Nat) ({ cls := "WindWords$Grammar", name := "takesOne", desc := "(LWindWords$Tape;LWindWords$Rules;I)Z" } : Jvm.MethodName) : Cond) ∈ AW := AW_t3 204 rfl rfl
theorem m_780 : (.instanceMethod ({ cls := "WindWords$Grammar", name := "takesOne", desc := "(LWindWords$Tape;LWindWords$Rules;I)Z" } : Jvm.MethodName) : Cond) ∈ AW := AW_t3 206 rfl rfl
theorem m_781 : (.code ({ cls := "WindWords$Grammar", name := "takesOne", desc := "(LWindWords$Tape;LWindWords$Rules;I)Z" } : Jvm.MethodName) prog_3_method_9_code (6 : Nat) (Option.some FieldType.boolean) : Cond) ∈ AW := AW_t3 207 rfl rfl
theorem m_782 : (.methodLink "WindWords$Grammar" (75 : Nat) ({ cls := "WindWords$Grammar", name := "takesComparison", desc := "(LWindWords$Tape;LWindWords$Rules;)Z" } : Jvm.MethodName) : Cond) ∈ AW := AW_t3 208 rfl rfl
theorem m_784 : (.instanceMethod ({ cls := "WindWords$Grammar", name := "takesComparison", desc := "(LWindWords$Tape;LWindWords$Rules;)Z" } : Jvm.MethodName) : Cond) ∈ AW := AW_t3 210 rfl rfl
theorem m_785 : (.code ({ cls := "WindWords$Grammar", name := "takesComparison", desc := "(LWindWords$Tape;LWindWords$Rules;)Z" } : Jvm.MethodName) prog_3_method_10_code (7 : Nat) (Option.some FieldType.boolean) : Cond) ∈ AW := AW_t3 211 rfl rfl
theorem m_786 : (.methodLink "WindWords$Grammar" (78 : Nat) ({ cls := "WindWords$Tape", name := "widthAt", desc := "(I)I" } : Jvm.MethodName) : Cond) ∈ AW := AW_t3 212 rfl rfl
theorem m_787 : (.instanceMethod ({ cls := "WindWords$Tape", name := "widthAt", desc := "(I)I" } : Jvm.MethodName) : Cond) ∈ AW := AW_t3 213 rfl rfl
theorem m_788 : (.selects "WindWords$Tape" ({ cls := "WindWords$Tape", name := "widthAt", desc := "(I)I" } : Jvm.MethodName) ({ cls := "WindWords$Tape", name := "widthAt", desc := "(I)I" } : Jvm.MethodName) : Cond) ∈ AW := AW_t3 214 rfl rfl
theorem m_789 : (.code ({ cls := "WindWords$Tape", name := "widthAt", desc := "(I)I" } : Jvm.MethodName) prog_11_method_5_code (2 : Nat) (Option.some FieldType.int) : Cond) ∈ AW := AW_t3 215 rfl rfl
theorem m_790 : (.methodLink "WindWords$Grammar" (81 : Nat) ({ cls := "WindWords$Rules", name := "comparison", desc := "(III)I" } : Jvm.MethodName) : Cond) ∈ AW := AW_t3 216 rfl rfl
theorem m_791 : (.static ({ cls := "WindWords$Rules", name := "comparison", desc := "(III)I" } : Jvm.MethodName) : Cond) ∈ AW := AW_t3 217 rfl rfl
theorem m_792 : (.code ({ cls := "WindWords$Rules", name := "comparison", desc := "(III)I" } : Jvm.MethodName) prog_7_method_6_code (3 : Nat) (Option.some FieldType.int) : Cond) ∈ AW := AW_t3 218 rfl rfl
theorem m_793 : (.methodLink "WindWords$Grammar" (68 : Nat) ({ cls := "WindWords$Rules", name := "addStep", desc := "(I)V" } : Jvm.MethodName) : Cond) ∈ AW := AW_t3 219 rfl rfl
theorem m_794 : (.instanceMethod ({ cls := "WindWords$Rules", name := "addStep", desc := "(I)V" } : Jvm.MethodName) : Cond) ∈ AW := AW_t3 220 rfl rfl
theorem m_795 : (.selects "WindWords$Rules" ({ cls := "WindWords$Rules", name := "addStep", desc := "(I)V" } : Jvm.MethodName) ({ cls := "WindWords$Rules", name := "addStep", desc := "(I)V" } : Jvm.MethodName) : Cond) ∈ AW := AW_t3 221 rfl rfl
theorem m_796 : (.code ({ cls := "WindWords$Rules", name := "addStep", desc := "(I)V" } : Jvm.MethodName) prog_7_method_4_code (2 : Nat) (Option.none : Option FieldType) : Cond) ∈ AW := AW_t3 222 rfl rfl
theorem m_797 : (.methodLink "WindWords$Grammar" (54 : Nat) ({ cls := "WindWords$Rules", name := "add", desc := "(III)V" } : Jvm.MethodName) : Cond) ∈ AW := AW_t3 223 rfl rfl
theorem m_798 : (.instanceMethod ({ cls := "WindWords$Rules", name := "add", desc := "(III)V" } : Jvm.MethodName) : Cond) ∈ AW := AW_t3 224 rfl rfl
theorem m_799 : (.selects "WindWords$Rules" ({ cls := "WindWords$Rules", name := "add", desc := "(III)V" } : Jvm.MethodName) ({ cls := "WindWords$Rules", name := "add", desc := "(III)V" } : Jvm.MethodName) : Cond) ∈ AW := AW_t3 225 rfl rfl
theorem m_800 : (.code ({ cls := "WindWords$Rules", name := "add", desc := "(III)V" } : Jvm.MethodName) prog_7_method_3_code (4 : Nat) (Option.none : Option FieldType) : Cond) ∈ AW := AW_t3 226 rfl rfl
theorem m_801 : (.methodLink "WindWords$Grammar" (33 : Nat) ({ cls := "WindWords$Grammar", name := "takesHabit", desc := "(LWindWords$Tape;LWindWords$Rules;)Z" } : Jvm.MethodName) : Cond) ∈ AW := AW_t3 227 rfl rfl
theorem m_803 : (.instanceMethod ({ cls := "WindWords$Grammar", name := "takesHabit", desc := "(LWindWords$Tape;LWindWords$Rules;)Z" } : Jvm.MethodName) : Cond) ∈ AW := AW_t3 229 rfl rfl
theorem m_804 : (.code ({ cls := "WindWords$Grammar", name := "takesHabit", desc := "(LWindWords$Tape;LWindWords$Rules;)Z" } : Jvm.MethodName) prog_3_method_4_code (5 : Nat) (Option.some FieldType.boolean) : Cond) ∈ AW := AW_t3 230 rfl rfl
theorem m_805 : (.methodLink "WindWords$Grammar" (58 : Nat) ({ cls := "WindWords$Grammar", name := "takesWrite", desc := "(LWindWords$Tape;LWindWords$Rules;)Z" } : Jvm.MethodName) : Cond) ∈ AW := AW_t3 231 rfl rfl
theorem m_807 : (.instanceMethod ({ cls := "WindWords$Grammar", name := "takesWrite", desc := "(LWindWords$Tape;LWindWords$Rules;)Z" } : Jvm.MethodName) : Cond) ∈ AW := AW_t3 233 rfl rfl
theorem m_808 : (.code ({ cls := "WindWords$Grammar", name := "takesWrite", desc := "(LWindWords$Tape;LWindWords$Rules;)Z" } : Jvm.MethodName) prog_3_method_5_code (5 : Nat) (Option.some FieldType.boolean) : Cond) ∈ AW := AW_t3 234 rfl rfl
theorem m_809 : (.methodLink "WindWords$Grammar" (36 : Nat) ({ cls := "WindWords$Tape", name := "placeAt", desc := "(I)I" } : Jvm.MethodName) : Cond) ∈ AW := AW_t3 235 rfl rfl
theorem m_810 : (.instanceMethod ({ cls := "WindWords$Tape", name := "placeAt", desc := "(I)I" } : Jvm.MethodName) : Cond) ∈ AW := AW_t3 236 rfl rfl
theorem m_811 : (.selects "WindWords$Tape" ({ cls := "WindWords$Tape", name := "placeAt", desc := "(I)I" } : Jvm.MethodName) ({ cls := "WindWords$Tape", name := "placeAt", desc := "(I)I" } : Jvm.MethodName) : Cond) ∈ AW := AW_t3 237 rfl rfl
theorem m_812 : (.code ({ cls := "WindWords$Tape", name := "placeAt", desc := "(I)I" } : Jvm.MethodName) prog_11_method_6_code (2 : Nat) (Option.some FieldType.int) : Cond) ∈ AW := AW_t3 238 rfl rfl
theorem m_813 : (.methodLink "WindWords" (181 : Nat) ({ cls := "WindWords$Scales", name := "add", desc := "(LWindWords$Rules;I)I" } : Jvm.MethodName) : Cond) ∈ AW := AW_t3 239 rfl rfl
theorem m_814 : (.instanceMethod ({ cls := "WindWords$Scales", name := "add", desc := "(LWindWords$Rules;I)I" } : Jvm.MethodName) : Cond) ∈ AW := AW_t4 0 rfl rfl
theorem m_815 : (.selects "WindWords$Scales" ({ cls := "WindWords$Scales", name := "add", desc := "(LWindWords$Rules;I)I" } : Jvm.MethodName) ({ cls := "WindWords$Scales", name := "add", desc := "(LWindWords$Rules;I)I" } : Jvm.MethodName) : Cond) ∈ AW := AW_t4 1 rfl rfl
theorem m_816 : (.code ({ cls := "WindWords$Scales", name := "add", desc := "(LWindWords$Rules;I)I" } : Jvm.MethodName) prog_8_method_2_code (3 : Nat) (Option.some FieldType.int) : Cond) ∈ AW := AW_t4 2 rfl rfl
theorem m_817 : (.arrayClass FieldType.byte : Cond) ∈ AW := AW_t4 3 rfl rfl
theorem m_818 : (.methodLink "WindWordsLaw" (51 : Nat) ({ cls := "WindWords", name := "habits", desc := "(II)I" } : Jvm.MethodName) : Cond) ∈ AW := AW_t4 4 rfl rfl
theorem m_819 : (.instanceMethod ({ cls := "WindWords", name := "habits", desc := "(II)I" } : Jvm.MethodName) : Cond) ∈ AW := AW_t4 5 rfl rfl
theorem m_820 : (.selects "WindWords" ({ cls := "WindWords", name := "habits", desc := "(II)I" } : Jvm.MethodName) ({ cls := "WindWords", name := "habits", desc := "(II)I" } : Jvm.MethodName) : Cond) ∈ AW := AW_t4 6 rfl rfl
theorem m_821 : (.code ({ cls := "WindWords", name := "habits", desc := "(II)I" } : Jvm.MethodName) prog_1_method_10_code (5 : Nat) (Option.some FieldType.int) : Cond) ∈ AW := AW_t4 7 rfl rfl
theorem m_822 : (.methodLink "WindWordsLaw" (55 : Nat) ({ cls := "WindWords", name := "fault", desc := "()I" } : Jvm.MethodName) : Cond) ∈ AW := AW_t4 8 rfl rfl
theorem m_823 : (.instanceMethod ({ cls := "WindWords", name := "fault", desc := "()I" } : Jvm.MethodName) : Cond) ∈ AW := AW_t4 9 rfl rfl
theorem m_824 : (.selects "WindWords" ({ cls := "WindWords", name := "fault", desc := "()I" } : Jvm.MethodName) ({ cls := "WindWords", name := "fault", desc := "()I" } : Jvm.MethodName) : Cond) ∈ AW := AW_t4 10 rfl rfl
theorem m_825 : (.code ({ cls := "WindWords", name := "fault", desc := "()I" } : Jvm.MethodName) prog_1_method_11_code (1 : Nat) (Option.some FieldType.int) : Cond) ∈ AW := AW_t4 11 rfl rfl
theorem m_826 : (.methodLink "WindWordsLaw" (59 : Nat) ({ cls := "WindWords", name := "reading", desc := "(II)I" } : Jvm.MethodName) : Cond) ∈ AW := AW_t4 12 rfl rfl
theorem m_827 : (.instanceMethod ({ cls := "WindWords", name := "reading", desc := "(II)I" } : Jvm.MethodName) : Cond) ∈ AW := AW_t4 13 rfl rfl
theorem m_828 : (.selects "WindWords" ({ cls := "WindWords", name := "reading", desc := "(II)I" } : Jvm.MethodName) ({ cls := "WindWords", name := "reading", desc := "(II)I" } : Jvm.MethodName) : Cond) ∈ AW := AW_t4 14 rfl rfl
theorem m_829 : (.code ({ cls := "WindWords", name := "reading", desc := "(II)I" } : Jvm.MethodName) prog_1_method_12_code (4 : Nat) (Option.some FieldType.int) : Cond) ∈ AW := AW_t4 15 rfl rfl
theorem m_830 : (.methodLink "WindWords" (187 : Nat) ({ cls := "WindWords$Fleet", name := "readingAt", desc := "(I)LWindWords$Reading;" } : Jvm.MethodName) : Cond) ∈ AW := AW_t4 16 rfl rfl
theorem m_831 : (.instanceMethod ({ cls := "WindWords$Fleet", name := "readingAt", desc := "(I)LWindWords$Reading;" } : Jvm.MethodName) : Cond) ∈ AW := AW_t4 17 rfl rfl
theorem m_832 : (.selects "WindWords$Fleet" ({ cls := "WindWords$Fleet", name := "readingAt", desc := "(I)LWindWords$Reading;" } : Jvm.MethodName) ({ cls := "WindWords$Fleet", name := "readingAt", desc := "(I)LWindWords$Reading;" } : Jvm.MethodName) : Cond) ∈ AW := AW_t4 18 rfl rfl
theorem m_833 : (.code ({ cls := "WindWords$Fleet", name := "readingAt", desc := "(I)LWindWords$Reading;" } : Jvm.MethodName) prog_2_method_9_code (2 : Nat) (Option.some (FieldType.object "WindWords$Reading")) : Cond) ∈ AW := AW_t4 19 rfl rfl
theorem m_834 : (.methodLink "WindWords" (215 : Nat) ({ cls := "WindWords$Reading", name := "writer", desc := "()I" } : Jvm.MethodName) : Cond) ∈ AW := AW_t4 20 rfl rfl
theorem m_835 : (.instanceMethod ({ cls := "WindWords$Reading", name := "writer", desc := "()I" } : Jvm.MethodName) : Cond) ∈ AW := AW_t4 21 rfl rfl
theorem m_836 : (.selects "WindWords$Reading" ({ cls := "WindWords$Reading", name := "writer", desc := "()I" } : Jvm.MethodName) ({ cls := "WindWords$Reading", name := "writer", desc := "()I" } : Jvm.MethodName) : Cond) ∈ AW := AW_t4 22 rfl rfl
theorem m_837 : (.code ({ cls := "WindWords$Reading", name := "writer", desc := "()I" } : Jvm.MethodName) prog_6_method_3_code (1 : Nat) (Option.some FieldType.int) : Cond) ∈ AW := AW_t4 23 rfl rfl
theorem m_838 : (.methodLink "WindWords$Reading" (37 : Nat) ({ cls := "WindWords$Ship", name := "officerOn", desc := "(I)I" } : Jvm.MethodName) : Cond) ∈ AW := AW_t4 24 rfl rfl
theorem m_839 : (.instanceMethod ({ cls := "WindWords$Ship", name := "officerOn", desc := "(I)I" } : Jvm.MethodName) : Cond) ∈ AW := AW_t4 25 rfl rfl
theorem m_840 : (.selects "WindWords$Ship" ({ cls := "WindWords$Ship", name := "officerOn", desc := "(I)I" } : Jvm.MethodName) ({ cls := "WindWords$Ship", name := "officerOn", desc := "(I)I" } : Jvm.MethodName) : Cond) ∈ AW := AW_t4 26 rfl rfl
theorem m_841 : (.code ({ cls := "WindWords$Ship", name := "officerOn", desc := "(I)I" } : Jvm.MethodName) prog_9_method_3_code (2 : Nat) (Option.some FieldType.int) : Cond) ∈ AW := AW_t4 27 rfl rfl
theorem m_842 : (.methodLink "WindWords" (219 : Nat) ({ cls := "WindWords", name := "isCopied", desc := "(LWindWords$Reading;)Z" } : Jvm.MethodName) : Cond) ∈ AW := AW_t4 28 rfl rfl
theorem m_844 : (.instanceMethod ({ cls := "WindWords", name := "isCopied", desc := "(LWindWords$Reading;)Z" } : Jvm.MethodName) : Cond) ∈ AW := AW_t4 30 rfl rfl
theorem m_845 : (.code ({ cls := "WindWords", name := "isCopied", desc := "(LWindWords$Reading;)Z" } : Jvm.MethodName) prog_1_method_50_code (6 : Nat) (Option.some FieldType.boolean) : Cond) ∈ AW := AW_t4 31 rfl rfl
theorem m_846 : (.methodLink "WindWords" (315 : Nat) ({ cls := "WindWords", name := "repeats", desc := "(LWindWords$Reading;)Z" } : Jvm.MethodName) : Cond) ∈ AW := AW_t4 32 rfl rfl
theorem m_847 : (.static ({ cls := "WindWords", name := "repeats", desc := "(LWindWords$Reading;)Z" } : Jvm.MethodName) : Cond) ∈ AW := AW_t4 33 rfl rfl
theorem m_848 : (.code ({ cls := "WindWords", name := "repeats", desc := "(LWindWords$Reading;)Z" } : Jvm.MethodName) prog_1_method_49_code (2 : Nat) (Option.some FieldType.boolean) : Cond) ∈ AW := AW_t4 34 rfl rfl
theorem m_849 : (.methodLink "WindWords" (312 : Nat) ({ cls := "WindWords", name := "follows", desc := "(LWindWords$Reading;)Z" } : Jvm.MethodName) : Cond) ∈ AW := AW_t4 35 rfl rfl
theorem m_850 : (.static ({ cls := "WindWords", name := "follows", desc := "(LWindWords$Reading;)Z" } : Jvm.MethodName) : Cond) ∈ AW := AW_t4 36 rfl rfl
theorem m_851 : (.code ({ cls := "WindWords", name := "follows", desc := "(LWindWords$Reading;)Z" } : Jvm.MethodName) prog_1_method_48_code (2 : Nat) (Option.some FieldType.boolean) : Cond) ∈ AW := AW_t4 37 rfl rfl
theorem m_852 : (.methodLink "WindWords" (419 : Nat) ({ cls := "WindWords$Reading", name := "isMans", desc := "()Z" } : Jvm.MethodName) : Cond) ∈ AW := AW_t4 38 rfl rfl
theorem m_853 : (.instanceMethod ({ cls := "WindWords$Reading", name := "isMans", desc := "()Z" } : Jvm.MethodName) : Cond) ∈ AW := AW_t4 39 rfl rfl
theorem m_854 : (.selects "WindWords$Reading" ({ cls := "WindWords$Reading", name := "isMans", desc := "()Z" } : Jvm.MethodName) ({ cls := "WindWords$Reading", name := "isMans", desc := "()Z" } : Jvm.MethodName) : Cond) ∈ AW := AW_t4 40 rfl rfl
theorem m_855 : (.code ({ cls := "WindWords$Reading", name := "isMans", desc := "()Z" } : Jvm.MethodName) prog_6_method_2_code (1 : Nat) (Option.some FieldType.boolean) : Cond) ∈ AW := AW_t4 41 rfl rfl
theorem m_856 : (.methodLink "WindWords" (423 : Nat) ({ cls := "WindWords$Fleet", name := "mansBeside", desc := "(LWindWords$Reading;I)LWindWords$Reading;" } : Jvm.MethodName) : Cond) ∈ AW := AW_t4 42 rfl rfl
theorem m_857 : (.instanceMethod ({ cls := "WindWords$Fleet", name := "mansBeside", desc := "(LWindWords$Reading;I)LWindWords$Reading;" } : Jvm.MethodName) : Cond) ∈ AW := AW_t4 43 rfl rfl
theorem m_858 : (.selects "WindWords$Fleet" ({ cls := "WindWords$Fleet", name := "mansBeside", desc := "(LWindWords$Reading;I)LWindWords$Reading;" } : Jvm.MethodName) ({ cls := "WindWords$Fleet", name := "mansBeside", desc := "(LWindWords$Reading;I)LWindWords$Reading;" } : Jvm.MethodName) : Cond) ∈ AW := AW_t4 44 rfl rfl
theorem m_859 : (.code ({ cls := "WindWords$Fleet", name := "mansBeside", desc := "(LWindWords$Reading;I)LWindWords$Reading;" } : Jvm.MethodName) prog_2_method_13_code (4 : Nat) (Option.some (FieldType.object "WindWords$Reading")) : Cond) ∈ AW := AW_t4 45 rfl rfl
theorem m_860 : (.methodLink "WindWords$Fleet" (111 : Nat) ({ cls := "WindWords$Fleet", name := "beside", desc := "(LWindWords$Reading;I)LWindWords$Reading;" } : Jvm.MethodName) : Cond) ∈ AW := AW_t4 46 rfl rfl
theorem m_862 : (.instanceMethod ({ cls := "WindWords$Fleet", name := "beside", desc := "(LWindWords$Reading;I)LWindWords$Reading;" } : Jvm.MethodName) : Cond) ∈ AW := AW_t4 48 rfl rfl
theorem m_863 : (.code ({ cls := "WindWords$Fleet", name := "beside", desc := "(LWindWords$Reading;I)LWindWords$Reading;" } : Jvm.MethodName) prog_2_method_12_code (5 : Nat) (Option.some (FieldType.object "WindWords$Reading")) : Cond) ∈ AW := AW_t4 49 rfl rfl
theorem m_864 : (.methodLink "WindWords$Fleet" (97 : Nat) ({ cls := "WindWords$Fleet", name := "shipAt", desc := "(I)LWindWords$Ship;" } : Jvm.MethodName) : Cond) ∈ AW := AW_t4 50 rfl rfl
theorem m_865 : (.methodLink "WindWords$Fleet" (102 : Nat) ({ cls := "WindWords$Ship", name := "readingOn", desc := "(I)LWindWords$Reading;" } : Jvm.MethodName) : Cond) ∈ AW := AW_t4 51 rfl rfl
theorem m_867 : (.static ({ cls := "WindWords", name := "far", desc := "(II)I" } : Jvm.MethodName) : Cond) ∈ AW := AW_t4 53 rfl rfl
theorem m_868 : (.code ({ cls := "WindWords", name := "far", desc := "(II)I" } : Jvm.MethodName) prog_1_method_36_code (2 : Nat) (Option.some FieldType.int) : Cond) ∈ AW := AW_t4 54 rfl rfl
theorem m_869 : (.methodLink "WindWords" (388 : Nat) ({ cls := "java/lang/Math", name := "abs", desc := "(I)I" } : Jvm.MethodName) : Cond) ∈ AW := AW_t4 55 rfl rfl
theorem m_870 : (.static ({ cls := "java/lang/Math", name := "abs", desc := "(I)I" } : Jvm.MethodName) : Cond) ∈ AW := AW_t4 56 rfl rfl
theorem m_871 : (.code ({ cls := "java/lang/Math", name := "abs", desc := "(I)I" } : Jvm.MethodName) prog_18_method_59_code (1 : Nat) (Option.some FieldType.int) : Cond) ∈ AW := AW_t4 57 rfl rfl
theorem m_872 : (.methodLink "WindWords" (385 : Nat) ({ cls := "java/lang/Math", name := "max", desc := "(II)I" } : Jvm.MethodName) : Cond) ∈ AW := AW_t4 58 rfl rfl
theorem m_873 : (.methodLink "WindWords$Fleet" (83 : Nat) ({ cls := "WindWords$Reading", name := "isMans", desc := "()Z" } : Jvm.MethodName) : Cond) ∈ AW := AW_t4 59 rfl rfl
theorem m_874 : (.methodLink "WindWordsLaw" (63 : Nat) ({ cls := "WindWords", name := "reads", desc := "(IIII)I" } : Jvm.MethodName) : Cond) ∈ AW := AW_t4 60 rfl rfl
theorem m_875 : (.instanceMethod ({ cls := "WindWords", name := "reads", desc := "(IIII)I" } : Jvm.MethodName) : Cond) ∈ AW := AW_t4 61 rfl rfl
theorem m_876 : (.selects "WindWords" ({ cls := "WindWords", name := "reads", desc := "(IIII)I" } : Jvm.MethodName) ({ cls := "WindWords", name := "reads", desc := "(IIII)I" } : Jvm.MethodName) : Cond) ∈ AW := AW_t4 62 rfl rfl
theorem m_877 : (.code ({ cls := "WindWords", name := "reads", desc := "(IIII)I" } : Jvm.MethodName) prog_1_method_13_code (5 : Nat) (Option.some FieldType.int) : Cond) ∈ AW := AW_t4 63 rfl rfl
theorem m_878 : (.methodLink "WindWords" (223 : Nat) ({ cls := "WindWords$Scales", name := "ofYear", desc := "(I)I" } : Jvm.MethodName) : Cond) ∈ AW := AW_t4 64 rfl rfl
theorem m_879 : (.instanceMethod ({ cls := "WindWords$Scales", name := "ofYear", desc := "(I)I" } : Jvm.MethodName) : Cond) ∈ AW := AW_t4 65 rfl rfl
theorem m_880 : (.selects "WindWords$Scales" ({ cls := "WindWords$Scales", name := "ofYear", desc := "(I)I" } : Jvm.MethodName) ({ cls := "WindWords$Scales", name := "ofYear", desc := "(I)I" } : Jvm.MethodName) : Cond) ∈ AW := AW_t4 66 rfl rfl
theorem m_881 : (.code ({ cls := "WindWords$Scales", name := "ofYear", desc := "(I)I" } : Jvm.MethodName) prog_8_method_3_code (4 : Nat) (Option.some FieldType.int) : Cond) ∈ AW := AW_t4 67 rfl rfl
theorem m_882 : (.methodLink "WindWords" (227 : Nat) ({ cls := "WindWords$Scales", name := "numberFor", desc := "(IIIII)I" } : Jvm.MethodName) : Cond) ∈ AW := AW_t4 68 rfl rfl
theorem m_883 : (.instanceMethod ({ cls := "WindWords$Scales", name := "numberFor", desc := "(IIIII)I" } : Jvm.MethodName) : Cond) ∈ AW := AW_t4 69 rfl rfl
theorem m_884 : (.selects "WindWords$Scales" ({ cls := "WindWords$Scales", name := "numberFor", desc := "(IIIII)I" } : Jvm.MethodName) ({ cls := "WindWords$Scales", name := "numberFor", desc := "(IIIII)I" } : Jvm.MethodName) : Cond) ∈ AW := AW_t4 70 rfl rfl
theorem m_885 : (.code ({ cls := "WindWords$Scales", name := "numberFor", desc := "(IIIII)I" } : Jvm.MethodName) prog_8_method_6_code (7 : Nat) (Option.some FieldType.int) : Cond) ∈ AW := AW_t4 71 rfl rfl
theorem m_886 : (.methodLink "WindWords$Scales" (44 : Nat) ({ cls := "WindWords$Scales", name := "rulesOf", desc := "(I)LWindWords$Rules;" } : Jvm.MethodName) : Cond) ∈ AW := AW_t4 72 rfl rfl
theorem m_888 : (.instanceMethod ({ cls := "WindWords$Scales", name := "rulesOf", desc := "(I)LWindWords$Rules;" } : Jvm.MethodName) : Cond) ∈ AW := AW_t4 74 rfl rfl
theorem m_889 : (.code ({ cls := "WindWords$Scales", name := "rulesOf", desc := "(I)LWindWords$Rules;" } : Jvm.MethodName) prog_8_method_4_code (2 : Nat) (Option.some (FieldType.object "WindWords$Rules")) : Cond) ∈ AW := AW_t4 75 rfl rfl
theorem m_891 : (.methodLink "WindWords$Scales" (48 : Nat) ({ cls := "java/lang/Math", name := "min", desc := "(II)I" } : Jvm.MethodName) : Cond) ∈ AW := AW_t4 77 rfl rfl
theorem m_892 : (.methodLink "WindWords$Scales" (54 : Nat) ({ cls := "WindWords$Scales", name := "ask", desc := "(II)V" } : Jvm.MethodName) : Cond) ∈ AW := AW_t4 78 rfl rfl
theorem m_894 : (.instanceMethod ({ cls := "WindWords$Scales", name := "ask", desc := "(II)V" } : Jvm.MethodName) : Cond) ∈ AW := AW_t4 80 rfl rfl
theorem m_895 : (.code ({ cls := "WindWords$Scales", name := "ask", desc := "(II)V" } : Jvm.MethodName) prog_8_method_5_code (3 : Nat) (Option.none : Option FieldType) : Cond) ∈ AW := AW_t4 81 rfl rfl
theorem m_896 : (.methodLink "WindWords$Scales" (58 : Nat) ({ cls := "WindWords$Rules", name := "greatest", desc := "(II[I)I" } : Jvm.MethodName) : Cond) ∈ AW := AW_t4 82 rfl rfl
theorem m_897 : (.instanceMethod ({ cls := "WindWords$Rules", name := "greatest", desc := "(II[I)I" } : Jvm.MethodName) : Cond) ∈ AW := AW_t4 83 rfl rfl
theorem m_898 : (.selects "WindWords$Rules" ({ cls := "WindWords$Rules", name := "greatest", desc := "(II[I)I" } : Jvm.MethodName) ({ cls := "WindWords$Rules", name := "greatest", desc := "(II[I)I" } : Jvm.MethodName) : Cond) ∈ AW := AW_t4 84 rfl rfl
theorem m_899 : (.code ({ cls := "WindWords$Rules", name := "greatest", desc := "(II[I)I" } : Jvm.MethodName) prog_7_method_8_code (6 : Nat) (Option.some FieldType.int) : Cond) ∈ AW := AW_t4 85 rfl rfl
theorem m_900 : (.methodLink "WindWords$Rules" (42 : Nat) ({ cls := "WindWords$Rules", name := "holds", desc := "(I[I)Z" } : Jvm.MethodName) : Cond) ∈ AW := AW_t4 86 rfl rfl
theorem m_901 : (.instanceMethod ({ cls := "WindWords$Rules", name := "holds", desc := "(I[I)Z" } : Jvm.MethodName) : Cond) ∈ AW := AW_t4 87 rfl rfl
theorem m_902 : (.selects "WindWords$Rules" ({ cls := "WindWords$Rules", name := "holds", desc := "(I[I)Z" } : Jvm.MethodName) ({ cls := "WindWords$Rules", name := "holds", desc := "(I[I)Z" } : Jvm.MethodName) : Cond) ∈ AW := AW_t4 88 rfl rfl
theorem m_903 : (.code ({ cls := "WindWords$Rules", name := "holds", desc := "(I[I)Z" } : Jvm.MethodName) prog_7_method_5_code (7 : Nat) (Option.some FieldType.boolean) : Cond) ∈ AW := AW_t4 89 rfl rfl
theorem m_904 : (.constantLong "WindWords$Rules" (36 : Nat) (-2 : Int64) : Cond) ∈ AW := AW_t4 90 rfl rfl
theorem m_905 : (.methodLink "WindWords$Rules" (38 : Nat) ({ cls := "WindWords$Rules", name := "compares", desc := "(I[I)Z" } : Jvm.MethodName) : Cond) ∈ AW := AW_t4 91 rfl rfl
theorem m_906 : (.static ({ cls := "WindWords$Rules", name := "compares", desc := "(I[I)Z" } : Jvm.MethodName) : Cond) ∈ AW := AW_t4 92 rfl rfl
theorem m_907 : (.code ({ cls := "WindWords$Rules", name := "compares", desc := "(I[I)Z" } : Jvm.MethodName) prog_7_method_7_code (5 : Nat) (Option.some FieldType.boolean) : Cond) ∈ AW := AW_t4 93 rfl rfl
theorem m_908 : (.methodLink "WindWordsLaw" (68 : Nat) ({ cls := "WindWords", name := "blow", desc := "(IIIII)I" } : Jvm.MethodName) : Cond) ∈ AW := AW_t4 94 rfl rfl
theorem m_909 : (.instanceMethod ({ cls := "WindWords", name := "blow", desc := "(IIIII)I" } : Jvm.MethodName) : Cond) ∈ AW := AW_t4 95 rfl rfl
theorem m_910 : (.selects "WindWords" ({ cls := "WindWords", name := "blow", desc := "(IIIII)I" } : Jvm.MethodName) ({ cls := "WindWords", name := "blow", desc := "(IIIII)I" } : Jvm.MethodName) : Cond) ∈ AW := AW_t4 96 rfl rfl
theorem m_911 : (.code ({ cls := "WindWords", name := "blow", desc := "(IIIII)I" } : Jvm.MethodName) prog_1_method_14_code (9 : Nat) (Option.some FieldType.int) : Cond) ∈ AW := AW_t4 97 rfl rfl
theorem m_912 : (.methodLink "WindWords" (234 : Nat) ({ cls := "WindWords", name := "written", desc := "(LWindWords$Ship;II)I" } : Jvm.MethodName) : Cond) ∈ AW := AW_t4 98 rfl rfl
theorem m_914 : (.instanceMethod ({ cls := "WindWords", name := "written", desc := "(LWindWords$Ship;II)I" } : Jvm.MethodName) : Cond) ∈ AW := AW_t4 100 rfl rfl
theorem m_915 : (.code ({ cls := "WindWords", name := "written", desc := "(LWindWords$Ship;II)I" } : Jvm.MethodName) prog_1_method_41_code (6 : Nat) (Option.some FieldType.int) : Cond) ∈ AW := AW_t4 101 rfl rfl
theorem m_916 : (.methodLink "WindWords" (398 : Nat) ({ cls := "WindWords$Ship", name := "officerOn", desc := "(I)I" } : Jvm.MethodName) : Cond) ∈ AW := AW_t4 102 rfl rfl
theorem m_917 : (.methodLink "WindWords" (401 : Nat) ({ cls := "WindWords$Rules", name := "written", desc := "(I[I)I" } : Jvm.MethodName) : Cond) ∈ AW := AW_t4 103 rfl rfl
theorem m_918 : (.instanceMethod ({ cls := "WindWords$Rules", name := "written", desc := "(I[I)I" } : Jvm.MethodName) : Cond) ∈ AW := AW_t4 104 rfl rfl
theorem m_919 : (.selects "WindWords$Rules" ({ cls := "WindWords$Rules", name := "written", desc := "(I[I)I" } : Jvm.MethodName) ({ cls := "WindWords$Rules", name := "written", desc := "(I[I)I" } : Jvm.MethodName) : Cond) ∈ AW := AW_t4 105 rfl rfl
theorem m_920 : (.code ({ cls := "WindWords$Rules", name := "written", desc := "(I[I)I" } : Jvm.MethodName) prog_7_method_10_code (5 : Nat) (Option.some FieldType.int) : Cond) ∈ AW := AW_t4 106 rfl rfl
theorem m_922 : (.static ({ cls := "WindWords", name := "held", desc := "(I)I" } : Jvm.MethodName) : Cond) ∈ AW := AW_t4 108 rfl rfl
theorem m_923 : (.code ({ cls := "WindWords", name := "held", desc := "(I)I" } : Jvm.MethodName) prog_1_method_35_code (1 : Nat) (Option.some FieldType.int) : Cond) ∈ AW := AW_t4 109 rfl rfl
theorem m_924 : (.methodLink "WindWords" (380 : Nat) ({ cls := "java/lang/Math", name := "min", desc := "(II)I" } : Jvm.MethodName) : Cond) ∈ AW := AW_t4 110 rfl rfl
theorem m_925 : (.methodLink "WindWordsLaw" (72 : Nat) ({ cls := "WindWords", name := "run", desc := "(IIIII)I" } : Jvm.MethodName) : Cond) ∈ AW := AW_t4 111 rfl rfl
theorem m_926 : (.instanceMethod ({ cls := "WindWords", name := "run", desc := "(IIIII)I" } : Jvm.MethodName) : Cond) ∈ AW := AW_t4 112 rfl rfl
theorem m_927 : (.selects "WindWords" ({ cls := "WindWords", name := "run", desc := "(IIIII)I" } : Jvm.MethodName) ({ cls := "WindWords", name := "run", desc := "(IIIII)I" } : Jvm.MethodName) : Cond) ∈ AW := AW_t4 113 rfl rfl
theorem m_928 : (.code ({ cls := "WindWords", name := "run", desc := "(IIIII)I" } : Jvm.MethodName) prog_1_method_15_code (12 : Nat) (Option.some FieldType.int) : Cond) ∈ AW := AW_t4 114 rfl rfl
theorem m_929 : (.constant "WindWords" (238 : Nat) (999999999 : Int32) : Cond) ∈ AW := AW_t4 115 rfl rfl
theorem m_930 : (.methodLink "WindWords" (239 : Nat) ({ cls := "WindWords$Scales", name := "fillRow", desc := "([IIIII)V" } : Jvm.MethodName) : Cond) ∈ AW := AW_t4 116 rfl rfl
theorem m_931 : (.instanceMethod ({ cls := "WindWords$Scales", name := "fillRow", desc := "([IIIII)V" } : Jvm.MethodName) : Cond) ∈ AW := AW_t4 117 rfl rfl
theorem m_932 : (.selects "WindWords$Scales" ({ cls := "WindWords$Scales", name := "fillRow", desc := "([IIIII)V" } : Jvm.MethodName) ({ cls := "WindWords$Scales", name := "fillRow", desc := "([IIIII)V" } : Jvm.MethodName) : Cond) ∈ AW := AW_t4 118 rfl rfl
theorem m_933 : (.code ({ cls := "WindWords$Scales", name := "fillRow", desc := "([IIIII)V" } : Jvm.MethodName) prog_8_method_7_code (8 : Nat) (Option.none : Option FieldType) : Cond) ∈ AW := AW_t4 119 rfl rfl
theorem m_934 : (.methodLink "WindWords$Scales" (62 : Nat) ({ cls := "WindWords$Rules", name := "fillRow", desc := "([II[I)V" } : Jvm.MethodName) : Cond) ∈ AW := AW_t4 120 rfl rfl
theorem m_935 : (.instanceMethod ({ cls := "WindWords$Rules", name := "fillRow", desc := "([II[I)V" } : Jvm.MethodName) : Cond) ∈ AW := AW_t4 121 rfl rfl
theorem m_936 : (.selects "WindWords$Rules" ({ cls := "WindWords$Rules", name := "fillRow", desc := "([II[I)V" } : Jvm.MethodName) ({ cls := "WindWords$Rules", name := "fillRow", desc := "([II[I)V" } : Jvm.MethodName) : Cond) ∈ AW := AW_t4 122 rfl rfl
theorem m_937 : (.code ({ cls := "WindWords$Rules", name := "fillRow", desc := "([II[I)V" } : Jvm.MethodName) prog_7_method_9_code (5 : Nat) (Option.none : Option FieldType) : Cond) ∈ AW := AW_t4 123 rfl rfl
theorem m_939 : (.methodLink "WindWords$Rules" (49 : Nat) ({ cls := "java/lang/Math", name := "max", desc := "(II)I" } : Jvm.MethodName) : Cond) ∈ AW := AW_t4 125 rfl rfl
theorem m_940 : (.constantLong "WindWords" (243 : Nat) (6364136223846793005 : Int64) : Cond) ∈ AW := AW_t4 126 rfl rfl
theorem m_941 : (.constantLong "WindWords" (245 : Nat) (1442695040888963407 : Int64) : Cond) ∈ AW := AW_t4 127 rfl rfl
theorem m_942 : (.constantLong "WindWords" (247 : Nat) (100 : Int64) : Cond) ∈ AW := AW_t4 128 rfl rfl
theorem m_943 : (.methodLink "WindWordsLaw" (76 : Nat) ({ cls := "WindWords", name := "column", desc := "(IIIII)I" } : Jvm.MethodName) : Cond) ∈ AW := AW_t4 129 rfl rfl
theorem m_944 : (.instanceMethod ({ cls := "WindWords", name := "column", desc := "(IIIII)I" } : Jvm.MethodName) : Cond) ∈ AW := AW_t4 130 rfl rfl
theorem m_945 : (.selects "WindWords" ({ cls := "WindWords", name := "column", desc := "(IIIII)I" } : Jvm.MethodName) ({ cls := "WindWords", name := "column", desc := "(IIIII)I" } : Jvm.MethodName) : Cond) ∈ AW := AW_t4 131 rfl rfl
theorem m_946 : (.code ({ cls := "WindWords", name := "column", desc := "(IIIII)I" } : Jvm.MethodName) prog_1_method_16_code (6 : Nat) (Option.some FieldType.int) : Cond) ∈ AW := AW_t4 132 rfl rfl
theorem m_947 : (.methodLink "WindWords" (249 : Nat) ({ cls := "WindWords", name := "leastWind", desc := "([III)I" } : Jvm.MethodName) : Cond) ∈ AW := AW_t4 133 rfl rfl
theorem m_948 : (.static ({ cls := "WindWords", name := "leastWind", desc := "([III)I" } : Jvm.MethodName) : Cond) ∈ AW := AW_t4 134 rfl rfl
theorem m_949 : (.code ({ cls := "WindWords", name := "leastWind", desc := "([III)I" } : Jvm.MethodName) prog_1_method_37_code (4 : Nat) (Option.some FieldType.int) : Cond) ∈ AW := AW_t4 135 rfl rfl
theorem m_950 : (.methodLink "WindWords" (253 : Nat) ({ cls := "WindWords", name := "greatestWind", desc := "([III)I" } : Jvm.MethodName) : Cond) ∈ AW := AW_t4 136 rfl rfl
theorem m_951 : (.static ({ cls := "WindWords", name := "greatestWind", desc := "([III)I" } : Jvm.MethodName) : Cond) ∈ AW := AW_t4 137 rfl rfl
theorem m_952 : (.code ({ cls := "WindWords", name := "greatestWind", desc := "([III)I" } : Jvm.MethodName) prog_1_method_38_code (4 : Nat) (Option.some FieldType.int) : Cond) ∈ AW := AW_t4 138 rfl rfl
theorem m_953 : (.methodLink "WindWordsLaw" (80 : Nat) ({ cls := "WindWords", name := "turn", desc := "(IIIII)I" } : Jvm.MethodName) : Cond) ∈ AW := AW_t4 139 rfl rfl
theorem m_954 : (.instanceMethod ({ cls := "WindWords", name := "turn", desc := "(IIIII)I" } : Jvm.MethodName) : Cond) ∈ AW := AW_t4 140 rfl rfl
theorem m_955 : (.selects "WindWords" ({ cls := "WindWords", name := "turn", desc := "(IIIII)I" } : Jvm.MethodName) ({ cls := "WindWords", name := "turn", desc := "(IIIII)I" } : Jvm.MethodName) : Cond) ∈ AW := AW_t4 141 rfl rfl
theorem m_956 : (.code ({ cls := "WindWords", name := "turn", desc := "(IIIII)I" } : Jvm.MethodName) prog_1_method_17_code (6 : Nat) (Option.some FieldType.int) : Cond) ∈ AW := AW_t4 142 rfl rfl
theorem m_957 : (.methodLink "WindWords" (256 : Nat) ({ cls := "WindWords$Scales", name := "turnInto", desc := "(IIIII)Z" } : Jvm.MethodName) : Cond) ∈ AW := AW_t4 143 rfl rfl
theorem m_958 : (.instanceMethod ({ cls := "WindWords$Scales", name := "turnInto", desc := "(IIIII)Z" } : Jvm.MethodName) : Cond) ∈ AW := AW_t4 144 rfl rfl
theorem m_959 : (.selects "WindWords$Scales" ({ cls := "WindWords$Scales", name := "turnInto", desc := "(IIIII)Z" } : Jvm.MethodName) ({ cls := "WindWords$Scales", name := "turnInto", desc := "(IIIII)Z" } : Jvm.MethodName) : Cond) ∈ AW := AW_t4 145 rfl rfl
theorem m_960 : (.code ({ cls := "WindWords$Scales", name := "turnInto", desc := "(IIIII)Z" } : Jvm.MethodName) prog_8_method_8_code (8 : Nat) (Option.some FieldType.boolean) : Cond) ∈ AW := AW_t4 146 rfl rfl
theorem m_961 : (.methodLink "WindWords$Scales" (66 : Nat) ({ cls := "WindWords$Scales", name := "ofYear", desc := "(I)I" } : Jvm.MethodName) : Cond) ∈ AW := AW_t4 147 rfl rfl
theorem m_962 : (.methodLink "WindWords$Scales" (70 : Nat) ({ cls := "WindWords$Scales", name := "fillRow", desc := "([IIIII)V" } : Jvm.MethodName) : Cond) ∈ AW := AW_t4 148 rfl rfl
theorem m_963 : (.methodLink "WindWords$Scales" (73 : Nat) ({ cls := "WindWords$Scales", name := "tellTurned", desc := "(I)V" } : Jvm.MethodName) : Cond) ∈ AW := AW_t4 149 rfl rfl
theorem m_965 : (.instanceMethod ({ cls := "WindWords$Scales", name := "tellTurned", desc := "(I)V" } : Jvm.MethodName) : Cond) ∈ AW := AW_t4 151 rfl rfl
theorem m_966 : (.code ({ cls := "WindWords$Scales", name := "tellTurned", desc := "(I)V" } : Jvm.MethodName) prog_8_method_9_code (6 : Nat) (Option.none : Option FieldType) : Cond) ∈ AW := AW_t4 152 rfl rfl
theorem m_967 : (.methodLink "WindWordsLaw" (84 : Nat) ({ cls := "WindWords", name := "tight", desc := "()I" } : Jvm.MethodName) : Cond) ∈ AW := AW_t4 153 rfl rfl
theorem m_968 : (.instanceMethod ({ cls := "WindWords", name := "tight", desc := "()I" } : Jvm.MethodName) : Cond) ∈ AW := AW_t4 154 rfl rfl
theorem m_969 : (.selects "WindWords" ({ cls := "WindWords", name := "tight", desc := "()I" } : Jvm.MethodName) ({ cls := "WindWords", name := "tight", desc := "()I" } : Jvm.MethodName) : Cond) ∈ AW := AW_t4 155 rfl rfl
theorem m_970 : (.code ({ cls := "WindWords", name := "tight", desc := "()I" } : Jvm.MethodName) prog_1_method_18_code (1 : Nat) (Option.some FieldType.int) : Cond) ∈ AW := AW_t4 156 rfl rfl
theorem m_971 : (.methodLink "WindWords" (263 : Nat) ({ cls := "WindWords$Leans", name := "solve", desc := "(LWindWords$Fleet;LWindWords$Scales;)Z" } : Jvm.MethodName) : Cond) ∈ AW := AW_t4 157 rfl rfl
theorem m_972 : (.instanceMethod ({ cls := "WindWords$Leans", name := "solve", desc := "(LWindWords$Fleet;LWindWords$Scales;)Z" } : Jvm.MethodName) : Cond) ∈ AW := AW_t4 158 rfl rfl
theorem m_973 : (.selects "WindWords$Leans" ({ cls := "WindWords$Leans", name := "solve", desc := "(LWindWords$Fleet;LWindWords$Scales;)Z" } : Jvm.MethodName) ({ cls := "WindWords$Leans", name := "solve", desc := "(LWindWords$Fleet;LWindWords$Scales;)Z" } : Jvm.MethodName) : Cond) ∈ AW := AW_t4 159 rfl rfl
theorem m_974 : (.code ({ cls := "WindWords$Leans", name := "solve", desc := "(LWindWords$Fleet;LWindWords$Scales;)Z" } : Jvm.MethodName) prog_5_method_2_code (6 : Nat) (Option.some FieldType.boolean) : Cond) ∈ AW := AW_t4 160 rfl rfl
theorem m_975 : (.constant "WindWords$Leans" (15 : Nat) (1000000 : Int32) : Cond) ∈ AW := AW_t4 161 rfl rfl
theorem m_976 : (.methodLink "WindWords$Leans" (22 : Nat) ({ cls := "WindWords$Fleet", name := "trustedMansAt", desc := "(I)LWindWords$Reading;" } : Jvm.MethodName) : Cond) ∈ AW := AW_t4 162 rfl rfl
theorem m_977 : (.instanceMethod ({ cls := "WindWords$Fleet", name := "trustedMansAt", desc := "(I)LWindWords$Reading;" } : Jvm.MethodName) : Cond) ∈ AW := AW_t4 163 rfl rfl
theorem m_978 : (.selects "WindWords$Fleet" ({ cls := "WindWords$Fleet", name := "trustedMansAt", desc := "(I)LWindWords$Reading;" } : Jvm.MethodName) ({ cls := "WindWords$Fleet", name := "trustedMansAt", desc := "(I)LWindWords$Reading;" } : Jvm.MethodName) : Cond) ∈ AW := AW_t4 164 rfl rfl
theorem m_979 : (.code ({ cls := "WindWords$Fleet", name := "trustedMansAt", desc := "(I)LWindWords$Reading;" } : Jvm.MethodName) prog_2_method_11_code (3 : Nat) (Option.some (FieldType.object "WindWords$Reading")) : Cond) ∈ AW := AW_t4 165 rfl rfl
theorem m_980 : (.methodLink "WindWords$Fleet" (87 : Nat) ({ cls := "WindWords$Fleet", name := "mansAt", desc := "(I)LWindWords$Reading;" } : Jvm.MethodName) : Cond) ∈ AW := AW_t4 166 rfl rfl
theorem m_981 : (.instanceMethod ({ cls := "WindWords$Fleet", name := "mansAt", desc := "(I)LWindWords$Reading;" } : Jvm.MethodName) : Cond) ∈ AW := AW_t4 167 rfl rfl
theorem m_982 : (.selects "WindWords$Fleet" ({ cls := "WindWords$Fleet", name := "mansAt", desc := "(I)LWindWords$Reading;" } : Jvm.MethodName) ({ cls := "WindWords$Fleet", name := "mansAt", desc := "(I)LWindWords$Reading;" } : Jvm.MethodName) : Cond) ∈ AW := AW_t4 168 rfl rfl
theorem m_983 : (.code ({ cls := "WindWords$Fleet", name := "mansAt", desc := "(I)LWindWords$Reading;" } : Jvm.MethodName) prog_2_method_10_code (3 : Nat) (Option.some (FieldType.object "WindWords$Reading")) : Cond) ∈ AW := AW_t4 169 rfl rfl
theorem m_984 : (.methodLink "WindWords$Fleet" (79 : Nat) ({ cls := "WindWords$Fleet", name := "readingAt", desc := "(I)LWindWords$Reading;" } : Jvm.MethodName) : Cond) ∈ AW := AW_t4 170 rfl rfl
theorem m_985 : (.methodLink "WindWords$Fleet" (90 : Nat) ({ cls := "WindWords$Reading", name := "writer", desc := "()I" } : Jvm.MethodName) : Cond) ∈ AW := AW_t4 171 rfl rfl
theorem m_986 : (.methodLink "WindWords$Fleet" (94 : Nat) ({ cls := "WindWords$Fleet", name := "isTrusted", desc := "(I)Z" } : Jvm.MethodName) : Cond) ∈ AW := AW_t4 172 rfl rfl
theorem m_987 : (.instanceMethod ({ cls := "WindWords$Fleet", name := "isTrusted", desc := "(I)Z" } : Jvm.MethodName) : Cond) ∈ AW := AW_t4 173 rfl rfl
theorem m_988 : (.selects "WindWords$Fleet" ({ cls := "WindWords$Fleet", name := "isTrusted", desc := "(I)Z" } : Jvm.MethodName) ({ cls := "WindWords$Fleet", name := "isTrusted", desc := "(I)Z" } : Jvm.MethodName) : Cond) ∈ AW := AW_t4 174 rfl rfl
theorem m_989 : (.code ({ cls := "WindWords$Fleet", name := "isTrusted", desc := "(I)Z" } : Jvm.MethodName) prog_2_method_3_code (2 : Nat) (Option.some FieldType.boolean) : Cond) ∈ AW := AW_t4 175 rfl rfl
theorem m_990 : (.methodLink "WindWords$Fleet" (49 : Nat) ({ cls := "WindWords$Fleet", name := "hasOfficer", desc := "(I)Z" } : Jvm.MethodName) : Cond) ∈ AW := AW_t4 176 rfl rfl
theorem m_991 : (.methodLink "WindWords$Leans" (29 : Nat) ({ cls := "WindWords$Fleet", name := "mansBeside", desc := "(LWindWords$Reading;I)LWindWords$Reading;" } : Jvm.MethodName) : Cond) ∈ AW := AW_t4 177 rfl rfl
theorem m_992 : (.methodLink "WindWords$Leans" (33 : Nat) ({ cls := "WindWords$Leans", name := "hear", desc := "(LWindWords$Reading;LWindWords$Reading;LWindWords$Fleet;)V" } : Jvm.MethodName) : Cond) ∈ AW := AW_t4 178 rfl rfl
theorem m_994 : (.instanceMethod ({ cls := "WindWords$Leans", name := "hear", desc := "(LWindWords$Reading;LWindWords$Reading;LWindWords$Fleet;)V" } : Jvm.MethodName) : Cond) ∈ AW := AW_t4 180 rfl rfl
theorem m_995 : (.code ({ cls := "WindWords$Leans", name := "hear", desc := "(LWindWords$Reading;LWindWords$Reading;LWindWords$Fleet;)V" } : Jvm.MethodName) prog_5_method_3_code (4 : Nat) (Option.none : Option FieldType) : Cond) ∈ AW := AW_t4 181 rfl rfl
theorem m_996 : (.methodLink "WindWords$Leans" (48 : Nat) ({ cls := "WindWords$Reading", name := "writer", desc := "()I" } : Jvm.MethodName) : Cond) ∈ AW := AW_t4 182 rfl rfl
theorem m_997 : (.methodLink "WindWords$Leans" (54 : Nat) ({ cls := "WindWords$Fleet", name := "isTrusted", desc := "(I)Z" } : Jvm.MethodName) : Cond) ∈ AW := AW_t4 183 rfl rfl
theorem m_998 : (.methodLink "WindWords$Leans" (64 : Nat) ({ cls := "WindWords$Leans", name := "hold", desc := "(IIII)V" } : Jvm.MethodName) : Cond) ∈ AW := AW_t4 184 rfl rfl
theorem m_1000 : (.instanceMethod ({ cls := "WindWords$Leans", name := "hold", desc := "(IIII)V" } : Jvm.MethodName) : Cond) ∈ AW := AW_t4 186 rfl rfl
theorem m_1001 : (.code ({ cls := "WindWords$Leans", name := "hold", desc := "(IIII)V" } : Jvm.MethodName) prog_5_method_5_code (7 : Nat) (Option.none : Option FieldType) : Cond) ∈ AW := AW_t4 187 rfl rfl
theorem m_1003 : (.methodLink "WindWords$Leans" (91 : Nat) ({ cls := "java/lang/Math", name := "min", desc := "(II)I" } : Jvm.MethodName) : Cond) ∈ AW := AW_t4 189 rfl rfl
theorem m_1004 : (.methodLink "WindWords$Leans" (37 : Nat) ({ cls := "WindWords$Fleet", name := "cupBeside", desc := "(LWindWords$Reading;I)LWindWords$Reading;" } : Jvm.MethodName) : Cond) ∈ AW := AW_t4 190 rfl rfl
theorem m_1005 : (.instanceMethod ({ cls := "WindWords$Fleet", name := "cupBeside", desc := "(LWindWords$Reading;I)LWindWords$Reading;" } : Jvm.MethodName) : Cond) ∈ AW := AW_t4 191 rfl rfl
theorem m_1006 : (.selects "WindWords$Fleet" ({ cls := "WindWords$Fleet", name := "cupBeside", desc := "(LWindWords$Reading;I)LWindWords$Reading;" } : Jvm.MethodName) ({ cls := "WindWords$Fleet", name := "cupBeside", desc := "(LWindWords$Reading;I)LWindWords$Reading;" } : Jvm.MethodName) : Cond) ∈ AW := AW_t4 192 rfl rfl
theorem m_1007 : (.code ({ cls := "WindWords$Fleet", name := "cupBeside", desc := "(LWindWords$Reading;I)LWindWords$Reading;" } : Jvm.MethodName) prog_2_method_14_code (4 : Nat) (Option.some (FieldType.object "WindWords$Reading")) : Cond) ∈ AW := AW_t4 193 rfl rfl
theorem m_1008 : (.methodLink "WindWords$Leans" (40 : Nat) ({ cls := "WindWords$Leans", name := "hearCup", desc := "(LWindWords$Reading;LWindWords$Reading;LWindWords$Fleet;LWindWords$Scales;)V" } : Jvm.MethodName) : Cond) ∈ AW := AW_t4 194 rfl rfl
theorem m_1010 : (.instanceMethod ({ cls := "WindWords$Leans", name := "hearCup", desc := "(LWindWords$Reading;LWindWords$Reading;LWindWords$Fleet;LWindWords$Scales;)V" } : Jvm.MethodName) : Cond) ∈ AW := AW_t4 196 rfl rfl
theorem m_1011 : (.code ({ cls := "WindWords$Leans", name := "hearCup", desc := "(LWindWords$Reading;LWindWords$Reading;LWindWords$Fleet;LWindWords$Scales;)V" } : Jvm.MethodName) prog_5_method_4_code (6 : Nat) (Option.none : Option FieldType) : Cond) ∈ AW := AW_t4 197 rfl rfl
theorem m_1012 : (.methodLink "WindWords$Leans" (68 : Nat) ({ cls := "WindWords$Reading", name := "year", desc := "()I" } : Jvm.MethodName) : Cond) ∈ AW := AW_t4 198 rfl rfl
theorem m_1013 : (.instanceMethod ({ cls := "WindWords$Reading", name := "year", desc := "()I" } : Jvm.MethodName) : Cond) ∈ AW := AW_t4 199 rfl rfl
theorem m_1014 : (.selects "WindWords$Reading" ({ cls := "WindWords$Reading", name := "year", desc := "()I" } : Jvm.MethodName) ({ cls := "WindWords$Reading", name := "year", desc := "()I" } : Jvm.MethodName) : Cond) ∈ AW := AW_t4 200 rfl rfl
theorem m_1015 : (.code ({ cls := "WindWords$Reading", name := "year", desc := "()I" } : Jvm.MethodName) prog_6_method_4_code (1 : Nat) (Option.some FieldType.int) : Cond) ∈ AW := AW_t4 201 rfl rfl
theorem m_1016 : (.methodLink "WindWords$Leans" (71 : Nat) ({ cls := "WindWords$Scales", name := "ofYear", desc := "(I)I" } : Jvm.MethodName) : Cond) ∈ AW := AW_t4 202 rfl rfl
theorem m_1017 : (.methodLink "WindWords$Leans" (80 : Nat) ({ cls := "WindWords$Reading", name := "mix", desc := "()I" } : Jvm.MethodName) : Cond) ∈ AW := AW_t4 203 rfl rfl
theorem m_1018 : (.instanceMethod ({ cls := "WindWords$Reading", name := "mix", desc := "()I" } : Jvm.MethodName) : Cond) ∈ AW := AW_t4 204 rfl rfl
theorem m_1019 : (.selects "WindWords$Reading" ({ cls := "WindWords$Reading", name := "mix", desc := "()I" } : Jvm.MethodName) ({ cls := "WindWords$Reading", name := "mix", desc := "()I" } : Jvm.MethodName) : Cond) ∈ AW := AW_t4 205 rfl rfl
theorem m_1020 : (.code ({ cls := "WindWords$Reading", name := "mix", desc := "()I" } : Jvm.MethodName) prog_6_method_5_code (1 : Nat) (Option.some FieldType.int) : Cond) ∈ AW := AW_t4 206 rfl rfl
theorem m_1021 : (.methodLink "WindWords$Leans" (83 : Nat) ({ cls := "WindWords$Scales", name := "numberFor", desc := "(IIIII)I" } : Jvm.MethodName) : Cond) ∈ AW := AW_t4 207 rfl rfl
theorem m_1022 : (.methodLink "WindWords$Leans" (44 : Nat) ({ cls := "WindWords$Leans", name := "closes", desc := "()Z" } : Jvm.MethodName) : Cond) ∈ AW := AW_t4 208 rfl rfl
theorem m_1024 : (.instanceMethod ({ cls := "WindWords$Leans", name := "closes", desc := "()Z" } : Jvm.MethodName) : Cond) ∈ AW := AW_t4 210 rfl rfl
theorem m_1025 : (.code ({ cls := "WindWords$Leans", name := "closes", desc := "()Z" } : Jvm.MethodName) prog_5_method_6_code (4 : Nat) (Option.some FieldType.boolean) : Cond) ∈ AW := AW_t4 211 rfl rfl
theorem m_1026 : (.methodLink "WindWords$Leans" (97 : Nat) ({ cls := "WindWords$Leans", name := "join", desc := "(III)V" } : Jvm.MethodName) : Cond) ∈ AW := AW_t4 212 rfl rfl
theorem m_1028 : (.instanceMethod ({ cls := "WindWords$Leans", name := "join", desc := "(III)V" } : Jvm.MethodName) : Cond) ∈ AW := AW_t4 214 rfl rfl
theorem m_1029 : (.code ({ cls := "WindWords$Leans", name := "join", desc := "(III)V" } : Jvm.MethodName) prog_5_method_7_code (7 : Nat) (Option.none : Option FieldType) : Cond) ∈ AW := AW_t4 215 rfl rfl
theorem m_1030 : (.methodLink "WindWordsLaw" (88 : Nat) ({ cls := "WindWords", name := "lean", desc := "(II)I" } : Jvm.MethodName) : Cond) ∈ AW := AW_t4 216 rfl rfl
theorem m_1031 : (.instanceMethod ({ cls := "WindWords", name := "lean", desc := "(II)I" } : Jvm.MethodName) : Cond) ∈ AW := AW_t4 217 rfl rfl
theorem m_1032 : (.selects "WindWords" ({ cls := "WindWords", name := "lean", desc := "(II)I" } : Jvm.MethodName) ({ cls := "WindWords", name := "lean", desc := "(II)I" } : Jvm.MethodName) : Cond) ∈ AW := AW_t4 218 rfl rfl
theorem m_1033 : (.code ({ cls := "WindWords", name := "lean", desc := "(II)I" } : Jvm.MethodName) prog_1_method_19_code (3 : Nat) (Option.some FieldType.int) : Cond) ∈ AW := AW_t4 219 rfl rfl
theorem m_1034 : (.methodLink "WindWords" (267 : Nat) ({ cls := "WindWords$Leans", name := "least", desc := "(I)I" } : Jvm.MethodName) : Cond) ∈ AW := AW_t4 220 rfl rfl
theorem m_1035 : (.instanceMethod ({ cls := "WindWords$Leans", name := "least", desc := "(I)I" } : Jvm.MethodName) : Cond) ∈ AW := AW_t4 221 rfl rfl
theorem m_1036 : (.selects "WindWords$Leans" ({ cls := "WindWords$Leans", name := "least", desc := "(I)I" } : Jvm.MethodName) ({ cls := "WindWords$Leans", name := "least", desc := "(I)I" } : Jvm.MethodName) : Cond) ∈ AW := AW_t4 222 rfl rfl
theorem m_1037 : (.code ({ cls := "WindWords$Leans", name := "least", desc := "(I)I" } : Jvm.MethodName) prog_5_method_8_code (3 : Nat) (Option.some FieldType.int) : Cond) ∈ AW := AW_t4 223 rfl rfl
theorem m_1038 : (.methodLink "WindWords" (270 : Nat) ({ cls := "WindWords$Leans", name := "greatest", desc := "(I)I" } : Jvm.MethodName) : Cond) ∈ AW := AW_t4 224 rfl rfl
theorem m_1039 : (.instanceMethod ({ cls := "WindWords$Leans", name := "greatest", desc := "(I)I" } : Jvm.MethodName) : Cond) ∈ AW := AW_t4 225 rfl rfl
theorem m_1040 : (.selects "WindWords$Leans" ({ cls := "WindWords$Leans", name := "greatest", desc := "(I)I" } : Jvm.MethodName) ({ cls := "WindWords$Leans", name := "greatest", desc := "(I)I" } : Jvm.MethodName) : Cond) ∈ AW := AW_t4 226 rfl rfl
theorem m_1041 : (.code ({ cls := "WindWords$Leans", name := "greatest", desc := "(I)I" } : Jvm.MethodName) prog_5_method_9_code (3 : Nat) (Option.some FieldType.int) : Cond) ∈ AW := AW_t4 227 rfl rfl
theorem m_1042 : (.methodLink "WindWordsLaw" (92 : Nat) ({ cls := "WindWords", name := "liked", desc := "(III)I" } : Jvm.MethodName) : Cond) ∈ AW := AW_t4 228 rfl rfl
theorem m_1043 : (.instanceMethod ({ cls := "WindWords", name := "liked", desc := "(III)I" } : Jvm.MethodName) : Cond) ∈ AW := AW_t4 229 rfl rfl
theorem m_1044 : (.selects "WindWords" ({ cls := "WindWords", name := "liked", desc := "(III)I" } : Jvm.MethodName) ({ cls := "WindWords", name := "liked", desc := "(III)I" } : Jvm.MethodName) : Cond) ∈ AW := AW_t4 230 rfl rfl
theorem m_1045 : (.code ({ cls := "WindWords", name := "liked", desc := "(III)I" } : Jvm.MethodName) prog_1_method_20_code (6 : Nat) (Option.some FieldType.int) : Cond) ∈ AW := AW_t4 231 rfl rfl
theorem m_1046 : (.methodLink "WindWords" (273 : Nat) ({ cls := "WindWords", name := "timesWritten", desc := "(III)I" } : Jvm.MethodName) : Cond) ∈ AW := AW_t4 232 rfl rfl
theorem m_1048 : (.instanceMethod ({ cls := "WindWords", name := "timesWritten", desc := "(III)I" } : Jvm.MethodName) : Cond) ∈ AW := AW_t4 234 rfl rfl
theorem m_1049 : (.code ({ cls := "WindWords", name := "timesWritten", desc := "(III)I" } : Jvm.MethodName) prog_1_method_43_code (7 : Nat) (Option.some FieldType.int) : Cond) ∈ AW := AW_t4 235 rfl rfl
theorem m_1050 : (.methodLink "WindWords" (319 : Nat) ({ cls := "WindWords$Fleet", name := "mansAt", desc := "(I)LWindWords$Reading;" } : Jvm.MethodName) : Cond) ∈ AW := AW_t4 236 rfl rfl
theorem m_1051 : (.methodLink "WindWords" (277 : Nat) ({ cls := "WindWords", name := "odds", desc := "(II)I" } : Jvm.MethodName) : Cond) ∈ AW := AW_t4 237 rfl rfl
theorem m_1052 : (.static ({ cls := "WindWords", name := "odds", desc := "(II)I" } : Jvm.MethodName) : Cond) ∈ AW := AW_t4 238 rfl rfl
theorem m_1053 : (.code ({ cls := "WindWords", name := "odds", desc := "(II)I" } : Jvm.MethodName) prog_1_method_44_code (5 : Nat) (Option.some FieldType.int) : Cond) ∈ AW := AW_t4 239 rfl rfl
theorem m_1054 : (.constantLong "WindWords" (404 : Nat) (1000000000 : Int64) : Cond) ∈ AW := AW_t5 0 rfl rfl
theorem m_1055 : (.methodLink "WindWordsLaw" (96 : Nat) ({ cls := "WindWords", name := "wind", desc := "(II)I" } : Jvm.MethodName) : Cond) ∈ AW := AW_t5 1 rfl rfl
theorem m_1056 : (.instanceMethod ({ cls := "WindWords", name := "wind", desc := "(II)I" } : Jvm.MethodName) : Cond) ∈ AW := AW_t5 2 rfl rfl
theorem m_1057 : (.selects "WindWords" ({ cls := "WindWords", name := "wind", desc := "(II)I" } : Jvm.MethodName) ({ cls := "WindWords", name := "wind", desc := "(II)I" } : Jvm.MethodName) : Cond) ∈ AW := AW_t5 3 rfl rfl
theorem m_1058 : (.code ({ cls := "WindWords", name := "wind", desc := "(II)I" } : Jvm.MethodName) prog_1_method_21_code (3 : Nat) (Option.some FieldType.int) : Cond) ∈ AW := AW_t5 4 rfl rfl
theorem m_1059 : (.methodLink "WindWords" (280 : Nat) ({ cls := "WindWords$Winds", name := "gather", desc := "(ILWindWords$Fleet;LWindWords$Scales;LWindWords$Leans;)V" } : Jvm.MethodName) : Cond) ∈ AW := AW_t5 5 rfl rfl
theorem m_1060 : (.instanceMethod ({ cls := "WindWords$Winds", name := "gather", desc := "(ILWindWords$Fleet;LWindWords$Scales;LWindWords$Leans;)V" } : Jvm.MethodName) : Cond) ∈ AW := AW_t5 6 rfl rfl
theorem m_1061 : (.selects "WindWords$Winds" ({ cls := "WindWords$Winds", name := "gather", desc := "(ILWindWords$Fleet;LWindWords$Scales;LWindWords$Leans;)V" } : Jvm.MethodName) ({ cls := "WindWords$Winds", name := "gather", desc := "(ILWindWords$Fleet;LWindWords$Scales;LWindWords$Leans;)V" } : Jvm.MethodName) : Cond) ∈ AW := AW_t5 7 rfl rfl
theorem m_1062 : (.code ({ cls := "WindWords$Winds", name := "gather", desc := "(ILWindWords$Fleet;LWindWords$Scales;LWindWords$Leans;)V" } : Jvm.MethodName) prog_12_method_2_code (7 : Nat) (Option.none : Option FieldType) : Cond) ∈ AW := AW_t5 8 rfl rfl
theorem m_1063 : (.methodLink "WindWords$Winds" (39 : Nat) ({ cls := "WindWords$Fleet", name := "trustedMansAt", desc := "(I)LWindWords$Reading;" } : Jvm.MethodName) : Cond) ∈ AW := AW_t5 9 rfl rfl
theorem m_1064 : (.methodLink "WindWords$Winds" (43 : Nat) ({ cls := "WindWords$Reading", name := "year", desc := "()I" } : Jvm.MethodName) : Cond) ∈ AW := AW_t5 10 rfl rfl
theorem m_1065 : (.methodLink "WindWords$Winds" (49 : Nat) ({ cls := "WindWords$Reading", name := "writer", desc := "()I" } : Jvm.MethodName) : Cond) ∈ AW := AW_t5 11 rfl rfl
theorem m_1066 : (.methodLink "WindWords$Winds" (52 : Nat) ({ cls := "WindWords$Leans", name := "bindsBothSides", desc := "(I)Z" } : Jvm.MethodName) : Cond) ∈ AW := AW_t5 12 rfl rfl
theorem m_1067 : (.instanceMethod ({ cls := "WindWords$Leans", name := "bindsBothSides", desc := "(I)Z" } : Jvm.MethodName) : Cond) ∈ AW := AW_t5 13 rfl rfl
theorem m_1068 : (.selects "WindWords$Leans" ({ cls := "WindWords$Leans", name := "bindsBothSides", desc := "(I)Z" } : Jvm.MethodName) ({ cls := "WindWords$Leans", name := "bindsBothSides", desc := "(I)Z" } : Jvm.MethodName) : Cond) ∈ AW := AW_t5 14 rfl rfl
theorem m_1069 : (.code ({ cls := "WindWords$Leans", name := "bindsBothSides", desc := "(I)Z" } : Jvm.MethodName) prog_5_method_10_code (2 : Nat) (Option.some FieldType.boolean) : Cond) ∈ AW := AW_t5 15 rfl rfl
theorem m_1070 : (.methodLink "WindWords$Winds" (58 : Nat) ({ cls := "WindWords$Winds", name := "keep", desc := "(LWindWords$Reading;LWindWords$Scales;LWindWords$Leans;)V" } : Jvm.MethodName) : Cond) ∈ AW := AW_t5 16 rfl rfl
theorem m_1072 : (.instanceMethod ({ cls := "WindWords$Winds", name := "keep", desc := "(LWindWords$Reading;LWindWords$Scales;LWindWords$Leans;)V" } : Jvm.MethodName) : Cond) ∈ AW := AW_t5 18 rfl rfl
theorem m_1073 : (.code ({ cls := "WindWords$Winds", name := "keep", desc := "(LWindWords$Reading;LWindWords$Scales;LWindWords$Leans;)V" } : Jvm.MethodName) prog_12_method_3_code (7 : Nat) (Option.none : Option FieldType) : Cond) ∈ AW := AW_t5 19 rfl rfl
theorem m_1074 : (.methodLink "WindWords$Winds" (65 : Nat) ({ cls := "WindWords$Leans", name := "greatest", desc := "(I)I" } : Jvm.MethodName) : Cond) ∈ AW := AW_t5 20 rfl rfl
theorem m_1076 : (.methodLink "WindWords$Winds" (72 : Nat) ({ cls := "WindWords$Leans", name := "least", desc := "(I)I" } : Jvm.MethodName) : Cond) ∈ AW := AW_t5 22 rfl rfl
theorem m_1077 : (.methodLink "WindWords$Winds" (75 : Nat) ({ cls := "WindWords$Scales", name := "ofYear", desc := "(I)I" } : Jvm.MethodName) : Cond) ∈ AW := AW_t5 23 rfl rfl
theorem m_1078 : (.methodLink "WindWords$Winds" (83 : Nat) ({ cls := "WindWords$Reading", name := "mix", desc := "()I" } : Jvm.MethodName) : Cond) ∈ AW := AW_t5 24 rfl rfl
theorem m_1079 : (.methodLink "WindWords$Winds" (86 : Nat) ({ cls := "WindWords$Scales", name := "fillRow", desc := "([IIIII)V" } : Jvm.MethodName) : Cond) ∈ AW := AW_t5 25 rfl rfl
theorem m_1082 : (.methodLink "WindWordsLaw" (100 : Nat) ({ cls := "WindWords", name := "grew", desc := "(I)I" } : Jvm.MethodName) : Cond) ∈ AW := AW_t5 28 rfl rfl
theorem m_1083 : (.instanceMethod ({ cls := "WindWords", name := "grew", desc := "(I)I" } : Jvm.MethodName) : Cond) ∈ AW := AW_t5 29 rfl rfl
theorem m_1084 : (.selects "WindWords" ({ cls := "WindWords", name := "grew", desc := "(I)I" } : Jvm.MethodName) ({ cls := "WindWords", name := "grew", desc := "(I)I" } : Jvm.MethodName) : Cond) ∈ AW := AW_t5 30 rfl rfl
theorem m_1085 : (.code ({ cls := "WindWords", name := "grew", desc := "(I)I" } : Jvm.MethodName) prog_1_method_22_code (2 : Nat) (Option.some FieldType.int) : Cond) ∈ AW := AW_t5 31 rfl rfl
theorem m_1086 : (.methodLink "WindWords" (293 : Nat) ({ cls := "WindWords$Winds", name := "gatherValues", desc := "(LWindWords$Fleet;LWindWords$Scales;LWindWords$Leans;)V" } : Jvm.MethodName) : Cond) ∈ AW := AW_t5 32 rfl rfl
theorem m_1087 : (.instanceMethod ({ cls := "WindWords$Winds", name := "gatherValues", desc := "(LWindWords$Fleet;LWindWords$Scales;LWindWords$Leans;)V" } : Jvm.MethodName) : Cond) ∈ AW := AW_t5 33 rfl rfl
theorem m_1088 : (.selects "WindWords$Winds" ({ cls := "WindWords$Winds", name := "gatherValues", desc := "(LWindWords$Fleet;LWindWords$Scales;LWindWords$Leans;)V" } : Jvm.MethodName) ({ cls := "WindWords$Winds", name := "gatherValues", desc := "(LWindWords$Fleet;LWindWords$Scales;LWindWords$Leans;)V" } : Jvm.MethodName) : Cond) ∈ AW := AW_t5 34 rfl rfl
theorem m_1089 : (.code ({ cls := "WindWords$Winds", name := "gatherValues", desc := "(LWindWords$Fleet;LWindWords$Scales;LWindWords$Leans;)V" } : Jvm.MethodName) prog_12_method_4_code (5 : Nat) (Option.none : Option FieldType) : Cond) ∈ AW := AW_t5 35 rfl rfl
theorem m_1090 : (.methodLink "WindWords$Winds" (97 : Nat) ({ cls := "WindWords$Winds", name := "gather", desc := "(ILWindWords$Fleet;LWindWords$Scales;LWindWords$Leans;)V" } : Jvm.MethodName) : Cond) ∈ AW := AW_t5 36 rfl rfl
theorem m_1091 : (.methodLink "WindWords" (297 : Nat) ({ cls := "WindWords$Winds", name := "rising", desc := "()I" } : Jvm.MethodName) : Cond) ∈ AW := AW_t5 37 rfl rfl
theorem m_1092 : (.instanceMethod ({ cls := "WindWords$Winds", name := "rising", desc := "()I" } : Jvm.MethodName) : Cond) ∈ AW := AW_t5 38 rfl rfl
theorem m_1093 : (.selects "WindWords$Winds" ({ cls := "WindWords$Winds", name := "rising", desc := "()I" } : Jvm.MethodName) ({ cls := "WindWords$Winds", name := "rising", desc := "()I" } : Jvm.MethodName) : Cond) ∈ AW := AW_t5 39 rfl rfl
theorem m_1094 : (.code ({ cls := "WindWords$Winds", name := "rising", desc := "()I" } : Jvm.MethodName) prog_12_method_5_code (4 : Nat) (Option.some FieldType.int) : Cond) ∈ AW := AW_t5 40 rfl rfl
theorem m_1095 : (.methodLink "WindWords" (300 : Nat) ({ cls := "WindWords$Winds", name := "ordersRising", desc := "(I)I" } : Jvm.MethodName) : Cond) ∈ AW := AW_t5 41 rfl rfl
theorem m_1096 : (.instanceMethod ({ cls := "WindWords$Winds", name := "ordersRising", desc := "(I)I" } : Jvm.MethodName) : Cond) ∈ AW := AW_t5 42 rfl rfl
theorem m_1097 : (.selects "WindWords$Winds" ({ cls := "WindWords$Winds", name := "ordersRising", desc := "(I)I" } : Jvm.MethodName) ({ cls := "WindWords$Winds", name := "ordersRising", desc := "(I)I" } : Jvm.MethodName) : Cond) ∈ AW := AW_t5 43 rfl rfl
theorem m_1098 : (.code ({ cls := "WindWords$Winds", name := "ordersRising", desc := "(I)I" } : Jvm.MethodName) prog_12_method_6_code (5 : Nat) (Option.some FieldType.int) : Cond) ∈ AW := AW_t5 44 rfl rfl
theorem m_1099 : (.methodLink "WindWords$Winds" (101 : Nat) ({ cls := "java/lang/Math", name := "max", desc := "(II)I" } : Jvm.MethodName) : Cond) ∈ AW := AW_t5 45 rfl rfl
theorem m_1100 : (.methodLink "WindWordsLaw" (105 : Nat) ({ cls := "WindWords", name := "late", desc := "(I)I" } : Jvm.MethodName) : Cond) ∈ AW := AW_t5 46 rfl rfl
theorem m_1101 : (.instanceMethod ({ cls := "WindWords", name := "late", desc := "(I)I" } : Jvm.MethodName) : Cond) ∈ AW := AW_t5 47 rfl rfl
theorem m_1102 : (.selects "WindWords" ({ cls := "WindWords", name := "late", desc := "(I)I" } : Jvm.MethodName) ({ cls := "WindWords", name := "late", desc := "(I)I" } : Jvm.MethodName) : Cond) ∈ AW := AW_t5 48 rfl rfl
theorem m_1103 : (.code ({ cls := "WindWords", name := "late", desc := "(I)I" } : Jvm.MethodName) prog_1_method_23_code (3 : Nat) (Option.some FieldType.int) : Cond) ∈ AW := AW_t5 49 rfl rfl
theorem m_1104 : (.methodLink "WindWords" (306 : Nat) ({ cls := "WindWords", name := "gatherLags", desc := "()V" } : Jvm.MethodName) : Cond) ∈ AW := AW_t5 50 rfl rfl
theorem m_1106 : (.instanceMethod ({ cls := "WindWords", name := "gatherLags", desc := "()V" } : Jvm.MethodName) : Cond) ∈ AW := AW_t5 52 rfl rfl
theorem m_1107 : (.code ({ cls := "WindWords", name := "gatherLags", desc := "()V" } : Jvm.MethodName) prog_1_method_45_code (3 : Nat) (Option.none : Option FieldType) : Cond) ∈ AW := AW_t5 53 rfl rfl
theorem m_1108 : (.methodLink "WindWords" (406 : Nat) ({ cls := "WindWords$Fleet", name := "trustedMansAt", desc := "(I)LWindWords$Reading;" } : Jvm.MethodName) : Cond) ∈ AW := AW_t5 54 rfl rfl
theorem m_1109 : (.methodLink "WindWords" (409 : Nat) ({ cls := "WindWords", name := "gatherLagsOf", desc := "(LWindWords$Reading;)V" } : Jvm.MethodName) : Cond) ∈ AW := AW_t5 55 rfl rfl
theorem m_1111 : (.instanceMethod ({ cls := "WindWords", name := "gatherLagsOf", desc := "(LWindWords$Reading;)V" } : Jvm.MethodName) : Cond) ∈ AW := AW_t5 57 rfl rfl
theorem m_1112 : (.code ({ cls := "WindWords", name := "gatherLagsOf", desc := "(LWindWords$Reading;)V" } : Jvm.MethodName) prog_1_method_46_code (6 : Nat) (Option.none : Option FieldType) : Cond) ∈ AW := AW_t5 58 rfl rfl
theorem m_1113 : (.methodLink "WindWords" (413 : Nat) ({ cls := "WindWords$Reading", name := "year", desc := "()I" } : Jvm.MethodName) : Cond) ∈ AW := AW_t5 59 rfl rfl
theorem m_1114 : (.methodLink "WindWords" (416 : Nat) ({ cls := "WindWords$Reading", name := "mix", desc := "()I" } : Jvm.MethodName) : Cond) ∈ AW := AW_t5 60 rfl rfl
theorem m_1115 : (.methodLink "WindWords" (309 : Nat) ({ cls := "WindWords", name := "bestLag", desc := "()I" } : Jvm.MethodName) : Cond) ∈ AW := AW_t5 61 rfl rfl
theorem m_1117 : (.instanceMethod ({ cls := "WindWords", name := "bestLag", desc := "()I" } : Jvm.MethodName) : Cond) ∈ AW := AW_t5 63 rfl rfl
theorem m_1118 : (.code ({ cls := "WindWords", name := "bestLag", desc := "()I" } : Jvm.MethodName) prog_1_method_47_code (3 : Nat) (Option.some FieldType.int) : Cond) ∈ AW := AW_t5 64 rfl rfl
theorem m_1119 : (.methodLink "WindWordsLaw" (109 : Nat) ({ cls := "WindWords", name := "copied", desc := "(II)I" } : Jvm.MethodName) : Cond) ∈ AW := AW_t5 65 rfl rfl
theorem m_1120 : (.instanceMethod ({ cls := "WindWords", name := "copied", desc := "(II)I" } : Jvm.MethodName) : Cond) ∈ AW := AW_t5 66 rfl rfl
theorem m_1121 : (.selects "WindWords" ({ cls := "WindWords", name := "copied", desc := "(II)I" } : Jvm.MethodName) ({ cls := "WindWords", name := "copied", desc := "(II)I" } : Jvm.MethodName) : Cond) ∈ AW := AW_t5 67 rfl rfl
theorem m_1122 : (.code ({ cls := "WindWords", name := "copied", desc := "(II)I" } : Jvm.MethodName) prog_1_method_24_code (6 : Nat) (Option.some FieldType.int) : Cond) ∈ AW := AW_t5 68 rfl rfl
theorem m_1123 : (.methodLink "WindWordsLaw" (113 : Nat) ({ cls := "WindWords", name := "find", desc := "(I)I" } : Jvm.MethodName) : Cond) ∈ AW := AW_t5 69 rfl rfl
theorem m_1124 : (.instanceMethod ({ cls := "WindWords", name := "find", desc := "(I)I" } : Jvm.MethodName) : Cond) ∈ AW := AW_t5 70 rfl rfl
theorem m_1125 : (.selects "WindWords" ({ cls := "WindWords", name := "find", desc := "(I)I" } : Jvm.MethodName) ({ cls := "WindWords", name := "find", desc := "(I)I" } : Jvm.MethodName) : Cond) ∈ AW := AW_t5 71 rfl rfl
theorem m_1126 : (.code ({ cls := "WindWords", name := "find", desc := "(I)I" } : Jvm.MethodName) prog_1_method_25_code (5 : Nat) (Option.some FieldType.int) : Cond) ∈ AW := AW_t5 72 rfl rfl
theorem m_1127 : (.methodLink "WindWordsLaw" (117 : Nat) ({ cls := "WindWords", name := "wished", desc := "(II)I" } : Jvm.MethodName) : Cond) ∈ AW := AW_t5 73 rfl rfl
theorem m_1128 : (.instanceMethod ({ cls := "WindWords", name := "wished", desc := "(II)I" } : Jvm.MethodName) : Cond) ∈ AW := AW_t5 74 rfl rfl
theorem m_1129 : (.selects "WindWords" ({ cls := "WindWords", name := "wished", desc := "(II)I" } : Jvm.MethodName) ({ cls := "WindWords", name := "wished", desc := "(II)I" } : Jvm.MethodName) : Cond) ∈ AW := AW_t5 75 rfl rfl
theorem m_1130 : (.code ({ cls := "WindWords", name := "wished", desc := "(II)I" } : Jvm.MethodName) prog_1_method_26_code (8 : Nat) (Option.some FieldType.int) : Cond) ∈ AW := AW_t5 76 rfl rfl
theorem m_1131 : (.constant "WindWords" (318 : Nat) (-1000000 : Int32) : Cond) ∈ AW := AW_t5 77 rfl rfl
theorem m_1132 : (.methodLink "WindWords" (322 : Nat) ({ cls := "WindWords", name := "firstBeside", desc := "(LWindWords$Reading;)LWindWords$Reading;" } : Jvm.MethodName) : Cond) ∈ AW := AW_t5 78 rfl rfl
theorem m_1134 : (.instanceMethod ({ cls := "WindWords", name := "firstBeside", desc := "(LWindWords$Reading;)LWindWords$Reading;" } : Jvm.MethodName) : Cond) ∈ AW := AW_t5 80 rfl rfl
theorem m_1135 : (.code ({ cls := "WindWords", name := "firstBeside", desc := "(LWindWords$Reading;)LWindWords$Reading;" } : Jvm.MethodName) prog_1_method_51_code (5 : Nat) (Option.some (FieldType.object "WindWords$Reading")) : Cond) ∈ AW := AW_t5 81 rfl rfl
theorem m_1136 : (.methodLink "WindWords" (326 : Nat) ({ cls := "WindWords", name := "leadOf", desc := "(II)I" } : Jvm.MethodName) : Cond) ∈ AW := AW_t5 82 rfl rfl
theorem m_1138 : (.instanceMethod ({ cls := "WindWords", name := "leadOf", desc := "(II)I" } : Jvm.MethodName) : Cond) ∈ AW := AW_t5 84 rfl rfl
theorem m_1139 : (.code ({ cls := "WindWords", name := "leadOf", desc := "(II)I" } : Jvm.MethodName) prog_1_method_52_code (6 : Nat) (Option.some FieldType.int) : Cond) ∈ AW := AW_t5 85 rfl rfl
theorem m_1140 : (.methodLink "WindWords" (373 : Nat) ({ cls := "java/lang/Integer", name := "bitCount", desc := "(I)I" } : Jvm.MethodName) : Cond) ∈ AW := AW_t5 86 rfl rfl
theorem m_1141 : (.static ({ cls := "java/lang/Integer", name := "bitCount", desc := "(I)I" } : Jvm.MethodName) : Cond) ∈ AW := AW_t5 87 rfl rfl
theorem m_1142 : (.code ({ cls := "java/lang/Integer", name := "bitCount", desc := "(I)I" } : Jvm.MethodName) prog_16_method_49_code (1 : Nat) (Option.some FieldType.int) : Cond) ∈ AW := AW_t5 88 rfl rfl
theorem m_1143 : (.constant "java/lang/Integer" (265 : Nat) (1431655765 : Int32) : Cond) ∈ AW := AW_t5 89 rfl rfl
theorem m_1144 : (.constant "java/lang/Integer" (266 : Nat) (858993459 : Int32) : Cond) ∈ AW := AW_t5 90 rfl rfl
theorem m_1145 : (.constant "java/lang/Integer" (267 : Nat) (252645135 : Int32) : Cond) ∈ AW := AW_t5 91 rfl rfl
theorem m_1146 : (.methodLink "WindWords" (329 : Nat) ({ cls := "WindWords", name := "waysLeading", desc := "(III)I" } : Jvm.MethodName) : Cond) ∈ AW := AW_t5 92 rfl rfl
theorem m_1148 : (.instanceMethod ({ cls := "WindWords", name := "waysLeading", desc := "(III)I" } : Jvm.MethodName) : Cond) ∈ AW := AW_t5 94 rfl rfl
theorem m_1149 : (.code ({ cls := "WindWords", name := "waysLeading", desc := "(III)I" } : Jvm.MethodName) prog_1_method_53_code (6 : Nat) (Option.some FieldType.int) : Cond) ∈ AW := AW_t5 95 rfl rfl
theorem m_1150 : (.methodLink "WindWordsLaw" (121 : Nat) ({ cls := "WindWords", name := "eight", desc := "(IIII)I" } : Jvm.MethodName) : Cond) ∈ AW := AW_t5 96 rfl rfl
theorem m_1151 : (.instanceMethod ({ cls := "WindWords", name := "eight", desc := "(IIII)I" } : Jvm.MethodName) : Cond) ∈ AW := AW_t5 97 rfl rfl
theorem m_1152 : (.selects "WindWords" ({ cls := "WindWords", name := "eight", desc := "(IIII)I" } : Jvm.MethodName) ({ cls := "WindWords", name := "eight", desc := "(IIII)I" } : Jvm.MethodName) : Cond) ∈ AW := AW_t5 98 rfl rfl
theorem m_1153 : (.code ({ cls := "WindWords", name := "eight", desc := "(IIII)I" } : Jvm.MethodName) prog_1_method_27_code (12 : Nat) (Option.some FieldType.int) : Cond) ∈ AW := AW_t5 99 rfl rfl
theorem m_1154 : (.constant "WindWords" (332 : Nat) (-1000000000 : Int32) : Cond) ∈ AW := AW_t5 100 rfl rfl
theorem m_1155 : (.methodLink "WindWords" (333 : Nat) ({ cls := "WindWords$Fleet", name := "cupBeside", desc := "(LWindWords$Reading;I)LWindWords$Reading;" } : Jvm.MethodName) : Cond) ∈ AW := AW_t5 101 rfl rfl
theorem m_1156 : (.methodLink "WindWordsLaw" (125 : Nat) ({ cls := "WindWords", name := "alike", desc := "(I)I" } : Jvm.MethodName) : Cond) ∈ AW := AW_t5 102 rfl rfl
theorem m_1157 : (.instanceMethod ({ cls := "WindWords", name := "alike", desc := "(I)I" } : Jvm.MethodName) : Cond) ∈ AW := AW_t5 103 rfl rfl
theorem m_1158 : (.selects "WindWords" ({ cls := "WindWords", name := "alike", desc := "(I)I" } : Jvm.MethodName) ({ cls := "WindWords", name := "alike", desc := "(I)I" } : Jvm.MethodName) : Cond) ∈ AW := AW_t5 104 rfl rfl
theorem m_1159 : (.code ({ cls := "WindWords", name := "alike", desc := "(I)I" } : Jvm.MethodName) prog_1_method_28_code (6 : Nat) (Option.some FieldType.int) : Cond) ∈ AW := AW_t5 105 rfl rfl
theorem m_1160 : (.methodLink "WindWords" (337 : Nat) ({ cls := "WindWords", name := "unlikeness", desc := "(I)I" } : Jvm.MethodName) : Cond) ∈ AW := AW_t5 106 rfl rfl
theorem m_1162 : (.instanceMethod ({ cls := "WindWords", name := "unlikeness", desc := "(I)I" } : Jvm.MethodName) : Cond) ∈ AW := AW_t5 108 rfl rfl
theorem m_1163 : (.code ({ cls := "WindWords", name := "unlikeness", desc := "(I)I" } : Jvm.MethodName) prog_1_method_54_code (7 : Nat) (Option.some FieldType.int) : Cond) ∈ AW := AW_t5 109 rfl rfl
theorem m_1164 : (.methodLink "WindWordsLaw" (129 : Nat) ({ cls := "WindWords", name := "storm", desc := "(IIII)I" } : Jvm.MethodName) : Cond) ∈ AW := AW_t5 110 rfl rfl
theorem m_1165 : (.instanceMethod ({ cls := "WindWords", name := "storm", desc := "(IIII)I" } : Jvm.MethodName) : Cond) ∈ AW := AW_t5 111 rfl rfl
theorem m_1166 : (.selects "WindWords" ({ cls := "WindWords", name := "storm", desc := "(IIII)I" } : Jvm.MethodName) ({ cls := "WindWords", name := "storm", desc := "(IIII)I" } : Jvm.MethodName) : Cond) ∈ AW := AW_t5 112 rfl rfl
theorem m_1167 : (.code ({ cls := "WindWords", name := "storm", desc := "(IIII)I" } : Jvm.MethodName) prog_1_method_29_code (5 : Nat) (Option.some FieldType.int) : Cond) ∈ AW := AW_t5 113 rfl rfl
theorem m_1168 : (.methodLink "WindWords" (340 : Nat) ({ cls := "WindWords$Storm", name := "tell", desc := "(IIII)V" } : Jvm.MethodName) : Cond) ∈ AW := AW_t5 114 rfl rfl
theorem m_1169 : (.instanceMethod ({ cls := "WindWords$Storm", name := "tell", desc := "(IIII)V" } : Jvm.MethodName) : Cond) ∈ AW := AW_t5 115 rfl rfl
theorem m_1170 : (.selects "WindWords$Storm" ({ cls := "WindWords$Storm", name := "tell", desc := "(IIII)V" } : Jvm.MethodName) ({ cls := "WindWords$Storm", name := "tell", desc := "(IIII)V" } : Jvm.MethodName) : Cond) ∈ AW := AW_t5 116 rfl rfl
theorem m_1171 : (.code ({ cls := "WindWords$Storm", name := "tell", desc := "(IIII)V" } : Jvm.MethodName) prog_10_method_2_code (5 : Nat) (Option.none : Option FieldType) : Cond) ∈ AW := AW_t5 117 rfl rfl
theorem m_1172 : (.methodLink "WindWords" (344 : Nat) ({ cls := "WindWords$Storm", name := "follow", desc := "(LWindWords$Fleet;)V" } : Jvm.MethodName) : Cond) ∈ AW := AW_t5 118 rfl rfl
theorem m_1173 : (.instanceMethod ({ cls := "WindWords$Storm", name := "follow", desc := "(LWindWords$Fleet;)V" } : Jvm.MethodName) : Cond) ∈ AW := AW_t5 119 rfl rfl
theorem m_1174 : (.selects "WindWords$Storm" ({ cls := "WindWords$Storm", name := "follow", desc := "(LWindWords$Fleet;)V" } : Jvm.MethodName) ({ cls := "WindWords$Storm", name := "follow", desc := "(LWindWords$Fleet;)V" } : Jvm.MethodName) : Cond) ∈ AW := AW_t5 120 rfl rfl
theorem m_1175 : (.code ({ cls := "WindWords$Storm", name := "follow", desc := "(LWindWords$Fleet;)V" } : Jvm.MethodName) prog_10_method_5_code (4 : Nat) (Option.none : Option FieldType) : Cond) ∈ AW := AW_t5 121 rfl rfl
theorem m_1176 : (.methodLink "WindWords$Storm" (36 : Nat) ({ cls := "java/lang/Math", name := "min", desc := "(II)I" } : Jvm.MethodName) : Cond) ∈ AW := AW_t5 122 rfl rfl
theorem m_1177 : (.methodLink "WindWords$Storm" (42 : Nat) ({ cls := "WindWords$Storm", name := "allowed", desc := "(ILWindWords$Fleet;)J" } : Jvm.MethodName) : Cond) ∈ AW := AW_t5 123 rfl rfl
theorem m_1179 : (.instanceMethod ({ cls := "WindWords$Storm", name := "allowed", desc := "(ILWindWords$Fleet;)J" } : Jvm.MethodName) : Cond) ∈ AW := AW_t5 125 rfl rfl
theorem m_1180 : (.code ({ cls := "WindWords$Storm", name := "allowed", desc := "(ILWindWords$Fleet;)J" } : Jvm.MethodName) prog_10_method_6_code (9 : Nat) (Option.some FieldType.long) : Cond) ∈ AW := AW_t5 126 rfl rfl
theorem m_1181 : (.constantLong "WindWords$Storm" (50 : Nat) (-1 : Int64) : Cond) ∈ AW := AW_t5 127 rfl rfl
theorem m_1182 : (.methodLink "WindWords$Storm" (57 : Nat) ({ cls := "WindWords$Fleet", name := "trustedMansAt", desc := "(I)LWindWords$Reading;" } : Jvm.MethodName) : Cond) ∈ AW := AW_t5 128 rfl rfl
theorem m_1183 : (.methodLink "WindWords$Storm" (69 : Nat) ({ cls := "WindWords$Storm", name := "around", desc := "(I)J" } : Jvm.MethodName) : Cond) ∈ AW := AW_t5 129 rfl rfl
theorem m_1185 : (.instanceMethod ({ cls := "WindWords$Storm", name := "around", desc := "(I)J" } : Jvm.MethodName) : Cond) ∈ AW := AW_t5 131 rfl rfl
theorem m_1186 : (.code ({ cls := "WindWords$Storm", name := "around", desc := "(I)J" } : Jvm.MethodName) prog_10_method_7_code (5 : Nat) (Option.some FieldType.long) : Cond) ∈ AW := AW_t5 132 rfl rfl
theorem m_1187 : (.methodLink "WindWords$Storm" (46 : Nat) ({ cls := "WindWords$Storm", name := "spread", desc := "(J)J" } : Jvm.MethodName) : Cond) ∈ AW := AW_t5 133 rfl rfl
theorem m_1188 : (.static ({ cls := "WindWords$Storm", name := "spread", desc := "(J)J" } : Jvm.MethodName) : Cond) ∈ AW := AW_t5 134 rfl rfl
theorem m_1189 : (.code ({ cls := "WindWords$Storm", name := "spread", desc := "(J)J" } : Jvm.MethodName) prog_10_method_8_code (4 : Nat) (Option.some FieldType.long) : Cond) ∈ AW := AW_t5 135 rfl rfl
theorem m_1190 : (.constantLong "WindWords$Storm" (76 : Nat) (-72340172838076674 : Int64) : Cond) ∈ AW := AW_t5 136 rfl rfl
theorem m_1191 : (.constantLong "WindWords$Storm" (78 : Nat) (9187201950435737471 : Int64) : Cond) ∈ AW := AW_t5 137 rfl rfl
theorem m_1192 : (.methodLink "WindWords" (348 : Nat) ({ cls := "WindWords$Storm", name := "cellsOn", desc := "(I)J" } : Jvm.MethodName) : Cond) ∈ AW := AW_t5 138 rfl rfl
theorem m_1193 : (.instanceMethod ({ cls := "WindWords$Storm", name := "cellsOn", desc := "(I)J" } : Jvm.MethodName) : Cond) ∈ AW := AW_t5 139 rfl rfl
theorem m_1194 : (.selects "WindWords$Storm" ({ cls := "WindWords$Storm", name := "cellsOn", desc := "(I)J" } : Jvm.MethodName) ({ cls := "WindWords$Storm", name := "cellsOn", desc := "(I)J" } : Jvm.MethodName) : Cond) ∈ AW := AW_t5 140 rfl rfl
theorem m_1195 : (.code ({ cls := "WindWords$Storm", name := "cellsOn", desc := "(I)J" } : Jvm.MethodName) prog_10_method_4_code (2 : Nat) (Option.some FieldType.long) : Cond) ∈ AW := AW_t5 141 rfl rfl
theorem m_1196 : (.methodLink "WindWords$Storm" (32 : Nat) ({ cls := "WindWords$Storm", name := "lasts", desc := "(I)Z" } : Jvm.MethodName) : Cond) ∈ AW := AW_t5 142 rfl rfl
theorem m_1197 : (.instanceMethod ({ cls := "WindWords$Storm", name := "lasts", desc := "(I)Z" } : Jvm.MethodName) : Cond) ∈ AW := AW_t5 143 rfl rfl
theorem m_1198 : (.selects "WindWords$Storm" ({ cls := "WindWords$Storm", name := "lasts", desc := "(I)Z" } : Jvm.MethodName) ({ cls := "WindWords$Storm", name := "lasts", desc := "(I)Z" } : Jvm.MethodName) : Cond) ∈ AW := AW_t5 144 rfl rfl
theorem m_1199 : (.code ({ cls := "WindWords$Storm", name := "lasts", desc := "(I)Z" } : Jvm.MethodName) prog_10_method_3_code (2 : Nat) (Option.some FieldType.boolean) : Cond) ∈ AW := AW_t5 145 rfl rfl
theorem m_1200 : (.methodLink "WindWordsLaw" (133 : Nat) ({ cls := "WindWords", name := "way", desc := "(II)I" } : Jvm.MethodName) : Cond) ∈ AW := AW_t5 146 rfl rfl
theorem m_1201 : (.instanceMethod ({ cls := "WindWords", name := "way", desc := "(II)I" } : Jvm.MethodName) : Cond) ∈ AW := AW_t5 147 rfl rfl
theorem m_1202 : (.selects "WindWords" ({ cls := "WindWords", name := "way", desc := "(II)I" } : Jvm.MethodName) ({ cls := "WindWords", name := "way", desc := "(II)I" } : Jvm.MethodName) : Cond) ∈ AW := AW_t5 148 rfl rfl
theorem m_1203 : (.code ({ cls := "WindWords", name := "way", desc := "(II)I" } : Jvm.MethodName) prog_1_method_30_code (5 : Nat) (Option.some FieldType.int) : Cond) ∈ AW := AW_t5 149 rfl rfl
theorem m_1204 : (.methodLink "WindWords" (352 : Nat) ({ cls := "WindWords$Storm", name := "lasts", desc := "(I)Z" } : Jvm.MethodName) : Cond) ∈ AW := AW_t5 150 rfl rfl
theorem m_1205 : (.methodLink "WindWords" (355 : Nat) ({ cls := "java/lang/Long", name := "bitCount", desc := "(J)I" } : Jvm.MethodName) : Cond) ∈ AW := AW_t5 151 rfl rfl
theorem m_1206 : (.static ({ cls := "java/lang/Long", name := "bitCount", desc := "(J)I" } : Jvm.MethodName) : Cond) ∈ AW := AW_t5 152 rfl rfl
theorem m_1207 : (.code ({ cls := "java/lang/Long", name := "bitCount", desc := "(J)I" } : Jvm.MethodName) prog_17_method_50_code (2 : Nat) (Option.some FieldType.int) : Cond) ∈ AW := AW_t5 153 rfl rfl
theorem m_1208 : (.constantLong "java/lang/Long" (314 : Nat) (6148914691236517205 : Int64) : Cond) ∈ AW := AW_t5 154 rfl rfl
theorem m_1209 : (.constantLong "java/lang/Long" (316 : Nat) (3689348814741910323 : Int64) : Cond) ∈ AW := AW_t5 155 rfl rfl
theorem m_1210 : (.constantLong "java/lang/Long" (318 : Nat) (1085102592571150095 : Int64) : Cond) ∈ AW := AW_t5 156 rfl rfl
theorem m_1211 : (.methodLink "WindWordsLaw" (137 : Nat) ({ cls := "WindWords", name := "image", desc := "()I" } : Jvm.MethodName) : Cond) ∈ AW := AW_t5 157 rfl rfl
theorem m_1212 : (.instanceMethod ({ cls := "WindWords", name := "image", desc := "()I" } : Jvm.MethodName) : Cond) ∈ AW := AW_t5 158 rfl rfl
theorem m_1213 : (.selects "WindWords" ({ cls := "WindWords", name := "image", desc := "()I" } : Jvm.MethodName) ({ cls := "WindWords", name := "image", desc := "()I" } : Jvm.MethodName) : Cond) ∈ AW := AW_t5 159 rfl rfl
theorem m_1214 : (.code ({ cls := "WindWords", name := "image", desc := "()I" } : Jvm.MethodName) prog_1_method_31_code (1 : Nat) (Option.some FieldType.int) : Cond) ∈ AW := AW_t5 160 rfl rfl
theorem m_1215 : (.instantiable "WindWords$Image" (4 : Nat) : Cond) ∈ AW := AW_t5 161 rfl rfl
theorem m_1216 : (.methodLink "WindWords" (361 : Nat) ({ cls := "WindWords$Image", name := "<init>", desc := "(LWindWords$Fleet;)V" } : Jvm.MethodName) : Cond) ∈ AW := AW_t5 162 rfl rfl
theorem m_1217 : (.instanceMethod ({ cls := "WindWords$Image", name := "<init>", desc := "(LWindWords$Fleet;)V" } : Jvm.MethodName) : Cond) ∈ AW := AW_t5 163 rfl rfl
theorem m_1218 : (.code ({ cls := "WindWords$Image", name := "<init>", desc := "(LWindWords$Fleet;)V" } : Jvm.MethodName) prog_4_method_1_code (2 : Nat) (Option.none : Option FieldType) : Cond) ∈ AW := AW_t5 164 rfl rfl
theorem m_1219 : (.methodLink "WindWords$Image" (1 : Nat) ({ cls := "java/lang/Object", name := "<init>", desc := "()V" } : Jvm.MethodName) : Cond) ∈ AW := AW_t5 165 rfl rfl
theorem m_1220 : (.fieldLink "WindWords$Image" (13 : Nat) "WindWords$Image" "readings" "I" : Cond) ∈ AW := AW_t5 166 rfl rfl
theorem m_1221 : (.fieldLink "WindWords" (363 : Nat) "WindWords$Image" "readings" "I" : Cond) ∈ AW := AW_t5 167 rfl rfl
theorem m_1222 : (.fieldLink "WindWords$Image" (19 : Nat) "WindWords$Image" "distrusted" "I" : Cond) ∈ AW := AW_t5 168 rfl rfl
theorem m_1223 : (.fieldLink "WindWords" (367 : Nat) "WindWords$Image" "distrusted" "I" : Cond) ∈ AW := AW_t5 169 rfl rfl
theorem m_1224 : (.fieldLink "WindWords$Image" (23 : Nat) "WindWords$Image" "sight" "I" : Cond) ∈ AW := AW_t5 170 rfl rfl
theorem m_1225 : (.fieldLink "WindWords" (371 : Nat) "WindWords$Image" "sight" "I" : Cond) ∈ AW := AW_t5 171 rfl rfl
theorem m_1226 : (.fieldLink "WindWords$Image" (27 : Nat) "WindWords$Image" "error" "I" : Cond) ∈ AW := AW_t5 172 rfl rfl
theorem m_1227 : (.fieldLink "WindWords" (372 : Nat) "WindWords$Image" "error" "I" : Cond) ∈ AW := AW_t5 173 rfl rfl
theorem m_1237 : (.methodLink "WindWordsLaw" (141 : Nat) ({ cls := "WindWords", name := "back", desc := "(I)I" } : Jvm.MethodName) : Cond) ∈ AW := AW_t5 183 rfl rfl
theorem m_1238 : (.instanceMethod ({ cls := "WindWords", name := "back", desc := "(I)I" } : Jvm.MethodName) : Cond) ∈ AW := AW_t5 184 rfl rfl
theorem m_1239 : (.selects "WindWords" ({ cls := "WindWords", name := "back", desc := "(I)I" } : Jvm.MethodName) ({ cls := "WindWords", name := "back", desc := "(I)I" } : Jvm.MethodName) : Cond) ∈ AW := AW_t5 185 rfl rfl
theorem m_1240 : (.code ({ cls := "WindWords", name := "back", desc := "(I)I" } : Jvm.MethodName) prog_1_method_32_code (4 : Nat) (Option.some FieldType.int) : Cond) ∈ AW := AW_t5 186 rfl rfl
theorem m_1241 : (.methodLink "WindWords" (364 : Nat) ({ cls := "WindWords$Fleet", name := "forgetFrom", desc := "(I)V" } : Jvm.MethodName) : Cond) ∈ AW := AW_t5 187 rfl rfl
theorem m_1242 : (.instanceMethod ({ cls := "WindWords$Fleet", name := "forgetFrom", desc := "(I)V" } : Jvm.MethodName) : Cond) ∈ AW := AW_t5 188 rfl rfl
theorem m_1243 : (.selects "WindWords$Fleet" ({ cls := "WindWords$Fleet", name := "forgetFrom", desc := "(I)V" } : Jvm.MethodName) ({ cls := "WindWords$Fleet", name := "forgetFrom", desc := "(I)V" } : Jvm.MethodName) : Cond) ∈ AW := AW_t5 189 rfl rfl
theorem m_1244 : (.code ({ cls := "WindWords$Fleet", name := "forgetFrom", desc := "(I)V" } : Jvm.MethodName) prog_2_method_7_code (4 : Nat) (Option.none : Option FieldType) : Cond) ∈ AW := AW_t5 190 rfl rfl
theorem m_1245 : (.methodLink "WindWords$Fleet" (70 : Nat) ({ cls := "java/lang/Math", name := "max", desc := "(II)I" } : Jvm.MethodName) : Cond) ∈ AW := AW_t5 191 rfl rfl
theorem m_1246 : (.methodLink "WindWords$Fleet" (76 : Nat) ({ cls := "java/lang/Math", name := "min", desc := "(II)I" } : Jvm.MethodName) : Cond) ∈ AW := AW_t5 192 rfl rfl
theorem m_1247 : (.methodLink "WindWordsLaw" (145 : Nat) ({ cls := "WindWords", name := "count", desc := "(I)I" } : Jvm.MethodName) : Cond) ∈ AW := AW_t5 193 rfl rfl
theorem m_1248 : (.instanceMethod ({ cls := "WindWords", name := "count", desc := "(I)I" } : Jvm.MethodName) : Cond) ∈ AW := AW_t5 194 rfl rfl
theorem m_1249 : (.selects "WindWords" ({ cls := "WindWords", name := "count", desc := "(I)I" } : Jvm.MethodName) ({ cls := "WindWords", name := "count", desc := "(I)I" } : Jvm.MethodName) : Cond) ∈ AW := AW_t5 195 rfl rfl
theorem m_1250 : (.code ({ cls := "WindWords", name := "count", desc := "(I)I" } : Jvm.MethodName) prog_1_method_33_code (2 : Nat) (Option.some FieldType.int) : Cond) ∈ AW := AW_t5 196 rfl rfl
theorem m_1251 : (.methodLink "WindWords" (377 : Nat) ({ cls := "WindWords", name := "statementsOfHabits", desc := "()I" } : Jvm.MethodName) : Cond) ∈ AW := AW_t5 197 rfl rfl
theorem m_1253 : (.instanceMethod ({ cls := "WindWords", name := "statementsOfHabits", desc := "()I" } : Jvm.MethodName) : Cond) ∈ AW := AW_t5 199 rfl rfl
theorem m_1254 : (.code ({ cls := "WindWords", name := "statementsOfHabits", desc := "()I" } : Jvm.MethodName) prog_1_method_42_code (4 : Nat) (Option.some FieldType.int) : Cond) ∈ AW := AW_t5 200 rfl rfl
theorem m_1255 : (.classLink "WindWordsLaw" (10 : Nat) "WindWordsModel" : Cond) ∈ AW := AW_t5 201 rfl rfl
theorem m_1256 : (.instantiable "WindWordsModel" (80 : Nat) : Cond) ∈ AW := AW_t5 202 rfl rfl
theorem m_1257 : (.methodLink "WindWordsLaw" (12 : Nat) ({ cls := "WindWordsModel", name := "<init>", desc := "()V" } : Jvm.MethodName) : Cond) ∈ AW := AW_t5 203 rfl rfl
theorem m_1258 : (.instanceMethod ({ cls := "WindWordsModel", name := "<init>", desc := "()V" } : Jvm.MethodName) : Cond) ∈ AW := AW_t5 204 rfl rfl
theorem m_1259 : (.code ({ cls := "WindWordsModel", name := "<init>", desc := "()V" } : Jvm.MethodName) prog_14_method_1_code (1 : Nat) (Option.none : Option FieldType) : Cond) ∈ AW := AW_t5 205 rfl rfl
theorem m_1260 : (.methodLink "WindWordsModel" (1 : Nat) ({ cls := "java/lang/Object", name := "<init>", desc := "()V" } : Jvm.MethodName) : Cond) ∈ AW := AW_t5 206 rfl rfl
theorem m_1261 : (.fieldLink "WindWordsModel" (7 : Nat) "WindWordsModel" "refused" "[I" : Cond) ∈ AW := AW_t5 207 rfl rfl
theorem m_1262 : (.fieldLink "WindWordsModel" (158 : Nat) "WindWordsModel" "officers" "I" : Cond) ∈ AW := AW_t5 208 rfl rfl
theorem m_1263 : (.fieldLink "WindWordsModel" (165 : Nat) "WindWordsModel" "ships" "I" : Cond) ∈ AW := AW_t5 209 rfl rfl
theorem m_1264 : (.fieldLink "WindWordsModel" (179 : Nat) "WindWordsModel" "signings" "I" : Cond) ∈ AW := AW_t5 210 rfl rfl
theorem m_1265 : (.fieldLink "WindWordsModel" (182 : Nat) "WindWordsModel" "readings" "I" : Cond) ∈ AW := AW_t5 211 rfl rfl
theorem m_1266 : (.fieldLink "WindWordsModel" (13 : Nat) "WindWordsModel" "sight" "I" : Cond) ∈ AW := AW_t5 212 rfl rfl
theorem m_1267 : (.fieldLink "WindWordsModel" (17 : Nat) "WindWordsModel" "error" "I" : Cond) ∈ AW := AW_t5 213 rfl rfl
theorem m_1268 : (.fieldLink "WindWordsModel" (20 : Nat) "WindWordsModel" "isTrusted" "[Z" : Cond) ∈ AW := AW_t5 214 rfl rfl
theorem m_1269 : (.fieldLink "WindWordsModel" (24 : Nat) "WindWordsModel" "rig" "[I" : Cond) ∈ AW := AW_t5 215 rfl rfl
theorem m_1270 : (.fieldLink "WindWordsModel" (27 : Nat) "WindWordsModel" "signer" "[I" : Cond) ∈ AW := AW_t5 216 rfl rfl
theorem m_1271 : (.fieldLink "WindWordsModel" (30 : Nat) "WindWordsModel" "lastSigned" "[I" : Cond) ∈ AW := AW_t5 217 rfl rfl
theorem m_1272 : (.fieldLink "WindWordsModel" (33 : Nat) "WindWordsModel" "signShip" "[I" : Cond) ∈ AW := AW_t5 218 rfl rfl
theorem m_1273 : (.fieldLink "WindWordsModel" (36 : Nat) "WindWordsModel" "signOfficer" "[I" : Cond) ∈ AW := AW_t5 219 rfl rfl
theorem m_1274 : (.fieldLink "WindWordsModel" (39 : Nat) "WindWordsModel" "signWatch" "[I" : Cond) ∈ AW := AW_t5 220 rfl rfl
theorem m_1275 : (.fieldLink "WindWordsModel" (42 : Nat) "WindWordsModel" "shipOf" "[I" : Cond) ∈ AW := AW_t5 221 rfl rfl
theorem m_1276 : (.fieldLink "WindWordsModel" (45 : Nat) "WindWordsModel" "watchOf" "[I" : Cond) ∈ AW := AW_t5 222 rfl rfl
theorem m_1277 : (.fieldLink "WindWordsModel" (48 : Nat) "WindWordsModel" "cellOf" "[I" : Cond) ∈ AW := AW_t5 223 rfl rfl
theorem m_1278 : (.fieldLink "WindWordsModel" (51 : Nat) "WindWordsModel" "kindOf" "[I" : Cond) ∈ AW := AW_t5 224 rfl rfl
theorem m_1279 : (.fieldLink "WindWordsModel" (54 : Nat) "WindWordsModel" "numberOf" "[I" : Cond) ∈ AW := AW_t5 225 rfl rfl
theorem m_1280 : (.fieldLink "WindWordsModel" (57 : Nat) "WindWordsModel" "depthOf" "[I" : Cond) ∈ AW := AW_t5 226 rfl rfl
theorem m_1281 : (.fieldLink "WindWordsModel" (60 : Nat) "WindWordsModel" "sparsOf" "[I" : Cond) ∈ AW := AW_t5 227 rfl rfl
theorem m_1282 : (.fieldLink "WindWordsModel" (63 : Nat) "WindWordsModel" "statements" "[I" : Cond) ∈ AW := AW_t5 228 rfl rfl
theorem m_1283 : (.fieldLink "WindWordsModel" (66 : Nat) "WindWordsModel" "scaleYear" "[I" : Cond) ∈ AW := AW_t5 229 rfl rfl
theorem m_1284 : (.fieldLink "WindWordsModel" (345 : Nat) "WindWordsModel" "scales" "I" : Cond) ∈ AW := AW_t5 230 rfl rfl
theorem m_1285 : (.fieldLink "WindWordsModel" (69 : Nat) "WindWordsModel" "sort" "[I" : Cond) ∈ AW := AW_t5 231 rfl rfl
theorem m_1286 : (.fieldLink "WindWordsModel" (72 : Nat) "WindWordsModel" "much" "[I" : Cond) ∈ AW := AW_t5 232 rfl rfl
theorem m_1287 : (.fieldLink "WindWordsModel" (75 : Nat) "WindWordsModel" "bound" "[I" : Cond) ∈ AW := AW_t5 233 rfl rfl
theorem m_1288 : (.fieldLink "WindWordsModel" (78 : Nat) "WindWordsModel" "first" "[I" : Cond) ∈ AW := AW_t5 234 rfl rfl
theorem m_1289 : (.fieldLink "WindWordsModel" (81 : Nat) "WindWordsModel" "behind" "[I" : Cond) ∈ AW := AW_t5 235 rfl rfl
theorem m_1290 : (.fieldLink "WindWordsModel" (84 : Nat) "WindWordsModel" "step" "[I" : Cond) ∈ AW := AW_t5 236 rfl rfl
theorem m_1291 : (.fieldLink "WindWordsModel" (87 : Nat) "WindWordsModel" "stepNumber" "[I" : Cond) ∈ AW := AW_t5 237 rfl rfl
theorem m_1292 : (.fieldLink "WindWordsModel" (90 : Nat) "WindWordsModel" "tape" "[B" : Cond) ∈ AW := AW_t5 238 rfl rfl
theorem m_1293 : (.fieldLink "WindWordsModel" (201 : Nat) "WindWordsModel" "taped" "I" : Cond) ∈ AW := AW_t5 239 rfl rfl
theorem m_1294 : (.fieldLink "WindWordsModel" (94 : Nat) "WindWordsModel" "faultAt" "I" : Cond) ∈ AW := AW_t6 0 rfl rfl
theorem m_1295 : (.fieldLink "WindWordsModel" (207 : Nat) "WindWordsModel" "limit" "I" : Cond) ∈ AW := AW_t6 1 rfl rfl
theorem m_1296 : (.fieldLink "WindWordsModel" (204 : Nat) "WindWordsModel" "point" "I" : Cond) ∈ AW := AW_t6 2 rfl rfl
theorem m_1297 : (.fieldLink "WindWordsModel" (214 : Nat) "WindWordsModel" "from" "I" : Cond) ∈ AW := AW_t6 3 rfl rfl
theorem m_1298 : (.fieldLink "WindWordsModel" (226 : Nat) "WindWordsModel" "token" "I" : Cond) ∈ AW := AW_t6 4 rfl rfl
theorem m_1299 : (.fieldLink "WindWordsModel" (223 : Nat) "WindWordsModel" "value" "I" : Cond) ∈ AW := AW_t6 5 rfl rfl
theorem m_1300 : (.fieldLink "WindWordsModel" (256 : Nat) "WindWordsModel" "slot" "I" : Cond) ∈ AW := AW_t6 6 rfl rfl
theorem m_1301 : (.fieldLink "WindWordsModel" (336 : Nat) "WindWordsModel" "count" "I" : Cond) ∈ AW := AW_t6 7 rfl rfl
theorem m_1302 : (.fieldLink "WindWordsModel" (259 : Nat) "WindWordsModel" "stepped" "I" : Cond) ∈ AW := AW_t6 8 rfl rfl
theorem m_1303 : (.fieldLink "WindWordsModel" (219 : Nat) "WindWordsModel" "text" "J" : Cond) ∈ AW := AW_t6 9 rfl rfl
theorem m_1304 : (.fieldLink "WindWordsModel" (232 : Nat) "WindWordsModel" "isWrong" "Z" : Cond) ∈ AW := AW_t6 10 rfl rfl
theorem m_1305 : (.fieldLink "WindWordsModel" (97 : Nat) "WindWordsModel" "waits" "[I" : Cond) ∈ AW := AW_t6 11 rfl rfl
theorem m_1306 : (.fieldLink "WindWordsModel" (265 : Nat) "WindWordsModel" "waiting" "I" : Cond) ∈ AW := AW_t6 12 rfl rfl
theorem m_1307 : (.fieldLink "WindWordsModel" (262 : Nat) "WindWordsModel" "open" "I" : Cond) ∈ AW := AW_t6 13 rfl rfl
theorem m_1308 : (.fieldLink "WindWordsModel" (100 : Nat) "WindWordsModel" "asks" "[I" : Cond) ∈ AW := AW_t6 14 rfl rfl
theorem m_1309 : (.fieldLink "WindWordsModel" (103 : Nat) "WindWordsModel" "so" "[Z" : Cond) ∈ AW := AW_t6 15 rfl rfl
theorem m_1310 : (.fieldLink "WindWordsModel" (106 : Nat) "WindWordsModel" "least" "[I" : Cond) ∈ AW := AW_t6 16 rfl rfl
theorem m_1311 : (.fieldLink "WindWordsModel" (109 : Nat) "WindWordsModel" "greatest" "[I" : Cond) ∈ AW := AW_t6 17 rfl rfl
theorem m_1312 : (.fieldLink "WindWordsModel" (112 : Nat) "WindWordsModel" "given" "[I" : Cond) ∈ AW := AW_t6 18 rfl rfl
theorem m_1313 : (.fieldLink "WindWordsModel" (390 : Nat) "WindWordsModel" "givenLeast" "I" : Cond) ∈ AW := AW_t6 19 rfl rfl
theorem m_1314 : (.fieldLink "WindWordsModel" (396 : Nat) "WindWordsModel" "givenMost" "I" : Cond) ∈ AW := AW_t6 20 rfl rfl
theorem m_1315 : (.fieldLink "WindWordsModel" (393 : Nat) "WindWordsModel" "givenBest" "I" : Cond) ∈ AW := AW_t6 21 rfl rfl
theorem m_1316 : (.fieldLink "WindWordsModel" (387 : Nat) "WindWordsModel" "givenAll" "I" : Cond) ∈ AW := AW_t6 22 rfl rfl
theorem m_1317 : (.fieldLink "WindWordsModel" (115 : Nat) "WindWordsModel" "atMost" "[I" : Cond) ∈ AW := AW_t6 23 rfl rfl
theorem m_1318 : (.fieldLink "WindWordsModel" (417 : Nat) "WindWordsModel" "isTight" "Z" : Cond) ∈ AW := AW_t6 24 rfl rfl
theorem m_1319 : (.fieldLink "WindWordsModel" (441 : Nat) "WindWordsModel" "windCount" "I" : Cond) ∈ AW := AW_t6 25 rfl rfl
theorem m_1320 : (.fieldLink "WindWordsModel" (444 : Nat) "WindWordsModel" "windLeast" "I" : Cond) ∈ AW := AW_t6 26 rfl rfl
theorem m_1321 : (.fieldLink "WindWordsModel" (447 : Nat) "WindWordsModel" "windGreatest" "I" : Cond) ∈ AW := AW_t6 27 rfl rfl
theorem m_1322 : (.fieldLink "WindWordsModel" (118 : Nat) "WindWordsModel" "orders" "[J" : Cond) ∈ AW := AW_t6 28 rfl rfl
theorem m_1323 : (.fieldLink "WindWordsModel" (122 : Nat) "WindWordsModel" "ordersBefore" "[J" : Cond) ∈ AW := AW_t6 29 rfl rfl
theorem m_1324 : (.fieldLink "WindWordsModel" (125 : Nat) "WindWordsModel" "values" "[I" : Cond) ∈ AW := AW_t6 30 rfl rfl
theorem m_1325 : (.fieldLink "WindWordsModel" (460 : Nat) "WindWordsModel" "lateSum" "I" : Cond) ∈ AW := AW_t6 31 rfl rfl
theorem m_1326 : (.fieldLink "WindWordsModel" (463 : Nat) "WindWordsModel" "lateCount" "I" : Cond) ∈ AW := AW_t6 32 rfl rfl
theorem m_1327 : (.fieldLink "WindWordsModel" (128 : Nat) "WindWordsModel" "above" "[I" : Cond) ∈ AW := AW_t6 33 rfl rfl
theorem m_1328 : (.fieldLink "WindWordsModel" (131 : Nat) "WindWordsModel" "isPaid" "[Z" : Cond) ∈ AW := AW_t6 34 rfl rfl
theorem m_1329 : (.fieldLink "WindWordsModel" (134 : Nat) "WindWordsModel" "turned" "[I" : Cond) ∈ AW := AW_t6 35 rfl rfl
theorem m_1330 : (.fieldLink "WindWordsModel" (137 : Nat) "WindWordsModel" "stormFrom" "I" : Cond) ∈ AW := AW_t6 36 rfl rfl
theorem m_1331 : (.fieldLink "WindWordsModel" (496 : Nat) "WindWordsModel" "stormTo" "I" : Cond) ∈ AW := AW_t6 37 rfl rfl
theorem m_1332 : (.fieldLink "WindWordsModel" (490 : Nat) "WindWordsModel" "radius" "I" : Cond) ∈ AW := AW_t6 38 rfl rfl
theorem m_1333 : (.fieldLink "WindWordsModel" (493 : Nat) "WindWordsModel" "line" "I" : Cond) ∈ AW := AW_t6 39 rfl rfl
theorem m_1334 : (.fieldLink "WindWordsModel" (140 : Nat) "WindWordsModel" "canBe" "[Z" : Cond) ∈ AW := AW_t6 40 rfl rfl
theorem m_1335 : (.fieldLink "WindWordsModel" (511 : Nat) "WindWordsModel" "images" "I" : Cond) ∈ AW := AW_t6 41 rfl rfl
theorem m_1336 : (.fieldLink "WindWordsModel" (143 : Nat) "WindWordsModel" "imageReadings" "[I" : Cond) ∈ AW := AW_t6 42 rfl rfl
theorem m_1337 : (.fieldLink "WindWordsModel" (146 : Nat) "WindWordsModel" "imageOfficers" "[I" : Cond) ∈ AW := AW_t6 43 rfl rfl
theorem m_1338 : (.fieldLink "WindWordsModel" (149 : Nat) "WindWordsModel" "imageSight" "[I" : Cond) ∈ AW := AW_t6 44 rfl rfl
theorem m_1339 : (.fieldLink "WindWordsModel" (152 : Nat) "WindWordsModel" "imageError" "[I" : Cond) ∈ AW := AW_t6 45 rfl rfl
theorem m_1340 : (.fieldLink "WindWordsModel" (155 : Nat) "WindWordsModel" "imageTrust" "[Z" : Cond) ∈ AW := AW_t6 46 rfl rfl
theorem m_1502 : (.arrayClass FieldType.boolean : Cond) ∈ AW := AW_t6 208 rfl rfl
theorem m_1503 : (.methodLink "WindWordsLaw" (17 : Nat) ({ cls := "WindWordsModel", name := "officer", desc := "()I" } : Jvm.MethodName) : Cond) ∈ AW := AW_t6 209 rfl rfl
theorem m_1504 : (.instanceMethod ({ cls := "WindWordsModel", name := "officer", desc := "()I" } : Jvm.MethodName) : Cond) ∈ AW := AW_t6 210 rfl rfl
theorem m_1505 : (.selects "WindWordsModel" ({ cls := "WindWordsModel", name := "officer", desc := "()I" } : Jvm.MethodName) ({ cls := "WindWordsModel", name := "officer", desc := "()I" } : Jvm.MethodName) : Cond) ∈ AW := AW_t6 211 rfl rfl
theorem m_1506 : (.code ({ cls := "WindWordsModel", name := "officer", desc := "()I" } : Jvm.MethodName) prog_14_method_7_code (1 : Nat) (Option.some FieldType.int) : Cond) ∈ AW := AW_t6 212 rfl rfl
theorem m_1507 : (.methodLink "WindWordsModel" (161 : Nat) ({ cls := "WindWordsModel", name := "refuse", desc := "(I)I" } : Jvm.MethodName) : Cond) ∈ AW := AW_t6 213 rfl rfl
theorem m_1509 : (.instanceMethod ({ cls := "WindWordsModel", name := "refuse", desc := "(I)I" } : Jvm.MethodName) : Cond) ∈ AW := AW_t6 215 rfl rfl
theorem m_1510 : (.code ({ cls := "WindWordsModel", name := "refuse", desc := "(I)I" } : Jvm.MethodName) prog_14_method_6_code (2 : Nat) (Option.some FieldType.int) : Cond) ∈ AW := AW_t6 216 rfl rfl
theorem m_1511 : (.methodLink "WindWordsLaw" (22 : Nat) ({ cls := "WindWordsModel", name := "ship", desc := "(II)I" } : Jvm.MethodName) : Cond) ∈ AW := AW_t6 217 rfl rfl
theorem m_1512 : (.instanceMethod ({ cls := "WindWordsModel", name := "ship", desc := "(II)I" } : Jvm.MethodName) : Cond) ∈ AW := AW_t6 218 rfl rfl
theorem m_1513 : (.selects "WindWordsModel" ({ cls := "WindWordsModel", name := "ship", desc := "(II)I" } : Jvm.MethodName) ({ cls := "WindWordsModel", name := "ship", desc := "(II)I" } : Jvm.MethodName) : Cond) ∈ AW := AW_t6 219 rfl rfl
theorem m_1514 : (.code ({ cls := "WindWordsModel", name := "ship", desc := "(II)I" } : Jvm.MethodName) prog_14_method_10_code (3 : Nat) (Option.some FieldType.int) : Cond) ∈ AW := AW_t6 220 rfl rfl
theorem m_1515 : (.methodLink "WindWordsModel" (168 : Nat) ({ cls := "WindWordsModel", name := "within", desc := "(III)Z" } : Jvm.MethodName) : Cond) ∈ AW := AW_t6 221 rfl rfl
theorem m_1516 : (.static ({ cls := "WindWordsModel", name := "within", desc := "(III)Z" } : Jvm.MethodName) : Cond) ∈ AW := AW_t6 222 rfl rfl
theorem m_1517 : (.code ({ cls := "WindWordsModel", name := "within", desc := "(III)Z" } : Jvm.MethodName) prog_14_method_3_code (3 : Nat) (Option.some FieldType.boolean) : Cond) ∈ AW := AW_t6 223 rfl rfl
theorem m_1518 : (.methodLink "WindWordsModel" (172 : Nat) ({ cls := "WindWordsModel", name := "isOfficer", desc := "(I)Z" } : Jvm.MethodName) : Cond) ∈ AW := AW_t6 224 rfl rfl
theorem m_1520 : (.instanceMethod ({ cls := "WindWordsModel", name := "isOfficer", desc := "(I)Z" } : Jvm.MethodName) : Cond) ∈ AW := AW_t6 226 rfl rfl
theorem m_1521 : (.code ({ cls := "WindWordsModel", name := "isOfficer", desc := "(I)Z" } : Jvm.MethodName) prog_14_method_8_code (2 : Nat) (Option.some FieldType.boolean) : Cond) ∈ AW := AW_t6 227 rfl rfl
theorem m_1522 : (.methodLink "WindWordsLaw" (27 : Nat) ({ cls := "WindWordsModel", name := "signs", desc := "(III)I" } : Jvm.MethodName) : Cond) ∈ AW := AW_t6 228 rfl rfl
theorem m_1523 : (.instanceMethod ({ cls := "WindWordsModel", name := "signs", desc := "(III)I" } : Jvm.MethodName) : Cond) ∈ AW := AW_t6 229 rfl rfl
theorem m_1524 : (.selects "WindWordsModel" ({ cls := "WindWordsModel", name := "signs", desc := "(III)I" } : Jvm.MethodName) ({ cls := "WindWordsModel", name := "signs", desc := "(III)I" } : Jvm.MethodName) : Cond) ∈ AW := AW_t6 230 rfl rfl
theorem m_1525 : (.code ({ cls := "WindWordsModel", name := "signs", desc := "(III)I" } : Jvm.MethodName) prog_14_method_11_code (4 : Nat) (Option.some FieldType.int) : Cond) ∈ AW := AW_t6 231 rfl rfl
theorem m_1526 : (.methodLink "WindWordsModel" (176 : Nat) ({ cls := "WindWordsModel", name := "isShip", desc := "(I)Z" } : Jvm.MethodName) : Cond) ∈ AW := AW_t6 232 rfl rfl
theorem m_1528 : (.instanceMethod ({ cls := "WindWordsModel", name := "isShip", desc := "(I)Z" } : Jvm.MethodName) : Cond) ∈ AW := AW_t6 234 rfl rfl
theorem m_1529 : (.code ({ cls := "WindWordsModel", name := "isShip", desc := "(I)Z" } : Jvm.MethodName) prog_14_method_9_code (2 : Nat) (Option.some FieldType.boolean) : Cond) ∈ AW := AW_t6 235 rfl rfl
theorem m_1530 : (.methodLink "WindWordsLaw" (32 : Nat) ({ cls := "WindWordsModel", name := "trust", desc := "(IZ)Z" } : Jvm.MethodName) : Cond) ∈ AW := AW_t6 236 rfl rfl
theorem m_1531 : (.instanceMethod ({ cls := "WindWordsModel", name := "trust", desc := "(IZ)Z" } : Jvm.MethodName) : Cond) ∈ AW := AW_t6 237 rfl rfl
theorem m_1532 : (.selects "WindWordsModel" ({ cls := "WindWordsModel", name := "trust", desc := "(IZ)Z" } : Jvm.MethodName) ({ cls := "WindWordsModel", name := "trust", desc := "(IZ)Z" } : Jvm.MethodName) : Cond) ∈ AW := AW_t6 238 rfl rfl
theorem m_1533 : (.code ({ cls := "WindWordsModel", name := "trust", desc := "(IZ)Z" } : Jvm.MethodName) prog_14_method_13_code (3 : Nat) (Option.some FieldType.boolean) : Cond) ∈ AW := AW_t6 239 rfl rfl
theorem m_1534 : (.methodLink "WindWordsLaw" (37 : Nat) ({ cls := "WindWordsModel", name := "set", desc := "(II)Z" } : Jvm.MethodName) : Cond) ∈ AW := AW_t7 0 rfl rfl
theorem m_1535 : (.instanceMethod ({ cls := "WindWordsModel", name := "set", desc := "(II)Z" } : Jvm.MethodName) : Cond) ∈ AW := AW_t7 1 rfl rfl
theorem m_1536 : (.selects "WindWordsModel" ({ cls := "WindWordsModel", name := "set", desc := "(II)Z" } : Jvm.MethodName) ({ cls := "WindWordsModel", name := "set", desc := "(II)Z" } : Jvm.MethodName) : Cond) ∈ AW := AW_t7 2 rfl rfl
theorem m_1537 : (.code ({ cls := "WindWordsModel", name := "set", desc := "(II)Z" } : Jvm.MethodName) prog_14_method_14_code (3 : Nat) (Option.some FieldType.boolean) : Cond) ∈ AW := AW_t7 3 rfl rfl
theorem m_1538 : (.methodLink "WindWordsLaw" (42 : Nat) ({ cls := "WindWordsModel", name := "read", desc := "(IIIII)I" } : Jvm.MethodName) : Cond) ∈ AW := AW_t7 4 rfl rfl
theorem m_1539 : (.instanceMethod ({ cls := "WindWordsModel", name := "read", desc := "(IIIII)I" } : Jvm.MethodName) : Cond) ∈ AW := AW_t7 5 rfl rfl
theorem m_1540 : (.selects "WindWordsModel" ({ cls := "WindWordsModel", name := "read", desc := "(IIIII)I" } : Jvm.MethodName) ({ cls := "WindWordsModel", name := "read", desc := "(IIIII)I" } : Jvm.MethodName) : Cond) ∈ AW := AW_t7 6 rfl rfl
theorem m_1541 : (.code ({ cls := "WindWordsModel", name := "read", desc := "(IIIII)I" } : Jvm.MethodName) prog_14_method_16_code (6 : Nat) (Option.some FieldType.int) : Cond) ∈ AW := AW_t7 7 rfl rfl
theorem m_1542 : (.methodLink "WindWordsModel" (185 : Nat) ({ cls := "WindWordsModel", name := "readingOf", desc := "(II)I" } : Jvm.MethodName) : Cond) ∈ AW := AW_t7 8 rfl rfl
theorem m_1544 : (.instanceMethod ({ cls := "WindWordsModel", name := "readingOf", desc := "(II)I" } : Jvm.MethodName) : Cond) ∈ AW := AW_t7 10 rfl rfl
theorem m_1545 : (.code ({ cls := "WindWordsModel", name := "readingOf", desc := "(II)I" } : Jvm.MethodName) prog_14_method_15_code (4 : Nat) (Option.some FieldType.int) : Cond) ∈ AW := AW_t7 11 rfl rfl
theorem m_1546 : (.methodLink "WindWordsLaw" (46 : Nat) ({ cls := "WindWordsModel", name := "feed", desc := "(IIIII)I" } : Jvm.MethodName) : Cond) ∈ AW := AW_t7 12 rfl rfl
theorem m_1547 : (.instanceMethod ({ cls := "WindWordsModel", name := "feed", desc := "(IIIII)I" } : Jvm.MethodName) : Cond) ∈ AW := AW_t7 13 rfl rfl
theorem m_1548 : (.selects "WindWordsModel" ({ cls := "WindWordsModel", name := "feed", desc := "(IIIII)I" } : Jvm.MethodName) ({ cls := "WindWordsModel", name := "feed", desc := "(IIIII)I" } : Jvm.MethodName) : Cond) ∈ AW := AW_t7 14 rfl rfl
theorem m_1549 : (.code ({ cls := "WindWordsModel", name := "feed", desc := "(IIIII)I" } : Jvm.MethodName) prog_14_method_23_code (8 : Nat) (Option.some FieldType.int) : Cond) ∈ AW := AW_t7 15 rfl rfl
theorem m_1550 : (.methodLink "WindWordsLaw" (50 : Nat) ({ cls := "WindWordsModel", name := "scale", desc := "(II)I" } : Jvm.MethodName) : Cond) ∈ AW := AW_t7 16 rfl rfl
theorem m_1551 : (.instanceMethod ({ cls := "WindWordsModel", name := "scale", desc := "(II)I" } : Jvm.MethodName) : Cond) ∈ AW := AW_t7 17 rfl rfl
theorem m_1552 : (.selects "WindWordsModel" ({ cls := "WindWordsModel", name := "scale", desc := "(II)I" } : Jvm.MethodName) ({ cls := "WindWordsModel", name := "scale", desc := "(II)I" } : Jvm.MethodName) : Cond) ∈ AW := AW_t7 18 rfl rfl
theorem m_1553 : (.code ({ cls := "WindWordsModel", name := "scale", desc := "(II)I" } : Jvm.MethodName) prog_14_method_43_code (3 : Nat) (Option.some FieldType.int) : Cond) ∈ AW := AW_t7 19 rfl rfl
theorem m_1554 : (.methodLink "WindWordsModel" (348 : Nat) ({ cls := "WindWordsModel", name := "reads", desc := "(IIZ)Z" } : Jvm.MethodName) : Cond) ∈ AW := AW_t7 20 rfl rfl
theorem m_1556 : (.instanceMethod ({ cls := "WindWordsModel", name := "reads", desc := "(IIZ)Z" } : Jvm.MethodName) : Cond) ∈ AW := AW_t7 22 rfl rfl
theorem m_1557 : (.code ({ cls := "WindWordsModel", name := "reads", desc := "(IIZ)Z" } : Jvm.MethodName) prog_14_method_42_code (4 : Nat) (Option.some FieldType.boolean) : Cond) ∈ AW := AW_t7 23 rfl rfl
theorem m_1558 : (.methodLink "WindWordsModel" (240 : Nat) ({ cls := "WindWordsModel", name := "next", desc := "()V" } : Jvm.MethodName) : Cond) ∈ AW := AW_t7 24 rfl rfl
theorem m_1560 : (.instanceMethod ({ cls := "WindWordsModel", name := "next", desc := "()V" } : Jvm.MethodName) : Cond) ∈ AW := AW_t7 26 rfl rfl
theorem m_1561 : (.code ({ cls := "WindWordsModel", name := "next", desc := "()V" } : Jvm.MethodName) prog_14_method_25_code (2 : Nat) (Option.none : Option FieldType) : Cond) ∈ AW := AW_t7 27 rfl rfl
theorem m_1562 : (.methodLink "WindWordsModel" (210 : Nat) ({ cls := "WindWordsModel", name := "here", desc := "()I" } : Jvm.MethodName) : Cond) ∈ AW := AW_t7 28 rfl rfl
theorem m_1564 : (.instanceMethod ({ cls := "WindWordsModel", name := "here", desc := "()I" } : Jvm.MethodName) : Cond) ∈ AW := AW_t7 30 rfl rfl
theorem m_1565 : (.code ({ cls := "WindWordsModel", name := "here", desc := "()I" } : Jvm.MethodName) prog_14_method_24_code (1 : Nat) (Option.some FieldType.int) : Cond) ∈ AW := AW_t7 31 rfl rfl
theorem m_1566 : (.constantLong "WindWordsModel" (217 : Nat) (-1 : Int64) : Cond) ∈ AW := AW_t7 32 rfl rfl
theorem m_1567 : (.constantLong "WindWordsModel" (229 : Nat) (27 : Int64) : Cond) ∈ AW := AW_t7 33 rfl rfl
theorem m_1568 : (.constant "WindWordsModel" (231 : Nat) (1000000 : Int32) : Cond) ∈ AW := AW_t7 34 rfl rfl
theorem m_1569 : (.methodLink "WindWordsModel" (243 : Nat) ({ cls := "WindWordsModel", name := "errs", desc := "()V" } : Jvm.MethodName) : Cond) ∈ AW := AW_t7 35 rfl rfl
theorem m_1571 : (.instanceMethod ({ cls := "WindWordsModel", name := "errs", desc := "()V" } : Jvm.MethodName) : Cond) ∈ AW := AW_t7 37 rfl rfl
theorem m_1572 : (.code ({ cls := "WindWordsModel", name := "errs", desc := "()V" } : Jvm.MethodName) prog_14_method_26_code (1 : Nat) (Option.none : Option FieldType) : Cond) ∈ AW := AW_t7 38 rfl rfl
theorem m_1573 : (.methodLink "WindWordsModel" (339 : Nat) ({ cls := "WindWordsModel", name := "readScale", desc := "(I)V" } : Jvm.MethodName) : Cond) ∈ AW := AW_t7 39 rfl rfl
theorem m_1575 : (.instanceMethod ({ cls := "WindWordsModel", name := "readScale", desc := "(I)V" } : Jvm.MethodName) : Cond) ∈ AW := AW_t7 41 rfl rfl
theorem m_1576 : (.code ({ cls := "WindWordsModel", name := "readScale", desc := "(I)V" } : Jvm.MethodName) prog_14_method_40_code (2 : Nat) (Option.none : Option FieldType) : Cond) ∈ AW := AW_t7 42 rfl rfl
theorem m_1577 : (.methodLink "WindWordsModel" (313 : Nat) ({ cls := "WindWordsModel", name := "sortHere", desc := "()I" } : Jvm.MethodName) : Cond) ∈ AW := AW_t7 43 rfl rfl
theorem m_1579 : (.instanceMethod ({ cls := "WindWordsModel", name := "sortHere", desc := "()I" } : Jvm.MethodName) : Cond) ∈ AW := AW_t7 45 rfl rfl
theorem m_1580 : (.code ({ cls := "WindWordsModel", name := "sortHere", desc := "()I" } : Jvm.MethodName) prog_14_method_38_code (1 : Nat) (Option.some FieldType.int) : Cond) ∈ AW := AW_t7 46 rfl rfl
theorem m_1581 : (.constantLong "WindWordsModel" (302 : Nat) (43869808 : Int64) : Cond) ∈ AW := AW_t7 47 rfl rfl
theorem m_1582 : (.methodLink "WindWordsModel" (236 : Nat) ({ cls := "WindWordsModel", name := "is", desc := "(J)Z" } : Jvm.MethodName) : Cond) ∈ AW := AW_t7 48 rfl rfl
theorem m_1584 : (.instanceMethod ({ cls := "WindWordsModel", name := "is", desc := "(J)Z" } : Jvm.MethodName) : Cond) ∈ AW := AW_t7 50 rfl rfl
theorem m_1585 : (.code ({ cls := "WindWordsModel", name := "is", desc := "(J)Z" } : Jvm.MethodName) prog_14_method_27_code (3 : Nat) (Option.some FieldType.boolean) : Cond) ∈ AW := AW_t7 51 rfl rfl
theorem m_1586 : (.constantLong "WindWordsModel" (304 : Nat) (13987 : Int64) : Cond) ∈ AW := AW_t7 52 rfl rfl
theorem m_1587 : (.constantLong "WindWordsModel" (306 : Nat) (239874 : Int64) : Cond) ∈ AW := AW_t7 53 rfl rfl
theorem m_1588 : (.methodLink "WindWordsModel" (276 : Nat) ({ cls := "WindWordsModel", name := "numeral", desc := "(I)I" } : Jvm.MethodName) : Cond) ∈ AW := AW_t7 54 rfl rfl
theorem m_1590 : (.instanceMethod ({ cls := "WindWordsModel", name := "numeral", desc := "(I)I" } : Jvm.MethodName) : Cond) ∈ AW := AW_t7 56 rfl rfl
theorem m_1591 : (.code ({ cls := "WindWordsModel", name := "numeral", desc := "(I)I" } : Jvm.MethodName) prog_14_method_29_code (3 : Nat) (Option.some FieldType.int) : Cond) ∈ AW := AW_t7 57 rfl rfl
theorem m_1592 : (.constantLong "WindWordsModel" (316 : Nat) (131638 : Int64) : Cond) ∈ AW := AW_t7 58 rfl rfl
theorem m_1593 : (.methodLink "WindWordsModel" (318 : Nat) ({ cls := "WindWordsModel", name := "mustBe", desc := "(J)V" } : Jvm.MethodName) : Cond) ∈ AW := AW_t7 59 rfl rfl
theorem m_1595 : (.instanceMethod ({ cls := "WindWordsModel", name := "mustBe", desc := "(J)V" } : Jvm.MethodName) : Cond) ∈ AW := AW_t7 61 rfl rfl
theorem m_1596 : (.code ({ cls := "WindWordsModel", name := "mustBe", desc := "(J)V" } : Jvm.MethodName) prog_14_method_28_code (3 : Nat) (Option.none : Option FieldType) : Cond) ∈ AW := AW_t7 62 rfl rfl
theorem m_1597 : (.methodLink "WindWordsModel" (322 : Nat) ({ cls := "WindWordsModel", name := "ending", desc := "(IZZ)V" } : Jvm.MethodName) : Cond) ∈ AW := AW_t7 63 rfl rfl
theorem m_1599 : (.instanceMethod ({ cls := "WindWordsModel", name := "ending", desc := "(IZZ)V" } : Jvm.MethodName) : Cond) ∈ AW := AW_t7 65 rfl rfl
theorem m_1600 : (.code ({ cls := "WindWordsModel", name := "ending", desc := "(IZZ)V" } : Jvm.MethodName) prog_14_method_39_code (4 : Nat) (Option.none : Option FieldType) : Cond) ∈ AW := AW_t7 66 rfl rfl
theorem m_1601 : (.constantLong "WindWordsModel" (308 : Nat) (249 : Int64) : Cond) ∈ AW := AW_t7 67 rfl rfl
theorem m_1602 : (.methodLink "WindWordsModel" (310 : Nat) ({ cls := "WindWordsModel", name := "condition", desc := "(Z)V" } : Jvm.MethodName) : Cond) ∈ AW := AW_t7 68 rfl rfl
theorem m_1604 : (.instanceMethod ({ cls := "WindWordsModel", name := "condition", desc := "(Z)V" } : Jvm.MethodName) : Cond) ∈ AW := AW_t7 70 rfl rfl
theorem m_1605 : (.code ({ cls := "WindWordsModel", name := "condition", desc := "(Z)V" } : Jvm.MethodName) prog_14_method_36_code (4 : Nat) (Option.none : Option FieldType) : Cond) ∈ AW := AW_t7 71 rfl rfl
theorem m_1606 : (.constantLong "WindWordsModel" (282 : Nat) (10631 : Int64) : Cond) ∈ AW := AW_t7 72 rfl rfl
theorem m_1607 : (.methodLink "WindWordsModel" (284 : Nat) ({ cls := "WindWordsModel", name := "opens", desc := "(I)V" } : Jvm.MethodName) : Cond) ∈ AW := AW_t7 73 rfl rfl
theorem m_1609 : (.instanceMethod ({ cls := "WindWordsModel", name := "opens", desc := "(I)V" } : Jvm.MethodName) : Cond) ∈ AW := AW_t7 75 rfl rfl
theorem m_1610 : (.code ({ cls := "WindWordsModel", name := "opens", desc := "(I)V" } : Jvm.MethodName) prog_14_method_32_code (2 : Nat) (Option.none : Option FieldType) : Cond) ∈ AW := AW_t7 76 rfl rfl
theorem m_1611 : (.methodLink "WindWordsModel" (288 : Nat) ({ cls := "WindWordsModel", name := "test", desc := "(Z)V" } : Jvm.MethodName) : Cond) ∈ AW := AW_t7 77 rfl rfl
theorem m_1613 : (.instanceMethod ({ cls := "WindWordsModel", name := "test", desc := "(Z)V" } : Jvm.MethodName) : Cond) ∈ AW := AW_t7 79 rfl rfl
theorem m_1614 : (.code ({ cls := "WindWordsModel", name := "test", desc := "(Z)V" } : Jvm.MethodName) prog_14_method_34_code (4 : Nat) (Option.none : Option FieldType) : Cond) ∈ AW := AW_t7 80 rfl rfl
theorem m_1615 : (.methodLink "WindWordsModel" (272 : Nat) ({ cls := "WindWordsModel", name := "asked", desc := "(Z)I" } : Jvm.MethodName) : Cond) ∈ AW := AW_t7 81 rfl rfl
theorem m_1617 : (.instanceMethod ({ cls := "WindWordsModel", name := "asked", desc := "(Z)I" } : Jvm.MethodName) : Cond) ∈ AW := AW_t7 83 rfl rfl
theorem m_1618 : (.code ({ cls := "WindWordsModel", name := "asked", desc := "(Z)I" } : Jvm.MethodName) prog_14_method_30_code (2 : Nat) (Option.some FieldType.int) : Cond) ∈ AW := AW_t7 84 rfl rfl
theorem m_1619 : (.constantLong "WindWordsModel" (246 : Nat) (13372 : Int64) : Cond) ∈ AW := AW_t7 85 rfl rfl
theorem m_1620 : (.constantLong "WindWordsModel" (248 : Nat) (495765 : Int64) : Cond) ∈ AW := AW_t7 86 rfl rfl
theorem m_1621 : (.constantLong "WindWordsModel" (250 : Nat) (2236391 : Int64) : Cond) ∈ AW := AW_t7 87 rfl rfl
theorem m_1622 : (.constantLong "WindWordsModel" (252 : Nat) (10413541 : Int64) : Cond) ∈ AW := AW_t7 88 rfl rfl
theorem m_1623 : (.constantLong "WindWordsModel" (254 : Nat) (212302449 : Int64) : Cond) ∈ AW := AW_t7 89 rfl rfl
theorem m_1624 : (.methodLink "WindWordsModel" (268 : Nat) ({ cls := "WindWordsModel", name := "adds", desc := "(II)V" } : Jvm.MethodName) : Cond) ∈ AW := AW_t7 90 rfl rfl
theorem m_1626 : (.instanceMethod ({ cls := "WindWordsModel", name := "adds", desc := "(II)V" } : Jvm.MethodName) : Cond) ∈ AW := AW_t7 92 rfl rfl
theorem m_1627 : (.code ({ cls := "WindWordsModel", name := "adds", desc := "(II)V" } : Jvm.MethodName) prog_14_method_31_code (3 : Nat) (Option.none : Option FieldType) : Cond) ∈ AW := AW_t7 93 rfl rfl
theorem m_1628 : (.methodLink "WindWordsModel" (279 : Nat) ({ cls := "WindWordsModel", name := "comes", desc := "(II)V" } : Jvm.MethodName) : Cond) ∈ AW := AW_t7 94 rfl rfl
theorem m_1630 : (.instanceMethod ({ cls := "WindWordsModel", name := "comes", desc := "(II)V" } : Jvm.MethodName) : Cond) ∈ AW := AW_t7 96 rfl rfl
theorem m_1631 : (.code ({ cls := "WindWordsModel", name := "comes", desc := "(II)V" } : Jvm.MethodName) prog_14_method_33_code (3 : Nat) (Option.none : Option FieldType) : Cond) ∈ AW := AW_t7 97 rfl rfl
theorem m_1632 : (.constantLong "WindWordsModel" (292 : Nat) (1111 : Int64) : Cond) ∈ AW := AW_t7 98 rfl rfl
theorem m_1633 : (.methodLink "WindWordsModel" (294 : Nat) ({ cls := "WindWordsModel", name := "joins", desc := "(I)V" } : Jvm.MethodName) : Cond) ∈ AW := AW_t7 99 rfl rfl
theorem m_1635 : (.instanceMethod ({ cls := "WindWordsModel", name := "joins", desc := "(I)V" } : Jvm.MethodName) : Cond) ∈ AW := AW_t7 101 rfl rfl
theorem m_1636 : (.code ({ cls := "WindWordsModel", name := "joins", desc := "(I)V" } : Jvm.MethodName) prog_14_method_35_code (2 : Nat) (Option.none : Option FieldType) : Cond) ∈ AW := AW_t7 102 rfl rfl
theorem m_1637 : (.constantLong "WindWordsModel" (297 : Nat) (423 : Int64) : Cond) ∈ AW := AW_t7 103 rfl rfl
theorem m_1638 : (.methodLink "WindWordsModel" (299 : Nat) ({ cls := "WindWordsModel", name := "closes", desc := "()V" } : Jvm.MethodName) : Cond) ∈ AW := AW_t7 104 rfl rfl
theorem m_1640 : (.instanceMethod ({ cls := "WindWordsModel", name := "closes", desc := "()V" } : Jvm.MethodName) : Cond) ∈ AW := AW_t7 106 rfl rfl
theorem m_1641 : (.code ({ cls := "WindWordsModel", name := "closes", desc := "()V" } : Jvm.MethodName) prog_14_method_37_code (1 : Nat) (Option.none : Option FieldType) : Cond) ∈ AW := AW_t7 107 rfl rfl
theorem m_1642 : (.methodLink "WindWordsModel" (342 : Nat) ({ cls := "WindWordsModel", name := "readHabit", desc := "(I)V" } : Jvm.MethodName) : Cond) ∈ AW := AW_t7 108 rfl rfl
theorem m_1644 : (.instanceMethod ({ cls := "WindWordsModel", name := "readHabit", desc := "(I)V" } : Jvm.MethodName) : Cond) ∈ AW := AW_t7 110 rfl rfl
theorem m_1645 : (.code ({ cls := "WindWordsModel", name := "readHabit", desc := "(I)V" } : Jvm.MethodName) prog_14_method_41_code (5 : Nat) (Option.none : Option FieldType) : Cond) ∈ AW := AW_t7 111 rfl rfl
theorem m_1646 : (.constantLong "WindWordsModel" (326 : Nat) (239882 : Int64) : Cond) ∈ AW := AW_t7 112 rfl rfl
theorem m_1647 : (.constantLong "WindWordsModel" (328 : Nat) (12584543 : Int64) : Cond) ∈ AW := AW_t7 113 rfl rfl
theorem m_1648 : (.constantLong "WindWordsModel" (330 : Nat) (583 : Int64) : Cond) ∈ AW := AW_t7 114 rfl rfl
theorem m_1649 : (.constantLong "WindWordsModel" (332 : Nat) (90302 : Int64) : Cond) ∈ AW := AW_t7 115 rfl rfl
theorem m_1650 : (.constantLong "WindWordsModel" (334 : Nat) (4797 : Int64) : Cond) ∈ AW := AW_t7 116 rfl rfl
theorem m_1651 : (.methodLink "WindWordsLaw" (54 : Nat) ({ cls := "WindWordsModel", name := "habits", desc := "(II)I" } : Jvm.MethodName) : Cond) ∈ AW := AW_t7 117 rfl rfl
theorem m_1652 : (.instanceMethod ({ cls := "WindWordsModel", name := "habits", desc := "(II)I" } : Jvm.MethodName) : Cond) ∈ AW := AW_t7 118 rfl rfl
theorem m_1653 : (.selects "WindWordsModel" ({ cls := "WindWordsModel", name := "habits", desc := "(II)I" } : Jvm.MethodName) ({ cls := "WindWordsModel", name := "habits", desc := "(II)I" } : Jvm.MethodName) : Cond) ∈ AW := AW_t7 119 rfl rfl
theorem m_1654 : (.code ({ cls := "WindWordsModel", name := "habits", desc := "(II)I" } : Jvm.MethodName) prog_14_method_44_code (5 : Nat) (Option.some FieldType.int) : Cond) ∈ AW := AW_t7 120 rfl rfl
theorem m_1655 : (.methodLink "WindWordsLaw" (58 : Nat) ({ cls := "WindWordsModel", name := "fault", desc := "()I" } : Jvm.MethodName) : Cond) ∈ AW := AW_t7 121 rfl rfl
theorem m_1656 : (.instanceMethod ({ cls := "WindWordsModel", name := "fault", desc := "()I" } : Jvm.MethodName) : Cond) ∈ AW := AW_t7 122 rfl rfl
theorem m_1657 : (.selects "WindWordsModel" ({ cls := "WindWordsModel", name := "fault", desc := "()I" } : Jvm.MethodName) ({ cls := "WindWordsModel", name := "fault", desc := "()I" } : Jvm.MethodName) : Cond) ∈ AW := AW_t7 123 rfl rfl
theorem m_1658 : (.code ({ cls := "WindWordsModel", name := "fault", desc := "()I" } : Jvm.MethodName) prog_14_method_45_code (1 : Nat) (Option.some FieldType.int) : Cond) ∈ AW := AW_t7 124 rfl rfl
theorem m_1659 : (.methodLink "WindWordsLaw" (67 : Nat) ({ cls := "WindWordsModel", name := "reads", desc := "(IIII)I" } : Jvm.MethodName) : Cond) ∈ AW := AW_t7 125 rfl rfl
theorem m_1660 : (.instanceMethod ({ cls := "WindWordsModel", name := "reads", desc := "(IIII)I" } : Jvm.MethodName) : Cond) ∈ AW := AW_t7 126 rfl rfl
theorem m_1661 : (.selects "WindWordsModel" ({ cls := "WindWordsModel", name := "reads", desc := "(IIII)I" } : Jvm.MethodName) ({ cls := "WindWordsModel", name := "reads", desc := "(IIII)I" } : Jvm.MethodName) : Cond) ∈ AW := AW_t7 127 rfl rfl
theorem m_1662 : (.code ({ cls := "WindWordsModel", name := "reads", desc := "(IIII)I" } : Jvm.MethodName) prog_14_method_51_code (5 : Nat) (Option.some FieldType.int) : Cond) ∈ AW := AW_t7 128 rfl rfl
theorem m_1663 : (.methodLink "WindWordsModel" (366 : Nat) ({ cls := "WindWordsModel", name := "readIn", desc := "(IIIII)I" } : Jvm.MethodName) : Cond) ∈ AW := AW_t7 129 rfl rfl
theorem m_1665 : (.instanceMethod ({ cls := "WindWordsModel", name := "readIn", desc := "(IIIII)I" } : Jvm.MethodName) : Cond) ∈ AW := AW_t7 131 rfl rfl
theorem m_1666 : (.code ({ cls := "WindWordsModel", name := "readIn", desc := "(IIIII)I" } : Jvm.MethodName) prog_14_method_49_code (6 : Nat) (Option.some FieldType.int) : Cond) ∈ AW := AW_t7 132 rfl rfl
theorem m_1667 : (.methodLink "WindWordsModel" (356 : Nat) ({ cls := "WindWordsModel", name := "scaleFor", desc := "(I)I" } : Jvm.MethodName) : Cond) ∈ AW := AW_t7 133 rfl rfl
theorem m_1669 : (.instanceMethod ({ cls := "WindWordsModel", name := "scaleFor", desc := "(I)I" } : Jvm.MethodName) : Cond) ∈ AW := AW_t7 135 rfl rfl
theorem m_1670 : (.code ({ cls := "WindWordsModel", name := "scaleFor", desc := "(I)I" } : Jvm.MethodName) prog_14_method_47_code (4 : Nat) (Option.some FieldType.int) : Cond) ∈ AW := AW_t7 136 rfl rfl
theorem m_1671 : (.methodLink "WindWordsModel" (359 : Nat) ({ cls := "WindWordsModel", name := "readsBy", desc := "(IIIIII)I" } : Jvm.MethodName) : Cond) ∈ AW := AW_t7 137 rfl rfl
theorem m_1673 : (.instanceMethod ({ cls := "WindWordsModel", name := "readsBy", desc := "(IIIIII)I" } : Jvm.MethodName) : Cond) ∈ AW := AW_t7 139 rfl rfl
theorem m_1674 : (.code ({ cls := "WindWordsModel", name := "readsBy", desc := "(IIIIII)I" } : Jvm.MethodName) prog_14_method_48_code (9 : Nat) (Option.some FieldType.int) : Cond) ∈ AW := AW_t7 140 rfl rfl
theorem m_1675 : (.methodLink "WindWordsModel" (352 : Nat) ({ cls := "WindWordsModel", name := "holds", desc := "(II)Z" } : Jvm.MethodName) : Cond) ∈ AW := AW_t7 141 rfl rfl
theorem m_1677 : (.instanceMethod ({ cls := "WindWordsModel", name := "holds", desc := "(II)Z" } : Jvm.MethodName) : Cond) ∈ AW := AW_t7 143 rfl rfl
theorem m_1678 : (.code ({ cls := "WindWordsModel", name := "holds", desc := "(II)Z" } : Jvm.MethodName) prog_14_method_46_code (7 : Nat) (Option.some FieldType.boolean) : Cond) ∈ AW := AW_t7 144 rfl rfl
theorem m_1679 : (.methodLink "WindWordsLaw" (71 : Nat) ({ cls := "WindWordsModel", name := "blow", desc := "(IIIII)I" } : Jvm.MethodName) : Cond) ∈ AW := AW_t7 145 rfl rfl
theorem m_1680 : (.instanceMethod ({ cls := "WindWordsModel", name := "blow", desc := "(IIIII)I" } : Jvm.MethodName) : Cond) ∈ AW := AW_t7 146 rfl rfl
theorem m_1681 : (.selects "WindWordsModel" ({ cls := "WindWordsModel", name := "blow", desc := "(IIIII)I" } : Jvm.MethodName) ({ cls := "WindWordsModel", name := "blow", desc := "(IIIII)I" } : Jvm.MethodName) : Cond) ∈ AW := AW_t7 147 rfl rfl
theorem m_1682 : (.code ({ cls := "WindWordsModel", name := "blow", desc := "(IIIII)I" } : Jvm.MethodName) prog_14_method_52_code (6 : Nat) (Option.some FieldType.int) : Cond) ∈ AW := AW_t7 148 rfl rfl
theorem m_1683 : (.methodLink "WindWordsModel" (192 : Nat) ({ cls := "WindWordsModel", name := "officerOf", desc := "(II)I" } : Jvm.MethodName) : Cond) ∈ AW := AW_t7 149 rfl rfl
theorem m_1685 : (.instanceMethod ({ cls := "WindWordsModel", name := "officerOf", desc := "(II)I" } : Jvm.MethodName) : Cond) ∈ AW := AW_t7 151 rfl rfl
theorem m_1686 : (.code ({ cls := "WindWordsModel", name := "officerOf", desc := "(II)I" } : Jvm.MethodName) prog_14_method_12_code (5 : Nat) (Option.some FieldType.int) : Cond) ∈ AW := AW_t7 152 rfl rfl
theorem m_1687 : (.methodLink "WindWordsModel" (370 : Nat) ({ cls := "WindWordsModel", name := "writes", desc := "(IIIII)I" } : Jvm.MethodName) : Cond) ∈ AW := AW_t7 153 rfl rfl
theorem m_1689 : (.instanceMethod ({ cls := "WindWordsModel", name := "writes", desc := "(IIIII)I" } : Jvm.MethodName) : Cond) ∈ AW := AW_t7 155 rfl rfl
theorem m_1690 : (.code ({ cls := "WindWordsModel", name := "writes", desc := "(IIIII)I" } : Jvm.MethodName) prog_14_method_50_code (10 : Nat) (Option.some FieldType.int) : Cond) ∈ AW := AW_t7 156 rfl rfl
theorem m_1691 : (.methodLink "WindWordsModel" (363 : Nat) ({ cls := "WindWordsModel", name := "held", desc := "(I)I" } : Jvm.MethodName) : Cond) ∈ AW := AW_t7 157 rfl rfl
theorem m_1692 : (.static ({ cls := "WindWordsModel", name := "held", desc := "(I)I" } : Jvm.MethodName) : Cond) ∈ AW := AW_t7 158 rfl rfl
theorem m_1693 : (.code ({ cls := "WindWordsModel", name := "held", desc := "(I)I" } : Jvm.MethodName) prog_14_method_5_code (1 : Nat) (Option.some FieldType.int) : Cond) ∈ AW := AW_t7 159 rfl rfl
theorem m_1694 : (.methodLink "WindWordsLaw" (75 : Nat) ({ cls := "WindWordsModel", name := "run", desc := "(IIIII)I" } : Jvm.MethodName) : Cond) ∈ AW := AW_t7 160 rfl rfl
theorem m_1695 : (.instanceMethod ({ cls := "WindWordsModel", name := "run", desc := "(IIIII)I" } : Jvm.MethodName) : Cond) ∈ AW := AW_t7 161 rfl rfl
theorem m_1696 : (.selects "WindWordsModel" ({ cls := "WindWordsModel", name := "run", desc := "(IIIII)I" } : Jvm.MethodName) ({ cls := "WindWordsModel", name := "run", desc := "(IIIII)I" } : Jvm.MethodName) : Cond) ∈ AW := AW_t7 162 rfl rfl
theorem m_1697 : (.code ({ cls := "WindWordsModel", name := "run", desc := "(IIIII)I" } : Jvm.MethodName) prog_14_method_53_code (10 : Nat) (Option.some FieldType.int) : Cond) ∈ AW := AW_t7 163 rfl rfl
theorem m_1698 : (.constant "WindWordsModel" (373 : Nat) (999999999 : Int32) : Cond) ∈ AW := AW_t7 164 rfl rfl
theorem m_1699 : (.constantLong "WindWordsModel" (374 : Nat) (6364136223846793005 : Int64) : Cond) ∈ AW := AW_t7 165 rfl rfl
theorem m_1700 : (.constantLong "WindWordsModel" (376 : Nat) (1442695040888963407 : Int64) : Cond) ∈ AW := AW_t7 166 rfl rfl
theorem m_1701 : (.constantLong "WindWordsModel" (378 : Nat) (100 : Int64) : Cond) ∈ AW := AW_t7 167 rfl rfl
theorem m_1702 : (.methodLink "WindWordsModel" (380 : Nat) ({ cls := "WindWordsModel", name := "blow", desc := "(IIIII)I" } : Jvm.MethodName) : Cond) ∈ AW := AW_t7 168 rfl rfl
theorem m_1703 : (.methodLink "WindWordsLaw" (79 : Nat) ({ cls := "WindWordsModel", name := "column", desc := "(IIIII)I" } : Jvm.MethodName) : Cond) ∈ AW := AW_t7 169 rfl rfl
theorem m_1704 : (.instanceMethod ({ cls := "WindWordsModel", name := "column", desc := "(IIIII)I" } : Jvm.MethodName) : Cond) ∈ AW := AW_t7 170 rfl rfl
theorem m_1705 : (.selects "WindWordsModel" ({ cls := "WindWordsModel", name := "column", desc := "(IIIII)I" } : Jvm.MethodName) ({ cls := "WindWordsModel", name := "column", desc := "(IIIII)I" } : Jvm.MethodName) : Cond) ∈ AW := AW_t7 171 rfl rfl
theorem m_1706 : (.code ({ cls := "WindWordsModel", name := "column", desc := "(IIIII)I" } : Jvm.MethodName) prog_14_method_55_code (6 : Nat) (Option.some FieldType.int) : Cond) ∈ AW := AW_t7 172 rfl rfl
theorem m_1707 : (.methodLink "WindWordsModel" (383 : Nat) ({ cls := "WindWordsModel", name := "columns", desc := "(IIII)V" } : Jvm.MethodName) : Cond) ∈ AW := AW_t7 173 rfl rfl
theorem m_1709 : (.instanceMethod ({ cls := "WindWordsModel", name := "columns", desc := "(IIII)V" } : Jvm.MethodName) : Cond) ∈ AW := AW_t7 175 rfl rfl
theorem m_1710 : (.code ({ cls := "WindWordsModel", name := "columns", desc := "(IIII)V" } : Jvm.MethodName) prog_14_method_54_code (7 : Nat) (Option.none : Option FieldType) : Cond) ∈ AW := AW_t7 176 rfl rfl
theorem m_1711 : (.methodLink "WindWordsLaw" (83 : Nat) ({ cls := "WindWordsModel", name := "turn", desc := "(IIIII)I" } : Jvm.MethodName) : Cond) ∈ AW := AW_t7 177 rfl rfl
theorem m_1712 : (.instanceMethod ({ cls := "WindWordsModel", name := "turn", desc := "(IIIII)I" } : Jvm.MethodName) : Cond) ∈ AW := AW_t7 178 rfl rfl
theorem m_1713 : (.selects "WindWordsModel" ({ cls := "WindWordsModel", name := "turn", desc := "(IIIII)I" } : Jvm.MethodName) ({ cls := "WindWordsModel", name := "turn", desc := "(IIIII)I" } : Jvm.MethodName) : Cond) ∈ AW := AW_t7 179 rfl rfl
theorem m_1714 : (.code ({ cls := "WindWordsModel", name := "turn", desc := "(IIIII)I" } : Jvm.MethodName) prog_14_method_57_code (6 : Nat) (Option.some FieldType.int) : Cond) ∈ AW := AW_t7 180 rfl rfl
theorem m_1715 : (.methodLink "WindWordsModel" (399 : Nat) ({ cls := "WindWordsModel", name := "turns", desc := "(IIIII)Z" } : Jvm.MethodName) : Cond) ∈ AW := AW_t7 181 rfl rfl
theorem m_1717 : (.instanceMethod ({ cls := "WindWordsModel", name := "turns", desc := "(IIIII)Z" } : Jvm.MethodName) : Cond) ∈ AW := AW_t7 183 rfl rfl
theorem m_1718 : (.code ({ cls := "WindWordsModel", name := "turns", desc := "(IIIII)Z" } : Jvm.MethodName) prog_14_method_56_code (7 : Nat) (Option.some FieldType.boolean) : Cond) ∈ AW := AW_t7 184 rfl rfl
theorem m_1719 : (.methodLink "WindWordsLaw" (87 : Nat) ({ cls := "WindWordsModel", name := "tight", desc := "()I" } : Jvm.MethodName) : Cond) ∈ AW := AW_t7 185 rfl rfl
theorem m_1720 : (.instanceMethod ({ cls := "WindWordsModel", name := "tight", desc := "()I" } : Jvm.MethodName) : Cond) ∈ AW := AW_t7 186 rfl rfl
theorem m_1721 : (.selects "WindWordsModel" ({ cls := "WindWordsModel", name := "tight", desc := "()I" } : Jvm.MethodName) ({ cls := "WindWordsModel", name := "tight", desc := "()I" } : Jvm.MethodName) : Cond) ∈ AW := AW_t7 187 rfl rfl
theorem m_1722 : (.code ({ cls := "WindWordsModel", name := "tight", desc := "()I" } : Jvm.MethodName) prog_14_method_61_code (1 : Nat) (Option.some FieldType.int) : Cond) ∈ AW := AW_t7 188 rfl rfl
theorem m_1723 : (.methodLink "WindWordsModel" (427 : Nat) ({ cls := "WindWordsModel", name := "findLeans", desc := "()V" } : Jvm.MethodName) : Cond) ∈ AW := AW_t7 189 rfl rfl
theorem m_1725 : (.instanceMethod ({ cls := "WindWordsModel", name := "findLeans", desc := "()V" } : Jvm.MethodName) : Cond) ∈ AW := AW_t7 191 rfl rfl
theorem m_1726 : (.code ({ cls := "WindWordsModel", name := "findLeans", desc := "()V" } : Jvm.MethodName) prog_14_method_59_code (5 : Nat) (Option.none : Option FieldType) : Cond) ∈ AW := AW_t7 192 rfl rfl
theorem m_1727 : (.constant "WindWordsModel" (403 : Nat) (100000 : Int32) : Cond) ∈ AW := AW_t7 193 rfl rfl
theorem m_1728 : (.methodLink "WindWordsModel" (404 : Nat) ({ cls := "WindWordsModel", name := "isMan", desc := "(I)Z" } : Jvm.MethodName) : Cond) ∈ AW := AW_t7 194 rfl rfl
theorem m_1730 : (.instanceMethod ({ cls := "WindWordsModel", name := "isMan", desc := "(I)Z" } : Jvm.MethodName) : Cond) ∈ AW := AW_t7 196 rfl rfl
theorem m_1731 : (.code ({ cls := "WindWordsModel", name := "isMan", desc := "(I)Z" } : Jvm.MethodName) prog_14_method_18_code (2 : Nat) (Option.some FieldType.boolean) : Cond) ∈ AW := AW_t7 197 rfl rfl
theorem m_1732 : (.methodLink "WindWordsModel" (407 : Nat) ({ cls := "WindWordsModel", name := "isTrustedOne", desc := "(I)Z" } : Jvm.MethodName) : Cond) ∈ AW := AW_t7 198 rfl rfl
theorem m_1734 : (.instanceMethod ({ cls := "WindWordsModel", name := "isTrustedOne", desc := "(I)Z" } : Jvm.MethodName) : Cond) ∈ AW := AW_t7 200 rfl rfl
theorem m_1735 : (.code ({ cls := "WindWordsModel", name := "isTrustedOne", desc := "(I)Z" } : Jvm.MethodName) prog_14_method_20_code (2 : Nat) (Option.some FieldType.boolean) : Cond) ∈ AW := AW_t7 201 rfl rfl
theorem m_1736 : (.methodLink "WindWordsModel" (195 : Nat) ({ cls := "WindWordsModel", name := "writer", desc := "(I)I" } : Jvm.MethodName) : Cond) ∈ AW := AW_t7 202 rfl rfl
theorem m_1738 : (.instanceMethod ({ cls := "WindWordsModel", name := "writer", desc := "(I)I" } : Jvm.MethodName) : Cond) ∈ AW := AW_t7 204 rfl rfl
theorem m_1739 : (.code ({ cls := "WindWordsModel", name := "writer", desc := "(I)I" } : Jvm.MethodName) prog_14_method_19_code (2 : Nat) (Option.some FieldType.int) : Cond) ∈ AW := AW_t7 205 rfl rfl
theorem m_1740 : (.methodLink "WindWordsModel" (410 : Nat) ({ cls := "WindWordsModel", name := "areInSight", desc := "(II)Z" } : Jvm.MethodName) : Cond) ∈ AW := AW_t7 206 rfl rfl
theorem m_1742 : (.instanceMethod ({ cls := "WindWordsModel", name := "areInSight", desc := "(II)Z" } : Jvm.MethodName) : Cond) ∈ AW := AW_t7 208 rfl rfl
theorem m_1743 : (.code ({ cls := "WindWordsModel", name := "areInSight", desc := "(II)Z" } : Jvm.MethodName) prog_14_method_21_code (3 : Nat) (Option.some FieldType.boolean) : Cond) ∈ AW := AW_t7 209 rfl rfl
theorem m_1744 : (.methodLink "WindWordsModel" (198 : Nat) ({ cls := "WindWordsModel", name := "far", desc := "(II)I" } : Jvm.MethodName) : Cond) ∈ AW := AW_t7 210 rfl rfl
theorem m_1745 : (.static ({ cls := "WindWordsModel", name := "far", desc := "(II)I" } : Jvm.MethodName) : Cond) ∈ AW := AW_t7 211 rfl rfl
theorem m_1746 : (.code ({ cls := "WindWordsModel", name := "far", desc := "(II)I" } : Jvm.MethodName) prog_14_method_17_code (4 : Nat) (Option.some FieldType.int) : Cond) ∈ AW := AW_t7 212 rfl rfl
theorem m_1747 : (.methodLink "WindWordsModel" (189 : Nat) ({ cls := "WindWordsModel", name := "abs", desc := "(I)I" } : Jvm.MethodName) : Cond) ∈ AW := AW_t7 213 rfl rfl
theorem m_1748 : (.static ({ cls := "WindWordsModel", name := "abs", desc := "(I)I" } : Jvm.MethodName) : Cond) ∈ AW := AW_t7 214 rfl rfl
theorem m_1749 : (.code ({ cls := "WindWordsModel", name := "abs", desc := "(I)I" } : Jvm.MethodName) prog_14_method_4_code (1 : Nat) (Option.some FieldType.int) : Cond) ∈ AW := AW_t7 215 rfl rfl
theorem m_1750 : (.methodLink "WindWordsModel" (413 : Nat) ({ cls := "WindWordsModel", name := "bindsBy", desc := "(II)V" } : Jvm.MethodName) : Cond) ∈ AW := AW_t7 216 rfl rfl
theorem m_1752 : (.instanceMethod ({ cls := "WindWordsModel", name := "bindsBy", desc := "(II)V" } : Jvm.MethodName) : Cond) ∈ AW := AW_t7 218 rfl rfl
theorem m_1753 : (.code ({ cls := "WindWordsModel", name := "bindsBy", desc := "(II)V" } : Jvm.MethodName) prog_14_method_60_code (6 : Nat) (Option.none : Option FieldType) : Cond) ∈ AW := AW_t7 219 rfl rfl
theorem m_1754 : (.methodLink "WindWordsModel" (420 : Nat) ({ cls := "WindWordsModel", name := "binds", desc := "(III)V" } : Jvm.MethodName) : Cond) ∈ AW := AW_t7 220 rfl rfl
theorem m_1756 : (.instanceMethod ({ cls := "WindWordsModel", name := "binds", desc := "(III)V" } : Jvm.MethodName) : Cond) ∈ AW := AW_t7 222 rfl rfl
theorem m_1757 : (.code ({ cls := "WindWordsModel", name := "binds", desc := "(III)V" } : Jvm.MethodName) prog_14_method_58_code (4 : Nat) (Option.none : Option FieldType) : Cond) ∈ AW := AW_t7 223 rfl rfl
theorem m_1758 : (.methodLink "WindWordsModel" (424 : Nat) ({ cls := "WindWordsModel", name := "yearOf", desc := "(I)I" } : Jvm.MethodName) : Cond) ∈ AW := AW_t7 224 rfl rfl
theorem m_1760 : (.instanceMethod ({ cls := "WindWordsModel", name := "yearOf", desc := "(I)I" } : Jvm.MethodName) : Cond) ∈ AW := AW_t7 226 rfl rfl
theorem m_1761 : (.code ({ cls := "WindWordsModel", name := "yearOf", desc := "(I)I" } : Jvm.MethodName) prog_14_method_22_code (2 : Nat) (Option.some FieldType.int) : Cond) ∈ AW := AW_t7 227 rfl rfl
theorem m_1762 : (.constant "WindWordsModel" (416 : Nat) (-100000 : Int32) : Cond) ∈ AW := AW_t7 228 rfl rfl
theorem m_1763 : (.methodLink "WindWordsLaw" (91 : Nat) ({ cls := "WindWordsModel", name := "lean", desc := "(II)I" } : Jvm.MethodName) : Cond) ∈ AW := AW_t7 229 rfl rfl
theorem m_1764 : (.instanceMethod ({ cls := "WindWordsModel", name := "lean", desc := "(II)I" } : Jvm.MethodName) : Cond) ∈ AW := AW_t7 230 rfl rfl
theorem m_1765 : (.selects "WindWordsModel" ({ cls := "WindWordsModel", name := "lean", desc := "(II)I" } : Jvm.MethodName) ({ cls := "WindWordsModel", name := "lean", desc := "(II)I" } : Jvm.MethodName) : Cond) ∈ AW := AW_t7 231 rfl rfl
theorem m_1766 : (.code ({ cls := "WindWordsModel", name := "lean", desc := "(II)I" } : Jvm.MethodName) prog_14_method_64_code (3 : Nat) (Option.some FieldType.int) : Cond) ∈ AW := AW_t7 232 rfl rfl
theorem m_1767 : (.methodLink "WindWordsModel" (430 : Nat) ({ cls := "WindWordsModel", name := "leanLeast", desc := "(I)I" } : Jvm.MethodName) : Cond) ∈ AW := AW_t7 233 rfl rfl
theorem m_1769 : (.instanceMethod ({ cls := "WindWordsModel", name := "leanLeast", desc := "(I)I" } : Jvm.MethodName) : Cond) ∈ AW := AW_t7 235 rfl rfl
theorem m_1770 : (.code ({ cls := "WindWordsModel", name := "leanLeast", desc := "(I)I" } : Jvm.MethodName) prog_14_method_62_code (2 : Nat) (Option.some FieldType.int) : Cond) ∈ AW := AW_t7 236 rfl rfl
theorem m_1771 : (.methodLink "WindWordsModel" (433 : Nat) ({ cls := "WindWordsModel", name := "leanMost", desc := "(I)I" } : Jvm.MethodName) : Cond) ∈ AW := AW_t7 237 rfl rfl
theorem m_1773 : (.instanceMethod ({ cls := "WindWordsModel", name := "leanMost", desc := "(I)I" } : Jvm.MethodName) : Cond) ∈ AW := AW_t7 239 rfl rfl
theorem m_1774 : (.code ({ cls := "WindWordsModel", name := "leanMost", desc := "(I)I" } : Jvm.MethodName) prog_14_method_63_code (2 : Nat) (Option.some FieldType.int) : Cond) ∈ AW := AW_t8 0 rfl rfl
theorem m_1775 : (.methodLink "WindWordsLaw" (95 : Nat) ({ cls := "WindWordsModel", name := "liked", desc := "(III)I" } : Jvm.MethodName) : Cond) ∈ AW := AW_t8 1 rfl rfl
theorem m_1776 : (.instanceMethod ({ cls := "WindWordsModel", name := "liked", desc := "(III)I" } : Jvm.MethodName) : Cond) ∈ AW := AW_t8 2 rfl rfl
theorem m_1777 : (.selects "WindWordsModel" ({ cls := "WindWordsModel", name := "liked", desc := "(III)I" } : Jvm.MethodName) ({ cls := "WindWordsModel", name := "liked", desc := "(III)I" } : Jvm.MethodName) : Cond) ∈ AW := AW_t8 3 rfl rfl
theorem m_1778 : (.code ({ cls := "WindWordsModel", name := "liked", desc := "(III)I" } : Jvm.MethodName) prog_14_method_66_code (10 : Nat) (Option.some FieldType.int) : Cond) ∈ AW := AW_t8 4 rfl rfl
theorem m_1779 : (.methodLink "WindWordsModel" (436 : Nat) ({ cls := "WindWordsModel", name := "withNumber", desc := "(II)I" } : Jvm.MethodName) : Cond) ∈ AW := AW_t8 5 rfl rfl
theorem m_1781 : (.instanceMethod ({ cls := "WindWordsModel", name := "withNumber", desc := "(II)I" } : Jvm.MethodName) : Cond) ∈ AW := AW_t8 7 rfl rfl
theorem m_1782 : (.code ({ cls := "WindWordsModel", name := "withNumber", desc := "(II)I" } : Jvm.MethodName) prog_14_method_65_code (5 : Nat) (Option.some FieldType.int) : Cond) ∈ AW := AW_t8 8 rfl rfl
theorem m_1783 : (.constantLong "WindWordsModel" (439 : Nat) (1000000000 : Int64) : Cond) ∈ AW := AW_t8 9 rfl rfl
theorem m_1784 : (.methodLink "WindWordsLaw" (99 : Nat) ({ cls := "WindWordsModel", name := "wind", desc := "(II)I" } : Jvm.MethodName) : Cond) ∈ AW := AW_t8 10 rfl rfl
theorem m_1785 : (.instanceMethod ({ cls := "WindWordsModel", name := "wind", desc := "(II)I" } : Jvm.MethodName) : Cond) ∈ AW := AW_t8 11 rfl rfl
theorem m_1786 : (.selects "WindWordsModel" ({ cls := "WindWordsModel", name := "wind", desc := "(II)I" } : Jvm.MethodName) ({ cls := "WindWordsModel", name := "wind", desc := "(II)I" } : Jvm.MethodName) : Cond) ∈ AW := AW_t8 12 rfl rfl
theorem m_1787 : (.code ({ cls := "WindWordsModel", name := "wind", desc := "(II)I" } : Jvm.MethodName) prog_14_method_69_code (3 : Nat) (Option.some FieldType.int) : Cond) ∈ AW := AW_t8 13 rfl rfl
theorem m_1788 : (.methodLink "WindWordsModel" (453 : Nat) ({ cls := "WindWordsModel", name := "sumsOf", desc := "(I)V" } : Jvm.MethodName) : Cond) ∈ AW := AW_t8 14 rfl rfl
theorem m_1790 : (.instanceMethod ({ cls := "WindWordsModel", name := "sumsOf", desc := "(I)V" } : Jvm.MethodName) : Cond) ∈ AW := AW_t8 16 rfl rfl
theorem m_1791 : (.code ({ cls := "WindWordsModel", name := "sumsOf", desc := "(I)V" } : Jvm.MethodName) prog_14_method_68_code (3 : Nat) (Option.none : Option FieldType) : Cond) ∈ AW := AW_t8 17 rfl rfl
theorem m_1792 : (.methodLink "WindWordsModel" (450 : Nat) ({ cls := "WindWordsModel", name := "windOf", desc := "(I)V" } : Jvm.MethodName) : Cond) ∈ AW := AW_t8 18 rfl rfl
theorem m_1794 : (.instanceMethod ({ cls := "WindWordsModel", name := "windOf", desc := "(I)V" } : Jvm.MethodName) : Cond) ∈ AW := AW_t8 20 rfl rfl
theorem m_1795 : (.code ({ cls := "WindWordsModel", name := "windOf", desc := "(I)V" } : Jvm.MethodName) prog_14_method_67_code (8 : Nat) (Option.none : Option FieldType) : Cond) ∈ AW := AW_t8 21 rfl rfl
theorem m_1796 : (.methodLink "WindWordsLaw" (104 : Nat) ({ cls := "WindWordsModel", name := "grew", desc := "(I)I" } : Jvm.MethodName) : Cond) ∈ AW := AW_t8 22 rfl rfl
theorem m_1797 : (.instanceMethod ({ cls := "WindWordsModel", name := "grew", desc := "(I)I" } : Jvm.MethodName) : Cond) ∈ AW := AW_t8 23 rfl rfl
theorem m_1798 : (.selects "WindWordsModel" ({ cls := "WindWordsModel", name := "grew", desc := "(I)I" } : Jvm.MethodName) ({ cls := "WindWordsModel", name := "grew", desc := "(I)I" } : Jvm.MethodName) : Cond) ∈ AW := AW_t8 24 rfl rfl
theorem m_1799 : (.code ({ cls := "WindWordsModel", name := "grew", desc := "(I)I" } : Jvm.MethodName) prog_14_method_71_code (6 : Nat) (Option.some FieldType.int) : Cond) ∈ AW := AW_t8 25 rfl rfl
theorem m_1800 : (.methodLink "WindWordsModel" (456 : Nat) ({ cls := "WindWordsModel", name := "ordersWith", desc := "(II)J" } : Jvm.MethodName) : Cond) ∈ AW := AW_t8 26 rfl rfl
theorem m_1802 : (.instanceMethod ({ cls := "WindWordsModel", name := "ordersWith", desc := "(II)J" } : Jvm.MethodName) : Cond) ∈ AW := AW_t8 28 rfl rfl
theorem m_1803 : (.code ({ cls := "WindWordsModel", name := "ordersWith", desc := "(II)J" } : Jvm.MethodName) prog_14_method_70_code (6 : Nat) (Option.some FieldType.long) : Cond) ∈ AW := AW_t8 29 rfl rfl
theorem m_1804 : (.methodLink "WindWordsLaw" (108 : Nat) ({ cls := "WindWordsModel", name := "late", desc := "(I)I" } : Jvm.MethodName) : Cond) ∈ AW := AW_t8 30 rfl rfl
theorem m_1805 : (.instanceMethod ({ cls := "WindWordsModel", name := "late", desc := "(I)I" } : Jvm.MethodName) : Cond) ∈ AW := AW_t8 31 rfl rfl
theorem m_1806 : (.selects "WindWordsModel" ({ cls := "WindWordsModel", name := "late", desc := "(I)I" } : Jvm.MethodName) ({ cls := "WindWordsModel", name := "late", desc := "(I)I" } : Jvm.MethodName) : Cond) ∈ AW := AW_t8 32 rfl rfl
theorem m_1807 : (.code ({ cls := "WindWordsModel", name := "late", desc := "(I)I" } : Jvm.MethodName) prog_14_method_73_code (6 : Nat) (Option.some FieldType.int) : Cond) ∈ AW := AW_t8 33 rfl rfl
theorem m_1808 : (.methodLink "WindWordsModel" (466 : Nat) ({ cls := "WindWordsModel", name := "lateBy", desc := "(I)V" } : Jvm.MethodName) : Cond) ∈ AW := AW_t8 34 rfl rfl
theorem m_1810 : (.instanceMethod ({ cls := "WindWordsModel", name := "lateBy", desc := "(I)V" } : Jvm.MethodName) : Cond) ∈ AW := AW_t8 36 rfl rfl
theorem m_1811 : (.code ({ cls := "WindWordsModel", name := "lateBy", desc := "(I)V" } : Jvm.MethodName) prog_14_method_72_code (4 : Nat) (Option.none : Option FieldType) : Cond) ∈ AW := AW_t8 37 rfl rfl
theorem m_1812 : (.methodLink "WindWordsLaw" (62 : Nat) ({ cls := "WindWordsModel", name := "reading", desc := "(II)I" } : Jvm.MethodName) : Cond) ∈ AW := AW_t8 38 rfl rfl
theorem m_1813 : (.instanceMethod ({ cls := "WindWordsModel", name := "reading", desc := "(II)I" } : Jvm.MethodName) : Cond) ∈ AW := AW_t8 39 rfl rfl
theorem m_1814 : (.selects "WindWordsModel" ({ cls := "WindWordsModel", name := "reading", desc := "(II)I" } : Jvm.MethodName) ({ cls := "WindWordsModel", name := "reading", desc := "(II)I" } : Jvm.MethodName) : Cond) ∈ AW := AW_t8 40 rfl rfl
theorem m_1815 : (.code ({ cls := "WindWordsModel", name := "reading", desc := "(II)I" } : Jvm.MethodName) prog_14_method_76_code (3 : Nat) (Option.some FieldType.int) : Cond) ∈ AW := AW_t8 41 rfl rfl
theorem m_1816 : (.methodLink "WindWordsModel" (472 : Nat) ({ cls := "WindWordsModel", name := "isCopied", desc := "(I)Z" } : Jvm.MethodName) : Cond) ∈ AW := AW_t8 42 rfl rfl
theorem m_1818 : (.instanceMethod ({ cls := "WindWordsModel", name := "isCopied", desc := "(I)Z" } : Jvm.MethodName) : Cond) ∈ AW := AW_t8 44 rfl rfl
theorem m_1819 : (.code ({ cls := "WindWordsModel", name := "isCopied", desc := "(I)Z" } : Jvm.MethodName) prog_14_method_75_code (7 : Nat) (Option.some FieldType.boolean) : Cond) ∈ AW := AW_t8 45 rfl rfl
theorem m_1820 : (.methodLink "WindWordsModel" (469 : Nat) ({ cls := "WindWordsModel", name := "followed", desc := "(I)I" } : Jvm.MethodName) : Cond) ∈ AW := AW_t8 46 rfl rfl
theorem m_1822 : (.instanceMethod ({ cls := "WindWordsModel", name := "followed", desc := "(I)I" } : Jvm.MethodName) : Cond) ∈ AW := AW_t8 48 rfl rfl
theorem m_1823 : (.code ({ cls := "WindWordsModel", name := "followed", desc := "(I)I" } : Jvm.MethodName) prog_14_method_74_code (3 : Nat) (Option.some FieldType.int) : Cond) ∈ AW := AW_t8 49 rfl rfl
theorem m_1824 : (.methodLink "WindWordsLaw" (112 : Nat) ({ cls := "WindWordsModel", name := "copied", desc := "(II)I" } : Jvm.MethodName) : Cond) ∈ AW := AW_t8 50 rfl rfl
theorem m_1825 : (.instanceMethod ({ cls := "WindWordsModel", name := "copied", desc := "(II)I" } : Jvm.MethodName) : Cond) ∈ AW := AW_t8 51 rfl rfl
theorem m_1826 : (.selects "WindWordsModel" ({ cls := "WindWordsModel", name := "copied", desc := "(II)I" } : Jvm.MethodName) ({ cls := "WindWordsModel", name := "copied", desc := "(II)I" } : Jvm.MethodName) : Cond) ∈ AW := AW_t8 52 rfl rfl
theorem m_1827 : (.code ({ cls := "WindWordsModel", name := "copied", desc := "(II)I" } : Jvm.MethodName) prog_14_method_77_code (6 : Nat) (Option.some FieldType.int) : Cond) ∈ AW := AW_t8 53 rfl rfl
theorem m_1828 : (.methodLink "WindWordsLaw" (116 : Nat) ({ cls := "WindWordsModel", name := "find", desc := "(I)I" } : Jvm.MethodName) : Cond) ∈ AW := AW_t8 54 rfl rfl
theorem m_1829 : (.instanceMethod ({ cls := "WindWordsModel", name := "find", desc := "(I)I" } : Jvm.MethodName) : Cond) ∈ AW := AW_t8 55 rfl rfl
theorem m_1830 : (.selects "WindWordsModel" ({ cls := "WindWordsModel", name := "find", desc := "(I)I" } : Jvm.MethodName) ({ cls := "WindWordsModel", name := "find", desc := "(I)I" } : Jvm.MethodName) : Cond) ∈ AW := AW_t8 56 rfl rfl
theorem m_1831 : (.code ({ cls := "WindWordsModel", name := "find", desc := "(I)I" } : Jvm.MethodName) prog_14_method_78_code (4 : Nat) (Option.some FieldType.int) : Cond) ∈ AW := AW_t8 57 rfl rfl
theorem m_1832 : (.methodLink "WindWordsLaw" (120 : Nat) ({ cls := "WindWordsModel", name := "wished", desc := "(II)I" } : Jvm.MethodName) : Cond) ∈ AW := AW_t8 58 rfl rfl
theorem m_1833 : (.instanceMethod ({ cls := "WindWordsModel", name := "wished", desc := "(II)I" } : Jvm.MethodName) : Cond) ∈ AW := AW_t8 59 rfl rfl
theorem m_1834 : (.selects "WindWordsModel" ({ cls := "WindWordsModel", name := "wished", desc := "(II)I" } : Jvm.MethodName) ({ cls := "WindWordsModel", name := "wished", desc := "(II)I" } : Jvm.MethodName) : Cond) ∈ AW := AW_t8 60 rfl rfl
theorem m_1835 : (.code ({ cls := "WindWordsModel", name := "wished", desc := "(II)I" } : Jvm.MethodName) prog_14_method_82_code (12 : Nat) (Option.some FieldType.int) : Cond) ∈ AW := AW_t8 61 rfl rfl
theorem m_1836 : (.constant "WindWordsModel" (475 : Nat) (-1000000 : Int32) : Cond) ∈ AW := AW_t8 62 rfl rfl
theorem m_1837 : (.methodLink "WindWordsModel" (476 : Nat) ({ cls := "WindWordsModel", name := "beside", desc := "(I)I" } : Jvm.MethodName) : Cond) ∈ AW := AW_t8 63 rfl rfl
theorem m_1839 : (.instanceMethod ({ cls := "WindWordsModel", name := "beside", desc := "(I)I" } : Jvm.MethodName) : Cond) ∈ AW := AW_t8 65 rfl rfl
theorem m_1840 : (.code ({ cls := "WindWordsModel", name := "beside", desc := "(I)I" } : Jvm.MethodName) prog_14_method_79_code (3 : Nat) (Option.some FieldType.int) : Cond) ∈ AW := AW_t8 66 rfl rfl
theorem m_1841 : (.methodLink "WindWordsModel" (479 : Nat) ({ cls := "WindWordsModel", name := "lead", desc := "(IIII)I" } : Jvm.MethodName) : Cond) ∈ AW := AW_t8 67 rfl rfl
theorem m_1842 : (.static ({ cls := "WindWordsModel", name := "lead", desc := "(IIII)I" } : Jvm.MethodName) : Cond) ∈ AW := AW_t8 68 rfl rfl
theorem m_1843 : (.code ({ cls := "WindWordsModel", name := "lead", desc := "(IIII)I" } : Jvm.MethodName) prog_14_method_80_code (4 : Nat) (Option.some FieldType.int) : Cond) ∈ AW := AW_t8 69 rfl rfl
theorem m_1844 : (.methodLink "WindWordsModel" (483 : Nat) ({ cls := "WindWordsModel", name := "bitsOf", desc := "(I)I" } : Jvm.MethodName) : Cond) ∈ AW := AW_t8 70 rfl rfl
theorem m_1845 : (.static ({ cls := "WindWordsModel", name := "bitsOf", desc := "(I)I" } : Jvm.MethodName) : Cond) ∈ AW := AW_t8 71 rfl rfl
theorem m_1846 : (.code ({ cls := "WindWordsModel", name := "bitsOf", desc := "(I)I" } : Jvm.MethodName) prog_14_method_81_code (3 : Nat) (Option.some FieldType.int) : Cond) ∈ AW := AW_t8 72 rfl rfl
theorem m_1847 : (.methodLink "WindWordsLaw" (124 : Nat) ({ cls := "WindWordsModel", name := "eight", desc := "(IIII)I" } : Jvm.MethodName) : Cond) ∈ AW := AW_t8 73 rfl rfl
theorem m_1848 : (.instanceMethod ({ cls := "WindWordsModel", name := "eight", desc := "(IIII)I" } : Jvm.MethodName) : Cond) ∈ AW := AW_t8 74 rfl rfl
theorem m_1849 : (.selects "WindWordsModel" ({ cls := "WindWordsModel", name := "eight", desc := "(IIII)I" } : Jvm.MethodName) ({ cls := "WindWordsModel", name := "eight", desc := "(IIII)I" } : Jvm.MethodName) : Cond) ∈ AW := AW_t8 75 rfl rfl
theorem m_1850 : (.code ({ cls := "WindWordsModel", name := "eight", desc := "(IIII)I" } : Jvm.MethodName) prog_14_method_83_code (10 : Nat) (Option.some FieldType.int) : Cond) ∈ AW := AW_t8 76 rfl rfl
theorem m_1851 : (.constant "WindWordsModel" (486 : Nat) (-1000000000 : Int32) : Cond) ∈ AW := AW_t8 77 rfl rfl
theorem m_1852 : (.methodLink "WindWordsLaw" (128 : Nat) ({ cls := "WindWordsModel", name := "alike", desc := "(I)I" } : Jvm.MethodName) : Cond) ∈ AW := AW_t8 78 rfl rfl
theorem m_1853 : (.instanceMethod ({ cls := "WindWordsModel", name := "alike", desc := "(I)I" } : Jvm.MethodName) : Cond) ∈ AW := AW_t8 79 rfl rfl
theorem m_1854 : (.selects "WindWordsModel" ({ cls := "WindWordsModel", name := "alike", desc := "(I)I" } : Jvm.MethodName) ({ cls := "WindWordsModel", name := "alike", desc := "(I)I" } : Jvm.MethodName) : Cond) ∈ AW := AW_t8 80 rfl rfl
theorem m_1855 : (.code ({ cls := "WindWordsModel", name := "alike", desc := "(I)I" } : Jvm.MethodName) prog_14_method_85_code (6 : Nat) (Option.some FieldType.int) : Cond) ∈ AW := AW_t8 81 rfl rfl
theorem m_1856 : (.methodLink "WindWordsModel" (487 : Nat) ({ cls := "WindWordsModel", name := "unlikeBy", desc := "(I)I" } : Jvm.MethodName) : Cond) ∈ AW := AW_t8 82 rfl rfl
theorem m_1858 : (.instanceMethod ({ cls := "WindWordsModel", name := "unlikeBy", desc := "(I)I" } : Jvm.MethodName) : Cond) ∈ AW := AW_t8 84 rfl rfl
theorem m_1859 : (.code ({ cls := "WindWordsModel", name := "unlikeBy", desc := "(I)I" } : Jvm.MethodName) prog_14_method_84_code (5 : Nat) (Option.some FieldType.int) : Cond) ∈ AW := AW_t8 85 rfl rfl
theorem m_1860 : (.methodLink "WindWordsLaw" (132 : Nat) ({ cls := "WindWordsModel", name := "storm", desc := "(IIII)I" } : Jvm.MethodName) : Cond) ∈ AW := AW_t8 86 rfl rfl
theorem m_1861 : (.instanceMethod ({ cls := "WindWordsModel", name := "storm", desc := "(IIII)I" } : Jvm.MethodName) : Cond) ∈ AW := AW_t8 87 rfl rfl
theorem m_1862 : (.selects "WindWordsModel" ({ cls := "WindWordsModel", name := "storm", desc := "(IIII)I" } : Jvm.MethodName) ({ cls := "WindWordsModel", name := "storm", desc := "(IIII)I" } : Jvm.MethodName) : Cond) ∈ AW := AW_t8 88 rfl rfl
theorem m_1863 : (.code ({ cls := "WindWordsModel", name := "storm", desc := "(IIII)I" } : Jvm.MethodName) prog_14_method_90_code (5 : Nat) (Option.some FieldType.int) : Cond) ∈ AW := AW_t8 89 rfl rfl
theorem m_1864 : (.methodLink "WindWordsModel" (505 : Nat) ({ cls := "WindWordsModel", name := "findWays", desc := "()V" } : Jvm.MethodName) : Cond) ∈ AW := AW_t8 90 rfl rfl
theorem m_1866 : (.instanceMethod ({ cls := "WindWordsModel", name := "findWays", desc := "()V" } : Jvm.MethodName) : Cond) ∈ AW := AW_t8 92 rfl rfl
theorem m_1867 : (.code ({ cls := "WindWordsModel", name := "findWays", desc := "()V" } : Jvm.MethodName) prog_14_method_88_code (3 : Nat) (Option.none : Option FieldType) : Cond) ∈ AW := AW_t8 93 rfl rfl
theorem m_1868 : (.methodLink "WindWordsModel" (499 : Nat) ({ cls := "WindWordsModel", name := "agrees", desc := "(II)Z" } : Jvm.MethodName) : Cond) ∈ AW := AW_t8 94 rfl rfl
theorem m_1870 : (.instanceMethod ({ cls := "WindWordsModel", name := "agrees", desc := "(II)Z" } : Jvm.MethodName) : Cond) ∈ AW := AW_t8 96 rfl rfl
theorem m_1871 : (.code ({ cls := "WindWordsModel", name := "agrees", desc := "(II)Z" } : Jvm.MethodName) prog_14_method_86_code (5 : Nat) (Option.some FieldType.boolean) : Cond) ∈ AW := AW_t8 97 rfl rfl
theorem m_1872 : (.methodLink "WindWordsModel" (502 : Nat) ({ cls := "WindWordsModel", name := "isNear", desc := "(II)Z" } : Jvm.MethodName) : Cond) ∈ AW := AW_t8 98 rfl rfl
theorem m_1874 : (.instanceMethod ({ cls := "WindWordsModel", name := "isNear", desc := "(II)Z" } : Jvm.MethodName) : Cond) ∈ AW := AW_t8 100 rfl rfl
theorem m_1875 : (.code ({ cls := "WindWordsModel", name := "isNear", desc := "(II)Z" } : Jvm.MethodName) prog_14_method_87_code (5 : Nat) (Option.some FieldType.boolean) : Cond) ∈ AW := AW_t8 101 rfl rfl
theorem m_1876 : (.methodLink "WindWordsModel" (508 : Nat) ({ cls := "WindWordsModel", name := "cellsOn", desc := "(I)I" } : Jvm.MethodName) : Cond) ∈ AW := AW_t8 102 rfl rfl
theorem m_1878 : (.instanceMethod ({ cls := "WindWordsModel", name := "cellsOn", desc := "(I)I" } : Jvm.MethodName) : Cond) ∈ AW := AW_t8 104 rfl rfl
theorem m_1879 : (.code ({ cls := "WindWordsModel", name := "cellsOn", desc := "(I)I" } : Jvm.MethodName) prog_14_method_89_code (4 : Nat) (Option.some FieldType.int) : Cond) ∈ AW := AW_t8 105 rfl rfl
theorem m_1880 : (.methodLink "WindWordsLaw" (136 : Nat) ({ cls := "WindWordsModel", name := "way", desc := "(II)I" } : Jvm.MethodName) : Cond) ∈ AW := AW_t8 106 rfl rfl
theorem m_1881 : (.instanceMethod ({ cls := "WindWordsModel", name := "way", desc := "(II)I" } : Jvm.MethodName) : Cond) ∈ AW := AW_t8 107 rfl rfl
theorem m_1882 : (.selects "WindWordsModel" ({ cls := "WindWordsModel", name := "way", desc := "(II)I" } : Jvm.MethodName) ({ cls := "WindWordsModel", name := "way", desc := "(II)I" } : Jvm.MethodName) : Cond) ∈ AW := AW_t8 108 rfl rfl
theorem m_1883 : (.code ({ cls := "WindWordsModel", name := "way", desc := "(II)I" } : Jvm.MethodName) prog_14_method_91_code (3 : Nat) (Option.some FieldType.int) : Cond) ∈ AW := AW_t8 109 rfl rfl
theorem m_1884 : (.methodLink "WindWordsLaw" (140 : Nat) ({ cls := "WindWordsModel", name := "image", desc := "()I" } : Jvm.MethodName) : Cond) ∈ AW := AW_t8 110 rfl rfl
theorem m_1885 : (.instanceMethod ({ cls := "WindWordsModel", name := "image", desc := "()I" } : Jvm.MethodName) : Cond) ∈ AW := AW_t8 111 rfl rfl
theorem m_1886 : (.selects "WindWordsModel" ({ cls := "WindWordsModel", name := "image", desc := "()I" } : Jvm.MethodName) ({ cls := "WindWordsModel", name := "image", desc := "()I" } : Jvm.MethodName) : Cond) ∈ AW := AW_t8 112 rfl rfl
theorem m_1887 : (.code ({ cls := "WindWordsModel", name := "image", desc := "()I" } : Jvm.MethodName) prog_14_method_92_code (2 : Nat) (Option.some FieldType.int) : Cond) ∈ AW := AW_t8 113 rfl rfl
theorem m_1888 : (.methodLink "WindWordsLaw" (144 : Nat) ({ cls := "WindWordsModel", name := "back", desc := "(I)I" } : Jvm.MethodName) : Cond) ∈ AW := AW_t8 114 rfl rfl
theorem m_1889 : (.instanceMethod ({ cls := "WindWordsModel", name := "back", desc := "(I)I" } : Jvm.MethodName) : Cond) ∈ AW := AW_t8 115 rfl rfl
theorem m_1890 : (.selects "WindWordsModel" ({ cls := "WindWordsModel", name := "back", desc := "(I)I" } : Jvm.MethodName) ({ cls := "WindWordsModel", name := "back", desc := "(I)I" } : Jvm.MethodName) : Cond) ∈ AW := AW_t8 116 rfl rfl
theorem m_1891 : (.code ({ cls := "WindWordsModel", name := "back", desc := "(I)I" } : Jvm.MethodName) prog_14_method_93_code (4 : Nat) (Option.some FieldType.int) : Cond) ∈ AW := AW_t8 117 rfl rfl
theorem m_1892 : (.methodLink "WindWordsLaw" (148 : Nat) ({ cls := "WindWordsModel", name := "count", desc := "(I)I" } : Jvm.MethodName) : Cond) ∈ AW := AW_t8 118 rfl rfl
theorem m_1893 : (.instanceMethod ({ cls := "WindWordsModel", name := "count", desc := "(I)I" } : Jvm.MethodName) : Cond) ∈ AW := AW_t8 119 rfl rfl
theorem m_1894 : (.selects "WindWordsModel" ({ cls := "WindWordsModel", name := "count", desc := "(I)I" } : Jvm.MethodName) ({ cls := "WindWordsModel", name := "count", desc := "(I)I" } : Jvm.MethodName) : Cond) ∈ AW := AW_t8 120 rfl rfl
theorem m_1895 : (.code ({ cls := "WindWordsModel", name := "count", desc := "(I)I" } : Jvm.MethodName) prog_14_method_96_code (2 : Nat) (Option.some FieldType.int) : Cond) ∈ AW := AW_t8 121 rfl rfl
theorem m_1896 : (.methodLink "WindWordsModel" (514 : Nat) ({ cls := "WindWordsModel", name := "trusted", desc := "()I" } : Jvm.MethodName) : Cond) ∈ AW := AW_t8 122 rfl rfl
theorem m_1898 : (.instanceMethod ({ cls := "WindWordsModel", name := "trusted", desc := "()I" } : Jvm.MethodName) : Cond) ∈ AW := AW_t8 124 rfl rfl
theorem m_1899 : (.code ({ cls := "WindWordsModel", name := "trusted", desc := "()I" } : Jvm.MethodName) prog_14_method_94_code (3 : Nat) (Option.some FieldType.int) : Cond) ∈ AW := AW_t8 125 rfl rfl
theorem m_1900 : (.methodLink "WindWordsModel" (517 : Nat) ({ cls := "WindWordsModel", name := "habitsInAll", desc := "()I" } : Jvm.MethodName) : Cond) ∈ AW := AW_t8 126 rfl rfl
theorem m_1902 : (.instanceMethod ({ cls := "WindWordsModel", name := "habitsInAll", desc := "()I" } : Jvm.MethodName) : Cond) ∈ AW := AW_t8 128 rfl rfl
theorem m_1903 : (.code ({ cls := "WindWordsModel", name := "habitsInAll", desc := "()I" } : Jvm.MethodName) prog_14_method_95_code (3 : Nat) (Option.some FieldType.int) : Cond) ∈ AW := AW_t8 129 rfl rfl
theorem m_1904 : (.fieldLink "java/lang/String" (9 : Nat) "java/lang/String" "value" "[B" : Cond) ∈ AW := AW_t8 130 rfl rfl
theorem m_1905 : (.fieldLink "java/lang/String" (15 : Nat) "java/lang/String" "coder" "B" : Cond) ∈ AW := AW_t8 131 rfl rfl
