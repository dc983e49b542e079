abbrev sv_rm (h mc ms : Nat) : Room := { frames := h, cells := mc, slots := ms, locals := 32 * h }
def svSH : svS := [(0, 7), (0, 6), (1, 8), (1, 8), (1, 8), (1, 6), (1, 6), (1, 6), (0, 6), (1, 8), (1, 8), (1, 8), (1, 6), (1, 6), (1, 6), (0, 5), (2, 120), (0, 3), (1, 6), (1, 8), (1, 8), (0, 4), (4, 10), (0, 3), (1, 6), (1, 8), (1, 8), (0, 3), (1, 6), (1, 8), (1, 8), (0, 3), (1, 6), (1, 8), (1, 8), (0, 3), (1, 6), (1, 8), (1, 8), (0, 3), (1, 6), (1, 8), (1, 8), (0, 3), (1, 6), (1, 8), (1, 8), (0, 3), (1, 6), (1, 8), (1, 8), (0, 3), (1, 6), (1, 8), (1, 8), (0, 3), (1, 6), (1, 8), (1, 8), (0, 3), (1, 6), (1, 8), (1, 8), (0, 0), (1, 6), (1, 6), (0, 1), (1, 4), (1, 4), (1, 36), (0, 2), (0, 3), (1, 6), (1, 8), (1, 8), (0, 4), (4, 10), (0, 3), (1, 6), (1, 8), (1, 8), (0, 3), (1, 6), (1, 8), (1, 8), (0, 3), (1, 6), (1, 8), (1, 8), (0, 3), (1, 6), (1, 8), (1, 8), (0, 3), (1, 6), (1, 8), (1, 8), (0, 3), (1, 6), (1, 8), (1, 8), (0, 3), (1, 6), (1, 8), (1, 8), (0, 3), (1, 6), (1, 8), (1, 8), (0, 3), (1, 6), (1, 8), (1, 8), (0, 3), (1, 6), (1, 8), (1, 8), (0, 2), (0, 3), (1, 6), (1, 8), (1, 8), (0, 4), (4, 10), (0, 3), (1, 6), (1, 8), (1, 8), (0, 3), (1, 6), (1, 8), (1, 8), (0, 3), (1, 6), (1, 8), (1, 8), (0, 3), (1, 6), (1, 8), (1, 8), (0, 3), (1, 6), (1, 8), (1, 8), (0, 3), (1, 6), (1, 8), (1, 8), (0, 3), (1, 6), (1, 8), (1, 8), (0, 3), (1, 6), (1, 8), (1, 8), (0, 3), (1, 6), (1, 8), (1, 8), (0, 3), (1, 6), (1, 8), (1, 8), (0, 8), (1, 8), (1, 6), (1, 6), (1, 6), (1, 298), (1, 596), (3, 2), (1, 8), (1, 120), (1, 8), (1, 8), (1, 8), (1, 6), (1, 6), (1, 6), (1, 6), (1, 6)]
theorem sv_ins (ws : List Cond) (ps : List Nat) (hp : ws = ps.filterMap (fun i => lw_tbl[i]?)) (h : ws.all goodWord = true) : ∀ w ∈ ws, w ∈ sv_tbl := fun w hw => by
  refine List.mem_filter.mpr ⟨?_, List.all_eq_true.mp h w hw⟩
  rw [hp] at hw
  obtain ⟨i, -, hi⟩ := List.mem_filterMap.mp hw
  exact List.mem_of_getElem? hi
/-- the steady contracts: no cell is made -/
def svI (l : Launch) (G : svG) (y : MethodName) (M : svM) (rm : Room) (args : List Value) (hi : svH) (hl : svL) (hr : svR) (post : Int32 → svH → svL → svR → Prop) : Prop := svT l G y M rm 0 0 args svSH hi hl hr (fun v sh a b c => ∃ r, v = some (.int r) ∧ sh = svSH ∧ post r a b c)
def svW (l : Launch) (G : svG) (y : MethodName) (M : svM) (rm : Room) (args : List Value) (hi : svH) (hl : svL) (hr : svR) (post : Int64 → svH → svL → svR → Prop) : Prop := svT l G y M rm 0 0 args svSH hi hl hr (fun v sh a b c => ∃ r, v = some (.long r) ∧ sh = svSH ∧ post r a b c)
def svV (l : Launch) (G : svG) (y : MethodName) (M : svM) (rm : Room) (args : List Value) (hi : svH) (hl : svL) (hr : svR) (post : svH → svL → svR → Prop) : Prop := svT l G y M rm 0 0 args svSH hi hl hr (fun v sh a b c => v = none ∧ sh = svSH ∧ post a b c)
def svO (l : Launch) (G : svG) (y : MethodName) (M : svM) (rm : Room) (args : List Value) (hi : svH) (hl : svL) (hr : svR) (post : Option Nat → svH → svL → svR → Prop) : Prop := svT l G y M rm 0 0 args svSH hi hl hr (fun v sh a b c => ∃ r, v = some (sv_rv G.1 r) ∧ sh = svSH ∧ post r a b c)
theorem inX0 : ∀ w ∈ u_ws RX0 TX0 2, w ∈ sv_tbl := sv_ins _ [226, 228] (by decide +kernel) (by decide +kernel)
theorem inX1 : ∀ w ∈ u_ws RX1 TX1 5, w ∈ sv_tbl := sv_ins _ [244, 246, 248, 250, 252] (by decide +kernel) (by decide +kernel)
theorem inX2 : ∀ w ∈ u_ws RX2 TX2 3, w ∈ sv_tbl := sv_ins _ [271, 273, 275] (by decide +kernel) (by decide +kernel)
theorem inX3 : ∀ w ∈ u_ws RX3 TX3 8, w ∈ sv_tbl := sv_ins _ [183, 185, 187, 189, 191, 193, 195, 197] (by decide +kernel) (by decide +kernel)
theorem inX4 : ∀ w ∈ u_ws RX4 TX4 2, w ∈ sv_tbl := sv_ins _ [212, 214] (by decide +kernel) (by decide +kernel)
theorem inX5 : ∀ w ∈ u_ws RX5 TX5 6, w ∈ sv_tbl := sv_ins _ [147, 149, 151, 153, 155, 157] (by decide +kernel) (by decide +kernel)
theorem inX6 : ∀ w ∈ u_ws RX6 TX6 11, w ∈ sv_tbl := sv_ins _ [110, 112, 114, 116, 118, 120, 122, 124, 126, 128, 130] (by decide +kernel) (by decide +kernel)
theorem inX7 : ∀ w ∈ u_ws RX7 TX7 10, w ∈ sv_tbl := sv_ins _ [288, 290, 292, 294, 296, 298, 300, 302, 304, 306] (by decide +kernel) (by decide +kernel)
theorem inX8 : ∀ w ∈ u_ws RX8 TX8 35, w ∈ sv_tbl := sv_ins _ [719, 721, 723, 725, 727, 729, 731, 733, 735, 737, 739, 741, 743, 745, 747, 749, 751, 753, 755, 757, 759, 761, 763, 765, 767, 769, 771, 773, 775, 777, 779, 781, 783, 785, 787] (by decide +kernel) (by decide +kernel)
abbrev mX0_init : svM := (RX0, cX0_init, 1, none, "<init>")
theorem calX0_init : sv_cal yX0_init mX0_init 0 := ⟨(sv_in 59 (by decide +kernel) (by decide +kernel)), (sv_in 221 (by decide +kernel) (by decide +kernel)), by decide +kernel, by decide +kernel, by decide +kernel⟩
abbrev rX0_init : Room := sv_rm 1 0 0
abbrev mX0_open : svM := (RX0, cX0_open, 2, none, "open")
theorem calX0_open : sv_cal yX0_open mX0_open 1 := ⟨(sv_in 59 (by decide +kernel) (by decide +kernel)), (sv_in 440 (by decide +kernel) (by decide +kernel)), by decide +kernel, by decide +kernel, by decide +kernel⟩
abbrev rX0_open : Room := sv_rm 2 0 0
abbrev mX0_whoIsLeft : svM := (RX0, cX0_whoIsLeft, 6, some .int, "whoIsLeft")
theorem calX0_whoIsLeft : sv_cal yX0_whoIsLeft mX0_whoIsLeft 2 := ⟨(sv_in 59 (by decide +kernel) (by decide +kernel)), (sv_in 512 (by decide +kernel) (by decide +kernel)), by decide +kernel, by decide +kernel, by decide +kernel⟩
abbrev rX0_whoIsLeft : Room := sv_rm 4 0 0
abbrev mX0_winner : svM := (RX0, cX0_winner, 6, some .int, "winner")
theorem calX0_winner : sv_cal yX0_winner mX0_winner 3 := ⟨(sv_in 59 (by decide +kernel) (by decide +kernel)), (sv_in 528 (by decide +kernel) (by decide +kernel)), by decide +kernel, by decide +kernel, by decide +kernel⟩
abbrev rX0_winner : Room := sv_rm 5 0 0
abbrev mX0_mostOf : svM := (RX0, cX0_mostOf, 4, some .int, "mostOf")
theorem calX0_mostOf : sv_cal yX0_mostOf mX0_mostOf 2 := ⟨(sv_in 59 (by decide +kernel) (by decide +kernel)), (sv_in 515 (by decide +kernel) (by decide +kernel)), by decide +kernel, by decide +kernel, by decide +kernel⟩
abbrev rX0_mostOf : Room := sv_rm 3 0 0
abbrev mX1_init : svM := (RX1, cX1_init, 1, none, "<init>")
theorem calX1_init : sv_cal yX1_init mX1_init 0 := ⟨(sv_in 60 (by decide +kernel) (by decide +kernel)), (sv_in 235 (by decide +kernel) (by decide +kernel)), by decide +kernel, by decide +kernel, by decide +kernel⟩
abbrev rX1_init : Room := sv_rm 1 0 0
abbrev mX1_append : svM := (RX1, cX1_append, 3, none, "append")
theorem calX1_append : sv_cal yX1_append mX1_append 2 := ⟨(sv_in 60 (by decide +kernel) (by decide +kernel)), (sv_in 575 (by decide +kernel) (by decide +kernel)), by decide +kernel, by decide +kernel, by decide +kernel⟩
abbrev rX1_append : Room := sv_rm 3 0 0
abbrev mX1_fit : svM := (RX1, cX1_fit, 4, none, "fit")
theorem calX1_fit : sv_cal yX1_fit mX1_fit 1 := ⟨(sv_in 60 (by decide +kernel) (by decide +kernel)), (sv_in 588 (by decide +kernel) (by decide +kernel)), by decide +kernel, by decide +kernel, by decide +kernel⟩
abbrev rX1_fit : Room := sv_rm 4 0 0
abbrev mX1_firstFit : svM := (RX1, cX1_firstFit, 1, some .int, "firstFit")
theorem calX1_firstFit : sv_cal yX1_firstFit mX1_firstFit 0 := ⟨(sv_in 60 (by decide +kernel) (by decide +kernel)), (sv_in 601 (by decide +kernel) (by decide +kernel)), by decide +kernel, by decide +kernel, by decide +kernel⟩
abbrev rX1_firstFit : Room := sv_rm 3 0 0
abbrev mX1_question : svM := (RX1, cX1_question, 8, some .int, "question")
theorem calX1_question : sv_cal yX1_question mX1_question 1 := ⟨(sv_in 60 (by decide +kernel) (by decide +kernel)), (sv_in 609 (by decide +kernel) (by decide +kernel)), by decide +kernel, by decide +kernel, by decide +kernel⟩
abbrev rX1_question : Room := sv_rm 4 0 0
abbrev mX1_countFor : svM := (RX1, cX1_countFor, 5, some .int, "countFor")
theorem calX1_countFor : sv_cal yX1_countFor mX1_countFor 2 := ⟨(sv_in 60 (by decide +kernel) (by decide +kernel)), (sv_in 613 (by decide +kernel) (by decide +kernel)), by decide +kernel, by decide +kernel, by decide +kernel⟩
abbrev rX1_countFor : Room := sv_rm 3 0 0
abbrev mX1_isSo : svM := (RX1, cX1_isSo, 4, some .boolean, "isSo")
theorem calX1_isSo : sv_cal yX1_isSo mX1_isSo 2 := ⟨(sv_in 60 (by decide +kernel) (by decide +kernel)), (sv_in 592 (by decide +kernel) (by decide +kernel)), by decide +kernel, by decide +kernel, by decide +kernel⟩
abbrev rX1_isSo : Room := sv_rm 3 0 0
abbrev mX1_choice : svM := (RX1, cX1_choice, 4, some .int, "choice")
theorem calX1_choice : sv_cal yX1_choice mX1_choice 4 := ⟨(sv_in 60 (by decide +kernel) (by decide +kernel)), (sv_in 596 (by decide +kernel) (by decide +kernel)), by decide +kernel, by decide +kernel, by decide +kernel⟩
abbrev rX1_choice : Room := sv_rm 1 0 0
abbrev mX2_init : svM := (RX2, cX2_init, 1, none, "<init>")
theorem calX2_init : sv_cal yX2_init mX2_init 0 := ⟨(sv_in 61 (by decide +kernel) (by decide +kernel)), (sv_in 259 (by decide +kernel) (by decide +kernel)), by decide +kernel, by decide +kernel, by decide +kernel⟩
abbrev rX2_init : Room := sv_rm 3 0 0
abbrev mX3_init : svM := (RX3, cX3_init, 1, none, "<init>")
theorem calX3_init : sv_cal yX3_init mX3_init 0 := ⟨(sv_in 57 (by decide +kernel) (by decide +kernel)), (sv_in 165 (by decide +kernel) (by decide +kernel)), by decide +kernel, by decide +kernel, by decide +kernel⟩
abbrev rX3_init : Room := sv_rm 1 0 0
abbrev mX3_begin : svM := (RX3, cX3_begin, 3, none, "begin")
theorem calX3_begin : sv_cal yX3_begin mX3_begin 1 := ⟨(sv_in 57 (by decide +kernel) (by decide +kernel)), (sv_in 397 (by decide +kernel) (by decide +kernel)), by decide +kernel, by decide +kernel, by decide +kernel⟩
abbrev rX3_begin : Room := sv_rm 2 0 0
abbrev mX3_copyFrom : svM := (RX3, cX3_copyFrom, 2, none, "copyFrom")
theorem calX3_copyFrom : sv_cal yX3_copyFrom mX3_copyFrom 1 := ⟨(sv_in 57 (by decide +kernel) (by decide +kernel)), (sv_in 465 (by decide +kernel) (by decide +kernel)), by decide +kernel, by decide +kernel, by decide +kernel⟩
abbrev rX3_copyFrom : Room := sv_rm 2 0 0
abbrev mX4_init : svM := (RX4, cX4_init, 2, none, "<init>")
theorem calX4_init : sv_cal yX4_init mX4_init 0 := ⟨(sv_in 58 (by decide +kernel) (by decide +kernel)), (sv_in 204 (by decide +kernel) (by decide +kernel)), by decide +kernel, by decide +kernel, by decide +kernel⟩
abbrev rX4_init : Room := sv_rm 2 0 0
abbrev mX4_push : svM := (RX4, cX4_push, 3, none, "push")
theorem calX4_push : sv_cal yX4_push mX4_push 1 := ⟨(sv_in 58 (by decide +kernel) (by decide +kernel)), (sv_in 452 (by decide +kernel) (by decide +kernel)), by decide +kernel, by decide +kernel, by decide +kernel⟩
abbrev rX4_push : Room := sv_rm 3 0 0
abbrev mX4_popInto : svM := (RX4, cX4_popInto, 3, none, "popInto")
theorem calX4_popInto : sv_cal yX4_popInto mX4_popInto 1 := ⟨(sv_in 58 (by decide +kernel) (by decide +kernel)), (sv_in 500 (by decide +kernel) (by decide +kernel)), by decide +kernel, by decide +kernel, by decide +kernel⟩
abbrev rX4_popInto : Room := sv_rm 3 0 0
abbrev mX4_copyFrom : svM := (RX4, cX4_copyFrom, 5, none, "copyFrom")
theorem calX4_copyFrom : sv_cal yX4_copyFrom mX4_copyFrom 1 := ⟨(sv_in 58 (by decide +kernel) (by decide +kernel)), (sv_in 665 (by decide +kernel) (by decide +kernel)), by decide +kernel, by decide +kernel, by decide +kernel⟩
abbrev rX4_copyFrom : Room := sv_rm 3 0 0
abbrev mX4_loseOldest : svM := (RX4, cX4_loseOldest, 3, none, "loseOldest")
theorem calX4_loseOldest : sv_cal yX4_loseOldest mX4_loseOldest 0 := ⟨(sv_in 58 (by decide +kernel) (by decide +kernel)), (sv_in 456 (by decide +kernel) (by decide +kernel)), by decide +kernel, by decide +kernel, by decide +kernel⟩
abbrev rX4_loseOldest : Room := sv_rm 1 0 0
abbrev mX4_rowAt : svM := (RX4, cX4_rowAt, 2, some (.object "StrangerVotes$Now"), "rowAt")
theorem calX4_rowAt : sv_cal yX4_rowAt mX4_rowAt 1 := ⟨(sv_in 58 (by decide +kernel) (by decide +kernel)), (sv_in 460 (by decide +kernel) (by decide +kernel)), by decide +kernel, by decide +kernel, by decide +kernel⟩
abbrev rX4_rowAt : Room := sv_rm 2 0 0
abbrev mX5_init : svM := (RX5, cX5_init, 1, none, "<init>")
theorem calX5_init : sv_cal yX5_init mX5_init 0 := ⟨(sv_in 56 (by decide +kernel) (by decide +kernel)), (sv_in 138 (by decide +kernel) (by decide +kernel)), by decide +kernel, by decide +kernel, by decide +kernel⟩
abbrev rX5_init : Room := sv_rm 1 0 0
abbrev mX5_append : svM := (RX5, cX5_append, 2, none, "append")
theorem calX5_append : sv_cal yX5_append mX5_append 1 := ⟨(sv_in 56 (by decide +kernel) (by decide +kernel)), (sv_in 319 (by decide +kernel) (by decide +kernel)), by decide +kernel, by decide +kernel, by decide +kernel⟩
abbrev rX5_append : Room := sv_rm 2 0 0
abbrev mX5_readInto : svM := (RX5, cX5_readInto, 3, some .int, "readInto")
theorem calX5_readInto : sv_cal yX5_readInto mX5_readInto 1 := ⟨(sv_in 56 (by decide +kernel) (by decide +kernel)), (sv_in 332 (by decide +kernel) (by decide +kernel)), by decide +kernel, by decide +kernel, by decide +kernel⟩
abbrev rX5_readInto : Room := sv_rm 7 0 0
abbrev mX5_readItem : svM := (RX5, cX5_readItem, 3, some .boolean, "readItem")
theorem calX5_readItem : sv_cal yX5_readItem mX5_readItem 2 := ⟨(sv_in 56 (by decide +kernel) (by decide +kernel)), (sv_in 362 (by decide +kernel) (by decide +kernel)), by decide +kernel, by decide +kernel, by decide +kernel⟩
abbrev rX5_readItem : Room := sv_rm 6 0 0
abbrev mX5_readChoice : svM := (RX5, cX5_readChoice, 2, some .boolean, "readChoice")
theorem calX5_readChoice : sv_cal yX5_readChoice mX5_readChoice 1 := ⟨(sv_in 56 (by decide +kernel) (by decide +kernel)), (sv_in 366 (by decide +kernel) (by decide +kernel)), by decide +kernel, by decide +kernel, by decide +kernel⟩
abbrev rX5_readChoice : Room := sv_rm 5 0 0
abbrev mX5_readTrain : svM := (RX5, cX5_readTrain, 4, some .boolean, "readTrain")
theorem calX5_readTrain : sv_cal yX5_readTrain mX5_readTrain 1 := ⟨(sv_in 56 (by decide +kernel) (by decide +kernel)), (sv_in 378 (by decide +kernel) (by decide +kernel)), by decide +kernel, by decide +kernel, by decide +kernel⟩
abbrev rX5_readTrain : Room := sv_rm 5 0 0
abbrev mX5_readGroup : svM := (RX5, cX5_readGroup, 4, some .boolean, "readGroup")
theorem calX5_readGroup : sv_cal yX5_readGroup mX5_readGroup 1 := ⟨(sv_in 56 (by decide +kernel) (by decide +kernel)), (sv_in 389 (by decide +kernel) (by decide +kernel)), by decide +kernel, by decide +kernel, by decide +kernel⟩
abbrev rX5_readGroup : Room := sv_rm 5 0 0
abbrev mX5_readNumber : svM := (RX5, cX5_readNumber, 3, some .boolean, "readNumber")
theorem calX5_readNumber : sv_cal yX5_readNumber mX5_readNumber 2 := ⟨(sv_in 56 (by decide +kernel) (by decide +kernel)), (sv_in 370 (by decide +kernel) (by decide +kernel)), by decide +kernel, by decide +kernel, by decide +kernel⟩
abbrev rX5_readNumber : Room := sv_rm 4 0 0
abbrev mX5_readStop : svM := (RX5, cX5_readStop, 1, some .boolean, "readStop")
theorem calX5_readStop : sv_cal yX5_readStop mX5_readStop 0 := ⟨(sv_in 56 (by decide +kernel) (by decide +kernel)), (sv_in 374 (by decide +kernel) (by decide +kernel)), by decide +kernel, by decide +kernel, by decide +kernel⟩
abbrev rX5_readStop : Room := sv_rm 4 0 0
abbrev mX5_step : svM := (RX5, cX5_step, 1, none, "step")
theorem calX5_step : sv_cal yX5_step mX5_step 0 := ⟨(sv_in 56 (by decide +kernel) (by decide +kernel)), (sv_in 340 (by decide +kernel) (by decide +kernel)), by decide +kernel, by decide +kernel, by decide +kernel⟩
abbrev rX5_step : Room := sv_rm 3 0 0
abbrev mX5_stepWord : svM := (RX5, cX5_stepWord, 1, none, "stepWord")
theorem calX5_stepWord : sv_cal yX5_stepWord mX5_stepWord 0 := ⟨(sv_in 56 (by decide +kernel) (by decide +kernel)), (sv_in 351 (by decide +kernel) (by decide +kernel)), by decide +kernel, by decide +kernel, by decide +kernel⟩
abbrev rX5_stepWord : Room := sv_rm 2 0 0
abbrev mX5_stepNumber : svM := (RX5, cX5_stepNumber, 2, none, "stepNumber")
theorem calX5_stepNumber : sv_cal yX5_stepNumber mX5_stepNumber 0 := ⟨(sv_in 56 (by decide +kernel) (by decide +kernel)), (sv_in 358 (by decide +kernel) (by decide +kernel)), by decide +kernel, by decide +kernel, by decide +kernel⟩
abbrev rX5_stepNumber : Room := sv_rm 2 0 0
abbrev mX5_byteAt : svM := (RX5, cX5_byteAt, 2, some .int, "byteAt")
theorem calX5_byteAt : sv_cal yX5_byteAt mX5_byteAt 1 := ⟨(sv_in 56 (by decide +kernel) (by decide +kernel)), (sv_in 344 (by decide +kernel) (by decide +kernel)), by decide +kernel, by decide +kernel, by decide +kernel⟩
abbrev rX5_byteAt : Room := sv_rm 1 0 0
abbrev mX5_isLetter : svM := (RX5, cX5_isLetter, 1, some .boolean, "isLetter")
theorem calX5_isLetter : sv_cal yX5_isLetter mX5_isLetter 1 := ⟨(sv_in 56 (by decide +kernel) (by decide +kernel)), (sv_in 347 (by decide +kernel) (by decide +kernel)), by decide +kernel, by decide +kernel, by decide +kernel⟩
abbrev rX5_isLetter : Room := sv_rm 1 0 0
abbrev mX5_isDigit : svM := (RX5, cX5_isDigit, 1, some .boolean, "isDigit")
theorem calX5_isDigit : sv_cal yX5_isDigit mX5_isDigit 1 := ⟨(sv_in 56 (by decide +kernel) (by decide +kernel)), (sv_in 354 (by decide +kernel) (by decide +kernel)), by decide +kernel, by decide +kernel, by decide +kernel⟩
abbrev rX5_isDigit : Room := sv_rm 1 0 0
abbrev mX6_init : svM := (RX6, cX6_init, 1, none, "<init>")
theorem calX6_init : sv_cal yX6_init mX6_init 0 := ⟨(sv_in 55 (by decide +kernel) (by decide +kernel)), (sv_in 78 (by decide +kernel) (by decide +kernel)), by decide +kernel, by decide +kernel, by decide +kernel⟩
abbrev rX6_init : Room := sv_rm 1 0 0
abbrev mX6_reset : svM := (RX6, cX6_reset, 1, none, "reset")
theorem calX6_reset : sv_cal yX6_reset mX6_reset 0 := ⟨(sv_in 55 (by decide +kernel) (by decide +kernel)), (sv_in 336 (by decide +kernel) (by decide +kernel)), by decide +kernel, by decide +kernel, by decide +kernel⟩
abbrev rX6_reset : Room := sv_rm 1 0 0
abbrev mX6_addTrain : svM := (RX6, cX6_addTrain, 4, none, "addTrain")
theorem calX6_addTrain : sv_cal yX6_addTrain mX6_addTrain 3 := ⟨(sv_in 55 (by decide +kernel) (by decide +kernel)), (sv_in 382 (by decide +kernel) (by decide +kernel)), by decide +kernel, by decide +kernel, by decide +kernel⟩
abbrev rX6_addTrain : Room := sv_rm 3 0 0
abbrev mX6_addGroup : svM := (RX6, cX6_addGroup, 4, none, "addGroup")
theorem calX6_addGroup : sv_cal yX6_addGroup mX6_addGroup 3 := ⟨(sv_in 55 (by decide +kernel) (by decide +kernel)), (sv_in 393 (by decide +kernel) (by decide +kernel)), by decide +kernel, by decide +kernel, by decide +kernel⟩
abbrev rX6_addGroup : Room := sv_rm 3 0 0
abbrev mX6_groupsOf : svM := (RX6, cX6_groupsOf, 4, some .int, "groupsOf")
theorem calX6_groupsOf : sv_cal yX6_groupsOf mX6_groupsOf 1 := ⟨(sv_in 55 (by decide +kernel) (by decide +kernel)), (sv_in 637 (by decide +kernel) (by decide +kernel)), by decide +kernel, by decide +kernel, by decide +kernel⟩
abbrev rX6_groupsOf : Room := sv_rm 3 0 0
abbrev mX6_choiceOf : svM := (RX6, cX6_choiceOf, 3, some .int, "choiceOf")
theorem calX6_choiceOf : sv_cal yX6_choiceOf mX6_choiceOf 2 := ⟨(sv_in 55 (by decide +kernel) (by decide +kernel)), (sv_in 533 (by decide +kernel) (by decide +kernel)), by decide +kernel, by decide +kernel, by decide +kernel⟩
abbrev rX6_choiceOf : Room := sv_rm 3 0 0
abbrev mX7_init : svM := (RX7, cX7_init, 1, none, "<init>")
theorem calX7_init : sv_cal yX7_init mX7_init 0 := ⟨(sv_in 54 (by decide +kernel) (by decide +kernel)), (sv_in 70 (by decide +kernel) (by decide +kernel)), by decide +kernel, by decide +kernel, by decide +kernel⟩
abbrev rX7_init : Room := sv_rm 4 0 0
abbrev mX7_type : svM := (RX7, cX7_type, 2, some .int, "type")
theorem calX7_type : sv_cal yX7_type mX7_type 1 := ⟨(sv_in 54 (by decide +kernel) (by decide +kernel)), (sv_in 312 (by decide +kernel) (by decide +kernel)), by decide +kernel, by decide +kernel, by decide +kernel⟩
abbrev rX7_type : Room := sv_rm 3 0 0
abbrev mX7_clear : svM := (RX7, cX7_clear, 2, some .int, "clear")
theorem calX7_clear : sv_cal yX7_clear mX7_clear 0 := ⟨(sv_in 54 (by decide +kernel) (by decide +kernel)), (sv_in 324 (by decide +kernel) (by decide +kernel)), by decide +kernel, by decide +kernel, by decide +kernel⟩
abbrev rX7_clear : Room := sv_rm 1 0 0
abbrev mX7_town : svM := (RX7, cX7_town, 3, some .int, "town")
theorem calX7_town : sv_cal yX7_town mX7_town 0 := ⟨(sv_in 54 (by decide +kernel) (by decide +kernel)), (sv_in 328 (by decide +kernel) (by decide +kernel)), by decide +kernel, by decide +kernel, by decide +kernel⟩
abbrev rX7_town : Room := sv_rm 8 0 0
abbrev mX7_train : svM := (RX7, cX7_train, 3, some .int, "train")
theorem calX7_train : sv_cal yX7_train mX7_train 2 := ⟨(sv_in 54 (by decide +kernel) (by decide +kernel)), (sv_in 410 (by decide +kernel) (by decide +kernel)), by decide +kernel, by decide +kernel, by decide +kernel⟩
abbrev rX7_train : Room := sv_rm 3 0 0
abbrev mX7_group : svM := (RX7, cX7_group, 3, some .int, "group")
theorem calX7_group : sv_cal yX7_group mX7_group 2 := ⟨(sv_in 54 (by decide +kernel) (by decide +kernel)), (sv_in 420 (by decide +kernel) (by decide +kernel)), by decide +kernel, by decide +kernel, by decide +kernel⟩
abbrev rX7_group : Room := sv_rm 3 0 0
abbrev mX7_votes : svM := (RX7, cX7_votes, 3, some .int, "votes")
theorem calX7_votes : sv_cal yX7_votes mX7_votes 2 := ⟨(sv_in 54 (by decide +kernel) (by decide +kernel)), (sv_in 424 (by decide +kernel) (by decide +kernel)), by decide +kernel, by decide +kernel, by decide +kernel⟩
abbrev rX7_votes : Room := sv_rm 5 0 0
abbrev mX7_hour : svM := (RX7, cX7_hour, 2, some .int, "hour")
theorem calX7_hour : sv_cal yX7_hour mX7_hour 0 := ⟨(sv_in 54 (by decide +kernel) (by decide +kernel)), (sv_in 448 (by decide +kernel) (by decide +kernel)), by decide +kernel, by decide +kernel, by decide +kernel⟩
abbrev rX7_hour : Room := sv_rm 4 0 0
abbrev mX7_holds : svM := (RX7, cX7_holds, 2, some .int, "holds")
theorem calX7_holds : sv_cal yX7_holds mX7_holds 1 := ⟨(sv_in 54 (by decide +kernel) (by decide +kernel)), (sv_in 473 (by decide +kernel) (by decide +kernel)), by decide +kernel, by decide +kernel, by decide +kernel⟩
abbrev rX7_holds : Room := sv_rm 4 0 0
abbrev mX7_canvasses : svM := (RX7, cX7_canvasses, 3, some .int, "canvasses")
theorem calX7_canvasses : sv_cal yX7_canvasses mX7_canvasses 2 := ⟨(sv_in 54 (by decide +kernel) (by decide +kernel)), (sv_in 477 (by decide +kernel) (by decide +kernel)), by decide +kernel, by decide +kernel, by decide +kernel⟩
abbrev rX7_canvasses : Room := sv_rm 4 0 0
abbrev mX7_fog : svM := (RX7, cX7_fog, 2, some .int, "fog")
theorem calX7_fog : sv_cal yX7_fog mX7_fog 1 := ⟨(sv_in 54 (by decide +kernel) (by decide +kernel)), (sv_in 482 (by decide +kernel) (by decide +kernel)), by decide +kernel, by decide +kernel, by decide +kernel⟩
abbrev rX7_fog : Room := sv_rm 4 0 0
abbrev mX7_rugs : svM := (RX7, cX7_rugs, 3, some .int, "rugs")
theorem calX7_rugs : sv_cal yX7_rugs mX7_rugs 1 := ⟨(sv_in 54 (by decide +kernel) (by decide +kernel)), (sv_in 492 (by decide +kernel) (by decide +kernel)), by decide +kernel, by decide +kernel, by decide +kernel⟩
abbrev rX7_rugs : Room := sv_rm 4 0 0
abbrev mX7_undo : svM := (RX7, cX7_undo, 1, some .int, "undo")
theorem calX7_undo : sv_cal yX7_undo mX7_undo 0 := ⟨(sv_in 54 (by decide +kernel) (by decide +kernel)), (sv_in 496 (by decide +kernel) (by decide +kernel)), by decide +kernel, by decide +kernel, by decide +kernel⟩
abbrev rX7_undo : Room := sv_rm 4 0 0
abbrev mX7_now : svM := (RX7, cX7_now, 2, some .int, "now")
theorem calX7_now : sv_cal yX7_now mX7_now 1 := ⟨(sv_in 54 (by decide +kernel) (by decide +kernel)), (sv_in 504 (by decide +kernel) (by decide +kernel)), by decide +kernel, by decide +kernel, by decide +kernel⟩
abbrev rX7_now : Room := sv_rm 7 0 0
abbrev mX7_plan : svM := (RX7, cX7_plan, 8, some .int, "plan")
theorem calX7_plan : sv_cal yX7_plan mX7_plan 2 := ⟨(sv_in 54 (by decide +kernel) (by decide +kernel)), (sv_in 544 (by decide +kernel) (by decide +kernel)), by decide +kernel, by decide +kernel, by decide +kernel⟩
abbrev rX7_plan : Room := sv_rm 6 0 0
abbrev mX7_power : svM := (RX7, cX7_power, 6, some .int, "power")
theorem calX7_power : sv_cal yX7_power mX7_power 1 := ⟨(sv_in 54 (by decide +kernel) (by decide +kernel)), (sv_in 552 (by decide +kernel) (by decide +kernel)), by decide +kernel, by decide +kernel, by decide +kernel⟩
abbrev rX7_power : Room := sv_rm 7 0 0
abbrev mX7_laws : svM := (RX7, cX7_laws, 5, some .int, "laws")
theorem calX7_laws : sv_cal yX7_laws mX7_laws 1 := ⟨(sv_in 54 (by decide +kernel) (by decide +kernel)), (sv_in 556 (by decide +kernel) (by decide +kernel)), by decide +kernel, by decide +kernel, by decide +kernel⟩
abbrev rX7_laws : Room := sv_rm 7 0 0
abbrev mX7_odds : svM := (RX7, cX7_odds, 8, some .int, "odds")
theorem calX7_odds : sv_cal yX7_odds mX7_odds 3 := ⟨(sv_in 54 (by decide +kernel) (by decide +kernel)), (sv_in 560 (by decide +kernel) (by decide +kernel)), by decide +kernel, by decide +kernel, by decide +kernel⟩
abbrev rX7_odds : Room := sv_rm 7 0 0
abbrev mX7_hears : svM := (RX7, cX7_hears, 3, some .int, "hears")
theorem calX7_hears : sv_cal yX7_hears mX7_hears 2 := ⟨(sv_in 54 (by decide +kernel) (by decide +kernel)), (sv_in 571 (by decide +kernel) (by decide +kernel)), by decide +kernel, by decide +kernel, by decide +kernel⟩
abbrev rX7_hears : Room := sv_rm 4 0 0
abbrev mX7_forget : svM := (RX7, cX7_forget, 2, some .int, "forget")
theorem calX7_forget : sv_cal yX7_forget mX7_forget 0 := ⟨(sv_in 54 (by decide +kernel) (by decide +kernel)), (sv_in 580 (by decide +kernel) (by decide +kernel)), by decide +kernel, by decide +kernel, by decide +kernel⟩
abbrev rX7_forget : Room := sv_rm 1 0 0
abbrev mX7_likings : svM := (RX7, cX7_likings, 2, some .int, "likings")
theorem calX7_likings : sv_cal yX7_likings mX7_likings 1 := ⟨(sv_in 54 (by decide +kernel) (by decide +kernel)), (sv_in 584 (by decide +kernel) (by decide +kernel)), by decide +kernel, by decide +kernel, by decide +kernel⟩
abbrev rX7_likings : Room := sv_rm 5 0 0
abbrev mX7_ask : svM := (RX7, cX7_ask, 1, some .int, "ask")
theorem calX7_ask : sv_cal yX7_ask mX7_ask 0 := ⟨(sv_in 54 (by decide +kernel) (by decide +kernel)), (sv_in 605 (by decide +kernel) (by decide +kernel)), by decide +kernel, by decide +kernel, by decide +kernel⟩
abbrev rX7_ask : Room := sv_rm 5 0 0
abbrev mX7_mark : svM := (RX7, cX7_mark, 3, some .int, "mark")
theorem calX7_mark : sv_cal yX7_mark mX7_mark 2 := ⟨(sv_in 54 (by decide +kernel) (by decide +kernel)), (sv_in 618 (by decide +kernel) (by decide +kernel)), by decide +kernel, by decide +kernel, by decide +kernel⟩
abbrev rX7_mark : Room := sv_rm 6 0 0
abbrev mX7_keep : svM := (RX7, cX7_keep, 3, some .int, "keep")
theorem calX7_keep : sv_cal yX7_keep mX7_keep 1 := ⟨(sv_in 54 (by decide +kernel) (by decide +kernel)), (sv_in 656 (by decide +kernel) (by decide +kernel)), by decide +kernel, by decide +kernel, by decide +kernel⟩
abbrev rX7_keep : Room := sv_rm 4 0 0
abbrev mX7_back : svM := (RX7, cX7_back, 3, some .int, "back")
theorem calX7_back : sv_cal yX7_back mX7_back 1 := ⟨(sv_in 54 (by decide +kernel) (by decide +kernel)), (sv_in 669 (by decide +kernel) (by decide +kernel)), by decide +kernel, by decide +kernel, by decide +kernel⟩
abbrev rX7_back : Room := sv_rm 4 0 0
abbrev mX7_count : svM := (RX7, cX7_count, 2, some .int, "count")
theorem calX7_count : sv_cal yX7_count mX7_count 1 := ⟨(sv_in 54 (by decide +kernel) (by decide +kernel)), (sv_in 673 (by decide +kernel) (by decide +kernel)), by decide +kernel, by decide +kernel, by decide +kernel⟩
abbrev rX7_count : Room := sv_rm 1 0 0
abbrev mX7_trace : svM := (RX7, cX7_trace, 1, some .long, "trace")
theorem calX7_trace : sv_cal yX7_trace mX7_trace 0 := ⟨(sv_in 54 (by decide +kernel) (by decide +kernel)), (sv_in 677 (by decide +kernel) (by decide +kernel)), by decide +kernel, by decide +kernel, by decide +kernel⟩
abbrev rX7_trace : Room := sv_rm 1 0 0
abbrev mX7_openTrains : svM := (RX7, cX7_openTrains, 3, some .int, "openTrains")
theorem calX7_openTrains : sv_cal yX7_openTrains mX7_openTrains 0 := ⟨(sv_in 54 (by decide +kernel) (by decide +kernel)), (sv_in 428 (by decide +kernel) (by decide +kernel)), by decide +kernel, by decide +kernel, by decide +kernel⟩
abbrev rX7_openTrains : Room := sv_rm 3 0 0
abbrev mX7_trainsFor : svM := (RX7, cX7_trainsFor, 4, some .int, "trainsFor")
theorem calX7_trainsFor : sv_cal yX7_trainsFor mX7_trainsFor 1 := ⟨(sv_in 54 (by decide +kernel) (by decide +kernel)), (sv_in 548 (by decide +kernel) (by decide +kernel)), by decide +kernel, by decide +kernel, by decide +kernel⟩
abbrev rX7_trainsFor : Room := sv_rm 3 0 0
abbrev mX7_stopTrains : svM := (RX7, cX7_stopTrains, 3, some .int, "stopTrains")
theorem calX7_stopTrains : sv_cal yX7_stopTrains mX7_stopTrains 0 := ⟨(sv_in 54 (by decide +kernel) (by decide +kernel)), (sv_in 469 (by decide +kernel) (by decide +kernel)), by decide +kernel, by decide +kernel, by decide +kernel⟩
abbrev rX7_stopTrains : Room := sv_rm 3 0 0
abbrev mX7_castFor : svM := (RX7, cX7_castFor, 2, none, "castFor")
theorem calX7_castFor : sv_cal yX7_castFor mX7_castFor 1 := ⟨(sv_in 54 (by decide +kernel) (by decide +kernel)), (sv_in 432 (by decide +kernel) (by decide +kernel)), by decide +kernel, by decide +kernel, by decide +kernel⟩
abbrev rX7_castFor : Room := sv_rm 4 0 0
abbrev mX7_castCanvassed : svM := (RX7, cX7_castCanvassed, 6, none, "castCanvassed")
theorem calX7_castCanvassed : sv_cal yX7_castCanvassed mX7_castCanvassed 3 := ⟨(sv_in 54 (by decide +kernel) (by decide +kernel)), (sv_in 436 (by decide +kernel) (by decide +kernel)), by decide +kernel, by decide +kernel, by decide +kernel⟩
abbrev rX7_castCanvassed : Room := sv_rm 3 0 0
abbrev mX7_leftAfter : svM := (RX7, cX7_leftAfter, 2, some .int, "leftAfter")
theorem calX7_leftAfter : sv_cal yX7_leftAfter mX7_leftAfter 1 := ⟨(sv_in 54 (by decide +kernel) (by decide +kernel)), (sv_in 508 (by decide +kernel) (by decide +kernel)), by decide +kernel, by decide +kernel, by decide +kernel⟩
abbrev rX7_leftAfter : Room := sv_rm 5 0 0
abbrev mX7_winnerAfter : svM := (RX7, cX7_winnerAfter, 3, some .int, "winnerAfter")
theorem calX7_winnerAfter : sv_cal yX7_winnerAfter mX7_winnerAfter 2 := ⟨(sv_in 54 (by decide +kernel) (by decide +kernel)), (sv_in 524 (by decide +kernel) (by decide +kernel)), by decide +kernel, by decide +kernel, by decide +kernel⟩
abbrev rX7_winnerAfter : Room := sv_rm 6 0 0
abbrev mX7_markOfOne : svM := (RX7, cX7_markOfOne, 2, some .int, "markOfOne")
theorem calX7_markOfOne : sv_cal yX7_markOfOne mX7_markOfOne 1 := ⟨(sv_in 54 (by decide +kernel) (by decide +kernel)), (sv_in 623 (by decide +kernel) (by decide +kernel)), by decide +kernel, by decide +kernel, by decide +kernel⟩
abbrev rX7_markOfOne : Room := sv_rm 3 0 0
abbrev mX7_markOfLiberal : svM := (RX7, cX7_markOfLiberal, 2, some .int, "markOfLiberal")
theorem calX7_markOfLiberal : sv_cal yX7_markOfLiberal mX7_markOfLiberal 1 := ⟨(sv_in 54 (by decide +kernel) (by decide +kernel)), (sv_in 627 (by decide +kernel) (by decide +kernel)), by decide +kernel, by decide +kernel, by decide +kernel⟩
abbrev rX7_markOfLiberal : Room := sv_rm 4 0 0
abbrev mX7_markOfTory : svM := (RX7, cX7_markOfTory, 2, some .int, "markOfTory")
theorem calX7_markOfTory : sv_cal yX7_markOfTory mX7_markOfTory 1 := ⟨(sv_in 54 (by decide +kernel) (by decide +kernel)), (sv_in 632 (by decide +kernel) (by decide +kernel)), by decide +kernel, by decide +kernel, by decide +kernel⟩
abbrev rX7_markOfTory : Room := sv_rm 4 0 0
abbrev mX7_markOfGuard : svM := (RX7, cX7_markOfGuard, 2, some .int, "markOfGuard")
theorem calX7_markOfGuard : sv_cal yX7_markOfGuard mX7_markOfGuard 1 := ⟨(sv_in 54 (by decide +kernel) (by decide +kernel)), (sv_in 641 (by decide +kernel) (by decide +kernel)), by decide +kernel, by decide +kernel, by decide +kernel⟩
abbrev rX7_markOfGuard : Room := sv_rm 5 0 0
abbrev mX7_markOfPorter : svM := (RX7, cX7_markOfPorter, 2, some .int, "markOfPorter")
theorem calX7_markOfPorter : sv_cal yX7_markOfPorter mX7_markOfPorter 1 := ⟨(sv_in 54 (by decide +kernel) (by decide +kernel)), (sv_in 646 (by decide +kernel) (by decide +kernel)), by decide +kernel, by decide +kernel, by decide +kernel⟩
abbrev rX7_markOfPorter : Room := sv_rm 5 0 0
abbrev mX7_markOfMayor : svM := (RX7, cX7_markOfMayor, 2, some .int, "markOfMayor")
theorem calX7_markOfMayor : sv_cal yX7_markOfMayor mX7_markOfMayor 1 := ⟨(sv_in 54 (by decide +kernel) (by decide +kernel)), (sv_in 651 (by decide +kernel) (by decide +kernel)), by decide +kernel, by decide +kernel, by decide +kernel⟩
abbrev rX7_markOfMayor : Room := sv_rm 4 0 0
abbrev mX7_imageOf : svM := (RX7, cX7_imageOf, 2, some (.object "StrangerVotes$Image"), "imageOf")
theorem calX7_imageOf : sv_cal yX7_imageOf mX7_imageOf 1 := ⟨(sv_in 54 (by decide +kernel) (by decide +kernel)), (sv_in 660 (by decide +kernel) (by decide +kernel)), by decide +kernel, by decide +kernel, by decide +kernel⟩
abbrev rX7_imageOf : Room := sv_rm 1 0 0
abbrev mX7_isIn : svM := (RX7, cX7_isIn, 2, some .boolean, "isIn")
theorem calX7_isIn : sv_cal yX7_isIn mX7_isIn 2 := ⟨(sv_in 54 (by decide +kernel) (by decide +kernel)), (sv_in 315 (by decide +kernel) (by decide +kernel)), by decide +kernel, by decide +kernel, by decide +kernel⟩
abbrev rX7_isIn : Room := sv_rm 1 0 0
abbrev mX7_at : svM := (RX7, cX7_at, 2, some .int, "at")
theorem calX7_at : sv_cal yX7_at mX7_at 2 := ⟨(sv_in 54 (by decide +kernel) (by decide +kernel)), (sv_in 413 (by decide +kernel) (by decide +kernel)), by decide +kernel, by decide +kernel, by decide +kernel⟩
abbrev rX7_at : Room := sv_rm 2 0 0
abbrev mX7_set : svM := (RX7, cX7_set, 3, none, "set")
theorem calX7_set : sv_cal yX7_set mX7_set 3 := ⟨(sv_in 54 (by decide +kernel) (by decide +kernel)), (sv_in 385 (by decide +kernel) (by decide +kernel)), by decide +kernel, by decide +kernel, by decide +kernel⟩
abbrev rX7_set : Room := sv_rm 2 0 0
abbrev mX7_raise : svM := (RX7, cX7_raise, 3, none, "raise")
theorem calX7_raise : sv_cal yX7_raise mX7_raise 3 := ⟨(sv_in 54 (by decide +kernel) (by decide +kernel)), (sv_in 444 (by decide +kernel) (by decide +kernel)), by decide +kernel, by decide +kernel, by decide +kernel⟩
abbrev rX7_raise : Room := sv_rm 2 0 0
abbrev mX7_bit : svM := (RX7, cX7_bit, 2, some .int, "bit")
theorem calX7_bit : sv_cal yX7_bit mX7_bit 2 := ⟨(sv_in 54 (by decide +kernel) (by decide +kernel)), (sv_in 416 (by decide +kernel) (by decide +kernel)), by decide +kernel, by decide +kernel, by decide +kernel⟩
abbrev rX7_bit : Room := sv_rm 2 0 0
abbrev mX7_copy : svM := (RX7, cX7_copy, 2, none, "copy")
theorem calX7_copy : sv_cal yX7_copy mX7_copy 2 := ⟨(sv_in 54 (by decide +kernel) (by decide +kernel)), (sv_in 400 (by decide +kernel) (by decide +kernel)), by decide +kernel, by decide +kernel, by decide +kernel⟩
abbrev rX7_copy : Room := sv_rm 1 0 0
abbrev mX7_product : svM := (RX7, cX7_product, 6, some .int, "product")
theorem calX7_product : sv_cal yX7_product mX7_product 4 := ⟨(sv_in 54 (by decide +kernel) (by decide +kernel)), (sv_in 563 (by decide +kernel) (by decide +kernel)), by decide +kernel, by decide +kernel, by decide +kernel⟩
abbrev rX7_product : Room := sv_rm 1 0 0
abbrev mX7_commonDivisor : svM := (RX7, cX7_commonDivisor, 4, some .int, "commonDivisor")
theorem calX7_commonDivisor : sv_cal yX7_commonDivisor mX7_commonDivisor 2 := ⟨(sv_in 54 (by decide +kernel) (by decide +kernel)), (sv_in 566 (by decide +kernel) (by decide +kernel)), by decide +kernel, by decide +kernel, by decide +kernel⟩
abbrev rX7_commonDivisor : Room := sv_rm 1 0 0
abbrev mX8_init : svM := (RX8, cX8_init, 1, none, "<init>")
theorem calX8_init : sv_cal yX8_init mX8_init 0 := ⟨(sv_in 62 (by decide +kernel) (by decide +kernel)), (sv_in 682 (by decide +kernel) (by decide +kernel)), by decide +kernel, by decide +kernel, by decide +kernel⟩
abbrev rX8_init : Room := sv_rm 1 0 0
abbrev mX8_in : svM := (RX8, cX8_in, 3, some .boolean, "in")
theorem calX8_in : sv_cal yX8_in mX8_in 3 := ⟨(sv_in 62 (by decide +kernel) (by decide +kernel)), (sv_in 797 (by decide +kernel) (by decide +kernel)), by decide +kernel, by decide +kernel, by decide +kernel⟩
abbrev rX8_in : Room := sv_rm 1 0 0
abbrev mX8_has : svM := (RX8, cX8_has, 2, some .boolean, "has")
theorem calX8_has : sv_cal yX8_has mX8_has 2 := ⟨(sv_in 62 (by decide +kernel) (by decide +kernel)), (sv_in 866 (by decide +kernel) (by decide +kernel)), by decide +kernel, by decide +kernel, by decide +kernel⟩
abbrev rX8_has : Room := sv_rm 1 0 0
abbrev mX8_bits : svM := (RX8, cX8_bits, 3, some .int, "bits")
theorem calX8_bits : sv_cal yX8_bits mX8_bits 1 := ⟨(sv_in 62 (by decide +kernel) (by decide +kernel)), (sv_in 913 (by decide +kernel) (by decide +kernel)), by decide +kernel, by decide +kernel, by decide +kernel⟩
abbrev rX8_bits : Room := sv_rm 1 0 0
abbrev mX8_isOne : svM := (RX8, cX8_isOne, 2, some .boolean, "isOne")
theorem calX8_isOne : sv_cal yX8_isOne mX8_isOne 1 := ⟨(sv_in 62 (by decide +kernel) (by decide +kernel)), (sv_in 882 (by decide +kernel) (by decide +kernel)), by decide +kernel, by decide +kernel, by decide +kernel⟩
abbrev rX8_isOne : Room := sv_rm 2 0 0
abbrev mX8_isTrain : svM := (RX8, cX8_isTrain, 2, some .boolean, "isTrain")
theorem calX8_isTrain : sv_cal yX8_isTrain mX8_isTrain 1 := ⟨(sv_in 62 (by decide +kernel) (by decide +kernel)), (sv_in 859 (by decide +kernel) (by decide +kernel)), by decide +kernel, by decide +kernel, by decide +kernel⟩
abbrev rX8_isTrain : Room := sv_rm 2 0 0
abbrev mX8_isGroup : svM := (RX8, cX8_isGroup, 2, some .boolean, "isGroup")
theorem calX8_isGroup : sv_cal yX8_isGroup mX8_isGroup 1 := ⟨(sv_in 62 (by decide +kernel) (by decide +kernel)), (sv_in 874 (by decide +kernel) (by decide +kernel)), by decide +kernel, by decide +kernel, by decide +kernel⟩
abbrev rX8_isGroup : Room := sv_rm 2 0 0
abbrev mX8_type : svM := (RX8, cX8_type, 2, some .int, "type")
theorem calX8_type : sv_cal yX8_type mX8_type 1 := ⟨(sv_in 62 (by decide +kernel) (by decide +kernel)), (sv_in 794 (by decide +kernel) (by decide +kernel)), by decide +kernel, by decide +kernel, by decide +kernel⟩
abbrev rX8_type : Room := sv_rm 2 0 0
abbrev mX8_clear : svM := (RX8, cX8_clear, 2, some .int, "clear")
theorem calX8_clear : sv_cal yX8_clear mX8_clear 0 := ⟨(sv_in 62 (by decide +kernel) (by decide +kernel)), (sv_in 801 (by decide +kernel) (by decide +kernel)), by decide +kernel, by decide +kernel, by decide +kernel⟩
abbrev rX8_clear : Room := sv_rm 1 0 0
abbrev mX8_letterAt : svM := (RX8, cX8_letterAt, 2, some .int, "letterAt")
theorem calX8_letterAt : sv_cal yX8_letterAt mX8_letterAt 1 := ⟨(sv_in 62 (by decide +kernel) (by decide +kernel)), (sv_in 813 (by decide +kernel) (by decide +kernel)), by decide +kernel, by decide +kernel, by decide +kernel⟩
abbrev rX8_letterAt : Room := sv_rm 1 0 0
abbrev mX8_isFigure : svM := (RX8, cX8_isFigure, 1, some .boolean, "isFigure")
theorem calX8_isFigure : sv_cal yX8_isFigure mX8_isFigure 1 := ⟨(sv_in 62 (by decide +kernel) (by decide +kernel)), (sv_in 816 (by decide +kernel) (by decide +kernel)), by decide +kernel, by decide +kernel, by decide +kernel⟩
abbrev rX8_isFigure : Room := sv_rm 2 0 0
abbrev mX8_isLetter : svM := (RX8, cX8_isLetter, 1, some .boolean, "isLetter")
theorem calX8_isLetter : sv_cal yX8_isLetter mX8_isLetter 1 := ⟨(sv_in 62 (by decide +kernel) (by decide +kernel)), (sv_in 819 (by decide +kernel) (by decide +kernel)), by decide +kernel, by decide +kernel, by decide +kernel⟩
abbrev rX8_isLetter : Room := sv_rm 2 0 0
abbrev mX8_next : svM := (RX8, cX8_next, 2, none, "next")
theorem calX8_next : sv_cal yX8_next mX8_next 0 := ⟨(sv_in 62 (by decide +kernel) (by decide +kernel)), (sv_in 809 (by decide +kernel) (by decide +kernel)), by decide +kernel, by decide +kernel, by decide +kernel⟩
abbrev rX8_next : Room := sv_rm 3 0 0
abbrev mX8_takesNumber : svM := (RX8, cX8_takesNumber, 5, some .int, "takesNumber")
theorem calX8_takesNumber : sv_cal yX8_takesNumber mX8_takesNumber 2 := ⟨(sv_in 62 (by decide +kernel) (by decide +kernel)), (sv_in 839 (by decide +kernel) (by decide +kernel)), by decide +kernel, by decide +kernel, by decide +kernel⟩
abbrev rX8_takesNumber : Room := sv_rm 4 0 0
abbrev mX8_mayBegin : svM := (RX8, cX8_mayBegin, 2, some .boolean, "mayBegin")
theorem calX8_mayBegin : sv_cal yX8_mayBegin mX8_mayBegin 1 := ⟨(sv_in 62 (by decide +kernel) (by decide +kernel)), (sv_in 827 (by decide +kernel) (by decide +kernel)), by decide +kernel, by decide +kernel, by decide +kernel⟩
abbrev rX8_mayBegin : Room := sv_rm 1 0 0
abbrev mX8_readTown : svM := (RX8, cX8_readTown, 1, none, "readTown")
theorem calX8_readTown : sv_cal yX8_readTown mX8_readTown 0 := ⟨(sv_in 62 (by decide +kernel) (by decide +kernel)), (sv_in 835 (by decide +kernel) (by decide +kernel)), by decide +kernel, by decide +kernel, by decide +kernel⟩
abbrev rX8_readTown : Room := sv_rm 5 0 0
abbrev mX8_readTrain : svM := (RX8, cX8_readTrain, 1, none, "readTrain")
theorem calX8_readTrain : sv_cal yX8_readTrain mX8_readTrain 0 := ⟨(sv_in 62 (by decide +kernel) (by decide +kernel)), (sv_in 843 (by decide +kernel) (by decide +kernel)), by decide +kernel, by decide +kernel, by decide +kernel⟩
abbrev rX8_readTrain : Room := sv_rm 5 0 0
abbrev mX8_readGroup : svM := (RX8, cX8_readGroup, 1, none, "readGroup")
theorem calX8_readGroup : sv_cal yX8_readGroup mX8_readGroup 0 := ⟨(sv_in 62 (by decide +kernel) (by decide +kernel)), (sv_in 847 (by decide +kernel) (by decide +kernel)), by decide +kernel, by decide +kernel, by decide +kernel⟩
abbrev rX8_readGroup : Room := sv_rm 5 0 0
abbrev mX8_readBody : svM := (RX8, cX8_readBody, 2, none, "readBody")
theorem calX8_readBody : sv_cal yX8_readBody mX8_readBody 1 := ⟨(sv_in 62 (by decide +kernel) (by decide +kernel)), (sv_in 831 (by decide +kernel) (by decide +kernel)), by decide +kernel, by decide +kernel, by decide +kernel⟩
abbrev rX8_readBody : Room := sv_rm 6 0 0
abbrev mX8_readItem : svM := (RX8, cX8_readItem, 2, none, "readItem")
theorem calX8_readItem : sv_cal yX8_readItem mX8_readItem 0 := ⟨(sv_in 62 (by decide +kernel) (by decide +kernel)), (sv_in 823 (by decide +kernel) (by decide +kernel)), by decide +kernel, by decide +kernel, by decide +kernel⟩
abbrev rX8_readItem : Room := sv_rm 7 0 0
abbrev mX8_town : svM := (RX8, cX8_town, 1, some .int, "town")
theorem calX8_town : sv_cal yX8_town mX8_town 0 := ⟨(sv_in 62 (by decide +kernel) (by decide +kernel)), (sv_in 805 (by decide +kernel) (by decide +kernel)), by decide +kernel, by decide +kernel, by decide +kernel⟩
abbrev rX8_town : Room := sv_rm 8 0 0
abbrev mX8_settles : svM := (RX8, cX8_settles, 2, none, "settles")
theorem calX8_settles : sv_cal yX8_settles mX8_settles 0 := ⟨(sv_in 62 (by decide +kernel) (by decide +kernel)), (sv_in 851 (by decide +kernel) (by decide +kernel)), by decide +kernel, by decide +kernel, by decide +kernel⟩
abbrev rX8_settles : Room := sv_rm 1 0 0
abbrev mX8_isStopped : svM := (RX8, cX8_isStopped, 2, some .boolean, "isStopped")
theorem calX8_isStopped : sv_cal yX8_isStopped mX8_isStopped 1 := ⟨(sv_in 62 (by decide +kernel) (by decide +kernel)), (sv_in 863 (by decide +kernel) (by decide +kernel)), by decide +kernel, by decide +kernel, by decide +kernel⟩
abbrev rX8_isStopped : Room := sv_rm 2 0 0
abbrev mX8_toCome : svM := (RX8, cX8_toCome, 3, some .int, "toCome")
theorem calX8_toCome : sv_cal yX8_toCome mX8_toCome 0 := ⟨(sv_in 62 (by decide +kernel) (by decide +kernel)), (sv_in 886 (by decide +kernel) (by decide +kernel)), by decide +kernel, by decide +kernel, by decide +kernel⟩
abbrev rX8_toCome : Room := sv_rm 3 0 0
abbrev mX8_tries : svM := (RX8, cX8_tries, 6, none, "tries")
theorem calX8_tries : sv_cal yX8_tries mX8_tries 3 := ⟨(sv_in 62 (by decide +kernel) (by decide +kernel)), (sv_in 890 (by decide +kernel) (by decide +kernel)), by decide +kernel, by decide +kernel, by decide +kernel⟩
abbrev rX8_tries : Room := sv_rm 2 0 0
abbrev mX8_whoIsLeft : svM := (RX8, cX8_whoIsLeft, 7, some .int, "whoIsLeft")
theorem calX8_whoIsLeft : sv_cal yX8_whoIsLeft mX8_whoIsLeft 1 := ⟨(sv_in 62 (by decide +kernel) (by decide +kernel)), (sv_in 933 (by decide +kernel) (by decide +kernel)), by decide +kernel, by decide +kernel, by decide +kernel⟩
abbrev rX8_whoIsLeft : Room := sv_rm 2 0 0
abbrev mX8_lowestOf : svM := (RX8, cX8_lowestOf, 3, some .int, "lowestOf")
theorem calX8_lowestOf : sv_cal yX8_lowestOf mX8_lowestOf 1 := ⟨(sv_in 62 (by decide +kernel) (by decide +kernel)), (sv_in 945 (by decide +kernel) (by decide +kernel)), by decide +kernel, by decide +kernel, by decide +kernel⟩
abbrev rX8_lowestOf : Room := sv_rm 2 0 0
abbrev mX8_winnerOf : svM := (RX8, cX8_winnerOf, 4, some .int, "winnerOf")
theorem calX8_winnerOf : sv_cal yX8_winnerOf mX8_winnerOf 1 := ⟨(sv_in 62 (by decide +kernel) (by decide +kernel)), (sv_in 941 (by decide +kernel) (by decide +kernel)), by decide +kernel, by decide +kernel, by decide +kernel⟩
abbrev rX8_winnerOf : Room := sv_rm 3 0 0
abbrev mX8_winnerBy : svM := (RX8, cX8_winnerBy, 2, some .int, "winnerBy")
theorem calX8_winnerBy : sv_cal yX8_winnerBy mX8_winnerBy 1 := ⟨(sv_in 62 (by decide +kernel) (by decide +kernel)), (sv_in 937 (by decide +kernel) (by decide +kernel)), by decide +kernel, by decide +kernel, by decide +kernel⟩
abbrev rX8_winnerBy : Room := sv_rm 4 0 0
abbrev mX8_train : svM := (RX8, cX8_train, 3, some .int, "train")
theorem calX8_train : sv_cal yX8_train mX8_train 2 := ⟨(sv_in 62 (by decide +kernel) (by decide +kernel)), (sv_in 855 (by decide +kernel) (by decide +kernel)), by decide +kernel, by decide +kernel, by decide +kernel⟩
abbrev rX8_train : Room := sv_rm 3 0 0
abbrev mX8_group : svM := (RX8, cX8_group, 3, some .int, "group")
theorem calX8_group : sv_cal yX8_group mX8_group 2 := ⟨(sv_in 62 (by decide +kernel) (by decide +kernel)), (sv_in 870 (by decide +kernel) (by decide +kernel)), by decide +kernel, by decide +kernel, by decide +kernel⟩
abbrev rX8_group : Room := sv_rm 3 0 0
abbrev mX8_votes : svM := (RX8, cX8_votes, 3, some .int, "votes")
theorem calX8_votes : sv_cal yX8_votes mX8_votes 2 := ⟨(sv_in 62 (by decide +kernel) (by decide +kernel)), (sv_in 878 (by decide +kernel) (by decide +kernel)), by decide +kernel, by decide +kernel, by decide +kernel⟩
abbrev rX8_votes : Room := sv_rm 4 0 0
abbrev mX8_remembers : svM := (RX8, cX8_remembers, 3, none, "remembers")
theorem calX8_remembers : sv_cal yX8_remembers mX8_remembers 0 := ⟨(sv_in 62 (by decide +kernel) (by decide +kernel)), (sv_in 898 (by decide +kernel) (by decide +kernel)), by decide +kernel, by decide +kernel, by decide +kernel⟩
abbrev rX8_remembers : Room := sv_rm 1 0 0
abbrev mX8_hour : svM := (RX8, cX8_hour, 3, some .int, "hour")
theorem calX8_hour : sv_cal yX8_hour mX8_hour 0 := ⟨(sv_in 62 (by decide +kernel) (by decide +kernel)), (sv_in 894 (by decide +kernel) (by decide +kernel)), by decide +kernel, by decide +kernel, by decide +kernel⟩
abbrev rX8_hour : Room := sv_rm 3 0 0
abbrev mX8_holds : svM := (RX8, cX8_holds, 2, some .int, "holds")
theorem calX8_holds : sv_cal yX8_holds mX8_holds 1 := ⟨(sv_in 62 (by decide +kernel) (by decide +kernel)), (sv_in 902 (by decide +kernel) (by decide +kernel)), by decide +kernel, by decide +kernel, by decide +kernel⟩
abbrev rX8_holds : Room := sv_rm 3 0 0
abbrev mX8_canvasses : svM := (RX8, cX8_canvasses, 3, some .int, "canvasses")
theorem calX8_canvasses : sv_cal yX8_canvasses mX8_canvasses 2 := ⟨(sv_in 62 (by decide +kernel) (by decide +kernel)), (sv_in 906 (by decide +kernel) (by decide +kernel)), by decide +kernel, by decide +kernel, by decide +kernel⟩
abbrev rX8_canvasses : Room := sv_rm 3 0 0
abbrev mX8_fog : svM := (RX8, cX8_fog, 2, some .int, "fog")
theorem calX8_fog : sv_cal yX8_fog mX8_fog 1 := ⟨(sv_in 62 (by decide +kernel) (by decide +kernel)), (sv_in 910 (by decide +kernel) (by decide +kernel)), by decide +kernel, by decide +kernel, by decide +kernel⟩
abbrev rX8_fog : Room := sv_rm 2 0 0
abbrev mX8_rugs : svM := (RX8, cX8_rugs, 2, some .int, "rugs")
theorem calX8_rugs : sv_cal yX8_rugs mX8_rugs 1 := ⟨(sv_in 62 (by decide +kernel) (by decide +kernel)), (sv_in 917 (by decide +kernel) (by decide +kernel)), by decide +kernel, by decide +kernel, by decide +kernel⟩
abbrev rX8_rugs : Room := sv_rm 3 0 0
abbrev mX8_undo : svM := (RX8, cX8_undo, 3, some .int, "undo")
theorem calX8_undo : sv_cal yX8_undo mX8_undo 0 := ⟨(sv_in 62 (by decide +kernel) (by decide +kernel)), (sv_in 921 (by decide +kernel) (by decide +kernel)), by decide +kernel, by decide +kernel, by decide +kernel⟩
abbrev rX8_undo : Room := sv_rm 1 0 0
abbrev mX8_leftBy : svM := (RX8, cX8_leftBy, 2, some .int, "leftBy")
theorem calX8_leftBy : sv_cal yX8_leftBy mX8_leftBy 1 := ⟨(sv_in 62 (by decide +kernel) (by decide +kernel)), (sv_in 929 (by decide +kernel) (by decide +kernel)), by decide +kernel, by decide +kernel, by decide +kernel⟩
abbrev rX8_leftBy : Room := sv_rm 3 0 0
abbrev mX8_now : svM := (RX8, cX8_now, 2, some .int, "now")
theorem calX8_now : sv_cal yX8_now mX8_now 1 := ⟨(sv_in 62 (by decide +kernel) (by decide +kernel)), (sv_in 925 (by decide +kernel) (by decide +kernel)), by decide +kernel, by decide +kernel, by decide +kernel⟩
abbrev rX8_now : Room := sv_rm 5 0 0
abbrev mX8_isLess : svM := (RX8, cX8_isLess, 2, some .boolean, "isLess")
theorem calX8_isLess : sv_cal yX8_isLess mX8_isLess 2 := ⟨(sv_in 62 (by decide +kernel) (by decide +kernel)), (sv_in 952 (by decide +kernel) (by decide +kernel)), by decide +kernel, by decide +kernel, by decide +kernel⟩
abbrev rX8_isLess : Room := sv_rm 2 0 0
abbrev mX8_plan : svM := (RX8, cX8_plan, 6, some .int, "plan")
theorem calX8_plan : sv_cal yX8_plan mX8_plan 2 := ⟨(sv_in 62 (by decide +kernel) (by decide +kernel)), (sv_in 949 (by decide +kernel) (by decide +kernel)), by decide +kernel, by decide +kernel, by decide +kernel⟩
abbrev rX8_plan : Room := sv_rm 4 0 0
abbrev mX8_power : svM := (RX8, cX8_power, 6, some .int, "power")
theorem calX8_power : sv_cal yX8_power mX8_power 1 := ⟨(sv_in 62 (by decide +kernel) (by decide +kernel)), (sv_in 956 (by decide +kernel) (by decide +kernel)), by decide +kernel, by decide +kernel, by decide +kernel⟩
abbrev rX8_power : Room := sv_rm 5 0 0
abbrev mX8_laws : svM := (RX8, cX8_laws, 4, some .int, "laws")
theorem calX8_laws : sv_cal yX8_laws mX8_laws 1 := ⟨(sv_in 62 (by decide +kernel) (by decide +kernel)), (sv_in 960 (by decide +kernel) (by decide +kernel)), by decide +kernel, by decide +kernel, by decide +kernel⟩
abbrev rX8_laws : Room := sv_rm 4 0 0
abbrev mX8_lowest : svM := (RX8, cX8_lowest, 6, some .int, "lowest")
theorem calX8_lowest : sv_cal yX8_lowest mX8_lowest 3 := ⟨(sv_in 62 (by decide +kernel) (by decide +kernel)), (sv_in 967 (by decide +kernel) (by decide +kernel)), by decide +kernel, by decide +kernel, by decide +kernel⟩
abbrev rX8_lowest : Room := sv_rm 1 0 0
abbrev mX8_odds : svM := (RX8, cX8_odds, 10, some .int, "odds")
theorem calX8_odds : sv_cal yX8_odds mX8_odds 3 := ⟨(sv_in 62 (by decide +kernel) (by decide +kernel)), (sv_in 964 (by decide +kernel) (by decide +kernel)), by decide +kernel, by decide +kernel, by decide +kernel⟩
abbrev rX8_odds : Room := sv_rm 5 0 0
abbrev mX8_hears : svM := (RX8, cX8_hears, 3, some .int, "hears")
theorem calX8_hears : sv_cal yX8_hears mX8_hears 2 := ⟨(sv_in 62 (by decide +kernel) (by decide +kernel)), (sv_in 971 (by decide +kernel) (by decide +kernel)), by decide +kernel, by decide +kernel, by decide +kernel⟩
abbrev rX8_hears : Room := sv_rm 3 0 0
abbrev mX8_forget : svM := (RX8, cX8_forget, 2, some .int, "forget")
theorem calX8_forget : sv_cal yX8_forget mX8_forget 0 := ⟨(sv_in 62 (by decide +kernel) (by decide +kernel)), (sv_in 975 (by decide +kernel) (by decide +kernel)), by decide +kernel, by decide +kernel, by decide +kernel⟩
abbrev rX8_forget : Room := sv_rm 1 0 0
abbrev mX8_chosen : svM := (RX8, cX8_chosen, 5, some .int, "chosen")
theorem calX8_chosen : sv_cal yX8_chosen mX8_chosen 3 := ⟨(sv_in 62 (by decide +kernel) (by decide +kernel)), (sv_in 986 (by decide +kernel) (by decide +kernel)), by decide +kernel, by decide +kernel, by decide +kernel⟩
abbrev rX8_chosen : Room := sv_rm 1 0 0
abbrev mX8_isSo : svM := (RX8, cX8_isSo, 4, some .boolean, "isSo")
theorem calX8_isSo : sv_cal yX8_isSo mX8_isSo 1 := ⟨(sv_in 62 (by decide +kernel) (by decide +kernel)), (sv_in 983 (by decide +kernel) (by decide +kernel)), by decide +kernel, by decide +kernel, by decide +kernel⟩
abbrev rX8_isSo : Room := sv_rm 3 0 0
abbrev mX8_likings : svM := (RX8, cX8_likings, 5, some .int, "likings")
theorem calX8_likings : sv_cal yX8_likings mX8_likings 1 := ⟨(sv_in 62 (by decide +kernel) (by decide +kernel)), (sv_in 979 (by decide +kernel) (by decide +kernel)), by decide +kernel, by decide +kernel, by decide +kernel⟩
abbrev rX8_likings : Room := sv_rm 4 0 0
abbrev mX8_ask : svM := (RX8, cX8_ask, 8, some .int, "ask")
theorem calX8_ask : sv_cal yX8_ask mX8_ask 0 := ⟨(sv_in 62 (by decide +kernel) (by decide +kernel)), (sv_in 990 (by decide +kernel) (by decide +kernel)), by decide +kernel, by decide +kernel, by decide +kernel⟩
abbrev rX8_ask : Room := sv_rm 5 0 0
abbrev mX8_likedBy : svM := (RX8, cX8_likedBy, 4, some .int, "likedBy")
theorem calX8_likedBy : sv_cal yX8_likedBy mX8_likedBy 1 := ⟨(sv_in 62 (by decide +kernel) (by decide +kernel)), (sv_in 1000 (by decide +kernel) (by decide +kernel)), by decide +kernel, by decide +kernel, by decide +kernel⟩
abbrev rX8_likedBy : Room := sv_rm 3 0 0
abbrev mX8_firstOf : svM := (RX8, cX8_firstOf, 4, some .int, "firstOf")
theorem calX8_firstOf : sv_cal yX8_firstOf mX8_firstOf 1 := ⟨(sv_in 62 (by decide +kernel) (by decide +kernel)), (sv_in 1004 (by decide +kernel) (by decide +kernel)), by decide +kernel, by decide +kernel, by decide +kernel⟩
abbrev rX8_firstOf : Room := sv_rm 1 0 0
abbrev mX8_mark : svM := (RX8, cX8_mark, 6, some .int, "mark")
theorem calX8_mark : sv_cal yX8_mark mX8_mark 2 := ⟨(sv_in 62 (by decide +kernel) (by decide +kernel)), (sv_in 995 (by decide +kernel) (by decide +kernel)), by decide +kernel, by decide +kernel, by decide +kernel⟩
abbrev rX8_mark : Room := sv_rm 4 0 0
abbrev mX8_keep : svM := (RX8, cX8_keep, 3, some .int, "keep")
theorem calX8_keep : sv_cal yX8_keep mX8_keep 1 := ⟨(sv_in 62 (by decide +kernel) (by decide +kernel)), (sv_in 1013 (by decide +kernel) (by decide +kernel)), by decide +kernel, by decide +kernel, by decide +kernel⟩
abbrev rX8_keep : Room := sv_rm 2 0 0
abbrev mX8_back : svM := (RX8, cX8_back, 3, some .int, "back")
theorem calX8_back : sv_cal yX8_back mX8_back 1 := ⟨(sv_in 62 (by decide +kernel) (by decide +kernel)), (sv_in 1017 (by decide +kernel) (by decide +kernel)), by decide +kernel, by decide +kernel, by decide +kernel⟩
abbrev rX8_back : Room := sv_rm 2 0 0
abbrev mX8_count : svM := (RX8, cX8_count, 2, some .int, "count")
theorem calX8_count : sv_cal yX8_count mX8_count 1 := ⟨(sv_in 62 (by decide +kernel) (by decide +kernel)), (sv_in 1021 (by decide +kernel) (by decide +kernel)), by decide +kernel, by decide +kernel, by decide +kernel⟩
abbrev rX8_count : Room := sv_rm 1 0 0
abbrev mX8_trace : svM := (RX8, cX8_trace, 1, some .long, "trace")
theorem calX8_trace : sv_cal yX8_trace mX8_trace 0 := ⟨(sv_in 62 (by decide +kernel) (by decide +kernel)), (sv_in 1025 (by decide +kernel) (by decide +kernel)), by decide +kernel, by decide +kernel, by decide +kernel⟩
abbrev rX8_trace : Room := sv_rm 1 0 0
abbrev mJ6_numberOfTrailingZeros_0f7a4 : svM := (RJ6, cJ6_numberOfTrailingZeros_0f7a4, 2, some .int, "numberOfTrailingZeros")
theorem calJ6_numberOfTrailingZeros_0f7a4 : sv_cal yJ6_numberOfTrailingZeros_0f7a4 mJ6_numberOfTrailingZeros_0f7a4 1 := ⟨(sv_in 65 (by decide +kernel) (by decide +kernel)), (sv_in 538 (by decide +kernel) (by decide +kernel)), by decide +kernel, by decide +kernel, by decide +kernel⟩
abbrev rJ6_numberOfTrailingZeros_0f7a4 : Room := sv_rm 1 0 0
abbrev mJ6_bitCount_0f7a4 : svM := (RJ6, cJ6_bitCount_0f7a4, 1, some .int, "bitCount")
theorem calJ6_bitCount_0f7a4 : sv_cal yJ6_bitCount_0f7a4 mJ6_bitCount_0f7a4 1 := ⟨(sv_in 65 (by decide +kernel) (by decide +kernel)), (sv_in 485 (by decide +kernel) (by decide +kernel)), by decide +kernel, by decide +kernel, by decide +kernel⟩
abbrev rJ6_bitCount_0f7a4 : Room := sv_rm 1 0 0
abbrev mJ9_max_7cf53 : svM := (RJ9, cJ9_max_7cf53, 2, some .int, "max")
theorem calJ9_max_7cf53 : sv_cal yJ9_max_7cf53 mJ9_max_7cf53 2 := ⟨(sv_in 63 (by decide +kernel) (by decide +kernel)), (sv_in 520 (by decide +kernel) (by decide +kernel)), by decide +kernel, by decide +kernel, by decide +kernel⟩
abbrev rJ9_max_7cf53 : Room := sv_rm 1 0 0
abbrev mJ9_min_7cf53 : svM := (RJ9, cJ9_min_7cf53, 2, some .int, "min")
theorem calJ9_min_7cf53 : sv_cal yJ9_min_7cf53 mJ9_min_7cf53 2 := ⟨(sv_in 63 (by decide +kernel) (by decide +kernel)), (sv_in 403 (by decide +kernel) (by decide +kernel)), by decide +kernel, by decide +kernel, by decide +kernel⟩
abbrev rJ9_min_7cf53 : Room := sv_rm 1 0 0
section SvSites
variable {l : Launch} {G : svG} {R : Room} {F : svF} {cs sl pc : Nat} {ls : List (Option Value)} {st : List Value} {sh : svS} {hi : svH} {hl : svL} {hr : svR} {cc : ByteArray} {nL : Nat} {ret : Option FieldType} {nm : String}
theorem wfX0_15 : Cond.fieldLink RX0 15 (TX0 1).1 (TX0 1).2.1 (TX0 1).2.2.1 ∈ sv_tbl := (sv_in 225 (by decide +kernel) (by decide +kernel))
theorem fgX0_15 {i q : Nat} (hsh : sh[i]? = some (0, 0)) (hv : hr i 1 = some q) (d : decode cc pc = .ok (.getfield 15, 3)) (kk : svJ l G R (RX0, cc, nL, ret, nm) F cs sl (pc + 3) ls (sv_rf G.1 q :: st) sh hi hl hr) : svJ l G R (RX0, cc, nL, ret, nm) F cs sl pc ls (sv_rf G.1 i :: st) sh hi hl hr := by
  refine J_get (M := (RX0, cc, nL, ret, nm)) (k := 1) inX0 rfl (by decide) rfl wfX0_15 hsh d ?_
  show svJ l G R (RX0, cc, nL, ret, nm) F cs sl (pc + 3) ls (sv_rv G.1 (hr i 1) :: st) sh hi hl hr
  rw [sv_rv_some hv]
  exact kk
theorem wfX0_26 : Cond.fieldLink RX0 26 (TX6 0).1 (TX6 0).2.1 (TX6 0).2.2.1 ∈ sv_tbl := (sv_in 81 (by decide +kernel) (by decide +kernel))
theorem fgX0_26 {i : Nat} (hsh : sh[i]? = some (0, 6)) (d : decode cc pc = .ok (.getfield 26, 3)) (kk : svJ l G R (RX0, cc, nL, ret, nm) F cs sl (pc + 3) ls (.int (hi i 0) :: st) sh hi hl hr) : svJ l G R (RX0, cc, nL, ret, nm) F cs sl pc ls (sv_rf G.1 i :: st) sh hi hl hr :=
  J_get (M := (RX0, cc, nL, ret, nm)) (k := 0) inX6 rfl (by decide) rfl wfX0_26 hsh d kk
theorem wfX0_36 : Cond.fieldLink RX0 36 (TX6 4).1 (TX6 4).2.1 (TX6 4).2.2.1 ∈ sv_tbl := (sv_in 94 (by decide +kernel) (by decide +kernel))
theorem fgX0_36 {i : Nat} (hsh : sh[i]? = some (0, 6)) (d : decode cc pc = .ok (.getfield 36, 3)) (kk : svJ l G R (RX0, cc, nL, ret, nm) F cs sl (pc + 3) ls (.int (hi i 4) :: st) sh hi hl hr) : svJ l G R (RX0, cc, nL, ret, nm) F cs sl pc ls (sv_rf G.1 i :: st) sh hi hl hr :=
  J_get (M := (RX0, cc, nL, ret, nm)) (k := 4) inX6 rfl (by decide) rfl wfX0_36 hsh d kk
theorem wfX0_45 : Cond.fieldLink RX0 45 (TX6 8).1 (TX6 8).2.1 (TX6 8).2.2.1 ∈ sv_tbl := (sv_in 104 (by decide +kernel) (by decide +kernel))
theorem fgX0_45 {i q : Nat} (hsh : sh[i]? = some (0, 6)) (hv : hr i 8 = some q) (d : decode cc pc = .ok (.getfield 45, 3)) (kk : svJ l G R (RX0, cc, nL, ret, nm) F cs sl (pc + 3) ls (sv_rf G.1 q :: st) sh hi hl hr) : svJ l G R (RX0, cc, nL, ret, nm) F cs sl pc ls (sv_rf G.1 i :: st) sh hi hl hr := by
  refine J_get (M := (RX0, cc, nL, ret, nm)) (k := 8) inX6 rfl (by decide) rfl wfX0_45 hsh d ?_
  show svJ l G R (RX0, cc, nL, ret, nm) F cs sl (pc + 3) ls (sv_rv G.1 (hr i 8) :: st) sh hi hl hr
  rw [sv_rv_some hv]
  exact kk
theorem wfX0_9 : Cond.fieldLink RX0 9 (TX0 0).1 (TX0 0).2.1 (TX0 0).2.2.1 ∈ sv_tbl := (sv_in 223 (by decide +kernel) (by decide +kernel))
theorem fgX0_9 {i q : Nat} (hsh : sh[i]? = some (0, 0)) (hv : hr i 0 = some q) (d : decode cc pc = .ok (.getfield 9, 3)) (kk : svJ l G R (RX0, cc, nL, ret, nm) F cs sl (pc + 3) ls (sv_rf G.1 q :: st) sh hi hl hr) : svJ l G R (RX0, cc, nL, ret, nm) F cs sl pc ls (sv_rf G.1 i :: st) sh hi hl hr := by
  refine J_get (M := (RX0, cc, nL, ret, nm)) (k := 0) inX0 rfl (by decide) rfl wfX0_9 hsh d ?_
  show svJ l G R (RX0, cc, nL, ret, nm) F cs sl (pc + 3) ls (sv_rv G.1 (hr i 0) :: st) sh hi hl hr
  rw [sv_rv_some hv]
  exact kk
theorem wmX0_3 : Cond.methodLink RX0 3 Lib.objectInit ∈ sv_tbl := (sv_in 222 (by decide +kernel) (by decide +kernel))
theorem obX0_3 {i : Nat} (d : decode cc pc = .ok (.invokespecial 3, 3)) (hR : 1 ≤ R.frames) (hR2 : (st.map fun v => v.category).sum + 12 ≤ R.locals) (kk : svJ l G R (RX0, cc, nL, ret, nm) F cs sl (pc + 3) ls st sh hi hl hr) : svJ l G R (RX0, cc, nL, ret, nm) F cs sl pc ls (sv_rf G.1 i :: st) sh hi hl hr :=
  J_objInit (M := (RX0, cc, nL, ret, nm)) wmX0_3 (sv_in 72 (by decide +kernel) (by decide +kernel)) (sv_in 73 (by decide +kernel) (by decide +kernel)) d hR hR2 kk
theorem wmX0_18 : Cond.methodLinkNest RX0 18 yX7_copy "StrangerVotes" ∈ sv_nest := sv_nest_in 441 (by decide +kernel) (by decide +kernel)
theorem caX0_18 {v0 v1 : Value} {rm : Room} {post : svH → svL → svR → Prop} (T : svV l G yX7_copy mX7_copy rm [v0, v1] hi hl hr post) (hrest : (st.map fun v => v.category).sum ≤ 8) (hR : sv_rooms R rm mX7_copy cs sl 0 0) (d : decode cc pc = .ok (.invokestatic 18, 3)) (kk : ∀ (a : svH) (b : svL) (c : svR), post a b c → svJ l G R (RX0, cc, nL, ret, nm) F cs sl (pc + 3) ls st svSH a b c) : svJ l G R (RX0, cc, nL, ret, nm) F cs sl pc ls (v1 :: v0 :: st) svSH hi hl hr :=
  J_callSN (M := (RX0, cc, nL, ret, nm)) (As := [v0, v1]) (n := 2) T calX7_copy "StrangerVotes" wmX0_18 (sv_in 399 (by decide +kernel) (by decide +kernel)) rfl rfl hrest hR d (fun v sh' a b c h => by
    obtain ⟨rfl, rfl, hp⟩ := h
    exact kk a b c hp)
theorem wmX0_22 : Cond.methodLink RX0 22 yX0_mostOf ∈ sv_tbl := (sv_in 513 (by decide +kernel) (by decide +kernel))
theorem caX0_22 {v0 v1 : Value} {rm : Room} {post : Int32 → svH → svL → svR → Prop} (T : svI l G yX0_mostOf mX0_mostOf rm [v0, v1] hi hl hr post) (hrest : (st.map fun v => v.category).sum ≤ 8) (hR : sv_rooms R rm mX0_mostOf cs sl 0 0) (d : decode cc pc = .ok (.invokestatic 22, 3)) (kk : ∀ (r : Int32) (a : svH) (b : svL) (c : svR), post r a b c → svJ l G R (RX0, cc, nL, ret, nm) F cs sl (pc + 3) ls (.int r :: st) svSH a b c) : svJ l G R (RX0, cc, nL, ret, nm) F cs sl pc ls (v1 :: v0 :: st) svSH hi hl hr :=
  J_callS (M := (RX0, cc, nL, ret, nm)) (As := [v0, v1]) (n := 2) T calX0_mostOf wmX0_22 (sv_in 514 (by decide +kernel) (by decide +kernel)) rfl rfl hrest hR d (fun v sh' a b c h => by
    obtain ⟨r, rfl, rfl, hp⟩ := h
    exact kk r a b c hp)
theorem wmX0_39 : Cond.methodLinkNest RX0 39 yX7_bit "StrangerVotes" ∈ sv_nest := sv_nest_in 516 (by decide +kernel) (by decide +kernel)
theorem caX0_39 {v0 v1 : Value} {rm : Room} {post : Int32 → svH → svL → svR → Prop} (T : svI l G yX7_bit mX7_bit rm [v0, v1] hi hl hr post) (hrest : (st.map fun v => v.category).sum ≤ 8) (hR : sv_rooms R rm mX7_bit cs sl 0 0) (d : decode cc pc = .ok (.invokestatic 39, 3)) (kk : ∀ (r : Int32) (a : svH) (b : svL) (c : svR), post r a b c → svJ l G R (RX0, cc, nL, ret, nm) F cs sl (pc + 3) ls (.int r :: st) svSH a b c) : svJ l G R (RX0, cc, nL, ret, nm) F cs sl pc ls (v1 :: v0 :: st) svSH hi hl hr :=
  J_callSN (M := (RX0, cc, nL, ret, nm)) (As := [v0, v1]) (n := 2) T calX7_bit "StrangerVotes" wmX0_39 (sv_in 415 (by decide +kernel) (by decide +kernel)) rfl rfl hrest hR d (fun v sh' a b c h => by
    obtain ⟨r, rfl, rfl, hp⟩ := h
    exact kk r a b c hp)
theorem wmX0_48 : Cond.methodLinkNest RX0 48 yX7_at "StrangerVotes" ∈ sv_nest := sv_nest_in 517 (by decide +kernel) (by decide +kernel)
theorem caX0_48 {v0 v1 : Value} {rm : Room} {post : Int32 → svH → svL → svR → Prop} (T : svI l G yX7_at mX7_at rm [v0, v1] hi hl hr post) (hrest : (st.map fun v => v.category).sum ≤ 8) (hR : sv_rooms R rm mX7_at cs sl 0 0) (d : decode cc pc = .ok (.invokestatic 48, 3)) (kk : ∀ (r : Int32) (a : svH) (b : svL) (c : svR), post r a b c → svJ l G R (RX0, cc, nL, ret, nm) F cs sl (pc + 3) ls (.int r :: st) svSH a b c) : svJ l G R (RX0, cc, nL, ret, nm) F cs sl pc ls (v1 :: v0 :: st) svSH hi hl hr :=
  J_callSN (M := (RX0, cc, nL, ret, nm)) (As := [v0, v1]) (n := 2) T calX7_at "StrangerVotes" wmX0_48 (sv_in 412 (by decide +kernel) (by decide +kernel)) rfl rfl hrest hR d (fun v sh' a b c h => by
    obtain ⟨r, rfl, rfl, hp⟩ := h
    exact kk r a b c hp)
theorem wmX0_51 : Cond.methodLinkNest RX0 51 yX7_raise "StrangerVotes" ∈ sv_nest := sv_nest_in 540 (by decide +kernel) (by decide +kernel)
theorem caX0_51 {v0 v1 v2 : Value} {rm : Room} {post : svH → svL → svR → Prop} (T : svV l G yX7_raise mX7_raise rm [v0, v1, v2] hi hl hr post) (hrest : (st.map fun v => v.category).sum ≤ 8) (hR : sv_rooms R rm mX7_raise cs sl 0 0) (d : decode cc pc = .ok (.invokestatic 51, 3)) (kk : ∀ (a : svH) (b : svL) (c : svR), post a b c → svJ l G R (RX0, cc, nL, ret, nm) F cs sl (pc + 3) ls st svSH a b c) : svJ l G R (RX0, cc, nL, ret, nm) F cs sl pc ls (v2 :: v1 :: v0 :: st) svSH hi hl hr :=
  J_callSN (M := (RX0, cc, nL, ret, nm)) (As := [v0, v1, v2]) (n := 3) T calX7_raise "StrangerVotes" wmX0_51 (sv_in 443 (by decide +kernel) (by decide +kernel)) rfl rfl hrest hR d (fun v sh' a b c h => by
    obtain ⟨rfl, rfl, hp⟩ := h
    exact kk a b c hp)
theorem wmX0_55 : Cond.methodLink RX0 55 Lib.Math.max.name ∈ sv_tbl := (sv_in 518 (by decide +kernel) (by decide +kernel))
theorem maX0_55 {x y : Int32} (hR : 1 ≤ R.frames) (hR2 : (st.map fun v => v.category).sum + 13 ≤ R.locals) (hc : cs ≤ R.cells) (hs1 : sl ≤ R.slots) (d : decode cc pc = .ok (.invokestatic 55, 3)) (kk : svJ l G R (RX0, cc, nL, ret, nm) F cs sl (pc + 3) ls (.int (if x < y then y else x) :: st) sh hi hl hr) : svJ l G R (RX0, cc, nL, ret, nm) F cs sl pc ls (.int y :: .int x :: st) sh hi hl hr :=
  J_mmax (M := (RX0, cc, nL, ret, nm)) wmX0_55 (sv_in 519 (by decide +kernel) (by decide +kernel)) (sv_in 63 (by decide +kernel) (by decide +kernel)) (sv_in 520 (by decide +kernel) (by decide +kernel)) hR hR2 hc hs1 d kk
theorem wmX0_32 : Cond.methodLink RX0 32 yX0_whoIsLeft ∈ sv_tbl := (sv_in 529 (by decide +kernel) (by decide +kernel))
theorem caX0_32 {i : Nat} {v0 v1 : Value} {rm : Room} {post : Int32 → svH → svL → svR → Prop} (T : svI l G yX0_whoIsLeft mX0_whoIsLeft rm (sv_rf G.1 i :: [v0, v1]) hi hl hr post) (hsh : svSH[i]? = some (0, 0)) (hrest : (st.map fun v => v.category).sum ≤ 8) (hR : sv_rooms R rm mX0_whoIsLeft cs sl 0 0) (d : decode cc pc = .ok (.invokevirtual 32, 3)) (kk : ∀ (r : Int32) (a : svH) (b : svL) (c : svR), post r a b c → svJ l G R (RX0, cc, nL, ret, nm) F cs sl (pc + 3) ls (.int r :: st) svSH a b c) : svJ l G R (RX0, cc, nL, ret, nm) F cs sl pc ls (v1 :: v0 :: sv_rf G.1 i :: st) svSH hi hl hr :=
  J_callV (M := (RX0, cc, nL, ret, nm)) (As := [v0, v1]) (n := 2) hsh rfl T calX0_whoIsLeft wmX0_32 (sv_in 510 (by decide +kernel) (by decide +kernel)) (sv_in 511 (by decide +kernel) (by decide +kernel)) rfl rfl hrest hR d (fun v sh' a b c h => by
    obtain ⟨r, rfl, rfl, hp⟩ := h
    exact kk r a b c hp)
theorem wmX0_42 : Cond.methodLink RX0 42 yX6_choiceOf ∈ sv_tbl := (sv_in 530 (by decide +kernel) (by decide +kernel))
theorem caX0_42 {i : Nat} {v0 v1 : Value} {rm : Room} {post : Int32 → svH → svL → svR → Prop} (T : svI l G yX6_choiceOf mX6_choiceOf rm (sv_rf G.1 i :: [v0, v1]) hi hl hr post) (hsh : svSH[i]? = some (0, 6)) (hrest : (st.map fun v => v.category).sum ≤ 8) (hR : sv_rooms R rm mX6_choiceOf cs sl 0 0) (d : decode cc pc = .ok (.invokevirtual 42, 3)) (kk : ∀ (r : Int32) (a : svH) (b : svL) (c : svR), post r a b c → svJ l G R (RX0, cc, nL, ret, nm) F cs sl (pc + 3) ls (.int r :: st) svSH a b c) : svJ l G R (RX0, cc, nL, ret, nm) F cs sl pc ls (v1 :: v0 :: sv_rf G.1 i :: st) svSH hi hl hr :=
  J_callV (M := (RX0, cc, nL, ret, nm)) (As := [v0, v1]) (n := 2) hsh rfl T calX6_choiceOf wmX0_42 (sv_in 531 (by decide +kernel) (by decide +kernel)) (sv_in 532 (by decide +kernel) (by decide +kernel)) rfl rfl hrest hR d (fun v sh' a b c h => by
    obtain ⟨r, rfl, rfl, hp⟩ := h
    exact kk r a b c hp)
theorem fpX0_15 {i x : Nat} (hnm : nm = "<init>") (hsh : sh[i]? = some (0, 0)) (d : decode cc pc = .ok (.putfield 15, 3)) (kk : svJ l G R (RX0, cc, nL, ret, nm) F cs sl (pc + 3) ls st sh hi hl (sv_u2 hr i 1 (some x))) : svJ l G R (RX0, cc, nL, ret, nm) F cs sl pc ls (sv_rf G.1 x :: sv_rf G.1 i :: st) sh hi hl hr :=
  J_putRF (M := (RX0, cc, nL, ret, nm)) (k := 1) inX0 tyX0_ok nmX0 rfl (by decide) rfl rfl wfX0_15 rfl hnm rfl rfl rfl hsh d kk
theorem fpX0_9 {i x : Nat} (hnm : nm = "<init>") (hsh : sh[i]? = some (0, 0)) (d : decode cc pc = .ok (.putfield 9, 3)) (kk : svJ l G R (RX0, cc, nL, ret, nm) F cs sl (pc + 3) ls st sh hi hl (sv_u2 hr i 0 (some x))) : svJ l G R (RX0, cc, nL, ret, nm) F cs sl pc ls (sv_rf G.1 x :: sv_rf G.1 i :: st) sh hi hl hr :=
  J_putRF (M := (RX0, cc, nL, ret, nm)) (k := 0) inX0 tyX0_ok nmX0 rfl (by decide) rfl rfl wfX0_9 rfl hnm rfl rfl rfl hsh d kk
theorem wfX1_15 : Cond.fieldLink RX1 15 (TX1 1).1 (TX1 1).2.1 (TX1 1).2.2.1 ∈ sv_tbl := (sv_in 239 (by decide +kernel) (by decide +kernel))
theorem fgX1_15 {i : Nat} (hsh : sh[i]? = some (0, 1)) (d : decode cc pc = .ok (.getfield 15, 3)) (kk : svJ l G R (RX1, cc, nL, ret, nm) F cs sl (pc + 3) ls (.int (hi i 1) :: st) sh hi hl hr) : svJ l G R (RX1, cc, nL, ret, nm) F cs sl pc ls (sv_rf G.1 i :: st) sh hi hl hr :=
  J_get (M := (RX1, cc, nL, ret, nm)) (k := 1) inX1 rfl (by decide) rfl wfX1_15 hsh d kk
theorem wfX1_18 : Cond.fieldLink RX1 18 (TX1 2).1 (TX1 2).2.1 (TX1 2).2.2.1 ∈ sv_tbl := (sv_in 241 (by decide +kernel) (by decide +kernel))
theorem fgX1_18 {i q : Nat} (hsh : sh[i]? = some (0, 1)) (hv : hr i 2 = some q) (d : decode cc pc = .ok (.getfield 18, 3)) (kk : svJ l G R (RX1, cc, nL, ret, nm) F cs sl (pc + 3) ls (sv_rf G.1 q :: st) sh hi hl hr) : svJ l G R (RX1, cc, nL, ret, nm) F cs sl pc ls (sv_rf G.1 i :: st) sh hi hl hr := by
  refine J_get (M := (RX1, cc, nL, ret, nm)) (k := 2) inX1 rfl (by decide) rfl wfX1_18 hsh d ?_
  show svJ l G R (RX1, cc, nL, ret, nm) F cs sl (pc + 3) ls (sv_rv G.1 (hr i 2) :: st) sh hi hl hr
  rw [sv_rv_some hv]
  exact kk
theorem wfX1_22 : Cond.fieldLink RX1 22 (TX1 3).1 (TX1 3).2.1 (TX1 3).2.2.1 ∈ sv_tbl := (sv_in 242 (by decide +kernel) (by decide +kernel))
theorem fgX1_22 {i q : Nat} (hsh : sh[i]? = some (0, 1)) (hv : hr i 3 = some q) (d : decode cc pc = .ok (.getfield 22, 3)) (kk : svJ l G R (RX1, cc, nL, ret, nm) F cs sl (pc + 3) ls (sv_rf G.1 q :: st) sh hi hl hr) : svJ l G R (RX1, cc, nL, ret, nm) F cs sl pc ls (sv_rf G.1 i :: st) sh hi hl hr := by
  refine J_get (M := (RX1, cc, nL, ret, nm)) (k := 3) inX1 rfl (by decide) rfl wfX1_22 hsh d ?_
  show svJ l G R (RX1, cc, nL, ret, nm) F cs sl (pc + 3) ls (sv_rv G.1 (hr i 3) :: st) sh hi hl hr
  rw [sv_rv_some hv]
  exact kk
theorem wfX1_25 : Cond.fieldLink RX1 25 (TX1 4).1 (TX1 4).2.1 (TX1 4).2.2.1 ∈ sv_tbl := (sv_in 243 (by decide +kernel) (by decide +kernel))
theorem fgX1_25 {i q : Nat} (hsh : sh[i]? = some (0, 1)) (hv : hr i 4 = some q) (d : decode cc pc = .ok (.getfield 25, 3)) (kk : svJ l G R (RX1, cc, nL, ret, nm) F cs sl (pc + 3) ls (sv_rf G.1 q :: st) sh hi hl hr) : svJ l G R (RX1, cc, nL, ret, nm) F cs sl pc ls (sv_rf G.1 i :: st) sh hi hl hr := by
  refine J_get (M := (RX1, cc, nL, ret, nm)) (k := 4) inX1 rfl (by decide) rfl wfX1_25 hsh d ?_
  show svJ l G R (RX1, cc, nL, ret, nm) F cs sl (pc + 3) ls (sv_rv G.1 (hr i 4) :: st) sh hi hl hr
  rw [sv_rv_some hv]
  exact kk
theorem wfX1_9 : Cond.fieldLink RX1 9 (TX1 0).1 (TX1 0).2.1 (TX1 0).2.2.1 ∈ sv_tbl := (sv_in 237 (by decide +kernel) (by decide +kernel))
theorem fgX1_9 {i : Nat} (hsh : sh[i]? = some (0, 1)) (d : decode cc pc = .ok (.getfield 9, 3)) (kk : svJ l G R (RX1, cc, nL, ret, nm) F cs sl (pc + 3) ls (.int (hi i 0) :: st) sh hi hl hr) : svJ l G R (RX1, cc, nL, ret, nm) F cs sl pc ls (sv_rf G.1 i :: st) sh hi hl hr :=
  J_get (M := (RX1, cc, nL, ret, nm)) (k := 0) inX1 rfl (by decide) rfl wfX1_9 hsh d kk
theorem wmX1_3 : Cond.methodLink RX1 3 Lib.objectInit ∈ sv_tbl := (sv_in 236 (by decide +kernel) (by decide +kernel))
theorem obX1_3 {i : Nat} (d : decode cc pc = .ok (.invokespecial 3, 3)) (hR : 1 ≤ R.frames) (hR2 : (st.map fun v => v.category).sum + 12 ≤ R.locals) (kk : svJ l G R (RX1, cc, nL, ret, nm) F cs sl (pc + 3) ls st sh hi hl hr) : svJ l G R (RX1, cc, nL, ret, nm) F cs sl pc ls (sv_rf G.1 i :: st) sh hi hl hr :=
  J_objInit (M := (RX1, cc, nL, ret, nm)) wmX1_3 (sv_in 72 (by decide +kernel) (by decide +kernel)) (sv_in 73 (by decide +kernel) (by decide +kernel)) d hR hR2 kk
theorem wmX1_28 : Cond.methodLinkNest RX1 28 yX7_set "StrangerVotes" ∈ sv_nest := sv_nest_in 576 (by decide +kernel) (by decide +kernel)
theorem caX1_28 {v0 v1 v2 : Value} {rm : Room} {post : svH → svL → svR → Prop} (T : svV l G yX7_set mX7_set rm [v0, v1, v2] hi hl hr post) (hrest : (st.map fun v => v.category).sum ≤ 8) (hR : sv_rooms R rm mX7_set cs sl 0 0) (d : decode cc pc = .ok (.invokestatic 28, 3)) (kk : ∀ (a : svH) (b : svL) (c : svR), post a b c → svJ l G R (RX1, cc, nL, ret, nm) F cs sl (pc + 3) ls st svSH a b c) : svJ l G R (RX1, cc, nL, ret, nm) F cs sl pc ls (v2 :: v1 :: v0 :: st) svSH hi hl hr :=
  J_callSN (M := (RX1, cc, nL, ret, nm)) (As := [v0, v1, v2]) (n := 3) T calX7_set "StrangerVotes" wmX1_28 (sv_in 384 (by decide +kernel) (by decide +kernel)) rfl rfl hrest hR d (fun v sh' a b c h => by
    obtain ⟨rfl, rfl, hp⟩ := h
    exact kk a b c hp)
theorem wmX1_36 : Cond.methodLinkNest RX1 36 yX7_at "StrangerVotes" ∈ sv_nest := sv_nest_in 593 (by decide +kernel) (by decide +kernel)
theorem caX1_36 {v0 v1 : Value} {rm : Room} {post : Int32 → svH → svL → svR → Prop} (T : svI l G yX7_at mX7_at rm [v0, v1] hi hl hr post) (hrest : (st.map fun v => v.category).sum ≤ 8) (hR : sv_rooms R rm mX7_at cs sl 0 0) (d : decode cc pc = .ok (.invokestatic 36, 3)) (kk : ∀ (r : Int32) (a : svH) (b : svL) (c : svR), post r a b c → svJ l G R (RX1, cc, nL, ret, nm) F cs sl (pc + 3) ls (.int r :: st) svSH a b c) : svJ l G R (RX1, cc, nL, ret, nm) F cs sl pc ls (v1 :: v0 :: st) svSH hi hl hr :=
  J_callSN (M := (RX1, cc, nL, ret, nm)) (As := [v0, v1]) (n := 2) T calX7_at "StrangerVotes" wmX1_36 (sv_in 412 (by decide +kernel) (by decide +kernel)) rfl rfl hrest hR d (fun v sh' a b c h => by
    obtain ⟨r, rfl, rfl, hp⟩ := h
    exact kk r a b c hp)
theorem wmX1_44 : Cond.methodLink RX1 44 Lib.Math.max.name ∈ sv_tbl := (sv_in 614 (by decide +kernel) (by decide +kernel))
theorem maX1_44 {x y : Int32} (hR : 1 ≤ R.frames) (hR2 : (st.map fun v => v.category).sum + 13 ≤ R.locals) (hc : cs ≤ R.cells) (hs1 : sl ≤ R.slots) (d : decode cc pc = .ok (.invokestatic 44, 3)) (kk : svJ l G R (RX1, cc, nL, ret, nm) F cs sl (pc + 3) ls (.int (if x < y then y else x) :: st) sh hi hl hr) : svJ l G R (RX1, cc, nL, ret, nm) F cs sl pc ls (.int y :: .int x :: st) sh hi hl hr :=
  J_mmax (M := (RX1, cc, nL, ret, nm)) wmX1_44 (sv_in 519 (by decide +kernel) (by decide +kernel)) (sv_in 63 (by decide +kernel) (by decide +kernel)) (sv_in 520 (by decide +kernel) (by decide +kernel)) hR hR2 hc hs1 d kk
theorem wmX1_49 : Cond.methodLink RX1 49 yX1_choice ∈ sv_tbl := (sv_in 594 (by decide +kernel) (by decide +kernel))
theorem caX1_49 {v0 v1 v2 v3 : Value} {rm : Room} {post : Int32 → svH → svL → svR → Prop} (T : svI l G yX1_choice mX1_choice rm [v0, v1, v2, v3] hi hl hr post) (hrest : (st.map fun v => v.category).sum ≤ 8) (hR : sv_rooms R rm mX1_choice cs sl 0 0) (d : decode cc pc = .ok (.invokestatic 49, 3)) (kk : ∀ (r : Int32) (a : svH) (b : svL) (c : svR), post r a b c → svJ l G R (RX1, cc, nL, ret, nm) F cs sl (pc + 3) ls (.int r :: st) svSH a b c) : svJ l G R (RX1, cc, nL, ret, nm) F cs sl pc ls (v3 :: v2 :: v1 :: v0 :: st) svSH hi hl hr :=
  J_callS (M := (RX1, cc, nL, ret, nm)) (As := [v0, v1, v2, v3]) (n := 4) T calX1_choice wmX1_49 (sv_in 595 (by decide +kernel) (by decide +kernel)) rfl rfl hrest hR d (fun v sh' a b c h => by
    obtain ⟨r, rfl, rfl, hp⟩ := h
    exact kk r a b c hp)
theorem wmX1_53 : Cond.methodLink RX1 53 Lib.Math.min.name ∈ sv_tbl := (sv_in 597 (by decide +kernel) (by decide +kernel))
theorem maX1_53 {x y : Int32} (hR : 1 ≤ R.frames) (hR2 : (st.map fun v => v.category).sum + 13 ≤ R.locals) (hc : cs ≤ R.cells) (hs1 : sl ≤ R.slots) (d : decode cc pc = .ok (.invokestatic 53, 3)) (kk : svJ l G R (RX1, cc, nL, ret, nm) F cs sl (pc + 3) ls (.int (if y < x then y else x) :: st) sh hi hl hr) : svJ l G R (RX1, cc, nL, ret, nm) F cs sl pc ls (.int y :: .int x :: st) sh hi hl hr :=
  J_mmin (M := (RX1, cc, nL, ret, nm)) wmX1_53 (sv_in 402 (by decide +kernel) (by decide +kernel)) (sv_in 63 (by decide +kernel) (by decide +kernel)) (sv_in 403 (by decide +kernel) (by decide +kernel)) hR hR2 hc hs1 d kk
theorem wmX1_32 : Cond.methodLink RX1 32 yX1_isSo ∈ sv_tbl := (sv_in 589 (by decide +kernel) (by decide +kernel))
theorem caX1_32 {i : Nat} {v0 v1 : Value} {rm : Room} {post : Int32 → svH → svL → svR → Prop} (T : svI l G yX1_isSo mX1_isSo rm (sv_rf G.1 i :: [v0, v1]) hi hl hr post) (hsh : svSH[i]? = some (0, 1)) (hrest : (st.map fun v => v.category).sum ≤ 8) (hR : sv_rooms R rm mX1_isSo cs sl 0 0) (d : decode cc pc = .ok (.invokevirtual 32, 3)) (kk : ∀ (r : Int32) (a : svH) (b : svL) (c : svR), post r a b c → svJ l G R (RX1, cc, nL, ret, nm) F cs sl (pc + 3) ls (.int r :: st) svSH a b c) : svJ l G R (RX1, cc, nL, ret, nm) F cs sl pc ls (v1 :: v0 :: sv_rf G.1 i :: st) svSH hi hl hr :=
  J_callV (M := (RX1, cc, nL, ret, nm)) (As := [v0, v1]) (n := 2) hsh rfl T calX1_isSo wmX1_32 (sv_in 591 (by decide +kernel) (by decide +kernel)) (sv_in 19 (by decide +kernel) (by decide +kernel)) rfl rfl hrest hR d (fun v sh' a b c h => by
    obtain ⟨r, rfl, rfl, hp⟩ := h
    exact kk r a b c hp)
theorem wmX1_40 : Cond.methodLink RX1 40 yX1_countFor ∈ sv_tbl := (sv_in 610 (by decide +kernel) (by decide +kernel))
theorem caX1_40 {i : Nat} {v0 v1 : Value} {rm : Room} {post : Int32 → svH → svL → svR → Prop} (T : svI l G yX1_countFor mX1_countFor rm (sv_rf G.1 i :: [v0, v1]) hi hl hr post) (hsh : svSH[i]? = some (0, 1)) (hrest : (st.map fun v => v.category).sum ≤ 8) (hR : sv_rooms R rm mX1_countFor cs sl 0 0) (d : decode cc pc = .ok (.invokevirtual 40, 3)) (kk : ∀ (r : Int32) (a : svH) (b : svL) (c : svR), post r a b c → svJ l G R (RX1, cc, nL, ret, nm) F cs sl (pc + 3) ls (.int r :: st) svSH a b c) : svJ l G R (RX1, cc, nL, ret, nm) F cs sl pc ls (v1 :: v0 :: sv_rf G.1 i :: st) svSH hi hl hr :=
  J_callV (M := (RX1, cc, nL, ret, nm)) (As := [v0, v1]) (n := 2) hsh rfl T calX1_countFor wmX1_40 (sv_in 612 (by decide +kernel) (by decide +kernel)) (sv_in 20 (by decide +kernel) (by decide +kernel)) rfl rfl hrest hR d (fun v sh' a b c h => by
    obtain ⟨r, rfl, rfl, hp⟩ := h
    exact kk r a b c hp)
theorem fpX1_15 {i : Nat} {x : Int32} (hsh : sh[i]? = some (0, 1)) (d : decode cc pc = .ok (.putfield 15, 3)) (kk : svJ l G R (RX1, cc, nL, ret, nm) F cs sl (pc + 3) ls st sh (sv_u2 hi i 1 x) hl hr) : svJ l G R (RX1, cc, nL, ret, nm) F cs sl pc ls (.int x :: sv_rf G.1 i :: st) sh hi hl hr :=
  J_putI (M := (RX1, cc, nL, ret, nm)) (k := 1) inX1 tyX1_ok nmX1 rfl (by decide) rfl rfl wfX1_15 rfl rfl rfl hsh d kk
theorem fpX1_18 {i x : Nat} (hnm : nm = "<init>") (hsh : sh[i]? = some (0, 1)) (d : decode cc pc = .ok (.putfield 18, 3)) (kk : svJ l G R (RX1, cc, nL, ret, nm) F cs sl (pc + 3) ls st sh hi hl (sv_u2 hr i 2 (some x))) : svJ l G R (RX1, cc, nL, ret, nm) F cs sl pc ls (sv_rf G.1 x :: sv_rf G.1 i :: st) sh hi hl hr :=
  J_putRF (M := (RX1, cc, nL, ret, nm)) (k := 2) inX1 tyX1_ok nmX1 rfl (by decide) rfl rfl wfX1_18 rfl hnm rfl rfl rfl hsh d kk
theorem fpX1_22 {i x : Nat} (hnm : nm = "<init>") (hsh : sh[i]? = some (0, 1)) (d : decode cc pc = .ok (.putfield 22, 3)) (kk : svJ l G R (RX1, cc, nL, ret, nm) F cs sl (pc + 3) ls st sh hi hl (sv_u2 hr i 3 (some x))) : svJ l G R (RX1, cc, nL, ret, nm) F cs sl pc ls (sv_rf G.1 x :: sv_rf G.1 i :: st) sh hi hl hr :=
  J_putRF (M := (RX1, cc, nL, ret, nm)) (k := 3) inX1 tyX1_ok nmX1 rfl (by decide) rfl rfl wfX1_22 rfl hnm rfl rfl rfl hsh d kk
theorem fpX1_25 {i x : Nat} (hnm : nm = "<init>") (hsh : sh[i]? = some (0, 1)) (d : decode cc pc = .ok (.putfield 25, 3)) (kk : svJ l G R (RX1, cc, nL, ret, nm) F cs sl (pc + 3) ls st sh hi hl (sv_u2 hr i 4 (some x))) : svJ l G R (RX1, cc, nL, ret, nm) F cs sl pc ls (sv_rf G.1 x :: sv_rf G.1 i :: st) sh hi hl hr :=
  J_putRF (M := (RX1, cc, nL, ret, nm)) (k := 4) inX1 tyX1_ok nmX1 rfl (by decide) rfl rfl wfX1_25 rfl hnm rfl rfl rfl hsh d kk
theorem fpX1_9 {i : Nat} {x : Int32} (hsh : sh[i]? = some (0, 1)) (d : decode cc pc = .ok (.putfield 9, 3)) (kk : svJ l G R (RX1, cc, nL, ret, nm) F cs sl (pc + 3) ls st sh (sv_u2 hi i 0 x) hl hr) : svJ l G R (RX1, cc, nL, ret, nm) F cs sl pc ls (.int x :: sv_rf G.1 i :: st) sh hi hl hr :=
  J_putI (M := (RX1, cc, nL, ret, nm)) (k := 0) inX1 tyX1_ok nmX1 rfl (by decide) rfl rfl wfX1_9 rfl rfl rfl hsh d kk
theorem wmX2_1 : Cond.methodLink RX2 1 Lib.objectInit ∈ sv_tbl := (sv_in 260 (by decide +kernel) (by decide +kernel))
theorem obX2_1 {i : Nat} (d : decode cc pc = .ok (.invokespecial 1, 3)) (hR : 1 ≤ R.frames) (hR2 : (st.map fun v => v.category).sum + 12 ≤ R.locals) (kk : svJ l G R (RX2, cc, nL, ret, nm) F cs sl (pc + 3) ls st sh hi hl hr) : svJ l G R (RX2, cc, nL, ret, nm) F cs sl pc ls (sv_rf G.1 i :: st) sh hi hl hr :=
  J_objInit (M := (RX2, cc, nL, ret, nm)) wmX2_1 (sv_in 72 (by decide +kernel) (by decide +kernel)) (sv_in 73 (by decide +kernel) (by decide +kernel)) d hR hR2 kk
theorem wmX2_15 : Cond.methodLinkNest RX2 15 yX3_init "StrangerVotes" ∈ sv_nest := sv_nest_in 262 (by decide +kernel) (by decide +kernel)
theorem caX2_15 {i mc ms : Nat} {rm : Room} {post : svQ} (T : svT l G yX3_init mX3_init rm mc ms (sv_rf G.1 i :: []) sh hi hl hr post) (hrest : (st.map fun v => v.category).sum ≤ 8) (hR : sv_rooms R rm mX3_init cs sl mc ms) (d : decode cc pc = .ok (.invokespecial 15, 3)) (kk : ∀ (v : Option Value) (sh' : svS) (a : svH) (b : svL) (c : svR), post v sh' a b c → svJ l G R (RX2, cc, nL, ret, nm) F (cs + mc) (sl + ms) (pc + 3) ls (v.toList ++ st) sh' a b c) : svJ l G R (RX2, cc, nL, ret, nm) F cs sl pc ls (sv_rf G.1 i :: st) sh hi hl hr :=
  J_callIN (M := (RX2, cc, nL, ret, nm)) (As := []) (n := 0) T calX3_init rfl "StrangerVotes" wmX2_15 (sv_in 164 (by decide +kernel) (by decide +kernel)) rfl rfl rfl hrest hR d kk
theorem wmX2_22 : Cond.methodLink RX2 22 yX4_init ∈ sv_tbl := (sv_in 264 (by decide +kernel) (by decide +kernel))
theorem caX2_22 {i mc ms : Nat} {rm : Room} {post : svQ} (T : svT l G yX4_init mX4_init rm mc ms (sv_rf G.1 i :: []) sh hi hl hr post) (hrest : (st.map fun v => v.category).sum ≤ 8) (hR : sv_rooms R rm mX4_init cs sl mc ms) (d : decode cc pc = .ok (.invokespecial 22, 3)) (kk : ∀ (v : Option Value) (sh' : svS) (a : svH) (b : svL) (c : svR), post v sh' a b c → svJ l G R (RX2, cc, nL, ret, nm) F (cs + mc) (sl + ms) (pc + 3) ls (v.toList ++ st) sh' a b c) : svJ l G R (RX2, cc, nL, ret, nm) F cs sl pc ls (sv_rf G.1 i :: st) sh hi hl hr :=
  J_callI (M := (RX2, cc, nL, ret, nm)) (As := []) (n := 0) T calX4_init rfl wmX2_22 (sv_in 203 (by decide +kernel) (by decide +kernel)) rfl rfl rfl hrest hR d kk
theorem wcX2_13 : Cond.classLink RX2 13 RX3 ∈ sv_tbl := (sv_in 261 (by decide +kernel) (by decide +kernel))
theorem nwX2_13 (hR1 : cs + 1 ≤ R.cells) (hR2 : sl + 8 ≤ R.slots) (d : decode cc pc = .ok (.new 13, 3)) (kk : svJ l G R (RX2, cc, nL, ret, nm) F (cs + 1) (sl + 8) (pc + 3) ls (sv_rf G.1 sh.length :: st) (sh ++ [(0, 3)]) (sv_z hi sh.length 0) (sv_z hl sh.length 0) (sv_z hr sh.length none)) : svJ l G R (RX2, cc, nL, ret, nm) F cs sl pc ls st sh hi hl hr :=
  J_newo (M := (RX2, cc, nL, ret, nm)) (ci := 3) (N := 8) inX3 tyX3_ok rfl rfl (fun j hj b => by
    have : j = 0 ∨ j = 1 ∨ j = 2 ∨ j = 3 ∨ j = 4 ∨ j = 5 ∨ j = 6 ∨ j = 7 := by omega
    rcases this with rfl | rfl | rfl | rfl | rfl | rfl | rfl | rfl <;> first | rfl | simp [tyX3, defaultValue, vp_V, sv_fs, sv_fk, sv_fv, sv_z, sv_rv, va_rf]) wcX2_13 (sv_in 162 (by decide +kernel) (by decide +kernel)) (sv_in 57 (by decide +kernel) (by decide +kernel)) hR1 hR2 d kk
theorem wcX2_20 : Cond.classLink RX2 20 RX4 ∈ sv_tbl := (sv_in 263 (by decide +kernel) (by decide +kernel))
theorem nwX2_20 (hR1 : cs + 1 ≤ R.cells) (hR2 : sl + 2 ≤ R.slots) (d : decode cc pc = .ok (.new 20, 3)) (kk : svJ l G R (RX2, cc, nL, ret, nm) F (cs + 1) (sl + 2) (pc + 3) ls (sv_rf G.1 sh.length :: st) (sh ++ [(0, 4)]) (sv_z hi sh.length 0) (sv_z hl sh.length 0) (sv_z hr sh.length none)) : svJ l G R (RX2, cc, nL, ret, nm) F cs sl pc ls st sh hi hl hr :=
  J_newo (M := (RX2, cc, nL, ret, nm)) (ci := 4) (N := 2) inX4 tyX4_ok rfl rfl (fun j hj b => by
    have : j = 0 ∨ j = 1 := by omega
    rcases this with rfl | rfl <;> first | rfl | simp [tyX4, defaultValue, vp_V, sv_fs, sv_fk, sv_fv, sv_z, sv_rv, va_rf]) wcX2_20 (sv_in 201 (by decide +kernel) (by decide +kernel)) (sv_in 58 (by decide +kernel) (by decide +kernel)) hR1 hR2 d kk
theorem wfX2_16 : Cond.fieldLink RX2 16 (TX2 1).1 (TX2 1).2.1 (TX2 1).2.2.1 ∈ sv_tbl := (sv_in 267 (by decide +kernel) (by decide +kernel))
theorem fpX2_16 {i x : Nat} (hnm : nm = "<init>") (hsh : sh[i]? = some (0, 2)) (d : decode cc pc = .ok (.putfield 16, 3)) (kk : svJ l G R (RX2, cc, nL, ret, nm) F cs sl (pc + 3) ls st sh hi hl (sv_u2 hr i 1 (some x))) : svJ l G R (RX2, cc, nL, ret, nm) F cs sl pc ls (sv_rf G.1 x :: sv_rf G.1 i :: st) sh hi hl hr :=
  J_putRF (M := (RX2, cc, nL, ret, nm)) (k := 1) inX2 tyX2_ok nmX2 rfl (by decide) rfl rfl wfX2_16 rfl hnm rfl rfl rfl hsh d kk
theorem wfX2_23 : Cond.fieldLink RX2 23 (TX2 2).1 (TX2 2).2.1 (TX2 2).2.2.1 ∈ sv_tbl := (sv_in 269 (by decide +kernel) (by decide +kernel))
theorem fpX2_23 {i x : Nat} (hnm : nm = "<init>") (hsh : sh[i]? = some (0, 2)) (d : decode cc pc = .ok (.putfield 23, 3)) (kk : svJ l G R (RX2, cc, nL, ret, nm) F cs sl (pc + 3) ls st sh hi hl (sv_u2 hr i 2 (some x))) : svJ l G R (RX2, cc, nL, ret, nm) F cs sl pc ls (sv_rf G.1 x :: sv_rf G.1 i :: st) sh hi hl hr :=
  J_putRF (M := (RX2, cc, nL, ret, nm)) (k := 2) inX2 tyX2_ok nmX2 rfl (by decide) rfl rfl wfX2_23 rfl hnm rfl rfl rfl hsh d kk
theorem wfX2_7 : Cond.fieldLink RX2 7 (TX2 0).1 (TX2 0).2.1 (TX2 0).2.2.1 ∈ sv_tbl := (sv_in 265 (by decide +kernel) (by decide +kernel))
theorem fpX2_7 {i : Nat} {x : Int32} (hx : x = 0 ∨ x = 1) (hsh : sh[i]? = some (0, 2)) (d : decode cc pc = .ok (.putfield 7, 3)) (kk : svJ l G R (RX2, cc, nL, ret, nm) F cs sl (pc + 3) ls st sh (sv_u2 hi i 0 x) hl hr) : svJ l G R (RX2, cc, nL, ret, nm) F cs sl pc ls (.int x :: sv_rf G.1 i :: st) sh hi hl hr :=
  J_putI (M := (RX2, cc, nL, ret, nm)) (k := 0) inX2 tyX2_ok nmX2 rfl (by decide) rfl rfl wfX2_7 rfl (by rcases hx with rfl | rfl <;> rfl) (by rcases hx with rfl | rfl <;> rfl) hsh d kk
theorem wfX3_15 : Cond.fieldLink RX3 15 (TX3 1).1 (TX3 1).2.1 (TX3 1).2.2.1 ∈ sv_tbl := (sv_in 169 (by decide +kernel) (by decide +kernel))
theorem fgX3_15 {i : Nat} (hsh : sh[i]? = some (0, 3)) (d : decode cc pc = .ok (.getfield 15, 3)) (kk : svJ l G R (RX3, cc, nL, ret, nm) F cs sl (pc + 3) ls (.int (hi i 1) :: st) sh hi hl hr) : svJ l G R (RX3, cc, nL, ret, nm) F cs sl pc ls (sv_rf G.1 i :: st) sh hi hl hr :=
  J_get (M := (RX3, cc, nL, ret, nm)) (k := 1) inX3 rfl (by decide) rfl wfX3_15 hsh d kk
theorem wfX3_18 : Cond.fieldLink RX3 18 (TX3 2).1 (TX3 2).2.1 (TX3 2).2.2.1 ∈ sv_tbl := (sv_in 171 (by decide +kernel) (by decide +kernel))
theorem fgX3_18 {i : Nat} (hsh : sh[i]? = some (0, 3)) (d : decode cc pc = .ok (.getfield 18, 3)) (kk : svJ l G R (RX3, cc, nL, ret, nm) F cs sl (pc + 3) ls (.int (hi i 2) :: st) sh hi hl hr) : svJ l G R (RX3, cc, nL, ret, nm) F cs sl pc ls (sv_rf G.1 i :: st) sh hi hl hr :=
  J_get (M := (RX3, cc, nL, ret, nm)) (k := 2) inX3 rfl (by decide) rfl wfX3_18 hsh d kk
theorem wfX3_21 : Cond.fieldLink RX3 21 (TX3 3).1 (TX3 3).2.1 (TX3 3).2.2.1 ∈ sv_tbl := (sv_in 173 (by decide +kernel) (by decide +kernel))
theorem fgX3_21 {i : Nat} (hsh : sh[i]? = some (0, 3)) (d : decode cc pc = .ok (.getfield 21, 3)) (kk : svJ l G R (RX3, cc, nL, ret, nm) F cs sl (pc + 3) ls (.int (hi i 3) :: st) sh hi hl hr) : svJ l G R (RX3, cc, nL, ret, nm) F cs sl pc ls (sv_rf G.1 i :: st) sh hi hl hr :=
  J_get (M := (RX3, cc, nL, ret, nm)) (k := 3) inX3 rfl (by decide) rfl wfX3_21 hsh d kk
theorem wfX3_24 : Cond.fieldLink RX3 24 (TX3 4).1 (TX3 4).2.1 (TX3 4).2.2.1 ∈ sv_tbl := (sv_in 175 (by decide +kernel) (by decide +kernel))
theorem fgX3_24 {i : Nat} (hsh : sh[i]? = some (0, 3)) (d : decode cc pc = .ok (.getfield 24, 3)) (kk : svJ l G R (RX3, cc, nL, ret, nm) F cs sl (pc + 3) ls (.int (hi i 4) :: st) sh hi hl hr) : svJ l G R (RX3, cc, nL, ret, nm) F cs sl pc ls (sv_rf G.1 i :: st) sh hi hl hr :=
  J_get (M := (RX3, cc, nL, ret, nm)) (k := 4) inX3 rfl (by decide) rfl wfX3_24 hsh d kk
theorem wfX3_27 : Cond.fieldLink RX3 27 (TX3 5).1 (TX3 5).2.1 (TX3 5).2.2.1 ∈ sv_tbl := (sv_in 177 (by decide +kernel) (by decide +kernel))
theorem fgX3_27 {i q : Nat} (hsh : sh[i]? = some (0, 3)) (hv : hr i 5 = some q) (d : decode cc pc = .ok (.getfield 27, 3)) (kk : svJ l G R (RX3, cc, nL, ret, nm) F cs sl (pc + 3) ls (sv_rf G.1 q :: st) sh hi hl hr) : svJ l G R (RX3, cc, nL, ret, nm) F cs sl pc ls (sv_rf G.1 i :: st) sh hi hl hr := by
  refine J_get (M := (RX3, cc, nL, ret, nm)) (k := 5) inX3 rfl (by decide) rfl wfX3_27 hsh d ?_
  show svJ l G R (RX3, cc, nL, ret, nm) F cs sl (pc + 3) ls (sv_rv G.1 (hr i 5) :: st) sh hi hl hr
  rw [sv_rv_some hv]
  exact kk
theorem wfX3_31 : Cond.fieldLink RX3 31 (TX3 6).1 (TX3 6).2.1 (TX3 6).2.2.1 ∈ sv_tbl := (sv_in 179 (by decide +kernel) (by decide +kernel))
theorem fgX3_31 {i q : Nat} (hsh : sh[i]? = some (0, 3)) (hv : hr i 6 = some q) (d : decode cc pc = .ok (.getfield 31, 3)) (kk : svJ l G R (RX3, cc, nL, ret, nm) F cs sl (pc + 3) ls (sv_rf G.1 q :: st) sh hi hl hr) : svJ l G R (RX3, cc, nL, ret, nm) F cs sl pc ls (sv_rf G.1 i :: st) sh hi hl hr := by
  refine J_get (M := (RX3, cc, nL, ret, nm)) (k := 6) inX3 rfl (by decide) rfl wfX3_31 hsh d ?_
  show svJ l G R (RX3, cc, nL, ret, nm) F cs sl (pc + 3) ls (sv_rv G.1 (hr i 6) :: st) sh hi hl hr
  rw [sv_rv_some hv]
  exact kk
theorem wfX3_34 : Cond.fieldLink RX3 34 (TX3 7).1 (TX3 7).2.1 (TX3 7).2.2.1 ∈ sv_tbl := (sv_in 181 (by decide +kernel) (by decide +kernel))
theorem fgX3_34 {i q : Nat} (hsh : sh[i]? = some (0, 3)) (hv : hr i 7 = some q) (d : decode cc pc = .ok (.getfield 34, 3)) (kk : svJ l G R (RX3, cc, nL, ret, nm) F cs sl (pc + 3) ls (sv_rf G.1 q :: st) sh hi hl hr) : svJ l G R (RX3, cc, nL, ret, nm) F cs sl pc ls (sv_rf G.1 i :: st) sh hi hl hr := by
  refine J_get (M := (RX3, cc, nL, ret, nm)) (k := 7) inX3 rfl (by decide) rfl wfX3_34 hsh d ?_
  show svJ l G R (RX3, cc, nL, ret, nm) F cs sl (pc + 3) ls (sv_rv G.1 (hr i 7) :: st) sh hi hl hr
  rw [sv_rv_some hv]
  exact kk
theorem wfX3_37 : Cond.fieldLink RX3 37 (TX6 2).1 (TX6 2).2.1 (TX6 2).2.2.1 ∈ sv_tbl := (sv_in 88 (by decide +kernel) (by decide +kernel))
theorem fgX3_37 {i : Nat} (hsh : sh[i]? = some (0, 6)) (d : decode cc pc = .ok (.getfield 37, 3)) (kk : svJ l G R (RX3, cc, nL, ret, nm) F cs sl (pc + 3) ls (.int (hi i 2) :: st) sh hi hl hr) : svJ l G R (RX3, cc, nL, ret, nm) F cs sl pc ls (sv_rf G.1 i :: st) sh hi hl hr :=
  J_get (M := (RX3, cc, nL, ret, nm)) (k := 2) inX6 rfl (by decide) rfl wfX3_37 hsh d kk
theorem wfX3_40 : Cond.fieldLink RX3 40 (TX6 5).1 (TX6 5).2.1 (TX6 5).2.2.1 ∈ sv_tbl := (sv_in 98 (by decide +kernel) (by decide +kernel))
theorem fgX3_40 {i q : Nat} (hsh : sh[i]? = some (0, 6)) (hv : hr i 5 = some q) (d : decode cc pc = .ok (.getfield 40, 3)) (kk : svJ l G R (RX3, cc, nL, ret, nm) F cs sl (pc + 3) ls (sv_rf G.1 q :: st) sh hi hl hr) : svJ l G R (RX3, cc, nL, ret, nm) F cs sl pc ls (sv_rf G.1 i :: st) sh hi hl hr := by
  refine J_get (M := (RX3, cc, nL, ret, nm)) (k := 5) inX6 rfl (by decide) rfl wfX3_40 hsh d ?_
  show svJ l G R (RX3, cc, nL, ret, nm) F cs sl (pc + 3) ls (sv_rv G.1 (hr i 5) :: st) sh hi hl hr
  rw [sv_rv_some hv]
  exact kk
theorem wfX3_45 : Cond.fieldLink RX3 45 (TX6 7).1 (TX6 7).2.1 (TX6 7).2.2.1 ∈ sv_tbl := (sv_in 102 (by decide +kernel) (by decide +kernel))
theorem fgX3_45 {i q : Nat} (hsh : sh[i]? = some (0, 6)) (hv : hr i 7 = some q) (d : decode cc pc = .ok (.getfield 45, 3)) (kk : svJ l G R (RX3, cc, nL, ret, nm) F cs sl (pc + 3) ls (sv_rf G.1 q :: st) sh hi hl hr) : svJ l G R (RX3, cc, nL, ret, nm) F cs sl pc ls (sv_rf G.1 i :: st) sh hi hl hr := by
  refine J_get (M := (RX3, cc, nL, ret, nm)) (k := 7) inX6 rfl (by decide) rfl wfX3_45 hsh d ?_
  show svJ l G R (RX3, cc, nL, ret, nm) F cs sl (pc + 3) ls (sv_rv G.1 (hr i 7) :: st) sh hi hl hr
  rw [sv_rv_some hv]
  exact kk
theorem wfX3_9 : Cond.fieldLink RX3 9 (TX3 0).1 (TX3 0).2.1 (TX3 0).2.2.1 ∈ sv_tbl := (sv_in 167 (by decide +kernel) (by decide +kernel))
theorem fgX3_9 {i : Nat} (hsh : sh[i]? = some (0, 3)) (d : decode cc pc = .ok (.getfield 9, 3)) (kk : svJ l G R (RX3, cc, nL, ret, nm) F cs sl (pc + 3) ls (.int (hi i 0) :: st) sh hi hl hr) : svJ l G R (RX3, cc, nL, ret, nm) F cs sl pc ls (sv_rf G.1 i :: st) sh hi hl hr :=
  J_get (M := (RX3, cc, nL, ret, nm)) (k := 0) inX3 rfl (by decide) rfl wfX3_9 hsh d kk
theorem wmX3_3 : Cond.methodLink RX3 3 Lib.objectInit ∈ sv_tbl := (sv_in 166 (by decide +kernel) (by decide +kernel))
theorem obX3_3 {i : Nat} (d : decode cc pc = .ok (.invokespecial 3, 3)) (hR : 1 ≤ R.frames) (hR2 : (st.map fun v => v.category).sum + 12 ≤ R.locals) (kk : svJ l G R (RX3, cc, nL, ret, nm) F cs sl (pc + 3) ls st sh hi hl hr) : svJ l G R (RX3, cc, nL, ret, nm) F cs sl pc ls (sv_rf G.1 i :: st) sh hi hl hr :=
  J_objInit (M := (RX3, cc, nL, ret, nm)) wmX3_3 (sv_in 72 (by decide +kernel) (by decide +kernel)) (sv_in 73 (by decide +kernel) (by decide +kernel)) d hR hR2 kk
theorem wmX3_41 : Cond.methodLinkNest RX3 41 yX7_copy "StrangerVotes" ∈ sv_nest := sv_nest_in 398 (by decide +kernel) (by decide +kernel)
theorem caX3_41 {v0 v1 : Value} {rm : Room} {post : svH → svL → svR → Prop} (T : svV l G yX7_copy mX7_copy rm [v0, v1] hi hl hr post) (hrest : (st.map fun v => v.category).sum ≤ 8) (hR : sv_rooms R rm mX7_copy cs sl 0 0) (d : decode cc pc = .ok (.invokestatic 41, 3)) (kk : ∀ (a : svH) (b : svL) (c : svR), post a b c → svJ l G R (RX3, cc, nL, ret, nm) F cs sl (pc + 3) ls st svSH a b c) : svJ l G R (RX3, cc, nL, ret, nm) F cs sl pc ls (v1 :: v0 :: st) svSH hi hl hr :=
  J_callSN (M := (RX3, cc, nL, ret, nm)) (As := [v0, v1]) (n := 2) T calX7_copy "StrangerVotes" wmX3_41 (sv_in 399 (by decide +kernel) (by decide +kernel)) rfl rfl hrest hR d (fun v sh' a b c h => by
    obtain ⟨rfl, rfl, hp⟩ := h
    exact kk a b c hp)
theorem fpX3_15 {i : Nat} {x : Int32} (hsh : sh[i]? = some (0, 3)) (d : decode cc pc = .ok (.putfield 15, 3)) (kk : svJ l G R (RX3, cc, nL, ret, nm) F cs sl (pc + 3) ls st sh (sv_u2 hi i 1 x) hl hr) : svJ l G R (RX3, cc, nL, ret, nm) F cs sl pc ls (.int x :: sv_rf G.1 i :: st) sh hi hl hr :=
  J_putI (M := (RX3, cc, nL, ret, nm)) (k := 1) inX3 tyX3_ok nmX3 rfl (by decide) rfl rfl wfX3_15 rfl rfl rfl hsh d kk
theorem fpX3_18 {i : Nat} {x : Int32} (hsh : sh[i]? = some (0, 3)) (d : decode cc pc = .ok (.putfield 18, 3)) (kk : svJ l G R (RX3, cc, nL, ret, nm) F cs sl (pc + 3) ls st sh (sv_u2 hi i 2 x) hl hr) : svJ l G R (RX3, cc, nL, ret, nm) F cs sl pc ls (.int x :: sv_rf G.1 i :: st) sh hi hl hr :=
  J_putI (M := (RX3, cc, nL, ret, nm)) (k := 2) inX3 tyX3_ok nmX3 rfl (by decide) rfl rfl wfX3_18 rfl rfl rfl hsh d kk
theorem fpX3_21 {i : Nat} {x : Int32} (hsh : sh[i]? = some (0, 3)) (d : decode cc pc = .ok (.putfield 21, 3)) (kk : svJ l G R (RX3, cc, nL, ret, nm) F cs sl (pc + 3) ls st sh (sv_u2 hi i 3 x) hl hr) : svJ l G R (RX3, cc, nL, ret, nm) F cs sl pc ls (.int x :: sv_rf G.1 i :: st) sh hi hl hr :=
  J_putI (M := (RX3, cc, nL, ret, nm)) (k := 3) inX3 tyX3_ok nmX3 rfl (by decide) rfl rfl wfX3_21 rfl rfl rfl hsh d kk
theorem fpX3_24 {i : Nat} {x : Int32} (hsh : sh[i]? = some (0, 3)) (d : decode cc pc = .ok (.putfield 24, 3)) (kk : svJ l G R (RX3, cc, nL, ret, nm) F cs sl (pc + 3) ls st sh (sv_u2 hi i 4 x) hl hr) : svJ l G R (RX3, cc, nL, ret, nm) F cs sl pc ls (.int x :: sv_rf G.1 i :: st) sh hi hl hr :=
  J_putI (M := (RX3, cc, nL, ret, nm)) (k := 4) inX3 tyX3_ok nmX3 rfl (by decide) rfl rfl wfX3_24 rfl rfl rfl hsh d kk
theorem fpX3_27 {i x : Nat} (hnm : nm = "<init>") (hsh : sh[i]? = some (0, 3)) (d : decode cc pc = .ok (.putfield 27, 3)) (kk : svJ l G R (RX3, cc, nL, ret, nm) F cs sl (pc + 3) ls st sh hi hl (sv_u2 hr i 5 (some x))) : svJ l G R (RX3, cc, nL, ret, nm) F cs sl pc ls (sv_rf G.1 x :: sv_rf G.1 i :: st) sh hi hl hr :=
  J_putRF (M := (RX3, cc, nL, ret, nm)) (k := 5) inX3 tyX3_ok nmX3 rfl (by decide) rfl rfl wfX3_27 rfl hnm rfl rfl rfl hsh d kk
theorem fpX3_31 {i x : Nat} (hnm : nm = "<init>") (hsh : sh[i]? = some (0, 3)) (d : decode cc pc = .ok (.putfield 31, 3)) (kk : svJ l G R (RX3, cc, nL, ret, nm) F cs sl (pc + 3) ls st sh hi hl (sv_u2 hr i 6 (some x))) : svJ l G R (RX3, cc, nL, ret, nm) F cs sl pc ls (sv_rf G.1 x :: sv_rf G.1 i :: st) sh hi hl hr :=
  J_putRF (M := (RX3, cc, nL, ret, nm)) (k := 6) inX3 tyX3_ok nmX3 rfl (by decide) rfl rfl wfX3_31 rfl hnm rfl rfl rfl hsh d kk
theorem fpX3_34 {i x : Nat} (hnm : nm = "<init>") (hsh : sh[i]? = some (0, 3)) (d : decode cc pc = .ok (.putfield 34, 3)) (kk : svJ l G R (RX3, cc, nL, ret, nm) F cs sl (pc + 3) ls st sh hi hl (sv_u2 hr i 7 (some x))) : svJ l G R (RX3, cc, nL, ret, nm) F cs sl pc ls (sv_rf G.1 x :: sv_rf G.1 i :: st) sh hi hl hr :=
  J_putRF (M := (RX3, cc, nL, ret, nm)) (k := 7) inX3 tyX3_ok nmX3 rfl (by decide) rfl rfl wfX3_34 rfl hnm rfl rfl rfl hsh d kk
theorem fpX3_9 {i : Nat} {x : Int32} (hsh : sh[i]? = some (0, 3)) (d : decode cc pc = .ok (.putfield 9, 3)) (kk : svJ l G R (RX3, cc, nL, ret, nm) F cs sl (pc + 3) ls st sh (sv_u2 hi i 0 x) hl hr) : svJ l G R (RX3, cc, nL, ret, nm) F cs sl pc ls (.int x :: sv_rf G.1 i :: st) sh hi hl hr :=
  J_putI (M := (RX3, cc, nL, ret, nm)) (k := 0) inX3 tyX3_ok nmX3 rfl (by decide) rfl rfl wfX3_9 rfl rfl rfl hsh d kk
theorem wqX4_15 : Cond.classLink RX4 15 RX3 ∈ sv_tbl := (sv_in 206 (by decide +kernel) (by decide +kernel))
theorem nqX4_15 {n : Int32} (N : Nat) (hn : n = nI N) (hN : N < 100000) (hR1 : cs + 1 ≤ R.cells) (hR2 : sl + N ≤ R.slots) (d : decode cc pc = .ok (.anewarray 15, 3)) (kk : svJ l G R (RX4, cc, nL, ret, nm) F (cs + 1) (sl + N) (pc + 3) ls (sv_rf G.1 sh.length :: st) (sh ++ [(4, N)]) hi hl (sv_z hr sh.length none)) : svJ l G R (RX4, cc, nL, ret, nm) F cs sl pc ls (.int n :: st) sh hi hl hr :=
  J_newq (M := (RX4, cc, nL, ret, nm)) N hn hN wqX4_15 hR1 hR2 d kk
theorem wfX4_17 : Cond.fieldLink RX4 17 (TX4 1).1 (TX4 1).2.1 (TX4 1).2.2.1 ∈ sv_tbl := (sv_in 211 (by decide +kernel) (by decide +kernel))
theorem fgX4_17 {i q : Nat} (hsh : sh[i]? = some (0, 4)) (hv : hr i 1 = some q) (d : decode cc pc = .ok (.getfield 17, 3)) (kk : svJ l G R (RX4, cc, nL, ret, nm) F cs sl (pc + 3) ls (sv_rf G.1 q :: st) sh hi hl hr) : svJ l G R (RX4, cc, nL, ret, nm) F cs sl pc ls (sv_rf G.1 i :: st) sh hi hl hr := by
  refine J_get (M := (RX4, cc, nL, ret, nm)) (k := 1) inX4 rfl (by decide) rfl wfX4_17 hsh d ?_
  show svJ l G R (RX4, cc, nL, ret, nm) F cs sl (pc + 3) ls (sv_rv G.1 (hr i 1) :: st) sh hi hl hr
  rw [sv_rv_some hv]
  exact kk
theorem wfX4_9 : Cond.fieldLink RX4 9 (TX4 0).1 (TX4 0).2.1 (TX4 0).2.2.1 ∈ sv_tbl := (sv_in 209 (by decide +kernel) (by decide +kernel))
theorem fgX4_9 {i : Nat} (hsh : sh[i]? = some (0, 4)) (d : decode cc pc = .ok (.getfield 9, 3)) (kk : svJ l G R (RX4, cc, nL, ret, nm) F cs sl (pc + 3) ls (.int (hi i 0) :: st) sh hi hl hr) : svJ l G R (RX4, cc, nL, ret, nm) F cs sl pc ls (sv_rf G.1 i :: st) sh hi hl hr :=
  J_get (M := (RX4, cc, nL, ret, nm)) (k := 0) inX4 rfl (by decide) rfl wfX4_9 hsh d kk
theorem wmX4_21 : Cond.methodLinkNest RX4 21 yX3_init "StrangerVotes" ∈ sv_nest := sv_nest_in 208 (by decide +kernel) (by decide +kernel)
theorem caX4_21 {i mc ms : Nat} {rm : Room} {post : svQ} (T : svT l G yX3_init mX3_init rm mc ms (sv_rf G.1 i :: []) sh hi hl hr post) (hrest : (st.map fun v => v.category).sum ≤ 8) (hR : sv_rooms R rm mX3_init cs sl mc ms) (d : decode cc pc = .ok (.invokespecial 21, 3)) (kk : ∀ (v : Option Value) (sh' : svS) (a : svH) (b : svL) (c : svR), post v sh' a b c → svJ l G R (RX4, cc, nL, ret, nm) F (cs + mc) (sl + ms) (pc + 3) ls (v.toList ++ st) sh' a b c) : svJ l G R (RX4, cc, nL, ret, nm) F cs sl pc ls (sv_rf G.1 i :: st) sh hi hl hr :=
  J_callIN (M := (RX4, cc, nL, ret, nm)) (As := []) (n := 0) T calX3_init rfl "StrangerVotes" wmX4_21 (sv_in 164 (by decide +kernel) (by decide +kernel)) rfl rfl rfl hrest hR d kk
theorem wmX4_3 : Cond.methodLink RX4 3 Lib.objectInit ∈ sv_tbl := (sv_in 205 (by decide +kernel) (by decide +kernel))
theorem obX4_3 {i : Nat} (d : decode cc pc = .ok (.invokespecial 3, 3)) (hR : 1 ≤ R.frames) (hR2 : (st.map fun v => v.category).sum + 12 ≤ R.locals) (kk : svJ l G R (RX4, cc, nL, ret, nm) F cs sl (pc + 3) ls st sh hi hl hr) : svJ l G R (RX4, cc, nL, ret, nm) F cs sl pc ls (sv_rf G.1 i :: st) sh hi hl hr :=
  J_objInit (M := (RX4, cc, nL, ret, nm)) wmX4_3 (sv_in 72 (by decide +kernel) (by decide +kernel)) (sv_in 73 (by decide +kernel) (by decide +kernel)) d hR hR2 kk
theorem wmX4_33 : Cond.methodLinkNest RX4 33 yX7_isIn "StrangerVotes" ∈ sv_nest := sv_nest_in 461 (by decide +kernel) (by decide +kernel)
theorem caX4_33 {v0 v1 : Value} {rm : Room} {post : Int32 → svH → svL → svR → Prop} (T : svI l G yX7_isIn mX7_isIn rm [v0, v1] hi hl hr post) (hrest : (st.map fun v => v.category).sum ≤ 8) (hR : sv_rooms R rm mX7_isIn cs sl 0 0) (d : decode cc pc = .ok (.invokestatic 33, 3)) (kk : ∀ (r : Int32) (a : svH) (b : svL) (c : svR), post r a b c → svJ l G R (RX4, cc, nL, ret, nm) F cs sl (pc + 3) ls (.int r :: st) svSH a b c) : svJ l G R (RX4, cc, nL, ret, nm) F cs sl pc ls (v1 :: v0 :: st) svSH hi hl hr :=
  J_callSN (M := (RX4, cc, nL, ret, nm)) (As := [v0, v1]) (n := 2) T calX7_isIn "StrangerVotes" wmX4_33 (sv_in 314 (by decide +kernel) (by decide +kernel)) rfl rfl hrest hR d (fun v sh' a b c h => by
    obtain ⟨r, rfl, rfl, hp⟩ := h
    exact kk r a b c hp)
theorem wmX4_22 : Cond.methodLink RX4 22 yX4_loseOldest ∈ sv_tbl := (sv_in 453 (by decide +kernel) (by decide +kernel))
theorem caX4_22 {i : Nat} {rm : Room} {post : svH → svL → svR → Prop} (T : svV l G yX4_loseOldest mX4_loseOldest rm (sv_rf G.1 i :: []) hi hl hr post) (hsh : svSH[i]? = some (0, 4)) (hrest : (st.map fun v => v.category).sum ≤ 8) (hR : sv_rooms R rm mX4_loseOldest cs sl 0 0) (d : decode cc pc = .ok (.invokevirtual 22, 3)) (kk : ∀ (a : svH) (b : svL) (c : svR), post a b c → svJ l G R (RX4, cc, nL, ret, nm) F cs sl (pc + 3) ls st svSH a b c) : svJ l G R (RX4, cc, nL, ret, nm) F cs sl pc ls (sv_rf G.1 i :: st) svSH hi hl hr :=
  J_callV (M := (RX4, cc, nL, ret, nm)) (As := []) (n := 0) hsh rfl T calX4_loseOldest wmX4_22 (sv_in 455 (by decide +kernel) (by decide +kernel)) (sv_in 13 (by decide +kernel) (by decide +kernel)) rfl rfl hrest hR d (fun v sh' a b c h => by
    obtain ⟨rfl, rfl, hp⟩ := h
    exact kk a b c hp)
theorem wmX4_25 : Cond.methodLink RX4 25 yX4_rowAt ∈ sv_tbl := (sv_in 457 (by decide +kernel) (by decide +kernel))
theorem caX4_25 {i : Nat} {v0 : Value} {rm : Room} {post : Option Nat → svH → svL → svR → Prop} (T : svO l G yX4_rowAt mX4_rowAt rm (sv_rf G.1 i :: [v0]) hi hl hr post) (hsh : svSH[i]? = some (0, 4)) (hrest : (st.map fun v => v.category).sum ≤ 8) (hR : sv_rooms R rm mX4_rowAt cs sl 0 0) (d : decode cc pc = .ok (.invokevirtual 25, 3)) (kk : ∀ (r : Option Nat) (a : svH) (b : svL) (c : svR), post r a b c → svJ l G R (RX4, cc, nL, ret, nm) F cs sl (pc + 3) ls (sv_rv G.1 r :: st) svSH a b c) : svJ l G R (RX4, cc, nL, ret, nm) F cs sl pc ls (v0 :: sv_rf G.1 i :: st) svSH hi hl hr :=
  J_callV (M := (RX4, cc, nL, ret, nm)) (As := [v0]) (n := 1) hsh rfl T calX4_rowAt wmX4_25 (sv_in 459 (by decide +kernel) (by decide +kernel)) (sv_in 14 (by decide +kernel) (by decide +kernel)) rfl rfl hrest hR d (fun v sh' a b c h => by
    obtain ⟨r, rfl, rfl, hp⟩ := h
    exact kk r a b c hp)
theorem wmX4_29 : Cond.methodLink RX4 29 yX3_copyFrom ∈ sv_tbl := (sv_in 462 (by decide +kernel) (by decide +kernel))
theorem caX4_29 {i : Nat} {v0 : Value} {rm : Room} {post : svH → svL → svR → Prop} (T : svV l G yX3_copyFrom mX3_copyFrom rm (sv_rf G.1 i :: [v0]) hi hl hr post) (hsh : svSH[i]? = some (0, 3)) (hrest : (st.map fun v => v.category).sum ≤ 8) (hR : sv_rooms R rm mX3_copyFrom cs sl 0 0) (d : decode cc pc = .ok (.invokevirtual 29, 3)) (kk : ∀ (a : svH) (b : svL) (c : svR), post a b c → svJ l G R (RX4, cc, nL, ret, nm) F cs sl (pc + 3) ls st svSH a b c) : svJ l G R (RX4, cc, nL, ret, nm) F cs sl pc ls (v0 :: sv_rf G.1 i :: st) svSH hi hl hr :=
  J_callV (M := (RX4, cc, nL, ret, nm)) (As := [v0]) (n := 1) hsh rfl T calX3_copyFrom wmX4_29 (sv_in 463 (by decide +kernel) (by decide +kernel)) (sv_in 464 (by decide +kernel) (by decide +kernel)) rfl rfl hrest hR d (fun v sh' a b c h => by
    obtain ⟨rfl, rfl, hp⟩ := h
    exact kk a b c hp)
theorem wcX4_15 : Cond.classLink RX4 15 RX3 ∈ sv_tbl := (sv_in 206 (by decide +kernel) (by decide +kernel))
theorem nwX4_15 (hR1 : cs + 1 ≤ R.cells) (hR2 : sl + 8 ≤ R.slots) (d : decode cc pc = .ok (.new 15, 3)) (kk : svJ l G R (RX4, cc, nL, ret, nm) F (cs + 1) (sl + 8) (pc + 3) ls (sv_rf G.1 sh.length :: st) (sh ++ [(0, 3)]) (sv_z hi sh.length 0) (sv_z hl sh.length 0) (sv_z hr sh.length none)) : svJ l G R (RX4, cc, nL, ret, nm) F cs sl pc ls st sh hi hl hr :=
  J_newo (M := (RX4, cc, nL, ret, nm)) (ci := 3) (N := 8) inX3 tyX3_ok rfl rfl (fun j hj b => by
    have : j = 0 ∨ j = 1 ∨ j = 2 ∨ j = 3 ∨ j = 4 ∨ j = 5 ∨ j = 6 ∨ j = 7 := by omega
    rcases this with rfl | rfl | rfl | rfl | rfl | rfl | rfl | rfl <;> first | rfl | simp [tyX3, defaultValue, vp_V, sv_fs, sv_fk, sv_fv, sv_z, sv_rv, va_rf]) wcX4_15 (sv_in 162 (by decide +kernel) (by decide +kernel)) (sv_in 57 (by decide +kernel) (by decide +kernel)) hR1 hR2 d kk
theorem fpX4_17 {i x : Nat} (hnm : nm = "<init>") (hsh : sh[i]? = some (0, 4)) (d : decode cc pc = .ok (.putfield 17, 3)) (kk : svJ l G R (RX4, cc, nL, ret, nm) F cs sl (pc + 3) ls st sh hi hl (sv_u2 hr i 1 (some x))) : svJ l G R (RX4, cc, nL, ret, nm) F cs sl pc ls (sv_rf G.1 x :: sv_rf G.1 i :: st) sh hi hl hr :=
  J_putRF (M := (RX4, cc, nL, ret, nm)) (k := 1) inX4 tyX4_ok nmX4 rfl (by decide) rfl rfl wfX4_17 rfl hnm rfl rfl rfl hsh d kk
theorem fpX4_9 {i : Nat} {x : Int32} (hsh : sh[i]? = some (0, 4)) (d : decode cc pc = .ok (.putfield 9, 3)) (kk : svJ l G R (RX4, cc, nL, ret, nm) F cs sl (pc + 3) ls st sh (sv_u2 hi i 0 x) hl hr) : svJ l G R (RX4, cc, nL, ret, nm) F cs sl pc ls (.int x :: sv_rf G.1 i :: st) sh hi hl hr :=
  J_putI (M := (RX4, cc, nL, ret, nm)) (k := 0) inX4 tyX4_ok nmX4 rfl (by decide) rfl rfl wfX4_9 rfl rfl rfl hsh d kk
theorem wfX5_15 : Cond.fieldLink RX5 15 (TX5 1).1 (TX5 1).2.1 (TX5 1).2.2.1 ∈ sv_tbl := (sv_in 142 (by decide +kernel) (by decide +kernel))
theorem fgX5_15 {i q : Nat} (hsh : sh[i]? = some (0, 5)) (hv : hr i 1 = some q) (d : decode cc pc = .ok (.getfield 15, 3)) (kk : svJ l G R (RX5, cc, nL, ret, nm) F cs sl (pc + 3) ls (sv_rf G.1 q :: st) sh hi hl hr) : svJ l G R (RX5, cc, nL, ret, nm) F cs sl pc ls (sv_rf G.1 i :: st) sh hi hl hr := by
  refine J_get (M := (RX5, cc, nL, ret, nm)) (k := 1) inX5 rfl (by decide) rfl wfX5_15 hsh d ?_
  show svJ l G R (RX5, cc, nL, ret, nm) F cs sl (pc + 3) ls (sv_rv G.1 (hr i 1) :: st) sh hi hl hr
  rw [sv_rv_some hv]
  exact kk
theorem wfX5_19 : Cond.fieldLink RX5 19 (TX5 2).1 (TX5 2).2.1 (TX5 2).2.2.1 ∈ sv_tbl := (sv_in 143 (by decide +kernel) (by decide +kernel))
theorem fgX5_19 {i : Nat} (hsh : sh[i]? = some (0, 5)) (d : decode cc pc = .ok (.getfield 19, 3)) (kk : svJ l G R (RX5, cc, nL, ret, nm) F cs sl (pc + 3) ls (.int (hi i 2) :: st) sh hi hl hr) : svJ l G R (RX5, cc, nL, ret, nm) F cs sl pc ls (sv_rf G.1 i :: st) sh hi hl hr :=
  J_get (M := (RX5, cc, nL, ret, nm)) (k := 2) inX5 rfl (by decide) rfl wfX5_19 hsh d kk
theorem wfX5_22 : Cond.fieldLink RX5 22 (TX5 3).1 (TX5 3).2.1 (TX5 3).2.2.1 ∈ sv_tbl := (sv_in 144 (by decide +kernel) (by decide +kernel))
theorem fgX5_22 {i : Nat} (hsh : sh[i]? = some (0, 5)) (d : decode cc pc = .ok (.getfield 22, 3)) (kk : svJ l G R (RX5, cc, nL, ret, nm) F cs sl (pc + 3) ls (.int (hi i 3) :: st) sh hi hl hr) : svJ l G R (RX5, cc, nL, ret, nm) F cs sl pc ls (sv_rf G.1 i :: st) sh hi hl hr :=
  J_get (M := (RX5, cc, nL, ret, nm)) (k := 3) inX5 rfl (by decide) rfl wfX5_22 hsh d kk
theorem wfX5_25 : Cond.fieldLink RX5 25 (TX5 4).1 (TX5 4).2.1 (TX5 4).2.2.1 ∈ sv_tbl := (sv_in 145 (by decide +kernel) (by decide +kernel))
theorem fgX5_25 {i : Nat} (hsh : sh[i]? = some (0, 5)) (d : decode cc pc = .ok (.getfield 25, 3)) (kk : svJ l G R (RX5, cc, nL, ret, nm) F cs sl (pc + 3) ls (.int (hi i 4) :: st) sh hi hl hr) : svJ l G R (RX5, cc, nL, ret, nm) F cs sl pc ls (sv_rf G.1 i :: st) sh hi hl hr :=
  J_get (M := (RX5, cc, nL, ret, nm)) (k := 4) inX5 rfl (by decide) rfl wfX5_25 hsh d kk
theorem wfX5_28 : Cond.fieldLink RX5 28 (TX5 5).1 (TX5 5).2.1 (TX5 5).2.2.1 ∈ sv_tbl := (sv_in 146 (by decide +kernel) (by decide +kernel))
theorem fgX5_28 {i : Nat} (hsh : sh[i]? = some (0, 5)) (d : decode cc pc = .ok (.getfield 28, 3)) (kk : svJ l G R (RX5, cc, nL, ret, nm) F cs sl (pc + 3) ls (.int (hi i 5) :: st) sh hi hl hr) : svJ l G R (RX5, cc, nL, ret, nm) F cs sl pc ls (sv_rf G.1 i :: st) sh hi hl hr :=
  J_get (M := (RX5, cc, nL, ret, nm)) (k := 5) inX5 rfl (by decide) rfl wfX5_28 hsh d kk
theorem wfX5_51 : Cond.fieldLink RX5 51 (TX6 3).1 (TX6 3).2.1 (TX6 3).2.2.1 ∈ sv_tbl := (sv_in 91 (by decide +kernel) (by decide +kernel))
theorem fgX5_51 {i : Nat} (hsh : sh[i]? = some (0, 6)) (d : decode cc pc = .ok (.getfield 51, 3)) (kk : svJ l G R (RX5, cc, nL, ret, nm) F cs sl (pc + 3) ls (.int (hi i 3) :: st) sh hi hl hr) : svJ l G R (RX5, cc, nL, ret, nm) F cs sl pc ls (sv_rf G.1 i :: st) sh hi hl hr :=
  J_get (M := (RX5, cc, nL, ret, nm)) (k := 3) inX6 rfl (by decide) rfl wfX5_51 hsh d kk
theorem wfX5_57 : Cond.fieldLink RX5 57 (TX6 4).1 (TX6 4).2.1 (TX6 4).2.2.1 ∈ sv_tbl := (sv_in 95 (by decide +kernel) (by decide +kernel))
theorem fgX5_57 {i : Nat} (hsh : sh[i]? = some (0, 6)) (d : decode cc pc = .ok (.getfield 57, 3)) (kk : svJ l G R (RX5, cc, nL, ret, nm) F cs sl (pc + 3) ls (.int (hi i 4) :: st) sh hi hl hr) : svJ l G R (RX5, cc, nL, ret, nm) F cs sl pc ls (sv_rf G.1 i :: st) sh hi hl hr :=
  J_get (M := (RX5, cc, nL, ret, nm)) (k := 4) inX6 rfl (by decide) rfl wfX5_57 hsh d kk
theorem wfX5_66 : Cond.fieldLink RX5 66 (TX6 0).1 (TX6 0).2.1 (TX6 0).2.2.1 ∈ sv_tbl := (sv_in 82 (by decide +kernel) (by decide +kernel))
theorem fgX5_66 {i : Nat} (hsh : sh[i]? = some (0, 6)) (d : decode cc pc = .ok (.getfield 66, 3)) (kk : svJ l G R (RX5, cc, nL, ret, nm) F cs sl (pc + 3) ls (.int (hi i 0) :: st) sh hi hl hr) : svJ l G R (RX5, cc, nL, ret, nm) F cs sl pc ls (sv_rf G.1 i :: st) sh hi hl hr :=
  J_get (M := (RX5, cc, nL, ret, nm)) (k := 0) inX6 rfl (by decide) rfl wfX5_66 hsh d kk
theorem wfX5_9 : Cond.fieldLink RX5 9 (TX5 0).1 (TX5 0).2.1 (TX5 0).2.2.1 ∈ sv_tbl := (sv_in 140 (by decide +kernel) (by decide +kernel))
theorem fgX5_9 {i : Nat} (hsh : sh[i]? = some (0, 5)) (d : decode cc pc = .ok (.getfield 9, 3)) (kk : svJ l G R (RX5, cc, nL, ret, nm) F cs sl (pc + 3) ls (.int (hi i 0) :: st) sh hi hl hr) : svJ l G R (RX5, cc, nL, ret, nm) F cs sl pc ls (sv_rf G.1 i :: st) sh hi hl hr :=
  J_get (M := (RX5, cc, nL, ret, nm)) (k := 0) inX5 rfl (by decide) rfl wfX5_9 hsh d kk
theorem wmX5_3 : Cond.methodLink RX5 3 Lib.objectInit ∈ sv_tbl := (sv_in 139 (by decide +kernel) (by decide +kernel))
theorem obX5_3 {i : Nat} (d : decode cc pc = .ok (.invokespecial 3, 3)) (hR : 1 ≤ R.frames) (hR2 : (st.map fun v => v.category).sum + 12 ≤ R.locals) (kk : svJ l G R (RX5, cc, nL, ret, nm) F cs sl (pc + 3) ls st sh hi hl hr) : svJ l G R (RX5, cc, nL, ret, nm) F cs sl pc ls (sv_rf G.1 i :: st) sh hi hl hr :=
  J_objInit (M := (RX5, cc, nL, ret, nm)) wmX5_3 (sv_in 72 (by decide +kernel) (by decide +kernel)) (sv_in 73 (by decide +kernel) (by decide +kernel)) d hR hR2 kk
theorem wmX5_31 : Cond.methodLinkNest RX5 31 yX7_isIn "StrangerVotes" ∈ sv_nest := sv_nest_in 320 (by decide +kernel) (by decide +kernel)
theorem caX5_31 {v0 v1 : Value} {rm : Room} {post : Int32 → svH → svL → svR → Prop} (T : svI l G yX7_isIn mX7_isIn rm [v0, v1] hi hl hr post) (hrest : (st.map fun v => v.category).sum ≤ 8) (hR : sv_rooms R rm mX7_isIn cs sl 0 0) (d : decode cc pc = .ok (.invokestatic 31, 3)) (kk : ∀ (r : Int32) (a : svH) (b : svL) (c : svR), post r a b c → svJ l G R (RX5, cc, nL, ret, nm) F cs sl (pc + 3) ls (.int r :: st) svSH a b c) : svJ l G R (RX5, cc, nL, ret, nm) F cs sl pc ls (v1 :: v0 :: st) svSH hi hl hr :=
  J_callSN (M := (RX5, cc, nL, ret, nm)) (As := [v0, v1]) (n := 2) T calX7_isIn "StrangerVotes" wmX5_31 (sv_in 314 (by decide +kernel) (by decide +kernel)) rfl rfl hrest hR d (fun v sh' a b c h => by
    obtain ⟨r, rfl, rfl, hp⟩ := h
    exact kk r a b c hp)
theorem wmX5_90 : Cond.methodLink RX5 90 yX5_isLetter ∈ sv_tbl := (sv_in 345 (by decide +kernel) (by decide +kernel))
theorem caX5_90 {v0 : Value} {rm : Room} {post : Int32 → svH → svL → svR → Prop} (T : svI l G yX5_isLetter mX5_isLetter rm [v0] hi hl hr post) (hrest : (st.map fun v => v.category).sum ≤ 8) (hR : sv_rooms R rm mX5_isLetter cs sl 0 0) (d : decode cc pc = .ok (.invokestatic 90, 3)) (kk : ∀ (r : Int32) (a : svH) (b : svL) (c : svR), post r a b c → svJ l G R (RX5, cc, nL, ret, nm) F cs sl (pc + 3) ls (.int r :: st) svSH a b c) : svJ l G R (RX5, cc, nL, ret, nm) F cs sl pc ls (v0 :: st) svSH hi hl hr :=
  J_callS (M := (RX5, cc, nL, ret, nm)) (As := [v0]) (n := 1) T calX5_isLetter wmX5_90 (sv_in 346 (by decide +kernel) (by decide +kernel)) rfl rfl hrest hR d (fun v sh' a b c h => by
    obtain ⟨r, rfl, rfl, hp⟩ := h
    exact kk r a b c hp)
theorem wmX5_97 : Cond.methodLink RX5 97 yX5_isDigit ∈ sv_tbl := (sv_in 352 (by decide +kernel) (by decide +kernel))
theorem caX5_97 {v0 : Value} {rm : Room} {post : Int32 → svH → svL → svR → Prop} (T : svI l G yX5_isDigit mX5_isDigit rm [v0] hi hl hr post) (hrest : (st.map fun v => v.category).sum ≤ 8) (hR : sv_rooms R rm mX5_isDigit cs sl 0 0) (d : decode cc pc = .ok (.invokestatic 97, 3)) (kk : ∀ (r : Int32) (a : svH) (b : svL) (c : svR), post r a b c → svJ l G R (RX5, cc, nL, ret, nm) F cs sl (pc + 3) ls (.int r :: st) svSH a b c) : svJ l G R (RX5, cc, nL, ret, nm) F cs sl pc ls (v0 :: st) svSH hi hl hr :=
  J_callS (M := (RX5, cc, nL, ret, nm)) (As := [v0]) (n := 1) T calX5_isDigit wmX5_97 (sv_in 353 (by decide +kernel) (by decide +kernel)) rfl rfl hrest hR d (fun v sh' a b c h => by
    obtain ⟨r, rfl, rfl, hp⟩ := h
    exact kk r a b c hp)
theorem wmX5_100 : Cond.methodLink RX5 100 yX5_stepNumber ∈ sv_tbl := (sv_in 355 (by decide +kernel) (by decide +kernel))
theorem caX5_100 {i : Nat} {rm : Room} {post : svH → svL → svR → Prop} (T : svV l G yX5_stepNumber mX5_stepNumber rm (sv_rf G.1 i :: []) hi hl hr post) (hsh : svSH[i]? = some (0, 5)) (hrest : (st.map fun v => v.category).sum ≤ 8) (hR : sv_rooms R rm mX5_stepNumber cs sl 0 0) (d : decode cc pc = .ok (.invokevirtual 100, 3)) (kk : ∀ (a : svH) (b : svL) (c : svR), post a b c → svJ l G R (RX5, cc, nL, ret, nm) F cs sl (pc + 3) ls st svSH a b c) : svJ l G R (RX5, cc, nL, ret, nm) F cs sl pc ls (sv_rf G.1 i :: st) svSH hi hl hr :=
  J_callV (M := (RX5, cc, nL, ret, nm)) (As := []) (n := 0) hsh rfl T calX5_stepNumber wmX5_100 (sv_in 357 (by decide +kernel) (by decide +kernel)) (sv_in 3 (by decide +kernel) (by decide +kernel)) rfl rfl hrest hR d (fun v sh' a b c h => by
    obtain ⟨rfl, rfl, hp⟩ := h
    exact kk a b c hp)
theorem wmX5_35 : Cond.methodLink RX5 35 yX6_reset ∈ sv_tbl := (sv_in 333 (by decide +kernel) (by decide +kernel))
theorem caX5_35 {i : Nat} {rm : Room} {post : svH → svL → svR → Prop} (T : svV l G yX6_reset mX6_reset rm (sv_rf G.1 i :: []) hi hl hr post) (hsh : svSH[i]? = some (0, 6)) (hrest : (st.map fun v => v.category).sum ≤ 8) (hR : sv_rooms R rm mX6_reset cs sl 0 0) (d : decode cc pc = .ok (.invokevirtual 35, 3)) (kk : ∀ (a : svH) (b : svL) (c : svR), post a b c → svJ l G R (RX5, cc, nL, ret, nm) F cs sl (pc + 3) ls st svSH a b c) : svJ l G R (RX5, cc, nL, ret, nm) F cs sl pc ls (sv_rf G.1 i :: st) svSH hi hl hr :=
  J_callV (M := (RX5, cc, nL, ret, nm)) (As := []) (n := 0) hsh rfl T calX6_reset wmX5_35 (sv_in 334 (by decide +kernel) (by decide +kernel)) (sv_in 335 (by decide +kernel) (by decide +kernel)) rfl rfl hrest hR d (fun v sh' a b c h => by
    obtain ⟨rfl, rfl, hp⟩ := h
    exact kk a b c hp)
theorem wmX5_40 : Cond.methodLink RX5 40 yX5_step ∈ sv_tbl := (sv_in 337 (by decide +kernel) (by decide +kernel))
theorem caX5_40 {i : Nat} {rm : Room} {post : svH → svL → svR → Prop} (T : svV l G yX5_step mX5_step rm (sv_rf G.1 i :: []) hi hl hr post) (hsh : svSH[i]? = some (0, 5)) (hrest : (st.map fun v => v.category).sum ≤ 8) (hR : sv_rooms R rm mX5_step cs sl 0 0) (d : decode cc pc = .ok (.invokevirtual 40, 3)) (kk : ∀ (a : svH) (b : svL) (c : svR), post a b c → svJ l G R (RX5, cc, nL, ret, nm) F cs sl (pc + 3) ls st svSH a b c) : svJ l G R (RX5, cc, nL, ret, nm) F cs sl pc ls (sv_rf G.1 i :: st) svSH hi hl hr :=
  J_callV (M := (RX5, cc, nL, ret, nm)) (As := []) (n := 0) hsh rfl T calX5_step wmX5_40 (sv_in 339 (by decide +kernel) (by decide +kernel)) (sv_in 0 (by decide +kernel) (by decide +kernel)) rfl rfl hrest hR d (fun v sh' a b c h => by
    obtain ⟨rfl, rfl, hp⟩ := h
    exact kk a b c hp)
theorem wmX5_43 : Cond.methodLink RX5 43 yX5_readItem ∈ sv_tbl := (sv_in 359 (by decide +kernel) (by decide +kernel))
theorem caX5_43 {i : Nat} {v0 v1 : Value} {rm : Room} {post : Int32 → svH → svL → svR → Prop} (T : svI l G yX5_readItem mX5_readItem rm (sv_rf G.1 i :: [v0, v1]) hi hl hr post) (hsh : svSH[i]? = some (0, 5)) (hrest : (st.map fun v => v.category).sum ≤ 8) (hR : sv_rooms R rm mX5_readItem cs sl 0 0) (d : decode cc pc = .ok (.invokevirtual 43, 3)) (kk : ∀ (r : Int32) (a : svH) (b : svL) (c : svR), post r a b c → svJ l G R (RX5, cc, nL, ret, nm) F cs sl (pc + 3) ls (.int r :: st) svSH a b c) : svJ l G R (RX5, cc, nL, ret, nm) F cs sl pc ls (v1 :: v0 :: sv_rf G.1 i :: st) svSH hi hl hr :=
  J_callV (M := (RX5, cc, nL, ret, nm)) (As := [v0, v1]) (n := 2) hsh rfl T calX5_readItem wmX5_43 (sv_in 361 (by decide +kernel) (by decide +kernel)) (sv_in 4 (by decide +kernel) (by decide +kernel)) rfl rfl hrest hR d (fun v sh' a b c h => by
    obtain ⟨r, rfl, rfl, hp⟩ := h
    exact kk r a b c hp)
theorem wmX5_47 : Cond.methodLink RX5 47 yX5_readChoice ∈ sv_tbl := (sv_in 363 (by decide +kernel) (by decide +kernel))
theorem caX5_47 {i : Nat} {v0 : Value} {rm : Room} {post : Int32 → svH → svL → svR → Prop} (T : svI l G yX5_readChoice mX5_readChoice rm (sv_rf G.1 i :: [v0]) hi hl hr post) (hsh : svSH[i]? = some (0, 5)) (hrest : (st.map fun v => v.category).sum ≤ 8) (hR : sv_rooms R rm mX5_readChoice cs sl 0 0) (d : decode cc pc = .ok (.invokevirtual 47, 3)) (kk : ∀ (r : Int32) (a : svH) (b : svL) (c : svR), post r a b c → svJ l G R (RX5, cc, nL, ret, nm) F cs sl (pc + 3) ls (.int r :: st) svSH a b c) : svJ l G R (RX5, cc, nL, ret, nm) F cs sl pc ls (v0 :: sv_rf G.1 i :: st) svSH hi hl hr :=
  J_callV (M := (RX5, cc, nL, ret, nm)) (As := [v0]) (n := 1) hsh rfl T calX5_readChoice wmX5_47 (sv_in 365 (by decide +kernel) (by decide +kernel)) (sv_in 5 (by decide +kernel) (by decide +kernel)) rfl rfl hrest hR d (fun v sh' a b c h => by
    obtain ⟨r, rfl, rfl, hp⟩ := h
    exact kk r a b c hp)
theorem wmX5_54 : Cond.methodLink RX5 54 yX5_readTrain ∈ sv_tbl := (sv_in 375 (by decide +kernel) (by decide +kernel))
theorem caX5_54 {i : Nat} {v0 : Value} {rm : Room} {post : Int32 → svH → svL → svR → Prop} (T : svI l G yX5_readTrain mX5_readTrain rm (sv_rf G.1 i :: [v0]) hi hl hr post) (hsh : svSH[i]? = some (0, 5)) (hrest : (st.map fun v => v.category).sum ≤ 8) (hR : sv_rooms R rm mX5_readTrain cs sl 0 0) (d : decode cc pc = .ok (.invokevirtual 54, 3)) (kk : ∀ (r : Int32) (a : svH) (b : svL) (c : svR), post r a b c → svJ l G R (RX5, cc, nL, ret, nm) F cs sl (pc + 3) ls (.int r :: st) svSH a b c) : svJ l G R (RX5, cc, nL, ret, nm) F cs sl pc ls (v0 :: sv_rf G.1 i :: st) svSH hi hl hr :=
  J_callV (M := (RX5, cc, nL, ret, nm)) (As := [v0]) (n := 1) hsh rfl T calX5_readTrain wmX5_54 (sv_in 377 (by decide +kernel) (by decide +kernel)) (sv_in 8 (by decide +kernel) (by decide +kernel)) rfl rfl hrest hR d (fun v sh' a b c h => by
    obtain ⟨r, rfl, rfl, hp⟩ := h
    exact kk r a b c hp)
theorem wmX5_60 : Cond.methodLink RX5 60 yX5_readGroup ∈ sv_tbl := (sv_in 386 (by decide +kernel) (by decide +kernel))
theorem caX5_60 {i : Nat} {v0 : Value} {rm : Room} {post : Int32 → svH → svL → svR → Prop} (T : svI l G yX5_readGroup mX5_readGroup rm (sv_rf G.1 i :: [v0]) hi hl hr post) (hsh : svSH[i]? = some (0, 5)) (hrest : (st.map fun v => v.category).sum ≤ 8) (hR : sv_rooms R rm mX5_readGroup cs sl 0 0) (d : decode cc pc = .ok (.invokevirtual 60, 3)) (kk : ∀ (r : Int32) (a : svH) (b : svL) (c : svR), post r a b c → svJ l G R (RX5, cc, nL, ret, nm) F cs sl (pc + 3) ls (.int r :: st) svSH a b c) : svJ l G R (RX5, cc, nL, ret, nm) F cs sl pc ls (v0 :: sv_rf G.1 i :: st) svSH hi hl hr :=
  J_callV (M := (RX5, cc, nL, ret, nm)) (As := [v0]) (n := 1) hsh rfl T calX5_readGroup wmX5_60 (sv_in 388 (by decide +kernel) (by decide +kernel)) (sv_in 9 (by decide +kernel) (by decide +kernel)) rfl rfl hrest hR d (fun v sh' a b c h => by
    obtain ⟨r, rfl, rfl, hp⟩ := h
    exact kk r a b c hp)
theorem wmX5_63 : Cond.methodLink RX5 63 yX5_readNumber ∈ sv_tbl := (sv_in 367 (by decide +kernel) (by decide +kernel))
theorem caX5_63 {i : Nat} {v0 v1 : Value} {rm : Room} {post : Int32 → svH → svL → svR → Prop} (T : svI l G yX5_readNumber mX5_readNumber rm (sv_rf G.1 i :: [v0, v1]) hi hl hr post) (hsh : svSH[i]? = some (0, 5)) (hrest : (st.map fun v => v.category).sum ≤ 8) (hR : sv_rooms R rm mX5_readNumber cs sl 0 0) (d : decode cc pc = .ok (.invokevirtual 63, 3)) (kk : ∀ (r : Int32) (a : svH) (b : svL) (c : svR), post r a b c → svJ l G R (RX5, cc, nL, ret, nm) F cs sl (pc + 3) ls (.int r :: st) svSH a b c) : svJ l G R (RX5, cc, nL, ret, nm) F cs sl pc ls (v1 :: v0 :: sv_rf G.1 i :: st) svSH hi hl hr :=
  J_callV (M := (RX5, cc, nL, ret, nm)) (As := [v0, v1]) (n := 2) hsh rfl T calX5_readNumber wmX5_63 (sv_in 369 (by decide +kernel) (by decide +kernel)) (sv_in 6 (by decide +kernel) (by decide +kernel)) rfl rfl hrest hR d (fun v sh' a b c h => by
    obtain ⟨r, rfl, rfl, hp⟩ := h
    exact kk r a b c hp)
theorem wmX5_75 : Cond.methodLink RX5 75 yX5_readStop ∈ sv_tbl := (sv_in 371 (by decide +kernel) (by decide +kernel))
theorem caX5_75 {i : Nat} {rm : Room} {post : Int32 → svH → svL → svR → Prop} (T : svI l G yX5_readStop mX5_readStop rm (sv_rf G.1 i :: []) hi hl hr post) (hsh : svSH[i]? = some (0, 5)) (hrest : (st.map fun v => v.category).sum ≤ 8) (hR : sv_rooms R rm mX5_readStop cs sl 0 0) (d : decode cc pc = .ok (.invokevirtual 75, 3)) (kk : ∀ (r : Int32) (a : svH) (b : svL) (c : svR), post r a b c → svJ l G R (RX5, cc, nL, ret, nm) F cs sl (pc + 3) ls (.int r :: st) svSH a b c) : svJ l G R (RX5, cc, nL, ret, nm) F cs sl pc ls (sv_rf G.1 i :: st) svSH hi hl hr :=
  J_callV (M := (RX5, cc, nL, ret, nm)) (As := []) (n := 0) hsh rfl T calX5_readStop wmX5_75 (sv_in 373 (by decide +kernel) (by decide +kernel)) (sv_in 7 (by decide +kernel) (by decide +kernel)) rfl rfl hrest hR d (fun v sh' a b c h => by
    obtain ⟨r, rfl, rfl, hp⟩ := h
    exact kk r a b c hp)
theorem wmX5_79 : Cond.methodLink RX5 79 yX6_addTrain ∈ sv_tbl := (sv_in 379 (by decide +kernel) (by decide +kernel))
theorem caX5_79 {i : Nat} {v0 v1 v2 : Value} {rm : Room} {post : svH → svL → svR → Prop} (T : svV l G yX6_addTrain mX6_addTrain rm (sv_rf G.1 i :: [v0, v1, v2]) hi hl hr post) (hsh : svSH[i]? = some (0, 6)) (hrest : (st.map fun v => v.category).sum ≤ 8) (hR : sv_rooms R rm mX6_addTrain cs sl 0 0) (d : decode cc pc = .ok (.invokevirtual 79, 3)) (kk : ∀ (a : svH) (b : svL) (c : svR), post a b c → svJ l G R (RX5, cc, nL, ret, nm) F cs sl (pc + 3) ls st svSH a b c) : svJ l G R (RX5, cc, nL, ret, nm) F cs sl pc ls (v2 :: v1 :: v0 :: sv_rf G.1 i :: st) svSH hi hl hr :=
  J_callV (M := (RX5, cc, nL, ret, nm)) (As := [v0, v1, v2]) (n := 3) hsh rfl T calX6_addTrain wmX5_79 (sv_in 380 (by decide +kernel) (by decide +kernel)) (sv_in 381 (by decide +kernel) (by decide +kernel)) rfl rfl hrest hR d (fun v sh' a b c h => by
    obtain ⟨rfl, rfl, hp⟩ := h
    exact kk a b c hp)
theorem wmX5_83 : Cond.methodLink RX5 83 yX6_addGroup ∈ sv_tbl := (sv_in 390 (by decide +kernel) (by decide +kernel))
theorem caX5_83 {i : Nat} {v0 v1 v2 : Value} {rm : Room} {post : svH → svL → svR → Prop} (T : svV l G yX6_addGroup mX6_addGroup rm (sv_rf G.1 i :: [v0, v1, v2]) hi hl hr post) (hsh : svSH[i]? = some (0, 6)) (hrest : (st.map fun v => v.category).sum ≤ 8) (hR : sv_rooms R rm mX6_addGroup cs sl 0 0) (d : decode cc pc = .ok (.invokevirtual 83, 3)) (kk : ∀ (a : svH) (b : svL) (c : svR), post a b c → svJ l G R (RX5, cc, nL, ret, nm) F cs sl (pc + 3) ls st svSH a b c) : svJ l G R (RX5, cc, nL, ret, nm) F cs sl pc ls (v2 :: v1 :: v0 :: sv_rf G.1 i :: st) svSH hi hl hr :=
  J_callV (M := (RX5, cc, nL, ret, nm)) (As := [v0, v1, v2]) (n := 3) hsh rfl T calX6_addGroup wmX5_83 (sv_in 391 (by decide +kernel) (by decide +kernel)) (sv_in 392 (by decide +kernel) (by decide +kernel)) rfl rfl hrest hR d (fun v sh' a b c h => by
    obtain ⟨rfl, rfl, hp⟩ := h
    exact kk a b c hp)
theorem wmX5_86 : Cond.methodLink RX5 86 yX5_byteAt ∈ sv_tbl := (sv_in 341 (by decide +kernel) (by decide +kernel))
theorem caX5_86 {i : Nat} {v0 : Value} {rm : Room} {post : Int32 → svH → svL → svR → Prop} (T : svI l G yX5_byteAt mX5_byteAt rm (sv_rf G.1 i :: [v0]) hi hl hr post) (hsh : svSH[i]? = some (0, 5)) (hrest : (st.map fun v => v.category).sum ≤ 8) (hR : sv_rooms R rm mX5_byteAt cs sl 0 0) (d : decode cc pc = .ok (.invokevirtual 86, 3)) (kk : ∀ (r : Int32) (a : svH) (b : svL) (c : svR), post r a b c → svJ l G R (RX5, cc, nL, ret, nm) F cs sl (pc + 3) ls (.int r :: st) svSH a b c) : svJ l G R (RX5, cc, nL, ret, nm) F cs sl pc ls (v0 :: sv_rf G.1 i :: st) svSH hi hl hr :=
  J_callV (M := (RX5, cc, nL, ret, nm)) (As := [v0]) (n := 1) hsh rfl T calX5_byteAt wmX5_86 (sv_in 343 (by decide +kernel) (by decide +kernel)) (sv_in 1 (by decide +kernel) (by decide +kernel)) rfl rfl hrest hR d (fun v sh' a b c h => by
    obtain ⟨r, rfl, rfl, hp⟩ := h
    exact kk r a b c hp)
theorem wmX5_94 : Cond.methodLink RX5 94 yX5_stepWord ∈ sv_tbl := (sv_in 348 (by decide +kernel) (by decide +kernel))
theorem caX5_94 {i : Nat} {rm : Room} {post : svH → svL → svR → Prop} (T : svV l G yX5_stepWord mX5_stepWord rm (sv_rf G.1 i :: []) hi hl hr post) (hsh : svSH[i]? = some (0, 5)) (hrest : (st.map fun v => v.category).sum ≤ 8) (hR : sv_rooms R rm mX5_stepWord cs sl 0 0) (d : decode cc pc = .ok (.invokevirtual 94, 3)) (kk : ∀ (a : svH) (b : svL) (c : svR), post a b c → svJ l G R (RX5, cc, nL, ret, nm) F cs sl (pc + 3) ls st svSH a b c) : svJ l G R (RX5, cc, nL, ret, nm) F cs sl pc ls (sv_rf G.1 i :: st) svSH hi hl hr :=
  J_callV (M := (RX5, cc, nL, ret, nm)) (As := []) (n := 0) hsh rfl T calX5_stepWord wmX5_94 (sv_in 350 (by decide +kernel) (by decide +kernel)) (sv_in 2 (by decide +kernel) (by decide +kernel)) rfl rfl hrest hR d (fun v sh' a b c h => by
    obtain ⟨rfl, rfl, hp⟩ := h
    exact kk a b c hp)
theorem fpX5_15 {i x : Nat} (hnm : nm = "<init>") (hsh : sh[i]? = some (0, 5)) (d : decode cc pc = .ok (.putfield 15, 3)) (kk : svJ l G R (RX5, cc, nL, ret, nm) F cs sl (pc + 3) ls st sh hi hl (sv_u2 hr i 1 (some x))) : svJ l G R (RX5, cc, nL, ret, nm) F cs sl pc ls (sv_rf G.1 x :: sv_rf G.1 i :: st) sh hi hl hr :=
  J_putRF (M := (RX5, cc, nL, ret, nm)) (k := 1) inX5 tyX5_ok nmX5 rfl (by decide) rfl rfl wfX5_15 rfl hnm rfl rfl rfl hsh d kk
theorem fpX5_19 {i : Nat} {x : Int32} (hsh : sh[i]? = some (0, 5)) (d : decode cc pc = .ok (.putfield 19, 3)) (kk : svJ l G R (RX5, cc, nL, ret, nm) F cs sl (pc + 3) ls st sh (sv_u2 hi i 2 x) hl hr) : svJ l G R (RX5, cc, nL, ret, nm) F cs sl pc ls (.int x :: sv_rf G.1 i :: st) sh hi hl hr :=
  J_putI (M := (RX5, cc, nL, ret, nm)) (k := 2) inX5 tyX5_ok nmX5 rfl (by decide) rfl rfl wfX5_19 rfl rfl rfl hsh d kk
theorem fpX5_22 {i : Nat} {x : Int32} (hsh : sh[i]? = some (0, 5)) (d : decode cc pc = .ok (.putfield 22, 3)) (kk : svJ l G R (RX5, cc, nL, ret, nm) F cs sl (pc + 3) ls st sh (sv_u2 hi i 3 x) hl hr) : svJ l G R (RX5, cc, nL, ret, nm) F cs sl pc ls (.int x :: sv_rf G.1 i :: st) sh hi hl hr :=
  J_putI (M := (RX5, cc, nL, ret, nm)) (k := 3) inX5 tyX5_ok nmX5 rfl (by decide) rfl rfl wfX5_22 rfl rfl rfl hsh d kk
theorem fpX5_25 {i : Nat} {x : Int32} (hsh : sh[i]? = some (0, 5)) (d : decode cc pc = .ok (.putfield 25, 3)) (kk : svJ l G R (RX5, cc, nL, ret, nm) F cs sl (pc + 3) ls st sh (sv_u2 hi i 4 x) hl hr) : svJ l G R (RX5, cc, nL, ret, nm) F cs sl pc ls (.int x :: sv_rf G.1 i :: st) sh hi hl hr :=
  J_putI (M := (RX5, cc, nL, ret, nm)) (k := 4) inX5 tyX5_ok nmX5 rfl (by decide) rfl rfl wfX5_25 rfl rfl rfl hsh d kk
theorem fpX5_28 {i : Nat} {x : Int32} (hsh : sh[i]? = some (0, 5)) (d : decode cc pc = .ok (.putfield 28, 3)) (kk : svJ l G R (RX5, cc, nL, ret, nm) F cs sl (pc + 3) ls st sh (sv_u2 hi i 5 x) hl hr) : svJ l G R (RX5, cc, nL, ret, nm) F cs sl pc ls (.int x :: sv_rf G.1 i :: st) sh hi hl hr :=
  J_putI (M := (RX5, cc, nL, ret, nm)) (k := 5) inX5 tyX5_ok nmX5 rfl (by decide) rfl rfl wfX5_28 rfl rfl rfl hsh d kk
theorem fpX5_66 {i : Nat} {x : Int32} (hsh : sh[i]? = some (0, 6)) (d : decode cc pc = .ok (.putfield 66, 3)) (kk : svJ l G R (RX5, cc, nL, ret, nm) F cs sl (pc + 3) ls st sh (sv_u2 hi i 0 x) hl hr) : svJ l G R (RX5, cc, nL, ret, nm) F cs sl pc ls (.int x :: sv_rf G.1 i :: st) sh hi hl hr :=
  J_putI (M := (RX5, cc, nL, ret, nm)) (k := 0) inX6 tyX6_ok nmX6 rfl (by decide) rfl rfl wfX5_66 rfl rfl rfl hsh d kk
theorem wfX5_69 : Cond.fieldLink RX5 69 (TX6 1).1 (TX6 1).2.1 (TX6 1).2.2.1 ∈ sv_tbl := (sv_in 85 (by decide +kernel) (by decide +kernel))
theorem fpX5_69 {i : Nat} {x : Int32} (hsh : sh[i]? = some (0, 6)) (d : decode cc pc = .ok (.putfield 69, 3)) (kk : svJ l G R (RX5, cc, nL, ret, nm) F cs sl (pc + 3) ls st sh (sv_u2 hi i 1 x) hl hr) : svJ l G R (RX5, cc, nL, ret, nm) F cs sl pc ls (.int x :: sv_rf G.1 i :: st) sh hi hl hr :=
  J_putI (M := (RX5, cc, nL, ret, nm)) (k := 1) inX6 tyX6_ok nmX6 rfl (by decide) rfl rfl wfX5_69 rfl rfl rfl hsh d kk
theorem wfX5_72 : Cond.fieldLink RX5 72 (TX6 2).1 (TX6 2).2.1 (TX6 2).2.2.1 ∈ sv_tbl := (sv_in 89 (by decide +kernel) (by decide +kernel))
theorem fpX5_72 {i : Nat} {x : Int32} (hsh : sh[i]? = some (0, 6)) (d : decode cc pc = .ok (.putfield 72, 3)) (kk : svJ l G R (RX5, cc, nL, ret, nm) F cs sl (pc + 3) ls st sh (sv_u2 hi i 2 x) hl hr) : svJ l G R (RX5, cc, nL, ret, nm) F cs sl pc ls (.int x :: sv_rf G.1 i :: st) sh hi hl hr :=
  J_putI (M := (RX5, cc, nL, ret, nm)) (k := 2) inX6 tyX6_ok nmX6 rfl (by decide) rfl rfl wfX5_72 rfl rfl rfl hsh d kk
theorem fpX5_9 {i : Nat} {x : Int32} (hsh : sh[i]? = some (0, 5)) (d : decode cc pc = .ok (.putfield 9, 3)) (kk : svJ l G R (RX5, cc, nL, ret, nm) F cs sl (pc + 3) ls st sh (sv_u2 hi i 0 x) hl hr) : svJ l G R (RX5, cc, nL, ret, nm) F cs sl pc ls (.int x :: sv_rf G.1 i :: st) sh hi hl hr :=
  J_putI (M := (RX5, cc, nL, ret, nm)) (k := 0) inX5 tyX5_ok nmX5 rfl (by decide) rfl rfl wfX5_9 rfl rfl rfl hsh d kk
theorem wfX6_21 : Cond.fieldLink RX6 21 (TX6 3).1 (TX6 3).2.1 (TX6 3).2.2.1 ∈ sv_tbl := (sv_in 90 (by decide +kernel) (by decide +kernel))
theorem fgX6_21 {i : Nat} (hsh : sh[i]? = some (0, 6)) (d : decode cc pc = .ok (.getfield 21, 3)) (kk : svJ l G R (RX6, cc, nL, ret, nm) F cs sl (pc + 3) ls (.int (hi i 3) :: st) sh hi hl hr) : svJ l G R (RX6, cc, nL, ret, nm) F cs sl pc ls (sv_rf G.1 i :: st) sh hi hl hr :=
  J_get (M := (RX6, cc, nL, ret, nm)) (k := 3) inX6 rfl (by decide) rfl wfX6_21 hsh d kk
theorem wfX6_24 : Cond.fieldLink RX6 24 (TX6 4).1 (TX6 4).2.1 (TX6 4).2.2.1 ∈ sv_tbl := (sv_in 93 (by decide +kernel) (by decide +kernel))
theorem fgX6_24 {i : Nat} (hsh : sh[i]? = some (0, 6)) (d : decode cc pc = .ok (.getfield 24, 3)) (kk : svJ l G R (RX6, cc, nL, ret, nm) F cs sl (pc + 3) ls (.int (hi i 4) :: st) sh hi hl hr) : svJ l G R (RX6, cc, nL, ret, nm) F cs sl pc ls (sv_rf G.1 i :: st) sh hi hl hr :=
  J_get (M := (RX6, cc, nL, ret, nm)) (k := 4) inX6 rfl (by decide) rfl wfX6_24 hsh d kk
theorem wfX6_27 : Cond.fieldLink RX6 27 (TX6 5).1 (TX6 5).2.1 (TX6 5).2.2.1 ∈ sv_tbl := (sv_in 97 (by decide +kernel) (by decide +kernel))
theorem fgX6_27 {i q : Nat} (hsh : sh[i]? = some (0, 6)) (hv : hr i 5 = some q) (d : decode cc pc = .ok (.getfield 27, 3)) (kk : svJ l G R (RX6, cc, nL, ret, nm) F cs sl (pc + 3) ls (sv_rf G.1 q :: st) sh hi hl hr) : svJ l G R (RX6, cc, nL, ret, nm) F cs sl pc ls (sv_rf G.1 i :: st) sh hi hl hr := by
  refine J_get (M := (RX6, cc, nL, ret, nm)) (k := 5) inX6 rfl (by decide) rfl wfX6_27 hsh d ?_
  show svJ l G R (RX6, cc, nL, ret, nm) F cs sl (pc + 3) ls (sv_rv G.1 (hr i 5) :: st) sh hi hl hr
  rw [sv_rv_some hv]
  exact kk
theorem wfX6_31 : Cond.fieldLink RX6 31 (TX6 6).1 (TX6 6).2.1 (TX6 6).2.2.1 ∈ sv_tbl := (sv_in 99 (by decide +kernel) (by decide +kernel))
theorem fgX6_31 {i q : Nat} (hsh : sh[i]? = some (0, 6)) (hv : hr i 6 = some q) (d : decode cc pc = .ok (.getfield 31, 3)) (kk : svJ l G R (RX6, cc, nL, ret, nm) F cs sl (pc + 3) ls (sv_rf G.1 q :: st) sh hi hl hr) : svJ l G R (RX6, cc, nL, ret, nm) F cs sl pc ls (sv_rf G.1 i :: st) sh hi hl hr := by
  refine J_get (M := (RX6, cc, nL, ret, nm)) (k := 6) inX6 rfl (by decide) rfl wfX6_31 hsh d ?_
  show svJ l G R (RX6, cc, nL, ret, nm) F cs sl (pc + 3) ls (sv_rv G.1 (hr i 6) :: st) sh hi hl hr
  rw [sv_rv_some hv]
  exact kk
theorem wfX6_34 : Cond.fieldLink RX6 34 (TX6 7).1 (TX6 7).2.1 (TX6 7).2.2.1 ∈ sv_tbl := (sv_in 101 (by decide +kernel) (by decide +kernel))
theorem fgX6_34 {i q : Nat} (hsh : sh[i]? = some (0, 6)) (hv : hr i 7 = some q) (d : decode cc pc = .ok (.getfield 34, 3)) (kk : svJ l G R (RX6, cc, nL, ret, nm) F cs sl (pc + 3) ls (sv_rf G.1 q :: st) sh hi hl hr) : svJ l G R (RX6, cc, nL, ret, nm) F cs sl pc ls (sv_rf G.1 i :: st) sh hi hl hr := by
  refine J_get (M := (RX6, cc, nL, ret, nm)) (k := 7) inX6 rfl (by decide) rfl wfX6_34 hsh d ?_
  show svJ l G R (RX6, cc, nL, ret, nm) F cs sl (pc + 3) ls (sv_rv G.1 (hr i 7) :: st) sh hi hl hr
  rw [sv_rv_some hv]
  exact kk
theorem wfX6_37 : Cond.fieldLink RX6 37 (TX6 8).1 (TX6 8).2.1 (TX6 8).2.2.1 ∈ sv_tbl := (sv_in 103 (by decide +kernel) (by decide +kernel))
theorem fgX6_37 {i q : Nat} (hsh : sh[i]? = some (0, 6)) (hv : hr i 8 = some q) (d : decode cc pc = .ok (.getfield 37, 3)) (kk : svJ l G R (RX6, cc, nL, ret, nm) F cs sl (pc + 3) ls (sv_rf G.1 q :: st) sh hi hl hr) : svJ l G R (RX6, cc, nL, ret, nm) F cs sl pc ls (sv_rf G.1 i :: st) sh hi hl hr := by
  refine J_get (M := (RX6, cc, nL, ret, nm)) (k := 8) inX6 rfl (by decide) rfl wfX6_37 hsh d ?_
  show svJ l G R (RX6, cc, nL, ret, nm) F cs sl (pc + 3) ls (sv_rv G.1 (hr i 8) :: st) sh hi hl hr
  rw [sv_rv_some hv]
  exact kk
theorem wfX6_40 : Cond.fieldLink RX6 40 (TX6 9).1 (TX6 9).2.1 (TX6 9).2.2.1 ∈ sv_tbl := (sv_in 106 (by decide +kernel) (by decide +kernel))
theorem fgX6_40 {i q : Nat} (hsh : sh[i]? = some (0, 6)) (hv : hr i 9 = some q) (d : decode cc pc = .ok (.getfield 40, 3)) (kk : svJ l G R (RX6, cc, nL, ret, nm) F cs sl (pc + 3) ls (sv_rf G.1 q :: st) sh hi hl hr) : svJ l G R (RX6, cc, nL, ret, nm) F cs sl pc ls (sv_rf G.1 i :: st) sh hi hl hr := by
  refine J_get (M := (RX6, cc, nL, ret, nm)) (k := 9) inX6 rfl (by decide) rfl wfX6_40 hsh d ?_
  show svJ l G R (RX6, cc, nL, ret, nm) F cs sl (pc + 3) ls (sv_rv G.1 (hr i 9) :: st) sh hi hl hr
  rw [sv_rv_some hv]
  exact kk
theorem wfX6_43 : Cond.fieldLink RX6 43 (TX6 10).1 (TX6 10).2.1 (TX6 10).2.2.1 ∈ sv_tbl := (sv_in 108 (by decide +kernel) (by decide +kernel))
theorem fgX6_43 {i q : Nat} (hsh : sh[i]? = some (0, 6)) (hv : hr i 10 = some q) (d : decode cc pc = .ok (.getfield 43, 3)) (kk : svJ l G R (RX6, cc, nL, ret, nm) F cs sl (pc + 3) ls (sv_rf G.1 q :: st) sh hi hl hr) : svJ l G R (RX6, cc, nL, ret, nm) F cs sl pc ls (sv_rf G.1 i :: st) sh hi hl hr := by
  refine J_get (M := (RX6, cc, nL, ret, nm)) (k := 10) inX6 rfl (by decide) rfl wfX6_43 hsh d ?_
  show svJ l G R (RX6, cc, nL, ret, nm) F cs sl (pc + 3) ls (sv_rv G.1 (hr i 10) :: st) sh hi hl hr
  rw [sv_rv_some hv]
  exact kk
theorem wmX6_3 : Cond.methodLink RX6 3 Lib.objectInit ∈ sv_tbl := (sv_in 79 (by decide +kernel) (by decide +kernel))
theorem obX6_3 {i : Nat} (d : decode cc pc = .ok (.invokespecial 3, 3)) (hR : 1 ≤ R.frames) (hR2 : (st.map fun v => v.category).sum + 12 ≤ R.locals) (kk : svJ l G R (RX6, cc, nL, ret, nm) F cs sl (pc + 3) ls st sh hi hl hr) : svJ l G R (RX6, cc, nL, ret, nm) F cs sl pc ls (sv_rf G.1 i :: st) sh hi hl hr :=
  J_objInit (M := (RX6, cc, nL, ret, nm)) wmX6_3 (sv_in 72 (by decide +kernel) (by decide +kernel)) (sv_in 73 (by decide +kernel) (by decide +kernel)) d hR hR2 kk
theorem wmX6_46 : Cond.methodLinkNest RX6 46 yX7_set "StrangerVotes" ∈ sv_nest := sv_nest_in 383 (by decide +kernel) (by decide +kernel)
theorem caX6_46 {v0 v1 v2 : Value} {rm : Room} {post : svH → svL → svR → Prop} (T : svV l G yX7_set mX7_set rm [v0, v1, v2] hi hl hr post) (hrest : (st.map fun v => v.category).sum ≤ 8) (hR : sv_rooms R rm mX7_set cs sl 0 0) (d : decode cc pc = .ok (.invokestatic 46, 3)) (kk : ∀ (a : svH) (b : svL) (c : svR), post a b c → svJ l G R (RX6, cc, nL, ret, nm) F cs sl (pc + 3) ls st svSH a b c) : svJ l G R (RX6, cc, nL, ret, nm) F cs sl pc ls (v2 :: v1 :: v0 :: st) svSH hi hl hr :=
  J_callSN (M := (RX6, cc, nL, ret, nm)) (As := [v0, v1, v2]) (n := 3) T calX7_set "StrangerVotes" wmX6_46 (sv_in 384 (by decide +kernel) (by decide +kernel)) rfl rfl hrest hR d (fun v sh' a b c h => by
    obtain ⟨rfl, rfl, hp⟩ := h
    exact kk a b c hp)
theorem wmX6_50 : Cond.methodLinkNest RX6 50 yX7_at "StrangerVotes" ∈ sv_nest := sv_nest_in 534 (by decide +kernel) (by decide +kernel)
theorem caX6_50 {v0 v1 : Value} {rm : Room} {post : Int32 → svH → svL → svR → Prop} (T : svI l G yX7_at mX7_at rm [v0, v1] hi hl hr post) (hrest : (st.map fun v => v.category).sum ≤ 8) (hR : sv_rooms R rm mX7_at cs sl 0 0) (d : decode cc pc = .ok (.invokestatic 50, 3)) (kk : ∀ (r : Int32) (a : svH) (b : svL) (c : svR), post r a b c → svJ l G R (RX6, cc, nL, ret, nm) F cs sl (pc + 3) ls (.int r :: st) svSH a b c) : svJ l G R (RX6, cc, nL, ret, nm) F cs sl pc ls (v1 :: v0 :: st) svSH hi hl hr :=
  J_callSN (M := (RX6, cc, nL, ret, nm)) (As := [v0, v1]) (n := 2) T calX7_at "StrangerVotes" wmX6_50 (sv_in 412 (by decide +kernel) (by decide +kernel)) rfl rfl hrest hR d (fun v sh' a b c h => by
    obtain ⟨r, rfl, rfl, hp⟩ := h
    exact kk r a b c hp)
theorem wmX6_54 : Cond.methodLinkNest RX6 54 yX7_bit "StrangerVotes" ∈ sv_nest := sv_nest_in 535 (by decide +kernel) (by decide +kernel)
theorem caX6_54 {v0 v1 : Value} {rm : Room} {post : Int32 → svH → svL → svR → Prop} (T : svI l G yX7_bit mX7_bit rm [v0, v1] hi hl hr post) (hrest : (st.map fun v => v.category).sum ≤ 8) (hR : sv_rooms R rm mX7_bit cs sl 0 0) (d : decode cc pc = .ok (.invokestatic 54, 3)) (kk : ∀ (r : Int32) (a : svH) (b : svL) (c : svR), post r a b c → svJ l G R (RX6, cc, nL, ret, nm) F cs sl (pc + 3) ls (.int r :: st) svSH a b c) : svJ l G R (RX6, cc, nL, ret, nm) F cs sl pc ls (v1 :: v0 :: st) svSH hi hl hr :=
  J_callSN (M := (RX6, cc, nL, ret, nm)) (As := [v0, v1]) (n := 2) T calX7_bit "StrangerVotes" wmX6_54 (sv_in 415 (by decide +kernel) (by decide +kernel)) rfl rfl hrest hR d (fun v sh' a b c h => by
    obtain ⟨r, rfl, rfl, hp⟩ := h
    exact kk r a b c hp)
theorem wmX6_58 : Cond.methodLink RX6 58 yJ6_numberOfTrailingZeros_0f7a4 ∈ sv_tbl := (sv_in 536 (by decide +kernel) (by decide +kernel))
theorem caX6_58 {v0 : Value} {rm : Room} {post : Int32 → svH → svL → svR → Prop} (T : svI l G yJ6_numberOfTrailingZeros_0f7a4 mJ6_numberOfTrailingZeros_0f7a4 rm [v0] hi hl hr post) (hrest : (st.map fun v => v.category).sum ≤ 8) (hR : sv_rooms R rm mJ6_numberOfTrailingZeros_0f7a4 cs sl 0 0) (d : decode cc pc = .ok (.invokestatic 58, 3)) (kk : ∀ (r : Int32) (a : svH) (b : svL) (c : svR), post r a b c → svJ l G R (RX6, cc, nL, ret, nm) F cs sl (pc + 3) ls (.int r :: st) svSH a b c) : svJ l G R (RX6, cc, nL, ret, nm) F cs sl pc ls (v0 :: st) svSH hi hl hr :=
  J_callS (M := (RX6, cc, nL, ret, nm)) (As := [v0]) (n := 1) T calJ6_numberOfTrailingZeros_0f7a4 wmX6_58 (sv_in 537 (by decide +kernel) (by decide +kernel)) rfl rfl hrest hR d (fun v sh' a b c h => by
    obtain ⟨r, rfl, rfl, hp⟩ := h
    exact kk r a b c hp)
theorem wfX6_15 : Cond.fieldLink RX6 15 (TX6 1).1 (TX6 1).2.1 (TX6 1).2.2.1 ∈ sv_tbl := (sv_in 84 (by decide +kernel) (by decide +kernel))
theorem fpX6_15 {i : Nat} {x : Int32} (hsh : sh[i]? = some (0, 6)) (d : decode cc pc = .ok (.putfield 15, 3)) (kk : svJ l G R (RX6, cc, nL, ret, nm) F cs sl (pc + 3) ls st sh (sv_u2 hi i 1 x) hl hr) : svJ l G R (RX6, cc, nL, ret, nm) F cs sl pc ls (.int x :: sv_rf G.1 i :: st) sh hi hl hr :=
  J_putI (M := (RX6, cc, nL, ret, nm)) (k := 1) inX6 tyX6_ok nmX6 rfl (by decide) rfl rfl wfX6_15 rfl rfl rfl hsh d kk
theorem wfX6_18 : Cond.fieldLink RX6 18 (TX6 2).1 (TX6 2).2.1 (TX6 2).2.2.1 ∈ sv_tbl := (sv_in 87 (by decide +kernel) (by decide +kernel))
theorem fpX6_18 {i : Nat} {x : Int32} (hsh : sh[i]? = some (0, 6)) (d : decode cc pc = .ok (.putfield 18, 3)) (kk : svJ l G R (RX6, cc, nL, ret, nm) F cs sl (pc + 3) ls st sh (sv_u2 hi i 2 x) hl hr) : svJ l G R (RX6, cc, nL, ret, nm) F cs sl pc ls (.int x :: sv_rf G.1 i :: st) sh hi hl hr :=
  J_putI (M := (RX6, cc, nL, ret, nm)) (k := 2) inX6 tyX6_ok nmX6 rfl (by decide) rfl rfl wfX6_18 rfl rfl rfl hsh d kk
theorem fpX6_21 {i : Nat} {x : Int32} (hsh : sh[i]? = some (0, 6)) (d : decode cc pc = .ok (.putfield 21, 3)) (kk : svJ l G R (RX6, cc, nL, ret, nm) F cs sl (pc + 3) ls st sh (sv_u2 hi i 3 x) hl hr) : svJ l G R (RX6, cc, nL, ret, nm) F cs sl pc ls (.int x :: sv_rf G.1 i :: st) sh hi hl hr :=
  J_putI (M := (RX6, cc, nL, ret, nm)) (k := 3) inX6 tyX6_ok nmX6 rfl (by decide) rfl rfl wfX6_21 rfl rfl rfl hsh d kk
theorem fpX6_24 {i : Nat} {x : Int32} (hsh : sh[i]? = some (0, 6)) (d : decode cc pc = .ok (.putfield 24, 3)) (kk : svJ l G R (RX6, cc, nL, ret, nm) F cs sl (pc + 3) ls st sh (sv_u2 hi i 4 x) hl hr) : svJ l G R (RX6, cc, nL, ret, nm) F cs sl pc ls (.int x :: sv_rf G.1 i :: st) sh hi hl hr :=
  J_putI (M := (RX6, cc, nL, ret, nm)) (k := 4) inX6 tyX6_ok nmX6 rfl (by decide) rfl rfl wfX6_24 rfl rfl rfl hsh d kk
theorem fpX6_27 {i x : Nat} (hnm : nm = "<init>") (hsh : sh[i]? = some (0, 6)) (d : decode cc pc = .ok (.putfield 27, 3)) (kk : svJ l G R (RX6, cc, nL, ret, nm) F cs sl (pc + 3) ls st sh hi hl (sv_u2 hr i 5 (some x))) : svJ l G R (RX6, cc, nL, ret, nm) F cs sl pc ls (sv_rf G.1 x :: sv_rf G.1 i :: st) sh hi hl hr :=
  J_putRF (M := (RX6, cc, nL, ret, nm)) (k := 5) inX6 tyX6_ok nmX6 rfl (by decide) rfl rfl wfX6_27 rfl hnm rfl rfl rfl hsh d kk
theorem fpX6_31 {i x : Nat} (hnm : nm = "<init>") (hsh : sh[i]? = some (0, 6)) (d : decode cc pc = .ok (.putfield 31, 3)) (kk : svJ l G R (RX6, cc, nL, ret, nm) F cs sl (pc + 3) ls st sh hi hl (sv_u2 hr i 6 (some x))) : svJ l G R (RX6, cc, nL, ret, nm) F cs sl pc ls (sv_rf G.1 x :: sv_rf G.1 i :: st) sh hi hl hr :=
  J_putRF (M := (RX6, cc, nL, ret, nm)) (k := 6) inX6 tyX6_ok nmX6 rfl (by decide) rfl rfl wfX6_31 rfl hnm rfl rfl rfl hsh d kk
theorem fpX6_34 {i x : Nat} (hnm : nm = "<init>") (hsh : sh[i]? = some (0, 6)) (d : decode cc pc = .ok (.putfield 34, 3)) (kk : svJ l G R (RX6, cc, nL, ret, nm) F cs sl (pc + 3) ls st sh hi hl (sv_u2 hr i 7 (some x))) : svJ l G R (RX6, cc, nL, ret, nm) F cs sl pc ls (sv_rf G.1 x :: sv_rf G.1 i :: st) sh hi hl hr :=
  J_putRF (M := (RX6, cc, nL, ret, nm)) (k := 7) inX6 tyX6_ok nmX6 rfl (by decide) rfl rfl wfX6_34 rfl hnm rfl rfl rfl hsh d kk
theorem fpX6_37 {i x : Nat} (hnm : nm = "<init>") (hsh : sh[i]? = some (0, 6)) (d : decode cc pc = .ok (.putfield 37, 3)) (kk : svJ l G R (RX6, cc, nL, ret, nm) F cs sl (pc + 3) ls st sh hi hl (sv_u2 hr i 8 (some x))) : svJ l G R (RX6, cc, nL, ret, nm) F cs sl pc ls (sv_rf G.1 x :: sv_rf G.1 i :: st) sh hi hl hr :=
  J_putRF (M := (RX6, cc, nL, ret, nm)) (k := 8) inX6 tyX6_ok nmX6 rfl (by decide) rfl rfl wfX6_37 rfl hnm rfl rfl rfl hsh d kk
theorem fpX6_40 {i x : Nat} (hnm : nm = "<init>") (hsh : sh[i]? = some (0, 6)) (d : decode cc pc = .ok (.putfield 40, 3)) (kk : svJ l G R (RX6, cc, nL, ret, nm) F cs sl (pc + 3) ls st sh hi hl (sv_u2 hr i 9 (some x))) : svJ l G R (RX6, cc, nL, ret, nm) F cs sl pc ls (sv_rf G.1 x :: sv_rf G.1 i :: st) sh hi hl hr :=
  J_putRF (M := (RX6, cc, nL, ret, nm)) (k := 9) inX6 tyX6_ok nmX6 rfl (by decide) rfl rfl wfX6_40 rfl hnm rfl rfl rfl hsh d kk
theorem fpX6_43 {i x : Nat} (hnm : nm = "<init>") (hsh : sh[i]? = some (0, 6)) (d : decode cc pc = .ok (.putfield 43, 3)) (kk : svJ l G R (RX6, cc, nL, ret, nm) F cs sl (pc + 3) ls st sh hi hl (sv_u2 hr i 10 (some x))) : svJ l G R (RX6, cc, nL, ret, nm) F cs sl pc ls (sv_rf G.1 x :: sv_rf G.1 i :: st) sh hi hl hr :=
  J_putRF (M := (RX6, cc, nL, ret, nm)) (k := 10) inX6 tyX6_ok nmX6 rfl (by decide) rfl rfl wfX6_43 rfl hnm rfl rfl rfl hsh d kk
theorem wfX6_9 : Cond.fieldLink RX6 9 (TX6 0).1 (TX6 0).2.1 (TX6 0).2.2.1 ∈ sv_tbl := (sv_in 80 (by decide +kernel) (by decide +kernel))
theorem fpX6_9 {i : Nat} {x : Int32} (hsh : sh[i]? = some (0, 6)) (d : decode cc pc = .ok (.putfield 9, 3)) (kk : svJ l G R (RX6, cc, nL, ret, nm) F cs sl (pc + 3) ls st sh (sv_u2 hi i 0 x) hl hr) : svJ l G R (RX6, cc, nL, ret, nm) F cs sl pc ls (.int x :: sv_rf G.1 i :: st) sh hi hl hr :=
  J_putI (M := (RX6, cc, nL, ret, nm)) (k := 0) inX6 tyX6_ok nmX6 rfl (by decide) rfl rfl wfX6_9 rfl rfl rfl hsh d kk
theorem wfX7_10 : Cond.fieldLink RX7 10 (TX7 0).1 (TX7 0).2.1 (TX7 0).2.2.1 ∈ sv_tbl := (sv_in 278 (by decide +kernel) (by decide +kernel))
theorem fgX7_10 {i q : Nat} (hsh : sh[i]? = some (0, 7)) (hv : hr i 0 = some q) (d : decode cc pc = .ok (.getfield 10, 3)) (kk : svJ l G R (RX7, cc, nL, ret, nm) F cs sl (pc + 3) ls (sv_rf G.1 q :: st) sh hi hl hr) : svJ l G R (RX7, cc, nL, ret, nm) F cs sl pc ls (sv_rf G.1 i :: st) sh hi hl hr := by
  refine J_get (M := (RX7, cc, nL, ret, nm)) (k := 0) inX7 rfl (by decide) rfl wfX7_10 hsh d ?_
  show svJ l G R (RX7, cc, nL, ret, nm) F cs sl (pc + 3) ls (sv_rv G.1 (hr i 0) :: st) sh hi hl hr
  rw [sv_rv_some hv]
  exact kk
theorem wfX7_101 : Cond.fieldLink RX7 101 (TX3 6).1 (TX3 6).2.1 (TX3 6).2.2.1 ∈ sv_tbl := (sv_in 180 (by decide +kernel) (by decide +kernel))
theorem fgX7_101 {i q : Nat} (hsh : sh[i]? = some (0, 3)) (hv : hr i 6 = some q) (d : decode cc pc = .ok (.getfield 101, 3)) (kk : svJ l G R (RX7, cc, nL, ret, nm) F cs sl (pc + 3) ls (sv_rf G.1 q :: st) sh hi hl hr) : svJ l G R (RX7, cc, nL, ret, nm) F cs sl pc ls (sv_rf G.1 i :: st) sh hi hl hr := by
  refine J_get (M := (RX7, cc, nL, ret, nm)) (k := 6) inX3 rfl (by decide) rfl wfX7_101 hsh d ?_
  show svJ l G R (RX7, cc, nL, ret, nm) F cs sl (pc + 3) ls (sv_rv G.1 (hr i 6) :: st) sh hi hl hr
  rw [sv_rv_some hv]
  exact kk
theorem wfX7_109 : Cond.fieldLink RX7 109 (TX6 6).1 (TX6 6).2.1 (TX6 6).2.2.1 ∈ sv_tbl := (sv_in 100 (by decide +kernel) (by decide +kernel))
theorem fgX7_109 {i q : Nat} (hsh : sh[i]? = some (0, 6)) (hv : hr i 6 = some q) (d : decode cc pc = .ok (.getfield 109, 3)) (kk : svJ l G R (RX7, cc, nL, ret, nm) F cs sl (pc + 3) ls (sv_rf G.1 q :: st) sh hi hl hr) : svJ l G R (RX7, cc, nL, ret, nm) F cs sl pc ls (sv_rf G.1 i :: st) sh hi hl hr := by
  refine J_get (M := (RX7, cc, nL, ret, nm)) (k := 6) inX6 rfl (by decide) rfl wfX7_109 hsh d ?_
  show svJ l G R (RX7, cc, nL, ret, nm) F cs sl (pc + 3) ls (sv_rv G.1 (hr i 6) :: st) sh hi hl hr
  rw [sv_rv_some hv]
  exact kk
theorem wfX7_112 : Cond.fieldLink RX7 112 (TX3 7).1 (TX3 7).2.1 (TX3 7).2.2.1 ∈ sv_tbl := (sv_in 182 (by decide +kernel) (by decide +kernel))
theorem fgX7_112 {i q : Nat} (hsh : sh[i]? = some (0, 3)) (hv : hr i 7 = some q) (d : decode cc pc = .ok (.getfield 112, 3)) (kk : svJ l G R (RX7, cc, nL, ret, nm) F cs sl (pc + 3) ls (sv_rf G.1 q :: st) sh hi hl hr) : svJ l G R (RX7, cc, nL, ret, nm) F cs sl pc ls (sv_rf G.1 i :: st) sh hi hl hr := by
  refine J_get (M := (RX7, cc, nL, ret, nm)) (k := 7) inX3 rfl (by decide) rfl wfX7_112 hsh d ?_
  show svJ l G R (RX7, cc, nL, ret, nm) F cs sl (pc + 3) ls (sv_rv G.1 (hr i 7) :: st) sh hi hl hr
  rw [sv_rv_some hv]
  exact kk
theorem wfX7_115 : Cond.fieldLink RX7 115 (TX3 3).1 (TX3 3).2.1 (TX3 3).2.2.1 ∈ sv_tbl := (sv_in 174 (by decide +kernel) (by decide +kernel))
theorem fgX7_115 {i : Nat} (hsh : sh[i]? = some (0, 3)) (d : decode cc pc = .ok (.getfield 115, 3)) (kk : svJ l G R (RX7, cc, nL, ret, nm) F cs sl (pc + 3) ls (.int (hi i 3) :: st) sh hi hl hr) : svJ l G R (RX7, cc, nL, ret, nm) F cs sl pc ls (sv_rf G.1 i :: st) sh hi hl hr :=
  J_get (M := (RX7, cc, nL, ret, nm)) (k := 3) inX3 rfl (by decide) rfl wfX7_115 hsh d kk
theorem wfX7_122 : Cond.fieldLink RX7 122 (TX6 4).1 (TX6 4).2.1 (TX6 4).2.2.1 ∈ sv_tbl := (sv_in 96 (by decide +kernel) (by decide +kernel))
theorem fgX7_122 {i : Nat} (hsh : sh[i]? = some (0, 6)) (d : decode cc pc = .ok (.getfield 122, 3)) (kk : svJ l G R (RX7, cc, nL, ret, nm) F cs sl (pc + 3) ls (.int (hi i 4) :: st) sh hi hl hr) : svJ l G R (RX7, cc, nL, ret, nm) F cs sl pc ls (sv_rf G.1 i :: st) sh hi hl hr :=
  J_get (M := (RX7, cc, nL, ret, nm)) (k := 4) inX6 rfl (by decide) rfl wfX7_122 hsh d kk
theorem wfX7_125 : Cond.fieldLink RX7 125 (TX6 8).1 (TX6 8).2.1 (TX6 8).2.2.1 ∈ sv_tbl := (sv_in 105 (by decide +kernel) (by decide +kernel))
theorem fgX7_125 {i q : Nat} (hsh : sh[i]? = some (0, 6)) (hv : hr i 8 = some q) (d : decode cc pc = .ok (.getfield 125, 3)) (kk : svJ l G R (RX7, cc, nL, ret, nm) F cs sl (pc + 3) ls (sv_rf G.1 q :: st) sh hi hl hr) : svJ l G R (RX7, cc, nL, ret, nm) F cs sl pc ls (sv_rf G.1 i :: st) sh hi hl hr := by
  refine J_get (M := (RX7, cc, nL, ret, nm)) (k := 8) inX6 rfl (by decide) rfl wfX7_125 hsh d ?_
  show svJ l G R (RX7, cc, nL, ret, nm) F cs sl (pc + 3) ls (sv_rv G.1 (hr i 8) :: st) sh hi hl hr
  rw [sv_rv_some hv]
  exact kk
theorem wfX7_128 : Cond.fieldLink RX7 128 (TX6 9).1 (TX6 9).2.1 (TX6 9).2.2.1 ∈ sv_tbl := (sv_in 107 (by decide +kernel) (by decide +kernel))
theorem fgX7_128 {i q : Nat} (hsh : sh[i]? = some (0, 6)) (hv : hr i 9 = some q) (d : decode cc pc = .ok (.getfield 128, 3)) (kk : svJ l G R (RX7, cc, nL, ret, nm) F cs sl (pc + 3) ls (sv_rf G.1 q :: st) sh hi hl hr) : svJ l G R (RX7, cc, nL, ret, nm) F cs sl pc ls (sv_rf G.1 i :: st) sh hi hl hr := by
  refine J_get (M := (RX7, cc, nL, ret, nm)) (k := 9) inX6 rfl (by decide) rfl wfX7_128 hsh d ?_
  show svJ l G R (RX7, cc, nL, ret, nm) F cs sl (pc + 3) ls (sv_rv G.1 (hr i 9) :: st) sh hi hl hr
  rw [sv_rv_some hv]
  exact kk
theorem wfX7_131 : Cond.fieldLink RX7 131 (TX6 10).1 (TX6 10).2.1 (TX6 10).2.2.1 ∈ sv_tbl := (sv_in 109 (by decide +kernel) (by decide +kernel))
theorem fgX7_131 {i q : Nat} (hsh : sh[i]? = some (0, 6)) (hv : hr i 10 = some q) (d : decode cc pc = .ok (.getfield 131, 3)) (kk : svJ l G R (RX7, cc, nL, ret, nm) F cs sl (pc + 3) ls (sv_rf G.1 q :: st) sh hi hl hr) : svJ l G R (RX7, cc, nL, ret, nm) F cs sl pc ls (sv_rf G.1 i :: st) sh hi hl hr := by
  refine J_get (M := (RX7, cc, nL, ret, nm)) (k := 10) inX6 rfl (by decide) rfl wfX7_131 hsh d ?_
  show svJ l G R (RX7, cc, nL, ret, nm) F cs sl (pc + 3) ls (sv_rv G.1 (hr i 10) :: st) sh hi hl hr
  rw [sv_rv_some hv]
  exact kk
theorem wfX7_134 : Cond.fieldLink RX7 134 (TX3 4).1 (TX3 4).2.1 (TX3 4).2.2.1 ∈ sv_tbl := (sv_in 176 (by decide +kernel) (by decide +kernel))
theorem fgX7_134 {i : Nat} (hsh : sh[i]? = some (0, 3)) (d : decode cc pc = .ok (.getfield 134, 3)) (kk : svJ l G R (RX7, cc, nL, ret, nm) F cs sl (pc + 3) ls (.int (hi i 4) :: st) sh hi hl hr) : svJ l G R (RX7, cc, nL, ret, nm) F cs sl pc ls (sv_rf G.1 i :: st) sh hi hl hr :=
  J_get (M := (RX7, cc, nL, ret, nm)) (k := 4) inX3 rfl (by decide) rfl wfX7_134 hsh d kk
theorem wfX7_137 : Cond.fieldLink RX7 137 (TX6 0).1 (TX6 0).2.1 (TX6 0).2.2.1 ∈ sv_tbl := (sv_in 83 (by decide +kernel) (by decide +kernel))
theorem fgX7_137 {i : Nat} (hsh : sh[i]? = some (0, 6)) (d : decode cc pc = .ok (.getfield 137, 3)) (kk : svJ l G R (RX7, cc, nL, ret, nm) F cs sl (pc + 3) ls (.int (hi i 0) :: st) sh hi hl hr) : svJ l G R (RX7, cc, nL, ret, nm) F cs sl pc ls (sv_rf G.1 i :: st) sh hi hl hr :=
  J_get (M := (RX7, cc, nL, ret, nm)) (k := 0) inX6 rfl (by decide) rfl wfX7_137 hsh d kk
theorem wfX7_147 : Cond.fieldLink RX7 147 (TX0 0).1 (TX0 0).2.1 (TX0 0).2.2.1 ∈ sv_tbl := (sv_in 224 (by decide +kernel) (by decide +kernel))
theorem fgX7_147 {i q : Nat} (hsh : sh[i]? = some (0, 0)) (hv : hr i 0 = some q) (d : decode cc pc = .ok (.getfield 147, 3)) (kk : svJ l G R (RX7, cc, nL, ret, nm) F cs sl (pc + 3) ls (sv_rf G.1 q :: st) sh hi hl hr) : svJ l G R (RX7, cc, nL, ret, nm) F cs sl pc ls (sv_rf G.1 i :: st) sh hi hl hr := by
  refine J_get (M := (RX7, cc, nL, ret, nm)) (k := 0) inX0 rfl (by decide) rfl wfX7_147 hsh d ?_
  show svJ l G R (RX7, cc, nL, ret, nm) F cs sl (pc + 3) ls (sv_rv G.1 (hr i 0) :: st) sh hi hl hr
  rw [sv_rv_some hv]
  exact kk
theorem wfX7_150 : Cond.fieldLink RX7 150 (TX3 0).1 (TX3 0).2.1 (TX3 0).2.2.1 ∈ sv_tbl := (sv_in 168 (by decide +kernel) (by decide +kernel))
theorem fgX7_150 {i : Nat} (hsh : sh[i]? = some (0, 3)) (d : decode cc pc = .ok (.getfield 150, 3)) (kk : svJ l G R (RX7, cc, nL, ret, nm) F cs sl (pc + 3) ls (.int (hi i 0) :: st) sh hi hl hr) : svJ l G R (RX7, cc, nL, ret, nm) F cs sl pc ls (sv_rf G.1 i :: st) sh hi hl hr :=
  J_get (M := (RX7, cc, nL, ret, nm)) (k := 0) inX3 rfl (by decide) rfl wfX7_150 hsh d kk
theorem wfX7_157 : Cond.fieldLink RX7 157 (TX3 2).1 (TX3 2).2.1 (TX3 2).2.2.1 ∈ sv_tbl := (sv_in 172 (by decide +kernel) (by decide +kernel))
theorem fgX7_157 {i : Nat} (hsh : sh[i]? = some (0, 3)) (d : decode cc pc = .ok (.getfield 157, 3)) (kk : svJ l G R (RX7, cc, nL, ret, nm) F cs sl (pc + 3) ls (.int (hi i 2) :: st) sh hi hl hr) : svJ l G R (RX7, cc, nL, ret, nm) F cs sl pc ls (sv_rf G.1 i :: st) sh hi hl hr :=
  J_get (M := (RX7, cc, nL, ret, nm)) (k := 2) inX3 rfl (by decide) rfl wfX7_157 hsh d kk
theorem wfX7_16 : Cond.fieldLink RX7 16 (TX7 1).1 (TX7 1).2.1 (TX7 1).2.2.1 ∈ sv_tbl := (sv_in 279 (by decide +kernel) (by decide +kernel))
theorem fgX7_16 {i q : Nat} (hsh : sh[i]? = some (0, 7)) (hv : hr i 1 = some q) (d : decode cc pc = .ok (.getfield 16, 3)) (kk : svJ l G R (RX7, cc, nL, ret, nm) F cs sl (pc + 3) ls (sv_rf G.1 q :: st) sh hi hl hr) : svJ l G R (RX7, cc, nL, ret, nm) F cs sl pc ls (sv_rf G.1 i :: st) sh hi hl hr := by
  refine J_get (M := (RX7, cc, nL, ret, nm)) (k := 1) inX7 rfl (by decide) rfl wfX7_16 hsh d ?_
  show svJ l G R (RX7, cc, nL, ret, nm) F cs sl (pc + 3) ls (sv_rv G.1 (hr i 1) :: st) sh hi hl hr
  rw [sv_rv_some hv]
  exact kk
theorem wfX7_167 : Cond.fieldLink RX7 167 (TX3 1).1 (TX3 1).2.1 (TX3 1).2.2.1 ∈ sv_tbl := (sv_in 170 (by decide +kernel) (by decide +kernel))
theorem fgX7_167 {i : Nat} (hsh : sh[i]? = some (0, 3)) (d : decode cc pc = .ok (.getfield 167, 3)) (kk : svJ l G R (RX7, cc, nL, ret, nm) F cs sl (pc + 3) ls (.int (hi i 1) :: st) sh hi hl hr) : svJ l G R (RX7, cc, nL, ret, nm) F cs sl pc ls (sv_rf G.1 i :: st) sh hi hl hr :=
  J_get (M := (RX7, cc, nL, ret, nm)) (k := 1) inX3 rfl (by decide) rfl wfX7_167 hsh d kk
theorem wfX7_179 : Cond.fieldLink RX7 179 (TX3 5).1 (TX3 5).2.1 (TX3 5).2.2.1 ∈ sv_tbl := (sv_in 178 (by decide +kernel) (by decide +kernel))
theorem fgX7_179 {i q : Nat} (hsh : sh[i]? = some (0, 3)) (hv : hr i 5 = some q) (d : decode cc pc = .ok (.getfield 179, 3)) (kk : svJ l G R (RX7, cc, nL, ret, nm) F cs sl (pc + 3) ls (sv_rf G.1 q :: st) sh hi hl hr) : svJ l G R (RX7, cc, nL, ret, nm) F cs sl pc ls (sv_rf G.1 i :: st) sh hi hl hr := by
  refine J_get (M := (RX7, cc, nL, ret, nm)) (k := 5) inX3 rfl (by decide) rfl wfX7_179 hsh d ?_
  show svJ l G R (RX7, cc, nL, ret, nm) F cs sl (pc + 3) ls (sv_rv G.1 (hr i 5) :: st) sh hi hl hr
  rw [sv_rv_some hv]
  exact kk
theorem wfX7_188 : Cond.fieldLink RX7 188 (TX6 1).1 (TX6 1).2.1 (TX6 1).2.2.1 ∈ sv_tbl := (sv_in 86 (by decide +kernel) (by decide +kernel))
theorem fgX7_188 {i : Nat} (hsh : sh[i]? = some (0, 6)) (d : decode cc pc = .ok (.getfield 188, 3)) (kk : svJ l G R (RX7, cc, nL, ret, nm) F cs sl (pc + 3) ls (.int (hi i 1) :: st) sh hi hl hr) : svJ l G R (RX7, cc, nL, ret, nm) F cs sl pc ls (sv_rf G.1 i :: st) sh hi hl hr :=
  J_get (M := (RX7, cc, nL, ret, nm)) (k := 1) inX6 rfl (by decide) rfl wfX7_188 hsh d kk
theorem wfX7_218 : Cond.fieldLink RX7 218 (TX1 1).1 (TX1 1).2.1 (TX1 1).2.2.1 ∈ sv_tbl := (sv_in 240 (by decide +kernel) (by decide +kernel))
theorem fgX7_218 {i : Nat} (hsh : sh[i]? = some (0, 1)) (d : decode cc pc = .ok (.getfield 218, 3)) (kk : svJ l G R (RX7, cc, nL, ret, nm) F cs sl (pc + 3) ls (.int (hi i 1) :: st) sh hi hl hr) : svJ l G R (RX7, cc, nL, ret, nm) F cs sl pc ls (sv_rf G.1 i :: st) sh hi hl hr :=
  J_get (M := (RX7, cc, nL, ret, nm)) (k := 1) inX1 rfl (by decide) rfl wfX7_218 hsh d kk
theorem wfX7_22 : Cond.fieldLink RX7 22 (TX7 2).1 (TX7 2).2.1 (TX7 2).2.2.1 ∈ sv_tbl := (sv_in 280 (by decide +kernel) (by decide +kernel))
theorem fgX7_22 {i q : Nat} (hsh : sh[i]? = some (0, 7)) (hv : hr i 2 = some q) (d : decode cc pc = .ok (.getfield 22, 3)) (kk : svJ l G R (RX7, cc, nL, ret, nm) F cs sl (pc + 3) ls (sv_rf G.1 q :: st) sh hi hl hr) : svJ l G R (RX7, cc, nL, ret, nm) F cs sl pc ls (sv_rf G.1 i :: st) sh hi hl hr := by
  refine J_get (M := (RX7, cc, nL, ret, nm)) (k := 2) inX7 rfl (by decide) rfl wfX7_22 hsh d ?_
  show svJ l G R (RX7, cc, nL, ret, nm) F cs sl (pc + 3) ls (sv_rv G.1 (hr i 2) :: st) sh hi hl hr
  rw [sv_rv_some hv]
  exact kk
theorem wfX7_250 : Cond.fieldLink RX7 250 (TX2 1).1 (TX2 1).2.1 (TX2 1).2.2.1 ∈ sv_tbl := (sv_in 268 (by decide +kernel) (by decide +kernel))
theorem fgX7_250 {i q : Nat} (hsh : sh[i]? = some (0, 2)) (hv : hr i 1 = some q) (d : decode cc pc = .ok (.getfield 250, 3)) (kk : svJ l G R (RX7, cc, nL, ret, nm) F cs sl (pc + 3) ls (sv_rf G.1 q :: st) sh hi hl hr) : svJ l G R (RX7, cc, nL, ret, nm) F cs sl pc ls (sv_rf G.1 i :: st) sh hi hl hr := by
  refine J_get (M := (RX7, cc, nL, ret, nm)) (k := 1) inX2 rfl (by decide) rfl wfX7_250 hsh d ?_
  show svJ l G R (RX7, cc, nL, ret, nm) F cs sl (pc + 3) ls (sv_rv G.1 (hr i 1) :: st) sh hi hl hr
  rw [sv_rv_some hv]
  exact kk
theorem wfX7_256 : Cond.fieldLink RX7 256 (TX2 2).1 (TX2 2).2.1 (TX2 2).2.2.1 ∈ sv_tbl := (sv_in 270 (by decide +kernel) (by decide +kernel))
theorem fgX7_256 {i q : Nat} (hsh : sh[i]? = some (0, 2)) (hv : hr i 2 = some q) (d : decode cc pc = .ok (.getfield 256, 3)) (kk : svJ l G R (RX7, cc, nL, ret, nm) F cs sl (pc + 3) ls (sv_rf G.1 q :: st) sh hi hl hr) : svJ l G R (RX7, cc, nL, ret, nm) F cs sl pc ls (sv_rf G.1 i :: st) sh hi hl hr := by
  refine J_get (M := (RX7, cc, nL, ret, nm)) (k := 2) inX2 rfl (by decide) rfl wfX7_256 hsh d ?_
  show svJ l G R (RX7, cc, nL, ret, nm) F cs sl (pc + 3) ls (sv_rv G.1 (hr i 2) :: st) sh hi hl hr
  rw [sv_rv_some hv]
  exact kk
theorem wfX7_29 : Cond.fieldLink RX7 29 (TX7 3).1 (TX7 3).2.1 (TX7 3).2.2.1 ∈ sv_tbl := (sv_in 281 (by decide +kernel) (by decide +kernel))
theorem fgX7_29 {i q : Nat} (hsh : sh[i]? = some (0, 7)) (hv : hr i 3 = some q) (d : decode cc pc = .ok (.getfield 29, 3)) (kk : svJ l G R (RX7, cc, nL, ret, nm) F cs sl (pc + 3) ls (sv_rf G.1 q :: st) sh hi hl hr) : svJ l G R (RX7, cc, nL, ret, nm) F cs sl pc ls (sv_rf G.1 i :: st) sh hi hl hr := by
  refine J_get (M := (RX7, cc, nL, ret, nm)) (k := 3) inX7 rfl (by decide) rfl wfX7_29 hsh d ?_
  show svJ l G R (RX7, cc, nL, ret, nm) F cs sl (pc + 3) ls (sv_rv G.1 (hr i 3) :: st) sh hi hl hr
  rw [sv_rv_some hv]
  exact kk
theorem wfX7_36 : Cond.fieldLink RX7 36 (TX7 4).1 (TX7 4).2.1 (TX7 4).2.2.1 ∈ sv_tbl := (sv_in 282 (by decide +kernel) (by decide +kernel))
theorem fgX7_36 {i q : Nat} (hsh : sh[i]? = some (0, 7)) (hv : hr i 4 = some q) (d : decode cc pc = .ok (.getfield 36, 3)) (kk : svJ l G R (RX7, cc, nL, ret, nm) F cs sl (pc + 3) ls (sv_rf G.1 q :: st) sh hi hl hr) : svJ l G R (RX7, cc, nL, ret, nm) F cs sl pc ls (sv_rf G.1 i :: st) sh hi hl hr := by
  refine J_get (M := (RX7, cc, nL, ret, nm)) (k := 4) inX7 rfl (by decide) rfl wfX7_36 hsh d ?_
  show svJ l G R (RX7, cc, nL, ret, nm) F cs sl (pc + 3) ls (sv_rv G.1 (hr i 4) :: st) sh hi hl hr
  rw [sv_rv_some hv]
  exact kk
theorem wfX7_43 : Cond.fieldLink RX7 43 (TX7 5).1 (TX7 5).2.1 (TX7 5).2.2.1 ∈ sv_tbl := (sv_in 283 (by decide +kernel) (by decide +kernel))
theorem fgX7_43 {i q : Nat} (hsh : sh[i]? = some (0, 7)) (hv : hr i 5 = some q) (d : decode cc pc = .ok (.getfield 43, 3)) (kk : svJ l G R (RX7, cc, nL, ret, nm) F cs sl (pc + 3) ls (sv_rf G.1 q :: st) sh hi hl hr) : svJ l G R (RX7, cc, nL, ret, nm) F cs sl pc ls (sv_rf G.1 i :: st) sh hi hl hr := by
  refine J_get (M := (RX7, cc, nL, ret, nm)) (k := 5) inX7 rfl (by decide) rfl wfX7_43 hsh d ?_
  show svJ l G R (RX7, cc, nL, ret, nm) F cs sl (pc + 3) ls (sv_rv G.1 (hr i 5) :: st) sh hi hl hr
  rw [sv_rv_some hv]
  exact kk
theorem wfX7_50 : Cond.fieldLink RX7 50 (TX7 6).1 (TX7 6).2.1 (TX7 6).2.2.1 ∈ sv_tbl := (sv_in 284 (by decide +kernel) (by decide +kernel))
theorem fgX7_50 {i q : Nat} (hsh : sh[i]? = some (0, 7)) (hv : hr i 6 = some q) (d : decode cc pc = .ok (.getfield 50, 3)) (kk : svJ l G R (RX7, cc, nL, ret, nm) F cs sl (pc + 3) ls (sv_rf G.1 q :: st) sh hi hl hr) : svJ l G R (RX7, cc, nL, ret, nm) F cs sl pc ls (sv_rf G.1 i :: st) sh hi hl hr := by
  refine J_get (M := (RX7, cc, nL, ret, nm)) (k := 6) inX7 rfl (by decide) rfl wfX7_50 hsh d ?_
  show svJ l G R (RX7, cc, nL, ret, nm) F cs sl (pc + 3) ls (sv_rv G.1 (hr i 6) :: st) sh hi hl hr
  rw [sv_rv_some hv]
  exact kk
theorem wfX7_57 : Cond.fieldLink RX7 57 (TX7 7).1 (TX7 7).2.1 (TX7 7).2.2.1 ∈ sv_tbl := (sv_in 285 (by decide +kernel) (by decide +kernel))
theorem fgX7_57 {i q : Nat} (hsh : sh[i]? = some (0, 7)) (hv : hr i 7 = some q) (d : decode cc pc = .ok (.getfield 57, 3)) (kk : svJ l G R (RX7, cc, nL, ret, nm) F cs sl (pc + 3) ls (sv_rf G.1 q :: st) sh hi hl hr) : svJ l G R (RX7, cc, nL, ret, nm) F cs sl pc ls (sv_rf G.1 i :: st) sh hi hl hr := by
  refine J_get (M := (RX7, cc, nL, ret, nm)) (k := 7) inX7 rfl (by decide) rfl wfX7_57 hsh d ?_
  show svJ l G R (RX7, cc, nL, ret, nm) F cs sl (pc + 3) ls (sv_rv G.1 (hr i 7) :: st) sh hi hl hr
  rw [sv_rv_some hv]
  exact kk
theorem wfX7_61 : Cond.fieldLink RX7 61 (TX7 8).1 (TX7 8).2.1 (TX7 8).2.2.1 ∈ sv_tbl := (sv_in 286 (by decide +kernel) (by decide +kernel))
theorem fgX7_61 {i q : Nat} (hsh : sh[i]? = some (0, 7)) (hv : hr i 8 = some q) (d : decode cc pc = .ok (.getfield 61, 3)) (kk : svJ l G R (RX7, cc, nL, ret, nm) F cs sl (pc + 3) ls (sv_rf G.1 q :: st) sh hi hl hr) : svJ l G R (RX7, cc, nL, ret, nm) F cs sl pc ls (sv_rf G.1 i :: st) sh hi hl hr := by
  refine J_get (M := (RX7, cc, nL, ret, nm)) (k := 8) inX7 rfl (by decide) rfl wfX7_61 hsh d ?_
  show svJ l G R (RX7, cc, nL, ret, nm) F cs sl (pc + 3) ls (sv_rv G.1 (hr i 8) :: st) sh hi hl hr
  rw [sv_rv_some hv]
  exact kk
theorem wfX7_64 : Cond.fieldLink RX7 64 (TX7 9).1 (TX7 9).2.1 (TX7 9).2.2.1 ∈ sv_tbl := (sv_in 287 (by decide +kernel) (by decide +kernel))
theorem fgX7_64 {i : Nat} (hsh : sh[i]? = some (0, 7)) (d : decode cc pc = .ok (.getfield 64, 3)) (kk : svJ l G R (RX7, cc, nL, ret, nm) F cs sl (pc + 3) ls (.long (hl i 9) :: st) sh hi hl hr) : svJ l G R (RX7, cc, nL, ret, nm) F cs sl pc ls (sv_rf G.1 i :: st) sh hi hl hr :=
  J_get (M := (RX7, cc, nL, ret, nm)) (k := 9) inX7 rfl (by decide) rfl wfX7_64 hsh d kk
theorem wfX7_72 : Cond.fieldLink RX7 72 (TX5 0).1 (TX5 0).2.1 (TX5 0).2.2.1 ∈ sv_tbl := (sv_in 141 (by decide +kernel) (by decide +kernel))
theorem fgX7_72 {i : Nat} (hsh : sh[i]? = some (0, 5)) (d : decode cc pc = .ok (.getfield 72, 3)) (kk : svJ l G R (RX7, cc, nL, ret, nm) F cs sl (pc + 3) ls (.int (hi i 0) :: st) sh hi hl hr) : svJ l G R (RX7, cc, nL, ret, nm) F cs sl pc ls (sv_rf G.1 i :: st) sh hi hl hr :=
  J_get (M := (RX7, cc, nL, ret, nm)) (k := 0) inX5 rfl (by decide) rfl wfX7_72 hsh d kk
theorem wfX7_88 : Cond.fieldLink RX7 88 (TX4 0).1 (TX4 0).2.1 (TX4 0).2.2.1 ∈ sv_tbl := (sv_in 210 (by decide +kernel) (by decide +kernel))
theorem fgX7_88 {i : Nat} (hsh : sh[i]? = some (0, 4)) (d : decode cc pc = .ok (.getfield 88, 3)) (kk : svJ l G R (RX7, cc, nL, ret, nm) F cs sl (pc + 3) ls (.int (hi i 0) :: st) sh hi hl hr) : svJ l G R (RX7, cc, nL, ret, nm) F cs sl pc ls (sv_rf G.1 i :: st) sh hi hl hr :=
  J_get (M := (RX7, cc, nL, ret, nm)) (k := 0) inX4 rfl (by decide) rfl wfX7_88 hsh d kk
theorem wfX7_91 : Cond.fieldLink RX7 91 (TX1 0).1 (TX1 0).2.1 (TX1 0).2.2.1 ∈ sv_tbl := (sv_in 238 (by decide +kernel) (by decide +kernel))
theorem fgX7_91 {i : Nat} (hsh : sh[i]? = some (0, 1)) (d : decode cc pc = .ok (.getfield 91, 3)) (kk : svJ l G R (RX7, cc, nL, ret, nm) F cs sl (pc + 3) ls (.int (hi i 0) :: st) sh hi hl hr) : svJ l G R (RX7, cc, nL, ret, nm) F cs sl pc ls (sv_rf G.1 i :: st) sh hi hl hr :=
  J_get (M := (RX7, cc, nL, ret, nm)) (k := 0) inX1 rfl (by decide) rfl wfX7_91 hsh d kk
theorem wfX7_94 : Cond.fieldLink RX7 94 (TX2 0).1 (TX2 0).2.1 (TX2 0).2.2.1 ∈ sv_tbl := (sv_in 266 (by decide +kernel) (by decide +kernel))
theorem fgX7_94 {i : Nat} (hsh : sh[i]? = some (0, 2)) (d : decode cc pc = .ok (.getfield 94, 3)) (kk : svJ l G R (RX7, cc, nL, ret, nm) F cs sl (pc + 3) ls (.int (hi i 0) :: st) sh hi hl hr) : svJ l G R (RX7, cc, nL, ret, nm) F cs sl pc ls (sv_rf G.1 i :: st) sh hi hl hr :=
  J_get (M := (RX7, cc, nL, ret, nm)) (k := 0) inX2 rfl (by decide) rfl wfX7_94 hsh d kk
theorem wfX7_98 : Cond.fieldLink RX7 98 (TX6 3).1 (TX6 3).2.1 (TX6 3).2.2.1 ∈ sv_tbl := (sv_in 92 (by decide +kernel) (by decide +kernel))
theorem fgX7_98 {i : Nat} (hsh : sh[i]? = some (0, 6)) (d : decode cc pc = .ok (.getfield 98, 3)) (kk : svJ l G R (RX7, cc, nL, ret, nm) F cs sl (pc + 3) ls (.int (hi i 3) :: st) sh hi hl hr) : svJ l G R (RX7, cc, nL, ret, nm) F cs sl pc ls (sv_rf G.1 i :: st) sh hi hl hr :=
  J_get (M := (RX7, cc, nL, ret, nm)) (k := 3) inX6 rfl (by decide) rfl wfX7_98 hsh d kk
theorem wmX7_1 : Cond.methodLink RX7 1 Lib.objectInit ∈ sv_tbl := (sv_in 71 (by decide +kernel) (by decide +kernel))
theorem obX7_1 {i : Nat} (d : decode cc pc = .ok (.invokespecial 1, 3)) (hR : 1 ≤ R.frames) (hR2 : (st.map fun v => v.category).sum + 12 ≤ R.locals) (kk : svJ l G R (RX7, cc, nL, ret, nm) F cs sl (pc + 3) ls st sh hi hl hr) : svJ l G R (RX7, cc, nL, ret, nm) F cs sl pc ls (sv_rf G.1 i :: st) sh hi hl hr :=
  J_objInit (M := (RX7, cc, nL, ret, nm)) wmX7_1 (sv_in 72 (by decide +kernel) (by decide +kernel)) (sv_in 73 (by decide +kernel) (by decide +kernel)) d hR hR2 kk
theorem wmX7_21 : Cond.methodLinkNest RX7 21 yX5_init "StrangerVotes" ∈ sv_nest := sv_nest_in 136 (by decide +kernel) (by decide +kernel)
theorem caX7_21 {i mc ms : Nat} {rm : Room} {post : svQ} (T : svT l G yX5_init mX5_init rm mc ms (sv_rf G.1 i :: []) sh hi hl hr post) (hrest : (st.map fun v => v.category).sum ≤ 8) (hR : sv_rooms R rm mX5_init cs sl mc ms) (d : decode cc pc = .ok (.invokespecial 21, 3)) (kk : ∀ (v : Option Value) (sh' : svS) (a : svH) (b : svL) (c : svR), post v sh' a b c → svJ l G R (RX7, cc, nL, ret, nm) F (cs + mc) (sl + ms) (pc + 3) ls (v.toList ++ st) sh' a b c) : svJ l G R (RX7, cc, nL, ret, nm) F cs sl pc ls (sv_rf G.1 i :: st) sh hi hl hr :=
  J_callIN (M := (RX7, cc, nL, ret, nm)) (As := []) (n := 0) T calX5_init rfl "StrangerVotes" wmX7_21 (sv_in 137 (by decide +kernel) (by decide +kernel)) rfl rfl rfl hrest hR d kk
theorem wmX7_28 : Cond.methodLinkNest RX7 28 yX3_init "StrangerVotes" ∈ sv_nest := sv_nest_in 163 (by decide +kernel) (by decide +kernel)
theorem caX7_28 {i mc ms : Nat} {rm : Room} {post : svQ} (T : svT l G yX3_init mX3_init rm mc ms (sv_rf G.1 i :: []) sh hi hl hr post) (hrest : (st.map fun v => v.category).sum ≤ 8) (hR : sv_rooms R rm mX3_init cs sl mc ms) (d : decode cc pc = .ok (.invokespecial 28, 3)) (kk : ∀ (v : Option Value) (sh' : svS) (a : svH) (b : svL) (c : svR), post v sh' a b c → svJ l G R (RX7, cc, nL, ret, nm) F (cs + mc) (sl + ms) (pc + 3) ls (v.toList ++ st) sh' a b c) : svJ l G R (RX7, cc, nL, ret, nm) F cs sl pc ls (sv_rf G.1 i :: st) sh hi hl hr :=
  J_callIN (M := (RX7, cc, nL, ret, nm)) (As := []) (n := 0) T calX3_init rfl "StrangerVotes" wmX7_28 (sv_in 164 (by decide +kernel) (by decide +kernel)) rfl rfl rfl hrest hR d kk
theorem wmX7_35 : Cond.methodLink RX7 35 yX4_init ∈ sv_tbl := (sv_in 202 (by decide +kernel) (by decide +kernel))
theorem caX7_35 {i mc ms : Nat} {rm : Room} {post : svQ} (T : svT l G yX4_init mX4_init rm mc ms (sv_rf G.1 i :: []) sh hi hl hr post) (hrest : (st.map fun v => v.category).sum ≤ 8) (hR : sv_rooms R rm mX4_init cs sl mc ms) (d : decode cc pc = .ok (.invokespecial 35, 3)) (kk : ∀ (v : Option Value) (sh' : svS) (a : svH) (b : svL) (c : svR), post v sh' a b c → svJ l G R (RX7, cc, nL, ret, nm) F (cs + mc) (sl + ms) (pc + 3) ls (v.toList ++ st) sh' a b c) : svJ l G R (RX7, cc, nL, ret, nm) F cs sl pc ls (sv_rf G.1 i :: st) sh hi hl hr :=
  J_callI (M := (RX7, cc, nL, ret, nm)) (As := []) (n := 0) T calX4_init rfl wmX7_35 (sv_in 203 (by decide +kernel) (by decide +kernel)) rfl rfl rfl hrest hR d kk
theorem wmX7_42 : Cond.methodLinkNest RX7 42 yX0_init "StrangerVotes" ∈ sv_nest := sv_nest_in 219 (by decide +kernel) (by decide +kernel)
theorem caX7_42 {i mc ms : Nat} {rm : Room} {post : svQ} (T : svT l G yX0_init mX0_init rm mc ms (sv_rf G.1 i :: []) sh hi hl hr post) (hrest : (st.map fun v => v.category).sum ≤ 8) (hR : sv_rooms R rm mX0_init cs sl mc ms) (d : decode cc pc = .ok (.invokespecial 42, 3)) (kk : ∀ (v : Option Value) (sh' : svS) (a : svH) (b : svL) (c : svR), post v sh' a b c → svJ l G R (RX7, cc, nL, ret, nm) F (cs + mc) (sl + ms) (pc + 3) ls (v.toList ++ st) sh' a b c) : svJ l G R (RX7, cc, nL, ret, nm) F cs sl pc ls (sv_rf G.1 i :: st) sh hi hl hr :=
  J_callIN (M := (RX7, cc, nL, ret, nm)) (As := []) (n := 0) T calX0_init rfl "StrangerVotes" wmX7_42 (sv_in 220 (by decide +kernel) (by decide +kernel)) rfl rfl rfl hrest hR d kk
theorem wmX7_49 : Cond.methodLinkNest RX7 49 yX1_init "StrangerVotes" ∈ sv_nest := sv_nest_in 233 (by decide +kernel) (by decide +kernel)
theorem caX7_49 {i mc ms : Nat} {rm : Room} {post : svQ} (T : svT l G yX1_init mX1_init rm mc ms (sv_rf G.1 i :: []) sh hi hl hr post) (hrest : (st.map fun v => v.category).sum ≤ 8) (hR : sv_rooms R rm mX1_init cs sl mc ms) (d : decode cc pc = .ok (.invokespecial 49, 3)) (kk : ∀ (v : Option Value) (sh' : svS) (a : svH) (b : svL) (c : svR), post v sh' a b c → svJ l G R (RX7, cc, nL, ret, nm) F (cs + mc) (sl + ms) (pc + 3) ls (v.toList ++ st) sh' a b c) : svJ l G R (RX7, cc, nL, ret, nm) F cs sl pc ls (sv_rf G.1 i :: st) sh hi hl hr :=
  J_callIN (M := (RX7, cc, nL, ret, nm)) (As := []) (n := 0) T calX1_init rfl "StrangerVotes" wmX7_49 (sv_in 234 (by decide +kernel) (by decide +kernel)) rfl rfl rfl hrest hR d kk
theorem wmX7_56 : Cond.methodLinkNest RX7 56 yX2_init "StrangerVotes" ∈ sv_nest := sv_nest_in 257 (by decide +kernel) (by decide +kernel)
theorem caX7_56 {i mc ms : Nat} {rm : Room} {post : svQ} (T : svT l G yX2_init mX2_init rm mc ms (sv_rf G.1 i :: []) sh hi hl hr post) (hrest : (st.map fun v => v.category).sum ≤ 8) (hR : sv_rooms R rm mX2_init cs sl mc ms) (d : decode cc pc = .ok (.invokespecial 56, 3)) (kk : ∀ (v : Option Value) (sh' : svS) (a : svH) (b : svL) (c : svR), post v sh' a b c → svJ l G R (RX7, cc, nL, ret, nm) F (cs + mc) (sl + ms) (pc + 3) ls (v.toList ++ st) sh' a b c) : svJ l G R (RX7, cc, nL, ret, nm) F cs sl pc ls (sv_rf G.1 i :: st) sh hi hl hr :=
  J_callIN (M := (RX7, cc, nL, ret, nm)) (As := []) (n := 0) T calX2_init rfl "StrangerVotes" wmX7_56 (sv_in 258 (by decide +kernel) (by decide +kernel)) rfl rfl rfl hrest hR d kk
theorem wmX7_9 : Cond.methodLinkNest RX7 9 yX6_init "StrangerVotes" ∈ sv_nest := sv_nest_in 76 (by decide +kernel) (by decide +kernel)
theorem caX7_9 {i mc ms : Nat} {rm : Room} {post : svQ} (T : svT l G yX6_init mX6_init rm mc ms (sv_rf G.1 i :: []) sh hi hl hr post) (hrest : (st.map fun v => v.category).sum ≤ 8) (hR : sv_rooms R rm mX6_init cs sl mc ms) (d : decode cc pc = .ok (.invokespecial 9, 3)) (kk : ∀ (v : Option Value) (sh' : svS) (a : svH) (b : svL) (c : svR), post v sh' a b c → svJ l G R (RX7, cc, nL, ret, nm) F (cs + mc) (sl + ms) (pc + 3) ls (v.toList ++ st) sh' a b c) : svJ l G R (RX7, cc, nL, ret, nm) F cs sl pc ls (sv_rf G.1 i :: st) sh hi hl hr :=
  J_callIN (M := (RX7, cc, nL, ret, nm)) (As := []) (n := 0) T calX6_init rfl "StrangerVotes" wmX7_9 (sv_in 77 (by decide +kernel) (by decide +kernel)) rfl rfl rfl hrest hR d kk
theorem wmX7_105 : Cond.methodLink RX7 105 yX7_at ∈ sv_tbl := (sv_in 411 (by decide +kernel) (by decide +kernel))
theorem caX7_105 {v0 v1 : Value} {rm : Room} {post : Int32 → svH → svL → svR → Prop} (T : svI l G yX7_at mX7_at rm [v0, v1] hi hl hr post) (hrest : (st.map fun v => v.category).sum ≤ 8) (hR : sv_rooms R rm mX7_at cs sl 0 0) (d : decode cc pc = .ok (.invokestatic 105, 3)) (kk : ∀ (r : Int32) (a : svH) (b : svL) (c : svR), post r a b c → svJ l G R (RX7, cc, nL, ret, nm) F cs sl (pc + 3) ls (.int r :: st) svSH a b c) : svJ l G R (RX7, cc, nL, ret, nm) F cs sl pc ls (v1 :: v0 :: st) svSH hi hl hr :=
  J_callS (M := (RX7, cc, nL, ret, nm)) (As := [v0, v1]) (n := 2) T calX7_at wmX7_105 (sv_in 412 (by decide +kernel) (by decide +kernel)) rfl rfl hrest hR d (fun v sh' a b c h => by
    obtain ⟨r, rfl, rfl, hp⟩ := h
    exact kk r a b c hp)
theorem wmX7_118 : Cond.methodLink RX7 118 yX7_bit ∈ sv_tbl := (sv_in 414 (by decide +kernel) (by decide +kernel))
theorem caX7_118 {v0 v1 : Value} {rm : Room} {post : Int32 → svH → svL → svR → Prop} (T : svI l G yX7_bit mX7_bit rm [v0, v1] hi hl hr post) (hrest : (st.map fun v => v.category).sum ≤ 8) (hR : sv_rooms R rm mX7_bit cs sl 0 0) (d : decode cc pc = .ok (.invokestatic 118, 3)) (kk : ∀ (r : Int32) (a : svH) (b : svL) (c : svR), post r a b c → svJ l G R (RX7, cc, nL, ret, nm) F cs sl (pc + 3) ls (.int r :: st) svSH a b c) : svJ l G R (RX7, cc, nL, ret, nm) F cs sl pc ls (v1 :: v0 :: st) svSH hi hl hr :=
  J_callS (M := (RX7, cc, nL, ret, nm)) (As := [v0, v1]) (n := 2) T calX7_bit wmX7_118 (sv_in 415 (by decide +kernel) (by decide +kernel)) rfl rfl hrest hR d (fun v sh' a b c h => by
    obtain ⟨r, rfl, rfl, hp⟩ := h
    exact kk r a b c hp)
theorem wmX7_163 : Cond.methodLink RX7 163 yX7_raise ∈ sv_tbl := (sv_in 442 (by decide +kernel) (by decide +kernel))
theorem caX7_163 {v0 v1 v2 : Value} {rm : Room} {post : svH → svL → svR → Prop} (T : svV l G yX7_raise mX7_raise rm [v0, v1, v2] hi hl hr post) (hrest : (st.map fun v => v.category).sum ≤ 8) (hR : sv_rooms R rm mX7_raise cs sl 0 0) (d : decode cc pc = .ok (.invokestatic 163, 3)) (kk : ∀ (a : svH) (b : svL) (c : svR), post a b c → svJ l G R (RX7, cc, nL, ret, nm) F cs sl (pc + 3) ls st svSH a b c) : svJ l G R (RX7, cc, nL, ret, nm) F cs sl pc ls (v2 :: v1 :: v0 :: st) svSH hi hl hr :=
  J_callS (M := (RX7, cc, nL, ret, nm)) (As := [v0, v1, v2]) (n := 3) T calX7_raise wmX7_163 (sv_in 443 (by decide +kernel) (by decide +kernel)) rfl rfl hrest hR d (fun v sh' a b c h => by
    obtain ⟨rfl, rfl, hp⟩ := h
    exact kk a b c hp)
theorem wmX7_170 : Cond.methodLink RX7 170 yX7_set ∈ sv_tbl := (sv_in 478 (by decide +kernel) (by decide +kernel))
theorem caX7_170 {v0 v1 v2 : Value} {rm : Room} {post : svH → svL → svR → Prop} (T : svV l G yX7_set mX7_set rm [v0, v1, v2] hi hl hr post) (hrest : (st.map fun v => v.category).sum ≤ 8) (hR : sv_rooms R rm mX7_set cs sl 0 0) (d : decode cc pc = .ok (.invokestatic 170, 3)) (kk : ∀ (a : svH) (b : svL) (c : svR), post a b c → svJ l G R (RX7, cc, nL, ret, nm) F cs sl (pc + 3) ls st svSH a b c) : svJ l G R (RX7, cc, nL, ret, nm) F cs sl pc ls (v2 :: v1 :: v0 :: st) svSH hi hl hr :=
  J_callS (M := (RX7, cc, nL, ret, nm)) (As := [v0, v1, v2]) (n := 3) T calX7_set wmX7_170 (sv_in 384 (by decide +kernel) (by decide +kernel)) rfl rfl hrest hR d (fun v sh' a b c h => by
    obtain ⟨rfl, rfl, hp⟩ := h
    exact kk a b c hp)
theorem wmX7_173 : Cond.methodLink RX7 173 yJ6_bitCount_0f7a4 ∈ sv_tbl := (sv_in 483 (by decide +kernel) (by decide +kernel))
theorem caX7_173 {v0 : Value} {rm : Room} {post : Int32 → svH → svL → svR → Prop} (T : svI l G yJ6_bitCount_0f7a4 mJ6_bitCount_0f7a4 rm [v0] hi hl hr post) (hrest : (st.map fun v => v.category).sum ≤ 8) (hR : sv_rooms R rm mJ6_bitCount_0f7a4 cs sl 0 0) (d : decode cc pc = .ok (.invokestatic 173, 3)) (kk : ∀ (r : Int32) (a : svH) (b : svL) (c : svR), post r a b c → svJ l G R (RX7, cc, nL, ret, nm) F cs sl (pc + 3) ls (.int r :: st) svSH a b c) : svJ l G R (RX7, cc, nL, ret, nm) F cs sl pc ls (v0 :: st) svSH hi hl hr :=
  J_callS (M := (RX7, cc, nL, ret, nm)) (As := [v0]) (n := 1) T calJ6_bitCount_0f7a4 wmX7_173 (sv_in 484 (by decide +kernel) (by decide +kernel)) rfl rfl hrest hR d (fun v sh' a b c h => by
    obtain ⟨r, rfl, rfl, hp⟩ := h
    exact kk r a b c hp)
theorem wmX7_205 : Cond.methodLink RX7 205 yX7_product ∈ sv_tbl := (sv_in 561 (by decide +kernel) (by decide +kernel))
theorem caX7_205 {v0 v1 v2 v3 : Value} {rm : Room} {post : Int32 → svH → svL → svR → Prop} (T : svI l G yX7_product mX7_product rm [v0, v1, v2, v3] hi hl hr post) (hrest : (st.map fun v => v.category).sum ≤ 8) (hR : sv_rooms R rm mX7_product cs sl 0 0) (d : decode cc pc = .ok (.invokestatic 205, 3)) (kk : ∀ (r : Int32) (a : svH) (b : svL) (c : svR), post r a b c → svJ l G R (RX7, cc, nL, ret, nm) F cs sl (pc + 3) ls (.int r :: st) svSH a b c) : svJ l G R (RX7, cc, nL, ret, nm) F cs sl pc ls (v3 :: v2 :: v1 :: v0 :: st) svSH hi hl hr :=
  J_callS (M := (RX7, cc, nL, ret, nm)) (As := [v0, v1, v2, v3]) (n := 4) T calX7_product wmX7_205 (sv_in 562 (by decide +kernel) (by decide +kernel)) rfl rfl hrest hR d (fun v sh' a b c h => by
    obtain ⟨r, rfl, rfl, hp⟩ := h
    exact kk r a b c hp)
theorem wmX7_209 : Cond.methodLink RX7 209 yX7_commonDivisor ∈ sv_tbl := (sv_in 564 (by decide +kernel) (by decide +kernel))
theorem caX7_209 {v0 v1 : Value} {rm : Room} {post : Int32 → svH → svL → svR → Prop} (T : svI l G yX7_commonDivisor mX7_commonDivisor rm [v0, v1] hi hl hr post) (hrest : (st.map fun v => v.category).sum ≤ 8) (hR : sv_rooms R rm mX7_commonDivisor cs sl 0 0) (d : decode cc pc = .ok (.invokestatic 209, 3)) (kk : ∀ (r : Int32) (a : svH) (b : svL) (c : svR), post r a b c → svJ l G R (RX7, cc, nL, ret, nm) F cs sl (pc + 3) ls (.int r :: st) svSH a b c) : svJ l G R (RX7, cc, nL, ret, nm) F cs sl pc ls (v1 :: v0 :: st) svSH hi hl hr :=
  J_callS (M := (RX7, cc, nL, ret, nm)) (As := [v0, v1]) (n := 2) T calX7_commonDivisor wmX7_209 (sv_in 565 (by decide +kernel) (by decide +kernel)) rfl rfl hrest hR d (fun v sh' a b c h => by
    obtain ⟨r, rfl, rfl, hp⟩ := h
    exact kk r a b c hp)
theorem wmX7_280 : Cond.methodLink RX7 280 Lib.Math.min.name ∈ sv_tbl := (sv_in 401 (by decide +kernel) (by decide +kernel))
theorem maX7_280 {x y : Int32} (hR : 1 ≤ R.frames) (hR2 : (st.map fun v => v.category).sum + 13 ≤ R.locals) (hc : cs ≤ R.cells) (hs1 : sl ≤ R.slots) (d : decode cc pc = .ok (.invokestatic 280, 3)) (kk : svJ l G R (RX7, cc, nL, ret, nm) F cs sl (pc + 3) ls (.int (if y < x then y else x) :: st) sh hi hl hr) : svJ l G R (RX7, cc, nL, ret, nm) F cs sl pc ls (.int y :: .int x :: st) sh hi hl hr :=
  J_mmin (M := (RX7, cc, nL, ret, nm)) wmX7_280 (sv_in 402 (by decide +kernel) (by decide +kernel)) (sv_in 63 (by decide +kernel) (by decide +kernel)) (sv_in 403 (by decide +kernel) (by decide +kernel)) hR hR2 hc hs1 d kk
theorem wmX7_285 : Cond.methodLink RX7 285 arraycopyName ∈ sv_tbl := (sv_in 404 (by decide +kernel) (by decide +kernel))
theorem cpX7_285 {i j n0 n1 : Nat} {sp dp n : Int32} (h0 : sh[i]? = some (1, n0)) (h1 : sh[j]? = some (1, n1)) (g1 : ¬ sp < 0) (g2 : ¬ dp < 0) (g3 : ¬ n < 0) (g4 : sp.toNatClampNeg + n.toNatClampNeg ≤ n0) (g5 : dp.toNatClampNeg + n.toNatClampNeg ≤ n1) (hR : 1 ≤ R.frames) (hR2 : (st.map fun v => v.category).sum + (nativeFrameWords "java/lang/System" "arraycopy" 5 + 11) ≤ R.locals) (d : decode cc pc = .ok (.invokestatic 285, 3)) (kk : svJ l G R (RX7, cc, nL, ret, nm) F cs sl (pc + 3) ls st sh (fun b => if b = j then va_cpy (hi i) (hi j) sp.toNatClampNeg dp.toNatClampNeg n.toNatClampNeg else hi b) hl hr) : svJ l G R (RX7, cc, nL, ret, nm) F cs sl pc ls (.int n :: .int dp :: sv_rf G.1 j :: .int sp :: sv_rf G.1 i :: st) sh hi hl hr :=
  J_copyi (M := (RX7, cc, nL, ret, nm)) wmX7_285 (List.mem_of_getElem? (i := 406) (by decide +kernel)) (by decide +kernel) (sv_in 405 (by decide +kernel) (by decide +kernel)) (sv_in 64 (by decide +kernel) (by decide +kernel)) h0 h1 g1 g2 g3 g4 g5 hR hR2 d kk
theorem wmX7_291 : Cond.methodLink RX7 291 Lib.Math.max.name ∈ sv_tbl := (sv_in 567 (by decide +kernel) (by decide +kernel))
theorem maX7_291 {x y : Int32} (hR : 1 ≤ R.frames) (hR2 : (st.map fun v => v.category).sum + 13 ≤ R.locals) (hc : cs ≤ R.cells) (hs1 : sl ≤ R.slots) (d : decode cc pc = .ok (.invokestatic 291, 3)) (kk : svJ l G R (RX7, cc, nL, ret, nm) F cs sl (pc + 3) ls (.int (if x < y then y else x) :: st) sh hi hl hr) : svJ l G R (RX7, cc, nL, ret, nm) F cs sl pc ls (.int y :: .int x :: st) sh hi hl hr :=
  J_mmax (M := (RX7, cc, nL, ret, nm)) wmX7_291 (sv_in 519 (by decide +kernel) (by decide +kernel)) (sv_in 63 (by decide +kernel) (by decide +kernel)) (sv_in 520 (by decide +kernel) (by decide +kernel)) hR hR2 hc hs1 d kk
theorem wmX7_68 : Cond.methodLink RX7 68 yX7_isIn ∈ sv_tbl := (sv_in 313 (by decide +kernel) (by decide +kernel))
theorem caX7_68 {v0 v1 : Value} {rm : Room} {post : Int32 → svH → svL → svR → Prop} (T : svI l G yX7_isIn mX7_isIn rm [v0, v1] hi hl hr post) (hrest : (st.map fun v => v.category).sum ≤ 8) (hR : sv_rooms R rm mX7_isIn cs sl 0 0) (d : decode cc pc = .ok (.invokestatic 68, 3)) (kk : ∀ (r : Int32) (a : svH) (b : svL) (c : svR), post r a b c → svJ l G R (RX7, cc, nL, ret, nm) F cs sl (pc + 3) ls (.int r :: st) svSH a b c) : svJ l G R (RX7, cc, nL, ret, nm) F cs sl pc ls (v1 :: v0 :: st) svSH hi hl hr :=
  J_callS (M := (RX7, cc, nL, ret, nm)) (As := [v0, v1]) (n := 2) T calX7_isIn wmX7_68 (sv_in 314 (by decide +kernel) (by decide +kernel)) rfl rfl hrest hR d (fun v sh' a b c h => by
    obtain ⟨r, rfl, rfl, hp⟩ := h
    exact kk r a b c hp)
theorem wmX7_140 : Cond.methodLink RX7 140 yX7_openTrains ∈ sv_tbl := (sv_in 425 (by decide +kernel) (by decide +kernel))
theorem caX7_140 {i : Nat} {rm : Room} {post : Int32 → svH → svL → svR → Prop} (T : svI l G yX7_openTrains mX7_openTrains rm (sv_rf G.1 i :: []) hi hl hr post) (hsh : svSH[i]? = some (0, 7)) (hrest : (st.map fun v => v.category).sum ≤ 8) (hR : sv_rooms R rm mX7_openTrains cs sl 0 0) (d : decode cc pc = .ok (.invokevirtual 140, 3)) (kk : ∀ (r : Int32) (a : svH) (b : svL) (c : svR), post r a b c → svJ l G R (RX7, cc, nL, ret, nm) F cs sl (pc + 3) ls (.int r :: st) svSH a b c) : svJ l G R (RX7, cc, nL, ret, nm) F cs sl pc ls (sv_rf G.1 i :: st) svSH hi hl hr :=
  J_callV (M := (RX7, cc, nL, ret, nm)) (As := []) (n := 0) hsh rfl T calX7_openTrains wmX7_140 (sv_in 427 (by decide +kernel) (by decide +kernel)) (sv_in 10 (by decide +kernel) (by decide +kernel)) rfl rfl hrest hR d (fun v sh' a b c h => by
    obtain ⟨r, rfl, rfl, hp⟩ := h
    exact kk r a b c hp)
theorem wmX7_144 : Cond.methodLink RX7 144 yX7_castFor ∈ sv_tbl := (sv_in 429 (by decide +kernel) (by decide +kernel))
theorem caX7_144 {i : Nat} {v0 : Value} {rm : Room} {post : svH → svL → svR → Prop} (T : svV l G yX7_castFor mX7_castFor rm (sv_rf G.1 i :: [v0]) hi hl hr post) (hsh : svSH[i]? = some (0, 7)) (hrest : (st.map fun v => v.category).sum ≤ 8) (hR : sv_rooms R rm mX7_castFor cs sl 0 0) (d : decode cc pc = .ok (.invokevirtual 144, 3)) (kk : ∀ (a : svH) (b : svL) (c : svR), post a b c → svJ l G R (RX7, cc, nL, ret, nm) F cs sl (pc + 3) ls st svSH a b c) : svJ l G R (RX7, cc, nL, ret, nm) F cs sl pc ls (v0 :: sv_rf G.1 i :: st) svSH hi hl hr :=
  J_callV (M := (RX7, cc, nL, ret, nm)) (As := [v0]) (n := 1) hsh rfl T calX7_castFor wmX7_144 (sv_in 431 (by decide +kernel) (by decide +kernel)) (sv_in 11 (by decide +kernel) (by decide +kernel)) rfl rfl hrest hR d (fun v sh' a b c h => by
    obtain ⟨rfl, rfl, hp⟩ := h
    exact kk a b c hp)
theorem wmX7_153 : Cond.methodLink RX7 153 yX4_push ∈ sv_tbl := (sv_in 449 (by decide +kernel) (by decide +kernel))
theorem caX7_153 {i : Nat} {v0 : Value} {rm : Room} {post : svH → svL → svR → Prop} (T : svV l G yX4_push mX4_push rm (sv_rf G.1 i :: [v0]) hi hl hr post) (hsh : svSH[i]? = some (0, 4)) (hrest : (st.map fun v => v.category).sum ≤ 8) (hR : sv_rooms R rm mX4_push cs sl 0 0) (d : decode cc pc = .ok (.invokevirtual 153, 3)) (kk : ∀ (a : svH) (b : svL) (c : svR), post a b c → svJ l G R (RX7, cc, nL, ret, nm) F cs sl (pc + 3) ls st svSH a b c) : svJ l G R (RX7, cc, nL, ret, nm) F cs sl pc ls (v0 :: sv_rf G.1 i :: st) svSH hi hl hr :=
  J_callV (M := (RX7, cc, nL, ret, nm)) (As := [v0]) (n := 1) hsh rfl T calX4_push wmX7_153 (sv_in 450 (by decide +kernel) (by decide +kernel)) (sv_in 451 (by decide +kernel) (by decide +kernel)) rfl rfl hrest hR d (fun v sh' a b c h => by
    obtain ⟨rfl, rfl, hp⟩ := h
    exact kk a b c hp)
theorem wmX7_160 : Cond.methodLink RX7 160 yX7_stopTrains ∈ sv_tbl := (sv_in 466 (by decide +kernel) (by decide +kernel))
theorem caX7_160 {i : Nat} {rm : Room} {post : Int32 → svH → svL → svR → Prop} (T : svI l G yX7_stopTrains mX7_stopTrains rm (sv_rf G.1 i :: []) hi hl hr post) (hsh : svSH[i]? = some (0, 7)) (hrest : (st.map fun v => v.category).sum ≤ 8) (hR : sv_rooms R rm mX7_stopTrains cs sl 0 0) (d : decode cc pc = .ok (.invokevirtual 160, 3)) (kk : ∀ (r : Int32) (a : svH) (b : svL) (c : svR), post r a b c → svJ l G R (RX7, cc, nL, ret, nm) F cs sl (pc + 3) ls (.int r :: st) svSH a b c) : svJ l G R (RX7, cc, nL, ret, nm) F cs sl pc ls (sv_rf G.1 i :: st) svSH hi hl hr :=
  J_callV (M := (RX7, cc, nL, ret, nm)) (As := []) (n := 0) hsh rfl T calX7_stopTrains wmX7_160 (sv_in 468 (by decide +kernel) (by decide +kernel)) (sv_in 15 (by decide +kernel) (by decide +kernel)) rfl rfl hrest hR d (fun v sh' a b c h => by
    obtain ⟨r, rfl, rfl, hp⟩ := h
    exact kk r a b c hp)
theorem wmX7_182 : Cond.methodLink RX7 182 yX4_popInto ∈ sv_tbl := (sv_in 497 (by decide +kernel) (by decide +kernel))
theorem caX7_182 {i : Nat} {v0 : Value} {rm : Room} {post : svH → svL → svR → Prop} (T : svV l G yX4_popInto mX4_popInto rm (sv_rf G.1 i :: [v0]) hi hl hr post) (hsh : svSH[i]? = some (0, 4)) (hrest : (st.map fun v => v.category).sum ≤ 8) (hR : sv_rooms R rm mX4_popInto cs sl 0 0) (d : decode cc pc = .ok (.invokevirtual 182, 3)) (kk : ∀ (a : svH) (b : svL) (c : svR), post a b c → svJ l G R (RX7, cc, nL, ret, nm) F cs sl (pc + 3) ls st svSH a b c) : svJ l G R (RX7, cc, nL, ret, nm) F cs sl pc ls (v0 :: sv_rf G.1 i :: st) svSH hi hl hr :=
  J_callV (M := (RX7, cc, nL, ret, nm)) (As := [v0]) (n := 1) hsh rfl T calX4_popInto wmX7_182 (sv_in 498 (by decide +kernel) (by decide +kernel)) (sv_in 499 (by decide +kernel) (by decide +kernel)) rfl rfl hrest hR d (fun v sh' a b c h => by
    obtain ⟨rfl, rfl, hp⟩ := h
    exact kk a b c hp)
theorem wmX7_185 : Cond.methodLink RX7 185 yX7_leftAfter ∈ sv_tbl := (sv_in 505 (by decide +kernel) (by decide +kernel))
theorem caX7_185 {i : Nat} {v0 : Value} {rm : Room} {post : Int32 → svH → svL → svR → Prop} (T : svI l G yX7_leftAfter mX7_leftAfter rm (sv_rf G.1 i :: [v0]) hi hl hr post) (hsh : svSH[i]? = some (0, 7)) (hrest : (st.map fun v => v.category).sum ≤ 8) (hR : sv_rooms R rm mX7_leftAfter cs sl 0 0) (d : decode cc pc = .ok (.invokevirtual 185, 3)) (kk : ∀ (r : Int32) (a : svH) (b : svL) (c : svR), post r a b c → svJ l G R (RX7, cc, nL, ret, nm) F cs sl (pc + 3) ls (.int r :: st) svSH a b c) : svJ l G R (RX7, cc, nL, ret, nm) F cs sl pc ls (v0 :: sv_rf G.1 i :: st) svSH hi hl hr :=
  J_callV (M := (RX7, cc, nL, ret, nm)) (As := [v0]) (n := 1) hsh rfl T calX7_leftAfter wmX7_185 (sv_in 507 (by decide +kernel) (by decide +kernel)) (sv_in 16 (by decide +kernel) (by decide +kernel)) rfl rfl hrest hR d (fun v sh' a b c h => by
    obtain ⟨r, rfl, rfl, hp⟩ := h
    exact kk r a b c hp)
theorem wmX7_191 : Cond.methodLink RX7 191 yX7_winnerAfter ∈ sv_tbl := (sv_in 521 (by decide +kernel) (by decide +kernel))
theorem caX7_191 {i : Nat} {v0 v1 : Value} {rm : Room} {post : Int32 → svH → svL → svR → Prop} (T : svI l G yX7_winnerAfter mX7_winnerAfter rm (sv_rf G.1 i :: [v0, v1]) hi hl hr post) (hsh : svSH[i]? = some (0, 7)) (hrest : (st.map fun v => v.category).sum ≤ 8) (hR : sv_rooms R rm mX7_winnerAfter cs sl 0 0) (d : decode cc pc = .ok (.invokevirtual 191, 3)) (kk : ∀ (r : Int32) (a : svH) (b : svL) (c : svR), post r a b c → svJ l G R (RX7, cc, nL, ret, nm) F cs sl (pc + 3) ls (.int r :: st) svSH a b c) : svJ l G R (RX7, cc, nL, ret, nm) F cs sl pc ls (v1 :: v0 :: sv_rf G.1 i :: st) svSH hi hl hr :=
  J_callV (M := (RX7, cc, nL, ret, nm)) (As := [v0, v1]) (n := 2) hsh rfl T calX7_winnerAfter wmX7_191 (sv_in 523 (by decide +kernel) (by decide +kernel)) (sv_in 17 (by decide +kernel) (by decide +kernel)) rfl rfl hrest hR d (fun v sh' a b c h => by
    obtain ⟨r, rfl, rfl, hp⟩ := h
    exact kk r a b c hp)
theorem wmX7_194 : Cond.methodLink RX7 194 yX7_trainsFor ∈ sv_tbl := (sv_in 545 (by decide +kernel) (by decide +kernel))
theorem caX7_194 {i : Nat} {v0 : Value} {rm : Room} {post : Int32 → svH → svL → svR → Prop} (T : svI l G yX7_trainsFor mX7_trainsFor rm (sv_rf G.1 i :: [v0]) hi hl hr post) (hsh : svSH[i]? = some (0, 7)) (hrest : (st.map fun v => v.category).sum ≤ 8) (hR : sv_rooms R rm mX7_trainsFor cs sl 0 0) (d : decode cc pc = .ok (.invokevirtual 194, 3)) (kk : ∀ (r : Int32) (a : svH) (b : svL) (c : svR), post r a b c → svJ l G R (RX7, cc, nL, ret, nm) F cs sl (pc + 3) ls (.int r :: st) svSH a b c) : svJ l G R (RX7, cc, nL, ret, nm) F cs sl pc ls (v0 :: sv_rf G.1 i :: st) svSH hi hl hr :=
  J_callV (M := (RX7, cc, nL, ret, nm)) (As := [v0]) (n := 1) hsh rfl T calX7_trainsFor wmX7_194 (sv_in 547 (by decide +kernel) (by decide +kernel)) (sv_in 18 (by decide +kernel) (by decide +kernel)) rfl rfl hrest hR d (fun v sh' a b c h => by
    obtain ⟨r, rfl, rfl, hp⟩ := h
    exact kk r a b c hp)
theorem wmX7_197 : Cond.methodLink RX7 197 yX7_castCanvassed ∈ sv_tbl := (sv_in 433 (by decide +kernel) (by decide +kernel))
theorem caX7_197 {i : Nat} {v0 v1 v2 : Value} {rm : Room} {post : svH → svL → svR → Prop} (T : svV l G yX7_castCanvassed mX7_castCanvassed rm (sv_rf G.1 i :: [v0, v1, v2]) hi hl hr post) (hsh : svSH[i]? = some (0, 7)) (hrest : (st.map fun v => v.category).sum ≤ 8) (hR : sv_rooms R rm mX7_castCanvassed cs sl 0 0) (d : decode cc pc = .ok (.invokevirtual 197, 3)) (kk : ∀ (a : svH) (b : svL) (c : svR), post a b c → svJ l G R (RX7, cc, nL, ret, nm) F cs sl (pc + 3) ls st svSH a b c) : svJ l G R (RX7, cc, nL, ret, nm) F cs sl pc ls (v2 :: v1 :: v0 :: sv_rf G.1 i :: st) svSH hi hl hr :=
  J_callV (M := (RX7, cc, nL, ret, nm)) (As := [v0, v1, v2]) (n := 3) hsh rfl T calX7_castCanvassed wmX7_197 (sv_in 435 (by decide +kernel) (by decide +kernel)) (sv_in 12 (by decide +kernel) (by decide +kernel)) rfl rfl hrest hR d (fun v sh' a b c h => by
    obtain ⟨rfl, rfl, hp⟩ := h
    exact kk a b c hp)
theorem wmX7_201 : Cond.methodLink RX7 201 yX0_winner ∈ sv_tbl := (sv_in 525 (by decide +kernel) (by decide +kernel))
theorem caX7_201 {i : Nat} {v0 v1 v2 : Value} {rm : Room} {post : Int32 → svH → svL → svR → Prop} (T : svI l G yX0_winner mX0_winner rm (sv_rf G.1 i :: [v0, v1, v2]) hi hl hr post) (hsh : svSH[i]? = some (0, 0)) (hrest : (st.map fun v => v.category).sum ≤ 8) (hR : sv_rooms R rm mX0_winner cs sl 0 0) (d : decode cc pc = .ok (.invokevirtual 201, 3)) (kk : ∀ (r : Int32) (a : svH) (b : svL) (c : svR), post r a b c → svJ l G R (RX7, cc, nL, ret, nm) F cs sl (pc + 3) ls (.int r :: st) svSH a b c) : svJ l G R (RX7, cc, nL, ret, nm) F cs sl pc ls (v2 :: v1 :: v0 :: sv_rf G.1 i :: st) svSH hi hl hr :=
  J_callV (M := (RX7, cc, nL, ret, nm)) (As := [v0, v1, v2]) (n := 3) hsh rfl T calX0_winner wmX7_201 (sv_in 526 (by decide +kernel) (by decide +kernel)) (sv_in 527 (by decide +kernel) (by decide +kernel)) rfl rfl hrest hR d (fun v sh' a b c h => by
    obtain ⟨r, rfl, rfl, hp⟩ := h
    exact kk r a b c hp)
theorem wmX7_212 : Cond.methodLink RX7 212 yX1_append ∈ sv_tbl := (sv_in 572 (by decide +kernel) (by decide +kernel))
theorem caX7_212 {i : Nat} {v0 v1 : Value} {rm : Room} {post : svH → svL → svR → Prop} (T : svV l G yX1_append mX1_append rm (sv_rf G.1 i :: [v0, v1]) hi hl hr post) (hsh : svSH[i]? = some (0, 1)) (hrest : (st.map fun v => v.category).sum ≤ 8) (hR : sv_rooms R rm mX1_append cs sl 0 0) (d : decode cc pc = .ok (.invokevirtual 212, 3)) (kk : ∀ (a : svH) (b : svL) (c : svR), post a b c → svJ l G R (RX7, cc, nL, ret, nm) F cs sl (pc + 3) ls st svSH a b c) : svJ l G R (RX7, cc, nL, ret, nm) F cs sl pc ls (v1 :: v0 :: sv_rf G.1 i :: st) svSH hi hl hr :=
  J_callV (M := (RX7, cc, nL, ret, nm)) (As := [v0, v1]) (n := 2) hsh rfl T calX1_append wmX7_212 (sv_in 573 (by decide +kernel) (by decide +kernel)) (sv_in 574 (by decide +kernel) (by decide +kernel)) rfl rfl hrest hR d (fun v sh' a b c h => by
    obtain ⟨rfl, rfl, hp⟩ := h
    exact kk a b c hp)
theorem wmX7_215 : Cond.methodLink RX7 215 yX1_fit ∈ sv_tbl := (sv_in 585 (by decide +kernel) (by decide +kernel))
theorem caX7_215 {i : Nat} {v0 : Value} {rm : Room} {post : svH → svL → svR → Prop} (T : svV l G yX1_fit mX1_fit rm (sv_rf G.1 i :: [v0]) hi hl hr post) (hsh : svSH[i]? = some (0, 1)) (hrest : (st.map fun v => v.category).sum ≤ 8) (hR : sv_rooms R rm mX1_fit cs sl 0 0) (d : decode cc pc = .ok (.invokevirtual 215, 3)) (kk : ∀ (a : svH) (b : svL) (c : svR), post a b c → svJ l G R (RX7, cc, nL, ret, nm) F cs sl (pc + 3) ls st svSH a b c) : svJ l G R (RX7, cc, nL, ret, nm) F cs sl pc ls (v0 :: sv_rf G.1 i :: st) svSH hi hl hr :=
  J_callV (M := (RX7, cc, nL, ret, nm)) (As := [v0]) (n := 1) hsh rfl T calX1_fit wmX7_215 (sv_in 586 (by decide +kernel) (by decide +kernel)) (sv_in 587 (by decide +kernel) (by decide +kernel)) rfl rfl hrest hR d (fun v sh' a b c h => by
    obtain ⟨rfl, rfl, hp⟩ := h
    exact kk a b c hp)
theorem wmX7_221 : Cond.methodLink RX7 221 yX1_firstFit ∈ sv_tbl := (sv_in 598 (by decide +kernel) (by decide +kernel))
theorem caX7_221 {i : Nat} {rm : Room} {post : Int32 → svH → svL → svR → Prop} (T : svI l G yX1_firstFit mX1_firstFit rm (sv_rf G.1 i :: []) hi hl hr post) (hsh : svSH[i]? = some (0, 1)) (hrest : (st.map fun v => v.category).sum ≤ 8) (hR : sv_rooms R rm mX1_firstFit cs sl 0 0) (d : decode cc pc = .ok (.invokevirtual 221, 3)) (kk : ∀ (r : Int32) (a : svH) (b : svL) (c : svR), post r a b c → svJ l G R (RX7, cc, nL, ret, nm) F cs sl (pc + 3) ls (.int r :: st) svSH a b c) : svJ l G R (RX7, cc, nL, ret, nm) F cs sl pc ls (sv_rf G.1 i :: st) svSH hi hl hr :=
  J_callV (M := (RX7, cc, nL, ret, nm)) (As := []) (n := 0) hsh rfl T calX1_firstFit wmX7_221 (sv_in 599 (by decide +kernel) (by decide +kernel)) (sv_in 600 (by decide +kernel) (by decide +kernel)) rfl rfl hrest hR d (fun v sh' a b c h => by
    obtain ⟨r, rfl, rfl, hp⟩ := h
    exact kk r a b c hp)
theorem wmX7_224 : Cond.methodLink RX7 224 yX1_question ∈ sv_tbl := (sv_in 606 (by decide +kernel) (by decide +kernel))
theorem caX7_224 {i : Nat} {v0 : Value} {rm : Room} {post : Int32 → svH → svL → svR → Prop} (T : svI l G yX1_question mX1_question rm (sv_rf G.1 i :: [v0]) hi hl hr post) (hsh : svSH[i]? = some (0, 1)) (hrest : (st.map fun v => v.category).sum ≤ 8) (hR : sv_rooms R rm mX1_question cs sl 0 0) (d : decode cc pc = .ok (.invokevirtual 224, 3)) (kk : ∀ (r : Int32) (a : svH) (b : svL) (c : svR), post r a b c → svJ l G R (RX7, cc, nL, ret, nm) F cs sl (pc + 3) ls (.int r :: st) svSH a b c) : svJ l G R (RX7, cc, nL, ret, nm) F cs sl pc ls (v0 :: sv_rf G.1 i :: st) svSH hi hl hr :=
  J_callV (M := (RX7, cc, nL, ret, nm)) (As := [v0]) (n := 1) hsh rfl T calX1_question wmX7_224 (sv_in 607 (by decide +kernel) (by decide +kernel)) (sv_in 608 (by decide +kernel) (by decide +kernel)) rfl rfl hrest hR d (fun v sh' a b c h => by
    obtain ⟨r, rfl, rfl, hp⟩ := h
    exact kk r a b c hp)
theorem wmX7_228 : Cond.methodLink RX7 228 yX7_markOfOne ∈ sv_tbl := (sv_in 620 (by decide +kernel) (by decide +kernel))
theorem caX7_228 {i : Nat} {v0 : Value} {rm : Room} {post : Int32 → svH → svL → svR → Prop} (T : svI l G yX7_markOfOne mX7_markOfOne rm (sv_rf G.1 i :: [v0]) hi hl hr post) (hsh : svSH[i]? = some (0, 7)) (hrest : (st.map fun v => v.category).sum ≤ 8) (hR : sv_rooms R rm mX7_markOfOne cs sl 0 0) (d : decode cc pc = .ok (.invokevirtual 228, 3)) (kk : ∀ (r : Int32) (a : svH) (b : svL) (c : svR), post r a b c → svJ l G R (RX7, cc, nL, ret, nm) F cs sl (pc + 3) ls (.int r :: st) svSH a b c) : svJ l G R (RX7, cc, nL, ret, nm) F cs sl pc ls (v0 :: sv_rf G.1 i :: st) svSH hi hl hr :=
  J_callV (M := (RX7, cc, nL, ret, nm)) (As := [v0]) (n := 1) hsh rfl T calX7_markOfOne wmX7_228 (sv_in 622 (by decide +kernel) (by decide +kernel)) (sv_in 21 (by decide +kernel) (by decide +kernel)) rfl rfl hrest hR d (fun v sh' a b c h => by
    obtain ⟨r, rfl, rfl, hp⟩ := h
    exact kk r a b c hp)
theorem wmX7_231 : Cond.methodLink RX7 231 yX7_markOfLiberal ∈ sv_tbl := (sv_in 624 (by decide +kernel) (by decide +kernel))
theorem caX7_231 {i : Nat} {v0 : Value} {rm : Room} {post : Int32 → svH → svL → svR → Prop} (T : svI l G yX7_markOfLiberal mX7_markOfLiberal rm (sv_rf G.1 i :: [v0]) hi hl hr post) (hsh : svSH[i]? = some (0, 7)) (hrest : (st.map fun v => v.category).sum ≤ 8) (hR : sv_rooms R rm mX7_markOfLiberal cs sl 0 0) (d : decode cc pc = .ok (.invokevirtual 231, 3)) (kk : ∀ (r : Int32) (a : svH) (b : svL) (c : svR), post r a b c → svJ l G R (RX7, cc, nL, ret, nm) F cs sl (pc + 3) ls (.int r :: st) svSH a b c) : svJ l G R (RX7, cc, nL, ret, nm) F cs sl pc ls (v0 :: sv_rf G.1 i :: st) svSH hi hl hr :=
  J_callV (M := (RX7, cc, nL, ret, nm)) (As := [v0]) (n := 1) hsh rfl T calX7_markOfLiberal wmX7_231 (sv_in 626 (by decide +kernel) (by decide +kernel)) (sv_in 22 (by decide +kernel) (by decide +kernel)) rfl rfl hrest hR d (fun v sh' a b c h => by
    obtain ⟨r, rfl, rfl, hp⟩ := h
    exact kk r a b c hp)
theorem wmX7_234 : Cond.methodLink RX7 234 yX7_markOfTory ∈ sv_tbl := (sv_in 629 (by decide +kernel) (by decide +kernel))
theorem caX7_234 {i : Nat} {v0 : Value} {rm : Room} {post : Int32 → svH → svL → svR → Prop} (T : svI l G yX7_markOfTory mX7_markOfTory rm (sv_rf G.1 i :: [v0]) hi hl hr post) (hsh : svSH[i]? = some (0, 7)) (hrest : (st.map fun v => v.category).sum ≤ 8) (hR : sv_rooms R rm mX7_markOfTory cs sl 0 0) (d : decode cc pc = .ok (.invokevirtual 234, 3)) (kk : ∀ (r : Int32) (a : svH) (b : svL) (c : svR), post r a b c → svJ l G R (RX7, cc, nL, ret, nm) F cs sl (pc + 3) ls (.int r :: st) svSH a b c) : svJ l G R (RX7, cc, nL, ret, nm) F cs sl pc ls (v0 :: sv_rf G.1 i :: st) svSH hi hl hr :=
  J_callV (M := (RX7, cc, nL, ret, nm)) (As := [v0]) (n := 1) hsh rfl T calX7_markOfTory wmX7_234 (sv_in 631 (by decide +kernel) (by decide +kernel)) (sv_in 23 (by decide +kernel) (by decide +kernel)) rfl rfl hrest hR d (fun v sh' a b c h => by
    obtain ⟨r, rfl, rfl, hp⟩ := h
    exact kk r a b c hp)
theorem wmX7_237 : Cond.methodLink RX7 237 yX7_markOfGuard ∈ sv_tbl := (sv_in 638 (by decide +kernel) (by decide +kernel))
theorem caX7_237 {i : Nat} {v0 : Value} {rm : Room} {post : Int32 → svH → svL → svR → Prop} (T : svI l G yX7_markOfGuard mX7_markOfGuard rm (sv_rf G.1 i :: [v0]) hi hl hr post) (hsh : svSH[i]? = some (0, 7)) (hrest : (st.map fun v => v.category).sum ≤ 8) (hR : sv_rooms R rm mX7_markOfGuard cs sl 0 0) (d : decode cc pc = .ok (.invokevirtual 237, 3)) (kk : ∀ (r : Int32) (a : svH) (b : svL) (c : svR), post r a b c → svJ l G R (RX7, cc, nL, ret, nm) F cs sl (pc + 3) ls (.int r :: st) svSH a b c) : svJ l G R (RX7, cc, nL, ret, nm) F cs sl pc ls (v0 :: sv_rf G.1 i :: st) svSH hi hl hr :=
  J_callV (M := (RX7, cc, nL, ret, nm)) (As := [v0]) (n := 1) hsh rfl T calX7_markOfGuard wmX7_237 (sv_in 640 (by decide +kernel) (by decide +kernel)) (sv_in 24 (by decide +kernel) (by decide +kernel)) rfl rfl hrest hR d (fun v sh' a b c h => by
    obtain ⟨r, rfl, rfl, hp⟩ := h
    exact kk r a b c hp)
theorem wmX7_240 : Cond.methodLink RX7 240 yX7_markOfPorter ∈ sv_tbl := (sv_in 643 (by decide +kernel) (by decide +kernel))
theorem caX7_240 {i : Nat} {v0 : Value} {rm : Room} {post : Int32 → svH → svL → svR → Prop} (T : svI l G yX7_markOfPorter mX7_markOfPorter rm (sv_rf G.1 i :: [v0]) hi hl hr post) (hsh : svSH[i]? = some (0, 7)) (hrest : (st.map fun v => v.category).sum ≤ 8) (hR : sv_rooms R rm mX7_markOfPorter cs sl 0 0) (d : decode cc pc = .ok (.invokevirtual 240, 3)) (kk : ∀ (r : Int32) (a : svH) (b : svL) (c : svR), post r a b c → svJ l G R (RX7, cc, nL, ret, nm) F cs sl (pc + 3) ls (.int r :: st) svSH a b c) : svJ l G R (RX7, cc, nL, ret, nm) F cs sl pc ls (v0 :: sv_rf G.1 i :: st) svSH hi hl hr :=
  J_callV (M := (RX7, cc, nL, ret, nm)) (As := [v0]) (n := 1) hsh rfl T calX7_markOfPorter wmX7_240 (sv_in 645 (by decide +kernel) (by decide +kernel)) (sv_in 25 (by decide +kernel) (by decide +kernel)) rfl rfl hrest hR d (fun v sh' a b c h => by
    obtain ⟨r, rfl, rfl, hp⟩ := h
    exact kk r a b c hp)
theorem wmX7_243 : Cond.methodLink RX7 243 yX7_markOfMayor ∈ sv_tbl := (sv_in 648 (by decide +kernel) (by decide +kernel))
theorem caX7_243 {i : Nat} {v0 : Value} {rm : Room} {post : Int32 → svH → svL → svR → Prop} (T : svI l G yX7_markOfMayor mX7_markOfMayor rm (sv_rf G.1 i :: [v0]) hi hl hr post) (hsh : svSH[i]? = some (0, 7)) (hrest : (st.map fun v => v.category).sum ≤ 8) (hR : sv_rooms R rm mX7_markOfMayor cs sl 0 0) (d : decode cc pc = .ok (.invokevirtual 243, 3)) (kk : ∀ (r : Int32) (a : svH) (b : svL) (c : svR), post r a b c → svJ l G R (RX7, cc, nL, ret, nm) F cs sl (pc + 3) ls (.int r :: st) svSH a b c) : svJ l G R (RX7, cc, nL, ret, nm) F cs sl pc ls (v0 :: sv_rf G.1 i :: st) svSH hi hl hr :=
  J_callV (M := (RX7, cc, nL, ret, nm)) (As := [v0]) (n := 1) hsh rfl T calX7_markOfMayor wmX7_243 (sv_in 650 (by decide +kernel) (by decide +kernel)) (sv_in 26 (by decide +kernel) (by decide +kernel)) rfl rfl hrest hR d (fun v sh' a b c h => by
    obtain ⟨r, rfl, rfl, hp⟩ := h
    exact kk r a b c hp)
theorem wmX7_246 : Cond.methodLink RX7 246 yX7_imageOf ∈ sv_tbl := (sv_in 657 (by decide +kernel) (by decide +kernel))
theorem caX7_246 {i : Nat} {v0 : Value} {rm : Room} {post : Option Nat → svH → svL → svR → Prop} (T : svO l G yX7_imageOf mX7_imageOf rm (sv_rf G.1 i :: [v0]) hi hl hr post) (hsh : svSH[i]? = some (0, 7)) (hrest : (st.map fun v => v.category).sum ≤ 8) (hR : sv_rooms R rm mX7_imageOf cs sl 0 0) (d : decode cc pc = .ok (.invokevirtual 246, 3)) (kk : ∀ (r : Option Nat) (a : svH) (b : svL) (c : svR), post r a b c → svJ l G R (RX7, cc, nL, ret, nm) F cs sl (pc + 3) ls (sv_rv G.1 r :: st) svSH a b c) : svJ l G R (RX7, cc, nL, ret, nm) F cs sl pc ls (v0 :: sv_rf G.1 i :: st) svSH hi hl hr :=
  J_callV (M := (RX7, cc, nL, ret, nm)) (As := [v0]) (n := 1) hsh rfl T calX7_imageOf wmX7_246 (sv_in 659 (by decide +kernel) (by decide +kernel)) (sv_in 27 (by decide +kernel) (by decide +kernel)) rfl rfl hrest hR d (fun v sh' a b c h => by
    obtain ⟨r, rfl, rfl, hp⟩ := h
    exact kk r a b c hp)
theorem wmX7_253 : Cond.methodLink RX7 253 yX3_copyFrom ∈ sv_tbl := (sv_in 661 (by decide +kernel) (by decide +kernel))
theorem caX7_253 {i : Nat} {v0 : Value} {rm : Room} {post : svH → svL → svR → Prop} (T : svV l G yX3_copyFrom mX3_copyFrom rm (sv_rf G.1 i :: [v0]) hi hl hr post) (hsh : svSH[i]? = some (0, 3)) (hrest : (st.map fun v => v.category).sum ≤ 8) (hR : sv_rooms R rm mX3_copyFrom cs sl 0 0) (d : decode cc pc = .ok (.invokevirtual 253, 3)) (kk : ∀ (a : svH) (b : svL) (c : svR), post a b c → svJ l G R (RX7, cc, nL, ret, nm) F cs sl (pc + 3) ls st svSH a b c) : svJ l G R (RX7, cc, nL, ret, nm) F cs sl pc ls (v0 :: sv_rf G.1 i :: st) svSH hi hl hr :=
  J_callV (M := (RX7, cc, nL, ret, nm)) (As := [v0]) (n := 1) hsh rfl T calX3_copyFrom wmX7_253 (sv_in 463 (by decide +kernel) (by decide +kernel)) (sv_in 464 (by decide +kernel) (by decide +kernel)) rfl rfl hrest hR d (fun v sh' a b c h => by
    obtain ⟨rfl, rfl, hp⟩ := h
    exact kk a b c hp)
theorem wmX7_257 : Cond.methodLink RX7 257 yX4_copyFrom ∈ sv_tbl := (sv_in 662 (by decide +kernel) (by decide +kernel))
theorem caX7_257 {i : Nat} {v0 : Value} {rm : Room} {post : svH → svL → svR → Prop} (T : svV l G yX4_copyFrom mX4_copyFrom rm (sv_rf G.1 i :: [v0]) hi hl hr post) (hsh : svSH[i]? = some (0, 4)) (hrest : (st.map fun v => v.category).sum ≤ 8) (hR : sv_rooms R rm mX4_copyFrom cs sl 0 0) (d : decode cc pc = .ok (.invokevirtual 257, 3)) (kk : ∀ (a : svH) (b : svL) (c : svR), post a b c → svJ l G R (RX7, cc, nL, ret, nm) F cs sl (pc + 3) ls st svSH a b c) : svJ l G R (RX7, cc, nL, ret, nm) F cs sl pc ls (v0 :: sv_rf G.1 i :: st) svSH hi hl hr :=
  J_callV (M := (RX7, cc, nL, ret, nm)) (As := [v0]) (n := 1) hsh rfl T calX4_copyFrom wmX7_257 (sv_in 663 (by decide +kernel) (by decide +kernel)) (sv_in 664 (by decide +kernel) (by decide +kernel)) rfl rfl hrest hR d (fun v sh' a b c h => by
    obtain ⟨rfl, rfl, hp⟩ := h
    exact kk a b c hp)
theorem wmX7_260 : Cond.methodLink RX7 260 yX0_open ∈ sv_tbl := (sv_in 437 (by decide +kernel) (by decide +kernel))
theorem caX7_260 {i : Nat} {v0 : Value} {rm : Room} {post : svH → svL → svR → Prop} (T : svV l G yX0_open mX0_open rm (sv_rf G.1 i :: [v0]) hi hl hr post) (hsh : svSH[i]? = some (0, 0)) (hrest : (st.map fun v => v.category).sum ≤ 8) (hR : sv_rooms R rm mX0_open cs sl 0 0) (d : decode cc pc = .ok (.invokevirtual 260, 3)) (kk : ∀ (a : svH) (b : svL) (c : svR), post a b c → svJ l G R (RX7, cc, nL, ret, nm) F cs sl (pc + 3) ls st svSH a b c) : svJ l G R (RX7, cc, nL, ret, nm) F cs sl pc ls (v0 :: sv_rf G.1 i :: st) svSH hi hl hr :=
  J_callV (M := (RX7, cc, nL, ret, nm)) (As := [v0]) (n := 1) hsh rfl T calX0_open wmX7_260 (sv_in 438 (by decide +kernel) (by decide +kernel)) (sv_in 439 (by decide +kernel) (by decide +kernel)) rfl rfl hrest hR d (fun v sh' a b c h => by
    obtain ⟨rfl, rfl, hp⟩ := h
    exact kk a b c hp)
theorem wmX7_264 : Cond.methodLink RX7 264 yX0_whoIsLeft ∈ sv_tbl := (sv_in 509 (by decide +kernel) (by decide +kernel))
theorem caX7_264 {i : Nat} {v0 v1 : Value} {rm : Room} {post : Int32 → svH → svL → svR → Prop} (T : svI l G yX0_whoIsLeft mX0_whoIsLeft rm (sv_rf G.1 i :: [v0, v1]) hi hl hr post) (hsh : svSH[i]? = some (0, 0)) (hrest : (st.map fun v => v.category).sum ≤ 8) (hR : sv_rooms R rm mX0_whoIsLeft cs sl 0 0) (d : decode cc pc = .ok (.invokevirtual 264, 3)) (kk : ∀ (r : Int32) (a : svH) (b : svL) (c : svR), post r a b c → svJ l G R (RX7, cc, nL, ret, nm) F cs sl (pc + 3) ls (.int r :: st) svSH a b c) : svJ l G R (RX7, cc, nL, ret, nm) F cs sl pc ls (v1 :: v0 :: sv_rf G.1 i :: st) svSH hi hl hr :=
  J_callV (M := (RX7, cc, nL, ret, nm)) (As := [v0, v1]) (n := 2) hsh rfl T calX0_whoIsLeft wmX7_264 (sv_in 510 (by decide +kernel) (by decide +kernel)) (sv_in 511 (by decide +kernel) (by decide +kernel)) rfl rfl hrest hR d (fun v sh' a b c h => by
    obtain ⟨r, rfl, rfl, hp⟩ := h
    exact kk r a b c hp)
theorem wmX7_271 : Cond.methodLink RX7 271 yX6_groupsOf ∈ sv_tbl := (sv_in 634 (by decide +kernel) (by decide +kernel))
theorem caX7_271 {i : Nat} {v0 : Value} {rm : Room} {post : Int32 → svH → svL → svR → Prop} (T : svI l G yX6_groupsOf mX6_groupsOf rm (sv_rf G.1 i :: [v0]) hi hl hr post) (hsh : svSH[i]? = some (0, 6)) (hrest : (st.map fun v => v.category).sum ≤ 8) (hR : sv_rooms R rm mX6_groupsOf cs sl 0 0) (d : decode cc pc = .ok (.invokevirtual 271, 3)) (kk : ∀ (r : Int32) (a : svH) (b : svL) (c : svR), post r a b c → svJ l G R (RX7, cc, nL, ret, nm) F cs sl (pc + 3) ls (.int r :: st) svSH a b c) : svJ l G R (RX7, cc, nL, ret, nm) F cs sl pc ls (v0 :: sv_rf G.1 i :: st) svSH hi hl hr :=
  J_callV (M := (RX7, cc, nL, ret, nm)) (As := [v0]) (n := 1) hsh rfl T calX6_groupsOf wmX7_271 (sv_in 635 (by decide +kernel) (by decide +kernel)) (sv_in 636 (by decide +kernel) (by decide +kernel)) rfl rfl hrest hR d (fun v sh' a b c h => by
    obtain ⟨r, rfl, rfl, hp⟩ := h
    exact kk r a b c hp)
theorem wmX7_76 : Cond.methodLink RX7 76 yX5_append ∈ sv_tbl := (sv_in 316 (by decide +kernel) (by decide +kernel))
theorem caX7_76 {i : Nat} {v0 : Value} {rm : Room} {post : svH → svL → svR → Prop} (T : svV l G yX5_append mX5_append rm (sv_rf G.1 i :: [v0]) hi hl hr post) (hsh : svSH[i]? = some (0, 5)) (hrest : (st.map fun v => v.category).sum ≤ 8) (hR : sv_rooms R rm mX5_append cs sl 0 0) (d : decode cc pc = .ok (.invokevirtual 76, 3)) (kk : ∀ (a : svH) (b : svL) (c : svR), post a b c → svJ l G R (RX7, cc, nL, ret, nm) F cs sl (pc + 3) ls st svSH a b c) : svJ l G R (RX7, cc, nL, ret, nm) F cs sl pc ls (v0 :: sv_rf G.1 i :: st) svSH hi hl hr :=
  J_callV (M := (RX7, cc, nL, ret, nm)) (As := [v0]) (n := 1) hsh rfl T calX5_append wmX7_76 (sv_in 317 (by decide +kernel) (by decide +kernel)) (sv_in 318 (by decide +kernel) (by decide +kernel)) rfl rfl hrest hR d (fun v sh' a b c h => by
    obtain ⟨rfl, rfl, hp⟩ := h
    exact kk a b c hp)
theorem wmX7_80 : Cond.methodLink RX7 80 yX5_readInto ∈ sv_tbl := (sv_in 329 (by decide +kernel) (by decide +kernel))
theorem caX7_80 {i : Nat} {v0 : Value} {rm : Room} {post : Int32 → svH → svL → svR → Prop} (T : svI l G yX5_readInto mX5_readInto rm (sv_rf G.1 i :: [v0]) hi hl hr post) (hsh : svSH[i]? = some (0, 5)) (hrest : (st.map fun v => v.category).sum ≤ 8) (hR : sv_rooms R rm mX5_readInto cs sl 0 0) (d : decode cc pc = .ok (.invokevirtual 80, 3)) (kk : ∀ (r : Int32) (a : svH) (b : svL) (c : svR), post r a b c → svJ l G R (RX7, cc, nL, ret, nm) F cs sl (pc + 3) ls (.int r :: st) svSH a b c) : svJ l G R (RX7, cc, nL, ret, nm) F cs sl pc ls (v0 :: sv_rf G.1 i :: st) svSH hi hl hr :=
  J_callV (M := (RX7, cc, nL, ret, nm)) (As := [v0]) (n := 1) hsh rfl T calX5_readInto wmX7_80 (sv_in 330 (by decide +kernel) (by decide +kernel)) (sv_in 331 (by decide +kernel) (by decide +kernel)) rfl rfl hrest hR d (fun v sh' a b c h => by
    obtain ⟨r, rfl, rfl, hp⟩ := h
    exact kk r a b c hp)
theorem wmX7_84 : Cond.methodLink RX7 84 yX3_begin ∈ sv_tbl := (sv_in 394 (by decide +kernel) (by decide +kernel))
theorem caX7_84 {i : Nat} {v0 : Value} {rm : Room} {post : svH → svL → svR → Prop} (T : svV l G yX3_begin mX3_begin rm (sv_rf G.1 i :: [v0]) hi hl hr post) (hsh : svSH[i]? = some (0, 3)) (hrest : (st.map fun v => v.category).sum ≤ 8) (hR : sv_rooms R rm mX3_begin cs sl 0 0) (d : decode cc pc = .ok (.invokevirtual 84, 3)) (kk : ∀ (a : svH) (b : svL) (c : svR), post a b c → svJ l G R (RX7, cc, nL, ret, nm) F cs sl (pc + 3) ls st svSH a b c) : svJ l G R (RX7, cc, nL, ret, nm) F cs sl pc ls (v0 :: sv_rf G.1 i :: st) svSH hi hl hr :=
  J_callV (M := (RX7, cc, nL, ret, nm)) (As := [v0]) (n := 1) hsh rfl T calX3_begin wmX7_84 (sv_in 395 (by decide +kernel) (by decide +kernel)) (sv_in 396 (by decide +kernel) (by decide +kernel)) rfl rfl hrest hR d (fun v sh' a b c h => by
    obtain ⟨rfl, rfl, hp⟩ := h
    exact kk a b c hp)
theorem wkX7_227 : Cond.constant RX7 227 (-1000000) ∈ lw_tbl := List.mem_of_getElem? (i := 619) (by decide +kernel)
theorem wgX7_227 : goodWord (Cond.constant RX7 227 (-1000000)) = true := by decide +kernel
theorem ldX7_227 (d : decode cc pc = .ok (.ldc 227, 2)) (kk : svJ l G R (RX7, cc, nL, ret, nm) F cs sl (pc + 2) ls (.int (-1000000) :: st) sh hi hl hr) : svJ l G R (RX7, cc, nL, ret, nm) F cs sl pc ls st sh hi hl hr :=
  J_ldc (M := (RX7, cc, nL, ret, nm)) (-1000000) wkX7_227 wgX7_227 d kk
theorem wkX7_267 : Cond.constantLong RX7 267 (10) ∈ sv_tbl := (sv_in 628 (by decide +kernel) (by decide +kernel))
theorem ldX7_267 (d : decode cc pc = .ok (.ldc2_w 267, 3)) (kk : svJ l G R (RX7, cc, nL, ret, nm) F cs sl (pc + 3) ls (.long (10) :: st) sh hi hl hr) : svJ l G R (RX7, cc, nL, ret, nm) F cs sl pc ls st sh hi hl hr :=
  J_ldc2 (M := (RX7, cc, nL, ret, nm)) 10 wkX7_267 d kk
theorem wkX7_269 : Cond.constantLong RX7 269 (100) ∈ sv_tbl := (sv_in 633 (by decide +kernel) (by decide +kernel))
theorem ldX7_269 (d : decode cc pc = .ok (.ldc2_w 269, 3)) (kk : svJ l G R (RX7, cc, nL, ret, nm) F cs sl (pc + 3) ls (.long (100) :: st) sh hi hl hr) : svJ l G R (RX7, cc, nL, ret, nm) F cs sl pc ls st sh hi hl hr :=
  J_ldc2 (M := (RX7, cc, nL, ret, nm)) 100 wkX7_269 d kk
theorem wkX7_274 : Cond.constantLong RX7 274 (1000) ∈ sv_tbl := (sv_in 642 (by decide +kernel) (by decide +kernel))
theorem ldX7_274 (d : decode cc pc = .ok (.ldc2_w 274, 3)) (kk : svJ l G R (RX7, cc, nL, ret, nm) F cs sl (pc + 3) ls (.long (1000) :: st) sh hi hl hr) : svJ l G R (RX7, cc, nL, ret, nm) F cs sl pc ls st sh hi hl hr :=
  J_ldc2 (M := (RX7, cc, nL, ret, nm)) 1000 wkX7_274 d kk
theorem wkX7_276 : Cond.constantLong RX7 276 (10000) ∈ sv_tbl := (sv_in 647 (by decide +kernel) (by decide +kernel))
theorem ldX7_276 (d : decode cc pc = .ok (.ldc2_w 276, 3)) (kk : svJ l G R (RX7, cc, nL, ret, nm) F cs sl (pc + 3) ls (.long (10000) :: st) sh hi hl hr) : svJ l G R (RX7, cc, nL, ret, nm) F cs sl pc ls st sh hi hl hr :=
  J_ldc2 (M := (RX7, cc, nL, ret, nm)) 10000 wkX7_276 d kk
theorem wkX7_278 : Cond.constantLong RX7 278 (100000) ∈ sv_tbl := (sv_in 652 (by decide +kernel) (by decide +kernel))
theorem ldX7_278 (d : decode cc pc = .ok (.ldc2_w 278, 3)) (kk : svJ l G R (RX7, cc, nL, ret, nm) F cs sl (pc + 3) ls (.long (100000) :: st) sh hi hl hr) : svJ l G R (RX7, cc, nL, ret, nm) F cs sl pc ls st sh hi hl hr :=
  J_ldc2 (M := (RX7, cc, nL, ret, nm)) 100000 wkX7_278 d kk
theorem wcX7_19 : Cond.classLink RX7 19 RX5 ∈ sv_tbl := (sv_in 134 (by decide +kernel) (by decide +kernel))
theorem nwX7_19 (hR1 : cs + 1 ≤ R.cells) (hR2 : sl + 6 ≤ R.slots) (d : decode cc pc = .ok (.new 19, 3)) (kk : svJ l G R (RX7, cc, nL, ret, nm) F (cs + 1) (sl + 6) (pc + 3) ls (sv_rf G.1 sh.length :: st) (sh ++ [(0, 5)]) (sv_z hi sh.length 0) (sv_z hl sh.length 0) (sv_z hr sh.length none)) : svJ l G R (RX7, cc, nL, ret, nm) F cs sl pc ls st sh hi hl hr :=
  J_newo (M := (RX7, cc, nL, ret, nm)) (ci := 5) (N := 6) inX5 tyX5_ok rfl rfl (fun j hj b => by
    have : j = 0 ∨ j = 1 ∨ j = 2 ∨ j = 3 ∨ j = 4 ∨ j = 5 := by omega
    rcases this with rfl | rfl | rfl | rfl | rfl | rfl <;> first | rfl | simp [tyX5, defaultValue, vp_V, sv_fs, sv_fk, sv_fv, sv_z, sv_rv, va_rf]) wcX7_19 (sv_in 135 (by decide +kernel) (by decide +kernel)) (sv_in 56 (by decide +kernel) (by decide +kernel)) hR1 hR2 d kk
theorem wcX7_26 : Cond.classLink RX7 26 RX3 ∈ sv_tbl := (sv_in 161 (by decide +kernel) (by decide +kernel))
theorem nwX7_26 (hR1 : cs + 1 ≤ R.cells) (hR2 : sl + 8 ≤ R.slots) (d : decode cc pc = .ok (.new 26, 3)) (kk : svJ l G R (RX7, cc, nL, ret, nm) F (cs + 1) (sl + 8) (pc + 3) ls (sv_rf G.1 sh.length :: st) (sh ++ [(0, 3)]) (sv_z hi sh.length 0) (sv_z hl sh.length 0) (sv_z hr sh.length none)) : svJ l G R (RX7, cc, nL, ret, nm) F cs sl pc ls st sh hi hl hr :=
  J_newo (M := (RX7, cc, nL, ret, nm)) (ci := 3) (N := 8) inX3 tyX3_ok rfl rfl (fun j hj b => by
    have : j = 0 ∨ j = 1 ∨ j = 2 ∨ j = 3 ∨ j = 4 ∨ j = 5 ∨ j = 6 ∨ j = 7 := by omega
    rcases this with rfl | rfl | rfl | rfl | rfl | rfl | rfl | rfl <;> first | rfl | simp [tyX3, defaultValue, vp_V, sv_fs, sv_fk, sv_fv, sv_z, sv_rv, va_rf]) wcX7_26 (sv_in 162 (by decide +kernel) (by decide +kernel)) (sv_in 57 (by decide +kernel) (by decide +kernel)) hR1 hR2 d kk
theorem wcX7_33 : Cond.classLink RX7 33 RX4 ∈ sv_tbl := (sv_in 200 (by decide +kernel) (by decide +kernel))
theorem nwX7_33 (hR1 : cs + 1 ≤ R.cells) (hR2 : sl + 2 ≤ R.slots) (d : decode cc pc = .ok (.new 33, 3)) (kk : svJ l G R (RX7, cc, nL, ret, nm) F (cs + 1) (sl + 2) (pc + 3) ls (sv_rf G.1 sh.length :: st) (sh ++ [(0, 4)]) (sv_z hi sh.length 0) (sv_z hl sh.length 0) (sv_z hr sh.length none)) : svJ l G R (RX7, cc, nL, ret, nm) F cs sl pc ls st sh hi hl hr :=
  J_newo (M := (RX7, cc, nL, ret, nm)) (ci := 4) (N := 2) inX4 tyX4_ok rfl rfl (fun j hj b => by
    have : j = 0 ∨ j = 1 := by omega
    rcases this with rfl | rfl <;> first | rfl | simp [tyX4, defaultValue, vp_V, sv_fs, sv_fk, sv_fv, sv_z, sv_rv, va_rf]) wcX7_33 (sv_in 201 (by decide +kernel) (by decide +kernel)) (sv_in 58 (by decide +kernel) (by decide +kernel)) hR1 hR2 d kk
theorem wcX7_40 : Cond.classLink RX7 40 RX0 ∈ sv_tbl := (sv_in 217 (by decide +kernel) (by decide +kernel))
theorem nwX7_40 (hR1 : cs + 1 ≤ R.cells) (hR2 : sl + 2 ≤ R.slots) (d : decode cc pc = .ok (.new 40, 3)) (kk : svJ l G R (RX7, cc, nL, ret, nm) F (cs + 1) (sl + 2) (pc + 3) ls (sv_rf G.1 sh.length :: st) (sh ++ [(0, 0)]) (sv_z hi sh.length 0) (sv_z hl sh.length 0) (sv_z hr sh.length none)) : svJ l G R (RX7, cc, nL, ret, nm) F cs sl pc ls st sh hi hl hr :=
  J_newo (M := (RX7, cc, nL, ret, nm)) (ci := 0) (N := 2) inX0 tyX0_ok rfl rfl (fun j hj b => by
    have : j = 0 ∨ j = 1 := by omega
    rcases this with rfl | rfl <;> first | rfl | simp [tyX0, defaultValue, vp_V, sv_fs, sv_fk, sv_fv, sv_z, sv_rv, va_rf]) wcX7_40 (sv_in 218 (by decide +kernel) (by decide +kernel)) (sv_in 59 (by decide +kernel) (by decide +kernel)) hR1 hR2 d kk
theorem wcX7_47 : Cond.classLink RX7 47 RX1 ∈ sv_tbl := (sv_in 231 (by decide +kernel) (by decide +kernel))
theorem nwX7_47 (hR1 : cs + 1 ≤ R.cells) (hR2 : sl + 5 ≤ R.slots) (d : decode cc pc = .ok (.new 47, 3)) (kk : svJ l G R (RX7, cc, nL, ret, nm) F (cs + 1) (sl + 5) (pc + 3) ls (sv_rf G.1 sh.length :: st) (sh ++ [(0, 1)]) (sv_z hi sh.length 0) (sv_z hl sh.length 0) (sv_z hr sh.length none)) : svJ l G R (RX7, cc, nL, ret, nm) F cs sl pc ls st sh hi hl hr :=
  J_newo (M := (RX7, cc, nL, ret, nm)) (ci := 1) (N := 5) inX1 tyX1_ok rfl rfl (fun j hj b => by
    have : j = 0 ∨ j = 1 ∨ j = 2 ∨ j = 3 ∨ j = 4 := by omega
    rcases this with rfl | rfl | rfl | rfl | rfl <;> first | rfl | simp [tyX1, defaultValue, vp_V, sv_fs, sv_fk, sv_fv, sv_z, sv_rv, va_rf]) wcX7_47 (sv_in 232 (by decide +kernel) (by decide +kernel)) (sv_in 60 (by decide +kernel) (by decide +kernel)) hR1 hR2 d kk
theorem wcX7_54 : Cond.classLink RX7 54 RX2 ∈ sv_tbl := (sv_in 255 (by decide +kernel) (by decide +kernel))
theorem nwX7_54 (hR1 : cs + 1 ≤ R.cells) (hR2 : sl + 3 ≤ R.slots) (d : decode cc pc = .ok (.new 54, 3)) (kk : svJ l G R (RX7, cc, nL, ret, nm) F (cs + 1) (sl + 3) (pc + 3) ls (sv_rf G.1 sh.length :: st) (sh ++ [(0, 2)]) (sv_z hi sh.length 0) (sv_z hl sh.length 0) (sv_z hr sh.length none)) : svJ l G R (RX7, cc, nL, ret, nm) F cs sl pc ls st sh hi hl hr :=
  J_newo (M := (RX7, cc, nL, ret, nm)) (ci := 2) (N := 3) inX2 tyX2_ok rfl rfl (fun j hj b => by
    have : j = 0 ∨ j = 1 ∨ j = 2 := by omega
    rcases this with rfl | rfl | rfl <;> first | rfl | simp [tyX2, defaultValue, vp_V, sv_fs, sv_fk, sv_fv, sv_z, sv_rv, va_rf]) wcX7_54 (sv_in 256 (by decide +kernel) (by decide +kernel)) (sv_in 61 (by decide +kernel) (by decide +kernel)) hR1 hR2 d kk
theorem wcX7_7 : Cond.classLink RX7 7 RX6 ∈ sv_tbl := (sv_in 74 (by decide +kernel) (by decide +kernel))
theorem nwX7_7 (hR1 : cs + 1 ≤ R.cells) (hR2 : sl + 11 ≤ R.slots) (d : decode cc pc = .ok (.new 7, 3)) (kk : svJ l G R (RX7, cc, nL, ret, nm) F (cs + 1) (sl + 11) (pc + 3) ls (sv_rf G.1 sh.length :: st) (sh ++ [(0, 6)]) (sv_z hi sh.length 0) (sv_z hl sh.length 0) (sv_z hr sh.length none)) : svJ l G R (RX7, cc, nL, ret, nm) F cs sl pc ls st sh hi hl hr :=
  J_newo (M := (RX7, cc, nL, ret, nm)) (ci := 6) (N := 11) inX6 tyX6_ok rfl rfl (fun j hj b => by
    have : j = 0 ∨ j = 1 ∨ j = 2 ∨ j = 3 ∨ j = 4 ∨ j = 5 ∨ j = 6 ∨ j = 7 ∨ j = 8 ∨ j = 9 ∨ j = 10 := by omega
    rcases this with rfl | rfl | rfl | rfl | rfl | rfl | rfl | rfl | rfl | rfl | rfl <;> first | rfl | simp [tyX6, defaultValue, vp_V, sv_fs, sv_fk, sv_fv, sv_z, sv_rv, va_rf]) wcX7_7 (sv_in 75 (by decide +kernel) (by decide +kernel)) (sv_in 55 (by decide +kernel) (by decide +kernel)) hR1 hR2 d kk
theorem fpX7_10 {i x : Nat} (hsh : sh[i]? = some (0, 7)) (d : decode cc pc = .ok (.putfield 10, 3)) (kk : svJ l G R (RX7, cc, nL, ret, nm) F cs sl (pc + 3) ls st sh hi hl (sv_u2 hr i 0 (some x))) : svJ l G R (RX7, cc, nL, ret, nm) F cs sl pc ls (sv_rf G.1 x :: sv_rf G.1 i :: st) sh hi hl hr :=
  J_putR (M := (RX7, cc, nL, ret, nm)) (k := 0) inX7 tyX7_ok nmX7 rfl (by decide) rfl rfl wfX7_10 rfl rfl rfl hsh d kk
theorem fpX7_115 {i : Nat} {x : Int32} (hsh : sh[i]? = some (0, 3)) (d : decode cc pc = .ok (.putfield 115, 3)) (kk : svJ l G R (RX7, cc, nL, ret, nm) F cs sl (pc + 3) ls st sh (sv_u2 hi i 3 x) hl hr) : svJ l G R (RX7, cc, nL, ret, nm) F cs sl pc ls (.int x :: sv_rf G.1 i :: st) sh hi hl hr :=
  J_putI (M := (RX7, cc, nL, ret, nm)) (k := 3) inX3 tyX3_ok nmX3 rfl (by decide) rfl rfl wfX7_115 rfl rfl rfl hsh d kk
theorem fpX7_134 {i : Nat} {x : Int32} (hsh : sh[i]? = some (0, 3)) (d : decode cc pc = .ok (.putfield 134, 3)) (kk : svJ l G R (RX7, cc, nL, ret, nm) F cs sl (pc + 3) ls st sh (sv_u2 hi i 4 x) hl hr) : svJ l G R (RX7, cc, nL, ret, nm) F cs sl pc ls (.int x :: sv_rf G.1 i :: st) sh hi hl hr :=
  J_putI (M := (RX7, cc, nL, ret, nm)) (k := 4) inX3 tyX3_ok nmX3 rfl (by decide) rfl rfl wfX7_134 rfl rfl rfl hsh d kk
theorem fpX7_150 {i : Nat} {x : Int32} (hsh : sh[i]? = some (0, 3)) (d : decode cc pc = .ok (.putfield 150, 3)) (kk : svJ l G R (RX7, cc, nL, ret, nm) F cs sl (pc + 3) ls st sh (sv_u2 hi i 0 x) hl hr) : svJ l G R (RX7, cc, nL, ret, nm) F cs sl pc ls (.int x :: sv_rf G.1 i :: st) sh hi hl hr :=
  J_putI (M := (RX7, cc, nL, ret, nm)) (k := 0) inX3 tyX3_ok nmX3 rfl (by decide) rfl rfl wfX7_150 rfl rfl rfl hsh d kk
theorem fpX7_157 {i : Nat} {x : Int32} (hsh : sh[i]? = some (0, 3)) (d : decode cc pc = .ok (.putfield 157, 3)) (kk : svJ l G R (RX7, cc, nL, ret, nm) F cs sl (pc + 3) ls st sh (sv_u2 hi i 2 x) hl hr) : svJ l G R (RX7, cc, nL, ret, nm) F cs sl pc ls (.int x :: sv_rf G.1 i :: st) sh hi hl hr :=
  J_putI (M := (RX7, cc, nL, ret, nm)) (k := 2) inX3 tyX3_ok nmX3 rfl (by decide) rfl rfl wfX7_157 rfl rfl rfl hsh d kk
theorem fpX7_16 {i x : Nat} (hsh : sh[i]? = some (0, 7)) (d : decode cc pc = .ok (.putfield 16, 3)) (kk : svJ l G R (RX7, cc, nL, ret, nm) F cs sl (pc + 3) ls st sh hi hl (sv_u2 hr i 1 (some x))) : svJ l G R (RX7, cc, nL, ret, nm) F cs sl pc ls (sv_rf G.1 x :: sv_rf G.1 i :: st) sh hi hl hr :=
  J_putR (M := (RX7, cc, nL, ret, nm)) (k := 1) inX7 tyX7_ok nmX7 rfl (by decide) rfl rfl wfX7_16 rfl rfl rfl hsh d kk
theorem fpX7_167 {i : Nat} {x : Int32} (hsh : sh[i]? = some (0, 3)) (d : decode cc pc = .ok (.putfield 167, 3)) (kk : svJ l G R (RX7, cc, nL, ret, nm) F cs sl (pc + 3) ls st sh (sv_u2 hi i 1 x) hl hr) : svJ l G R (RX7, cc, nL, ret, nm) F cs sl pc ls (.int x :: sv_rf G.1 i :: st) sh hi hl hr :=
  J_putI (M := (RX7, cc, nL, ret, nm)) (k := 1) inX3 tyX3_ok nmX3 rfl (by decide) rfl rfl wfX7_167 rfl rfl rfl hsh d kk
theorem fpX7_22 {i x : Nat} (hnm : nm = "<init>") (hsh : sh[i]? = some (0, 7)) (d : decode cc pc = .ok (.putfield 22, 3)) (kk : svJ l G R (RX7, cc, nL, ret, nm) F cs sl (pc + 3) ls st sh hi hl (sv_u2 hr i 2 (some x))) : svJ l G R (RX7, cc, nL, ret, nm) F cs sl pc ls (sv_rf G.1 x :: sv_rf G.1 i :: st) sh hi hl hr :=
  J_putRF (M := (RX7, cc, nL, ret, nm)) (k := 2) inX7 tyX7_ok nmX7 rfl (by decide) rfl rfl wfX7_22 rfl hnm rfl rfl rfl hsh d kk
theorem fpX7_29 {i x : Nat} (hnm : nm = "<init>") (hsh : sh[i]? = some (0, 7)) (d : decode cc pc = .ok (.putfield 29, 3)) (kk : svJ l G R (RX7, cc, nL, ret, nm) F cs sl (pc + 3) ls st sh hi hl (sv_u2 hr i 3 (some x))) : svJ l G R (RX7, cc, nL, ret, nm) F cs sl pc ls (sv_rf G.1 x :: sv_rf G.1 i :: st) sh hi hl hr :=
  J_putRF (M := (RX7, cc, nL, ret, nm)) (k := 3) inX7 tyX7_ok nmX7 rfl (by decide) rfl rfl wfX7_29 rfl hnm rfl rfl rfl hsh d kk
theorem fpX7_36 {i x : Nat} (hnm : nm = "<init>") (hsh : sh[i]? = some (0, 7)) (d : decode cc pc = .ok (.putfield 36, 3)) (kk : svJ l G R (RX7, cc, nL, ret, nm) F cs sl (pc + 3) ls st sh hi hl (sv_u2 hr i 4 (some x))) : svJ l G R (RX7, cc, nL, ret, nm) F cs sl pc ls (sv_rf G.1 x :: sv_rf G.1 i :: st) sh hi hl hr :=
  J_putRF (M := (RX7, cc, nL, ret, nm)) (k := 4) inX7 tyX7_ok nmX7 rfl (by decide) rfl rfl wfX7_36 rfl hnm rfl rfl rfl hsh d kk
theorem fpX7_43 {i x : Nat} (hnm : nm = "<init>") (hsh : sh[i]? = some (0, 7)) (d : decode cc pc = .ok (.putfield 43, 3)) (kk : svJ l G R (RX7, cc, nL, ret, nm) F cs sl (pc + 3) ls st sh hi hl (sv_u2 hr i 5 (some x))) : svJ l G R (RX7, cc, nL, ret, nm) F cs sl pc ls (sv_rf G.1 x :: sv_rf G.1 i :: st) sh hi hl hr :=
  J_putRF (M := (RX7, cc, nL, ret, nm)) (k := 5) inX7 tyX7_ok nmX7 rfl (by decide) rfl rfl wfX7_43 rfl hnm rfl rfl rfl hsh d kk
theorem fpX7_50 {i x : Nat} (hnm : nm = "<init>") (hsh : sh[i]? = some (0, 7)) (d : decode cc pc = .ok (.putfield 50, 3)) (kk : svJ l G R (RX7, cc, nL, ret, nm) F cs sl (pc + 3) ls st sh hi hl (sv_u2 hr i 6 (some x))) : svJ l G R (RX7, cc, nL, ret, nm) F cs sl pc ls (sv_rf G.1 x :: sv_rf G.1 i :: st) sh hi hl hr :=
  J_putRF (M := (RX7, cc, nL, ret, nm)) (k := 6) inX7 tyX7_ok nmX7 rfl (by decide) rfl rfl wfX7_50 rfl hnm rfl rfl rfl hsh d kk
theorem fpX7_57 {i x : Nat} (hnm : nm = "<init>") (hsh : sh[i]? = some (0, 7)) (d : decode cc pc = .ok (.putfield 57, 3)) (kk : svJ l G R (RX7, cc, nL, ret, nm) F cs sl (pc + 3) ls st sh hi hl (sv_u2 hr i 7 (some x))) : svJ l G R (RX7, cc, nL, ret, nm) F cs sl pc ls (sv_rf G.1 x :: sv_rf G.1 i :: st) sh hi hl hr :=
  J_putRF (M := (RX7, cc, nL, ret, nm)) (k := 7) inX7 tyX7_ok nmX7 rfl (by decide) rfl rfl wfX7_57 rfl hnm rfl rfl rfl hsh d kk
theorem fpX7_61 {i x : Nat} (hnm : nm = "<init>") (hsh : sh[i]? = some (0, 7)) (d : decode cc pc = .ok (.putfield 61, 3)) (kk : svJ l G R (RX7, cc, nL, ret, nm) F cs sl (pc + 3) ls st sh hi hl (sv_u2 hr i 8 (some x))) : svJ l G R (RX7, cc, nL, ret, nm) F cs sl pc ls (sv_rf G.1 x :: sv_rf G.1 i :: st) sh hi hl hr :=
  J_putRF (M := (RX7, cc, nL, ret, nm)) (k := 8) inX7 tyX7_ok nmX7 rfl (by decide) rfl rfl wfX7_61 rfl hnm rfl rfl rfl hsh d kk
theorem fpX7_64 {i : Nat} {x : Int64} (hsh : sh[i]? = some (0, 7)) (d : decode cc pc = .ok (.putfield 64, 3)) (kk : svJ l G R (RX7, cc, nL, ret, nm) F cs sl (pc + 3) ls st sh hi (sv_u2 hl i 9 x) hr) : svJ l G R (RX7, cc, nL, ret, nm) F cs sl pc ls (.long x :: sv_rf G.1 i :: st) sh hi hl hr :=
  J_putL (M := (RX7, cc, nL, ret, nm)) (k := 9) inX7 tyX7_ok nmX7 rfl (by decide) rfl rfl wfX7_64 rfl rfl rfl hsh d kk
theorem fpX7_72 {i : Nat} {x : Int32} (hsh : sh[i]? = some (0, 5)) (d : decode cc pc = .ok (.putfield 72, 3)) (kk : svJ l G R (RX7, cc, nL, ret, nm) F cs sl (pc + 3) ls st sh (sv_u2 hi i 0 x) hl hr) : svJ l G R (RX7, cc, nL, ret, nm) F cs sl pc ls (.int x :: sv_rf G.1 i :: st) sh hi hl hr :=
  J_putI (M := (RX7, cc, nL, ret, nm)) (k := 0) inX5 tyX5_ok nmX5 rfl (by decide) rfl rfl wfX7_72 rfl rfl rfl hsh d kk
theorem fpX7_88 {i : Nat} {x : Int32} (hsh : sh[i]? = some (0, 4)) (d : decode cc pc = .ok (.putfield 88, 3)) (kk : svJ l G R (RX7, cc, nL, ret, nm) F cs sl (pc + 3) ls st sh (sv_u2 hi i 0 x) hl hr) : svJ l G R (RX7, cc, nL, ret, nm) F cs sl pc ls (.int x :: sv_rf G.1 i :: st) sh hi hl hr :=
  J_putI (M := (RX7, cc, nL, ret, nm)) (k := 0) inX4 tyX4_ok nmX4 rfl (by decide) rfl rfl wfX7_88 rfl rfl rfl hsh d kk
theorem fpX7_91 {i : Nat} {x : Int32} (hsh : sh[i]? = some (0, 1)) (d : decode cc pc = .ok (.putfield 91, 3)) (kk : svJ l G R (RX7, cc, nL, ret, nm) F cs sl (pc + 3) ls st sh (sv_u2 hi i 0 x) hl hr) : svJ l G R (RX7, cc, nL, ret, nm) F cs sl pc ls (.int x :: sv_rf G.1 i :: st) sh hi hl hr :=
  J_putI (M := (RX7, cc, nL, ret, nm)) (k := 0) inX1 tyX1_ok nmX1 rfl (by decide) rfl rfl wfX7_91 rfl rfl rfl hsh d kk
theorem fpX7_94 {i : Nat} {x : Int32} (hx : x = 0 ∨ x = 1) (hsh : sh[i]? = some (0, 2)) (d : decode cc pc = .ok (.putfield 94, 3)) (kk : svJ l G R (RX7, cc, nL, ret, nm) F cs sl (pc + 3) ls st sh (sv_u2 hi i 0 x) hl hr) : svJ l G R (RX7, cc, nL, ret, nm) F cs sl pc ls (.int x :: sv_rf G.1 i :: st) sh hi hl hr :=
  J_putI (M := (RX7, cc, nL, ret, nm)) (k := 0) inX2 tyX2_ok nmX2 rfl (by decide) rfl rfl wfX7_94 rfl (by rcases hx with rfl | rfl <;> rfl) (by rcases hx with rfl | rfl <;> rfl) hsh d kk
theorem wmL_12 : Cond.methodLink RL 12 yX8_init ∈ sv_tbl := (sv_in 680 (by decide +kernel) (by decide +kernel))
theorem caL_12 {i mc ms : Nat} {rm : Room} {post : svQ} (T : svT l G yX8_init mX8_init rm mc ms (sv_rf G.1 i :: []) sh hi hl hr post) (hrest : (st.map fun v => v.category).sum ≤ 8) (hR : sv_rooms R rm mX8_init cs sl mc ms) (d : decode cc pc = .ok (.invokespecial 12, 3)) (kk : ∀ (v : Option Value) (sh' : svS) (a : svH) (b : svL) (c : svR), post v sh' a b c → svJ l G R (RL, cc, nL, ret, nm) F (cs + mc) (sl + ms) (pc + 3) ls (v.toList ++ st) sh' a b c) : svJ l G R (RL, cc, nL, ret, nm) F cs sl pc ls (sv_rf G.1 i :: st) sh hi hl hr :=
  J_callI (M := (RL, cc, nL, ret, nm)) (As := []) (n := 0) T calX8_init rfl wmL_12 (sv_in 681 (by decide +kernel) (by decide +kernel)) rfl rfl rfl hrest hR d kk
theorem wmL_9 : Cond.methodLink RL 9 yX7_init ∈ sv_tbl := (sv_in 68 (by decide +kernel) (by decide +kernel))
theorem caL_9 {i mc ms : Nat} {rm : Room} {post : svQ} (T : svT l G yX7_init mX7_init rm mc ms (sv_rf G.1 i :: []) sh hi hl hr post) (hrest : (st.map fun v => v.category).sum ≤ 8) (hR : sv_rooms R rm mX7_init cs sl mc ms) (d : decode cc pc = .ok (.invokespecial 9, 3)) (kk : ∀ (v : Option Value) (sh' : svS) (a : svH) (b : svL) (c : svR), post v sh' a b c → svJ l G R (RL, cc, nL, ret, nm) F (cs + mc) (sl + ms) (pc + 3) ls (v.toList ++ st) sh' a b c) : svJ l G R (RL, cc, nL, ret, nm) F cs sl pc ls (sv_rf G.1 i :: st) sh hi hl hr :=
  J_callI (M := (RL, cc, nL, ret, nm)) (As := []) (n := 0) T calX7_init rfl wmL_9 (sv_in 69 (by decide +kernel) (by decide +kernel)) rfl rfl rfl hrest hR d kk
theorem wmL_100 : Cond.methodLink RL 100 yX8_ask ∈ sv_tbl := (sv_in 987 (by decide +kernel) (by decide +kernel))
theorem caL_100 {i : Nat} {rm : Room} {post : Int32 → svH → svL → svR → Prop} (T : svI l G yX8_ask mX8_ask rm (sv_rf G.1 i :: []) hi hl hr post) (hsh : svSH[i]? = some (0, 8)) (hrest : (st.map fun v => v.category).sum ≤ 8) (hR : sv_rooms R rm mX8_ask cs sl 0 0) (d : decode cc pc = .ok (.invokevirtual 100, 3)) (kk : ∀ (r : Int32) (a : svH) (b : svL) (c : svR), post r a b c → svJ l G R (RL, cc, nL, ret, nm) F cs sl (pc + 3) ls (.int r :: st) svSH a b c) : svJ l G R (RL, cc, nL, ret, nm) F cs sl pc ls (sv_rf G.1 i :: st) svSH hi hl hr :=
  J_callV (M := (RL, cc, nL, ret, nm)) (As := []) (n := 0) hsh rfl T calX8_ask wmL_100 (sv_in 988 (by decide +kernel) (by decide +kernel)) (sv_in 989 (by decide +kernel) (by decide +kernel)) rfl rfl hrest hR d (fun v sh' a b c h => by
    obtain ⟨r, rfl, rfl, hp⟩ := h
    exact kk r a b c hp)
theorem wmL_101 : Cond.methodLink RL 101 yX7_mark ∈ sv_tbl := (sv_in 615 (by decide +kernel) (by decide +kernel))
theorem caL_101 {i : Nat} {v0 v1 : Value} {rm : Room} {post : Int32 → svH → svL → svR → Prop} (T : svI l G yX7_mark mX7_mark rm (sv_rf G.1 i :: [v0, v1]) hi hl hr post) (hsh : svSH[i]? = some (0, 7)) (hrest : (st.map fun v => v.category).sum ≤ 8) (hR : sv_rooms R rm mX7_mark cs sl 0 0) (d : decode cc pc = .ok (.invokevirtual 101, 3)) (kk : ∀ (r : Int32) (a : svH) (b : svL) (c : svR), post r a b c → svJ l G R (RL, cc, nL, ret, nm) F cs sl (pc + 3) ls (.int r :: st) svSH a b c) : svJ l G R (RL, cc, nL, ret, nm) F cs sl pc ls (v1 :: v0 :: sv_rf G.1 i :: st) svSH hi hl hr :=
  J_callV (M := (RL, cc, nL, ret, nm)) (As := [v0, v1]) (n := 2) hsh rfl T calX7_mark wmL_101 (sv_in 616 (by decide +kernel) (by decide +kernel)) (sv_in 617 (by decide +kernel) (by decide +kernel)) rfl rfl hrest hR d (fun v sh' a b c h => by
    obtain ⟨r, rfl, rfl, hp⟩ := h
    exact kk r a b c hp)
theorem wmL_104 : Cond.methodLink RL 104 yX8_mark ∈ sv_tbl := (sv_in 992 (by decide +kernel) (by decide +kernel))
theorem caL_104 {i : Nat} {v0 v1 : Value} {rm : Room} {post : Int32 → svH → svL → svR → Prop} (T : svI l G yX8_mark mX8_mark rm (sv_rf G.1 i :: [v0, v1]) hi hl hr post) (hsh : svSH[i]? = some (0, 8)) (hrest : (st.map fun v => v.category).sum ≤ 8) (hR : sv_rooms R rm mX8_mark cs sl 0 0) (d : decode cc pc = .ok (.invokevirtual 104, 3)) (kk : ∀ (r : Int32) (a : svH) (b : svL) (c : svR), post r a b c → svJ l G R (RL, cc, nL, ret, nm) F cs sl (pc + 3) ls (.int r :: st) svSH a b c) : svJ l G R (RL, cc, nL, ret, nm) F cs sl pc ls (v1 :: v0 :: sv_rf G.1 i :: st) svSH hi hl hr :=
  J_callV (M := (RL, cc, nL, ret, nm)) (As := [v0, v1]) (n := 2) hsh rfl T calX8_mark wmL_104 (sv_in 993 (by decide +kernel) (by decide +kernel)) (sv_in 994 (by decide +kernel) (by decide +kernel)) rfl rfl hrest hR d (fun v sh' a b c h => by
    obtain ⟨r, rfl, rfl, hp⟩ := h
    exact kk r a b c hp)
theorem wmL_105 : Cond.methodLink RL 105 yX7_keep ∈ sv_tbl := (sv_in 653 (by decide +kernel) (by decide +kernel))
theorem caL_105 {i : Nat} {v0 : Value} {rm : Room} {post : Int32 → svH → svL → svR → Prop} (T : svI l G yX7_keep mX7_keep rm (sv_rf G.1 i :: [v0]) hi hl hr post) (hsh : svSH[i]? = some (0, 7)) (hrest : (st.map fun v => v.category).sum ≤ 8) (hR : sv_rooms R rm mX7_keep cs sl 0 0) (d : decode cc pc = .ok (.invokevirtual 105, 3)) (kk : ∀ (r : Int32) (a : svH) (b : svL) (c : svR), post r a b c → svJ l G R (RL, cc, nL, ret, nm) F cs sl (pc + 3) ls (.int r :: st) svSH a b c) : svJ l G R (RL, cc, nL, ret, nm) F cs sl pc ls (v0 :: sv_rf G.1 i :: st) svSH hi hl hr :=
  J_callV (M := (RL, cc, nL, ret, nm)) (As := [v0]) (n := 1) hsh rfl T calX7_keep wmL_105 (sv_in 654 (by decide +kernel) (by decide +kernel)) (sv_in 655 (by decide +kernel) (by decide +kernel)) rfl rfl hrest hR d (fun v sh' a b c h => by
    obtain ⟨r, rfl, rfl, hp⟩ := h
    exact kk r a b c hp)
theorem wmL_108 : Cond.methodLink RL 108 yX8_keep ∈ sv_tbl := (sv_in 1010 (by decide +kernel) (by decide +kernel))
theorem caL_108 {i : Nat} {v0 : Value} {rm : Room} {post : Int32 → svH → svL → svR → Prop} (T : svI l G yX8_keep mX8_keep rm (sv_rf G.1 i :: [v0]) hi hl hr post) (hsh : svSH[i]? = some (0, 8)) (hrest : (st.map fun v => v.category).sum ≤ 8) (hR : sv_rooms R rm mX8_keep cs sl 0 0) (d : decode cc pc = .ok (.invokevirtual 108, 3)) (kk : ∀ (r : Int32) (a : svH) (b : svL) (c : svR), post r a b c → svJ l G R (RL, cc, nL, ret, nm) F cs sl (pc + 3) ls (.int r :: st) svSH a b c) : svJ l G R (RL, cc, nL, ret, nm) F cs sl pc ls (v0 :: sv_rf G.1 i :: st) svSH hi hl hr :=
  J_callV (M := (RL, cc, nL, ret, nm)) (As := [v0]) (n := 1) hsh rfl T calX8_keep wmL_108 (sv_in 1011 (by decide +kernel) (by decide +kernel)) (sv_in 1012 (by decide +kernel) (by decide +kernel)) rfl rfl hrest hR d (fun v sh' a b c h => by
    obtain ⟨r, rfl, rfl, hp⟩ := h
    exact kk r a b c hp)
theorem wmL_109 : Cond.methodLink RL 109 yX7_back ∈ sv_tbl := (sv_in 666 (by decide +kernel) (by decide +kernel))
theorem caL_109 {i : Nat} {v0 : Value} {rm : Room} {post : Int32 → svH → svL → svR → Prop} (T : svI l G yX7_back mX7_back rm (sv_rf G.1 i :: [v0]) hi hl hr post) (hsh : svSH[i]? = some (0, 7)) (hrest : (st.map fun v => v.category).sum ≤ 8) (hR : sv_rooms R rm mX7_back cs sl 0 0) (d : decode cc pc = .ok (.invokevirtual 109, 3)) (kk : ∀ (r : Int32) (a : svH) (b : svL) (c : svR), post r a b c → svJ l G R (RL, cc, nL, ret, nm) F cs sl (pc + 3) ls (.int r :: st) svSH a b c) : svJ l G R (RL, cc, nL, ret, nm) F cs sl pc ls (v0 :: sv_rf G.1 i :: st) svSH hi hl hr :=
  J_callV (M := (RL, cc, nL, ret, nm)) (As := [v0]) (n := 1) hsh rfl T calX7_back wmL_109 (sv_in 667 (by decide +kernel) (by decide +kernel)) (sv_in 668 (by decide +kernel) (by decide +kernel)) rfl rfl hrest hR d (fun v sh' a b c h => by
    obtain ⟨r, rfl, rfl, hp⟩ := h
    exact kk r a b c hp)
theorem wmL_112 : Cond.methodLink RL 112 yX8_back ∈ sv_tbl := (sv_in 1014 (by decide +kernel) (by decide +kernel))
theorem caL_112 {i : Nat} {v0 : Value} {rm : Room} {post : Int32 → svH → svL → svR → Prop} (T : svI l G yX8_back mX8_back rm (sv_rf G.1 i :: [v0]) hi hl hr post) (hsh : svSH[i]? = some (0, 8)) (hrest : (st.map fun v => v.category).sum ≤ 8) (hR : sv_rooms R rm mX8_back cs sl 0 0) (d : decode cc pc = .ok (.invokevirtual 112, 3)) (kk : ∀ (r : Int32) (a : svH) (b : svL) (c : svR), post r a b c → svJ l G R (RL, cc, nL, ret, nm) F cs sl (pc + 3) ls (.int r :: st) svSH a b c) : svJ l G R (RL, cc, nL, ret, nm) F cs sl pc ls (v0 :: sv_rf G.1 i :: st) svSH hi hl hr :=
  J_callV (M := (RL, cc, nL, ret, nm)) (As := [v0]) (n := 1) hsh rfl T calX8_back wmL_112 (sv_in 1015 (by decide +kernel) (by decide +kernel)) (sv_in 1016 (by decide +kernel) (by decide +kernel)) rfl rfl hrest hR d (fun v sh' a b c h => by
    obtain ⟨r, rfl, rfl, hp⟩ := h
    exact kk r a b c hp)
theorem wmL_113 : Cond.methodLink RL 113 yX7_count ∈ sv_tbl := (sv_in 670 (by decide +kernel) (by decide +kernel))
theorem caL_113 {i : Nat} {v0 : Value} {rm : Room} {post : Int32 → svH → svL → svR → Prop} (T : svI l G yX7_count mX7_count rm (sv_rf G.1 i :: [v0]) hi hl hr post) (hsh : svSH[i]? = some (0, 7)) (hrest : (st.map fun v => v.category).sum ≤ 8) (hR : sv_rooms R rm mX7_count cs sl 0 0) (d : decode cc pc = .ok (.invokevirtual 113, 3)) (kk : ∀ (r : Int32) (a : svH) (b : svL) (c : svR), post r a b c → svJ l G R (RL, cc, nL, ret, nm) F cs sl (pc + 3) ls (.int r :: st) svSH a b c) : svJ l G R (RL, cc, nL, ret, nm) F cs sl pc ls (v0 :: sv_rf G.1 i :: st) svSH hi hl hr :=
  J_callV (M := (RL, cc, nL, ret, nm)) (As := [v0]) (n := 1) hsh rfl T calX7_count wmL_113 (sv_in 671 (by decide +kernel) (by decide +kernel)) (sv_in 672 (by decide +kernel) (by decide +kernel)) rfl rfl hrest hR d (fun v sh' a b c h => by
    obtain ⟨r, rfl, rfl, hp⟩ := h
    exact kk r a b c hp)
theorem wmL_116 : Cond.methodLink RL 116 yX8_count ∈ sv_tbl := (sv_in 1018 (by decide +kernel) (by decide +kernel))
theorem caL_116 {i : Nat} {v0 : Value} {rm : Room} {post : Int32 → svH → svL → svR → Prop} (T : svI l G yX8_count mX8_count rm (sv_rf G.1 i :: [v0]) hi hl hr post) (hsh : svSH[i]? = some (0, 8)) (hrest : (st.map fun v => v.category).sum ≤ 8) (hR : sv_rooms R rm mX8_count cs sl 0 0) (d : decode cc pc = .ok (.invokevirtual 116, 3)) (kk : ∀ (r : Int32) (a : svH) (b : svL) (c : svR), post r a b c → svJ l G R (RL, cc, nL, ret, nm) F cs sl (pc + 3) ls (.int r :: st) svSH a b c) : svJ l G R (RL, cc, nL, ret, nm) F cs sl pc ls (v0 :: sv_rf G.1 i :: st) svSH hi hl hr :=
  J_callV (M := (RL, cc, nL, ret, nm)) (As := [v0]) (n := 1) hsh rfl T calX8_count wmL_116 (sv_in 1019 (by decide +kernel) (by decide +kernel)) (sv_in 1020 (by decide +kernel) (by decide +kernel)) rfl rfl hrest hR d (fun v sh' a b c h => by
    obtain ⟨r, rfl, rfl, hp⟩ := h
    exact kk r a b c hp)
theorem wmL_117 : Cond.methodLink RL 117 yX7_trace ∈ sv_tbl := (sv_in 674 (by decide +kernel) (by decide +kernel))
theorem caL_117 {i : Nat} {rm : Room} {post : Int64 → svH → svL → svR → Prop} (T : svW l G yX7_trace mX7_trace rm (sv_rf G.1 i :: []) hi hl hr post) (hsh : svSH[i]? = some (0, 7)) (hrest : (st.map fun v => v.category).sum ≤ 8) (hR : sv_rooms R rm mX7_trace cs sl 0 0) (d : decode cc pc = .ok (.invokevirtual 117, 3)) (kk : ∀ (r : Int64) (a : svH) (b : svL) (c : svR), post r a b c → svJ l G R (RL, cc, nL, ret, nm) F cs sl (pc + 3) ls (.long r :: st) svSH a b c) : svJ l G R (RL, cc, nL, ret, nm) F cs sl pc ls (sv_rf G.1 i :: st) svSH hi hl hr :=
  J_callV (M := (RL, cc, nL, ret, nm)) (As := []) (n := 0) hsh rfl T calX7_trace wmL_117 (sv_in 675 (by decide +kernel) (by decide +kernel)) (sv_in 676 (by decide +kernel) (by decide +kernel)) rfl rfl hrest hR d (fun v sh' a b c h => by
    obtain ⟨r, rfl, rfl, hp⟩ := h
    exact kk r a b c hp)
theorem wmL_121 : Cond.methodLink RL 121 yX8_trace ∈ sv_tbl := (sv_in 1022 (by decide +kernel) (by decide +kernel))
theorem caL_121 {i : Nat} {rm : Room} {post : Int64 → svH → svL → svR → Prop} (T : svW l G yX8_trace mX8_trace rm (sv_rf G.1 i :: []) hi hl hr post) (hsh : svSH[i]? = some (0, 8)) (hrest : (st.map fun v => v.category).sum ≤ 8) (hR : sv_rooms R rm mX8_trace cs sl 0 0) (d : decode cc pc = .ok (.invokevirtual 121, 3)) (kk : ∀ (r : Int64) (a : svH) (b : svL) (c : svR), post r a b c → svJ l G R (RL, cc, nL, ret, nm) F cs sl (pc + 3) ls (.long r :: st) svSH a b c) : svJ l G R (RL, cc, nL, ret, nm) F cs sl pc ls (sv_rf G.1 i :: st) svSH hi hl hr :=
  J_callV (M := (RL, cc, nL, ret, nm)) (As := []) (n := 0) hsh rfl T calX8_trace wmL_121 (sv_in 1023 (by decide +kernel) (by decide +kernel)) (sv_in 1024 (by decide +kernel) (by decide +kernel)) rfl rfl hrest hR d (fun v sh' a b c h => by
    obtain ⟨r, rfl, rfl, hp⟩ := h
    exact kk r a b c hp)
theorem wmL_13 : Cond.methodLink RL 13 yX7_type ∈ sv_tbl := (sv_in 309 (by decide +kernel) (by decide +kernel))
theorem caL_13 {i : Nat} {v0 : Value} {rm : Room} {post : Int32 → svH → svL → svR → Prop} (T : svI l G yX7_type mX7_type rm (sv_rf G.1 i :: [v0]) hi hl hr post) (hsh : svSH[i]? = some (0, 7)) (hrest : (st.map fun v => v.category).sum ≤ 8) (hR : sv_rooms R rm mX7_type cs sl 0 0) (d : decode cc pc = .ok (.invokevirtual 13, 3)) (kk : ∀ (r : Int32) (a : svH) (b : svL) (c : svR), post r a b c → svJ l G R (RL, cc, nL, ret, nm) F cs sl (pc + 3) ls (.int r :: st) svSH a b c) : svJ l G R (RL, cc, nL, ret, nm) F cs sl pc ls (v0 :: sv_rf G.1 i :: st) svSH hi hl hr :=
  J_callV (M := (RL, cc, nL, ret, nm)) (As := [v0]) (n := 1) hsh rfl T calX7_type wmL_13 (sv_in 310 (by decide +kernel) (by decide +kernel)) (sv_in 311 (by decide +kernel) (by decide +kernel)) rfl rfl hrest hR d (fun v sh' a b c h => by
    obtain ⟨r, rfl, rfl, hp⟩ := h
    exact kk r a b c hp)
theorem wmL_17 : Cond.methodLink RL 17 yX8_type ∈ sv_tbl := (sv_in 791 (by decide +kernel) (by decide +kernel))
theorem caL_17 {i : Nat} {v0 : Value} {rm : Room} {post : Int32 → svH → svL → svR → Prop} (T : svI l G yX8_type mX8_type rm (sv_rf G.1 i :: [v0]) hi hl hr post) (hsh : svSH[i]? = some (0, 8)) (hrest : (st.map fun v => v.category).sum ≤ 8) (hR : sv_rooms R rm mX8_type cs sl 0 0) (d : decode cc pc = .ok (.invokevirtual 17, 3)) (kk : ∀ (r : Int32) (a : svH) (b : svL) (c : svR), post r a b c → svJ l G R (RL, cc, nL, ret, nm) F cs sl (pc + 3) ls (.int r :: st) svSH a b c) : svJ l G R (RL, cc, nL, ret, nm) F cs sl pc ls (v0 :: sv_rf G.1 i :: st) svSH hi hl hr :=
  J_callV (M := (RL, cc, nL, ret, nm)) (As := [v0]) (n := 1) hsh rfl T calX8_type wmL_17 (sv_in 792 (by decide +kernel) (by decide +kernel)) (sv_in 793 (by decide +kernel) (by decide +kernel)) rfl rfl hrest hR d (fun v sh' a b c h => by
    obtain ⟨r, rfl, rfl, hp⟩ := h
    exact kk r a b c hp)
theorem wmL_18 : Cond.methodLink RL 18 yX7_clear ∈ sv_tbl := (sv_in 321 (by decide +kernel) (by decide +kernel))
theorem caL_18 {i : Nat} {rm : Room} {post : Int32 → svH → svL → svR → Prop} (T : svI l G yX7_clear mX7_clear rm (sv_rf G.1 i :: []) hi hl hr post) (hsh : svSH[i]? = some (0, 7)) (hrest : (st.map fun v => v.category).sum ≤ 8) (hR : sv_rooms R rm mX7_clear cs sl 0 0) (d : decode cc pc = .ok (.invokevirtual 18, 3)) (kk : ∀ (r : Int32) (a : svH) (b : svL) (c : svR), post r a b c → svJ l G R (RL, cc, nL, ret, nm) F cs sl (pc + 3) ls (.int r :: st) svSH a b c) : svJ l G R (RL, cc, nL, ret, nm) F cs sl pc ls (sv_rf G.1 i :: st) svSH hi hl hr :=
  J_callV (M := (RL, cc, nL, ret, nm)) (As := []) (n := 0) hsh rfl T calX7_clear wmL_18 (sv_in 322 (by decide +kernel) (by decide +kernel)) (sv_in 323 (by decide +kernel) (by decide +kernel)) rfl rfl hrest hR d (fun v sh' a b c h => by
    obtain ⟨r, rfl, rfl, hp⟩ := h
    exact kk r a b c hp)
theorem wmL_22 : Cond.methodLink RL 22 yX8_clear ∈ sv_tbl := (sv_in 798 (by decide +kernel) (by decide +kernel))
theorem caL_22 {i : Nat} {rm : Room} {post : Int32 → svH → svL → svR → Prop} (T : svI l G yX8_clear mX8_clear rm (sv_rf G.1 i :: []) hi hl hr post) (hsh : svSH[i]? = some (0, 8)) (hrest : (st.map fun v => v.category).sum ≤ 8) (hR : sv_rooms R rm mX8_clear cs sl 0 0) (d : decode cc pc = .ok (.invokevirtual 22, 3)) (kk : ∀ (r : Int32) (a : svH) (b : svL) (c : svR), post r a b c → svJ l G R (RL, cc, nL, ret, nm) F cs sl (pc + 3) ls (.int r :: st) svSH a b c) : svJ l G R (RL, cc, nL, ret, nm) F cs sl pc ls (sv_rf G.1 i :: st) svSH hi hl hr :=
  J_callV (M := (RL, cc, nL, ret, nm)) (As := []) (n := 0) hsh rfl T calX8_clear wmL_22 (sv_in 799 (by decide +kernel) (by decide +kernel)) (sv_in 800 (by decide +kernel) (by decide +kernel)) rfl rfl hrest hR d (fun v sh' a b c h => by
    obtain ⟨r, rfl, rfl, hp⟩ := h
    exact kk r a b c hp)
theorem wmL_23 : Cond.methodLink RL 23 yX7_town ∈ sv_tbl := (sv_in 325 (by decide +kernel) (by decide +kernel))
theorem caL_23 {i : Nat} {rm : Room} {post : Int32 → svH → svL → svR → Prop} (T : svI l G yX7_town mX7_town rm (sv_rf G.1 i :: []) hi hl hr post) (hsh : svSH[i]? = some (0, 7)) (hrest : (st.map fun v => v.category).sum ≤ 8) (hR : sv_rooms R rm mX7_town cs sl 0 0) (d : decode cc pc = .ok (.invokevirtual 23, 3)) (kk : ∀ (r : Int32) (a : svH) (b : svL) (c : svR), post r a b c → svJ l G R (RL, cc, nL, ret, nm) F cs sl (pc + 3) ls (.int r :: st) svSH a b c) : svJ l G R (RL, cc, nL, ret, nm) F cs sl pc ls (sv_rf G.1 i :: st) svSH hi hl hr :=
  J_callV (M := (RL, cc, nL, ret, nm)) (As := []) (n := 0) hsh rfl T calX7_town wmL_23 (sv_in 326 (by decide +kernel) (by decide +kernel)) (sv_in 327 (by decide +kernel) (by decide +kernel)) rfl rfl hrest hR d (fun v sh' a b c h => by
    obtain ⟨r, rfl, rfl, hp⟩ := h
    exact kk r a b c hp)
theorem wmL_26 : Cond.methodLink RL 26 yX8_town ∈ sv_tbl := (sv_in 802 (by decide +kernel) (by decide +kernel))
theorem caL_26 {i : Nat} {rm : Room} {post : Int32 → svH → svL → svR → Prop} (T : svI l G yX8_town mX8_town rm (sv_rf G.1 i :: []) hi hl hr post) (hsh : svSH[i]? = some (0, 8)) (hrest : (st.map fun v => v.category).sum ≤ 8) (hR : sv_rooms R rm mX8_town cs sl 0 0) (d : decode cc pc = .ok (.invokevirtual 26, 3)) (kk : ∀ (r : Int32) (a : svH) (b : svL) (c : svR), post r a b c → svJ l G R (RL, cc, nL, ret, nm) F cs sl (pc + 3) ls (.int r :: st) svSH a b c) : svJ l G R (RL, cc, nL, ret, nm) F cs sl pc ls (sv_rf G.1 i :: st) svSH hi hl hr :=
  J_callV (M := (RL, cc, nL, ret, nm)) (As := []) (n := 0) hsh rfl T calX8_town wmL_26 (sv_in 803 (by decide +kernel) (by decide +kernel)) (sv_in 804 (by decide +kernel) (by decide +kernel)) rfl rfl hrest hR d (fun v sh' a b c h => by
    obtain ⟨r, rfl, rfl, hp⟩ := h
    exact kk r a b c hp)
theorem wmL_27 : Cond.methodLink RL 27 yX7_train ∈ sv_tbl := (sv_in 407 (by decide +kernel) (by decide +kernel))
theorem caL_27 {i : Nat} {v0 v1 : Value} {rm : Room} {post : Int32 → svH → svL → svR → Prop} (T : svI l G yX7_train mX7_train rm (sv_rf G.1 i :: [v0, v1]) hi hl hr post) (hsh : svSH[i]? = some (0, 7)) (hrest : (st.map fun v => v.category).sum ≤ 8) (hR : sv_rooms R rm mX7_train cs sl 0 0) (d : decode cc pc = .ok (.invokevirtual 27, 3)) (kk : ∀ (r : Int32) (a : svH) (b : svL) (c : svR), post r a b c → svJ l G R (RL, cc, nL, ret, nm) F cs sl (pc + 3) ls (.int r :: st) svSH a b c) : svJ l G R (RL, cc, nL, ret, nm) F cs sl pc ls (v1 :: v0 :: sv_rf G.1 i :: st) svSH hi hl hr :=
  J_callV (M := (RL, cc, nL, ret, nm)) (As := [v0, v1]) (n := 2) hsh rfl T calX7_train wmL_27 (sv_in 408 (by decide +kernel) (by decide +kernel)) (sv_in 409 (by decide +kernel) (by decide +kernel)) rfl rfl hrest hR d (fun v sh' a b c h => by
    obtain ⟨r, rfl, rfl, hp⟩ := h
    exact kk r a b c hp)
theorem wmL_31 : Cond.methodLink RL 31 yX8_train ∈ sv_tbl := (sv_in 852 (by decide +kernel) (by decide +kernel))
theorem caL_31 {i : Nat} {v0 v1 : Value} {rm : Room} {post : Int32 → svH → svL → svR → Prop} (T : svI l G yX8_train mX8_train rm (sv_rf G.1 i :: [v0, v1]) hi hl hr post) (hsh : svSH[i]? = some (0, 8)) (hrest : (st.map fun v => v.category).sum ≤ 8) (hR : sv_rooms R rm mX8_train cs sl 0 0) (d : decode cc pc = .ok (.invokevirtual 31, 3)) (kk : ∀ (r : Int32) (a : svH) (b : svL) (c : svR), post r a b c → svJ l G R (RL, cc, nL, ret, nm) F cs sl (pc + 3) ls (.int r :: st) svSH a b c) : svJ l G R (RL, cc, nL, ret, nm) F cs sl pc ls (v1 :: v0 :: sv_rf G.1 i :: st) svSH hi hl hr :=
  J_callV (M := (RL, cc, nL, ret, nm)) (As := [v0, v1]) (n := 2) hsh rfl T calX8_train wmL_31 (sv_in 853 (by decide +kernel) (by decide +kernel)) (sv_in 854 (by decide +kernel) (by decide +kernel)) rfl rfl hrest hR d (fun v sh' a b c h => by
    obtain ⟨r, rfl, rfl, hp⟩ := h
    exact kk r a b c hp)
theorem wmL_32 : Cond.methodLink RL 32 yX7_group ∈ sv_tbl := (sv_in 417 (by decide +kernel) (by decide +kernel))
theorem caL_32 {i : Nat} {v0 v1 : Value} {rm : Room} {post : Int32 → svH → svL → svR → Prop} (T : svI l G yX7_group mX7_group rm (sv_rf G.1 i :: [v0, v1]) hi hl hr post) (hsh : svSH[i]? = some (0, 7)) (hrest : (st.map fun v => v.category).sum ≤ 8) (hR : sv_rooms R rm mX7_group cs sl 0 0) (d : decode cc pc = .ok (.invokevirtual 32, 3)) (kk : ∀ (r : Int32) (a : svH) (b : svL) (c : svR), post r a b c → svJ l G R (RL, cc, nL, ret, nm) F cs sl (pc + 3) ls (.int r :: st) svSH a b c) : svJ l G R (RL, cc, nL, ret, nm) F cs sl pc ls (v1 :: v0 :: sv_rf G.1 i :: st) svSH hi hl hr :=
  J_callV (M := (RL, cc, nL, ret, nm)) (As := [v0, v1]) (n := 2) hsh rfl T calX7_group wmL_32 (sv_in 418 (by decide +kernel) (by decide +kernel)) (sv_in 419 (by decide +kernel) (by decide +kernel)) rfl rfl hrest hR d (fun v sh' a b c h => by
    obtain ⟨r, rfl, rfl, hp⟩ := h
    exact kk r a b c hp)
theorem wmL_35 : Cond.methodLink RL 35 yX8_group ∈ sv_tbl := (sv_in 867 (by decide +kernel) (by decide +kernel))
theorem caL_35 {i : Nat} {v0 v1 : Value} {rm : Room} {post : Int32 → svH → svL → svR → Prop} (T : svI l G yX8_group mX8_group rm (sv_rf G.1 i :: [v0, v1]) hi hl hr post) (hsh : svSH[i]? = some (0, 8)) (hrest : (st.map fun v => v.category).sum ≤ 8) (hR : sv_rooms R rm mX8_group cs sl 0 0) (d : decode cc pc = .ok (.invokevirtual 35, 3)) (kk : ∀ (r : Int32) (a : svH) (b : svL) (c : svR), post r a b c → svJ l G R (RL, cc, nL, ret, nm) F cs sl (pc + 3) ls (.int r :: st) svSH a b c) : svJ l G R (RL, cc, nL, ret, nm) F cs sl pc ls (v1 :: v0 :: sv_rf G.1 i :: st) svSH hi hl hr :=
  J_callV (M := (RL, cc, nL, ret, nm)) (As := [v0, v1]) (n := 2) hsh rfl T calX8_group wmL_35 (sv_in 868 (by decide +kernel) (by decide +kernel)) (sv_in 869 (by decide +kernel) (by decide +kernel)) rfl rfl hrest hR d (fun v sh' a b c h => by
    obtain ⟨r, rfl, rfl, hp⟩ := h
    exact kk r a b c hp)
theorem wmL_36 : Cond.methodLink RL 36 yX7_votes ∈ sv_tbl := (sv_in 421 (by decide +kernel) (by decide +kernel))
theorem caL_36 {i : Nat} {v0 v1 : Value} {rm : Room} {post : Int32 → svH → svL → svR → Prop} (T : svI l G yX7_votes mX7_votes rm (sv_rf G.1 i :: [v0, v1]) hi hl hr post) (hsh : svSH[i]? = some (0, 7)) (hrest : (st.map fun v => v.category).sum ≤ 8) (hR : sv_rooms R rm mX7_votes cs sl 0 0) (d : decode cc pc = .ok (.invokevirtual 36, 3)) (kk : ∀ (r : Int32) (a : svH) (b : svL) (c : svR), post r a b c → svJ l G R (RL, cc, nL, ret, nm) F cs sl (pc + 3) ls (.int r :: st) svSH a b c) : svJ l G R (RL, cc, nL, ret, nm) F cs sl pc ls (v1 :: v0 :: sv_rf G.1 i :: st) svSH hi hl hr :=
  J_callV (M := (RL, cc, nL, ret, nm)) (As := [v0, v1]) (n := 2) hsh rfl T calX7_votes wmL_36 (sv_in 422 (by decide +kernel) (by decide +kernel)) (sv_in 423 (by decide +kernel) (by decide +kernel)) rfl rfl hrest hR d (fun v sh' a b c h => by
    obtain ⟨r, rfl, rfl, hp⟩ := h
    exact kk r a b c hp)
theorem wmL_39 : Cond.methodLink RL 39 yX8_votes ∈ sv_tbl := (sv_in 875 (by decide +kernel) (by decide +kernel))
theorem caL_39 {i : Nat} {v0 v1 : Value} {rm : Room} {post : Int32 → svH → svL → svR → Prop} (T : svI l G yX8_votes mX8_votes rm (sv_rf G.1 i :: [v0, v1]) hi hl hr post) (hsh : svSH[i]? = some (0, 8)) (hrest : (st.map fun v => v.category).sum ≤ 8) (hR : sv_rooms R rm mX8_votes cs sl 0 0) (d : decode cc pc = .ok (.invokevirtual 39, 3)) (kk : ∀ (r : Int32) (a : svH) (b : svL) (c : svR), post r a b c → svJ l G R (RL, cc, nL, ret, nm) F cs sl (pc + 3) ls (.int r :: st) svSH a b c) : svJ l G R (RL, cc, nL, ret, nm) F cs sl pc ls (v1 :: v0 :: sv_rf G.1 i :: st) svSH hi hl hr :=
  J_callV (M := (RL, cc, nL, ret, nm)) (As := [v0, v1]) (n := 2) hsh rfl T calX8_votes wmL_39 (sv_in 876 (by decide +kernel) (by decide +kernel)) (sv_in 877 (by decide +kernel) (by decide +kernel)) rfl rfl hrest hR d (fun v sh' a b c h => by
    obtain ⟨r, rfl, rfl, hp⟩ := h
    exact kk r a b c hp)
theorem wmL_40 : Cond.methodLink RL 40 yX7_hour ∈ sv_tbl := (sv_in 445 (by decide +kernel) (by decide +kernel))
theorem caL_40 {i : Nat} {rm : Room} {post : Int32 → svH → svL → svR → Prop} (T : svI l G yX7_hour mX7_hour rm (sv_rf G.1 i :: []) hi hl hr post) (hsh : svSH[i]? = some (0, 7)) (hrest : (st.map fun v => v.category).sum ≤ 8) (hR : sv_rooms R rm mX7_hour cs sl 0 0) (d : decode cc pc = .ok (.invokevirtual 40, 3)) (kk : ∀ (r : Int32) (a : svH) (b : svL) (c : svR), post r a b c → svJ l G R (RL, cc, nL, ret, nm) F cs sl (pc + 3) ls (.int r :: st) svSH a b c) : svJ l G R (RL, cc, nL, ret, nm) F cs sl pc ls (sv_rf G.1 i :: st) svSH hi hl hr :=
  J_callV (M := (RL, cc, nL, ret, nm)) (As := []) (n := 0) hsh rfl T calX7_hour wmL_40 (sv_in 446 (by decide +kernel) (by decide +kernel)) (sv_in 447 (by decide +kernel) (by decide +kernel)) rfl rfl hrest hR d (fun v sh' a b c h => by
    obtain ⟨r, rfl, rfl, hp⟩ := h
    exact kk r a b c hp)
theorem wmL_43 : Cond.methodLink RL 43 yX8_hour ∈ sv_tbl := (sv_in 891 (by decide +kernel) (by decide +kernel))
theorem caL_43 {i : Nat} {rm : Room} {post : Int32 → svH → svL → svR → Prop} (T : svI l G yX8_hour mX8_hour rm (sv_rf G.1 i :: []) hi hl hr post) (hsh : svSH[i]? = some (0, 8)) (hrest : (st.map fun v => v.category).sum ≤ 8) (hR : sv_rooms R rm mX8_hour cs sl 0 0) (d : decode cc pc = .ok (.invokevirtual 43, 3)) (kk : ∀ (r : Int32) (a : svH) (b : svL) (c : svR), post r a b c → svJ l G R (RL, cc, nL, ret, nm) F cs sl (pc + 3) ls (.int r :: st) svSH a b c) : svJ l G R (RL, cc, nL, ret, nm) F cs sl pc ls (sv_rf G.1 i :: st) svSH hi hl hr :=
  J_callV (M := (RL, cc, nL, ret, nm)) (As := []) (n := 0) hsh rfl T calX8_hour wmL_43 (sv_in 892 (by decide +kernel) (by decide +kernel)) (sv_in 893 (by decide +kernel) (by decide +kernel)) rfl rfl hrest hR d (fun v sh' a b c h => by
    obtain ⟨r, rfl, rfl, hp⟩ := h
    exact kk r a b c hp)
theorem wmL_44 : Cond.methodLink RL 44 yX7_holds ∈ sv_tbl := (sv_in 470 (by decide +kernel) (by decide +kernel))
theorem caL_44 {i : Nat} {v0 : Value} {rm : Room} {post : Int32 → svH → svL → svR → Prop} (T : svI l G yX7_holds mX7_holds rm (sv_rf G.1 i :: [v0]) hi hl hr post) (hsh : svSH[i]? = some (0, 7)) (hrest : (st.map fun v => v.category).sum ≤ 8) (hR : sv_rooms R rm mX7_holds cs sl 0 0) (d : decode cc pc = .ok (.invokevirtual 44, 3)) (kk : ∀ (r : Int32) (a : svH) (b : svL) (c : svR), post r a b c → svJ l G R (RL, cc, nL, ret, nm) F cs sl (pc + 3) ls (.int r :: st) svSH a b c) : svJ l G R (RL, cc, nL, ret, nm) F cs sl pc ls (v0 :: sv_rf G.1 i :: st) svSH hi hl hr :=
  J_callV (M := (RL, cc, nL, ret, nm)) (As := [v0]) (n := 1) hsh rfl T calX7_holds wmL_44 (sv_in 471 (by decide +kernel) (by decide +kernel)) (sv_in 472 (by decide +kernel) (by decide +kernel)) rfl rfl hrest hR d (fun v sh' a b c h => by
    obtain ⟨r, rfl, rfl, hp⟩ := h
    exact kk r a b c hp)
theorem wmL_47 : Cond.methodLink RL 47 yX8_holds ∈ sv_tbl := (sv_in 899 (by decide +kernel) (by decide +kernel))
theorem caL_47 {i : Nat} {v0 : Value} {rm : Room} {post : Int32 → svH → svL → svR → Prop} (T : svI l G yX8_holds mX8_holds rm (sv_rf G.1 i :: [v0]) hi hl hr post) (hsh : svSH[i]? = some (0, 8)) (hrest : (st.map fun v => v.category).sum ≤ 8) (hR : sv_rooms R rm mX8_holds cs sl 0 0) (d : decode cc pc = .ok (.invokevirtual 47, 3)) (kk : ∀ (r : Int32) (a : svH) (b : svL) (c : svR), post r a b c → svJ l G R (RL, cc, nL, ret, nm) F cs sl (pc + 3) ls (.int r :: st) svSH a b c) : svJ l G R (RL, cc, nL, ret, nm) F cs sl pc ls (v0 :: sv_rf G.1 i :: st) svSH hi hl hr :=
  J_callV (M := (RL, cc, nL, ret, nm)) (As := [v0]) (n := 1) hsh rfl T calX8_holds wmL_47 (sv_in 900 (by decide +kernel) (by decide +kernel)) (sv_in 901 (by decide +kernel) (by decide +kernel)) rfl rfl hrest hR d (fun v sh' a b c h => by
    obtain ⟨r, rfl, rfl, hp⟩ := h
    exact kk r a b c hp)
theorem wmL_48 : Cond.methodLink RL 48 yX7_canvasses ∈ sv_tbl := (sv_in 474 (by decide +kernel) (by decide +kernel))
theorem caL_48 {i : Nat} {v0 v1 : Value} {rm : Room} {post : Int32 → svH → svL → svR → Prop} (T : svI l G yX7_canvasses mX7_canvasses rm (sv_rf G.1 i :: [v0, v1]) hi hl hr post) (hsh : svSH[i]? = some (0, 7)) (hrest : (st.map fun v => v.category).sum ≤ 8) (hR : sv_rooms R rm mX7_canvasses cs sl 0 0) (d : decode cc pc = .ok (.invokevirtual 48, 3)) (kk : ∀ (r : Int32) (a : svH) (b : svL) (c : svR), post r a b c → svJ l G R (RL, cc, nL, ret, nm) F cs sl (pc + 3) ls (.int r :: st) svSH a b c) : svJ l G R (RL, cc, nL, ret, nm) F cs sl pc ls (v1 :: v0 :: sv_rf G.1 i :: st) svSH hi hl hr :=
  J_callV (M := (RL, cc, nL, ret, nm)) (As := [v0, v1]) (n := 2) hsh rfl T calX7_canvasses wmL_48 (sv_in 475 (by decide +kernel) (by decide +kernel)) (sv_in 476 (by decide +kernel) (by decide +kernel)) rfl rfl hrest hR d (fun v sh' a b c h => by
    obtain ⟨r, rfl, rfl, hp⟩ := h
    exact kk r a b c hp)
theorem wmL_51 : Cond.methodLink RL 51 yX8_canvasses ∈ sv_tbl := (sv_in 903 (by decide +kernel) (by decide +kernel))
theorem caL_51 {i : Nat} {v0 v1 : Value} {rm : Room} {post : Int32 → svH → svL → svR → Prop} (T : svI l G yX8_canvasses mX8_canvasses rm (sv_rf G.1 i :: [v0, v1]) hi hl hr post) (hsh : svSH[i]? = some (0, 8)) (hrest : (st.map fun v => v.category).sum ≤ 8) (hR : sv_rooms R rm mX8_canvasses cs sl 0 0) (d : decode cc pc = .ok (.invokevirtual 51, 3)) (kk : ∀ (r : Int32) (a : svH) (b : svL) (c : svR), post r a b c → svJ l G R (RL, cc, nL, ret, nm) F cs sl (pc + 3) ls (.int r :: st) svSH a b c) : svJ l G R (RL, cc, nL, ret, nm) F cs sl pc ls (v1 :: v0 :: sv_rf G.1 i :: st) svSH hi hl hr :=
  J_callV (M := (RL, cc, nL, ret, nm)) (As := [v0, v1]) (n := 2) hsh rfl T calX8_canvasses wmL_51 (sv_in 904 (by decide +kernel) (by decide +kernel)) (sv_in 905 (by decide +kernel) (by decide +kernel)) rfl rfl hrest hR d (fun v sh' a b c h => by
    obtain ⟨r, rfl, rfl, hp⟩ := h
    exact kk r a b c hp)
theorem wmL_52 : Cond.methodLink RL 52 yX7_fog ∈ sv_tbl := (sv_in 479 (by decide +kernel) (by decide +kernel))
theorem caL_52 {i : Nat} {v0 : Value} {rm : Room} {post : Int32 → svH → svL → svR → Prop} (T : svI l G yX7_fog mX7_fog rm (sv_rf G.1 i :: [v0]) hi hl hr post) (hsh : svSH[i]? = some (0, 7)) (hrest : (st.map fun v => v.category).sum ≤ 8) (hR : sv_rooms R rm mX7_fog cs sl 0 0) (d : decode cc pc = .ok (.invokevirtual 52, 3)) (kk : ∀ (r : Int32) (a : svH) (b : svL) (c : svR), post r a b c → svJ l G R (RL, cc, nL, ret, nm) F cs sl (pc + 3) ls (.int r :: st) svSH a b c) : svJ l G R (RL, cc, nL, ret, nm) F cs sl pc ls (v0 :: sv_rf G.1 i :: st) svSH hi hl hr :=
  J_callV (M := (RL, cc, nL, ret, nm)) (As := [v0]) (n := 1) hsh rfl T calX7_fog wmL_52 (sv_in 480 (by decide +kernel) (by decide +kernel)) (sv_in 481 (by decide +kernel) (by decide +kernel)) rfl rfl hrest hR d (fun v sh' a b c h => by
    obtain ⟨r, rfl, rfl, hp⟩ := h
    exact kk r a b c hp)
theorem wmL_55 : Cond.methodLink RL 55 yX8_fog ∈ sv_tbl := (sv_in 907 (by decide +kernel) (by decide +kernel))
theorem caL_55 {i : Nat} {v0 : Value} {rm : Room} {post : Int32 → svH → svL → svR → Prop} (T : svI l G yX8_fog mX8_fog rm (sv_rf G.1 i :: [v0]) hi hl hr post) (hsh : svSH[i]? = some (0, 8)) (hrest : (st.map fun v => v.category).sum ≤ 8) (hR : sv_rooms R rm mX8_fog cs sl 0 0) (d : decode cc pc = .ok (.invokevirtual 55, 3)) (kk : ∀ (r : Int32) (a : svH) (b : svL) (c : svR), post r a b c → svJ l G R (RL, cc, nL, ret, nm) F cs sl (pc + 3) ls (.int r :: st) svSH a b c) : svJ l G R (RL, cc, nL, ret, nm) F cs sl pc ls (v0 :: sv_rf G.1 i :: st) svSH hi hl hr :=
  J_callV (M := (RL, cc, nL, ret, nm)) (As := [v0]) (n := 1) hsh rfl T calX8_fog wmL_55 (sv_in 908 (by decide +kernel) (by decide +kernel)) (sv_in 909 (by decide +kernel) (by decide +kernel)) rfl rfl hrest hR d (fun v sh' a b c h => by
    obtain ⟨r, rfl, rfl, hp⟩ := h
    exact kk r a b c hp)
theorem wmL_56 : Cond.methodLink RL 56 yX7_rugs ∈ sv_tbl := (sv_in 489 (by decide +kernel) (by decide +kernel))
theorem caL_56 {i : Nat} {v0 : Value} {rm : Room} {post : Int32 → svH → svL → svR → Prop} (T : svI l G yX7_rugs mX7_rugs rm (sv_rf G.1 i :: [v0]) hi hl hr post) (hsh : svSH[i]? = some (0, 7)) (hrest : (st.map fun v => v.category).sum ≤ 8) (hR : sv_rooms R rm mX7_rugs cs sl 0 0) (d : decode cc pc = .ok (.invokevirtual 56, 3)) (kk : ∀ (r : Int32) (a : svH) (b : svL) (c : svR), post r a b c → svJ l G R (RL, cc, nL, ret, nm) F cs sl (pc + 3) ls (.int r :: st) svSH a b c) : svJ l G R (RL, cc, nL, ret, nm) F cs sl pc ls (v0 :: sv_rf G.1 i :: st) svSH hi hl hr :=
  J_callV (M := (RL, cc, nL, ret, nm)) (As := [v0]) (n := 1) hsh rfl T calX7_rugs wmL_56 (sv_in 490 (by decide +kernel) (by decide +kernel)) (sv_in 491 (by decide +kernel) (by decide +kernel)) rfl rfl hrest hR d (fun v sh' a b c h => by
    obtain ⟨r, rfl, rfl, hp⟩ := h
    exact kk r a b c hp)
theorem wmL_59 : Cond.methodLink RL 59 yX8_rugs ∈ sv_tbl := (sv_in 914 (by decide +kernel) (by decide +kernel))
theorem caL_59 {i : Nat} {v0 : Value} {rm : Room} {post : Int32 → svH → svL → svR → Prop} (T : svI l G yX8_rugs mX8_rugs rm (sv_rf G.1 i :: [v0]) hi hl hr post) (hsh : svSH[i]? = some (0, 8)) (hrest : (st.map fun v => v.category).sum ≤ 8) (hR : sv_rooms R rm mX8_rugs cs sl 0 0) (d : decode cc pc = .ok (.invokevirtual 59, 3)) (kk : ∀ (r : Int32) (a : svH) (b : svL) (c : svR), post r a b c → svJ l G R (RL, cc, nL, ret, nm) F cs sl (pc + 3) ls (.int r :: st) svSH a b c) : svJ l G R (RL, cc, nL, ret, nm) F cs sl pc ls (v0 :: sv_rf G.1 i :: st) svSH hi hl hr :=
  J_callV (M := (RL, cc, nL, ret, nm)) (As := [v0]) (n := 1) hsh rfl T calX8_rugs wmL_59 (sv_in 915 (by decide +kernel) (by decide +kernel)) (sv_in 916 (by decide +kernel) (by decide +kernel)) rfl rfl hrest hR d (fun v sh' a b c h => by
    obtain ⟨r, rfl, rfl, hp⟩ := h
    exact kk r a b c hp)
theorem wmL_60 : Cond.methodLink RL 60 yX7_undo ∈ sv_tbl := (sv_in 493 (by decide +kernel) (by decide +kernel))
theorem caL_60 {i : Nat} {rm : Room} {post : Int32 → svH → svL → svR → Prop} (T : svI l G yX7_undo mX7_undo rm (sv_rf G.1 i :: []) hi hl hr post) (hsh : svSH[i]? = some (0, 7)) (hrest : (st.map fun v => v.category).sum ≤ 8) (hR : sv_rooms R rm mX7_undo cs sl 0 0) (d : decode cc pc = .ok (.invokevirtual 60, 3)) (kk : ∀ (r : Int32) (a : svH) (b : svL) (c : svR), post r a b c → svJ l G R (RL, cc, nL, ret, nm) F cs sl (pc + 3) ls (.int r :: st) svSH a b c) : svJ l G R (RL, cc, nL, ret, nm) F cs sl pc ls (sv_rf G.1 i :: st) svSH hi hl hr :=
  J_callV (M := (RL, cc, nL, ret, nm)) (As := []) (n := 0) hsh rfl T calX7_undo wmL_60 (sv_in 494 (by decide +kernel) (by decide +kernel)) (sv_in 495 (by decide +kernel) (by decide +kernel)) rfl rfl hrest hR d (fun v sh' a b c h => by
    obtain ⟨r, rfl, rfl, hp⟩ := h
    exact kk r a b c hp)
theorem wmL_63 : Cond.methodLink RL 63 yX8_undo ∈ sv_tbl := (sv_in 918 (by decide +kernel) (by decide +kernel))
theorem caL_63 {i : Nat} {rm : Room} {post : Int32 → svH → svL → svR → Prop} (T : svI l G yX8_undo mX8_undo rm (sv_rf G.1 i :: []) hi hl hr post) (hsh : svSH[i]? = some (0, 8)) (hrest : (st.map fun v => v.category).sum ≤ 8) (hR : sv_rooms R rm mX8_undo cs sl 0 0) (d : decode cc pc = .ok (.invokevirtual 63, 3)) (kk : ∀ (r : Int32) (a : svH) (b : svL) (c : svR), post r a b c → svJ l G R (RL, cc, nL, ret, nm) F cs sl (pc + 3) ls (.int r :: st) svSH a b c) : svJ l G R (RL, cc, nL, ret, nm) F cs sl pc ls (sv_rf G.1 i :: st) svSH hi hl hr :=
  J_callV (M := (RL, cc, nL, ret, nm)) (As := []) (n := 0) hsh rfl T calX8_undo wmL_63 (sv_in 919 (by decide +kernel) (by decide +kernel)) (sv_in 920 (by decide +kernel) (by decide +kernel)) rfl rfl hrest hR d (fun v sh' a b c h => by
    obtain ⟨r, rfl, rfl, hp⟩ := h
    exact kk r a b c hp)
theorem wmL_64 : Cond.methodLink RL 64 yX7_now ∈ sv_tbl := (sv_in 501 (by decide +kernel) (by decide +kernel))
theorem caL_64 {i : Nat} {v0 : Value} {rm : Room} {post : Int32 → svH → svL → svR → Prop} (T : svI l G yX7_now mX7_now rm (sv_rf G.1 i :: [v0]) hi hl hr post) (hsh : svSH[i]? = some (0, 7)) (hrest : (st.map fun v => v.category).sum ≤ 8) (hR : sv_rooms R rm mX7_now cs sl 0 0) (d : decode cc pc = .ok (.invokevirtual 64, 3)) (kk : ∀ (r : Int32) (a : svH) (b : svL) (c : svR), post r a b c → svJ l G R (RL, cc, nL, ret, nm) F cs sl (pc + 3) ls (.int r :: st) svSH a b c) : svJ l G R (RL, cc, nL, ret, nm) F cs sl pc ls (v0 :: sv_rf G.1 i :: st) svSH hi hl hr :=
  J_callV (M := (RL, cc, nL, ret, nm)) (As := [v0]) (n := 1) hsh rfl T calX7_now wmL_64 (sv_in 502 (by decide +kernel) (by decide +kernel)) (sv_in 503 (by decide +kernel) (by decide +kernel)) rfl rfl hrest hR d (fun v sh' a b c h => by
    obtain ⟨r, rfl, rfl, hp⟩ := h
    exact kk r a b c hp)
theorem wmL_67 : Cond.methodLink RL 67 yX8_now ∈ sv_tbl := (sv_in 922 (by decide +kernel) (by decide +kernel))
theorem caL_67 {i : Nat} {v0 : Value} {rm : Room} {post : Int32 → svH → svL → svR → Prop} (T : svI l G yX8_now mX8_now rm (sv_rf G.1 i :: [v0]) hi hl hr post) (hsh : svSH[i]? = some (0, 8)) (hrest : (st.map fun v => v.category).sum ≤ 8) (hR : sv_rooms R rm mX8_now cs sl 0 0) (d : decode cc pc = .ok (.invokevirtual 67, 3)) (kk : ∀ (r : Int32) (a : svH) (b : svL) (c : svR), post r a b c → svJ l G R (RL, cc, nL, ret, nm) F cs sl (pc + 3) ls (.int r :: st) svSH a b c) : svJ l G R (RL, cc, nL, ret, nm) F cs sl pc ls (v0 :: sv_rf G.1 i :: st) svSH hi hl hr :=
  J_callV (M := (RL, cc, nL, ret, nm)) (As := [v0]) (n := 1) hsh rfl T calX8_now wmL_67 (sv_in 923 (by decide +kernel) (by decide +kernel)) (sv_in 924 (by decide +kernel) (by decide +kernel)) rfl rfl hrest hR d (fun v sh' a b c h => by
    obtain ⟨r, rfl, rfl, hp⟩ := h
    exact kk r a b c hp)
theorem wmL_68 : Cond.methodLink RL 68 yX7_plan ∈ sv_tbl := (sv_in 541 (by decide +kernel) (by decide +kernel))
theorem caL_68 {i : Nat} {v0 v1 : Value} {rm : Room} {post : Int32 → svH → svL → svR → Prop} (T : svI l G yX7_plan mX7_plan rm (sv_rf G.1 i :: [v0, v1]) hi hl hr post) (hsh : svSH[i]? = some (0, 7)) (hrest : (st.map fun v => v.category).sum ≤ 8) (hR : sv_rooms R rm mX7_plan cs sl 0 0) (d : decode cc pc = .ok (.invokevirtual 68, 3)) (kk : ∀ (r : Int32) (a : svH) (b : svL) (c : svR), post r a b c → svJ l G R (RL, cc, nL, ret, nm) F cs sl (pc + 3) ls (.int r :: st) svSH a b c) : svJ l G R (RL, cc, nL, ret, nm) F cs sl pc ls (v1 :: v0 :: sv_rf G.1 i :: st) svSH hi hl hr :=
  J_callV (M := (RL, cc, nL, ret, nm)) (As := [v0, v1]) (n := 2) hsh rfl T calX7_plan wmL_68 (sv_in 542 (by decide +kernel) (by decide +kernel)) (sv_in 543 (by decide +kernel) (by decide +kernel)) rfl rfl hrest hR d (fun v sh' a b c h => by
    obtain ⟨r, rfl, rfl, hp⟩ := h
    exact kk r a b c hp)
theorem wmL_71 : Cond.methodLink RL 71 yX8_plan ∈ sv_tbl := (sv_in 946 (by decide +kernel) (by decide +kernel))
theorem caL_71 {i : Nat} {v0 v1 : Value} {rm : Room} {post : Int32 → svH → svL → svR → Prop} (T : svI l G yX8_plan mX8_plan rm (sv_rf G.1 i :: [v0, v1]) hi hl hr post) (hsh : svSH[i]? = some (0, 8)) (hrest : (st.map fun v => v.category).sum ≤ 8) (hR : sv_rooms R rm mX8_plan cs sl 0 0) (d : decode cc pc = .ok (.invokevirtual 71, 3)) (kk : ∀ (r : Int32) (a : svH) (b : svL) (c : svR), post r a b c → svJ l G R (RL, cc, nL, ret, nm) F cs sl (pc + 3) ls (.int r :: st) svSH a b c) : svJ l G R (RL, cc, nL, ret, nm) F cs sl pc ls (v1 :: v0 :: sv_rf G.1 i :: st) svSH hi hl hr :=
  J_callV (M := (RL, cc, nL, ret, nm)) (As := [v0, v1]) (n := 2) hsh rfl T calX8_plan wmL_71 (sv_in 947 (by decide +kernel) (by decide +kernel)) (sv_in 948 (by decide +kernel) (by decide +kernel)) rfl rfl hrest hR d (fun v sh' a b c h => by
    obtain ⟨r, rfl, rfl, hp⟩ := h
    exact kk r a b c hp)
theorem wmL_72 : Cond.methodLink RL 72 yX7_power ∈ sv_tbl := (sv_in 549 (by decide +kernel) (by decide +kernel))
theorem caL_72 {i : Nat} {v0 : Value} {rm : Room} {post : Int32 → svH → svL → svR → Prop} (T : svI l G yX7_power mX7_power rm (sv_rf G.1 i :: [v0]) hi hl hr post) (hsh : svSH[i]? = some (0, 7)) (hrest : (st.map fun v => v.category).sum ≤ 8) (hR : sv_rooms R rm mX7_power cs sl 0 0) (d : decode cc pc = .ok (.invokevirtual 72, 3)) (kk : ∀ (r : Int32) (a : svH) (b : svL) (c : svR), post r a b c → svJ l G R (RL, cc, nL, ret, nm) F cs sl (pc + 3) ls (.int r :: st) svSH a b c) : svJ l G R (RL, cc, nL, ret, nm) F cs sl pc ls (v0 :: sv_rf G.1 i :: st) svSH hi hl hr :=
  J_callV (M := (RL, cc, nL, ret, nm)) (As := [v0]) (n := 1) hsh rfl T calX7_power wmL_72 (sv_in 550 (by decide +kernel) (by decide +kernel)) (sv_in 551 (by decide +kernel) (by decide +kernel)) rfl rfl hrest hR d (fun v sh' a b c h => by
    obtain ⟨r, rfl, rfl, hp⟩ := h
    exact kk r a b c hp)
theorem wmL_75 : Cond.methodLink RL 75 yX8_power ∈ sv_tbl := (sv_in 953 (by decide +kernel) (by decide +kernel))
theorem caL_75 {i : Nat} {v0 : Value} {rm : Room} {post : Int32 → svH → svL → svR → Prop} (T : svI l G yX8_power mX8_power rm (sv_rf G.1 i :: [v0]) hi hl hr post) (hsh : svSH[i]? = some (0, 8)) (hrest : (st.map fun v => v.category).sum ≤ 8) (hR : sv_rooms R rm mX8_power cs sl 0 0) (d : decode cc pc = .ok (.invokevirtual 75, 3)) (kk : ∀ (r : Int32) (a : svH) (b : svL) (c : svR), post r a b c → svJ l G R (RL, cc, nL, ret, nm) F cs sl (pc + 3) ls (.int r :: st) svSH a b c) : svJ l G R (RL, cc, nL, ret, nm) F cs sl pc ls (v0 :: sv_rf G.1 i :: st) svSH hi hl hr :=
  J_callV (M := (RL, cc, nL, ret, nm)) (As := [v0]) (n := 1) hsh rfl T calX8_power wmL_75 (sv_in 954 (by decide +kernel) (by decide +kernel)) (sv_in 955 (by decide +kernel) (by decide +kernel)) rfl rfl hrest hR d (fun v sh' a b c h => by
    obtain ⟨r, rfl, rfl, hp⟩ := h
    exact kk r a b c hp)
theorem wmL_76 : Cond.methodLink RL 76 yX7_laws ∈ sv_tbl := (sv_in 553 (by decide +kernel) (by decide +kernel))
theorem caL_76 {i : Nat} {v0 : Value} {rm : Room} {post : Int32 → svH → svL → svR → Prop} (T : svI l G yX7_laws mX7_laws rm (sv_rf G.1 i :: [v0]) hi hl hr post) (hsh : svSH[i]? = some (0, 7)) (hrest : (st.map fun v => v.category).sum ≤ 8) (hR : sv_rooms R rm mX7_laws cs sl 0 0) (d : decode cc pc = .ok (.invokevirtual 76, 3)) (kk : ∀ (r : Int32) (a : svH) (b : svL) (c : svR), post r a b c → svJ l G R (RL, cc, nL, ret, nm) F cs sl (pc + 3) ls (.int r :: st) svSH a b c) : svJ l G R (RL, cc, nL, ret, nm) F cs sl pc ls (v0 :: sv_rf G.1 i :: st) svSH hi hl hr :=
  J_callV (M := (RL, cc, nL, ret, nm)) (As := [v0]) (n := 1) hsh rfl T calX7_laws wmL_76 (sv_in 554 (by decide +kernel) (by decide +kernel)) (sv_in 555 (by decide +kernel) (by decide +kernel)) rfl rfl hrest hR d (fun v sh' a b c h => by
    obtain ⟨r, rfl, rfl, hp⟩ := h
    exact kk r a b c hp)
theorem wmL_79 : Cond.methodLink RL 79 yX8_laws ∈ sv_tbl := (sv_in 957 (by decide +kernel) (by decide +kernel))
theorem caL_79 {i : Nat} {v0 : Value} {rm : Room} {post : Int32 → svH → svL → svR → Prop} (T : svI l G yX8_laws mX8_laws rm (sv_rf G.1 i :: [v0]) hi hl hr post) (hsh : svSH[i]? = some (0, 8)) (hrest : (st.map fun v => v.category).sum ≤ 8) (hR : sv_rooms R rm mX8_laws cs sl 0 0) (d : decode cc pc = .ok (.invokevirtual 79, 3)) (kk : ∀ (r : Int32) (a : svH) (b : svL) (c : svR), post r a b c → svJ l G R (RL, cc, nL, ret, nm) F cs sl (pc + 3) ls (.int r :: st) svSH a b c) : svJ l G R (RL, cc, nL, ret, nm) F cs sl pc ls (v0 :: sv_rf G.1 i :: st) svSH hi hl hr :=
  J_callV (M := (RL, cc, nL, ret, nm)) (As := [v0]) (n := 1) hsh rfl T calX8_laws wmL_79 (sv_in 958 (by decide +kernel) (by decide +kernel)) (sv_in 959 (by decide +kernel) (by decide +kernel)) rfl rfl hrest hR d (fun v sh' a b c h => by
    obtain ⟨r, rfl, rfl, hp⟩ := h
    exact kk r a b c hp)
theorem wmL_80 : Cond.methodLink RL 80 yX7_odds ∈ sv_tbl := (sv_in 557 (by decide +kernel) (by decide +kernel))
theorem caL_80 {i : Nat} {v0 v1 v2 : Value} {rm : Room} {post : Int32 → svH → svL → svR → Prop} (T : svI l G yX7_odds mX7_odds rm (sv_rf G.1 i :: [v0, v1, v2]) hi hl hr post) (hsh : svSH[i]? = some (0, 7)) (hrest : (st.map fun v => v.category).sum ≤ 8) (hR : sv_rooms R rm mX7_odds cs sl 0 0) (d : decode cc pc = .ok (.invokevirtual 80, 3)) (kk : ∀ (r : Int32) (a : svH) (b : svL) (c : svR), post r a b c → svJ l G R (RL, cc, nL, ret, nm) F cs sl (pc + 3) ls (.int r :: st) svSH a b c) : svJ l G R (RL, cc, nL, ret, nm) F cs sl pc ls (v2 :: v1 :: v0 :: sv_rf G.1 i :: st) svSH hi hl hr :=
  J_callV (M := (RL, cc, nL, ret, nm)) (As := [v0, v1, v2]) (n := 3) hsh rfl T calX7_odds wmL_80 (sv_in 558 (by decide +kernel) (by decide +kernel)) (sv_in 559 (by decide +kernel) (by decide +kernel)) rfl rfl hrest hR d (fun v sh' a b c h => by
    obtain ⟨r, rfl, rfl, hp⟩ := h
    exact kk r a b c hp)
theorem wmL_84 : Cond.methodLink RL 84 yX8_odds ∈ sv_tbl := (sv_in 961 (by decide +kernel) (by decide +kernel))
theorem caL_84 {i : Nat} {v0 v1 v2 : Value} {rm : Room} {post : Int32 → svH → svL → svR → Prop} (T : svI l G yX8_odds mX8_odds rm (sv_rf G.1 i :: [v0, v1, v2]) hi hl hr post) (hsh : svSH[i]? = some (0, 8)) (hrest : (st.map fun v => v.category).sum ≤ 8) (hR : sv_rooms R rm mX8_odds cs sl 0 0) (d : decode cc pc = .ok (.invokevirtual 84, 3)) (kk : ∀ (r : Int32) (a : svH) (b : svL) (c : svR), post r a b c → svJ l G R (RL, cc, nL, ret, nm) F cs sl (pc + 3) ls (.int r :: st) svSH a b c) : svJ l G R (RL, cc, nL, ret, nm) F cs sl pc ls (v2 :: v1 :: v0 :: sv_rf G.1 i :: st) svSH hi hl hr :=
  J_callV (M := (RL, cc, nL, ret, nm)) (As := [v0, v1, v2]) (n := 3) hsh rfl T calX8_odds wmL_84 (sv_in 962 (by decide +kernel) (by decide +kernel)) (sv_in 963 (by decide +kernel) (by decide +kernel)) rfl rfl hrest hR d (fun v sh' a b c h => by
    obtain ⟨r, rfl, rfl, hp⟩ := h
    exact kk r a b c hp)
theorem wmL_85 : Cond.methodLink RL 85 yX7_hears ∈ sv_tbl := (sv_in 568 (by decide +kernel) (by decide +kernel))
theorem caL_85 {i : Nat} {v0 v1 : Value} {rm : Room} {post : Int32 → svH → svL → svR → Prop} (T : svI l G yX7_hears mX7_hears rm (sv_rf G.1 i :: [v0, v1]) hi hl hr post) (hsh : svSH[i]? = some (0, 7)) (hrest : (st.map fun v => v.category).sum ≤ 8) (hR : sv_rooms R rm mX7_hears cs sl 0 0) (d : decode cc pc = .ok (.invokevirtual 85, 3)) (kk : ∀ (r : Int32) (a : svH) (b : svL) (c : svR), post r a b c → svJ l G R (RL, cc, nL, ret, nm) F cs sl (pc + 3) ls (.int r :: st) svSH a b c) : svJ l G R (RL, cc, nL, ret, nm) F cs sl pc ls (v1 :: v0 :: sv_rf G.1 i :: st) svSH hi hl hr :=
  J_callV (M := (RL, cc, nL, ret, nm)) (As := [v0, v1]) (n := 2) hsh rfl T calX7_hears wmL_85 (sv_in 569 (by decide +kernel) (by decide +kernel)) (sv_in 570 (by decide +kernel) (by decide +kernel)) rfl rfl hrest hR d (fun v sh' a b c h => by
    obtain ⟨r, rfl, rfl, hp⟩ := h
    exact kk r a b c hp)
theorem wmL_88 : Cond.methodLink RL 88 yX8_hears ∈ sv_tbl := (sv_in 968 (by decide +kernel) (by decide +kernel))
theorem caL_88 {i : Nat} {v0 v1 : Value} {rm : Room} {post : Int32 → svH → svL → svR → Prop} (T : svI l G yX8_hears mX8_hears rm (sv_rf G.1 i :: [v0, v1]) hi hl hr post) (hsh : svSH[i]? = some (0, 8)) (hrest : (st.map fun v => v.category).sum ≤ 8) (hR : sv_rooms R rm mX8_hears cs sl 0 0) (d : decode cc pc = .ok (.invokevirtual 88, 3)) (kk : ∀ (r : Int32) (a : svH) (b : svL) (c : svR), post r a b c → svJ l G R (RL, cc, nL, ret, nm) F cs sl (pc + 3) ls (.int r :: st) svSH a b c) : svJ l G R (RL, cc, nL, ret, nm) F cs sl pc ls (v1 :: v0 :: sv_rf G.1 i :: st) svSH hi hl hr :=
  J_callV (M := (RL, cc, nL, ret, nm)) (As := [v0, v1]) (n := 2) hsh rfl T calX8_hears wmL_88 (sv_in 969 (by decide +kernel) (by decide +kernel)) (sv_in 970 (by decide +kernel) (by decide +kernel)) rfl rfl hrest hR d (fun v sh' a b c h => by
    obtain ⟨r, rfl, rfl, hp⟩ := h
    exact kk r a b c hp)
theorem wmL_89 : Cond.methodLink RL 89 yX7_forget ∈ sv_tbl := (sv_in 577 (by decide +kernel) (by decide +kernel))
theorem caL_89 {i : Nat} {rm : Room} {post : Int32 → svH → svL → svR → Prop} (T : svI l G yX7_forget mX7_forget rm (sv_rf G.1 i :: []) hi hl hr post) (hsh : svSH[i]? = some (0, 7)) (hrest : (st.map fun v => v.category).sum ≤ 8) (hR : sv_rooms R rm mX7_forget cs sl 0 0) (d : decode cc pc = .ok (.invokevirtual 89, 3)) (kk : ∀ (r : Int32) (a : svH) (b : svL) (c : svR), post r a b c → svJ l G R (RL, cc, nL, ret, nm) F cs sl (pc + 3) ls (.int r :: st) svSH a b c) : svJ l G R (RL, cc, nL, ret, nm) F cs sl pc ls (sv_rf G.1 i :: st) svSH hi hl hr :=
  J_callV (M := (RL, cc, nL, ret, nm)) (As := []) (n := 0) hsh rfl T calX7_forget wmL_89 (sv_in 578 (by decide +kernel) (by decide +kernel)) (sv_in 579 (by decide +kernel) (by decide +kernel)) rfl rfl hrest hR d (fun v sh' a b c h => by
    obtain ⟨r, rfl, rfl, hp⟩ := h
    exact kk r a b c hp)
theorem wmL_92 : Cond.methodLink RL 92 yX8_forget ∈ sv_tbl := (sv_in 972 (by decide +kernel) (by decide +kernel))
theorem caL_92 {i : Nat} {rm : Room} {post : Int32 → svH → svL → svR → Prop} (T : svI l G yX8_forget mX8_forget rm (sv_rf G.1 i :: []) hi hl hr post) (hsh : svSH[i]? = some (0, 8)) (hrest : (st.map fun v => v.category).sum ≤ 8) (hR : sv_rooms R rm mX8_forget cs sl 0 0) (d : decode cc pc = .ok (.invokevirtual 92, 3)) (kk : ∀ (r : Int32) (a : svH) (b : svL) (c : svR), post r a b c → svJ l G R (RL, cc, nL, ret, nm) F cs sl (pc + 3) ls (.int r :: st) svSH a b c) : svJ l G R (RL, cc, nL, ret, nm) F cs sl pc ls (sv_rf G.1 i :: st) svSH hi hl hr :=
  J_callV (M := (RL, cc, nL, ret, nm)) (As := []) (n := 0) hsh rfl T calX8_forget wmL_92 (sv_in 973 (by decide +kernel) (by decide +kernel)) (sv_in 974 (by decide +kernel) (by decide +kernel)) rfl rfl hrest hR d (fun v sh' a b c h => by
    obtain ⟨r, rfl, rfl, hp⟩ := h
    exact kk r a b c hp)
theorem wmL_93 : Cond.methodLink RL 93 yX7_likings ∈ sv_tbl := (sv_in 581 (by decide +kernel) (by decide +kernel))
theorem caL_93 {i : Nat} {v0 : Value} {rm : Room} {post : Int32 → svH → svL → svR → Prop} (T : svI l G yX7_likings mX7_likings rm (sv_rf G.1 i :: [v0]) hi hl hr post) (hsh : svSH[i]? = some (0, 7)) (hrest : (st.map fun v => v.category).sum ≤ 8) (hR : sv_rooms R rm mX7_likings cs sl 0 0) (d : decode cc pc = .ok (.invokevirtual 93, 3)) (kk : ∀ (r : Int32) (a : svH) (b : svL) (c : svR), post r a b c → svJ l G R (RL, cc, nL, ret, nm) F cs sl (pc + 3) ls (.int r :: st) svSH a b c) : svJ l G R (RL, cc, nL, ret, nm) F cs sl pc ls (v0 :: sv_rf G.1 i :: st) svSH hi hl hr :=
  J_callV (M := (RL, cc, nL, ret, nm)) (As := [v0]) (n := 1) hsh rfl T calX7_likings wmL_93 (sv_in 582 (by decide +kernel) (by decide +kernel)) (sv_in 583 (by decide +kernel) (by decide +kernel)) rfl rfl hrest hR d (fun v sh' a b c h => by
    obtain ⟨r, rfl, rfl, hp⟩ := h
    exact kk r a b c hp)
theorem wmL_96 : Cond.methodLink RL 96 yX8_likings ∈ sv_tbl := (sv_in 976 (by decide +kernel) (by decide +kernel))
theorem caL_96 {i : Nat} {v0 : Value} {rm : Room} {post : Int32 → svH → svL → svR → Prop} (T : svI l G yX8_likings mX8_likings rm (sv_rf G.1 i :: [v0]) hi hl hr post) (hsh : svSH[i]? = some (0, 8)) (hrest : (st.map fun v => v.category).sum ≤ 8) (hR : sv_rooms R rm mX8_likings cs sl 0 0) (d : decode cc pc = .ok (.invokevirtual 96, 3)) (kk : ∀ (r : Int32) (a : svH) (b : svL) (c : svR), post r a b c → svJ l G R (RL, cc, nL, ret, nm) F cs sl (pc + 3) ls (.int r :: st) svSH a b c) : svJ l G R (RL, cc, nL, ret, nm) F cs sl pc ls (v0 :: sv_rf G.1 i :: st) svSH hi hl hr :=
  J_callV (M := (RL, cc, nL, ret, nm)) (As := [v0]) (n := 1) hsh rfl T calX8_likings wmL_96 (sv_in 977 (by decide +kernel) (by decide +kernel)) (sv_in 978 (by decide +kernel) (by decide +kernel)) rfl rfl hrest hR d (fun v sh' a b c h => by
    obtain ⟨r, rfl, rfl, hp⟩ := h
    exact kk r a b c hp)
theorem wmL_97 : Cond.methodLink RL 97 yX7_ask ∈ sv_tbl := (sv_in 602 (by decide +kernel) (by decide +kernel))
theorem caL_97 {i : Nat} {rm : Room} {post : Int32 → svH → svL → svR → Prop} (T : svI l G yX7_ask mX7_ask rm (sv_rf G.1 i :: []) hi hl hr post) (hsh : svSH[i]? = some (0, 7)) (hrest : (st.map fun v => v.category).sum ≤ 8) (hR : sv_rooms R rm mX7_ask cs sl 0 0) (d : decode cc pc = .ok (.invokevirtual 97, 3)) (kk : ∀ (r : Int32) (a : svH) (b : svL) (c : svR), post r a b c → svJ l G R (RL, cc, nL, ret, nm) F cs sl (pc + 3) ls (.int r :: st) svSH a b c) : svJ l G R (RL, cc, nL, ret, nm) F cs sl pc ls (sv_rf G.1 i :: st) svSH hi hl hr :=
  J_callV (M := (RL, cc, nL, ret, nm)) (As := []) (n := 0) hsh rfl T calX7_ask wmL_97 (sv_in 603 (by decide +kernel) (by decide +kernel)) (sv_in 604 (by decide +kernel) (by decide +kernel)) rfl rfl hrest hR d (fun v sh' a b c h => by
    obtain ⟨r, rfl, rfl, hp⟩ := h
    exact kk r a b c hp)
theorem wcL_10 : Cond.classLink RL 10 RX8 ∈ sv_tbl := (sv_in 678 (by decide +kernel) (by decide +kernel))
theorem nwL_10 (hR1 : cs + 1 ≤ R.cells) (hR2 : sl + 35 ≤ R.slots) (d : decode cc pc = .ok (.new 10, 3)) (kk : svJ l G R (RL, cc, nL, ret, nm) F (cs + 1) (sl + 35) (pc + 3) ls (sv_rf G.1 sh.length :: st) (sh ++ [(0, 8)]) (sv_z hi sh.length 0) (sv_z hl sh.length 0) (sv_z hr sh.length none)) : svJ l G R (RL, cc, nL, ret, nm) F cs sl pc ls st sh hi hl hr :=
  J_newo (M := (RL, cc, nL, ret, nm)) (ci := 8) (N := 35) inX8 tyX8_ok rfl rfl (fun j hj b => by
    have : j = 0 ∨ j = 1 ∨ j = 2 ∨ j = 3 ∨ j = 4 ∨ j = 5 ∨ j = 6 ∨ j = 7 ∨ j = 8 ∨ j = 9 ∨ j = 10 ∨ j = 11 ∨ j = 12 ∨ j = 13 ∨ j = 14 ∨ j = 15 ∨ j = 16 ∨ j = 17 ∨ j = 18 ∨ j = 19 ∨ j = 20 ∨ j = 21 ∨ j = 22 ∨ j = 23 ∨ j = 24 ∨ j = 25 ∨ j = 26 ∨ j = 27 ∨ j = 28 ∨ j = 29 ∨ j = 30 ∨ j = 31 ∨ j = 32 ∨ j = 33 ∨ j = 34 := by omega
    rcases this with rfl | rfl | rfl | rfl | rfl | rfl | rfl | rfl | rfl | rfl | rfl | rfl | rfl | rfl | rfl | rfl | rfl | rfl | rfl | rfl | rfl | rfl | rfl | rfl | rfl | rfl | rfl | rfl | rfl | rfl | rfl | rfl | rfl | rfl | rfl <;> first | rfl | simp [tyX8, defaultValue, vp_V, sv_fs, sv_fk, sv_fv, sv_z, sv_rv, va_rf]) wcL_10 (sv_in 679 (by decide +kernel) (by decide +kernel)) (sv_in 62 (by decide +kernel) (by decide +kernel)) hR1 hR2 d kk
theorem wcL_7 : Cond.classLink RL 7 RX7 ∈ sv_tbl := (sv_in 66 (by decide +kernel) (by decide +kernel))
theorem nwL_7 (hR1 : cs + 1 ≤ R.cells) (hR2 : sl + 10 ≤ R.slots) (d : decode cc pc = .ok (.new 7, 3)) (kk : svJ l G R (RL, cc, nL, ret, nm) F (cs + 1) (sl + 10) (pc + 3) ls (sv_rf G.1 sh.length :: st) (sh ++ [(0, 7)]) (sv_z hi sh.length 0) (sv_z hl sh.length 0) (sv_z hr sh.length none)) : svJ l G R (RL, cc, nL, ret, nm) F cs sl pc ls st sh hi hl hr :=
  J_newo (M := (RL, cc, nL, ret, nm)) (ci := 7) (N := 10) inX7 tyX7_ok rfl rfl (fun j hj b => by
    have : j = 0 ∨ j = 1 ∨ j = 2 ∨ j = 3 ∨ j = 4 ∨ j = 5 ∨ j = 6 ∨ j = 7 ∨ j = 8 ∨ j = 9 := by omega
    rcases this with rfl | rfl | rfl | rfl | rfl | rfl | rfl | rfl | rfl | rfl <;> first | rfl | simp [tyX7, defaultValue, vp_V, sv_fs, sv_fk, sv_fv, sv_z, sv_rv, va_rf]) wcL_7 (sv_in 67 (by decide +kernel) (by decide +kernel)) (sv_in 54 (by decide +kernel) (by decide +kernel)) hR1 hR2 d kk
theorem wfX8_105 : Cond.fieldLink RX8 105 (TX8 20).1 (TX8 20).2.1 (TX8 20).2.2.1 ∈ sv_tbl := (sv_in 704 (by decide +kernel) (by decide +kernel))
theorem fgX8_105 {i : Nat} (hsh : sh[i]? = some (0, 8)) (d : decode cc pc = .ok (.getfield 105, 3)) (kk : svJ l G R (RX8, cc, nL, ret, nm) F cs sl (pc + 3) ls (.int (hi i 20) :: st) sh hi hl hr) : svJ l G R (RX8, cc, nL, ret, nm) F cs sl pc ls (sv_rf G.1 i :: st) sh hi hl hr :=
  J_get (M := (RX8, cc, nL, ret, nm)) (k := 20) inX8 rfl (by decide) rfl wfX8_105 hsh d kk
theorem wfX8_112 : Cond.fieldLink RX8 112 (TX8 21).1 (TX8 21).2.1 (TX8 21).2.2.1 ∈ sv_tbl := (sv_in 705 (by decide +kernel) (by decide +kernel))
theorem fgX8_112 {i : Nat} (hsh : sh[i]? = some (0, 8)) (d : decode cc pc = .ok (.getfield 112, 3)) (kk : svJ l G R (RX8, cc, nL, ret, nm) F cs sl (pc + 3) ls (.int (hi i 21) :: st) sh hi hl hr) : svJ l G R (RX8, cc, nL, ret, nm) F cs sl pc ls (sv_rf G.1 i :: st) sh hi hl hr :=
  J_get (M := (RX8, cc, nL, ret, nm)) (k := 21) inX8 rfl (by decide) rfl wfX8_112 hsh d kk
theorem wfX8_115 : Cond.fieldLink RX8 115 (TX8 25).1 (TX8 25).2.1 (TX8 25).2.2.1 ∈ sv_tbl := (sv_in 709 (by decide +kernel) (by decide +kernel))
theorem fgX8_115 {i : Nat} (hsh : sh[i]? = some (0, 8)) (d : decode cc pc = .ok (.getfield 115, 3)) (kk : svJ l G R (RX8, cc, nL, ret, nm) F cs sl (pc + 3) ls (.int (hi i 25) :: st) sh hi hl hr) : svJ l G R (RX8, cc, nL, ret, nm) F cs sl pc ls (sv_rf G.1 i :: st) sh hi hl hr :=
  J_get (M := (RX8, cc, nL, ret, nm)) (k := 25) inX8 rfl (by decide) rfl wfX8_115 hsh d kk
theorem wfX8_118 : Cond.fieldLink RX8 118 (TX8 29).1 (TX8 29).2.1 (TX8 29).2.2.1 ∈ sv_tbl := (sv_in 713 (by decide +kernel) (by decide +kernel))
theorem fgX8_118 {i : Nat} (hsh : sh[i]? = some (0, 8)) (d : decode cc pc = .ok (.getfield 118, 3)) (kk : svJ l G R (RX8, cc, nL, ret, nm) F cs sl (pc + 3) ls (.int (hi i 29) :: st) sh hi hl hr) : svJ l G R (RX8, cc, nL, ret, nm) F cs sl pc ls (sv_rf G.1 i :: st) sh hi hl hr :=
  J_get (M := (RX8, cc, nL, ret, nm)) (k := 29) inX8 rfl (by decide) rfl wfX8_118 hsh d kk
theorem wfX8_125 : Cond.fieldLink RX8 125 (TX8 22).1 (TX8 22).2.1 (TX8 22).2.2.1 ∈ sv_tbl := (sv_in 706 (by decide +kernel) (by decide +kernel))
theorem fgX8_125 {i : Nat} (hsh : sh[i]? = some (0, 8)) (d : decode cc pc = .ok (.getfield 125, 3)) (kk : svJ l G R (RX8, cc, nL, ret, nm) F cs sl (pc + 3) ls (.int (hi i 22) :: st) sh hi hl hr) : svJ l G R (RX8, cc, nL, ret, nm) F cs sl pc ls (sv_rf G.1 i :: st) sh hi hl hr :=
  J_get (M := (RX8, cc, nL, ret, nm)) (k := 22) inX8 rfl (by decide) rfl wfX8_125 hsh d kk
theorem wfX8_128 : Cond.fieldLink RX8 128 (TX8 23).1 (TX8 23).2.1 (TX8 23).2.2.1 ∈ sv_tbl := (sv_in 707 (by decide +kernel) (by decide +kernel))
theorem fgX8_128 {i : Nat} (hsh : sh[i]? = some (0, 8)) (d : decode cc pc = .ok (.getfield 128, 3)) (kk : svJ l G R (RX8, cc, nL, ret, nm) F cs sl (pc + 3) ls (.int (hi i 23) :: st) sh hi hl hr) : svJ l G R (RX8, cc, nL, ret, nm) F cs sl pc ls (sv_rf G.1 i :: st) sh hi hl hr :=
  J_get (M := (RX8, cc, nL, ret, nm)) (k := 23) inX8 rfl (by decide) rfl wfX8_128 hsh d kk
theorem wfX8_13 : Cond.fieldLink RX8 13 (TX8 1).1 (TX8 1).2.1 (TX8 1).2.2.1 ∈ sv_tbl := (sv_in 685 (by decide +kernel) (by decide +kernel))
theorem fgX8_13 {i : Nat} (hsh : sh[i]? = some (0, 8)) (d : decode cc pc = .ok (.getfield 13, 3)) (kk : svJ l G R (RX8, cc, nL, ret, nm) F cs sl (pc + 3) ls (.int (hi i 1) :: st) sh hi hl hr) : svJ l G R (RX8, cc, nL, ret, nm) F cs sl pc ls (sv_rf G.1 i :: st) sh hi hl hr :=
  J_get (M := (RX8, cc, nL, ret, nm)) (k := 1) inX8 rfl (by decide) rfl wfX8_13 hsh d kk
theorem wfX8_131 : Cond.fieldLink RX8 131 (TX8 24).1 (TX8 24).2.1 (TX8 24).2.2.1 ∈ sv_tbl := (sv_in 708 (by decide +kernel) (by decide +kernel))
theorem fgX8_131 {i : Nat} (hsh : sh[i]? = some (0, 8)) (d : decode cc pc = .ok (.getfield 131, 3)) (kk : svJ l G R (RX8, cc, nL, ret, nm) F cs sl (pc + 3) ls (.int (hi i 24) :: st) sh hi hl hr) : svJ l G R (RX8, cc, nL, ret, nm) F cs sl pc ls (sv_rf G.1 i :: st) sh hi hl hr :=
  J_get (M := (RX8, cc, nL, ret, nm)) (k := 24) inX8 rfl (by decide) rfl wfX8_131 hsh d kk
theorem wfX8_156 : Cond.fieldLink RX8 156 (TX8 11).1 (TX8 11).2.1 (TX8 11).2.2.1 ∈ sv_tbl := (sv_in 695 (by decide +kernel) (by decide +kernel))
theorem fgX8_156 {i : Nat} (hsh : sh[i]? = some (0, 8)) (d : decode cc pc = .ok (.getfield 156, 3)) (kk : svJ l G R (RX8, cc, nL, ret, nm) F cs sl (pc + 3) ls (.int (hi i 11) :: st) sh hi hl hr) : svJ l G R (RX8, cc, nL, ret, nm) F cs sl pc ls (sv_rf G.1 i :: st) sh hi hl hr :=
  J_get (M := (RX8, cc, nL, ret, nm)) (k := 11) inX8 rfl (by decide) rfl wfX8_156 hsh d kk
theorem wfX8_16 : Cond.fieldLink RX8 16 (TX8 3).1 (TX8 3).2.1 (TX8 3).2.2.1 ∈ sv_tbl := (sv_in 687 (by decide +kernel) (by decide +kernel))
theorem fgX8_16 {i q : Nat} (hsh : sh[i]? = some (0, 8)) (hv : hr i 3 = some q) (d : decode cc pc = .ok (.getfield 16, 3)) (kk : svJ l G R (RX8, cc, nL, ret, nm) F cs sl (pc + 3) ls (sv_rf G.1 q :: st) sh hi hl hr) : svJ l G R (RX8, cc, nL, ret, nm) F cs sl pc ls (sv_rf G.1 i :: st) sh hi hl hr := by
  refine J_get (M := (RX8, cc, nL, ret, nm)) (k := 3) inX8 rfl (by decide) rfl wfX8_16 hsh d ?_
  show svJ l G R (RX8, cc, nL, ret, nm) F cs sl (pc + 3) ls (sv_rv G.1 (hr i 3) :: st) sh hi hl hr
  rw [sv_rv_some hv]
  exact kk
theorem wfX8_20 : Cond.fieldLink RX8 20 (TX8 5).1 (TX8 5).2.1 (TX8 5).2.2.1 ∈ sv_tbl := (sv_in 689 (by decide +kernel) (by decide +kernel))
theorem fgX8_20 {i q : Nat} (hsh : sh[i]? = some (0, 8)) (hv : hr i 5 = some q) (d : decode cc pc = .ok (.getfield 20, 3)) (kk : svJ l G R (RX8, cc, nL, ret, nm) F cs sl (pc + 3) ls (sv_rf G.1 q :: st) sh hi hl hr) : svJ l G R (RX8, cc, nL, ret, nm) F cs sl pc ls (sv_rf G.1 i :: st) sh hi hl hr := by
  refine J_get (M := (RX8, cc, nL, ret, nm)) (k := 5) inX8 rfl (by decide) rfl wfX8_20 hsh d ?_
  show svJ l G R (RX8, cc, nL, ret, nm) F cs sl (pc + 3) ls (sv_rv G.1 (hr i 5) :: st) sh hi hl hr
  rw [sv_rv_some hv]
  exact kk
theorem wfX8_227 : Cond.fieldLink RX8 227 (TX8 13).1 (TX8 13).2.1 (TX8 13).2.2.1 ∈ sv_tbl := (sv_in 697 (by decide +kernel) (by decide +kernel))
theorem fgX8_227 {i : Nat} (hsh : sh[i]? = some (0, 8)) (d : decode cc pc = .ok (.getfield 227, 3)) (kk : svJ l G R (RX8, cc, nL, ret, nm) F cs sl (pc + 3) ls (.long (hl i 13) :: st) sh hi hl hr) : svJ l G R (RX8, cc, nL, ret, nm) F cs sl pc ls (sv_rf G.1 i :: st) sh hi hl hr :=
  J_get (M := (RX8, cc, nL, ret, nm)) (k := 13) inX8 rfl (by decide) rfl wfX8_227 hsh d kk
theorem wfX8_23 : Cond.fieldLink RX8 23 (TX8 6).1 (TX8 6).2.1 (TX8 6).2.2.1 ∈ sv_tbl := (sv_in 690 (by decide +kernel) (by decide +kernel))
theorem fgX8_23 {i q : Nat} (hsh : sh[i]? = some (0, 8)) (hv : hr i 6 = some q) (d : decode cc pc = .ok (.getfield 23, 3)) (kk : svJ l G R (RX8, cc, nL, ret, nm) F cs sl (pc + 3) ls (sv_rf G.1 q :: st) sh hi hl hr) : svJ l G R (RX8, cc, nL, ret, nm) F cs sl pc ls (sv_rf G.1 i :: st) sh hi hl hr := by
  refine J_get (M := (RX8, cc, nL, ret, nm)) (k := 6) inX8 rfl (by decide) rfl wfX8_23 hsh d ?_
  show svJ l G R (RX8, cc, nL, ret, nm) F cs sl (pc + 3) ls (sv_rv G.1 (hr i 6) :: st) sh hi hl hr
  rw [sv_rv_some hv]
  exact kk
theorem wfX8_26 : Cond.fieldLink RX8 26 (TX8 7).1 (TX8 7).2.1 (TX8 7).2.2.1 ∈ sv_tbl := (sv_in 691 (by decide +kernel) (by decide +kernel))
theorem fgX8_26 {i q : Nat} (hsh : sh[i]? = some (0, 8)) (hv : hr i 7 = some q) (d : decode cc pc = .ok (.getfield 26, 3)) (kk : svJ l G R (RX8, cc, nL, ret, nm) F cs sl (pc + 3) ls (sv_rf G.1 q :: st) sh hi hl hr) : svJ l G R (RX8, cc, nL, ret, nm) F cs sl pc ls (sv_rf G.1 i :: st) sh hi hl hr := by
  refine J_get (M := (RX8, cc, nL, ret, nm)) (k := 7) inX8 rfl (by decide) rfl wfX8_26 hsh d ?_
  show svJ l G R (RX8, cc, nL, ret, nm) F cs sl (pc + 3) ls (sv_rv G.1 (hr i 7) :: st) sh hi hl hr
  rw [sv_rv_some hv]
  exact kk
theorem wfX8_29 : Cond.fieldLink RX8 29 (TX8 8).1 (TX8 8).2.1 (TX8 8).2.2.1 ∈ sv_tbl := (sv_in 692 (by decide +kernel) (by decide +kernel))
theorem fgX8_29 {i q : Nat} (hsh : sh[i]? = some (0, 8)) (hv : hr i 8 = some q) (d : decode cc pc = .ok (.getfield 29, 3)) (kk : svJ l G R (RX8, cc, nL, ret, nm) F cs sl (pc + 3) ls (sv_rf G.1 q :: st) sh hi hl hr) : svJ l G R (RX8, cc, nL, ret, nm) F cs sl pc ls (sv_rf G.1 i :: st) sh hi hl hr := by
  refine J_get (M := (RX8, cc, nL, ret, nm)) (k := 8) inX8 rfl (by decide) rfl wfX8_29 hsh d ?_
  show svJ l G R (RX8, cc, nL, ret, nm) F cs sl (pc + 3) ls (sv_rv G.1 (hr i 8) :: st) sh hi hl hr
  rw [sv_rv_some hv]
  exact kk
theorem wfX8_32 : Cond.fieldLink RX8 32 (TX8 9).1 (TX8 9).2.1 (TX8 9).2.2.1 ∈ sv_tbl := (sv_in 693 (by decide +kernel) (by decide +kernel))
theorem fgX8_32 {i q : Nat} (hsh : sh[i]? = some (0, 8)) (hv : hr i 9 = some q) (d : decode cc pc = .ok (.getfield 32, 3)) (kk : svJ l G R (RX8, cc, nL, ret, nm) F cs sl (pc + 3) ls (sv_rf G.1 q :: st) sh hi hl hr) : svJ l G R (RX8, cc, nL, ret, nm) F cs sl pc ls (sv_rf G.1 i :: st) sh hi hl hr := by
  refine J_get (M := (RX8, cc, nL, ret, nm)) (k := 9) inX8 rfl (by decide) rfl wfX8_32 hsh d ?_
  show svJ l G R (RX8, cc, nL, ret, nm) F cs sl (pc + 3) ls (sv_rv G.1 (hr i 9) :: st) sh hi hl hr
  rw [sv_rv_some hv]
  exact kk
theorem wfX8_35 : Cond.fieldLink RX8 35 (TX8 10).1 (TX8 10).2.1 (TX8 10).2.2.1 ∈ sv_tbl := (sv_in 694 (by decide +kernel) (by decide +kernel))
theorem fgX8_35 {i q : Nat} (hsh : sh[i]? = some (0, 8)) (hv : hr i 10 = some q) (d : decode cc pc = .ok (.getfield 35, 3)) (kk : svJ l G R (RX8, cc, nL, ret, nm) F cs sl (pc + 3) ls (sv_rf G.1 q :: st) sh hi hl hr) : svJ l G R (RX8, cc, nL, ret, nm) F cs sl pc ls (sv_rf G.1 i :: st) sh hi hl hr := by
  refine J_get (M := (RX8, cc, nL, ret, nm)) (k := 10) inX8 rfl (by decide) rfl wfX8_35 hsh d ?_
  show svJ l G R (RX8, cc, nL, ret, nm) F cs sl (pc + 3) ls (sv_rv G.1 (hr i 10) :: st) sh hi hl hr
  rw [sv_rv_some hv]
  exact kk
theorem wfX8_39 : Cond.fieldLink RX8 39 (TX8 12).1 (TX8 12).2.1 (TX8 12).2.2.1 ∈ sv_tbl := (sv_in 696 (by decide +kernel) (by decide +kernel))
theorem fgX8_39 {i q : Nat} (hsh : sh[i]? = some (0, 8)) (hv : hr i 12 = some q) (d : decode cc pc = .ok (.getfield 39, 3)) (kk : svJ l G R (RX8, cc, nL, ret, nm) F cs sl (pc + 3) ls (sv_rf G.1 q :: st) sh hi hl hr) : svJ l G R (RX8, cc, nL, ret, nm) F cs sl pc ls (sv_rf G.1 i :: st) sh hi hl hr := by
  refine J_get (M := (RX8, cc, nL, ret, nm)) (k := 12) inX8 rfl (by decide) rfl wfX8_39 hsh d ?_
  show svJ l G R (RX8, cc, nL, ret, nm) F cs sl (pc + 3) ls (sv_rv G.1 (hr i 12) :: st) sh hi hl hr
  rw [sv_rv_some hv]
  exact kk
theorem wfX8_42 : Cond.fieldLink RX8 42 (TX8 14).1 (TX8 14).2.1 (TX8 14).2.2.1 ∈ sv_tbl := (sv_in 698 (by decide +kernel) (by decide +kernel))
theorem fgX8_42 {i q : Nat} (hsh : sh[i]? = some (0, 8)) (hv : hr i 14 = some q) (d : decode cc pc = .ok (.getfield 42, 3)) (kk : svJ l G R (RX8, cc, nL, ret, nm) F cs sl (pc + 3) ls (sv_rf G.1 q :: st) sh hi hl hr) : svJ l G R (RX8, cc, nL, ret, nm) F cs sl pc ls (sv_rf G.1 i :: st) sh hi hl hr := by
  refine J_get (M := (RX8, cc, nL, ret, nm)) (k := 14) inX8 rfl (by decide) rfl wfX8_42 hsh d ?_
  show svJ l G R (RX8, cc, nL, ret, nm) F cs sl (pc + 3) ls (sv_rv G.1 (hr i 14) :: st) sh hi hl hr
  rw [sv_rv_some hv]
  exact kk
theorem wfX8_45 : Cond.fieldLink RX8 45 (TX8 26).1 (TX8 26).2.1 (TX8 26).2.2.1 ∈ sv_tbl := (sv_in 710 (by decide +kernel) (by decide +kernel))
theorem fgX8_45 {i q : Nat} (hsh : sh[i]? = some (0, 8)) (hv : hr i 26 = some q) (d : decode cc pc = .ok (.getfield 45, 3)) (kk : svJ l G R (RX8, cc, nL, ret, nm) F cs sl (pc + 3) ls (sv_rf G.1 q :: st) sh hi hl hr) : svJ l G R (RX8, cc, nL, ret, nm) F cs sl pc ls (sv_rf G.1 i :: st) sh hi hl hr := by
  refine J_get (M := (RX8, cc, nL, ret, nm)) (k := 26) inX8 rfl (by decide) rfl wfX8_45 hsh d ?_
  show svJ l G R (RX8, cc, nL, ret, nm) F cs sl (pc + 3) ls (sv_rv G.1 (hr i 26) :: st) sh hi hl hr
  rw [sv_rv_some hv]
  exact kk
theorem wfX8_48 : Cond.fieldLink RX8 48 (TX8 27).1 (TX8 27).2.1 (TX8 27).2.2.1 ∈ sv_tbl := (sv_in 711 (by decide +kernel) (by decide +kernel))
theorem fgX8_48 {i q : Nat} (hsh : sh[i]? = some (0, 8)) (hv : hr i 27 = some q) (d : decode cc pc = .ok (.getfield 48, 3)) (kk : svJ l G R (RX8, cc, nL, ret, nm) F cs sl (pc + 3) ls (sv_rf G.1 q :: st) sh hi hl hr) : svJ l G R (RX8, cc, nL, ret, nm) F cs sl pc ls (sv_rf G.1 i :: st) sh hi hl hr := by
  refine J_get (M := (RX8, cc, nL, ret, nm)) (k := 27) inX8 rfl (by decide) rfl wfX8_48 hsh d ?_
  show svJ l G R (RX8, cc, nL, ret, nm) F cs sl (pc + 3) ls (sv_rv G.1 (hr i 27) :: st) sh hi hl hr
  rw [sv_rv_some hv]
  exact kk
theorem wfX8_51 : Cond.fieldLink RX8 51 (TX8 28).1 (TX8 28).2.1 (TX8 28).2.2.1 ∈ sv_tbl := (sv_in 712 (by decide +kernel) (by decide +kernel))
theorem fgX8_51 {i q : Nat} (hsh : sh[i]? = some (0, 8)) (hv : hr i 28 = some q) (d : decode cc pc = .ok (.getfield 51, 3)) (kk : svJ l G R (RX8, cc, nL, ret, nm) F cs sl (pc + 3) ls (sv_rf G.1 q :: st) sh hi hl hr) : svJ l G R (RX8, cc, nL, ret, nm) F cs sl pc ls (sv_rf G.1 i :: st) sh hi hl hr := by
  refine J_get (M := (RX8, cc, nL, ret, nm)) (k := 28) inX8 rfl (by decide) rfl wfX8_51 hsh d ?_
  show svJ l G R (RX8, cc, nL, ret, nm) F cs sl (pc + 3) ls (sv_rv G.1 (hr i 28) :: st) sh hi hl hr
  rw [sv_rv_some hv]
  exact kk
theorem wfX8_54 : Cond.fieldLink RX8 54 (TX8 30).1 (TX8 30).2.1 (TX8 30).2.2.1 ∈ sv_tbl := (sv_in 714 (by decide +kernel) (by decide +kernel))
theorem fgX8_54 {i q : Nat} (hsh : sh[i]? = some (0, 8)) (hv : hr i 30 = some q) (d : decode cc pc = .ok (.getfield 54, 3)) (kk : svJ l G R (RX8, cc, nL, ret, nm) F cs sl (pc + 3) ls (sv_rf G.1 q :: st) sh hi hl hr) : svJ l G R (RX8, cc, nL, ret, nm) F cs sl pc ls (sv_rf G.1 i :: st) sh hi hl hr := by
  refine J_get (M := (RX8, cc, nL, ret, nm)) (k := 30) inX8 rfl (by decide) rfl wfX8_54 hsh d ?_
  show svJ l G R (RX8, cc, nL, ret, nm) F cs sl (pc + 3) ls (sv_rv G.1 (hr i 30) :: st) sh hi hl hr
  rw [sv_rv_some hv]
  exact kk
theorem wfX8_57 : Cond.fieldLink RX8 57 (TX8 31).1 (TX8 31).2.1 (TX8 31).2.2.1 ∈ sv_tbl := (sv_in 715 (by decide +kernel) (by decide +kernel))
theorem fgX8_57 {i q : Nat} (hsh : sh[i]? = some (0, 8)) (hv : hr i 31 = some q) (d : decode cc pc = .ok (.getfield 57, 3)) (kk : svJ l G R (RX8, cc, nL, ret, nm) F cs sl (pc + 3) ls (sv_rf G.1 q :: st) sh hi hl hr) : svJ l G R (RX8, cc, nL, ret, nm) F cs sl pc ls (sv_rf G.1 i :: st) sh hi hl hr := by
  refine J_get (M := (RX8, cc, nL, ret, nm)) (k := 31) inX8 rfl (by decide) rfl wfX8_57 hsh d ?_
  show svJ l G R (RX8, cc, nL, ret, nm) F cs sl (pc + 3) ls (sv_rv G.1 (hr i 31) :: st) sh hi hl hr
  rw [sv_rv_some hv]
  exact kk
theorem wfX8_60 : Cond.fieldLink RX8 60 (TX8 32).1 (TX8 32).2.1 (TX8 32).2.2.1 ∈ sv_tbl := (sv_in 716 (by decide +kernel) (by decide +kernel))
theorem fgX8_60 {i q : Nat} (hsh : sh[i]? = some (0, 8)) (hv : hr i 32 = some q) (d : decode cc pc = .ok (.getfield 60, 3)) (kk : svJ l G R (RX8, cc, nL, ret, nm) F cs sl (pc + 3) ls (sv_rf G.1 q :: st) sh hi hl hr) : svJ l G R (RX8, cc, nL, ret, nm) F cs sl pc ls (sv_rf G.1 i :: st) sh hi hl hr := by
  refine J_get (M := (RX8, cc, nL, ret, nm)) (k := 32) inX8 rfl (by decide) rfl wfX8_60 hsh d ?_
  show svJ l G R (RX8, cc, nL, ret, nm) F cs sl (pc + 3) ls (sv_rv G.1 (hr i 32) :: st) sh hi hl hr
  rw [sv_rv_some hv]
  exact kk
theorem wfX8_63 : Cond.fieldLink RX8 63 (TX8 33).1 (TX8 33).2.1 (TX8 33).2.2.1 ∈ sv_tbl := (sv_in 717 (by decide +kernel) (by decide +kernel))
theorem fgX8_63 {i q : Nat} (hsh : sh[i]? = some (0, 8)) (hv : hr i 33 = some q) (d : decode cc pc = .ok (.getfield 63, 3)) (kk : svJ l G R (RX8, cc, nL, ret, nm) F cs sl (pc + 3) ls (sv_rf G.1 q :: st) sh hi hl hr) : svJ l G R (RX8, cc, nL, ret, nm) F cs sl pc ls (sv_rf G.1 i :: st) sh hi hl hr := by
  refine J_get (M := (RX8, cc, nL, ret, nm)) (k := 33) inX8 rfl (by decide) rfl wfX8_63 hsh d ?_
  show svJ l G R (RX8, cc, nL, ret, nm) F cs sl (pc + 3) ls (sv_rv G.1 (hr i 33) :: st) sh hi hl hr
  rw [sv_rv_some hv]
  exact kk
theorem wfX8_66 : Cond.fieldLink RX8 66 (TX8 34).1 (TX8 34).2.1 (TX8 34).2.2.1 ∈ sv_tbl := (sv_in 718 (by decide +kernel) (by decide +kernel))
theorem fgX8_66 {i q : Nat} (hsh : sh[i]? = some (0, 8)) (hv : hr i 34 = some q) (d : decode cc pc = .ok (.getfield 66, 3)) (kk : svJ l G R (RX8, cc, nL, ret, nm) F cs sl (pc + 3) ls (sv_rf G.1 q :: st) sh hi hl hr) : svJ l G R (RX8, cc, nL, ret, nm) F cs sl pc ls (sv_rf G.1 i :: st) sh hi hl hr := by
  refine J_get (M := (RX8, cc, nL, ret, nm)) (k := 34) inX8 rfl (by decide) rfl wfX8_66 hsh d ?_
  show svJ l G R (RX8, cc, nL, ret, nm) F cs sl (pc + 3) ls (sv_rv G.1 (hr i 34) :: st) sh hi hl hr
  rw [sv_rv_some hv]
  exact kk
theorem wfX8_7 : Cond.fieldLink RX8 7 (TX8 0).1 (TX8 0).2.1 (TX8 0).2.2.1 ∈ sv_tbl := (sv_in 684 (by decide +kernel) (by decide +kernel))
theorem fgX8_7 {i : Nat} (hsh : sh[i]? = some (0, 8)) (d : decode cc pc = .ok (.getfield 7, 3)) (kk : svJ l G R (RX8, cc, nL, ret, nm) F cs sl (pc + 3) ls (.int (hi i 0) :: st) sh hi hl hr) : svJ l G R (RX8, cc, nL, ret, nm) F cs sl pc ls (sv_rf G.1 i :: st) sh hi hl hr :=
  J_get (M := (RX8, cc, nL, ret, nm)) (k := 0) inX8 rfl (by decide) rfl wfX8_7 hsh d kk
theorem wfX8_73 : Cond.fieldLink RX8 73 (TX8 2).1 (TX8 2).2.1 (TX8 2).2.2.1 ∈ sv_tbl := (sv_in 686 (by decide +kernel) (by decide +kernel))
theorem fgX8_73 {i : Nat} (hsh : sh[i]? = some (0, 8)) (d : decode cc pc = .ok (.getfield 73, 3)) (kk : svJ l G R (RX8, cc, nL, ret, nm) F cs sl (pc + 3) ls (.int (hi i 2) :: st) sh hi hl hr) : svJ l G R (RX8, cc, nL, ret, nm) F cs sl pc ls (sv_rf G.1 i :: st) sh hi hl hr :=
  J_get (M := (RX8, cc, nL, ret, nm)) (k := 2) inX8 rfl (by decide) rfl wfX8_73 hsh d kk
theorem wfX8_76 : Cond.fieldLink RX8 76 (TX8 4).1 (TX8 4).2.1 (TX8 4).2.2.1 ∈ sv_tbl := (sv_in 688 (by decide +kernel) (by decide +kernel))
theorem fgX8_76 {i : Nat} (hsh : sh[i]? = some (0, 8)) (d : decode cc pc = .ok (.getfield 76, 3)) (kk : svJ l G R (RX8, cc, nL, ret, nm) F cs sl (pc + 3) ls (.int (hi i 4) :: st) sh hi hl hr) : svJ l G R (RX8, cc, nL, ret, nm) F cs sl pc ls (sv_rf G.1 i :: st) sh hi hl hr :=
  J_get (M := (RX8, cc, nL, ret, nm)) (k := 4) inX8 rfl (by decide) rfl wfX8_76 hsh d kk
theorem wfX8_79 : Cond.fieldLink RX8 79 (TX8 15).1 (TX8 15).2.1 (TX8 15).2.2.1 ∈ sv_tbl := (sv_in 699 (by decide +kernel) (by decide +kernel))
theorem fgX8_79 {i : Nat} (hsh : sh[i]? = some (0, 8)) (d : decode cc pc = .ok (.getfield 79, 3)) (kk : svJ l G R (RX8, cc, nL, ret, nm) F cs sl (pc + 3) ls (.int (hi i 15) :: st) sh hi hl hr) : svJ l G R (RX8, cc, nL, ret, nm) F cs sl pc ls (sv_rf G.1 i :: st) sh hi hl hr :=
  J_get (M := (RX8, cc, nL, ret, nm)) (k := 15) inX8 rfl (by decide) rfl wfX8_79 hsh d kk
theorem wfX8_82 : Cond.fieldLink RX8 82 (TX8 16).1 (TX8 16).2.1 (TX8 16).2.2.1 ∈ sv_tbl := (sv_in 700 (by decide +kernel) (by decide +kernel))
theorem fgX8_82 {i : Nat} (hsh : sh[i]? = some (0, 8)) (d : decode cc pc = .ok (.getfield 82, 3)) (kk : svJ l G R (RX8, cc, nL, ret, nm) F cs sl (pc + 3) ls (.int (hi i 16) :: st) sh hi hl hr) : svJ l G R (RX8, cc, nL, ret, nm) F cs sl pc ls (sv_rf G.1 i :: st) sh hi hl hr :=
  J_get (M := (RX8, cc, nL, ret, nm)) (k := 16) inX8 rfl (by decide) rfl wfX8_82 hsh d kk
theorem wfX8_89 : Cond.fieldLink RX8 89 (TX8 17).1 (TX8 17).2.1 (TX8 17).2.2.1 ∈ sv_tbl := (sv_in 701 (by decide +kernel) (by decide +kernel))
theorem fgX8_89 {i : Nat} (hsh : sh[i]? = some (0, 8)) (d : decode cc pc = .ok (.getfield 89, 3)) (kk : svJ l G R (RX8, cc, nL, ret, nm) F cs sl (pc + 3) ls (.int (hi i 17) :: st) sh hi hl hr) : svJ l G R (RX8, cc, nL, ret, nm) F cs sl pc ls (sv_rf G.1 i :: st) sh hi hl hr :=
  J_get (M := (RX8, cc, nL, ret, nm)) (k := 17) inX8 rfl (by decide) rfl wfX8_89 hsh d kk
theorem wfX8_92 : Cond.fieldLink RX8 92 (TX8 19).1 (TX8 19).2.1 (TX8 19).2.2.1 ∈ sv_tbl := (sv_in 703 (by decide +kernel) (by decide +kernel))
theorem fgX8_92 {i : Nat} (hsh : sh[i]? = some (0, 8)) (d : decode cc pc = .ok (.getfield 92, 3)) (kk : svJ l G R (RX8, cc, nL, ret, nm) F cs sl (pc + 3) ls (.int (hi i 19) :: st) sh hi hl hr) : svJ l G R (RX8, cc, nL, ret, nm) F cs sl pc ls (sv_rf G.1 i :: st) sh hi hl hr :=
  J_get (M := (RX8, cc, nL, ret, nm)) (k := 19) inX8 rfl (by decide) rfl wfX8_92 hsh d kk
theorem wfX8_95 : Cond.fieldLink RX8 95 (TX8 18).1 (TX8 18).2.1 (TX8 18).2.2.1 ∈ sv_tbl := (sv_in 702 (by decide +kernel) (by decide +kernel))
theorem fgX8_95 {i : Nat} (hsh : sh[i]? = some (0, 8)) (d : decode cc pc = .ok (.getfield 95, 3)) (kk : svJ l G R (RX8, cc, nL, ret, nm) F cs sl (pc + 3) ls (.int (hi i 18) :: st) sh hi hl hr) : svJ l G R (RX8, cc, nL, ret, nm) F cs sl pc ls (sv_rf G.1 i :: st) sh hi hl hr :=
  J_get (M := (RX8, cc, nL, ret, nm)) (k := 18) inX8 rfl (by decide) rfl wfX8_95 hsh d kk
theorem wmX8_1 : Cond.methodLink RX8 1 Lib.objectInit ∈ sv_tbl := (sv_in 683 (by decide +kernel) (by decide +kernel))
theorem obX8_1 {i : Nat} (d : decode cc pc = .ok (.invokespecial 1, 3)) (hR : 1 ≤ R.frames) (hR2 : (st.map fun v => v.category).sum + 12 ≤ R.locals) (kk : svJ l G R (RX8, cc, nL, ret, nm) F cs sl (pc + 3) ls st sh hi hl hr) : svJ l G R (RX8, cc, nL, ret, nm) F cs sl pc ls (sv_rf G.1 i :: st) sh hi hl hr :=
  J_objInit (M := (RX8, cc, nL, ret, nm)) wmX8_1 (sv_in 72 (by decide +kernel) (by decide +kernel)) (sv_in 73 (by decide +kernel) (by decide +kernel)) d hR hR2 kk
theorem wmX8_102 : Cond.methodLink RX8 102 yX8_isLetter ∈ sv_tbl := (sv_in 817 (by decide +kernel) (by decide +kernel))
theorem caX8_102 {v0 : Value} {rm : Room} {post : Int32 → svH → svL → svR → Prop} (T : svI l G yX8_isLetter mX8_isLetter rm [v0] hi hl hr post) (hrest : (st.map fun v => v.category).sum ≤ 8) (hR : sv_rooms R rm mX8_isLetter cs sl 0 0) (d : decode cc pc = .ok (.invokestatic 102, 3)) (kk : ∀ (r : Int32) (a : svH) (b : svL) (c : svR), post r a b c → svJ l G R (RX8, cc, nL, ret, nm) F cs sl (pc + 3) ls (.int r :: st) svSH a b c) : svJ l G R (RX8, cc, nL, ret, nm) F cs sl pc ls (v0 :: st) svSH hi hl hr :=
  J_callS (M := (RX8, cc, nL, ret, nm)) (As := [v0]) (n := 1) T calX8_isLetter wmX8_102 (sv_in 818 (by decide +kernel) (by decide +kernel)) rfl rfl hrest hR d (fun v sh' a b c h => by
    obtain ⟨r, rfl, rfl, hp⟩ := h
    exact kk r a b c hp)
theorem wmX8_159 : Cond.methodLink RX8 159 yX8_has ∈ sv_tbl := (sv_in 864 (by decide +kernel) (by decide +kernel))
theorem caX8_159 {v0 v1 : Value} {rm : Room} {post : Int32 → svH → svL → svR → Prop} (T : svI l G yX8_has mX8_has rm [v0, v1] hi hl hr post) (hrest : (st.map fun v => v.category).sum ≤ 8) (hR : sv_rooms R rm mX8_has cs sl 0 0) (d : decode cc pc = .ok (.invokestatic 159, 3)) (kk : ∀ (r : Int32) (a : svH) (b : svL) (c : svR), post r a b c → svJ l G R (RX8, cc, nL, ret, nm) F cs sl (pc + 3) ls (.int r :: st) svSH a b c) : svJ l G R (RX8, cc, nL, ret, nm) F cs sl pc ls (v1 :: v0 :: st) svSH hi hl hr :=
  J_callS (M := (RX8, cc, nL, ret, nm)) (As := [v0, v1]) (n := 2) T calX8_has wmX8_159 (sv_in 865 (by decide +kernel) (by decide +kernel)) rfl rfl hrest hR d (fun v sh' a b c h => by
    obtain ⟨r, rfl, rfl, hp⟩ := h
    exact kk r a b c hp)
theorem wmX8_195 : Cond.methodLink RX8 195 yX8_bits ∈ sv_tbl := (sv_in 911 (by decide +kernel) (by decide +kernel))
theorem caX8_195 {v0 : Value} {rm : Room} {post : Int32 → svH → svL → svR → Prop} (T : svI l G yX8_bits mX8_bits rm [v0] hi hl hr post) (hrest : (st.map fun v => v.category).sum ≤ 8) (hR : sv_rooms R rm mX8_bits cs sl 0 0) (d : decode cc pc = .ok (.invokestatic 195, 3)) (kk : ∀ (r : Int32) (a : svH) (b : svL) (c : svR), post r a b c → svJ l G R (RX8, cc, nL, ret, nm) F cs sl (pc + 3) ls (.int r :: st) svSH a b c) : svJ l G R (RX8, cc, nL, ret, nm) F cs sl pc ls (v0 :: st) svSH hi hl hr :=
  J_callS (M := (RX8, cc, nL, ret, nm)) (As := [v0]) (n := 1) T calX8_bits wmX8_195 (sv_in 912 (by decide +kernel) (by decide +kernel)) rfl rfl hrest hR d (fun v sh' a b c h => by
    obtain ⟨r, rfl, rfl, hp⟩ := h
    exact kk r a b c hp)
theorem wmX8_204 : Cond.methodLink RX8 204 yX8_isLess ∈ sv_tbl := (sv_in 950 (by decide +kernel) (by decide +kernel))
theorem caX8_204 {v0 v1 : Value} {rm : Room} {post : Int32 → svH → svL → svR → Prop} (T : svI l G yX8_isLess mX8_isLess rm [v0, v1] hi hl hr post) (hrest : (st.map fun v => v.category).sum ≤ 8) (hR : sv_rooms R rm mX8_isLess cs sl 0 0) (d : decode cc pc = .ok (.invokestatic 204, 3)) (kk : ∀ (r : Int32) (a : svH) (b : svL) (c : svR), post r a b c → svJ l G R (RX8, cc, nL, ret, nm) F cs sl (pc + 3) ls (.int r :: st) svSH a b c) : svJ l G R (RX8, cc, nL, ret, nm) F cs sl pc ls (v1 :: v0 :: st) svSH hi hl hr :=
  J_callS (M := (RX8, cc, nL, ret, nm)) (As := [v0, v1]) (n := 2) T calX8_isLess wmX8_204 (sv_in 951 (by decide +kernel) (by decide +kernel)) rfl rfl hrest hR d (fun v sh' a b c h => by
    obtain ⟨r, rfl, rfl, hp⟩ := h
    exact kk r a b c hp)
theorem wmX8_207 : Cond.methodLink RX8 207 yX8_lowest ∈ sv_tbl := (sv_in 965 (by decide +kernel) (by decide +kernel))
theorem caX8_207 {v0 v1 v2 : Value} {rm : Room} {post : Int32 → svH → svL → svR → Prop} (T : svI l G yX8_lowest mX8_lowest rm [v0, v1, v2] hi hl hr post) (hrest : (st.map fun v => v.category).sum ≤ 8) (hR : sv_rooms R rm mX8_lowest cs sl 0 0) (d : decode cc pc = .ok (.invokestatic 207, 3)) (kk : ∀ (r : Int32) (a : svH) (b : svL) (c : svR), post r a b c → svJ l G R (RX8, cc, nL, ret, nm) F cs sl (pc + 3) ls (.int r :: st) svSH a b c) : svJ l G R (RX8, cc, nL, ret, nm) F cs sl pc ls (v2 :: v1 :: v0 :: st) svSH hi hl hr :=
  J_callS (M := (RX8, cc, nL, ret, nm)) (As := [v0, v1, v2]) (n := 3) T calX8_lowest wmX8_207 (sv_in 966 (by decide +kernel) (by decide +kernel)) rfl rfl hrest hR d (fun v sh' a b c h => by
    obtain ⟨r, rfl, rfl, hp⟩ := h
    exact kk r a b c hp)
theorem wmX8_211 : Cond.methodLink RX8 211 yX8_chosen ∈ sv_tbl := (sv_in 984 (by decide +kernel) (by decide +kernel))
theorem caX8_211 {v0 v1 v2 : Value} {rm : Room} {post : Int32 → svH → svL → svR → Prop} (T : svI l G yX8_chosen mX8_chosen rm [v0, v1, v2] hi hl hr post) (hrest : (st.map fun v => v.category).sum ≤ 8) (hR : sv_rooms R rm mX8_chosen cs sl 0 0) (d : decode cc pc = .ok (.invokestatic 211, 3)) (kk : ∀ (r : Int32) (a : svH) (b : svL) (c : svR), post r a b c → svJ l G R (RX8, cc, nL, ret, nm) F cs sl (pc + 3) ls (.int r :: st) svSH a b c) : svJ l G R (RX8, cc, nL, ret, nm) F cs sl pc ls (v2 :: v1 :: v0 :: st) svSH hi hl hr :=
  J_callS (M := (RX8, cc, nL, ret, nm)) (As := [v0, v1, v2]) (n := 3) T calX8_chosen wmX8_211 (sv_in 985 (by decide +kernel) (by decide +kernel)) rfl rfl hrest hR d (fun v sh' a b c h => by
    obtain ⟨r, rfl, rfl, hp⟩ := h
    exact kk r a b c hp)
theorem wmX8_69 : Cond.methodLink RX8 69 yX8_in ∈ sv_tbl := (sv_in 795 (by decide +kernel) (by decide +kernel))
theorem caX8_69 {v0 v1 v2 : Value} {rm : Room} {post : Int32 → svH → svL → svR → Prop} (T : svI l G yX8_in mX8_in rm [v0, v1, v2] hi hl hr post) (hrest : (st.map fun v => v.category).sum ≤ 8) (hR : sv_rooms R rm mX8_in cs sl 0 0) (d : decode cc pc = .ok (.invokestatic 69, 3)) (kk : ∀ (r : Int32) (a : svH) (b : svL) (c : svR), post r a b c → svJ l G R (RX8, cc, nL, ret, nm) F cs sl (pc + 3) ls (.int r :: st) svSH a b c) : svJ l G R (RX8, cc, nL, ret, nm) F cs sl pc ls (v2 :: v1 :: v0 :: st) svSH hi hl hr :=
  J_callS (M := (RX8, cc, nL, ret, nm)) (As := [v0, v1, v2]) (n := 3) T calX8_in wmX8_69 (sv_in 796 (by decide +kernel) (by decide +kernel)) rfl rfl hrest hR d (fun v sh' a b c h => by
    obtain ⟨r, rfl, rfl, hp⟩ := h
    exact kk r a b c hp)
theorem wmX8_98 : Cond.methodLink RX8 98 yX8_isFigure ∈ sv_tbl := (sv_in 814 (by decide +kernel) (by decide +kernel))
theorem caX8_98 {v0 : Value} {rm : Room} {post : Int32 → svH → svL → svR → Prop} (T : svI l G yX8_isFigure mX8_isFigure rm [v0] hi hl hr post) (hrest : (st.map fun v => v.category).sum ≤ 8) (hR : sv_rooms R rm mX8_isFigure cs sl 0 0) (d : decode cc pc = .ok (.invokestatic 98, 3)) (kk : ∀ (r : Int32) (a : svH) (b : svL) (c : svR), post r a b c → svJ l G R (RX8, cc, nL, ret, nm) F cs sl (pc + 3) ls (.int r :: st) svSH a b c) : svJ l G R (RX8, cc, nL, ret, nm) F cs sl pc ls (v0 :: st) svSH hi hl hr :=
  J_callS (M := (RX8, cc, nL, ret, nm)) (As := [v0]) (n := 1) T calX8_isFigure wmX8_98 (sv_in 815 (by decide +kernel) (by decide +kernel)) rfl rfl hrest hR d (fun v sh' a b c h => by
    obtain ⟨r, rfl, rfl, hp⟩ := h
    exact kk r a b c hp)
theorem wmX8_109 : Cond.methodLink RX8 109 yX8_next ∈ sv_tbl := (sv_in 806 (by decide +kernel) (by decide +kernel))
theorem caX8_109 {i : Nat} {rm : Room} {post : svH → svL → svR → Prop} (T : svV l G yX8_next mX8_next rm (sv_rf G.1 i :: []) hi hl hr post) (hsh : svSH[i]? = some (0, 8)) (hrest : (st.map fun v => v.category).sum ≤ 8) (hR : sv_rooms R rm mX8_next cs sl 0 0) (d : decode cc pc = .ok (.invokevirtual 109, 3)) (kk : ∀ (a : svH) (b : svL) (c : svR), post a b c → svJ l G R (RX8, cc, nL, ret, nm) F cs sl (pc + 3) ls st svSH a b c) : svJ l G R (RX8, cc, nL, ret, nm) F cs sl pc ls (sv_rf G.1 i :: st) svSH hi hl hr :=
  J_callV (M := (RX8, cc, nL, ret, nm)) (As := []) (n := 0) hsh rfl T calX8_next wmX8_109 (sv_in 808 (by decide +kernel) (by decide +kernel)) (sv_in 28 (by decide +kernel) (by decide +kernel)) rfl rfl hrest hR d (fun v sh' a b c h => by
    obtain ⟨rfl, rfl, hp⟩ := h
    exact kk a b c hp)
theorem wmX8_121 : Cond.methodLink RX8 121 yX8_takesNumber ∈ sv_tbl := (sv_in 836 (by decide +kernel) (by decide +kernel))
theorem caX8_121 {i : Nat} {v0 v1 : Value} {rm : Room} {post : Int32 → svH → svL → svR → Prop} (T : svI l G yX8_takesNumber mX8_takesNumber rm (sv_rf G.1 i :: [v0, v1]) hi hl hr post) (hsh : svSH[i]? = some (0, 8)) (hrest : (st.map fun v => v.category).sum ≤ 8) (hR : sv_rooms R rm mX8_takesNumber cs sl 0 0) (d : decode cc pc = .ok (.invokevirtual 121, 3)) (kk : ∀ (r : Int32) (a : svH) (b : svL) (c : svR), post r a b c → svJ l G R (RX8, cc, nL, ret, nm) F cs sl (pc + 3) ls (.int r :: st) svSH a b c) : svJ l G R (RX8, cc, nL, ret, nm) F cs sl pc ls (v1 :: v0 :: sv_rf G.1 i :: st) svSH hi hl hr :=
  J_callV (M := (RX8, cc, nL, ret, nm)) (As := [v0, v1]) (n := 2) hsh rfl T calX8_takesNumber wmX8_121 (sv_in 838 (by decide +kernel) (by decide +kernel)) (sv_in 34 (by decide +kernel) (by decide +kernel)) rfl rfl hrest hR d (fun v sh' a b c h => by
    obtain ⟨r, rfl, rfl, hp⟩ := h
    exact kk r a b c hp)
theorem wmX8_134 : Cond.methodLink RX8 134 yX8_readTown ∈ sv_tbl := (sv_in 832 (by decide +kernel) (by decide +kernel))
theorem caX8_134 {i : Nat} {rm : Room} {post : svH → svL → svR → Prop} (T : svV l G yX8_readTown mX8_readTown rm (sv_rf G.1 i :: []) hi hl hr post) (hsh : svSH[i]? = some (0, 8)) (hrest : (st.map fun v => v.category).sum ≤ 8) (hR : sv_rooms R rm mX8_readTown cs sl 0 0) (d : decode cc pc = .ok (.invokevirtual 134, 3)) (kk : ∀ (a : svH) (b : svL) (c : svR), post a b c → svJ l G R (RX8, cc, nL, ret, nm) F cs sl (pc + 3) ls st svSH a b c) : svJ l G R (RX8, cc, nL, ret, nm) F cs sl pc ls (sv_rf G.1 i :: st) svSH hi hl hr :=
  J_callV (M := (RX8, cc, nL, ret, nm)) (As := []) (n := 0) hsh rfl T calX8_readTown wmX8_134 (sv_in 834 (by decide +kernel) (by decide +kernel)) (sv_in 33 (by decide +kernel) (by decide +kernel)) rfl rfl hrest hR d (fun v sh' a b c h => by
    obtain ⟨rfl, rfl, hp⟩ := h
    exact kk a b c hp)
theorem wmX8_137 : Cond.methodLink RX8 137 yX8_readTrain ∈ sv_tbl := (sv_in 840 (by decide +kernel) (by decide +kernel))
theorem caX8_137 {i : Nat} {rm : Room} {post : svH → svL → svR → Prop} (T : svV l G yX8_readTrain mX8_readTrain rm (sv_rf G.1 i :: []) hi hl hr post) (hsh : svSH[i]? = some (0, 8)) (hrest : (st.map fun v => v.category).sum ≤ 8) (hR : sv_rooms R rm mX8_readTrain cs sl 0 0) (d : decode cc pc = .ok (.invokevirtual 137, 3)) (kk : ∀ (a : svH) (b : svL) (c : svR), post a b c → svJ l G R (RX8, cc, nL, ret, nm) F cs sl (pc + 3) ls st svSH a b c) : svJ l G R (RX8, cc, nL, ret, nm) F cs sl pc ls (sv_rf G.1 i :: st) svSH hi hl hr :=
  J_callV (M := (RX8, cc, nL, ret, nm)) (As := []) (n := 0) hsh rfl T calX8_readTrain wmX8_137 (sv_in 842 (by decide +kernel) (by decide +kernel)) (sv_in 35 (by decide +kernel) (by decide +kernel)) rfl rfl hrest hR d (fun v sh' a b c h => by
    obtain ⟨rfl, rfl, hp⟩ := h
    exact kk a b c hp)
theorem wmX8_140 : Cond.methodLink RX8 140 yX8_readGroup ∈ sv_tbl := (sv_in 844 (by decide +kernel) (by decide +kernel))
theorem caX8_140 {i : Nat} {rm : Room} {post : svH → svL → svR → Prop} (T : svV l G yX8_readGroup mX8_readGroup rm (sv_rf G.1 i :: []) hi hl hr post) (hsh : svSH[i]? = some (0, 8)) (hrest : (st.map fun v => v.category).sum ≤ 8) (hR : sv_rooms R rm mX8_readGroup cs sl 0 0) (d : decode cc pc = .ok (.invokevirtual 140, 3)) (kk : ∀ (a : svH) (b : svL) (c : svR), post a b c → svJ l G R (RX8, cc, nL, ret, nm) F cs sl (pc + 3) ls st svSH a b c) : svJ l G R (RX8, cc, nL, ret, nm) F cs sl pc ls (sv_rf G.1 i :: st) svSH hi hl hr :=
  J_callV (M := (RX8, cc, nL, ret, nm)) (As := []) (n := 0) hsh rfl T calX8_readGroup wmX8_140 (sv_in 846 (by decide +kernel) (by decide +kernel)) (sv_in 36 (by decide +kernel) (by decide +kernel)) rfl rfl hrest hR d (fun v sh' a b c h => by
    obtain ⟨rfl, rfl, hp⟩ := h
    exact kk a b c hp)
theorem wmX8_143 : Cond.methodLink RX8 143 yX8_mayBegin ∈ sv_tbl := (sv_in 824 (by decide +kernel) (by decide +kernel))
theorem caX8_143 {i : Nat} {v0 : Value} {rm : Room} {post : Int32 → svH → svL → svR → Prop} (T : svI l G yX8_mayBegin mX8_mayBegin rm (sv_rf G.1 i :: [v0]) hi hl hr post) (hsh : svSH[i]? = some (0, 8)) (hrest : (st.map fun v => v.category).sum ≤ 8) (hR : sv_rooms R rm mX8_mayBegin cs sl 0 0) (d : decode cc pc = .ok (.invokevirtual 143, 3)) (kk : ∀ (r : Int32) (a : svH) (b : svL) (c : svR), post r a b c → svJ l G R (RX8, cc, nL, ret, nm) F cs sl (pc + 3) ls (.int r :: st) svSH a b c) : svJ l G R (RX8, cc, nL, ret, nm) F cs sl pc ls (v0 :: sv_rf G.1 i :: st) svSH hi hl hr :=
  J_callV (M := (RX8, cc, nL, ret, nm)) (As := [v0]) (n := 1) hsh rfl T calX8_mayBegin wmX8_143 (sv_in 826 (by decide +kernel) (by decide +kernel)) (sv_in 31 (by decide +kernel) (by decide +kernel)) rfl rfl hrest hR d (fun v sh' a b c h => by
    obtain ⟨r, rfl, rfl, hp⟩ := h
    exact kk r a b c hp)
theorem wmX8_146 : Cond.methodLink RX8 146 yX8_readBody ∈ sv_tbl := (sv_in 828 (by decide +kernel) (by decide +kernel))
theorem caX8_146 {i : Nat} {v0 : Value} {rm : Room} {post : svH → svL → svR → Prop} (T : svV l G yX8_readBody mX8_readBody rm (sv_rf G.1 i :: [v0]) hi hl hr post) (hsh : svSH[i]? = some (0, 8)) (hrest : (st.map fun v => v.category).sum ≤ 8) (hR : sv_rooms R rm mX8_readBody cs sl 0 0) (d : decode cc pc = .ok (.invokevirtual 146, 3)) (kk : ∀ (a : svH) (b : svL) (c : svR), post a b c → svJ l G R (RX8, cc, nL, ret, nm) F cs sl (pc + 3) ls st svSH a b c) : svJ l G R (RX8, cc, nL, ret, nm) F cs sl pc ls (v0 :: sv_rf G.1 i :: st) svSH hi hl hr :=
  J_callV (M := (RX8, cc, nL, ret, nm)) (As := [v0]) (n := 1) hsh rfl T calX8_readBody wmX8_146 (sv_in 830 (by decide +kernel) (by decide +kernel)) (sv_in 32 (by decide +kernel) (by decide +kernel)) rfl rfl hrest hR d (fun v sh' a b c h => by
    obtain ⟨rfl, rfl, hp⟩ := h
    exact kk a b c hp)
theorem wmX8_150 : Cond.methodLink RX8 150 yX8_readItem ∈ sv_tbl := (sv_in 820 (by decide +kernel) (by decide +kernel))
theorem caX8_150 {i : Nat} {rm : Room} {post : svH → svL → svR → Prop} (T : svV l G yX8_readItem mX8_readItem rm (sv_rf G.1 i :: []) hi hl hr post) (hsh : svSH[i]? = some (0, 8)) (hrest : (st.map fun v => v.category).sum ≤ 8) (hR : sv_rooms R rm mX8_readItem cs sl 0 0) (d : decode cc pc = .ok (.invokevirtual 150, 3)) (kk : ∀ (a : svH) (b : svL) (c : svR), post a b c → svJ l G R (RX8, cc, nL, ret, nm) F cs sl (pc + 3) ls st svSH a b c) : svJ l G R (RX8, cc, nL, ret, nm) F cs sl pc ls (sv_rf G.1 i :: st) svSH hi hl hr :=
  J_callV (M := (RX8, cc, nL, ret, nm)) (As := []) (n := 0) hsh rfl T calX8_readItem wmX8_150 (sv_in 822 (by decide +kernel) (by decide +kernel)) (sv_in 30 (by decide +kernel) (by decide +kernel)) rfl rfl hrest hR d (fun v sh' a b c h => by
    obtain ⟨rfl, rfl, hp⟩ := h
    exact kk a b c hp)
theorem wmX8_153 : Cond.methodLink RX8 153 yX8_settles ∈ sv_tbl := (sv_in 848 (by decide +kernel) (by decide +kernel))
theorem caX8_153 {i : Nat} {rm : Room} {post : svH → svL → svR → Prop} (T : svV l G yX8_settles mX8_settles rm (sv_rf G.1 i :: []) hi hl hr post) (hsh : svSH[i]? = some (0, 8)) (hrest : (st.map fun v => v.category).sum ≤ 8) (hR : sv_rooms R rm mX8_settles cs sl 0 0) (d : decode cc pc = .ok (.invokevirtual 153, 3)) (kk : ∀ (a : svH) (b : svL) (c : svR), post a b c → svJ l G R (RX8, cc, nL, ret, nm) F cs sl (pc + 3) ls st svSH a b c) : svJ l G R (RX8, cc, nL, ret, nm) F cs sl pc ls (sv_rf G.1 i :: st) svSH hi hl hr :=
  J_callV (M := (RX8, cc, nL, ret, nm)) (As := []) (n := 0) hsh rfl T calX8_settles wmX8_153 (sv_in 850 (by decide +kernel) (by decide +kernel)) (sv_in 37 (by decide +kernel) (by decide +kernel)) rfl rfl hrest hR d (fun v sh' a b c h => by
    obtain ⟨rfl, rfl, hp⟩ := h
    exact kk a b c hp)
theorem wmX8_163 : Cond.methodLink RX8 163 yX8_isStopped ∈ sv_tbl := (sv_in 860 (by decide +kernel) (by decide +kernel))
theorem caX8_163 {i : Nat} {v0 : Value} {rm : Room} {post : Int32 → svH → svL → svR → Prop} (T : svI l G yX8_isStopped mX8_isStopped rm (sv_rf G.1 i :: [v0]) hi hl hr post) (hsh : svSH[i]? = some (0, 8)) (hrest : (st.map fun v => v.category).sum ≤ 8) (hR : sv_rooms R rm mX8_isStopped cs sl 0 0) (d : decode cc pc = .ok (.invokevirtual 163, 3)) (kk : ∀ (r : Int32) (a : svH) (b : svL) (c : svR), post r a b c → svJ l G R (RX8, cc, nL, ret, nm) F cs sl (pc + 3) ls (.int r :: st) svSH a b c) : svJ l G R (RX8, cc, nL, ret, nm) F cs sl pc ls (v0 :: sv_rf G.1 i :: st) svSH hi hl hr :=
  J_callV (M := (RX8, cc, nL, ret, nm)) (As := [v0]) (n := 1) hsh rfl T calX8_isStopped wmX8_163 (sv_in 862 (by decide +kernel) (by decide +kernel)) (sv_in 39 (by decide +kernel) (by decide +kernel)) rfl rfl hrest hR d (fun v sh' a b c h => by
    obtain ⟨r, rfl, rfl, hp⟩ := h
    exact kk r a b c hp)
theorem wmX8_166 : Cond.methodLink RX8 166 yX8_lowestOf ∈ sv_tbl := (sv_in 942 (by decide +kernel) (by decide +kernel))
theorem caX8_166 {i : Nat} {v0 : Value} {rm : Room} {post : Int32 → svH → svL → svR → Prop} (T : svI l G yX8_lowestOf mX8_lowestOf rm (sv_rf G.1 i :: [v0]) hi hl hr post) (hsh : svSH[i]? = some (0, 8)) (hrest : (st.map fun v => v.category).sum ≤ 8) (hR : sv_rooms R rm mX8_lowestOf cs sl 0 0) (d : decode cc pc = .ok (.invokevirtual 166, 3)) (kk : ∀ (r : Int32) (a : svH) (b : svL) (c : svR), post r a b c → svJ l G R (RX8, cc, nL, ret, nm) F cs sl (pc + 3) ls (.int r :: st) svSH a b c) : svJ l G R (RX8, cc, nL, ret, nm) F cs sl pc ls (v0 :: sv_rf G.1 i :: st) svSH hi hl hr :=
  J_callV (M := (RX8, cc, nL, ret, nm)) (As := [v0]) (n := 1) hsh rfl T calX8_lowestOf wmX8_166 (sv_in 944 (by decide +kernel) (by decide +kernel)) (sv_in 49 (by decide +kernel) (by decide +kernel)) rfl rfl hrest hR d (fun v sh' a b c h => by
    obtain ⟨r, rfl, rfl, hp⟩ := h
    exact kk r a b c hp)
theorem wmX8_169 : Cond.methodLink RX8 169 yX8_tries ∈ sv_tbl := (sv_in 887 (by decide +kernel) (by decide +kernel))
theorem caX8_169 {i : Nat} {v0 v1 v2 : Value} {rm : Room} {post : svH → svL → svR → Prop} (T : svV l G yX8_tries mX8_tries rm (sv_rf G.1 i :: [v0, v1, v2]) hi hl hr post) (hsh : svSH[i]? = some (0, 8)) (hrest : (st.map fun v => v.category).sum ≤ 8) (hR : sv_rooms R rm mX8_tries cs sl 0 0) (d : decode cc pc = .ok (.invokevirtual 169, 3)) (kk : ∀ (a : svH) (b : svL) (c : svR), post a b c → svJ l G R (RX8, cc, nL, ret, nm) F cs sl (pc + 3) ls st svSH a b c) : svJ l G R (RX8, cc, nL, ret, nm) F cs sl pc ls (v2 :: v1 :: v0 :: sv_rf G.1 i :: st) svSH hi hl hr :=
  J_callV (M := (RX8, cc, nL, ret, nm)) (As := [v0, v1, v2]) (n := 3) hsh rfl T calX8_tries wmX8_169 (sv_in 889 (by decide +kernel) (by decide +kernel)) (sv_in 43 (by decide +kernel) (by decide +kernel)) rfl rfl hrest hR d (fun v sh' a b c h => by
    obtain ⟨rfl, rfl, hp⟩ := h
    exact kk a b c hp)
theorem wmX8_173 : Cond.methodLink RX8 173 yX8_whoIsLeft ∈ sv_tbl := (sv_in 930 (by decide +kernel) (by decide +kernel))
theorem caX8_173 {i : Nat} {v0 : Value} {rm : Room} {post : Int32 → svH → svL → svR → Prop} (T : svI l G yX8_whoIsLeft mX8_whoIsLeft rm (sv_rf G.1 i :: [v0]) hi hl hr post) (hsh : svSH[i]? = some (0, 8)) (hrest : (st.map fun v => v.category).sum ≤ 8) (hR : sv_rooms R rm mX8_whoIsLeft cs sl 0 0) (d : decode cc pc = .ok (.invokevirtual 173, 3)) (kk : ∀ (r : Int32) (a : svH) (b : svL) (c : svR), post r a b c → svJ l G R (RX8, cc, nL, ret, nm) F cs sl (pc + 3) ls (.int r :: st) svSH a b c) : svJ l G R (RX8, cc, nL, ret, nm) F cs sl pc ls (v0 :: sv_rf G.1 i :: st) svSH hi hl hr :=
  J_callV (M := (RX8, cc, nL, ret, nm)) (As := [v0]) (n := 1) hsh rfl T calX8_whoIsLeft wmX8_173 (sv_in 932 (by decide +kernel) (by decide +kernel)) (sv_in 46 (by decide +kernel) (by decide +kernel)) rfl rfl hrest hR d (fun v sh' a b c h => by
    obtain ⟨r, rfl, rfl, hp⟩ := h
    exact kk r a b c hp)
theorem wmX8_176 : Cond.methodLink RX8 176 yX8_winnerOf ∈ sv_tbl := (sv_in 938 (by decide +kernel) (by decide +kernel))
theorem caX8_176 {i : Nat} {v0 : Value} {rm : Room} {post : Int32 → svH → svL → svR → Prop} (T : svI l G yX8_winnerOf mX8_winnerOf rm (sv_rf G.1 i :: [v0]) hi hl hr post) (hsh : svSH[i]? = some (0, 8)) (hrest : (st.map fun v => v.category).sum ≤ 8) (hR : sv_rooms R rm mX8_winnerOf cs sl 0 0) (d : decode cc pc = .ok (.invokevirtual 176, 3)) (kk : ∀ (r : Int32) (a : svH) (b : svL) (c : svR), post r a b c → svJ l G R (RX8, cc, nL, ret, nm) F cs sl (pc + 3) ls (.int r :: st) svSH a b c) : svJ l G R (RX8, cc, nL, ret, nm) F cs sl pc ls (v0 :: sv_rf G.1 i :: st) svSH hi hl hr :=
  J_callV (M := (RX8, cc, nL, ret, nm)) (As := [v0]) (n := 1) hsh rfl T calX8_winnerOf wmX8_176 (sv_in 940 (by decide +kernel) (by decide +kernel)) (sv_in 48 (by decide +kernel) (by decide +kernel)) rfl rfl hrest hR d (fun v sh' a b c h => by
    obtain ⟨r, rfl, rfl, hp⟩ := h
    exact kk r a b c hp)
theorem wmX8_179 : Cond.methodLink RX8 179 yX8_isTrain ∈ sv_tbl := (sv_in 856 (by decide +kernel) (by decide +kernel))
theorem caX8_179 {i : Nat} {v0 : Value} {rm : Room} {post : Int32 → svH → svL → svR → Prop} (T : svI l G yX8_isTrain mX8_isTrain rm (sv_rf G.1 i :: [v0]) hi hl hr post) (hsh : svSH[i]? = some (0, 8)) (hrest : (st.map fun v => v.category).sum ≤ 8) (hR : sv_rooms R rm mX8_isTrain cs sl 0 0) (d : decode cc pc = .ok (.invokevirtual 179, 3)) (kk : ∀ (r : Int32) (a : svH) (b : svL) (c : svR), post r a b c → svJ l G R (RX8, cc, nL, ret, nm) F cs sl (pc + 3) ls (.int r :: st) svSH a b c) : svJ l G R (RX8, cc, nL, ret, nm) F cs sl pc ls (v0 :: sv_rf G.1 i :: st) svSH hi hl hr :=
  J_callV (M := (RX8, cc, nL, ret, nm)) (As := [v0]) (n := 1) hsh rfl T calX8_isTrain wmX8_179 (sv_in 858 (by decide +kernel) (by decide +kernel)) (sv_in 38 (by decide +kernel) (by decide +kernel)) rfl rfl hrest hR d (fun v sh' a b c h => by
    obtain ⟨r, rfl, rfl, hp⟩ := h
    exact kk r a b c hp)
theorem wmX8_182 : Cond.methodLink RX8 182 yX8_isGroup ∈ sv_tbl := (sv_in 871 (by decide +kernel) (by decide +kernel))
theorem caX8_182 {i : Nat} {v0 : Value} {rm : Room} {post : Int32 → svH → svL → svR → Prop} (T : svI l G yX8_isGroup mX8_isGroup rm (sv_rf G.1 i :: [v0]) hi hl hr post) (hsh : svSH[i]? = some (0, 8)) (hrest : (st.map fun v => v.category).sum ≤ 8) (hR : sv_rooms R rm mX8_isGroup cs sl 0 0) (d : decode cc pc = .ok (.invokevirtual 182, 3)) (kk : ∀ (r : Int32) (a : svH) (b : svL) (c : svR), post r a b c → svJ l G R (RX8, cc, nL, ret, nm) F cs sl (pc + 3) ls (.int r :: st) svSH a b c) : svJ l G R (RX8, cc, nL, ret, nm) F cs sl pc ls (v0 :: sv_rf G.1 i :: st) svSH hi hl hr :=
  J_callV (M := (RX8, cc, nL, ret, nm)) (As := [v0]) (n := 1) hsh rfl T calX8_isGroup wmX8_182 (sv_in 873 (by decide +kernel) (by decide +kernel)) (sv_in 40 (by decide +kernel) (by decide +kernel)) rfl rfl hrest hR d (fun v sh' a b c h => by
    obtain ⟨r, rfl, rfl, hp⟩ := h
    exact kk r a b c hp)
theorem wmX8_185 : Cond.methodLink RX8 185 yX8_isOne ∈ sv_tbl := (sv_in 879 (by decide +kernel) (by decide +kernel))
theorem caX8_185 {i : Nat} {v0 : Value} {rm : Room} {post : Int32 → svH → svL → svR → Prop} (T : svI l G yX8_isOne mX8_isOne rm (sv_rf G.1 i :: [v0]) hi hl hr post) (hsh : svSH[i]? = some (0, 8)) (hrest : (st.map fun v => v.category).sum ≤ 8) (hR : sv_rooms R rm mX8_isOne cs sl 0 0) (d : decode cc pc = .ok (.invokevirtual 185, 3)) (kk : ∀ (r : Int32) (a : svH) (b : svL) (c : svR), post r a b c → svJ l G R (RX8, cc, nL, ret, nm) F cs sl (pc + 3) ls (.int r :: st) svSH a b c) : svJ l G R (RX8, cc, nL, ret, nm) F cs sl pc ls (v0 :: sv_rf G.1 i :: st) svSH hi hl hr :=
  J_callV (M := (RX8, cc, nL, ret, nm)) (As := [v0]) (n := 1) hsh rfl T calX8_isOne wmX8_185 (sv_in 881 (by decide +kernel) (by decide +kernel)) (sv_in 41 (by decide +kernel) (by decide +kernel)) rfl rfl hrest hR d (fun v sh' a b c h => by
    obtain ⟨r, rfl, rfl, hp⟩ := h
    exact kk r a b c hp)
theorem wmX8_188 : Cond.methodLink RX8 188 yX8_toCome ∈ sv_tbl := (sv_in 883 (by decide +kernel) (by decide +kernel))
theorem caX8_188 {i : Nat} {rm : Room} {post : Int32 → svH → svL → svR → Prop} (T : svI l G yX8_toCome mX8_toCome rm (sv_rf G.1 i :: []) hi hl hr post) (hsh : svSH[i]? = some (0, 8)) (hrest : (st.map fun v => v.category).sum ≤ 8) (hR : sv_rooms R rm mX8_toCome cs sl 0 0) (d : decode cc pc = .ok (.invokevirtual 188, 3)) (kk : ∀ (r : Int32) (a : svH) (b : svL) (c : svR), post r a b c → svJ l G R (RX8, cc, nL, ret, nm) F cs sl (pc + 3) ls (.int r :: st) svSH a b c) : svJ l G R (RX8, cc, nL, ret, nm) F cs sl pc ls (sv_rf G.1 i :: st) svSH hi hl hr :=
  J_callV (M := (RX8, cc, nL, ret, nm)) (As := []) (n := 0) hsh rfl T calX8_toCome wmX8_188 (sv_in 885 (by decide +kernel) (by decide +kernel)) (sv_in 42 (by decide +kernel) (by decide +kernel)) rfl rfl hrest hR d (fun v sh' a b c h => by
    obtain ⟨r, rfl, rfl, hp⟩ := h
    exact kk r a b c hp)
theorem wmX8_192 : Cond.methodLink RX8 192 yX8_remembers ∈ sv_tbl := (sv_in 895 (by decide +kernel) (by decide +kernel))
theorem caX8_192 {i : Nat} {rm : Room} {post : svH → svL → svR → Prop} (T : svV l G yX8_remembers mX8_remembers rm (sv_rf G.1 i :: []) hi hl hr post) (hsh : svSH[i]? = some (0, 8)) (hrest : (st.map fun v => v.category).sum ≤ 8) (hR : sv_rooms R rm mX8_remembers cs sl 0 0) (d : decode cc pc = .ok (.invokevirtual 192, 3)) (kk : ∀ (a : svH) (b : svL) (c : svR), post a b c → svJ l G R (RX8, cc, nL, ret, nm) F cs sl (pc + 3) ls st svSH a b c) : svJ l G R (RX8, cc, nL, ret, nm) F cs sl pc ls (sv_rf G.1 i :: st) svSH hi hl hr :=
  J_callV (M := (RX8, cc, nL, ret, nm)) (As := []) (n := 0) hsh rfl T calX8_remembers wmX8_192 (sv_in 897 (by decide +kernel) (by decide +kernel)) (sv_in 44 (by decide +kernel) (by decide +kernel)) rfl rfl hrest hR d (fun v sh' a b c h => by
    obtain ⟨rfl, rfl, hp⟩ := h
    exact kk a b c hp)
theorem wmX8_198 : Cond.methodLink RX8 198 yX8_leftBy ∈ sv_tbl := (sv_in 926 (by decide +kernel) (by decide +kernel))
theorem caX8_198 {i : Nat} {v0 : Value} {rm : Room} {post : Int32 → svH → svL → svR → Prop} (T : svI l G yX8_leftBy mX8_leftBy rm (sv_rf G.1 i :: [v0]) hi hl hr post) (hsh : svSH[i]? = some (0, 8)) (hrest : (st.map fun v => v.category).sum ≤ 8) (hR : sv_rooms R rm mX8_leftBy cs sl 0 0) (d : decode cc pc = .ok (.invokevirtual 198, 3)) (kk : ∀ (r : Int32) (a : svH) (b : svL) (c : svR), post r a b c → svJ l G R (RX8, cc, nL, ret, nm) F cs sl (pc + 3) ls (.int r :: st) svSH a b c) : svJ l G R (RX8, cc, nL, ret, nm) F cs sl pc ls (v0 :: sv_rf G.1 i :: st) svSH hi hl hr :=
  J_callV (M := (RX8, cc, nL, ret, nm)) (As := [v0]) (n := 1) hsh rfl T calX8_leftBy wmX8_198 (sv_in 928 (by decide +kernel) (by decide +kernel)) (sv_in 45 (by decide +kernel) (by decide +kernel)) rfl rfl hrest hR d (fun v sh' a b c h => by
    obtain ⟨r, rfl, rfl, hp⟩ := h
    exact kk r a b c hp)
theorem wmX8_201 : Cond.methodLink RX8 201 yX8_winnerBy ∈ sv_tbl := (sv_in 934 (by decide +kernel) (by decide +kernel))
theorem caX8_201 {i : Nat} {v0 : Value} {rm : Room} {post : Int32 → svH → svL → svR → Prop} (T : svI l G yX8_winnerBy mX8_winnerBy rm (sv_rf G.1 i :: [v0]) hi hl hr post) (hsh : svSH[i]? = some (0, 8)) (hrest : (st.map fun v => v.category).sum ≤ 8) (hR : sv_rooms R rm mX8_winnerBy cs sl 0 0) (d : decode cc pc = .ok (.invokevirtual 201, 3)) (kk : ∀ (r : Int32) (a : svH) (b : svL) (c : svR), post r a b c → svJ l G R (RX8, cc, nL, ret, nm) F cs sl (pc + 3) ls (.int r :: st) svSH a b c) : svJ l G R (RX8, cc, nL, ret, nm) F cs sl pc ls (v0 :: sv_rf G.1 i :: st) svSH hi hl hr :=
  J_callV (M := (RX8, cc, nL, ret, nm)) (As := [v0]) (n := 1) hsh rfl T calX8_winnerBy wmX8_201 (sv_in 936 (by decide +kernel) (by decide +kernel)) (sv_in 47 (by decide +kernel) (by decide +kernel)) rfl rfl hrest hR d (fun v sh' a b c h => by
    obtain ⟨r, rfl, rfl, hp⟩ := h
    exact kk r a b c hp)
theorem wmX8_214 : Cond.methodLink RX8 214 yX8_isSo ∈ sv_tbl := (sv_in 980 (by decide +kernel) (by decide +kernel))
theorem caX8_214 {i : Nat} {v0 : Value} {rm : Room} {post : Int32 → svH → svL → svR → Prop} (T : svI l G yX8_isSo mX8_isSo rm (sv_rf G.1 i :: [v0]) hi hl hr post) (hsh : svSH[i]? = some (0, 8)) (hrest : (st.map fun v => v.category).sum ≤ 8) (hR : sv_rooms R rm mX8_isSo cs sl 0 0) (d : decode cc pc = .ok (.invokevirtual 214, 3)) (kk : ∀ (r : Int32) (a : svH) (b : svL) (c : svR), post r a b c → svJ l G R (RX8, cc, nL, ret, nm) F cs sl (pc + 3) ls (.int r :: st) svSH a b c) : svJ l G R (RX8, cc, nL, ret, nm) F cs sl pc ls (v0 :: sv_rf G.1 i :: st) svSH hi hl hr :=
  J_callV (M := (RX8, cc, nL, ret, nm)) (As := [v0]) (n := 1) hsh rfl T calX8_isSo wmX8_214 (sv_in 982 (by decide +kernel) (by decide +kernel)) (sv_in 50 (by decide +kernel) (by decide +kernel)) rfl rfl hrest hR d (fun v sh' a b c h => by
    obtain ⟨r, rfl, rfl, hp⟩ := h
    exact kk r a b c hp)
theorem wmX8_217 : Cond.methodLink RX8 217 yX8_likings ∈ sv_tbl := (sv_in 991 (by decide +kernel) (by decide +kernel))
theorem caX8_217 {i : Nat} {v0 : Value} {rm : Room} {post : Int32 → svH → svL → svR → Prop} (T : svI l G yX8_likings mX8_likings rm (sv_rf G.1 i :: [v0]) hi hl hr post) (hsh : svSH[i]? = some (0, 8)) (hrest : (st.map fun v => v.category).sum ≤ 8) (hR : sv_rooms R rm mX8_likings cs sl 0 0) (d : decode cc pc = .ok (.invokevirtual 217, 3)) (kk : ∀ (r : Int32) (a : svH) (b : svL) (c : svR), post r a b c → svJ l G R (RX8, cc, nL, ret, nm) F cs sl (pc + 3) ls (.int r :: st) svSH a b c) : svJ l G R (RX8, cc, nL, ret, nm) F cs sl pc ls (v0 :: sv_rf G.1 i :: st) svSH hi hl hr :=
  J_callV (M := (RX8, cc, nL, ret, nm)) (As := [v0]) (n := 1) hsh rfl T calX8_likings wmX8_217 (sv_in 977 (by decide +kernel) (by decide +kernel)) (sv_in 978 (by decide +kernel) (by decide +kernel)) rfl rfl hrest hR d (fun v sh' a b c h => by
    obtain ⟨r, rfl, rfl, hp⟩ := h
    exact kk r a b c hp)
theorem wmX8_221 : Cond.methodLink RX8 221 yX8_likedBy ∈ sv_tbl := (sv_in 997 (by decide +kernel) (by decide +kernel))
theorem caX8_221 {i : Nat} {v0 : Value} {rm : Room} {post : Int32 → svH → svL → svR → Prop} (T : svI l G yX8_likedBy mX8_likedBy rm (sv_rf G.1 i :: [v0]) hi hl hr post) (hsh : svSH[i]? = some (0, 8)) (hrest : (st.map fun v => v.category).sum ≤ 8) (hR : sv_rooms R rm mX8_likedBy cs sl 0 0) (d : decode cc pc = .ok (.invokevirtual 221, 3)) (kk : ∀ (r : Int32) (a : svH) (b : svL) (c : svR), post r a b c → svJ l G R (RX8, cc, nL, ret, nm) F cs sl (pc + 3) ls (.int r :: st) svSH a b c) : svJ l G R (RX8, cc, nL, ret, nm) F cs sl pc ls (v0 :: sv_rf G.1 i :: st) svSH hi hl hr :=
  J_callV (M := (RX8, cc, nL, ret, nm)) (As := [v0]) (n := 1) hsh rfl T calX8_likedBy wmX8_221 (sv_in 999 (by decide +kernel) (by decide +kernel)) (sv_in 51 (by decide +kernel) (by decide +kernel)) rfl rfl hrest hR d (fun v sh' a b c h => by
    obtain ⟨r, rfl, rfl, hp⟩ := h
    exact kk r a b c hp)
theorem wmX8_224 : Cond.methodLink RX8 224 yX8_firstOf ∈ sv_tbl := (sv_in 1001 (by decide +kernel) (by decide +kernel))
theorem caX8_224 {i : Nat} {v0 : Value} {rm : Room} {post : Int32 → svH → svL → svR → Prop} (T : svI l G yX8_firstOf mX8_firstOf rm (sv_rf G.1 i :: [v0]) hi hl hr post) (hsh : svSH[i]? = some (0, 8)) (hrest : (st.map fun v => v.category).sum ≤ 8) (hR : sv_rooms R rm mX8_firstOf cs sl 0 0) (d : decode cc pc = .ok (.invokevirtual 224, 3)) (kk : ∀ (r : Int32) (a : svH) (b : svL) (c : svR), post r a b c → svJ l G R (RX8, cc, nL, ret, nm) F cs sl (pc + 3) ls (.int r :: st) svSH a b c) : svJ l G R (RX8, cc, nL, ret, nm) F cs sl pc ls (v0 :: sv_rf G.1 i :: st) svSH hi hl hr :=
  J_callV (M := (RX8, cc, nL, ret, nm)) (As := [v0]) (n := 1) hsh rfl T calX8_firstOf wmX8_224 (sv_in 1003 (by decide +kernel) (by decide +kernel)) (sv_in 52 (by decide +kernel) (by decide +kernel)) rfl rfl hrest hR d (fun v sh' a b c h => by
    obtain ⟨r, rfl, rfl, hp⟩ := h
    exact kk r a b c hp)
theorem wmX8_85 : Cond.methodLink RX8 85 yX8_letterAt ∈ sv_tbl := (sv_in 810 (by decide +kernel) (by decide +kernel))
theorem caX8_85 {i : Nat} {v0 : Value} {rm : Room} {post : Int32 → svH → svL → svR → Prop} (T : svI l G yX8_letterAt mX8_letterAt rm (sv_rf G.1 i :: [v0]) hi hl hr post) (hsh : svSH[i]? = some (0, 8)) (hrest : (st.map fun v => v.category).sum ≤ 8) (hR : sv_rooms R rm mX8_letterAt cs sl 0 0) (d : decode cc pc = .ok (.invokevirtual 85, 3)) (kk : ∀ (r : Int32) (a : svH) (b : svL) (c : svR), post r a b c → svJ l G R (RX8, cc, nL, ret, nm) F cs sl (pc + 3) ls (.int r :: st) svSH a b c) : svJ l G R (RX8, cc, nL, ret, nm) F cs sl pc ls (v0 :: sv_rf G.1 i :: st) svSH hi hl hr :=
  J_callV (M := (RX8, cc, nL, ret, nm)) (As := [v0]) (n := 1) hsh rfl T calX8_letterAt wmX8_85 (sv_in 812 (by decide +kernel) (by decide +kernel)) (sv_in 29 (by decide +kernel) (by decide +kernel)) rfl rfl hrest hR d (fun v sh' a b c h => by
    obtain ⟨r, rfl, rfl, hp⟩ := h
    exact kk r a b c hp)
theorem wkX8_220 : Cond.constant RX8 220 (-1000000) ∈ lw_tbl := List.mem_of_getElem? (i := 996) (by decide +kernel)
theorem wgX8_220 : goodWord (Cond.constant RX8 220 (-1000000)) = true := by decide +kernel
theorem ldX8_220 (d : decode cc pc = .ok (.ldc 220, 2)) (kk : svJ l G R (RX8, cc, nL, ret, nm) F cs sl (pc + 2) ls (.int (-1000000) :: st) sh hi hl hr) : svJ l G R (RX8, cc, nL, ret, nm) F cs sl pc ls st sh hi hl hr :=
  J_ldc (M := (RX8, cc, nL, ret, nm)) (-1000000) wkX8_220 wgX8_220 d kk
theorem wkX8_231 : Cond.constantLong RX8 231 (11) ∈ sv_tbl := (sv_in 1005 (by decide +kernel) (by decide +kernel))
theorem ldX8_231 (d : decode cc pc = .ok (.ldc2_w 231, 3)) (kk : svJ l G R (RX8, cc, nL, ret, nm) F cs sl (pc + 3) ls (.long (11) :: st) sh hi hl hr) : svJ l G R (RX8, cc, nL, ret, nm) F cs sl pc ls st sh hi hl hr :=
  J_ldc2 (M := (RX8, cc, nL, ret, nm)) 11 wkX8_231 d kk
theorem wkX8_233 : Cond.constantLong RX8 233 (101) ∈ sv_tbl := (sv_in 1006 (by decide +kernel) (by decide +kernel))
theorem ldX8_233 (d : decode cc pc = .ok (.ldc2_w 233, 3)) (kk : svJ l G R (RX8, cc, nL, ret, nm) F cs sl (pc + 3) ls (.long (101) :: st) sh hi hl hr) : svJ l G R (RX8, cc, nL, ret, nm) F cs sl pc ls st sh hi hl hr :=
  J_ldc2 (M := (RX8, cc, nL, ret, nm)) 101 wkX8_233 d kk
theorem wkX8_235 : Cond.constantLong RX8 235 (1011) ∈ sv_tbl := (sv_in 1007 (by decide +kernel) (by decide +kernel))
theorem ldX8_235 (d : decode cc pc = .ok (.ldc2_w 235, 3)) (kk : svJ l G R (RX8, cc, nL, ret, nm) F cs sl (pc + 3) ls (.long (1011) :: st) sh hi hl hr) : svJ l G R (RX8, cc, nL, ret, nm) F cs sl pc ls st sh hi hl hr :=
  J_ldc2 (M := (RX8, cc, nL, ret, nm)) 1011 wkX8_235 d kk
theorem wkX8_237 : Cond.constantLong RX8 237 (10101) ∈ sv_tbl := (sv_in 1008 (by decide +kernel) (by decide +kernel))
theorem ldX8_237 (d : decode cc pc = .ok (.ldc2_w 237, 3)) (kk : svJ l G R (RX8, cc, nL, ret, nm) F cs sl (pc + 3) ls (.long (10101) :: st) sh hi hl hr) : svJ l G R (RX8, cc, nL, ret, nm) F cs sl pc ls st sh hi hl hr :=
  J_ldc2 (M := (RX8, cc, nL, ret, nm)) 10101 wkX8_237 d kk
theorem wkX8_239 : Cond.constantLong RX8 239 (100001) ∈ sv_tbl := (sv_in 1009 (by decide +kernel) (by decide +kernel))
theorem ldX8_239 (d : decode cc pc = .ok (.ldc2_w 239, 3)) (kk : svJ l G R (RX8, cc, nL, ret, nm) F cs sl (pc + 3) ls (.long (100001) :: st) sh hi hl hr) : svJ l G R (RX8, cc, nL, ret, nm) F cs sl pc ls st sh hi hl hr :=
  J_ldc2 (M := (RX8, cc, nL, ret, nm)) 100001 wkX8_239 d kk
theorem fpX8_105 {i : Nat} {x : Int32} (hx : x = 0 ∨ x = 1) (hsh : sh[i]? = some (0, 8)) (d : decode cc pc = .ok (.putfield 105, 3)) (kk : svJ l G R (RX8, cc, nL, ret, nm) F cs sl (pc + 3) ls st sh (sv_u2 hi i 20 x) hl hr) : svJ l G R (RX8, cc, nL, ret, nm) F cs sl pc ls (.int x :: sv_rf G.1 i :: st) sh hi hl hr :=
  J_putI (M := (RX8, cc, nL, ret, nm)) (k := 20) inX8 tyX8_ok nmX8 rfl (by decide) rfl rfl wfX8_105 rfl (by rcases hx with rfl | rfl <;> rfl) (by rcases hx with rfl | rfl <;> rfl) hsh d kk
theorem fpX8_112 {i : Nat} {x : Int32} (hsh : sh[i]? = some (0, 8)) (d : decode cc pc = .ok (.putfield 112, 3)) (kk : svJ l G R (RX8, cc, nL, ret, nm) F cs sl (pc + 3) ls st sh (sv_u2 hi i 21 x) hl hr) : svJ l G R (RX8, cc, nL, ret, nm) F cs sl pc ls (.int x :: sv_rf G.1 i :: st) sh hi hl hr :=
  J_putI (M := (RX8, cc, nL, ret, nm)) (k := 21) inX8 tyX8_ok nmX8 rfl (by decide) rfl rfl wfX8_112 rfl rfl rfl hsh d kk
theorem fpX8_115 {i : Nat} {x : Int32} (hsh : sh[i]? = some (0, 8)) (d : decode cc pc = .ok (.putfield 115, 3)) (kk : svJ l G R (RX8, cc, nL, ret, nm) F cs sl (pc + 3) ls st sh (sv_u2 hi i 25 x) hl hr) : svJ l G R (RX8, cc, nL, ret, nm) F cs sl pc ls (.int x :: sv_rf G.1 i :: st) sh hi hl hr :=
  J_putI (M := (RX8, cc, nL, ret, nm)) (k := 25) inX8 tyX8_ok nmX8 rfl (by decide) rfl rfl wfX8_115 rfl rfl rfl hsh d kk
theorem fpX8_118 {i : Nat} {x : Int32} (hsh : sh[i]? = some (0, 8)) (d : decode cc pc = .ok (.putfield 118, 3)) (kk : svJ l G R (RX8, cc, nL, ret, nm) F cs sl (pc + 3) ls st sh (sv_u2 hi i 29 x) hl hr) : svJ l G R (RX8, cc, nL, ret, nm) F cs sl pc ls (.int x :: sv_rf G.1 i :: st) sh hi hl hr :=
  J_putI (M := (RX8, cc, nL, ret, nm)) (k := 29) inX8 tyX8_ok nmX8 rfl (by decide) rfl rfl wfX8_118 rfl rfl rfl hsh d kk
theorem fpX8_125 {i : Nat} {x : Int32} (hsh : sh[i]? = some (0, 8)) (d : decode cc pc = .ok (.putfield 125, 3)) (kk : svJ l G R (RX8, cc, nL, ret, nm) F cs sl (pc + 3) ls st sh (sv_u2 hi i 22 x) hl hr) : svJ l G R (RX8, cc, nL, ret, nm) F cs sl pc ls (.int x :: sv_rf G.1 i :: st) sh hi hl hr :=
  J_putI (M := (RX8, cc, nL, ret, nm)) (k := 22) inX8 tyX8_ok nmX8 rfl (by decide) rfl rfl wfX8_125 rfl rfl rfl hsh d kk
theorem fpX8_128 {i : Nat} {x : Int32} (hsh : sh[i]? = some (0, 8)) (d : decode cc pc = .ok (.putfield 128, 3)) (kk : svJ l G R (RX8, cc, nL, ret, nm) F cs sl (pc + 3) ls st sh (sv_u2 hi i 23 x) hl hr) : svJ l G R (RX8, cc, nL, ret, nm) F cs sl pc ls (.int x :: sv_rf G.1 i :: st) sh hi hl hr :=
  J_putI (M := (RX8, cc, nL, ret, nm)) (k := 23) inX8 tyX8_ok nmX8 rfl (by decide) rfl rfl wfX8_128 rfl rfl rfl hsh d kk
theorem fpX8_13 {i : Nat} {x : Int32} (hsh : sh[i]? = some (0, 8)) (d : decode cc pc = .ok (.putfield 13, 3)) (kk : svJ l G R (RX8, cc, nL, ret, nm) F cs sl (pc + 3) ls st sh (sv_u2 hi i 1 x) hl hr) : svJ l G R (RX8, cc, nL, ret, nm) F cs sl pc ls (.int x :: sv_rf G.1 i :: st) sh hi hl hr :=
  J_putI (M := (RX8, cc, nL, ret, nm)) (k := 1) inX8 tyX8_ok nmX8 rfl (by decide) rfl rfl wfX8_13 rfl rfl rfl hsh d kk
theorem fpX8_131 {i : Nat} {x : Int32} (hsh : sh[i]? = some (0, 8)) (d : decode cc pc = .ok (.putfield 131, 3)) (kk : svJ l G R (RX8, cc, nL, ret, nm) F cs sl (pc + 3) ls st sh (sv_u2 hi i 24 x) hl hr) : svJ l G R (RX8, cc, nL, ret, nm) F cs sl pc ls (.int x :: sv_rf G.1 i :: st) sh hi hl hr :=
  J_putI (M := (RX8, cc, nL, ret, nm)) (k := 24) inX8 tyX8_ok nmX8 rfl (by decide) rfl rfl wfX8_131 rfl rfl rfl hsh d kk
theorem fpX8_156 {i : Nat} {x : Int32} (hsh : sh[i]? = some (0, 8)) (d : decode cc pc = .ok (.putfield 156, 3)) (kk : svJ l G R (RX8, cc, nL, ret, nm) F cs sl (pc + 3) ls st sh (sv_u2 hi i 11 x) hl hr) : svJ l G R (RX8, cc, nL, ret, nm) F cs sl pc ls (.int x :: sv_rf G.1 i :: st) sh hi hl hr :=
  J_putI (M := (RX8, cc, nL, ret, nm)) (k := 11) inX8 tyX8_ok nmX8 rfl (by decide) rfl rfl wfX8_156 rfl rfl rfl hsh d kk
theorem fpX8_16 {i x : Nat} (hnm : nm = "<init>") (hsh : sh[i]? = some (0, 8)) (d : decode cc pc = .ok (.putfield 16, 3)) (kk : svJ l G R (RX8, cc, nL, ret, nm) F cs sl (pc + 3) ls st sh hi hl (sv_u2 hr i 3 (some x))) : svJ l G R (RX8, cc, nL, ret, nm) F cs sl pc ls (sv_rf G.1 x :: sv_rf G.1 i :: st) sh hi hl hr :=
  J_putRF (M := (RX8, cc, nL, ret, nm)) (k := 3) inX8 tyX8_ok nmX8 rfl (by decide) rfl rfl wfX8_16 rfl hnm rfl rfl rfl hsh d kk
theorem fpX8_20 {i x : Nat} (hnm : nm = "<init>") (hsh : sh[i]? = some (0, 8)) (d : decode cc pc = .ok (.putfield 20, 3)) (kk : svJ l G R (RX8, cc, nL, ret, nm) F cs sl (pc + 3) ls st sh hi hl (sv_u2 hr i 5 (some x))) : svJ l G R (RX8, cc, nL, ret, nm) F cs sl pc ls (sv_rf G.1 x :: sv_rf G.1 i :: st) sh hi hl hr :=
  J_putRF (M := (RX8, cc, nL, ret, nm)) (k := 5) inX8 tyX8_ok nmX8 rfl (by decide) rfl rfl wfX8_20 rfl hnm rfl rfl rfl hsh d kk
theorem fpX8_227 {i : Nat} {x : Int64} (hsh : sh[i]? = some (0, 8)) (d : decode cc pc = .ok (.putfield 227, 3)) (kk : svJ l G R (RX8, cc, nL, ret, nm) F cs sl (pc + 3) ls st sh hi (sv_u2 hl i 13 x) hr) : svJ l G R (RX8, cc, nL, ret, nm) F cs sl pc ls (.long x :: sv_rf G.1 i :: st) sh hi hl hr :=
  J_putL (M := (RX8, cc, nL, ret, nm)) (k := 13) inX8 tyX8_ok nmX8 rfl (by decide) rfl rfl wfX8_227 rfl rfl rfl hsh d kk
theorem fpX8_23 {i x : Nat} (hnm : nm = "<init>") (hsh : sh[i]? = some (0, 8)) (d : decode cc pc = .ok (.putfield 23, 3)) (kk : svJ l G R (RX8, cc, nL, ret, nm) F cs sl (pc + 3) ls st sh hi hl (sv_u2 hr i 6 (some x))) : svJ l G R (RX8, cc, nL, ret, nm) F cs sl pc ls (sv_rf G.1 x :: sv_rf G.1 i :: st) sh hi hl hr :=
  J_putRF (M := (RX8, cc, nL, ret, nm)) (k := 6) inX8 tyX8_ok nmX8 rfl (by decide) rfl rfl wfX8_23 rfl hnm rfl rfl rfl hsh d kk
theorem fpX8_26 {i x : Nat} (hnm : nm = "<init>") (hsh : sh[i]? = some (0, 8)) (d : decode cc pc = .ok (.putfield 26, 3)) (kk : svJ l G R (RX8, cc, nL, ret, nm) F cs sl (pc + 3) ls st sh hi hl (sv_u2 hr i 7 (some x))) : svJ l G R (RX8, cc, nL, ret, nm) F cs sl pc ls (sv_rf G.1 x :: sv_rf G.1 i :: st) sh hi hl hr :=
  J_putRF (M := (RX8, cc, nL, ret, nm)) (k := 7) inX8 tyX8_ok nmX8 rfl (by decide) rfl rfl wfX8_26 rfl hnm rfl rfl rfl hsh d kk
theorem fpX8_29 {i x : Nat} (hnm : nm = "<init>") (hsh : sh[i]? = some (0, 8)) (d : decode cc pc = .ok (.putfield 29, 3)) (kk : svJ l G R (RX8, cc, nL, ret, nm) F cs sl (pc + 3) ls st sh hi hl (sv_u2 hr i 8 (some x))) : svJ l G R (RX8, cc, nL, ret, nm) F cs sl pc ls (sv_rf G.1 x :: sv_rf G.1 i :: st) sh hi hl hr :=
  J_putRF (M := (RX8, cc, nL, ret, nm)) (k := 8) inX8 tyX8_ok nmX8 rfl (by decide) rfl rfl wfX8_29 rfl hnm rfl rfl rfl hsh d kk
theorem fpX8_32 {i x : Nat} (hnm : nm = "<init>") (hsh : sh[i]? = some (0, 8)) (d : decode cc pc = .ok (.putfield 32, 3)) (kk : svJ l G R (RX8, cc, nL, ret, nm) F cs sl (pc + 3) ls st sh hi hl (sv_u2 hr i 9 (some x))) : svJ l G R (RX8, cc, nL, ret, nm) F cs sl pc ls (sv_rf G.1 x :: sv_rf G.1 i :: st) sh hi hl hr :=
  J_putRF (M := (RX8, cc, nL, ret, nm)) (k := 9) inX8 tyX8_ok nmX8 rfl (by decide) rfl rfl wfX8_32 rfl hnm rfl rfl rfl hsh d kk
theorem fpX8_35 {i x : Nat} (hnm : nm = "<init>") (hsh : sh[i]? = some (0, 8)) (d : decode cc pc = .ok (.putfield 35, 3)) (kk : svJ l G R (RX8, cc, nL, ret, nm) F cs sl (pc + 3) ls st sh hi hl (sv_u2 hr i 10 (some x))) : svJ l G R (RX8, cc, nL, ret, nm) F cs sl pc ls (sv_rf G.1 x :: sv_rf G.1 i :: st) sh hi hl hr :=
  J_putRF (M := (RX8, cc, nL, ret, nm)) (k := 10) inX8 tyX8_ok nmX8 rfl (by decide) rfl rfl wfX8_35 rfl hnm rfl rfl rfl hsh d kk
theorem fpX8_39 {i x : Nat} (hnm : nm = "<init>") (hsh : sh[i]? = some (0, 8)) (d : decode cc pc = .ok (.putfield 39, 3)) (kk : svJ l G R (RX8, cc, nL, ret, nm) F cs sl (pc + 3) ls st sh hi hl (sv_u2 hr i 12 (some x))) : svJ l G R (RX8, cc, nL, ret, nm) F cs sl pc ls (sv_rf G.1 x :: sv_rf G.1 i :: st) sh hi hl hr :=
  J_putRF (M := (RX8, cc, nL, ret, nm)) (k := 12) inX8 tyX8_ok nmX8 rfl (by decide) rfl rfl wfX8_39 rfl hnm rfl rfl rfl hsh d kk
theorem fpX8_42 {i x : Nat} (hnm : nm = "<init>") (hsh : sh[i]? = some (0, 8)) (d : decode cc pc = .ok (.putfield 42, 3)) (kk : svJ l G R (RX8, cc, nL, ret, nm) F cs sl (pc + 3) ls st sh hi hl (sv_u2 hr i 14 (some x))) : svJ l G R (RX8, cc, nL, ret, nm) F cs sl pc ls (sv_rf G.1 x :: sv_rf G.1 i :: st) sh hi hl hr :=
  J_putRF (M := (RX8, cc, nL, ret, nm)) (k := 14) inX8 tyX8_ok nmX8 rfl (by decide) rfl rfl wfX8_42 rfl hnm rfl rfl rfl hsh d kk
theorem fpX8_45 {i x : Nat} (hnm : nm = "<init>") (hsh : sh[i]? = some (0, 8)) (d : decode cc pc = .ok (.putfield 45, 3)) (kk : svJ l G R (RX8, cc, nL, ret, nm) F cs sl (pc + 3) ls st sh hi hl (sv_u2 hr i 26 (some x))) : svJ l G R (RX8, cc, nL, ret, nm) F cs sl pc ls (sv_rf G.1 x :: sv_rf G.1 i :: st) sh hi hl hr :=
  J_putRF (M := (RX8, cc, nL, ret, nm)) (k := 26) inX8 tyX8_ok nmX8 rfl (by decide) rfl rfl wfX8_45 rfl hnm rfl rfl rfl hsh d kk
theorem fpX8_48 {i x : Nat} (hnm : nm = "<init>") (hsh : sh[i]? = some (0, 8)) (d : decode cc pc = .ok (.putfield 48, 3)) (kk : svJ l G R (RX8, cc, nL, ret, nm) F cs sl (pc + 3) ls st sh hi hl (sv_u2 hr i 27 (some x))) : svJ l G R (RX8, cc, nL, ret, nm) F cs sl pc ls (sv_rf G.1 x :: sv_rf G.1 i :: st) sh hi hl hr :=
  J_putRF (M := (RX8, cc, nL, ret, nm)) (k := 27) inX8 tyX8_ok nmX8 rfl (by decide) rfl rfl wfX8_48 rfl hnm rfl rfl rfl hsh d kk
theorem fpX8_51 {i x : Nat} (hnm : nm = "<init>") (hsh : sh[i]? = some (0, 8)) (d : decode cc pc = .ok (.putfield 51, 3)) (kk : svJ l G R (RX8, cc, nL, ret, nm) F cs sl (pc + 3) ls st sh hi hl (sv_u2 hr i 28 (some x))) : svJ l G R (RX8, cc, nL, ret, nm) F cs sl pc ls (sv_rf G.1 x :: sv_rf G.1 i :: st) sh hi hl hr :=
  J_putRF (M := (RX8, cc, nL, ret, nm)) (k := 28) inX8 tyX8_ok nmX8 rfl (by decide) rfl rfl wfX8_51 rfl hnm rfl rfl rfl hsh d kk
theorem fpX8_54 {i x : Nat} (hnm : nm = "<init>") (hsh : sh[i]? = some (0, 8)) (d : decode cc pc = .ok (.putfield 54, 3)) (kk : svJ l G R (RX8, cc, nL, ret, nm) F cs sl (pc + 3) ls st sh hi hl (sv_u2 hr i 30 (some x))) : svJ l G R (RX8, cc, nL, ret, nm) F cs sl pc ls (sv_rf G.1 x :: sv_rf G.1 i :: st) sh hi hl hr :=
  J_putRF (M := (RX8, cc, nL, ret, nm)) (k := 30) inX8 tyX8_ok nmX8 rfl (by decide) rfl rfl wfX8_54 rfl hnm rfl rfl rfl hsh d kk
theorem fpX8_57 {i x : Nat} (hnm : nm = "<init>") (hsh : sh[i]? = some (0, 8)) (d : decode cc pc = .ok (.putfield 57, 3)) (kk : svJ l G R (RX8, cc, nL, ret, nm) F cs sl (pc + 3) ls st sh hi hl (sv_u2 hr i 31 (some x))) : svJ l G R (RX8, cc, nL, ret, nm) F cs sl pc ls (sv_rf G.1 x :: sv_rf G.1 i :: st) sh hi hl hr :=
  J_putRF (M := (RX8, cc, nL, ret, nm)) (k := 31) inX8 tyX8_ok nmX8 rfl (by decide) rfl rfl wfX8_57 rfl hnm rfl rfl rfl hsh d kk
theorem fpX8_60 {i x : Nat} (hnm : nm = "<init>") (hsh : sh[i]? = some (0, 8)) (d : decode cc pc = .ok (.putfield 60, 3)) (kk : svJ l G R (RX8, cc, nL, ret, nm) F cs sl (pc + 3) ls st sh hi hl (sv_u2 hr i 32 (some x))) : svJ l G R (RX8, cc, nL, ret, nm) F cs sl pc ls (sv_rf G.1 x :: sv_rf G.1 i :: st) sh hi hl hr :=
  J_putRF (M := (RX8, cc, nL, ret, nm)) (k := 32) inX8 tyX8_ok nmX8 rfl (by decide) rfl rfl wfX8_60 rfl hnm rfl rfl rfl hsh d kk
theorem fpX8_63 {i x : Nat} (hnm : nm = "<init>") (hsh : sh[i]? = some (0, 8)) (d : decode cc pc = .ok (.putfield 63, 3)) (kk : svJ l G R (RX8, cc, nL, ret, nm) F cs sl (pc + 3) ls st sh hi hl (sv_u2 hr i 33 (some x))) : svJ l G R (RX8, cc, nL, ret, nm) F cs sl pc ls (sv_rf G.1 x :: sv_rf G.1 i :: st) sh hi hl hr :=
  J_putRF (M := (RX8, cc, nL, ret, nm)) (k := 33) inX8 tyX8_ok nmX8 rfl (by decide) rfl rfl wfX8_63 rfl hnm rfl rfl rfl hsh d kk
theorem fpX8_66 {i x : Nat} (hnm : nm = "<init>") (hsh : sh[i]? = some (0, 8)) (d : decode cc pc = .ok (.putfield 66, 3)) (kk : svJ l G R (RX8, cc, nL, ret, nm) F cs sl (pc + 3) ls st sh hi hl (sv_u2 hr i 34 (some x))) : svJ l G R (RX8, cc, nL, ret, nm) F cs sl pc ls (sv_rf G.1 x :: sv_rf G.1 i :: st) sh hi hl hr :=
  J_putRF (M := (RX8, cc, nL, ret, nm)) (k := 34) inX8 tyX8_ok nmX8 rfl (by decide) rfl rfl wfX8_66 rfl hnm rfl rfl rfl hsh d kk
theorem fpX8_7 {i : Nat} {x : Int32} (hsh : sh[i]? = some (0, 8)) (d : decode cc pc = .ok (.putfield 7, 3)) (kk : svJ l G R (RX8, cc, nL, ret, nm) F cs sl (pc + 3) ls st sh (sv_u2 hi i 0 x) hl hr) : svJ l G R (RX8, cc, nL, ret, nm) F cs sl pc ls (.int x :: sv_rf G.1 i :: st) sh hi hl hr :=
  J_putI (M := (RX8, cc, nL, ret, nm)) (k := 0) inX8 tyX8_ok nmX8 rfl (by decide) rfl rfl wfX8_7 rfl rfl rfl hsh d kk
theorem fpX8_73 {i : Nat} {x : Int32} (hsh : sh[i]? = some (0, 8)) (d : decode cc pc = .ok (.putfield 73, 3)) (kk : svJ l G R (RX8, cc, nL, ret, nm) F cs sl (pc + 3) ls st sh (sv_u2 hi i 2 x) hl hr) : svJ l G R (RX8, cc, nL, ret, nm) F cs sl pc ls (.int x :: sv_rf G.1 i :: st) sh hi hl hr :=
  J_putI (M := (RX8, cc, nL, ret, nm)) (k := 2) inX8 tyX8_ok nmX8 rfl (by decide) rfl rfl wfX8_73 rfl rfl rfl hsh d kk
theorem fpX8_76 {i : Nat} {x : Int32} (hsh : sh[i]? = some (0, 8)) (d : decode cc pc = .ok (.putfield 76, 3)) (kk : svJ l G R (RX8, cc, nL, ret, nm) F cs sl (pc + 3) ls st sh (sv_u2 hi i 4 x) hl hr) : svJ l G R (RX8, cc, nL, ret, nm) F cs sl pc ls (.int x :: sv_rf G.1 i :: st) sh hi hl hr :=
  J_putI (M := (RX8, cc, nL, ret, nm)) (k := 4) inX8 tyX8_ok nmX8 rfl (by decide) rfl rfl wfX8_76 rfl rfl rfl hsh d kk
theorem fpX8_79 {i : Nat} {x : Int32} (hsh : sh[i]? = some (0, 8)) (d : decode cc pc = .ok (.putfield 79, 3)) (kk : svJ l G R (RX8, cc, nL, ret, nm) F cs sl (pc + 3) ls st sh (sv_u2 hi i 15 x) hl hr) : svJ l G R (RX8, cc, nL, ret, nm) F cs sl pc ls (.int x :: sv_rf G.1 i :: st) sh hi hl hr :=
  J_putI (M := (RX8, cc, nL, ret, nm)) (k := 15) inX8 tyX8_ok nmX8 rfl (by decide) rfl rfl wfX8_79 rfl rfl rfl hsh d kk
theorem fpX8_82 {i : Nat} {x : Int32} (hsh : sh[i]? = some (0, 8)) (d : decode cc pc = .ok (.putfield 82, 3)) (kk : svJ l G R (RX8, cc, nL, ret, nm) F cs sl (pc + 3) ls st sh (sv_u2 hi i 16 x) hl hr) : svJ l G R (RX8, cc, nL, ret, nm) F cs sl pc ls (.int x :: sv_rf G.1 i :: st) sh hi hl hr :=
  J_putI (M := (RX8, cc, nL, ret, nm)) (k := 16) inX8 tyX8_ok nmX8 rfl (by decide) rfl rfl wfX8_82 rfl rfl rfl hsh d kk
theorem fpX8_89 {i : Nat} {x : Int32} (hsh : sh[i]? = some (0, 8)) (d : decode cc pc = .ok (.putfield 89, 3)) (kk : svJ l G R (RX8, cc, nL, ret, nm) F cs sl (pc + 3) ls st sh (sv_u2 hi i 17 x) hl hr) : svJ l G R (RX8, cc, nL, ret, nm) F cs sl pc ls (.int x :: sv_rf G.1 i :: st) sh hi hl hr :=
  J_putI (M := (RX8, cc, nL, ret, nm)) (k := 17) inX8 tyX8_ok nmX8 rfl (by decide) rfl rfl wfX8_89 rfl rfl rfl hsh d kk
theorem fpX8_92 {i : Nat} {x : Int32} (hsh : sh[i]? = some (0, 8)) (d : decode cc pc = .ok (.putfield 92, 3)) (kk : svJ l G R (RX8, cc, nL, ret, nm) F cs sl (pc + 3) ls st sh (sv_u2 hi i 19 x) hl hr) : svJ l G R (RX8, cc, nL, ret, nm) F cs sl pc ls (.int x :: sv_rf G.1 i :: st) sh hi hl hr :=
  J_putI (M := (RX8, cc, nL, ret, nm)) (k := 19) inX8 tyX8_ok nmX8 rfl (by decide) rfl rfl wfX8_92 rfl rfl rfl hsh d kk
theorem fpX8_95 {i : Nat} {x : Int32} (hsh : sh[i]? = some (0, 8)) (d : decode cc pc = .ok (.putfield 95, 3)) (kk : svJ l G R (RX8, cc, nL, ret, nm) F cs sl (pc + 3) ls st sh (sv_u2 hi i 18 x) hl hr) : svJ l G R (RX8, cc, nL, ret, nm) F cs sl pc ls (.int x :: sv_rf G.1 i :: st) sh hi hl hr :=
  J_putI (M := (RX8, cc, nL, ret, nm)) (k := 18) inX8 tyX8_ok nmX8 rfl (by decide) rfl rfl wfX8_95 rfl rfl rfl hsh d kk
theorem wkJ6_264 : Cond.constant RJ6 264 (65536) ∈ lw_tbl := List.mem_of_getElem? (i := 539) (by decide +kernel)
theorem wgJ6_264 : goodWord (Cond.constant RJ6 264 (65536)) = true := by decide +kernel
theorem ldJ6_264 (d : decode cc pc = .ok (.ldc_w 264, 3)) (kk : svJ l G R (RJ6, cc, nL, ret, nm) F cs sl (pc + 3) ls (.int (65536) :: st) sh hi hl hr) : svJ l G R (RJ6, cc, nL, ret, nm) F cs sl pc ls st sh hi hl hr :=
  J_ldcw (M := (RJ6, cc, nL, ret, nm)) (65536) wkJ6_264 wgJ6_264 d kk
theorem wkJ6_265 : Cond.constant RJ6 265 (1431655765) ∈ lw_tbl := List.mem_of_getElem? (i := 486) (by decide +kernel)
theorem wgJ6_265 : goodWord (Cond.constant RJ6 265 (1431655765)) = true := by decide +kernel
theorem ldJ6_265 (d : decode cc pc = .ok (.ldc_w 265, 3)) (kk : svJ l G R (RJ6, cc, nL, ret, nm) F cs sl (pc + 3) ls (.int (1431655765) :: st) sh hi hl hr) : svJ l G R (RJ6, cc, nL, ret, nm) F cs sl pc ls st sh hi hl hr :=
  J_ldcw (M := (RJ6, cc, nL, ret, nm)) (1431655765) wkJ6_265 wgJ6_265 d kk
theorem wkJ6_266 : Cond.constant RJ6 266 (858993459) ∈ lw_tbl := List.mem_of_getElem? (i := 487) (by decide +kernel)
theorem wgJ6_266 : goodWord (Cond.constant RJ6 266 (858993459)) = true := by decide +kernel
theorem ldJ6_266 (d : decode cc pc = .ok (.ldc_w 266, 3)) (kk : svJ l G R (RJ6, cc, nL, ret, nm) F cs sl (pc + 3) ls (.int (858993459) :: st) sh hi hl hr) : svJ l G R (RJ6, cc, nL, ret, nm) F cs sl pc ls st sh hi hl hr :=
  J_ldcw (M := (RJ6, cc, nL, ret, nm)) (858993459) wkJ6_266 wgJ6_266 d kk
theorem wkJ6_267 : Cond.constant RJ6 267 (252645135) ∈ lw_tbl := List.mem_of_getElem? (i := 488) (by decide +kernel)
theorem wgJ6_267 : goodWord (Cond.constant RJ6 267 (252645135)) = true := by decide +kernel
theorem ldJ6_267 (d : decode cc pc = .ok (.ldc_w 267, 3)) (kk : svJ l G R (RJ6, cc, nL, ret, nm) F cs sl (pc + 3) ls (.int (252645135) :: st) sh hi hl hr) : svJ l G R (RJ6, cc, nL, ret, nm) F cs sl pc ls st sh hi hl hr :=
  J_ldcw (M := (RJ6, cc, nL, ret, nm)) (252645135) wkJ6_267 wgJ6_267 d kk
theorem sv_wI : Cond.arrayClass (newarray.typeOf .int) ∈ sv_tbl := (sv_in 133 (by decide +kernel) (by decide +kernel))
theorem sv_wC : Cond.arrayClass (newarray.typeOf .char) ∈ sv_tbl := (sv_in 160 (by decide +kernel) (by decide +kernel))
theorem sv_wZ : Cond.arrayClass (newarray.typeOf .boolean) ∈ sv_tbl := (sv_in 790 (by decide +kernel) (by decide +kernel))
variable {M : svM}
theorem S_iload_0 {x : Int32} (d : decode M.2.1 pc = .ok (.iload_n 0, 1)) (kk : svJ l G R M F cs sl (pc + 1) (some (.int x) :: ls) (.int x :: st) sh hi hl hr) : svJ l G R M F cs sl pc (some (.int x) :: ls) st sh hi hl hr := J_iload_n d rfl kk
theorem S_aload_0 {i : Nat} (d : decode M.2.1 pc = .ok (.aload_n 0, 1)) (kk : svJ l G R M F cs sl (pc + 1) (some (sv_rf G.1 i) :: ls) (sv_rf G.1 i :: st) sh hi hl hr) : svJ l G R M F cs sl pc (some (sv_rf G.1 i) :: ls) st sh hi hl hr := J_aload_n d rfl kk
theorem S_aloadN_0  (d : decode M.2.1 pc = .ok (.aload_n 0, 1)) (kk : svJ l G R M F cs sl (pc + 1) (some (.null) :: ls) (.null :: st) sh hi hl hr) : svJ l G R M F cs sl pc (some (.null) :: ls) st sh hi hl hr := J_aloadN_n d rfl kk
theorem S_istore_0 {z : Option Value} {x : Int32} (d : decode M.2.1 pc = .ok (.istore_n 0, 1)) (hn : 0 < M.2.2.1) (kk : svJ l G R M F cs sl (pc + 1) (some (.int x) :: ls) st sh hi hl hr) : svJ l G R M F cs sl pc (z :: ls) (.int x :: st) sh hi hl hr := J_istore_n d hn kk
theorem S_astore_0 {z : Option Value} {i : Nat} (d : decode M.2.1 pc = .ok (.astore_n 0, 1)) (hn : 0 < M.2.2.1) (kk : svJ l G R M F cs sl (pc + 1) (some (sv_rf G.1 i) :: ls) st sh hi hl hr) : svJ l G R M F cs sl pc (z :: ls) (sv_rf G.1 i :: st) sh hi hl hr := J_astore_n d hn kk
theorem S_astoreN_0 {z : Option Value}  (d : decode M.2.1 pc = .ok (.astore_n 0, 1)) (hn : 0 < M.2.2.1) (kk : svJ l G R M F cs sl (pc + 1) (some (.null) :: ls) st sh hi hl hr) : svJ l G R M F cs sl pc (z :: ls) (.null :: st) sh hi hl hr := J_astoreN_n d hn kk
theorem S_iinc_0 {x v : Int32} {n : Int} (d : decode M.2.1 pc = .ok (.iinc 0 n, 3)) (hv : x + Int32.ofInt n = v) (hn : 0 < M.2.2.1) (kk : svJ l G R M F cs sl (pc + 3) (some (.int v) :: ls) st sh hi hl hr) : svJ l G R M F cs sl pc (some (.int x) :: ls) st sh hi hl hr := J_iinc d rfl hv hn kk
theorem S_iload_1 {a0 : Option Value} {x : Int32} (d : decode M.2.1 pc = .ok (.iload_n 1, 1)) (kk : svJ l G R M F cs sl (pc + 1) (a0 :: some (.int x) :: ls) (.int x :: st) sh hi hl hr) : svJ l G R M F cs sl pc (a0 :: some (.int x) :: ls) st sh hi hl hr := J_iload_n d rfl kk
theorem S_aload_1 {a0 : Option Value} {i : Nat} (d : decode M.2.1 pc = .ok (.aload_n 1, 1)) (kk : svJ l G R M F cs sl (pc + 1) (a0 :: some (sv_rf G.1 i) :: ls) (sv_rf G.1 i :: st) sh hi hl hr) : svJ l G R M F cs sl pc (a0 :: some (sv_rf G.1 i) :: ls) st sh hi hl hr := J_aload_n d rfl kk
theorem S_aloadN_1 {a0 : Option Value}  (d : decode M.2.1 pc = .ok (.aload_n 1, 1)) (kk : svJ l G R M F cs sl (pc + 1) (a0 :: some (.null) :: ls) (.null :: st) sh hi hl hr) : svJ l G R M F cs sl pc (a0 :: some (.null) :: ls) st sh hi hl hr := J_aloadN_n d rfl kk
theorem S_istore_1 {a0 : Option Value} {z : Option Value} {x : Int32} (d : decode M.2.1 pc = .ok (.istore_n 1, 1)) (hn : 1 < M.2.2.1) (kk : svJ l G R M F cs sl (pc + 1) (a0 :: some (.int x) :: ls) st sh hi hl hr) : svJ l G R M F cs sl pc (a0 :: z :: ls) (.int x :: st) sh hi hl hr := J_istore_n d hn kk
theorem S_astore_1 {a0 : Option Value} {z : Option Value} {i : Nat} (d : decode M.2.1 pc = .ok (.astore_n 1, 1)) (hn : 1 < M.2.2.1) (kk : svJ l G R M F cs sl (pc + 1) (a0 :: some (sv_rf G.1 i) :: ls) st sh hi hl hr) : svJ l G R M F cs sl pc (a0 :: z :: ls) (sv_rf G.1 i :: st) sh hi hl hr := J_astore_n d hn kk
theorem S_astoreN_1 {a0 : Option Value} {z : Option Value}  (d : decode M.2.1 pc = .ok (.astore_n 1, 1)) (hn : 1 < M.2.2.1) (kk : svJ l G R M F cs sl (pc + 1) (a0 :: some (.null) :: ls) st sh hi hl hr) : svJ l G R M F cs sl pc (a0 :: z :: ls) (.null :: st) sh hi hl hr := J_astoreN_n d hn kk
theorem S_iinc_1 {a0 : Option Value} {x v : Int32} {n : Int} (d : decode M.2.1 pc = .ok (.iinc 1 n, 3)) (hv : x + Int32.ofInt n = v) (hn : 1 < M.2.2.1) (kk : svJ l G R M F cs sl (pc + 3) (a0 :: some (.int v) :: ls) st sh hi hl hr) : svJ l G R M F cs sl pc (a0 :: some (.int x) :: ls) st sh hi hl hr := J_iinc d rfl hv hn kk
theorem S_iload_2 {a0 a1 : Option Value} {x : Int32} (d : decode M.2.1 pc = .ok (.iload_n 2, 1)) (kk : svJ l G R M F cs sl (pc + 1) (a0 :: a1 :: some (.int x) :: ls) (.int x :: st) sh hi hl hr) : svJ l G R M F cs sl pc (a0 :: a1 :: some (.int x) :: ls) st sh hi hl hr := J_iload_n d rfl kk
theorem S_aload_2 {a0 a1 : Option Value} {i : Nat} (d : decode M.2.1 pc = .ok (.aload_n 2, 1)) (kk : svJ l G R M F cs sl (pc + 1) (a0 :: a1 :: some (sv_rf G.1 i) :: ls) (sv_rf G.1 i :: st) sh hi hl hr) : svJ l G R M F cs sl pc (a0 :: a1 :: some (sv_rf G.1 i) :: ls) st sh hi hl hr := J_aload_n d rfl kk
theorem S_aloadN_2 {a0 a1 : Option Value}  (d : decode M.2.1 pc = .ok (.aload_n 2, 1)) (kk : svJ l G R M F cs sl (pc + 1) (a0 :: a1 :: some (.null) :: ls) (.null :: st) sh hi hl hr) : svJ l G R M F cs sl pc (a0 :: a1 :: some (.null) :: ls) st sh hi hl hr := J_aloadN_n d rfl kk
theorem S_istore_2 {a0 a1 : Option Value} {z : Option Value} {x : Int32} (d : decode M.2.1 pc = .ok (.istore_n 2, 1)) (hn : 2 < M.2.2.1) (kk : svJ l G R M F cs sl (pc + 1) (a0 :: a1 :: some (.int x) :: ls) st sh hi hl hr) : svJ l G R M F cs sl pc (a0 :: a1 :: z :: ls) (.int x :: st) sh hi hl hr := J_istore_n d hn kk
theorem S_astore_2 {a0 a1 : Option Value} {z : Option Value} {i : Nat} (d : decode M.2.1 pc = .ok (.astore_n 2, 1)) (hn : 2 < M.2.2.1) (kk : svJ l G R M F cs sl (pc + 1) (a0 :: a1 :: some (sv_rf G.1 i) :: ls) st sh hi hl hr) : svJ l G R M F cs sl pc (a0 :: a1 :: z :: ls) (sv_rf G.1 i :: st) sh hi hl hr := J_astore_n d hn kk
theorem S_astoreN_2 {a0 a1 : Option Value} {z : Option Value}  (d : decode M.2.1 pc = .ok (.astore_n 2, 1)) (hn : 2 < M.2.2.1) (kk : svJ l G R M F cs sl (pc + 1) (a0 :: a1 :: some (.null) :: ls) st sh hi hl hr) : svJ l G R M F cs sl pc (a0 :: a1 :: z :: ls) (.null :: st) sh hi hl hr := J_astoreN_n d hn kk
theorem S_iinc_2 {a0 a1 : Option Value} {x v : Int32} {n : Int} (d : decode M.2.1 pc = .ok (.iinc 2 n, 3)) (hv : x + Int32.ofInt n = v) (hn : 2 < M.2.2.1) (kk : svJ l G R M F cs sl (pc + 3) (a0 :: a1 :: some (.int v) :: ls) st sh hi hl hr) : svJ l G R M F cs sl pc (a0 :: a1 :: some (.int x) :: ls) st sh hi hl hr := J_iinc d rfl hv hn kk
theorem S_iload_3 {a0 a1 a2 : Option Value} {x : Int32} (d : decode M.2.1 pc = .ok (.iload_n 3, 1)) (kk : svJ l G R M F cs sl (pc + 1) (a0 :: a1 :: a2 :: some (.int x) :: ls) (.int x :: st) sh hi hl hr) : svJ l G R M F cs sl pc (a0 :: a1 :: a2 :: some (.int x) :: ls) st sh hi hl hr := J_iload_n d rfl kk
theorem S_aload_3 {a0 a1 a2 : Option Value} {i : Nat} (d : decode M.2.1 pc = .ok (.aload_n 3, 1)) (kk : svJ l G R M F cs sl (pc + 1) (a0 :: a1 :: a2 :: some (sv_rf G.1 i) :: ls) (sv_rf G.1 i :: st) sh hi hl hr) : svJ l G R M F cs sl pc (a0 :: a1 :: a2 :: some (sv_rf G.1 i) :: ls) st sh hi hl hr := J_aload_n d rfl kk
theorem S_aloadN_3 {a0 a1 a2 : Option Value}  (d : decode M.2.1 pc = .ok (.aload_n 3, 1)) (kk : svJ l G R M F cs sl (pc + 1) (a0 :: a1 :: a2 :: some (.null) :: ls) (.null :: st) sh hi hl hr) : svJ l G R M F cs sl pc (a0 :: a1 :: a2 :: some (.null) :: ls) st sh hi hl hr := J_aloadN_n d rfl kk
theorem S_istore_3 {a0 a1 a2 : Option Value} {z : Option Value} {x : Int32} (d : decode M.2.1 pc = .ok (.istore_n 3, 1)) (hn : 3 < M.2.2.1) (kk : svJ l G R M F cs sl (pc + 1) (a0 :: a1 :: a2 :: some (.int x) :: ls) st sh hi hl hr) : svJ l G R M F cs sl pc (a0 :: a1 :: a2 :: z :: ls) (.int x :: st) sh hi hl hr := J_istore_n d hn kk
theorem S_astore_3 {a0 a1 a2 : Option Value} {z : Option Value} {i : Nat} (d : decode M.2.1 pc = .ok (.astore_n 3, 1)) (hn : 3 < M.2.2.1) (kk : svJ l G R M F cs sl (pc + 1) (a0 :: a1 :: a2 :: some (sv_rf G.1 i) :: ls) st sh hi hl hr) : svJ l G R M F cs sl pc (a0 :: a1 :: a2 :: z :: ls) (sv_rf G.1 i :: st) sh hi hl hr := J_astore_n d hn kk
theorem S_astoreN_3 {a0 a1 a2 : Option Value} {z : Option Value}  (d : decode M.2.1 pc = .ok (.astore_n 3, 1)) (hn : 3 < M.2.2.1) (kk : svJ l G R M F cs sl (pc + 1) (a0 :: a1 :: a2 :: some (.null) :: ls) st sh hi hl hr) : svJ l G R M F cs sl pc (a0 :: a1 :: a2 :: z :: ls) (.null :: st) sh hi hl hr := J_astoreN_n d hn kk
theorem S_iinc_3 {a0 a1 a2 : Option Value} {x v : Int32} {n : Int} (d : decode M.2.1 pc = .ok (.iinc 3 n, 3)) (hv : x + Int32.ofInt n = v) (hn : 3 < M.2.2.1) (kk : svJ l G R M F cs sl (pc + 3) (a0 :: a1 :: a2 :: some (.int v) :: ls) st sh hi hl hr) : svJ l G R M F cs sl pc (a0 :: a1 :: a2 :: some (.int x) :: ls) st sh hi hl hr := J_iinc d rfl hv hn kk
theorem S_iload_4 {a0 a1 a2 a3 : Option Value} {x : Int32} (d : decode M.2.1 pc = .ok (.iload 4, 2)) (kk : svJ l G R M F cs sl (pc + 2) (a0 :: a1 :: a2 :: a3 :: some (.int x) :: ls) (.int x :: st) sh hi hl hr) : svJ l G R M F cs sl pc (a0 :: a1 :: a2 :: a3 :: some (.int x) :: ls) st sh hi hl hr := J_iload d rfl kk
theorem S_aload_4 {a0 a1 a2 a3 : Option Value} {i : Nat} (d : decode M.2.1 pc = .ok (.aload 4, 2)) (kk : svJ l G R M F cs sl (pc + 2) (a0 :: a1 :: a2 :: a3 :: some (sv_rf G.1 i) :: ls) (sv_rf G.1 i :: st) sh hi hl hr) : svJ l G R M F cs sl pc (a0 :: a1 :: a2 :: a3 :: some (sv_rf G.1 i) :: ls) st sh hi hl hr := J_aload d rfl kk
theorem S_aloadN_4 {a0 a1 a2 a3 : Option Value}  (d : decode M.2.1 pc = .ok (.aload 4, 2)) (kk : svJ l G R M F cs sl (pc + 2) (a0 :: a1 :: a2 :: a3 :: some (.null) :: ls) (.null :: st) sh hi hl hr) : svJ l G R M F cs sl pc (a0 :: a1 :: a2 :: a3 :: some (.null) :: ls) st sh hi hl hr := J_aloadN d rfl kk
theorem S_istore_4 {a0 a1 a2 a3 : Option Value} {z : Option Value} {x : Int32} (d : decode M.2.1 pc = .ok (.istore 4, 2)) (hn : 4 < M.2.2.1) (kk : svJ l G R M F cs sl (pc + 2) (a0 :: a1 :: a2 :: a3 :: some (.int x) :: ls) st sh hi hl hr) : svJ l G R M F cs sl pc (a0 :: a1 :: a2 :: a3 :: z :: ls) (.int x :: st) sh hi hl hr := J_istore d hn kk
theorem S_astore_4 {a0 a1 a2 a3 : Option Value} {z : Option Value} {i : Nat} (d : decode M.2.1 pc = .ok (.astore 4, 2)) (hn : 4 < M.2.2.1) (kk : svJ l G R M F cs sl (pc + 2) (a0 :: a1 :: a2 :: a3 :: some (sv_rf G.1 i) :: ls) st sh hi hl hr) : svJ l G R M F cs sl pc (a0 :: a1 :: a2 :: a3 :: z :: ls) (sv_rf G.1 i :: st) sh hi hl hr := J_astore d hn kk
theorem S_astoreN_4 {a0 a1 a2 a3 : Option Value} {z : Option Value}  (d : decode M.2.1 pc = .ok (.astore 4, 2)) (hn : 4 < M.2.2.1) (kk : svJ l G R M F cs sl (pc + 2) (a0 :: a1 :: a2 :: a3 :: some (.null) :: ls) st sh hi hl hr) : svJ l G R M F cs sl pc (a0 :: a1 :: a2 :: a3 :: z :: ls) (.null :: st) sh hi hl hr := J_astoreN d hn kk
theorem S_iinc_4 {a0 a1 a2 a3 : Option Value} {x v : Int32} {n : Int} (d : decode M.2.1 pc = .ok (.iinc 4 n, 3)) (hv : x + Int32.ofInt n = v) (hn : 4 < M.2.2.1) (kk : svJ l G R M F cs sl (pc + 3) (a0 :: a1 :: a2 :: a3 :: some (.int v) :: ls) st sh hi hl hr) : svJ l G R M F cs sl pc (a0 :: a1 :: a2 :: a3 :: some (.int x) :: ls) st sh hi hl hr := J_iinc d rfl hv hn kk
theorem S_iload_5 {a0 a1 a2 a3 a4 : Option Value} {x : Int32} (d : decode M.2.1 pc = .ok (.iload 5, 2)) (kk : svJ l G R M F cs sl (pc + 2) (a0 :: a1 :: a2 :: a3 :: a4 :: some (.int x) :: ls) (.int x :: st) sh hi hl hr) : svJ l G R M F cs sl pc (a0 :: a1 :: a2 :: a3 :: a4 :: some (.int x) :: ls) st sh hi hl hr := J_iload d rfl kk
theorem S_aload_5 {a0 a1 a2 a3 a4 : Option Value} {i : Nat} (d : decode M.2.1 pc = .ok (.aload 5, 2)) (kk : svJ l G R M F cs sl (pc + 2) (a0 :: a1 :: a2 :: a3 :: a4 :: some (sv_rf G.1 i) :: ls) (sv_rf G.1 i :: st) sh hi hl hr) : svJ l G R M F cs sl pc (a0 :: a1 :: a2 :: a3 :: a4 :: some (sv_rf G.1 i) :: ls) st sh hi hl hr := J_aload d rfl kk
theorem S_aloadN_5 {a0 a1 a2 a3 a4 : Option Value}  (d : decode M.2.1 pc = .ok (.aload 5, 2)) (kk : svJ l G R M F cs sl (pc + 2) (a0 :: a1 :: a2 :: a3 :: a4 :: some (.null) :: ls) (.null :: st) sh hi hl hr) : svJ l G R M F cs sl pc (a0 :: a1 :: a2 :: a3 :: a4 :: some (.null) :: ls) st sh hi hl hr := J_aloadN d rfl kk
theorem S_istore_5 {a0 a1 a2 a3 a4 : Option Value} {z : Option Value} {x : Int32} (d : decode M.2.1 pc = .ok (.istore 5, 2)) (hn : 5 < M.2.2.1) (kk : svJ l G R M F cs sl (pc + 2) (a0 :: a1 :: a2 :: a3 :: a4 :: some (.int x) :: ls) st sh hi hl hr) : svJ l G R M F cs sl pc (a0 :: a1 :: a2 :: a3 :: a4 :: z :: ls) (.int x :: st) sh hi hl hr := J_istore d hn kk
theorem S_astore_5 {a0 a1 a2 a3 a4 : Option Value} {z : Option Value} {i : Nat} (d : decode M.2.1 pc = .ok (.astore 5, 2)) (hn : 5 < M.2.2.1) (kk : svJ l G R M F cs sl (pc + 2) (a0 :: a1 :: a2 :: a3 :: a4 :: some (sv_rf G.1 i) :: ls) st sh hi hl hr) : svJ l G R M F cs sl pc (a0 :: a1 :: a2 :: a3 :: a4 :: z :: ls) (sv_rf G.1 i :: st) sh hi hl hr := J_astore d hn kk
theorem S_astoreN_5 {a0 a1 a2 a3 a4 : Option Value} {z : Option Value}  (d : decode M.2.1 pc = .ok (.astore 5, 2)) (hn : 5 < M.2.2.1) (kk : svJ l G R M F cs sl (pc + 2) (a0 :: a1 :: a2 :: a3 :: a4 :: some (.null) :: ls) st sh hi hl hr) : svJ l G R M F cs sl pc (a0 :: a1 :: a2 :: a3 :: a4 :: z :: ls) (.null :: st) sh hi hl hr := J_astoreN d hn kk
theorem S_iinc_5 {a0 a1 a2 a3 a4 : Option Value} {x v : Int32} {n : Int} (d : decode M.2.1 pc = .ok (.iinc 5 n, 3)) (hv : x + Int32.ofInt n = v) (hn : 5 < M.2.2.1) (kk : svJ l G R M F cs sl (pc + 3) (a0 :: a1 :: a2 :: a3 :: a4 :: some (.int v) :: ls) st sh hi hl hr) : svJ l G R M F cs sl pc (a0 :: a1 :: a2 :: a3 :: a4 :: some (.int x) :: ls) st sh hi hl hr := J_iinc d rfl hv hn kk
theorem S_iload_6 {a0 a1 a2 a3 a4 a5 : Option Value} {x : Int32} (d : decode M.2.1 pc = .ok (.iload 6, 2)) (kk : svJ l G R M F cs sl (pc + 2) (a0 :: a1 :: a2 :: a3 :: a4 :: a5 :: some (.int x) :: ls) (.int x :: st) sh hi hl hr) : svJ l G R M F cs sl pc (a0 :: a1 :: a2 :: a3 :: a4 :: a5 :: some (.int x) :: ls) st sh hi hl hr := J_iload d rfl kk
theorem S_aload_6 {a0 a1 a2 a3 a4 a5 : Option Value} {i : Nat} (d : decode M.2.1 pc = .ok (.aload 6, 2)) (kk : svJ l G R M F cs sl (pc + 2) (a0 :: a1 :: a2 :: a3 :: a4 :: a5 :: some (sv_rf G.1 i) :: ls) (sv_rf G.1 i :: st) sh hi hl hr) : svJ l G R M F cs sl pc (a0 :: a1 :: a2 :: a3 :: a4 :: a5 :: some (sv_rf G.1 i) :: ls) st sh hi hl hr := J_aload d rfl kk
theorem S_aloadN_6 {a0 a1 a2 a3 a4 a5 : Option Value}  (d : decode M.2.1 pc = .ok (.aload 6, 2)) (kk : svJ l G R M F cs sl (pc + 2) (a0 :: a1 :: a2 :: a3 :: a4 :: a5 :: some (.null) :: ls) (.null :: st) sh hi hl hr) : svJ l G R M F cs sl pc (a0 :: a1 :: a2 :: a3 :: a4 :: a5 :: some (.null) :: ls) st sh hi hl hr := J_aloadN d rfl kk
theorem S_istore_6 {a0 a1 a2 a3 a4 a5 : Option Value} {z : Option Value} {x : Int32} (d : decode M.2.1 pc = .ok (.istore 6, 2)) (hn : 6 < M.2.2.1) (kk : svJ l G R M F cs sl (pc + 2) (a0 :: a1 :: a2 :: a3 :: a4 :: a5 :: some (.int x) :: ls) st sh hi hl hr) : svJ l G R M F cs sl pc (a0 :: a1 :: a2 :: a3 :: a4 :: a5 :: z :: ls) (.int x :: st) sh hi hl hr := J_istore d hn kk
theorem S_astore_6 {a0 a1 a2 a3 a4 a5 : Option Value} {z : Option Value} {i : Nat} (d : decode M.2.1 pc = .ok (.astore 6, 2)) (hn : 6 < M.2.2.1) (kk : svJ l G R M F cs sl (pc + 2) (a0 :: a1 :: a2 :: a3 :: a4 :: a5 :: some (sv_rf G.1 i) :: ls) st sh hi hl hr) : svJ l G R M F cs sl pc (a0 :: a1 :: a2 :: a3 :: a4 :: a5 :: z :: ls) (sv_rf G.1 i :: st) sh hi hl hr := J_astore d hn kk
theorem S_astoreN_6 {a0 a1 a2 a3 a4 a5 : Option Value} {z : Option Value}  (d : decode M.2.1 pc = .ok (.astore 6, 2)) (hn : 6 < M.2.2.1) (kk : svJ l G R M F cs sl (pc + 2) (a0 :: a1 :: a2 :: a3 :: a4 :: a5 :: some (.null) :: ls) st sh hi hl hr) : svJ l G R M F cs sl pc (a0 :: a1 :: a2 :: a3 :: a4 :: a5 :: z :: ls) (.null :: st) sh hi hl hr := J_astoreN d hn kk
theorem S_iinc_6 {a0 a1 a2 a3 a4 a5 : Option Value} {x v : Int32} {n : Int} (d : decode M.2.1 pc = .ok (.iinc 6 n, 3)) (hv : x + Int32.ofInt n = v) (hn : 6 < M.2.2.1) (kk : svJ l G R M F cs sl (pc + 3) (a0 :: a1 :: a2 :: a3 :: a4 :: a5 :: some (.int v) :: ls) st sh hi hl hr) : svJ l G R M F cs sl pc (a0 :: a1 :: a2 :: a3 :: a4 :: a5 :: some (.int x) :: ls) st sh hi hl hr := J_iinc d rfl hv hn kk
theorem S_iload_7 {a0 a1 a2 a3 a4 a5 a6 : Option Value} {x : Int32} (d : decode M.2.1 pc = .ok (.iload 7, 2)) (kk : svJ l G R M F cs sl (pc + 2) (a0 :: a1 :: a2 :: a3 :: a4 :: a5 :: a6 :: some (.int x) :: ls) (.int x :: st) sh hi hl hr) : svJ l G R M F cs sl pc (a0 :: a1 :: a2 :: a3 :: a4 :: a5 :: a6 :: some (.int x) :: ls) st sh hi hl hr := J_iload d rfl kk
theorem S_aload_7 {a0 a1 a2 a3 a4 a5 a6 : Option Value} {i : Nat} (d : decode M.2.1 pc = .ok (.aload 7, 2)) (kk : svJ l G R M F cs sl (pc + 2) (a0 :: a1 :: a2 :: a3 :: a4 :: a5 :: a6 :: some (sv_rf G.1 i) :: ls) (sv_rf G.1 i :: st) sh hi hl hr) : svJ l G R M F cs sl pc (a0 :: a1 :: a2 :: a3 :: a4 :: a5 :: a6 :: some (sv_rf G.1 i) :: ls) st sh hi hl hr := J_aload d rfl kk
theorem S_aloadN_7 {a0 a1 a2 a3 a4 a5 a6 : Option Value}  (d : decode M.2.1 pc = .ok (.aload 7, 2)) (kk : svJ l G R M F cs sl (pc + 2) (a0 :: a1 :: a2 :: a3 :: a4 :: a5 :: a6 :: some (.null) :: ls) (.null :: st) sh hi hl hr) : svJ l G R M F cs sl pc (a0 :: a1 :: a2 :: a3 :: a4 :: a5 :: a6 :: some (.null) :: ls) st sh hi hl hr := J_aloadN d rfl kk
theorem S_istore_7 {a0 a1 a2 a3 a4 a5 a6 : Option Value} {z : Option Value} {x : Int32} (d : decode M.2.1 pc = .ok (.istore 7, 2)) (hn : 7 < M.2.2.1) (kk : svJ l G R M F cs sl (pc + 2) (a0 :: a1 :: a2 :: a3 :: a4 :: a5 :: a6 :: some (.int x) :: ls) st sh hi hl hr) : svJ l G R M F cs sl pc (a0 :: a1 :: a2 :: a3 :: a4 :: a5 :: a6 :: z :: ls) (.int x :: st) sh hi hl hr := J_istore d hn kk
theorem S_astore_7 {a0 a1 a2 a3 a4 a5 a6 : Option Value} {z : Option Value} {i : Nat} (d : decode M.2.1 pc = .ok (.astore 7, 2)) (hn : 7 < M.2.2.1) (kk : svJ l G R M F cs sl (pc + 2) (a0 :: a1 :: a2 :: a3 :: a4 :: a5 :: a6 :: some (sv_rf G.1 i) :: ls) st sh hi hl hr) : svJ l G R M F cs sl pc (a0 :: a1 :: a2 :: a3 :: a4 :: a5 :: a6 :: z :: ls) (sv_rf G.1 i :: st) sh hi hl hr := J_astore d hn kk
theorem S_astoreN_7 {a0 a1 a2 a3 a4 a5 a6 : Option Value} {z : Option Value}  (d : decode M.2.1 pc = .ok (.astore 7, 2)) (hn : 7 < M.2.2.1) (kk : svJ l G R M F cs sl (pc + 2) (a0 :: a1 :: a2 :: a3 :: a4 :: a5 :: a6 :: some (.null) :: ls) st sh hi hl hr) : svJ l G R M F cs sl pc (a0 :: a1 :: a2 :: a3 :: a4 :: a5 :: a6 :: z :: ls) (.null :: st) sh hi hl hr := J_astoreN d hn kk
theorem S_iinc_7 {a0 a1 a2 a3 a4 a5 a6 : Option Value} {x v : Int32} {n : Int} (d : decode M.2.1 pc = .ok (.iinc 7 n, 3)) (hv : x + Int32.ofInt n = v) (hn : 7 < M.2.2.1) (kk : svJ l G R M F cs sl (pc + 3) (a0 :: a1 :: a2 :: a3 :: a4 :: a5 :: a6 :: some (.int v) :: ls) st sh hi hl hr) : svJ l G R M F cs sl pc (a0 :: a1 :: a2 :: a3 :: a4 :: a5 :: a6 :: some (.int x) :: ls) st sh hi hl hr := J_iinc d rfl hv hn kk
theorem S_iload_8 {a0 a1 a2 a3 a4 a5 a6 a7 : Option Value} {x : Int32} (d : decode M.2.1 pc = .ok (.iload 8, 2)) (kk : svJ l G R M F cs sl (pc + 2) (a0 :: a1 :: a2 :: a3 :: a4 :: a5 :: a6 :: a7 :: some (.int x) :: ls) (.int x :: st) sh hi hl hr) : svJ l G R M F cs sl pc (a0 :: a1 :: a2 :: a3 :: a4 :: a5 :: a6 :: a7 :: some (.int x) :: ls) st sh hi hl hr := J_iload d rfl kk
theorem S_aload_8 {a0 a1 a2 a3 a4 a5 a6 a7 : Option Value} {i : Nat} (d : decode M.2.1 pc = .ok (.aload 8, 2)) (kk : svJ l G R M F cs sl (pc + 2) (a0 :: a1 :: a2 :: a3 :: a4 :: a5 :: a6 :: a7 :: some (sv_rf G.1 i) :: ls) (sv_rf G.1 i :: st) sh hi hl hr) : svJ l G R M F cs sl pc (a0 :: a1 :: a2 :: a3 :: a4 :: a5 :: a6 :: a7 :: some (sv_rf G.1 i) :: ls) st sh hi hl hr := J_aload d rfl kk
theorem S_aloadN_8 {a0 a1 a2 a3 a4 a5 a6 a7 : Option Value}  (d : decode M.2.1 pc = .ok (.aload 8, 2)) (kk : svJ l G R M F cs sl (pc + 2) (a0 :: a1 :: a2 :: a3 :: a4 :: a5 :: a6 :: a7 :: some (.null) :: ls) (.null :: st) sh hi hl hr) : svJ l G R M F cs sl pc (a0 :: a1 :: a2 :: a3 :: a4 :: a5 :: a6 :: a7 :: some (.null) :: ls) st sh hi hl hr := J_aloadN d rfl kk
theorem S_istore_8 {a0 a1 a2 a3 a4 a5 a6 a7 : Option Value} {z : Option Value} {x : Int32} (d : decode M.2.1 pc = .ok (.istore 8, 2)) (hn : 8 < M.2.2.1) (kk : svJ l G R M F cs sl (pc + 2) (a0 :: a1 :: a2 :: a3 :: a4 :: a5 :: a6 :: a7 :: some (.int x) :: ls) st sh hi hl hr) : svJ l G R M F cs sl pc (a0 :: a1 :: a2 :: a3 :: a4 :: a5 :: a6 :: a7 :: z :: ls) (.int x :: st) sh hi hl hr := J_istore d hn kk
theorem S_astore_8 {a0 a1 a2 a3 a4 a5 a6 a7 : Option Value} {z : Option Value} {i : Nat} (d : decode M.2.1 pc = .ok (.astore 8, 2)) (hn : 8 < M.2.2.1) (kk : svJ l G R M F cs sl (pc + 2) (a0 :: a1 :: a2 :: a3 :: a4 :: a5 :: a6 :: a7 :: some (sv_rf G.1 i) :: ls) st sh hi hl hr) : svJ l G R M F cs sl pc (a0 :: a1 :: a2 :: a3 :: a4 :: a5 :: a6 :: a7 :: z :: ls) (sv_rf G.1 i :: st) sh hi hl hr := J_astore d hn kk
theorem S_astoreN_8 {a0 a1 a2 a3 a4 a5 a6 a7 : Option Value} {z : Option Value}  (d : decode M.2.1 pc = .ok (.astore 8, 2)) (hn : 8 < M.2.2.1) (kk : svJ l G R M F cs sl (pc + 2) (a0 :: a1 :: a2 :: a3 :: a4 :: a5 :: a6 :: a7 :: some (.null) :: ls) st sh hi hl hr) : svJ l G R M F cs sl pc (a0 :: a1 :: a2 :: a3 :: a4 :: a5 :: a6 :: a7 :: z :: ls) (.null :: st) sh hi hl hr := J_astoreN d hn kk
theorem S_iinc_8 {a0 a1 a2 a3 a4 a5 a6 a7 : Option Value} {x v : Int32} {n : Int} (d : decode M.2.1 pc = .ok (.iinc 8 n, 3)) (hv : x + Int32.ofInt n = v) (hn : 8 < M.2.2.1) (kk : svJ l G R M F cs sl (pc + 3) (a0 :: a1 :: a2 :: a3 :: a4 :: a5 :: a6 :: a7 :: some (.int v) :: ls) st sh hi hl hr) : svJ l G R M F cs sl pc (a0 :: a1 :: a2 :: a3 :: a4 :: a5 :: a6 :: a7 :: some (.int x) :: ls) st sh hi hl hr := J_iinc d rfl hv hn kk
theorem S_iload_9 {a0 a1 a2 a3 a4 a5 a6 a7 a8 : Option Value} {x : Int32} (d : decode M.2.1 pc = .ok (.iload 9, 2)) (kk : svJ l G R M F cs sl (pc + 2) (a0 :: a1 :: a2 :: a3 :: a4 :: a5 :: a6 :: a7 :: a8 :: some (.int x) :: ls) (.int x :: st) sh hi hl hr) : svJ l G R M F cs sl pc (a0 :: a1 :: a2 :: a3 :: a4 :: a5 :: a6 :: a7 :: a8 :: some (.int x) :: ls) st sh hi hl hr := J_iload d rfl kk
theorem S_aload_9 {a0 a1 a2 a3 a4 a5 a6 a7 a8 : Option Value} {i : Nat} (d : decode M.2.1 pc = .ok (.aload 9, 2)) (kk : svJ l G R M F cs sl (pc + 2) (a0 :: a1 :: a2 :: a3 :: a4 :: a5 :: a6 :: a7 :: a8 :: some (sv_rf G.1 i) :: ls) (sv_rf G.1 i :: st) sh hi hl hr) : svJ l G R M F cs sl pc (a0 :: a1 :: a2 :: a3 :: a4 :: a5 :: a6 :: a7 :: a8 :: some (sv_rf G.1 i) :: ls) st sh hi hl hr := J_aload d rfl kk
theorem S_aloadN_9 {a0 a1 a2 a3 a4 a5 a6 a7 a8 : Option Value}  (d : decode M.2.1 pc = .ok (.aload 9, 2)) (kk : svJ l G R M F cs sl (pc + 2) (a0 :: a1 :: a2 :: a3 :: a4 :: a5 :: a6 :: a7 :: a8 :: some (.null) :: ls) (.null :: st) sh hi hl hr) : svJ l G R M F cs sl pc (a0 :: a1 :: a2 :: a3 :: a4 :: a5 :: a6 :: a7 :: a8 :: some (.null) :: ls) st sh hi hl hr := J_aloadN d rfl kk
theorem S_istore_9 {a0 a1 a2 a3 a4 a5 a6 a7 a8 : Option Value} {z : Option Value} {x : Int32} (d : decode M.2.1 pc = .ok (.istore 9, 2)) (hn : 9 < M.2.2.1) (kk : svJ l G R M F cs sl (pc + 2) (a0 :: a1 :: a2 :: a3 :: a4 :: a5 :: a6 :: a7 :: a8 :: some (.int x) :: ls) st sh hi hl hr) : svJ l G R M F cs sl pc (a0 :: a1 :: a2 :: a3 :: a4 :: a5 :: a6 :: a7 :: a8 :: z :: ls) (.int x :: st) sh hi hl hr := J_istore d hn kk
theorem S_astore_9 {a0 a1 a2 a3 a4 a5 a6 a7 a8 : Option Value} {z : Option Value} {i : Nat} (d : decode M.2.1 pc = .ok (.astore 9, 2)) (hn : 9 < M.2.2.1) (kk : svJ l G R M F cs sl (pc + 2) (a0 :: a1 :: a2 :: a3 :: a4 :: a5 :: a6 :: a7 :: a8 :: some (sv_rf G.1 i) :: ls) st sh hi hl hr) : svJ l G R M F cs sl pc (a0 :: a1 :: a2 :: a3 :: a4 :: a5 :: a6 :: a7 :: a8 :: z :: ls) (sv_rf G.1 i :: st) sh hi hl hr := J_astore d hn kk
theorem S_astoreN_9 {a0 a1 a2 a3 a4 a5 a6 a7 a8 : Option Value} {z : Option Value}  (d : decode M.2.1 pc = .ok (.astore 9, 2)) (hn : 9 < M.2.2.1) (kk : svJ l G R M F cs sl (pc + 2) (a0 :: a1 :: a2 :: a3 :: a4 :: a5 :: a6 :: a7 :: a8 :: some (.null) :: ls) st sh hi hl hr) : svJ l G R M F cs sl pc (a0 :: a1 :: a2 :: a3 :: a4 :: a5 :: a6 :: a7 :: a8 :: z :: ls) (.null :: st) sh hi hl hr := J_astoreN d hn kk
theorem S_iinc_9 {a0 a1 a2 a3 a4 a5 a6 a7 a8 : Option Value} {x v : Int32} {n : Int} (d : decode M.2.1 pc = .ok (.iinc 9 n, 3)) (hv : x + Int32.ofInt n = v) (hn : 9 < M.2.2.1) (kk : svJ l G R M F cs sl (pc + 3) (a0 :: a1 :: a2 :: a3 :: a4 :: a5 :: a6 :: a7 :: a8 :: some (.int v) :: ls) st sh hi hl hr) : svJ l G R M F cs sl pc (a0 :: a1 :: a2 :: a3 :: a4 :: a5 :: a6 :: a7 :: a8 :: some (.int x) :: ls) st sh hi hl hr := J_iinc d rfl hv hn kk
theorem S_iload_10 {a0 a1 a2 a3 a4 a5 a6 a7 a8 a9 : Option Value} {x : Int32} (d : decode M.2.1 pc = .ok (.iload 10, 2)) (kk : svJ l G R M F cs sl (pc + 2) (a0 :: a1 :: a2 :: a3 :: a4 :: a5 :: a6 :: a7 :: a8 :: a9 :: some (.int x) :: ls) (.int x :: st) sh hi hl hr) : svJ l G R M F cs sl pc (a0 :: a1 :: a2 :: a3 :: a4 :: a5 :: a6 :: a7 :: a8 :: a9 :: some (.int x) :: ls) st sh hi hl hr := J_iload d rfl kk
theorem S_aload_10 {a0 a1 a2 a3 a4 a5 a6 a7 a8 a9 : Option Value} {i : Nat} (d : decode M.2.1 pc = .ok (.aload 10, 2)) (kk : svJ l G R M F cs sl (pc + 2) (a0 :: a1 :: a2 :: a3 :: a4 :: a5 :: a6 :: a7 :: a8 :: a9 :: some (sv_rf G.1 i) :: ls) (sv_rf G.1 i :: st) sh hi hl hr) : svJ l G R M F cs sl pc (a0 :: a1 :: a2 :: a3 :: a4 :: a5 :: a6 :: a7 :: a8 :: a9 :: some (sv_rf G.1 i) :: ls) st sh hi hl hr := J_aload d rfl kk
theorem S_aloadN_10 {a0 a1 a2 a3 a4 a5 a6 a7 a8 a9 : Option Value}  (d : decode M.2.1 pc = .ok (.aload 10, 2)) (kk : svJ l G R M F cs sl (pc + 2) (a0 :: a1 :: a2 :: a3 :: a4 :: a5 :: a6 :: a7 :: a8 :: a9 :: some (.null) :: ls) (.null :: st) sh hi hl hr) : svJ l G R M F cs sl pc (a0 :: a1 :: a2 :: a3 :: a4 :: a5 :: a6 :: a7 :: a8 :: a9 :: some (.null) :: ls) st sh hi hl hr := J_aloadN d rfl kk
theorem S_istore_10 {a0 a1 a2 a3 a4 a5 a6 a7 a8 a9 : Option Value} {z : Option Value} {x : Int32} (d : decode M.2.1 pc = .ok (.istore 10, 2)) (hn : 10 < M.2.2.1) (kk : svJ l G R M F cs sl (pc + 2) (a0 :: a1 :: a2 :: a3 :: a4 :: a5 :: a6 :: a7 :: a8 :: a9 :: some (.int x) :: ls) st sh hi hl hr) : svJ l G R M F cs sl pc (a0 :: a1 :: a2 :: a3 :: a4 :: a5 :: a6 :: a7 :: a8 :: a9 :: z :: ls) (.int x :: st) sh hi hl hr := J_istore d hn kk
theorem S_astore_10 {a0 a1 a2 a3 a4 a5 a6 a7 a8 a9 : Option Value} {z : Option Value} {i : Nat} (d : decode M.2.1 pc = .ok (.astore 10, 2)) (hn : 10 < M.2.2.1) (kk : svJ l G R M F cs sl (pc + 2) (a0 :: a1 :: a2 :: a3 :: a4 :: a5 :: a6 :: a7 :: a8 :: a9 :: some (sv_rf G.1 i) :: ls) st sh hi hl hr) : svJ l G R M F cs sl pc (a0 :: a1 :: a2 :: a3 :: a4 :: a5 :: a6 :: a7 :: a8 :: a9 :: z :: ls) (sv_rf G.1 i :: st) sh hi hl hr := J_astore d hn kk
theorem S_astoreN_10 {a0 a1 a2 a3 a4 a5 a6 a7 a8 a9 : Option Value} {z : Option Value}  (d : decode M.2.1 pc = .ok (.astore 10, 2)) (hn : 10 < M.2.2.1) (kk : svJ l G R M F cs sl (pc + 2) (a0 :: a1 :: a2 :: a3 :: a4 :: a5 :: a6 :: a7 :: a8 :: a9 :: some (.null) :: ls) st sh hi hl hr) : svJ l G R M F cs sl pc (a0 :: a1 :: a2 :: a3 :: a4 :: a5 :: a6 :: a7 :: a8 :: a9 :: z :: ls) (.null :: st) sh hi hl hr := J_astoreN d hn kk
theorem S_iinc_10 {a0 a1 a2 a3 a4 a5 a6 a7 a8 a9 : Option Value} {x v : Int32} {n : Int} (d : decode M.2.1 pc = .ok (.iinc 10 n, 3)) (hv : x + Int32.ofInt n = v) (hn : 10 < M.2.2.1) (kk : svJ l G R M F cs sl (pc + 3) (a0 :: a1 :: a2 :: a3 :: a4 :: a5 :: a6 :: a7 :: a8 :: a9 :: some (.int v) :: ls) st sh hi hl hr) : svJ l G R M F cs sl pc (a0 :: a1 :: a2 :: a3 :: a4 :: a5 :: a6 :: a7 :: a8 :: a9 :: some (.int x) :: ls) st sh hi hl hr := J_iinc d rfl hv hn kk
end SvSites
