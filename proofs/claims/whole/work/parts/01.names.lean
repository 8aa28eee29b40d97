-- ===== PART A: goes FIRST, ahead of the names: the tables' words, and 'selects' of the private methods out of them =====
/-- a private method of a class that the tables say can be made, by its rows of tables_1 -/
def lw_okq (q : MethodName × Nat) : Prop := (q.1.cls ≠ "java/lang/invoke/MethodHandle" ∧ q.1.cls ≠ "java/lang/invoke/VarHandle") ∧ Cond.instantiable q.1.cls q.2 ∈ tables_1 ∧ Cond.privateMethod q.1 ∈ tables_1 ∧ Cond.instanceMethod q.1 ∈ tables_1
theorem lw_p0 : lw_okq (⟨"TapOffice$Card", "recordCopy", "()I"⟩, 2) := ⟨⟨by decide +kernel, by decide +kernel⟩, List.mem_of_getElem? (i := 49) (by decide +kernel), List.mem_of_getElem? (i := 196) (by decide +kernel), List.mem_of_getElem? (i := 197) (by decide +kernel)⟩
theorem lw_p1 : lw_okq (⟨"TapOffice$Card", "startDraft", "(I)V"⟩, 2) := ⟨⟨by decide +kernel, by decide +kernel⟩, List.mem_of_getElem? (i := 49) (by decide +kernel), List.mem_of_getElem? (i := 208) (by decide +kernel), List.mem_of_getElem? (i := 209) (by decide +kernel)⟩
theorem lw_p2 : lw_okq (⟨"TapOffice$Card", "draftExit", "(IILTapOffice$Tariff;)I"⟩, 2) := ⟨⟨by decide +kernel, by decide +kernel⟩, List.mem_of_getElem? (i := 49) (by decide +kernel), List.mem_of_getElem? (i := 226) (by decide +kernel), List.mem_of_getElem? (i := 227) (by decide +kernel)⟩
theorem lw_p3 : lw_okq (⟨"TapOffice$Tariff", "price", "(II)I"⟩, 2) := ⟨⟨by decide +kernel, by decide +kernel⟩, List.mem_of_getElem? (i := 19) (by decide +kernel), List.mem_of_getElem? (i := 235) (by decide +kernel), List.mem_of_getElem? (i := 236) (by decide +kernel)⟩
theorem lw_p4 : lw_okq (⟨"TapOffice$Card", "priceOutOfTime", "(IILTapOffice$Tariff;)I"⟩, 2) := ⟨⟨by decide +kernel, by decide +kernel⟩, List.mem_of_getElem? (i := 49) (by decide +kernel), List.mem_of_getElem? (i := 239) (by decide +kernel), List.mem_of_getElem? (i := 240) (by decide +kernel)⟩
theorem lw_p5 : lw_okq (⟨"TapOffice$Card", "draftEntry", "(IILTapOffice$Tariff;)I"⟩, 2) := ⟨⟨by decide +kernel, by decide +kernel⟩, List.mem_of_getElem? (i := 49) (by decide +kernel), List.mem_of_getElem? (i := 257) (by decide +kernel), List.mem_of_getElem? (i := 258) (by decide +kernel)⟩
theorem lw_p6 : lw_okq (⟨"TapOffice$Account", "enter", "(III)Z"⟩, 7) := ⟨⟨by decide +kernel, by decide +kernel⟩, List.mem_of_getElem? (i := 67) (by decide +kernel), List.mem_of_getElem? (i := 283) (by decide +kernel), List.mem_of_getElem? (i := 284) (by decide +kernel)⟩
theorem lw_p7 : lw_okq (⟨"TapOffice", "receiveEntry", "(II)V"⟩, 8) := ⟨⟨by decide +kernel, by decide +kernel⟩, List.mem_of_getElem? (i := 11) (by decide +kernel), List.mem_of_getElem? (i := 296) (by decide +kernel), List.mem_of_getElem? (i := 297) (by decide +kernel)⟩
theorem lw_p8 : lw_okq (⟨"TapOffice", "entriesInLogs", "()I"⟩, 8) := ⟨⟨by decide +kernel, by decide +kernel⟩, List.mem_of_getElem? (i := 11) (by decide +kernel), List.mem_of_getElem? (i := 373) (by decide +kernel), List.mem_of_getElem? (i := 374) (by decide +kernel)⟩
theorem lw_p9 : lw_okq (⟨"TapOfficeModel", "load", "(I)V"⟩, 16) := ⟨⟨by decide +kernel, by decide +kernel⟩, List.mem_of_getElem? (i := 383) (by decide +kernel), List.mem_of_getElem? (i := 461) (by decide +kernel), List.mem_of_getElem? (i := 462) (by decide +kernel)⟩
theorem lw_p10 : lw_okq (⟨"TapOfficeModel", "base", "(I)I"⟩, 16) := ⟨⟨by decide +kernel, by decide +kernel⟩, List.mem_of_getElem? (i := 383) (by decide +kernel), List.mem_of_getElem? (i := 465) (by decide +kernel), List.mem_of_getElem? (i := 466) (by decide +kernel)⟩
theorem lw_p11 : lw_okq (⟨"TapOfficeModel", "spent", "(I)I"⟩, 16) := ⟨⟨by decide +kernel, by decide +kernel⟩, List.mem_of_getElem? (i := 383) (by decide +kernel), List.mem_of_getElem? (i := 469) (by decide +kernel), List.mem_of_getElem? (i := 470) (by decide +kernel)⟩
theorem lw_p12 : lw_okq (⟨"TapOfficeModel", "leave", "(II)I"⟩, 16) := ⟨⟨by decide +kernel, by decide +kernel⟩, List.mem_of_getElem? (i := 383) (by decide +kernel), List.mem_of_getElem? (i := 473) (by decide +kernel), List.mem_of_getElem? (i := 474) (by decide +kernel)⟩
theorem lw_p13 : lw_okq (⟨"TapOfficeModel", "full", "(I)I"⟩, 16) := ⟨⟨by decide +kernel, by decide +kernel⟩, List.mem_of_getElem? (i := 383) (by decide +kernel), List.mem_of_getElem? (i := 477) (by decide +kernel), List.mem_of_getElem? (i := 478) (by decide +kernel)⟩
theorem lw_p14 : lw_okq (⟨"TapOfficeModel", "price", "(II)I"⟩, 16) := ⟨⟨by decide +kernel, by decide +kernel⟩, List.mem_of_getElem? (i := 383) (by decide +kernel), List.mem_of_getElem? (i := 481) (by decide +kernel), List.mem_of_getElem? (i := 482) (by decide +kernel)⟩
theorem lw_p15 : lw_okq (⟨"TapOfficeModel", "capped", "(II)I"⟩, 16) := ⟨⟨by decide +kernel, by decide +kernel⟩, List.mem_of_getElem? (i := 383) (by decide +kernel), List.mem_of_getElem? (i := 485) (by decide +kernel), List.mem_of_getElem? (i := 486) (by decide +kernel)⟩
def lw_privs_1 : List (MethodName × Nat) := [(⟨"TapOffice$Card", "recordCopy", "()I"⟩, 2), (⟨"TapOffice$Card", "startDraft", "(I)V"⟩, 2), (⟨"TapOffice$Card", "draftExit", "(IILTapOffice$Tariff;)I"⟩, 2), (⟨"TapOffice$Tariff", "price", "(II)I"⟩, 2), (⟨"TapOffice$Card", "priceOutOfTime", "(IILTapOffice$Tariff;)I"⟩, 2), (⟨"TapOffice$Card", "draftEntry", "(IILTapOffice$Tariff;)I"⟩, 2), (⟨"TapOffice$Account", "enter", "(III)Z"⟩, 7), (⟨"TapOffice", "receiveEntry", "(II)V"⟩, 8), (⟨"TapOffice", "entriesInLogs", "()I"⟩, 8), (⟨"TapOfficeModel", "load", "(I)V"⟩, 16), (⟨"TapOfficeModel", "base", "(I)I"⟩, 16), (⟨"TapOfficeModel", "spent", "(I)I"⟩, 16), (⟨"TapOfficeModel", "leave", "(II)I"⟩, 16), (⟨"TapOfficeModel", "full", "(I)I"⟩, 16), (⟨"TapOfficeModel", "price", "(II)I"⟩, 16), (⟨"TapOfficeModel", "capped", "(II)I"⟩, 16)]
theorem lw_r1 : ∀ q ∈ lw_privs_1, lw_okq q := List.forall_mem_cons.mpr ⟨lw_p0, List.forall_mem_cons.mpr ⟨lw_p1, List.forall_mem_cons.mpr ⟨lw_p2, List.forall_mem_cons.mpr ⟨lw_p3, List.forall_mem_cons.mpr ⟨lw_p4, List.forall_mem_cons.mpr ⟨lw_p5, List.forall_mem_cons.mpr ⟨lw_p6, List.forall_mem_cons.mpr ⟨lw_p7, List.forall_mem_cons.mpr ⟨lw_p8, List.forall_mem_cons.mpr ⟨lw_p9, List.forall_mem_cons.mpr ⟨lw_p10, List.forall_mem_cons.mpr ⟨lw_p11, List.forall_mem_cons.mpr ⟨lw_p12, List.forall_mem_cons.mpr ⟨lw_p13, List.forall_mem_cons.mpr ⟨lw_p14, List.forall_mem_cons.mpr ⟨lw_p15, fun _ h => absurd h List.not_mem_nil⟩⟩⟩⟩⟩⟩⟩⟩⟩⟩⟩⟩⟩⟩⟩⟩
theorem lw_p16 : lw_okq (⟨"TapOfficeModel", "enter", "(II)I"⟩, 16) := ⟨⟨by decide +kernel, by decide +kernel⟩, List.mem_of_getElem? (i := 383) (by decide +kernel), List.mem_of_getElem? (i := 489) (by decide +kernel), List.mem_of_getElem? (i := 490) (by decide +kernel)⟩
theorem lw_p17 : lw_okq (⟨"TapOfficeModel", "counter", "(I)I"⟩, 16) := ⟨⟨by decide +kernel, by decide +kernel⟩, List.mem_of_getElem? (i := 383) (by decide +kernel), List.mem_of_getElem? (i := 493) (by decide +kernel), List.mem_of_getElem? (i := 494) (by decide +kernel)⟩
theorem lw_p18 : lw_okq (⟨"TapOfficeModel", "change", "(II)V"⟩, 16) := ⟨⟨by decide +kernel, by decide +kernel⟩, List.mem_of_getElem? (i := 383) (by decide +kernel), List.mem_of_getElem? (i := 497) (by decide +kernel), List.mem_of_getElem? (i := 498) (by decide +kernel)⟩
theorem lw_p19 : lw_okq (⟨"TapOfficeModel", "enterOffice", "(IIIII)V"⟩, 16) := ⟨⟨by decide +kernel, by decide +kernel⟩, List.mem_of_getElem? (i := 383) (by decide +kernel), List.mem_of_getElem? (i := 505) (by decide +kernel), List.mem_of_getElem? (i := 506) (by decide +kernel)⟩
theorem lw_p20 : lw_okq (⟨"TapOfficeModel", "known", "(I)I"⟩, 16) := ⟨⟨by decide +kernel, by decide +kernel⟩, List.mem_of_getElem? (i := 383) (by decide +kernel), List.mem_of_getElem? (i := 533) (by decide +kernel), List.mem_of_getElem? (i := 534) (by decide +kernel)⟩
theorem lw_p21 : lw_okq (⟨"TapOfficeModel", "greatest", "(I)I"⟩, 16) := ⟨⟨by decide +kernel, by decide +kernel⟩, List.mem_of_getElem? (i := 383) (by decide +kernel), List.mem_of_getElem? (i := 537) (by decide +kernel), List.mem_of_getElem? (i := 538) (by decide +kernel)⟩
theorem lw_p22 : lw_okq (⟨"TapOfficeModel", "lost", "(I)I"⟩, 16) := ⟨⟨by decide +kernel, by decide +kernel⟩, List.mem_of_getElem? (i := 383) (by decide +kernel), List.mem_of_getElem? (i := 541) (by decide +kernel), List.mem_of_getElem? (i := 542) (by decide +kernel)⟩
theorem lw_p23 : lw_okq (⟨"TapOfficeModel", "sum", "(II)I"⟩, 16) := ⟨⟨by decide +kernel, by decide +kernel⟩, List.mem_of_getElem? (i := 383) (by decide +kernel), List.mem_of_getElem? (i := 545) (by decide +kernel), List.mem_of_getElem? (i := 546) (by decide +kernel)⟩
def lw_privs_2 : List (MethodName × Nat) := [(⟨"TapOfficeModel", "enter", "(II)I"⟩, 16), (⟨"TapOfficeModel", "counter", "(I)I"⟩, 16), (⟨"TapOfficeModel", "change", "(II)V"⟩, 16), (⟨"TapOfficeModel", "enterOffice", "(IIIII)V"⟩, 16), (⟨"TapOfficeModel", "known", "(I)I"⟩, 16), (⟨"TapOfficeModel", "greatest", "(I)I"⟩, 16), (⟨"TapOfficeModel", "lost", "(I)I"⟩, 16), (⟨"TapOfficeModel", "sum", "(II)I"⟩, 16)]
theorem lw_r2 : ∀ q ∈ lw_privs_2, lw_okq q := List.forall_mem_cons.mpr ⟨lw_p16, List.forall_mem_cons.mpr ⟨lw_p17, List.forall_mem_cons.mpr ⟨lw_p18, List.forall_mem_cons.mpr ⟨lw_p19, List.forall_mem_cons.mpr ⟨lw_p20, List.forall_mem_cons.mpr ⟨lw_p21, List.forall_mem_cons.mpr ⟨lw_p22, List.forall_mem_cons.mpr ⟨lw_p23, fun _ h => absurd h List.not_mem_nil⟩⟩⟩⟩⟩⟩⟩⟩
def lw_privs : List (MethodName × Nat) := lw_privs_1 ++ (lw_privs_2)
def lw_tbl : List Cond := k2_sels lw_privs ++ tables_1
theorem lw_privs_ok : ∀ q ∈ lw_privs, lw_okq q := by
  show ∀ q ∈ lw_privs_1 ++ (lw_privs_2), lw_okq q
  exact List.forall_mem_append.mpr ⟨lw_r1, lw_r2⟩
/-! the words that travel: every good word of the tables -/
def tb_ok : List Cond := lw_tbl.filter goodWord
theorem tb_mem {w : Cond} (h : w ∈ lw_tbl) (hg : goodWord w = true) : w ∈ tb_ok := List.mem_filter.mpr ⟨h, hg⟩
theorem tb_use {x : Cond} {args : Array Value} {s : State} (hts : ∀ w ∈ x :: tb_ok, w.before args s = true) : ∀ w ∈ lw_tbl, goodWord w = true → w.before args s = true := fun w h hg => hts w (List.mem_cons_of_mem _ (tb_mem h hg))
theorem tb_C {x : Cond} {y : MethodName} {b : ByteArray} {n : Nat} {r : Option FieldType} (hc : Cond.code y b n r ∈ lw_tbl) : GoodIn (x :: tb_ok) (Cond.code y b n r :: tb_ok) := by
  intro w hw
  rcases List.mem_cons.mp hw with rfl | h
  · exact ⟨List.mem_cons_of_mem _ (tb_mem hc rfl), good_of_word rfl⟩
  · exact ⟨List.mem_cons_of_mem _ h, good_of_word (List.mem_filter.mp h).2⟩
theorem tb_1 {x : Cond} {ws : List Cond} {w0 : Cond} (h0 : w0 ∈ lw_tbl) (hg : goodWord w0 = true) (h : GoodIn (x :: tb_ok) ws) : GoodIn (x :: tb_ok) (w0 :: ws) := by
  intro w hw
  rcases List.mem_cons.mp hw with rfl | hw
  · exact ⟨List.mem_cons_of_mem _ (tb_mem h0 hg), good_of_word hg⟩
  · exact h w hw
theorem tb_V {x : Cond} {own C : String} {i : Nat} {y : MethodName} {b : ByteArray} {n : Nat} {r : Option FieldType} (hc : Cond.code y b n r ∈ lw_tbl) (h1 : Cond.methodLink own i y ∈ lw_tbl) (h2 : Cond.instanceMethod y ∈ lw_tbl) (h3 : Cond.selects C y y ∈ lw_tbl) (h4 : Cond.initialized C ∈ lw_tbl) : GoodIn (x :: tb_ok) (wsV own i C y (Cond.code y b n r :: tb_ok)) := tb_1 h1 rfl (tb_1 h2 rfl (tb_1 h3 rfl (tb_1 h4 rfl (tb_C hc))))
theorem tb_S {x : Cond} {own : String} {i : Nat} {y : MethodName} {b : ByteArray} {n : Nat} {r : Option FieldType} (hc : Cond.code y b n r ∈ lw_tbl) (h1 : Cond.methodLink own i y ∈ lw_tbl) (h2 : Cond.static y ∈ lw_tbl) (h3 : Cond.initialized y.cls ∈ lw_tbl) : GoodIn (x :: tb_ok) (va_wsS own i y (Cond.code y b n r :: tb_ok)) := tb_1 h1 rfl (tb_1 h2 rfl (tb_1 h3 rfl (tb_C hc)))
abbrev bO_init : ByteArray := prog_1_method_1_code
def yO_init : MethodName := ⟨"TapOffice", "<init>", "()V"⟩
def wO_init : List Cond := .code yO_init bO_init 2 none :: tb_ok
abbrev bT_init : ByteArray := prog_4_method_1_code
def yT_init : MethodName := ⟨"TapOffice$Tariff", "<init>", "()V"⟩
def wT_init : List Cond := .code yT_init bT_init 1 none :: tb_ok
abbrev bC_init : ByteArray := prog_3_method_1_code
def yC_init : MethodName := ⟨"TapOffice$Card", "<init>", "()V"⟩
def wC_init : List Cond := .code yC_init bC_init 1 none :: tb_ok
abbrev bA_init : ByteArray := prog_2_method_1_code
def yA_init : MethodName := ⟨"TapOffice$Account", "<init>", "()V"⟩
def wA_init : List Cond := .code yA_init bA_init 1 none :: tb_ok
abbrev bV_init : ByteArray := prog_5_method_1_code
def yV_init : MethodName := ⟨"TapOffice$Validator", "<init>", "(I)V"⟩
def wV_init : List Cond := .code yV_init bV_init 2 none :: tb_ok
abbrev bO_fare : ByteArray := prog_1_method_2_code
def yO_fare : MethodName := ⟨"TapOffice", "fare", "(III)I"⟩
def wO_fare : List Cond := .code yO_fare bO_fare 4 (some .int) :: tb_ok
abbrev bO_isBelow : ByteArray := prog_1_method_16_code
def yO_isBelow : MethodName := ⟨"TapOffice", "isBelow", "(II)Z"⟩
def wO_isBelow : List Cond := .code yO_isBelow bO_isBelow 2 (some .boolean) :: tb_ok
abbrev bT_putFare : ByteArray := prog_4_method_2_code
def yT_putFare : MethodName := ⟨"TapOffice$Tariff", "putFare", "(III)V"⟩
def wT_putFare : List Cond := .code yT_putFare bT_putFare 4 none :: tb_ok
abbrev bO_set : ByteArray := prog_1_method_3_code
def yO_set : MethodName := ⟨"TapOffice", "set", "(II)I"⟩
def wO_set : List Cond := .code yO_set bO_set 3 (some .int) :: tb_ok
abbrev bT_putSetting : ByteArray := prog_4_method_3_code
def yT_putSetting : MethodName := ⟨"TapOffice$Tariff", "putSetting", "(II)V"⟩
def wT_putSetting : List Cond := .code yT_putSetting bT_putSetting 3 none :: tb_ok
abbrev bO_place : ByteArray := prog_1_method_4_code
def yO_place : MethodName := ⟨"TapOffice", "place", "(IIZ)I"⟩
def wO_place : List Cond := .code yO_place bO_place 4 (some .int) :: tb_ok
abbrev bV_moveTo : ByteArray := prog_5_method_2_code
def yV_moveTo : MethodName := ⟨"TapOffice$Validator", "moveTo", "(IZ)V"⟩
def wV_moveTo : List Cond := .code yV_moveTo bV_moveTo 3 none :: tb_ok
abbrev bO_clock : ByteArray := prog_1_method_5_code
def yO_clock : MethodName := ⟨"TapOffice", "clock", "(I)I"⟩
def wO_clock : List Cond := .code yO_clock bO_clock 2 (some .int) :: tb_ok
abbrev bO_tap : ByteArray := prog_1_method_6_code
def yO_tap : MethodName := ⟨"TapOffice", "tap", "(III)I"⟩
def wO_tap : List Cond := .code yO_tap bO_tap 7 (some .int) :: tb_ok
abbrev bV_isFull : ByteArray := prog_5_method_7_code
def yV_isFull : MethodName := ⟨"TapOffice$Validator", "isFull", "()Z"⟩
def wV_isFull : List Cond := .code yV_isFull bV_isFull 1 (some .boolean) :: tb_ok
abbrev bV_denies : ByteArray := prog_5_method_5_code
def yV_denies : MethodName := ⟨"TapOffice$Validator", "denies", "(I)Z"⟩
def wV_denies : List Cond := .code yV_denies bV_denies 2 (some .boolean) :: tb_ok
abbrev bV_isExit : ByteArray := prog_5_method_4_code
def yV_isExit : MethodName := ⟨"TapOffice$Validator", "isExit", "()Z"⟩
def wV_isExit : List Cond := .code yV_isExit bV_isExit 1 (some .boolean) :: tb_ok
abbrev bC_read : ByteArray := prog_3_method_3_code
def yC_read : MethodName := ⟨"TapOffice$Card", "read", "(I)I"⟩
def wC_read : List Cond := .code yC_read bC_read 2 (some .int) :: tb_ok
abbrev bC_recordCopy : ByteArray := prog_3_method_9_code
def yC_recordCopy : MethodName := ⟨"TapOffice$Card", "recordCopy", "()I"⟩
def wC_recordCopy : List Cond := .code yC_recordCopy bC_recordCopy 1 (some .int) :: tb_ok
abbrev bT_least : ByteArray := prog_4_method_4_code
def yT_least : MethodName := ⟨"TapOffice$Tariff", "least", "()I"⟩
def wT_least : List Cond := .code yT_least bT_least 1 (some .int) :: tb_ok
abbrev bC_draftTap : ByteArray := prog_3_method_7_code
def yC_draftTap : MethodName := ⟨"TapOffice$Card", "draftTap", "(LTapOffice$Validator;ILTapOffice$Tariff;)I"⟩
def wC_draftTap : List Cond := .code yC_draftTap bC_draftTap 5 (some .int) :: tb_ok
abbrev bC_startDraft : ByteArray := prog_3_method_10_code
def yC_startDraft : MethodName := ⟨"TapOffice$Card", "startDraft", "(I)V"⟩
def wC_startDraft : List Cond := .code yC_startDraft bC_startDraft 3 none :: tb_ok
abbrev bC_spentOn : ByteArray := prog_3_method_5_code
def yC_spentOn : MethodName := ⟨"TapOffice$Card", "spentOn", "(I)I"⟩
def wC_spentOn : List Cond := .code yC_spentOn bC_spentOn 2 (some .int) :: tb_ok
abbrev bC_counter : ByteArray := prog_3_method_4_code
def yC_counter : MethodName := ⟨"TapOffice$Card", "counter", "()I"⟩
def wC_counter : List Cond := .code yC_counter bC_counter 1 (some .int) :: tb_ok
abbrev bV_zone : ByteArray := prog_5_method_3_code
def yV_zone : MethodName := ⟨"TapOffice$Validator", "zone", "()I"⟩
def wV_zone : List Cond := .code yV_zone bV_zone 1 (some .int) :: tb_ok
abbrev bC_draftExit : ByteArray := prog_3_method_12_code
def yC_draftExit : MethodName := ⟨"TapOffice$Card", "draftExit", "(IILTapOffice$Tariff;)I"⟩
def wC_draftExit : List Cond := .code yC_draftExit bC_draftExit 7 (some .int) :: tb_ok
abbrev bT_priceBetween : ByteArray := prog_4_method_5_code
def yT_priceBetween : MethodName := ⟨"TapOffice$Tariff", "priceBetween", "(III)I"⟩
def wT_priceBetween : List Cond := .code yT_priceBetween bT_priceBetween 4 (some .int) :: tb_ok
abbrev bT_price : ByteArray := prog_4_method_8_code
def yT_price : MethodName := ⟨"TapOffice$Tariff", "price", "(II)I"⟩
def wT_price : List Cond := .code yT_price bT_price 5 (some .int) :: tb_ok
abbrev bC_priceOutOfTime : ByteArray := prog_3_method_13_code
def yC_priceOutOfTime : MethodName := ⟨"TapOffice$Card", "priceOutOfTime", "(IILTapOffice$Tariff;)I"⟩
def wC_priceOutOfTime : List Cond := .code yC_priceOutOfTime bC_priceOutOfTime 4 (some .int) :: tb_ok
abbrev bT_fullPrice : ByteArray := prog_4_method_6_code
def yT_fullPrice : MethodName := ⟨"TapOffice$Tariff", "fullPrice", "(II)I"⟩
def wT_fullPrice : List Cond := .code yT_fullPrice bT_fullPrice 5 (some .int) :: tb_ok
abbrev bT_capped : ByteArray := prog_4_method_7_code
def yT_capped : MethodName := ⟨"TapOffice$Tariff", "capped", "(II)I"⟩
def wT_capped : List Cond := .code yT_capped bT_capped 3 (some .int) :: tb_ok
abbrev bC_draftEntry : ByteArray := prog_3_method_11_code
def yC_draftEntry : MethodName := ⟨"TapOffice$Card", "draftEntry", "(IILTapOffice$Tariff;)I"⟩
def wC_draftEntry : List Cond := .code yC_draftEntry bC_draftEntry 6 (some .int) :: tb_ok
abbrev bC_writeDraft : ByteArray := prog_3_method_8_code
def yC_writeDraft : MethodName := ⟨"TapOffice$Card", "writeDraft", "(I)V"⟩
def wC_writeDraft : List Cond := .code yC_writeDraft bC_writeDraft 4 none :: tb_ok
abbrev bV_keepEntry : ByteArray := prog_5_method_10_code
def yV_keepEntry : MethodName := ⟨"TapOffice$Validator", "keepEntry", "(IIII)V"⟩
def wV_keepEntry : List Cond := .code yV_keepEntry bV_keepEntry 6 none :: tb_ok
abbrev bO_topUp : ByteArray := prog_1_method_7_code
def yO_topUp : MethodName := ⟨"TapOffice", "topUp", "(II)I"⟩
def wO_topUp : List Cond := .code yO_topUp bO_topUp 5 (some .int) :: tb_ok
abbrev bC_draftTopUp : ByteArray := prog_3_method_6_code
def yC_draftTopUp : MethodName := ⟨"TapOffice$Card", "draftTopUp", "(II)V"⟩
def wC_draftTopUp : List Cond := .code yC_draftTopUp bC_draftTopUp 3 none :: tb_ok
abbrev bA_enterTopUp : ByteArray := prog_2_method_8_code
def yA_enterTopUp : MethodName := ⟨"TapOffice$Account", "enterTopUp", "(III)V"⟩
def wA_enterTopUp : List Cond := .code yA_enterTopUp bA_enterTopUp 4 none :: tb_ok
abbrev bA_enter : ByteArray := prog_2_method_10_code
def yA_enter : MethodName := ⟨"TapOffice$Account", "enter", "(III)Z"⟩
def wA_enter : List Cond := .code yA_enter bA_enter 4 (some .boolean) :: tb_ok
abbrev bO_upload : ByteArray := prog_1_method_8_code
def yO_upload : MethodName := ⟨"TapOffice", "upload", "(IZ)I"⟩
def wO_upload : List Cond := .code yO_upload bO_upload 6 (some .int) :: tb_ok
abbrev bV_logSize : ByteArray := prog_5_method_8_code
def yV_logSize : MethodName := ⟨"TapOffice$Validator", "logSize", "()I"⟩
def wV_logSize : List Cond := .code yV_logSize bV_logSize 1 (some .int) :: tb_ok
abbrev bO_receiveEntry : ByteArray := prog_1_method_17_code
def yO_receiveEntry : MethodName := ⟨"TapOffice", "receiveEntry", "(II)V"⟩
def wO_receiveEntry : List Cond := .code yO_receiveEntry bO_receiveEntry 6 none :: tb_ok
abbrev bV_readEntry : ByteArray := prog_5_method_9_code
def yV_readEntry : MethodName := ⟨"TapOffice$Validator", "readEntry", "(II)I"⟩
def wV_readEntry : List Cond := .code yV_readEntry bV_readEntry 3 (some .int) :: tb_ok
abbrev bA_enterCharge : ByteArray := prog_2_method_7_code
def yA_enterCharge : MethodName := ⟨"TapOffice$Account", "enterCharge", "(III)V"⟩
def wA_enterCharge : List Cond := .code yA_enterCharge bA_enterCharge 4 none :: tb_ok
abbrev bV_emptyLog : ByteArray := prog_5_method_11_code
def yV_emptyLog : MethodName := ⟨"TapOffice$Validator", "emptyLog", "()V"⟩
def wV_emptyLog : List Cond := .code yV_emptyLog bV_emptyLog 1 none :: tb_ok
abbrev bV_takeDenied : ByteArray := prog_5_method_6_code
def yV_takeDenied : MethodName := ⟨"TapOffice$Validator", "takeDenied", "(I)V"⟩
def wV_takeDenied : List Cond := .code yV_takeDenied bV_takeDenied 2 none :: tb_ok
abbrev bO_deny : ByteArray := prog_1_method_9_code
def yO_deny : MethodName := ⟨"TapOffice", "deny", "(IZ)I"⟩
def wO_deny : List Cond := .code yO_deny bO_deny 3 (some .int) :: tb_ok
abbrev bO_word : ByteArray := prog_1_method_10_code
def yO_word : MethodName := ⟨"TapOffice", "word", "(III)I"⟩
def wO_word : List Cond := .code yO_word bO_word 4 (some .int) :: tb_ok
abbrev bC_readCopy : ByteArray := prog_3_method_2_code
def yC_readCopy : MethodName := ⟨"TapOffice$Card", "readCopy", "(II)I"⟩
def wC_readCopy : List Cond := .code yC_readCopy bC_readCopy 3 (some .int) :: tb_ok
abbrev bO_card : ByteArray := prog_1_method_11_code
def yO_card : MethodName := ⟨"TapOffice", "card", "(II)I"⟩
def wO_card : List Cond := .code yO_card bO_card 4 (some .int) :: tb_ok
abbrev bO_logged : ByteArray := prog_1_method_12_code
def yO_logged : MethodName := ⟨"TapOffice", "logged", "(III)I"⟩
def wO_logged : List Cond := .code yO_logged bO_logged 5 (some .int) :: tb_ok
abbrev bO_office : ByteArray := prog_1_method_13_code
def yO_office : MethodName := ⟨"TapOffice", "office", "(II)I"⟩
def wO_office : List Cond := .code yO_office bO_office 4 (some .int) :: tb_ok
abbrev bA_known : ByteArray := prog_2_method_2_code
def yA_known : MethodName := ⟨"TapOffice$Account", "known", "()I"⟩
def wA_known : List Cond := .code yA_known bA_known 1 (some .int) :: tb_ok
abbrev bA_greatestCounter : ByteArray := prog_2_method_3_code
def yA_greatestCounter : MethodName := ⟨"TapOffice$Account", "greatestCounter", "()I"⟩
def wA_greatestCounter : List Cond := .code yA_greatestCounter bA_greatestCounter 1 (some .int) :: tb_ok
abbrev bA_missing : ByteArray := prog_2_method_4_code
def yA_missing : MethodName := ⟨"TapOffice$Account", "missing", "()I"⟩
def wA_missing : List Cond := .code yA_missing bA_missing 1 (some .int) :: tb_ok
abbrev bA_lostMoney : ByteArray := prog_2_method_9_code
def yA_lostMoney : MethodName := ⟨"TapOffice$Account", "lostMoney", "()I"⟩
def wA_lostMoney : List Cond := .code yA_lostMoney bA_lostMoney 5 (some .int) :: tb_ok
abbrev bA_allCharges : ByteArray := prog_2_method_5_code
def yA_allCharges : MethodName := ⟨"TapOffice$Account", "allCharges", "()I"⟩
def wA_allCharges : List Cond := .code yA_allCharges bA_allCharges 1 (some .int) :: tb_ok
abbrev bA_allTopUps : ByteArray := prog_2_method_6_code
def yA_allTopUps : MethodName := ⟨"TapOffice$Account", "allTopUps", "()I"⟩
def wA_allTopUps : List Cond := .code yA_allTopUps bA_allTopUps 1 (some .int) :: tb_ok
abbrev bO_income : ByteArray := prog_1_method_14_code
def yO_income : MethodName := ⟨"TapOffice", "income", "(I)I"⟩
def wO_income : List Cond := .code yO_income bO_income 2 (some .int) :: tb_ok
abbrev bO_count : ByteArray := prog_1_method_15_code
def yO_count : MethodName := ⟨"TapOffice", "count", "(I)I"⟩
def wO_count : List Cond := .code yO_count bO_count 2 (some .int) :: tb_ok
abbrev bO_entriesInLogs : ByteArray := prog_1_method_18_code
def yO_entriesInLogs : MethodName := ⟨"TapOffice", "entriesInLogs", "()I"⟩
def wO_entriesInLogs : List Cond := .code yO_entriesInLogs bO_entriesInLogs 3 (some .int) :: tb_ok
abbrev bI_bitCount : ByteArray := prog_9_method_49_code
def yI_bitCount : MethodName := ⟨"java/lang/Integer", "bitCount", "(I)I"⟩
def wI_bitCount : List Cond := .code yI_bitCount bI_bitCount 1 (some .int) :: tb_ok
abbrev bM_init : ByteArray := prog_7_method_1_code
def yM_init : MethodName := ⟨"TapOfficeModel", "<init>", "()V"⟩
def wM_init : List Cond := .code yM_init bM_init 2 none :: tb_ok
abbrev bM_fare : ByteArray := prog_7_method_3_code
def yM_fare : MethodName := ⟨"TapOfficeModel", "fare", "(III)I"⟩
def wM_fare : List Cond := .code yM_fare bM_fare 4 (some .int) :: tb_ok
abbrev bM_in : ByteArray := prog_7_method_2_code
def yM_in : MethodName := ⟨"TapOfficeModel", "in", "(III)Z"⟩
def wM_in : List Cond := .code yM_in bM_in 3 (some .boolean) :: tb_ok
abbrev bM_set : ByteArray := prog_7_method_4_code
def yM_set : MethodName := ⟨"TapOfficeModel", "set", "(II)I"⟩
def wM_set : List Cond := .code yM_set bM_set 4 (some .int) :: tb_ok
abbrev bM_place : ByteArray := prog_7_method_5_code
def yM_place : MethodName := ⟨"TapOfficeModel", "place", "(IIZ)I"⟩
def wM_place : List Cond := .code yM_place bM_place 4 (some .int) :: tb_ok
abbrev bM_clock : ByteArray := prog_7_method_6_code
def yM_clock : MethodName := ⟨"TapOfficeModel", "clock", "(I)I"⟩
def wM_clock : List Cond := .code yM_clock bM_clock 2 (some .int) :: tb_ok
abbrev bM_tap : ByteArray := prog_7_method_15_code
def yM_tap : MethodName := ⟨"TapOfficeModel", "tap", "(III)I"⟩
def wM_tap : List Cond := .code yM_tap bM_tap 7 (some .int) :: tb_ok
abbrev bM_load : ByteArray := prog_7_method_14_code
def yM_load : MethodName := ⟨"TapOfficeModel", "load", "(I)V"⟩
def wM_load : List Cond := .code yM_load bM_load 4 none :: tb_ok
abbrev bM_base : ByteArray := prog_7_method_7_code
def yM_base : MethodName := ⟨"TapOfficeModel", "base", "(I)I"⟩
def wM_base : List Cond := .code yM_base bM_base 4 (some .int) :: tb_ok
abbrev bM_spent : ByteArray := prog_7_method_9_code
def yM_spent : MethodName := ⟨"TapOfficeModel", "spent", "(I)I"⟩
def wM_spent : List Cond := .code yM_spent bM_spent 3 (some .int) :: tb_ok
abbrev bM_leave : ByteArray := prog_7_method_17_code
def yM_leave : MethodName := ⟨"TapOfficeModel", "leave", "(II)I"⟩
def wM_leave : List Cond := .code yM_leave bM_leave 5 (some .int) :: tb_ok
abbrev bM_full : ByteArray := prog_7_method_10_code
def yM_full : MethodName := ⟨"TapOfficeModel", "full", "(I)I"⟩
def wM_full : List Cond := .code yM_full bM_full 4 (some .int) :: tb_ok
abbrev bM_price : ByteArray := prog_7_method_11_code
def yM_price : MethodName := ⟨"TapOfficeModel", "price", "(II)I"⟩
def wM_price : List Cond := .code yM_price bM_price 4 (some .int) :: tb_ok
abbrev bM_capped : ByteArray := prog_7_method_12_code
def yM_capped : MethodName := ⟨"TapOfficeModel", "capped", "(II)I"⟩
def wM_capped : List Cond := .code yM_capped bM_capped 5 (some .int) :: tb_ok
abbrev bM_enter : ByteArray := prog_7_method_16_code
def yM_enter : MethodName := ⟨"TapOfficeModel", "enter", "(II)I"⟩
def wM_enter : List Cond := .code yM_enter bM_enter 5 (some .int) :: tb_ok
abbrev bM_counter : ByteArray := prog_7_method_8_code
def yM_counter : MethodName := ⟨"TapOfficeModel", "counter", "(I)I"⟩
def wM_counter : List Cond := .code yM_counter bM_counter 2 (some .int) :: tb_ok
abbrev bM_change : ByteArray := prog_7_method_13_code
def yM_change : MethodName := ⟨"TapOfficeModel", "change", "(II)V"⟩
def wM_change : List Cond := .code yM_change bM_change 6 none :: tb_ok
abbrev bM_topUp : ByteArray := prog_7_method_19_code
def yM_topUp : MethodName := ⟨"TapOfficeModel", "topUp", "(II)I"⟩
def wM_topUp : List Cond := .code yM_topUp bM_topUp 3 (some .int) :: tb_ok
abbrev bM_enterOffice : ByteArray := prog_7_method_18_code
def yM_enterOffice : MethodName := ⟨"TapOfficeModel", "enterOffice", "(IIIII)V"⟩
def wM_enterOffice : List Cond := .code yM_enterOffice bM_enterOffice 6 none :: tb_ok
abbrev bM_upload : ByteArray := prog_7_method_20_code
def yM_upload : MethodName := ⟨"TapOfficeModel", "upload", "(IZ)I"⟩
def wM_upload : List Cond := .code yM_upload bM_upload 6 (some .int) :: tb_ok
abbrev bM_deny : ByteArray := prog_7_method_21_code
def yM_deny : MethodName := ⟨"TapOfficeModel", "deny", "(IZ)I"⟩
def wM_deny : List Cond := .code yM_deny bM_deny 3 (some .int) :: tb_ok
abbrev bM_word : ByteArray := prog_7_method_22_code
def yM_word : MethodName := ⟨"TapOfficeModel", "word", "(III)I"⟩
def wM_word : List Cond := .code yM_word bM_word 4 (some .int) :: tb_ok
abbrev bM_card : ByteArray := prog_7_method_23_code
def yM_card : MethodName := ⟨"TapOfficeModel", "card", "(II)I"⟩
def wM_card : List Cond := .code yM_card bM_card 3 (some .int) :: tb_ok
abbrev bM_logged : ByteArray := prog_7_method_24_code
def yM_logged : MethodName := ⟨"TapOfficeModel", "logged", "(III)I"⟩
def wM_logged : List Cond := .code yM_logged bM_logged 4 (some .int) :: tb_ok
abbrev bM_office : ByteArray := prog_7_method_29_code
def yM_office : MethodName := ⟨"TapOfficeModel", "office", "(II)I"⟩
def wM_office : List Cond := .code yM_office bM_office 3 (some .int) :: tb_ok
abbrev bM_known : ByteArray := prog_7_method_26_code
def yM_known : MethodName := ⟨"TapOfficeModel", "known", "(I)I"⟩
def wM_known : List Cond := .code yM_known bM_known 4 (some .int) :: tb_ok
abbrev bM_greatest : ByteArray := prog_7_method_27_code
def yM_greatest : MethodName := ⟨"TapOfficeModel", "greatest", "(I)I"⟩
def wM_greatest : List Cond := .code yM_greatest bM_greatest 4 (some .int) :: tb_ok
abbrev bM_lost : ByteArray := prog_7_method_28_code
def yM_lost : MethodName := ⟨"TapOfficeModel", "lost", "(I)I"⟩
def wM_lost : List Cond := .code yM_lost bM_lost 8 (some .int) :: tb_ok
abbrev bM_sum : ByteArray := prog_7_method_25_code
def yM_sum : MethodName := ⟨"TapOfficeModel", "sum", "(II)I"⟩
def wM_sum : List Cond := .code yM_sum bM_sum 5 (some .int) :: tb_ok
abbrev bM_income : ByteArray := prog_7_method_30_code
def yM_income : MethodName := ⟨"TapOfficeModel", "income", "(I)I"⟩
def wM_income : List Cond := .code yM_income bM_income 2 (some .int) :: tb_ok
abbrev bM_count : ByteArray := prog_7_method_31_code
def yM_count : MethodName := ⟨"TapOfficeModel", "count", "(I)I"⟩
def wM_count : List Cond := .code yM_count bM_count 5 (some .int) :: tb_ok
def T_O : u_T := fun k => match k with
  | 0 => ("TapOffice", "tariff", "LTapOffice$Tariff;", true)
  | 1 => ("TapOffice", "cards", "[LTapOffice$Card;", true)
  | 2 => ("TapOffice", "accounts", "[LTapOffice$Account;", true)
  | 3 => ("TapOffice", "validators", "[LTapOffice$Validator;", true)
  | 4 => ("TapOffice", "incomes", "[I", true)
  | 5 => ("TapOffice", "now", "I", false)
  | 6 => ("TapOffice", "deniedCards", "I", false)
  | _ => ("TapOffice", "tornTaps", "I", false)
def ty_O : Nat → FieldType := fun k => match k with
  | 0 => .object "TapOffice$Tariff"
  | 1 => .array (.object "TapOffice$Card")
  | 2 => .array (.object "TapOffice$Account")
  | 3 => .array (.object "TapOffice$Validator")
  | 4 => .array .int
  | 5 => .int
  | 6 => .int
  | _ => .int
theorem nm_O : ∀ a, a < 8 → ∀ b, b < 8 → a ≠ b → (T_O a).2.1 ≠ (T_O b).2.1 := by decide +kernel
theorem ty_O_ok : ∀ k, k < 8 → parseFieldDescriptor (T_O k).2.2.1 = some (ty_O k) := by decide +kernel
theorem inl_O : ∀ w ∈ u_ws "TapOffice" T_O 8, w ∈ lw_tbl ∧ goodWord w = true := by decide +kernel
theorem hin_O {x : Cond} : ∀ w ∈ u_ws "TapOffice" T_O 8, w ∈ x :: tb_ok := fun w h => List.mem_cons_of_mem _ (tb_mem (inl_O w h).1 (inl_O w h).2)
def T_T : u_T := fun k => match k with
  | 0 => ("TapOffice$Tariff", "fares", "[[I", true)
  | _ => ("TapOffice$Tariff", "settings", "[I", true)
def ty_T : Nat → FieldType := fun k => match k with
  | 0 => .array (.array .int)
  | _ => .array .int
theorem nm_T : ∀ a, a < 2 → ∀ b, b < 2 → a ≠ b → (T_T a).2.1 ≠ (T_T b).2.1 := by decide +kernel
theorem ty_T_ok : ∀ k, k < 2 → parseFieldDescriptor (T_T k).2.2.1 = some (ty_T k) := by decide +kernel
theorem inl_T : ∀ w ∈ u_ws "TapOffice$Tariff" T_T 2, w ∈ lw_tbl ∧ goodWord w = true := by decide +kernel
theorem hin_T {x : Cond} : ∀ w ∈ u_ws "TapOffice$Tariff" T_T 2, w ∈ x :: tb_ok := fun w h => List.mem_cons_of_mem _ (tb_mem (inl_T w h).1 (inl_T w h).2)
def T_C : u_T := fun k => match k with
  | 0 => ("TapOffice$Card", "copies", "[[I", true)
  | _ => ("TapOffice$Card", "draft", "[I", true)
def ty_C : Nat → FieldType := fun k => match k with
  | 0 => .array (.array .int)
  | _ => .array .int
theorem nm_C : ∀ a, a < 2 → ∀ b, b < 2 → a ≠ b → (T_C a).2.1 ≠ (T_C b).2.1 := by decide +kernel
theorem ty_C_ok : ∀ k, k < 2 → parseFieldDescriptor (T_C k).2.2.1 = some (ty_C k) := by decide +kernel
theorem inl_C : ∀ w ∈ u_ws "TapOffice$Card" T_C 2, w ∈ lw_tbl ∧ goodWord w = true := by decide +kernel
theorem hin_C {x : Cond} : ∀ w ∈ u_ws "TapOffice$Card" T_C 2, w ∈ x :: tb_ok := fun w h => List.mem_cons_of_mem _ (tb_mem (inl_C w h).1 (inl_C w h).2)
def T_A : u_T := fun k => match k with
  | 0 => ("TapOffice$Account", "has", "[Z", true)
  | 1 => ("TapOffice$Account", "before", "[I", true)
  | 2 => ("TapOffice$Account", "after", "[I", true)
  | 3 => ("TapOffice$Account", "entries", "I", false)
  | 4 => ("TapOffice$Account", "greatest", "I", false)
  | 5 => ("TapOffice$Account", "charges", "I", false)
  | _ => ("TapOffice$Account", "topUps", "I", false)
def ty_A : Nat → FieldType := fun k => match k with
  | 0 => .array .boolean
  | 1 => .array .int
  | 2 => .array .int
  | 3 => .int
  | 4 => .int
  | 5 => .int
  | _ => .int
theorem nm_A : ∀ a, a < 7 → ∀ b, b < 7 → a ≠ b → (T_A a).2.1 ≠ (T_A b).2.1 := by decide +kernel
theorem ty_A_ok : ∀ k, k < 7 → parseFieldDescriptor (T_A k).2.2.1 = some (ty_A k) := by decide +kernel
theorem inl_A : ∀ w ∈ u_ws "TapOffice$Account" T_A 7, w ∈ lw_tbl ∧ goodWord w = true := by decide +kernel
theorem hin_A {x : Cond} : ∀ w ∈ u_ws "TapOffice$Account" T_A 7, w ∈ x :: tb_ok := fun w h => List.mem_cons_of_mem _ (tb_mem (inl_A w h).1 (inl_A w h).2)
def T_V : u_T := fun k => match k with
  | 0 => ("TapOffice$Validator", "log", "[[I", true)
  | 1 => ("TapOffice$Validator", "size", "I", false)
  | 2 => ("TapOffice$Validator", "zone", "I", false)
  | 3 => ("TapOffice$Validator", "exit", "Z", false)
  | _ => ("TapOffice$Validator", "denied", "I", false)
def ty_V : Nat → FieldType := fun k => match k with
  | 0 => .array (.array .int)
  | 1 => .int
  | 2 => .int
  | 3 => .boolean
  | _ => .int
theorem nm_V : ∀ a, a < 5 → ∀ b, b < 5 → a ≠ b → (T_V a).2.1 ≠ (T_V b).2.1 := by decide +kernel
theorem ty_V_ok : ∀ k, k < 5 → parseFieldDescriptor (T_V k).2.2.1 = some (ty_V k) := by decide +kernel
theorem inl_V : ∀ w ∈ u_ws "TapOffice$Validator" T_V 5, w ∈ lw_tbl ∧ goodWord w = true := by decide +kernel
theorem hin_V {x : Cond} : ∀ w ∈ u_ws "TapOffice$Validator" T_V 5, w ∈ x :: tb_ok := fun w h => List.mem_cons_of_mem _ (tb_mem (inl_V w h).1 (inl_V w h).2)
def T_M : u_T := fun k => match k with
  | 0 => ("TapOfficeModel", "fare", "[I", true)
  | 1 => ("TapOfficeModel", "setting", "[I", true)
  | 2 => ("TapOfficeModel", "time", "I", false)
  | 3 => ("TapOfficeModel", "words", "[I", true)
  | 4 => ("TapOfficeModel", "next", "[I", true)
  | 5 => ("TapOfficeModel", "zone", "[I", true)
  | 6 => ("TapOfficeModel", "exit", "[Z", true)
  | 7 => ("TapOfficeModel", "log", "[I", true)
  | 8 => ("TapOfficeModel", "logged", "[I", true)
  | 9 => ("TapOfficeModel", "denies", "[Z", true)
  | 10 => ("TapOfficeModel", "denied", "[Z", true)
  | 11 => ("TapOfficeModel", "income", "[I", true)
  | 12 => ("TapOfficeModel", "torn", "I", false)
  | 13 => ("TapOfficeModel", "kind", "[I", true)
  | 14 => ("TapOfficeModel", "amount", "[I", true)
  | _ => ("TapOfficeModel", "balance", "[I", true)
def ty_M : Nat → FieldType := fun k => match k with
  | 0 => .array .int
  | 1 => .array .int
  | 2 => .int
  | 3 => .array .int
  | 4 => .array .int
  | 5 => .array .int
  | 6 => .array .boolean
  | 7 => .array .int
  | 8 => .array .int
  | 9 => .array .boolean
  | 10 => .array .boolean
  | 11 => .array .int
  | 12 => .int
  | 13 => .array .int
  | 14 => .array .int
  | _ => .array .int
theorem nm_M : ∀ a, a < 16 → ∀ b, b < 16 → a ≠ b → (T_M a).2.1 ≠ (T_M b).2.1 := by decide +kernel
theorem ty_M_ok : ∀ k, k < 16 → parseFieldDescriptor (T_M k).2.2.1 = some (ty_M k) := by decide +kernel
theorem inl_M : ∀ w ∈ u_ws "TapOfficeModel" T_M 16, w ∈ lw_tbl ∧ goodWord w = true := by decide +kernel
theorem hin_M {x : Cond} : ∀ w ∈ u_ws "TapOfficeModel" T_M 16, w ∈ x :: tb_ok := fun w h => List.mem_cons_of_mem _ (tb_mem (inl_M w h).1 (inl_M w h).2)
abbrev fw_cl : List vw_C := [("TapOffice", T_O, 8), ("TapOffice$Tariff", T_T, 2), ("TapOffice$Card", T_C, 2), ("TapOffice$Account", T_A, 7), ("TapOffice$Validator", T_V, 5), ("TapOfficeModel", T_M, 16)]
def fw_nb : Cond := .methodLinkNest "TapOffice$Tariff" 28 yO_isBelow "TapOffice"
