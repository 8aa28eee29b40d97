section
-- ===== PART A: goes FIRST, ahead of the names: the tables' words, and 'selects' of the private methods out of them =====
/-- a private method of a class that the tables say can be made, by its rows of tables_1 -/
def lw_okq (q : MethodName × Nat) : Prop := (q.1.cls ≠ "java/lang/invoke/MethodHandle" ∧ q.1.cls ≠ "java/lang/invoke/VarHandle") ∧ Cond.instantiable q.1.cls q.2 ∈ tables_1 ∧ Cond.privateMethod q.1 ∈ tables_1 ∧ Cond.instanceMethod q.1 ∈ tables_1
theorem lw_p0 : lw_okq (⟨"TapOffice$Card", "recordCopy", "()I"⟩, 2) := ⟨⟨by decide +kernel, by decide +kernel⟩, List.mem_of_getElem? (i := 49) (by decide +kernel), List.mem_of_getElem? (i := 196) (by decide +kernel), List.mem_of_getElem? (i := 197) (by decide +kernel)⟩
theorem lw_p1 : lw_okq (⟨"TapOffice$Card", "startDraft", "(I)V"⟩, 2) := ⟨⟨by decide +kernel, by decide +kernel⟩, List.mem_of_getElem? (i := 49) (by decide +kernel), List.mem_of_getElem? (i := 208) (by decide +kernel), List.mem_of_getElem? (i := 209) (by decide +kernel)⟩
theorem lw_p2 : lw_okq (⟨"TapOffice$Card", "draftExit", "(IILTapOffice$Tariff;)I"⟩, 2) := ⟨⟨by decide +kernel, by decide +kernel⟩, List.mem_of_getElem? (i := 49) (by decide +kernel), List.mem_of_getElem? (i := 226) (by decide +kernel), List.mem_of_getElem? (i := 227) (by decide +kernel)⟩
theorem lw_p3 : lw_okq (⟨"TapOffice$Tariff", "price", "(II)I"⟩, 2) := ⟨⟨by decide +kernel, by decide +kernel⟩, List.mem_of_getElem? (i := 19) (by decide +kernel), List.mem_of_getElem? (i := 235) (by decide +kernel), List.mem_of_getElem? (i := 236) (by decide +kernel)⟩
theorem lw_p4 : lw_okq (⟨"TapOffice$Card", "priceOutOfTime", "(IILTapOffice$Tariff;)I"⟩, 2) := ⟨⟨by decide +kernel, by decide +kernel⟩, List.mem_of_getElem? (i := 49) (by decide +kernel), List.mem_of_getElem? (i := 239) (by decide +kernel), List.mem_of_getElem? (i := 240) (by decide +kernel)⟩
theorem lw_p5 : lw_okq (⟨"TapOffice$Card", "draftEntry", "(IILTapOffice$Tariff;)I"⟩, 2) := ⟨⟨by decide +kernel, by decide +kernel⟩, List.mem_of_getElem? (i := 49) (by decide +kernel), List.mem_of_getElem? (i := 257) (by decide +kernel), List.mem_of_getElem? (i := 258) (by decide +kernel)⟩
theorem lw_p6 : lw_okq (⟨"TapOffice$Account", "enter", "(III)Z"⟩, 7) := ⟨⟨by decide +kernel, by decide +kernel⟩, List.mem_of_getElem? (i := 67) (by decide +kernel), List.mem_of_getElem? (i := 283) (by decide +kernel), List.mem_of_getElem? (i := 284) (by decide +kernel)⟩
theorem lw_p7 : lw_okq (⟨"TapOffice", "receiveEntry", "(II)V"⟩, 8) := ⟨⟨by decide +kernel, by decide +kernel⟩, List.mem_of_getElem? (i := 11) (by decide +kernel), List.mem_of_getElem? (i := 296) (by decide +kernel), List.mem_of_getElem? (i := 297) (by decide +kernel)⟩
theorem lw_p8 : lw_okq (⟨"TapOffice", "entriesInLogs", "()I"⟩, 8) := ⟨⟨by decide +kernel, by decide +kernel⟩, List.mem_of_getElem? (i := 11) (by decide +kernel), List.mem_of_getElem? (i := 373) (by decide +kernel), List.mem_of_getElem? (i := 374) (by decide +kernel)⟩
theorem lw_p9 : lw_okq (⟨"TapOfficeModel", "load", "(I)V"⟩, 16) := ⟨⟨by decide +kernel, by decide +kernel⟩, List.mem_of_getElem? (i := 383) (by decide +kernel), List.mem_of_getElem? (i := 461) (by decide +kernel), List.mem_of_getElem? (i := 462) (by decide +kernel)⟩
theorem lw_p10 : lw_okq (⟨"TapOfficeModel", "base", "(I)I"⟩, 16) := ⟨⟨by decide +kernel, by decide +kernel⟩, List.mem_of_getElem? (i := 383) (by decide +kernel), List.mem_of_getElem? (i := 465) (by decide +kernel), List.mem_of_getElem? (i := 466) (by decide +kernel)⟩
theorem lw_p11 : lw_okq (⟨"TapOfficeModel", "spent", "(I)I"⟩, 16) := ⟨⟨by decide +kernel, by decide +kernel⟩, List.mem_of_getElem? (i := 383) (by decide +kernel), List.mem_of_getElem? (i := 469) (by decide +kernel), List.mem_of_getElem? (i := 470) (by decide +kernel)⟩
theorem lw_p12 : lw_okq (⟨"TapOfficeModel", "leave", "(II)I"⟩, 16) := ⟨⟨by decide +kernel, by decide +kernel⟩, List.mem_of_getElem? (i := 383) (by decide +kernel), List.mem_of_getElem? (i := 473) (by decide +kernel), List.mem_of_getElem? (i := 474) (by decide +kernel)⟩
theorem lw_p13 : lw_okq (⟨"TapOfficeModel", "full", "(I)I"⟩, 16) := ⟨⟨by decide +kernel, by decide +kernel⟩, List.mem_of_getElem? (i := 383) (by decide +kernel), List.mem_of_getElem? (i := 477) (by decide +kernel), List.mem_of_getElem? (i := 478) (by decide +kernel)⟩
theorem lw_p14 : lw_okq (⟨"TapOfficeModel", "price", "(II)I"⟩, 16) := ⟨⟨by decide +kernel, by decide +kernel⟩, List.mem_of_getElem? (i := 383) (by decide +kernel), List.mem_of_getElem? (i := 481) (by decide +kernel), List.mem_of_getElem? (i := 482) (by decide +kernel)⟩
theorem lw_p15 : lw_okq (⟨"TapOfficeModel", "capped", "(II)I"⟩, 16) := ⟨⟨by decide +kernel, by decide +kernel⟩, List.mem_of_getElem? (i := 383) (by decide +kernel), List.mem_of_getElem? (i := 485) (by decide +kernel), List.mem_of_getElem? (i := 486) (by decide +kernel)⟩
def lw_privs_1 : List (MethodName × Nat) := [(⟨"TapOffice$Card", "recordCopy", "()I"⟩, 2), (⟨"TapOffice$Card", "startDraft", "(I)V"⟩, 2), (⟨"TapOffice$Card", "draftExit", "(IILTapOffice$Tariff;)I"⟩, 2), (⟨"TapOffice$Tariff", "price", "(II)I"⟩, 2), (⟨"TapOffice$Card", "priceOutOfTime", "(IILTapOffice$Tariff;)I"⟩, 2), (⟨"TapOffice$Card", "draftEntry", "(IILTapOffice$Tariff;)I"⟩, 2), (⟨"TapOffice$Account", "enter", "(III)Z"⟩, 7), (⟨"TapOffice", "receiveEntry", "(II)V"⟩, 8), (⟨"TapOffice", "entriesInLogs", "()I"⟩, 8), (⟨"TapOfficeModel", "load", "(I)V"⟩, 16), (⟨"TapOfficeModel", "base", "(I)I"⟩, 16), (⟨"TapOfficeModel", "spent", "(I)I"⟩, 16), (⟨"TapOfficeModel", "leave", "(II)I"⟩, 16), (⟨"TapOfficeModel", "full", "(I)I"⟩, 16), (⟨"TapOfficeModel", "price", "(II)I"⟩, 16), (⟨"TapOfficeModel", "capped", "(II)I"⟩, 16)]
theorem lw_r1 : ∀ q ∈ lw_privs_1, lw_okq q := List.forall_mem_cons.mpr ⟨lw_p0, List.forall_mem_cons.mpr ⟨lw_p1, List.forall_mem_cons.mpr ⟨lw_p2, List.forall_mem_cons.mpr ⟨lw_p3, List.forall_mem_cons.mpr ⟨lw_p4, List.forall_mem_cons.mpr ⟨lw_p5, List.forall_mem_cons.mpr ⟨lw_p6, List.forall_mem_cons.mpr ⟨lw_p7, List.forall_mem_cons.mpr ⟨lw_p8, List.forall_mem_cons.mpr ⟨lw_p9, List.forall_mem_cons.mpr ⟨lw_p10, List.forall_mem_cons.mpr ⟨lw_p11, List.forall_mem_cons.mpr ⟨lw_p12, List.forall_mem_cons.mpr ⟨lw_p13, List.forall_mem_cons.mpr ⟨lw_p14, List.forall_mem_cons.mpr ⟨lw_p15, fun _ h => absurd h List.not_mem_nil⟩⟩⟩⟩⟩⟩⟩⟩⟩⟩⟩⟩⟩⟩⟩⟩
theorem lw_p16 : lw_okq (⟨"TapOfficeModel", "enter", "(II)I"⟩, 16) := ⟨⟨by decide +kernel, by decide +kernel⟩, List.mem_of_getElem? (i := 383) (by decide +kernel), List.mem_of_getElem? (i := 489) (by decide +kernel), List.mem_of_getElem? (i := 490) (by decide +kernel)⟩
theorem lw_p17 : lw_okq (⟨"TapOfficeModel", "counter", "(I)I"⟩, 16) := ⟨⟨by decide +kernel, by decide +kernel⟩, List.mem_of_getElem? (i := 383) (by decide +kernel), List.mem_of_getElem? (i := 493) (by decide +kernel), List.mem_of_getElem? (i := 494) (by decide +kernel)⟩
theorem lw_p18 : lw_okq (⟨"TapOfficeModel", "change", "(II)V"⟩, 16) := ⟨⟨by decide +kernel, by decide +kernel⟩, List.mem_of_getElem? (i := 383) (by decide +kernel), List.mem_of_getElem? (i := 497) (by decide +kernel), List.mem_of_getElem? (i := 498) (by decide +kernel)⟩
theorem lw_p19 : lw_okq (⟨"TapOfficeModel", "enterOffice", "(IIIII)V"⟩, 16) := ⟨⟨by decide +kernel, by decide +kernel⟩, List.mem_of_getElem? (i := 383) (by decide +kernel), List.mem_of_getElem? (i := 505) (by decide +kernel), List.mem_of_getElem? (i := 506) (by decide +kernel)⟩
theorem lw_p20 : lw_okq (⟨"TapOfficeModel", "known", "(I)I"⟩, 16) := ⟨⟨by decide +kernel, by decide +kernel⟩, List.mem_of_getElem? (i := 383) (by decide +kernel), List.mem_of_getElem? (i := 533) (by decide +kernel), List.mem_of_getElem? (i := 534) (by decide +kernel)⟩
theorem lw_p21 : lw_okq (⟨"TapOfficeModel", "greatest", "(I)I"⟩, 16) := ⟨⟨by decide +kernel, by decide +kernel⟩, List.mem_of_getElem? (i := 383) (by decide +kernel), List.mem_of_getElem? (i := 537) (by decide +kernel), List.mem_of_getElem? (i := 538) (by decide +kernel)⟩
theorem lw_p22 : lw_okq (⟨"TapOfficeModel", "lost", "(I)I"⟩, 16) := ⟨⟨by decide +kernel, by decide +kernel⟩, List.mem_of_getElem? (i := 383) (by decide +kernel), List.mem_of_getElem? (i := 541) (by decide +kernel), List.mem_of_getElem? (i := 542) (by decide +kernel)⟩
theorem lw_p23 : lw_okq (⟨"TapOfficeModel", "sum", "(II)I"⟩, 16) := ⟨⟨by decide +kernel, by decide +kernel⟩, List.mem_of_getElem? (i := 383) (by decide +kernel), List.mem_of_getElem? (i := 545) (by decide +kernel), List.mem_of_getElem? (i := 546) (by decide +kernel)⟩
def lw_privs_2 : List (MethodName × Nat) := [(⟨"TapOfficeModel", "enter", "(II)I"⟩, 16), (⟨"TapOfficeModel", "counter", "(I)I"⟩, 16), (⟨"TapOfficeModel", "change", "(II)V"⟩, 16), (⟨"TapOfficeModel", "enterOffice", "(IIIII)V"⟩, 16), (⟨"TapOfficeModel", "known", "(I)I"⟩, 16), (⟨"TapOfficeModel", "greatest", "(I)I"⟩, 16), (⟨"TapOfficeModel", "lost", "(I)I"⟩, 16), (⟨"TapOfficeModel", "sum", "(II)I"⟩, 16)]
theorem lw_r2 : ∀ q ∈ lw_privs_2, lw_okq q := List.forall_mem_cons.mpr ⟨lw_p16, List.forall_mem_cons.mpr ⟨lw_p17, List.forall_mem_cons.mpr ⟨lw_p18, List.forall_mem_cons.mpr ⟨lw_p19, List.forall_mem_cons.mpr ⟨lw_p20, List.forall_mem_cons.mpr ⟨lw_p21, List.forall_mem_cons.mpr ⟨lw_p22, List.forall_mem_cons.mpr ⟨lw_p23, fun _ h => absurd h List.not_mem_nil⟩⟩⟩⟩⟩⟩⟩⟩
def lw_privs : List (MethodName × Nat) := lw_privs_1 ++ (lw_privs_2)
def lw_tbl : List Cond := k2_sels lw_privs ++ tables_1
theorem lw_privs_ok : ∀ q ∈ lw_privs, lw_okq q := by
  show ∀ q ∈ lw_privs_1 ++ (lw_privs_2), lw_okq q
  exact List.forall_mem_append.mpr ⟨lw_r1, lw_r2⟩
/-! the words that travel: every good word of the tables -/
def tb_ok : List Cond := lw_tbl.filter goodWord
theorem tb_mem {w : Cond} (h : w ∈ lw_tbl) (hg : goodWord w = true) : w ∈ tb_ok := List.mem_filter.mpr ⟨h, hg⟩
theorem tb_use {x : Cond} {args : Array Value} {s : State} (hts : ∀ w ∈ x :: tb_ok, w.before args s = true) : ∀ w ∈ lw_tbl, goodWord w = true → w.before args s = true := fun w h hg => hts w (List.mem_cons_of_mem _ (tb_mem h hg))
theorem tb_C {x : Cond} {y : MethodName} {b : ByteArray} {n : Nat} {r : Option FieldType} (hc : Cond.code y b n r ∈ lw_tbl) : GoodIn (x :: tb_ok) (Cond.code y b n r :: tb_ok) := by
  intro w hw
  rcases List.mem_cons.mp hw with rfl | h
  · exact ⟨List.mem_cons_of_mem _ (tb_mem hc rfl), good_of_word rfl⟩
  · exact ⟨List.mem_cons_of_mem _ h, good_of_word (List.mem_filter.mp h).2⟩
theorem tb_1 {x : Cond} {ws : List Cond} {w0 : Cond} (h0 : w0 ∈ lw_tbl) (hg : goodWord w0 = true) (h : GoodIn (x :: tb_ok) ws) : GoodIn (x :: tb_ok) (w0 :: ws) := by
  intro w hw
  rcases List.mem_cons.mp hw with rfl | hw
  · exact ⟨List.mem_cons_of_mem _ (tb_mem h0 hg), good_of_word hg⟩
  · exact h w hw
theorem tb_V {x : Cond} {own C : String} {i : Nat} {y : MethodName} {b : ByteArray} {n : Nat} {r : Option FieldType} (hc : Cond.code y b n r ∈ lw_tbl) (h1 : Cond.methodLink own i y ∈ lw_tbl) (h2 : Cond.instanceMethod y ∈ lw_tbl) (h3 : Cond.selects C y y ∈ lw_tbl) (h4 : Cond.initialized C ∈ lw_tbl) : GoodIn (x :: tb_ok) (wsV own i C y (Cond.code y b n r :: tb_ok)) := tb_1 h1 rfl (tb_1 h2 rfl (tb_1 h3 rfl (tb_1 h4 rfl (tb_C hc))))
theorem tb_S {x : Cond} {own : String} {i : Nat} {y : MethodName} {b : ByteArray} {n : Nat} {r : Option FieldType} (hc : Cond.code y b n r ∈ lw_tbl) (h1 : Cond.methodLink own i y ∈ lw_tbl) (h2 : Cond.static y ∈ lw_tbl) (h3 : Cond.initialized y.cls ∈ lw_tbl) : GoodIn (x :: tb_ok) (va_wsS own i y (Cond.code y b n r :: tb_ok)) := tb_1 h1 rfl (tb_1 h2 rfl (tb_1 h3 rfl (tb_C hc)))
abbrev bO_init : ByteArray := prog_1_method_1_code
def yO_init : MethodName := ⟨"TapOffice", "<init>", "()V"⟩
def wO_init : List Cond := .code yO_init bO_init 2 none :: tb_ok
abbrev bT_init : ByteArray := prog_4_method_1_code
def yT_init : MethodName := ⟨"TapOffice$Tariff", "<init>", "()V"⟩
def wT_init : List Cond := .code yT_init bT_init 1 none :: tb_ok
abbrev bC_init : ByteArray := prog_3_method_1_code
def yC_init : MethodName := ⟨"TapOffice$Card", "<init>", "()V"⟩
def wC_init : List Cond := .code yC_init bC_init 1 none :: tb_ok
abbrev bA_init : ByteArray := prog_2_method_1_code
def yA_init : MethodName := ⟨"TapOffice$Account", "<init>", "()V"⟩
def wA_init : List Cond := .code yA_init bA_init 1 none :: tb_ok
abbrev bV_init : ByteArray := prog_5_method_1_code
def yV_init : MethodName := ⟨"TapOffice$Validator", "<init>", "(I)V"⟩
def wV_init : List Cond := .code yV_init bV_init 2 none :: tb_ok
abbrev bO_fare : ByteArray := prog_1_method_2_code
def yO_fare : MethodName := ⟨"TapOffice", "fare", "(III)I"⟩
def wO_fare : List Cond := .code yO_fare bO_fare 4 (some .int) :: tb_ok
abbrev bO_isBelow : ByteArray := prog_1_method_16_code
def yO_isBelow : MethodName := ⟨"TapOffice", "isBelow", "(II)Z"⟩
def wO_isBelow : List Cond := .code yO_isBelow bO_isBelow 2 (some .boolean) :: tb_ok
abbrev bT_putFare : ByteArray := prog_4_method_2_code
def yT_putFare : MethodName := ⟨"TapOffice$Tariff", "putFare", "(III)V"⟩
def wT_putFare : List Cond := .code yT_putFare bT_putFare 4 none :: tb_ok
abbrev bO_set : ByteArray := prog_1_method_3_code
def yO_set : MethodName := ⟨"TapOffice", "set", "(II)I"⟩
def wO_set : List Cond := .code yO_set bO_set 3 (some .int) :: tb_ok
abbrev bT_putSetting : ByteArray := prog_4_method_3_code
def yT_putSetting : MethodName := ⟨"TapOffice$Tariff", "putSetting", "(II)V"⟩
def wT_putSetting : List Cond := .code yT_putSetting bT_putSetting 3 none :: tb_ok
abbrev bO_place : ByteArray := prog_1_method_4_code
def yO_place : MethodName := ⟨"TapOffice", "place", "(IIZ)I"⟩
def wO_place : List Cond := .code yO_place bO_place 4 (some .int) :: tb_ok
abbrev bV_moveTo : ByteArray := prog_5_method_2_code
def yV_moveTo : MethodName := ⟨"TapOffice$Validator", "moveTo", "(IZ)V"⟩
def wV_moveTo : List Cond := .code yV_moveTo bV_moveTo 3 none :: tb_ok
abbrev bO_clock : ByteArray := prog_1_method_5_code
def yO_clock : MethodName := ⟨"TapOffice", "clock", "(I)I"⟩
def wO_clock : List Cond := .code yO_clock bO_clock 2 (some .int) :: tb_ok
abbrev bO_tap : ByteArray := prog_1_method_6_code
def yO_tap : MethodName := ⟨"TapOffice", "tap", "(III)I"⟩
def wO_tap : List Cond := .code yO_tap bO_tap 7 (some .int) :: tb_ok
abbrev bV_isFull : ByteArray := prog_5_method_7_code
def yV_isFull : MethodName := ⟨"TapOffice$Validator", "isFull", "()Z"⟩
def wV_isFull : List Cond := .code yV_isFull bV_isFull 1 (some .boolean) :: tb_ok
abbrev bV_denies : ByteArray := prog_5_method_5_code
def yV_denies : MethodName := ⟨"TapOffice$Validator", "denies", "(I)Z"⟩
def wV_denies : List Cond := .code yV_denies bV_denies 2 (some .boolean) :: tb_ok
abbrev bV_isExit : ByteArray := prog_5_method_4_code
def yV_isExit : MethodName := ⟨"TapOffice$Validator", "isExit", "()Z"⟩
def wV_isExit : List Cond := .code yV_isExit bV_isExit 1 (some .boolean) :: tb_ok
abbrev bC_read : ByteArray := prog_3_method_3_code
def yC_read : MethodName := ⟨"TapOffice$Card", "read", "(I)I"⟩
def wC_read : List Cond := .code yC_read bC_read 2 (some .int) :: tb_ok
abbrev bC_recordCopy : ByteArray := prog_3_method_9_code
def yC_recordCopy : MethodName := ⟨"TapOffice$Card", "recordCopy", "()I"⟩
def wC_recordCopy : List Cond := .code yC_recordCopy bC_recordCopy 1 (some .int) :: tb_ok
abbrev bT_least : ByteArray := prog_4_method_4_code
def yT_least : MethodName := ⟨"TapOffice$Tariff", "least", "()I"⟩
def wT_least : List Cond := .code yT_least bT_least 1 (some .int) :: tb_ok
abbrev bC_draftTap : ByteArray := prog_3_method_7_code
def yC_draftTap : MethodName := ⟨"TapOffice$Card", "draftTap", "(LTapOffice$Validator;ILTapOffice$Tariff;)I"⟩
def wC_draftTap : List Cond := .code yC_draftTap bC_draftTap 5 (some .int) :: tb_ok
abbrev bC_startDraft : ByteArray := prog_3_method_10_code
def yC_startDraft : MethodName := ⟨"TapOffice$Card", "startDraft", "(I)V"⟩
def wC_startDraft : List Cond := .code yC_startDraft bC_startDraft 3 none :: tb_ok
abbrev bC_spentOn : ByteArray := prog_3_method_5_code
def yC_spentOn : MethodName := ⟨"TapOffice$Card", "spentOn", "(I)I"⟩
def wC_spentOn : List Cond := .code yC_spentOn bC_spentOn 2 (some .int) :: tb_ok
abbrev bC_counter : ByteArray := prog_3_method_4_code
def yC_counter : MethodName := ⟨"TapOffice$Card", "counter", "()I"⟩
def wC_counter : List Cond := .code yC_counter bC_counter 1 (some .int) :: tb_ok
abbrev bV_zone : ByteArray := prog_5_method_3_code
def yV_zone : MethodName := ⟨"TapOffice$Validator", "zone", "()I"⟩
def wV_zone : List Cond := .code yV_zone bV_zone 1 (some .int) :: tb_ok
abbrev bC_draftExit : ByteArray := prog_3_method_12_code
def yC_draftExit : MethodName := ⟨"TapOffice$Card", "draftExit", "(IILTapOffice$Tariff;)I"⟩
def wC_draftExit : List Cond := .code yC_draftExit bC_draftExit 7 (some .int) :: tb_ok
abbrev bT_priceBetween : ByteArray := prog_4_method_5_code
def yT_priceBetween : MethodName := ⟨"TapOffice$Tariff", "priceBetween", "(III)I"⟩
def wT_priceBetween : List Cond := .code yT_priceBetween bT_priceBetween 4 (some .int) :: tb_ok
abbrev bT_price : ByteArray := prog_4_method_8_code
def yT_price : MethodName := ⟨"TapOffice$Tariff", "price", "(II)I"⟩
def wT_price : List Cond := .code yT_price bT_price 5 (some .int) :: tb_ok
abbrev bC_priceOutOfTime : ByteArray := prog_3_method_13_code
def yC_priceOutOfTime : MethodName := ⟨"TapOffice$Card", "priceOutOfTime", "(IILTapOffice$Tariff;)I"⟩
def wC_priceOutOfTime : List Cond := .code yC_priceOutOfTime bC_priceOutOfTime 4 (some .int) :: tb_ok
abbrev bT_fullPrice : ByteArray := prog_4_method_6_code
def yT_fullPrice : MethodName := ⟨"TapOffice$Tariff", "fullPrice", "(II)I"⟩
def wT_fullPrice : List Cond := .code yT_fullPrice bT_fullPrice 5 (some .int) :: tb_ok
abbrev bT_capped : ByteArray := prog_4_method_7_code
def yT_capped : MethodName := ⟨"TapOffice$Tariff", "capped", "(II)I"⟩
def wT_capped : List Cond := .code yT_capped bT_capped 3 (some .int) :: tb_ok
abbrev bC_draftEntry : ByteArray := prog_3_method_11_code
def yC_draftEntry : MethodName := ⟨"TapOffice$Card", "draftEntry", "(IILTapOffice$Tariff;)I"⟩
def wC_draftEntry : List Cond := .code yC_draftEntry bC_draftEntry 6 (some .int) :: tb_ok
abbrev bC_writeDraft : ByteArray := prog_3_method_8_code
def yC_writeDraft : MethodName := ⟨"TapOffice$Card", "writeDraft", "(I)V"⟩
def wC_writeDraft : List Cond := .code yC_writeDraft bC_writeDraft 4 none :: tb_ok
abbrev bV_keepEntry : ByteArray := prog_5_method_10_code
def yV_keepEntry : MethodName := ⟨"TapOffice$Validator", "keepEntry", "(IIII)V"⟩
def wV_keepEntry : List Cond := .code yV_keepEntry bV_keepEntry 6 none :: tb_ok
abbrev bO_topUp : ByteArray := prog_1_method_7_code
def yO_topUp : MethodName := ⟨"TapOffice", "topUp", "(II)I"⟩
def wO_topUp : List Cond := .code yO_topUp bO_topUp 5 (some .int) :: tb_ok
abbrev bC_draftTopUp : ByteArray := prog_3_method_6_code
def yC_draftTopUp : MethodName := ⟨"TapOffice$Card", "draftTopUp", "(II)V"⟩
def wC_draftTopUp : List Cond := .code yC_draftTopUp bC_draftTopUp 3 none :: tb_ok
abbrev bA_enterTopUp : ByteArray := prog_2_method_8_code
def yA_enterTopUp : MethodName := ⟨"TapOffice$Account", "enterTopUp", "(III)V"⟩
def wA_enterTopUp : List Cond := .code yA_enterTopUp bA_enterTopUp 4 none :: tb_ok
abbrev bA_enter : ByteArray := prog_2_method_10_code
def yA_enter : MethodName := ⟨"TapOffice$Account", "enter", "(III)Z"⟩
def wA_enter : List Cond := .code yA_enter bA_enter 4 (some .boolean) :: tb_ok
abbrev bO_upload : ByteArray := prog_1_method_8_code
def yO_upload : MethodName := ⟨"TapOffice", "upload", "(IZ)I"⟩
def wO_upload : List Cond := .code yO_upload bO_upload 6 (some .int) :: tb_ok
abbrev bV_logSize : ByteArray := prog_5_method_8_code
def yV_logSize : MethodName := ⟨"TapOffice$Validator", "logSize", "()I"⟩
def wV_logSize : List Cond := .code yV_logSize bV_logSize 1 (some .int) :: tb_ok
abbrev bO_receiveEntry : ByteArray := prog_1_method_17_code
def yO_receiveEntry : MethodName := ⟨"TapOffice", "receiveEntry", "(II)V"⟩
def wO_receiveEntry : List Cond := .code yO_receiveEntry bO_receiveEntry 6 none :: tb_ok
abbrev bV_readEntry : ByteArray := prog_5_method_9_code
def yV_readEntry : MethodName := ⟨"TapOffice$Validator", "readEntry", "(II)I"⟩
def wV_readEntry : List Cond := .code yV_readEntry bV_readEntry 3 (some .int) :: tb_ok
abbrev bA_enterCharge : ByteArray := prog_2_method_7_code
def yA_enterCharge : MethodName := ⟨"TapOffice$Account", "enterCharge", "(III)V"⟩
def wA_enterCharge : List Cond := .code yA_enterCharge bA_enterCharge 4 none :: tb_ok
abbrev bV_emptyLog : ByteArray := prog_5_method_11_code
def yV_emptyLog : MethodName := ⟨"TapOffice$Validator", "emptyLog", "()V"⟩
def wV_emptyLog : List Cond := .code yV_emptyLog bV_emptyLog 1 none :: tb_ok
abbrev bV_takeDenied : ByteArray := prog_5_method_6_code
def yV_takeDenied : MethodName := ⟨"TapOffice$Validator", "takeDenied", "(I)V"⟩
def wV_takeDenied : List Cond := .code yV_takeDenied bV_takeDenied 2 none :: tb_ok
abbrev bO_deny : ByteArray := prog_1_method_9_code
def yO_deny : MethodName := ⟨"TapOffice", "deny", "(IZ)I"⟩
def wO_deny : List Cond := .code yO_deny bO_deny 3 (some .int) :: tb_ok
abbrev bO_word : ByteArray := prog_1_method_10_code
def yO_word : MethodName := ⟨"TapOffice", "word", "(III)I"⟩
def wO_word : List Cond := .code yO_word bO_word 4 (some .int) :: tb_ok
abbrev bC_readCopy : ByteArray := prog_3_method_2_code
def yC_readCopy : MethodName := ⟨"TapOffice$Card", "readCopy", "(II)I"⟩
def wC_readCopy : List Cond := .code yC_readCopy bC_readCopy 3 (some .int) :: tb_ok
abbrev bO_card : ByteArray := prog_1_method_11_code
def yO_card : MethodName := ⟨"TapOffice", "card", "(II)I"⟩
def wO_card : List Cond := .code yO_card bO_card 4 (some .int) :: tb_ok
abbrev bO_logged : ByteArray := prog_1_method_12_code
def yO_logged : MethodName := ⟨"TapOffice", "logged", "(III)I"⟩
def wO_logged : List Cond := .code yO_logged bO_logged 5 (some .int) :: tb_ok
abbrev bO_office : ByteArray := prog_1_method_13_code
def yO_office : MethodName := ⟨"TapOffice", "office", "(II)I"⟩
def wO_office : List Cond := .code yO_office bO_office 4 (some .int) :: tb_ok
abbrev bA_known : ByteArray := prog_2_method_2_code
def yA_known : MethodName := ⟨"TapOffice$Account", "known", "()I"⟩
def wA_known : List Cond := .code yA_known bA_known 1 (some .int) :: tb_ok
abbrev bA_greatestCounter : ByteArray := prog_2_method_3_code
def yA_greatestCounter : MethodName := ⟨"TapOffice$Account", "greatestCounter", "()I"⟩
def wA_greatestCounter : List Cond := .code yA_greatestCounter bA_greatestCounter 1 (some .int) :: tb_ok
abbrev bA_missing : ByteArray := prog_2_method_4_code
def yA_missing : MethodName := ⟨"TapOffice$Account", "missing", "()I"⟩
def wA_missing : List Cond := .code yA_missing bA_missing 1 (some .int) :: tb_ok
abbrev bA_lostMoney : ByteArray := prog_2_method_9_code
def yA_lostMoney : MethodName := ⟨"TapOffice$Account", "lostMoney", "()I"⟩
def wA_lostMoney : List Cond := .code yA_lostMoney bA_lostMoney 5 (some .int) :: tb_ok
abbrev bA_allCharges : ByteArray := prog_2_method_5_code
def yA_allCharges : MethodName := ⟨"TapOffice$Account", "allCharges", "()I"⟩
def wA_allCharges : List Cond := .code yA_allCharges bA_allCharges 1 (some .int) :: tb_ok
abbrev bA_allTopUps : ByteArray := prog_2_method_6_code
def yA_allTopUps : MethodName := ⟨"TapOffice$Account", "allTopUps", "()I"⟩
def wA_allTopUps : List Cond := .code yA_allTopUps bA_allTopUps 1 (some .int) :: tb_ok
abbrev bO_income : ByteArray := prog_1_method_14_code
def yO_income : MethodName := ⟨"TapOffice", "income", "(I)I"⟩
def wO_income : List Cond := .code yO_income bO_income 2 (some .int) :: tb_ok
abbrev bO_count : ByteArray := prog_1_method_15_code
def yO_count : MethodName := ⟨"TapOffice", "count", "(I)I"⟩
def wO_count : List Cond := .code yO_count bO_count 2 (some .int) :: tb_ok
abbrev bO_entriesInLogs : ByteArray := prog_1_method_18_code
def yO_entriesInLogs : MethodName := ⟨"TapOffice", "entriesInLogs", "()I"⟩
def wO_entriesInLogs : List Cond := .code yO_entriesInLogs bO_entriesInLogs 3 (some .int) :: tb_ok
abbrev bI_bitCount : ByteArray := prog_9_method_49_code
def yI_bitCount : MethodName := ⟨"java/lang/Integer", "bitCount", "(I)I"⟩
def wI_bitCount : List Cond := .code yI_bitCount bI_bitCount 1 (some .int) :: tb_ok
abbrev bM_init : ByteArray := prog_7_method_1_code
def yM_init : MethodName := ⟨"TapOfficeModel", "<init>", "()V"⟩
def wM_init : List Cond := .code yM_init bM_init 2 none :: tb_ok
abbrev bM_fare : ByteArray := prog_7_method_3_code
def yM_fare : MethodName := ⟨"TapOfficeModel", "fare", "(III)I"⟩
def wM_fare : List Cond := .code yM_fare bM_fare 4 (some .int) :: tb_ok
abbrev bM_in : ByteArray := prog_7_method_2_code
def yM_in : MethodName := ⟨"TapOfficeModel", "in", "(III)Z"⟩
def wM_in : List Cond := .code yM_in bM_in 3 (some .boolean) :: tb_ok
abbrev bM_set : ByteArray := prog_7_method_4_code
def yM_set : MethodName := ⟨"TapOfficeModel", "set", "(II)I"⟩
def wM_set : List Cond := .code yM_set bM_set 4 (some .int) :: tb_ok
abbrev bM_place : ByteArray := prog_7_method_5_code
def yM_place : MethodName := ⟨"TapOfficeModel", "place", "(IIZ)I"⟩
def wM_place : List Cond := .code yM_place bM_place 4 (some .int) :: tb_ok
abbrev bM_clock : ByteArray := prog_7_method_6_code
def yM_clock : MethodName := ⟨"TapOfficeModel", "clock", "(I)I"⟩
def wM_clock : List Cond := .code yM_clock bM_clock 2 (some .int) :: tb_ok
abbrev bM_tap : ByteArray := prog_7_method_15_code
def yM_tap : MethodName := ⟨"TapOfficeModel", "tap", "(III)I"⟩
def wM_tap : List Cond := .code yM_tap bM_tap 7 (some .int) :: tb_ok
abbrev bM_load : ByteArray := prog_7_method_14_code
def yM_load : MethodName := ⟨"TapOfficeModel", "load", "(I)V"⟩
def wM_load : List Cond := .code yM_load bM_load 4 none :: tb_ok
abbrev bM_base : ByteArray := prog_7_method_7_code
def yM_base : MethodName := ⟨"TapOfficeModel", "base", "(I)I"⟩
def wM_base : List Cond := .code yM_base bM_base 4 (some .int) :: tb_ok
abbrev bM_spent : ByteArray := prog_7_method_9_code
def yM_spent : MethodName := ⟨"TapOfficeModel", "spent", "(I)I"⟩
def wM_spent : List Cond := .code yM_spent bM_spent 3 (some .int) :: tb_ok
abbrev bM_leave : ByteArray := prog_7_method_17_code
def yM_leave : MethodName := ⟨"TapOfficeModel", "leave", "(II)I"⟩
def wM_leave : List Cond := .code yM_leave bM_leave 5 (some .int) :: tb_ok
abbrev bM_full : ByteArray := prog_7_method_10_code
def yM_full : MethodName := ⟨"TapOfficeModel", "full", "(I)I"⟩
def wM_full : List Cond := .code yM_full bM_full 4 (some .int) :: tb_ok
abbrev bM_price : ByteArray := prog_7_method_11_code
def yM_price : MethodName := ⟨"TapOfficeModel", "price", "(II)I"⟩
def wM_price : List Cond := .code yM_price bM_price 4 (some .int) :: tb_ok
abbrev bM_capped : ByteArray := prog_7_method_12_code
def yM_capped : MethodName := ⟨"TapOfficeModel", "capped", "(II)I"⟩
def wM_capped : List Cond := .code yM_capped bM_capped 5 (some .int) :: tb_ok
abbrev bM_enter : ByteArray := prog_7_method_16_code
def yM_enter : MethodName := ⟨"TapOfficeModel", "enter", "(II)I"⟩
def wM_enter : List Cond := .code yM_enter bM_enter 5 (some .int) :: tb_ok
abbrev bM_counter : ByteArray := prog_7_method_8_code
def yM_counter : MethodName := ⟨"TapOfficeModel", "counter", "(I)I"⟩
def wM_counter : List Cond := .code yM_counter bM_counter 2 (some .int) :: tb_ok
abbrev bM_change : ByteArray := prog_7_method_13_code
def yM_change : MethodName := ⟨"TapOfficeModel", "change", "(II)V"⟩
def wM_change : List Cond := .code yM_change bM_change 6 none :: tb_ok
abbrev bM_topUp : ByteArray := prog_7_method_19_code
def yM_topUp : MethodName := ⟨"TapOfficeModel", "topUp", "(II)I"⟩
def wM_topUp : List Cond := .code yM_topUp bM_topUp 3 (some .int) :: tb_ok
abbrev bM_enterOffice : ByteArray := prog_7_method_18_code
def yM_enterOffice : MethodName := ⟨"TapOfficeModel", "enterOffice", "(IIIII)V"⟩
def wM_enterOffice : List Cond := .code yM_enterOffice bM_enterOffice 6 none :: tb_ok
abbrev bM_upload : ByteArray := prog_7_method_20_code
def yM_upload : MethodName := ⟨"TapOfficeModel", "upload", "(IZ)I"⟩
def wM_upload : List Cond := .code yM_upload bM_upload 6 (some .int) :: tb_ok
abbrev bM_deny : ByteArray := prog_7_method_21_code
def yM_deny : MethodName := ⟨"TapOfficeModel", "deny", "(IZ)I"⟩
def wM_deny : List Cond := .code yM_deny bM_deny 3 (some .int) :: tb_ok
abbrev bM_word : ByteArray := prog_7_method_22_code
def yM_word : MethodName := ⟨"TapOfficeModel", "word", "(III)I"⟩
def wM_word : List Cond := .code yM_word bM_word 4 (some .int) :: tb_ok
abbrev bM_card : ByteArray := prog_7_method_23_code
def yM_card : MethodName := ⟨"TapOfficeModel", "card", "(II)I"⟩
def wM_card : List Cond := .code yM_card bM_card 3 (some .int) :: tb_ok
abbrev bM_logged : ByteArray := prog_7_method_24_code
def yM_logged : MethodName := ⟨"TapOfficeModel", "logged", "(III)I"⟩
def wM_logged : List Cond := .code yM_logged bM_logged 4 (some .int) :: tb_ok
abbrev bM_office : ByteArray := prog_7_method_29_code
def yM_office : MethodName := ⟨"TapOfficeModel", "office", "(II)I"⟩
def wM_office : List Cond := .code yM_office bM_office 3 (some .int) :: tb_ok
abbrev bM_known : ByteArray := prog_7_method_26_code
def yM_known : MethodName := ⟨"TapOfficeModel", "known", "(I)I"⟩
def wM_known : List Cond := .code yM_known bM_known 4 (some .int) :: tb_ok
abbrev bM_greatest : ByteArray := prog_7_method_27_code
def yM_greatest : MethodName := ⟨"TapOfficeModel", "greatest", "(I)I"⟩
def wM_greatest : List Cond := .code yM_greatest bM_greatest 4 (some .int) :: tb_ok
abbrev bM_lost : ByteArray := prog_7_method_28_code
def yM_lost : MethodName := ⟨"TapOfficeModel", "lost", "(I)I"⟩
def wM_lost : List Cond := .code yM_lost bM_lost 8 (some .int) :: tb_ok
abbrev bM_sum : ByteArray := prog_7_method_25_code
def yM_sum : MethodName := ⟨"TapOfficeModel", "sum", "(II)I"⟩
def wM_sum : List Cond := .code yM_sum bM_sum 5 (some .int) :: tb_ok
abbrev bM_income : ByteArray := prog_7_method_30_code
def yM_income : MethodName := ⟨"TapOfficeModel", "income", "(I)I"⟩
def wM_income : List Cond := .code yM_income bM_income 2 (some .int) :: tb_ok
abbrev bM_count : ByteArray := prog_7_method_31_code
def yM_count : MethodName := ⟨"TapOfficeModel", "count", "(I)I"⟩
def wM_count : List Cond := .code yM_count bM_count 5 (some .int) :: tb_ok
def T_O : u_T := fun k => match k with
  | 0 => ("TapOffice", "tariff", "LTapOffice$Tariff;", true)
  | 1 => ("TapOffice", "cards", "[LTapOffice$Card;", true)
  | 2 => ("TapOffice", "accounts", "[LTapOffice$Account;", true)
  | 3 => ("TapOffice", "validators", "[LTapOffice$Validator;", true)
  | 4 => ("TapOffice", "incomes", "[I", true)
  | 5 => ("TapOffice", "now", "I", false)
  | 6 => ("TapOffice", "deniedCards", "I", false)
  | _ => ("TapOffice", "tornTaps", "I", false)
def ty_O : Nat → FieldType := fun k => match k with
  | 0 => .object "TapOffice$Tariff"
  | 1 => .array (.object "TapOffice$Card")
  | 2 => .array (.object "TapOffice$Account")
  | 3 => .array (.object "TapOffice$Validator")
  | 4 => .array .int
  | 5 => .int
  | 6 => .int
  | _ => .int
theorem nm_O : ∀ a, a < 8 → ∀ b, b < 8 → a ≠ b → (T_O a).2.1 ≠ (T_O b).2.1 := by decide +kernel
theorem ty_O_ok : ∀ k, k < 8 → parseFieldDescriptor (T_O k).2.2.1 = some (ty_O k) := by decide +kernel
theorem inl_O : ∀ w ∈ u_ws "TapOffice" T_O 8, w ∈ lw_tbl ∧ goodWord w = true := by decide +kernel
theorem hin_O {x : Cond} : ∀ w ∈ u_ws "TapOffice" T_O 8, w ∈ x :: tb_ok := fun w h => List.mem_cons_of_mem _ (tb_mem (inl_O w h).1 (inl_O w h).2)
def T_T : u_T := fun k => match k with
  | 0 => ("TapOffice$Tariff", "fares", "[[I", true)
  | _ => ("TapOffice$Tariff", "settings", "[I", true)
def ty_T : Nat → FieldType := fun k => match k with
  | 0 => .array (.array .int)
  | _ => .array .int
theorem nm_T : ∀ a, a < 2 → ∀ b, b < 2 → a ≠ b → (T_T a).2.1 ≠ (T_T b).2.1 := by decide +kernel
theorem ty_T_ok : ∀ k, k < 2 → parseFieldDescriptor (T_T k).2.2.1 = some (ty_T k) := by decide +kernel
theorem inl_T : ∀ w ∈ u_ws "TapOffice$Tariff" T_T 2, w ∈ lw_tbl ∧ goodWord w = true := by decide +kernel
theorem hin_T {x : Cond} : ∀ w ∈ u_ws "TapOffice$Tariff" T_T 2, w ∈ x :: tb_ok := fun w h => List.mem_cons_of_mem _ (tb_mem (inl_T w h).1 (inl_T w h).2)
def T_C : u_T := fun k => match k with
  | 0 => ("TapOffice$Card", "copies", "[[I", true)
  | _ => ("TapOffice$Card", "draft", "[I", true)
def ty_C : Nat → FieldType := fun k => match k with
  | 0 => .array (.array .int)
  | _ => .array .int
theorem nm_C : ∀ a, a < 2 → ∀ b, b < 2 → a ≠ b → (T_C a).2.1 ≠ (T_C b).2.1 := by decide +kernel
theorem ty_C_ok : ∀ k, k < 2 → parseFieldDescriptor (T_C k).2.2.1 = some (ty_C k) := by decide +kernel
theorem inl_C : ∀ w ∈ u_ws "TapOffice$Card" T_C 2, w ∈ lw_tbl ∧ goodWord w = true := by decide +kernel
theorem hin_C {x : Cond} : ∀ w ∈ u_ws "TapOffice$Card" T_C 2, w ∈ x :: tb_ok := fun w h => List.mem_cons_of_mem _ (tb_mem (inl_C w h).1 (inl_C w h).2)
def T_A : u_T := fun k => match k with
  | 0 => ("TapOffice$Account", "has", "[Z", true)
  | 1 => ("TapOffice$Account", "before", "[I", true)
  | 2 => ("TapOffice$Account", "after", "[I", true)
  | 3 => ("TapOffice$Account", "entries", "I", false)
  | 4 => ("TapOffice$Account", "greatest", "I", false)
  | 5 => ("TapOffice$Account", "charges", "I", false)
  | _ => ("TapOffice$Account", "topUps", "I", false)
def ty_A : Nat → FieldType := fun k => match k with
  | 0 => .array .boolean
  | 1 => .array .int
  | 2 => .array .int
  | 3 => .int
  | 4 => .int
  | 5 => .int
  | _ => .int
theorem nm_A : ∀ a, a < 7 → ∀ b, b < 7 → a ≠ b → (T_A a).2.1 ≠ (T_A b).2.1 := by decide +kernel
theorem ty_A_ok : ∀ k, k < 7 → parseFieldDescriptor (T_A k).2.2.1 = some (ty_A k) := by decide +kernel
theorem inl_A : ∀ w ∈ u_ws "TapOffice$Account" T_A 7, w ∈ lw_tbl ∧ goodWord w = true := by decide +kernel
theorem hin_A {x : Cond} : ∀ w ∈ u_ws "TapOffice$Account" T_A 7, w ∈ x :: tb_ok := fun w h => List.mem_cons_of_mem _ (tb_mem (inl_A w h).1 (inl_A w h).2)
def T_V : u_T := fun k => match k with
  | 0 => ("TapOffice$Validator", "log", "[[I", true)
  | 1 => ("TapOffice$Validator", "size", "I", false)
  | 2 => ("TapOffice$Validator", "zone", "I", false)
  | 3 => ("TapOffice$Validator", "exit", "Z", false)
  | _ => ("TapOffice$Validator", "denied", "I", false)
def ty_V : Nat → FieldType := fun k => match k with
  | 0 => .array (.array .int)
  | 1 => .int
  | 2 => .int
  | 3 => .boolean
  | _ => .int
theorem nm_V : ∀ a, a < 5 → ∀ b, b < 5 → a ≠ b → (T_V a).2.1 ≠ (T_V b).2.1 := by decide +kernel
theorem ty_V_ok : ∀ k, k < 5 → parseFieldDescriptor (T_V k).2.2.1 = some (ty_V k) := by decide +kernel
theorem inl_V : ∀ w ∈ u_ws "TapOffice$Validator" T_V 5, w ∈ lw_tbl ∧ goodWord w = true := by decide +kernel
theorem hin_V {x : Cond} : ∀ w ∈ u_ws "TapOffice$Validator" T_V 5, w ∈ x :: tb_ok := fun w h => List.mem_cons_of_mem _ (tb_mem (inl_V w h).1 (inl_V w h).2)
def T_M : u_T := fun k => match k with
  | 0 => ("TapOfficeModel", "fare", "[I", true)
  | 1 => ("TapOfficeModel", "setting", "[I", true)
  | 2 => ("TapOfficeModel", "time", "I", false)
  | 3 => ("TapOfficeModel", "words", "[I", true)
  | 4 => ("TapOfficeModel", "next", "[I", true)
  | 5 => ("TapOfficeModel", "zone", "[I", true)
  | 6 => ("TapOfficeModel", "exit", "[Z", true)
  | 7 => ("TapOfficeModel", "log", "[I", true)
  | 8 => ("TapOfficeModel", "logged", "[I", true)
  | 9 => ("TapOfficeModel", "denies", "[Z", true)
  | 10 => ("TapOfficeModel", "denied", "[Z", true)
  | 11 => ("TapOfficeModel", "income", "[I", true)
  | 12 => ("TapOfficeModel", "torn", "I", false)
  | 13 => ("TapOfficeModel", "kind", "[I", true)
  | 14 => ("TapOfficeModel", "amount", "[I", true)
  | _ => ("TapOfficeModel", "balance", "[I", true)
def ty_M : Nat → FieldType := fun k => match k with
  | 0 => .array .int
  | 1 => .array .int
  | 2 => .int
  | 3 => .array .int
  | 4 => .array .int
  | 5 => .array .int
  | 6 => .array .boolean
  | 7 => .array .int
  | 8 => .array .int
  | 9 => .array .boolean
  | 10 => .array .boolean
  | 11 => .array .int
  | 12 => .int
  | 13 => .array .int
  | 14 => .array .int
  | _ => .array .int
theorem nm_M : ∀ a, a < 16 → ∀ b, b < 16 → a ≠ b → (T_M a).2.1 ≠ (T_M b).2.1 := by decide +kernel
theorem ty_M_ok : ∀ k, k < 16 → parseFieldDescriptor (T_M k).2.2.1 = some (ty_M k) := by decide +kernel
theorem inl_M : ∀ w ∈ u_ws "TapOfficeModel" T_M 16, w ∈ lw_tbl ∧ goodWord w = true := by decide +kernel
theorem hin_M {x : Cond} : ∀ w ∈ u_ws "TapOfficeModel" T_M 16, w ∈ x :: tb_ok := fun w h => List.mem_cons_of_mem _ (tb_mem (inl_M w h).1 (inl_M w h).2)
abbrev fw_cl : List vw_C := [("TapOffice", T_O, 8), ("TapOffice$Tariff", T_T, 2), ("TapOffice$Card", T_C, 2), ("TapOffice$Account", T_A, 7), ("TapOffice$Validator", T_V, 5), ("TapOfficeModel", T_M, 16)]
def fw_nb : Cond := .methodLinkNest "TapOffice$Tariff" 28 yO_isBelow "TapOffice"
end
section
set_option maxRecDepth 20000 in
theorem m_0 : (Jvm.Cond.selects "TapOffice$Card" ({ cls := "TapOffice$Card", name := "recordCopy", desc := "()I" } : Jvm.MethodName) ({ cls := "TapOffice$Card", name := "recordCopy", desc := "()I" } : Jvm.MethodName)) ∈ lw_tbl := List.mem_of_getElem? (i := 0) rfl
set_option maxRecDepth 20000 in
theorem m_1 : (Jvm.Cond.selects "TapOffice$Card" ({ cls := "TapOffice$Card", name := "startDraft", desc := "(I)V" } : Jvm.MethodName) ({ cls := "TapOffice$Card", name := "startDraft", desc := "(I)V" } : Jvm.MethodName)) ∈ lw_tbl := List.mem_of_getElem? (i := 1) rfl
set_option maxRecDepth 20000 in
theorem m_2 : (Jvm.Cond.selects "TapOffice$Card" ({ cls := "TapOffice$Card", name := "draftExit", desc := "(IILTapOffice$Tariff;)I" } : Jvm.MethodName) ({ cls := "TapOffice$Card", name := "draftExit", desc := "(IILTapOffice$Tariff;)I" } : Jvm.MethodName)) ∈ lw_tbl := List.mem_of_getElem? (i := 2) rfl
set_option maxRecDepth 20000 in
theorem m_3 : (Jvm.Cond.selects "TapOffice$Tariff" ({ cls := "TapOffice$Tariff", name := "price", desc := "(II)I" } : Jvm.MethodName) ({ cls := "TapOffice$Tariff", name := "price", desc := "(II)I" } : Jvm.MethodName)) ∈ lw_tbl := List.mem_of_getElem? (i := 3) rfl
set_option maxRecDepth 20000 in
theorem m_4 : (Jvm.Cond.selects "TapOffice$Card" ({ cls := "TapOffice$Card", name := "priceOutOfTime", desc := "(IILTapOffice$Tariff;)I" } : Jvm.MethodName) ({ cls := "TapOffice$Card", name := "priceOutOfTime", desc := "(IILTapOffice$Tariff;)I" } : Jvm.MethodName)) ∈ lw_tbl := List.mem_of_getElem? (i := 4) rfl
set_option maxRecDepth 20000 in
theorem m_5 : (Jvm.Cond.selects "TapOffice$Card" ({ cls := "TapOffice$Card", name := "draftEntry", desc := "(IILTapOffice$Tariff;)I" } : Jvm.MethodName) ({ cls := "TapOffice$Card", name := "draftEntry", desc := "(IILTapOffice$Tariff;)I" } : Jvm.MethodName)) ∈ lw_tbl := List.mem_of_getElem? (i := 5) rfl
set_option maxRecDepth 20000 in
theorem m_6 : (Jvm.Cond.selects "TapOffice$Account" ({ cls := "TapOffice$Account", name := "enter", desc := "(III)Z" } : Jvm.MethodName) ({ cls := "TapOffice$Account", name := "enter", desc := "(III)Z" } : Jvm.MethodName)) ∈ lw_tbl := List.mem_of_getElem? (i := 6) rfl
set_option maxRecDepth 20000 in
theorem m_7 : (Jvm.Cond.selects "TapOffice" ({ cls := "TapOffice", name := "receiveEntry", desc := "(II)V" } : Jvm.MethodName) ({ cls := "TapOffice", name := "receiveEntry", desc := "(II)V" } : Jvm.MethodName)) ∈ lw_tbl := List.mem_of_getElem? (i := 7) rfl
set_option maxRecDepth 20000 in
theorem m_8 : (Jvm.Cond.selects "TapOffice" ({ cls := "TapOffice", name := "entriesInLogs", desc := "()I" } : Jvm.MethodName) ({ cls := "TapOffice", name := "entriesInLogs", desc := "()I" } : Jvm.MethodName)) ∈ lw_tbl := List.mem_of_getElem? (i := 8) rfl
set_option maxRecDepth 20000 in
theorem m_25 : (Jvm.Cond.initialized "TapOffice") ∈ lw_tbl := List.mem_of_getElem? (i := 25) rfl
set_option maxRecDepth 20000 in
theorem m_26 : (Jvm.Cond.initialized "TapOffice$Tariff") ∈ lw_tbl := List.mem_of_getElem? (i := 26) rfl
set_option maxRecDepth 20000 in
theorem m_27 : (Jvm.Cond.initialized "TapOffice$Card") ∈ lw_tbl := List.mem_of_getElem? (i := 27) rfl
set_option maxRecDepth 20000 in
theorem m_28 : (Jvm.Cond.initialized "java/lang/System") ∈ lw_tbl := List.mem_of_getElem? (i := 28) rfl
set_option maxRecDepth 20000 in
theorem m_29 : (Jvm.Cond.initialized "TapOffice$Account") ∈ lw_tbl := List.mem_of_getElem? (i := 29) rfl
set_option maxRecDepth 20000 in
theorem m_30 : (Jvm.Cond.initialized "TapOffice$Validator") ∈ lw_tbl := List.mem_of_getElem? (i := 30) rfl
set_option maxRecDepth 20000 in
theorem m_32 : (Jvm.Cond.initialized "java/lang/Math") ∈ lw_tbl := List.mem_of_getElem? (i := 32) rfl
set_option maxRecDepth 20000 in
theorem m_33 : (Jvm.Cond.initialized "java/lang/Integer") ∈ lw_tbl := List.mem_of_getElem? (i := 33) rfl
set_option maxRecDepth 20000 in
theorem m_59 : (Jvm.Cond.fieldLink "TapOffice$Tariff" (11 : Nat) "TapOffice$Tariff" "fares" "[[I") ∈ lw_tbl := List.mem_of_getElem? (i := 59) rfl
set_option maxRecDepth 20000 in
theorem m_60 : (Jvm.Cond.fieldLink "TapOffice$Tariff" (25 : Nat) "TapOffice$Tariff" "settings" "[I") ∈ lw_tbl := List.mem_of_getElem? (i := 60) rfl
set_option maxRecDepth 20000 in
theorem m_81 : (Jvm.Cond.methodLink "TapOffice$Card" (23 : Nat) ({ cls := "java/lang/System", name := "arraycopy", desc := "(Ljava/lang/Object;ILjava/lang/Object;II)V" } : Jvm.MethodName)) ∈ lw_tbl := List.mem_of_getElem? (i := 81) rfl
set_option maxRecDepth 20000 in
theorem m_82 : (Jvm.Cond.static ({ cls := "java/lang/System", name := "arraycopy", desc := "(Ljava/lang/Object;ILjava/lang/Object;II)V" } : Jvm.MethodName)) ∈ lw_tbl := List.mem_of_getElem? (i := 82) rfl
set_option maxRecDepth 20000 in
theorem m_83 : (Jvm.Cond.native ({ cls := "java/lang/System", name := "arraycopy", desc := "(Ljava/lang/Object;ILjava/lang/Object;II)V" } : Jvm.MethodName)) ∈ lw_tbl := List.mem_of_getElem? (i := 83) rfl
set_option maxRecDepth 20000 in
theorem m_84 : (Jvm.Cond.fieldLink "TapOffice$Card" (11 : Nat) "TapOffice$Card" "copies" "[[I") ∈ lw_tbl := List.mem_of_getElem? (i := 84) rfl
set_option maxRecDepth 20000 in
theorem m_85 : (Jvm.Cond.fieldLink "TapOffice$Card" (16 : Nat) "TapOffice$Card" "draft" "[I") ∈ lw_tbl := List.mem_of_getElem? (i := 85) rfl
set_option maxRecDepth 20000 in
theorem m_96 : (Jvm.Cond.fieldLink "TapOffice$Account" (9 : Nat) "TapOffice$Account" "has" "[Z") ∈ lw_tbl := List.mem_of_getElem? (i := 96) rfl
set_option maxRecDepth 20000 in
theorem m_97 : (Jvm.Cond.fieldLink "TapOffice$Account" (15 : Nat) "TapOffice$Account" "before" "[I") ∈ lw_tbl := List.mem_of_getElem? (i := 97) rfl
set_option maxRecDepth 20000 in
theorem m_98 : (Jvm.Cond.fieldLink "TapOffice$Account" (19 : Nat) "TapOffice$Account" "after" "[I") ∈ lw_tbl := List.mem_of_getElem? (i := 98) rfl
set_option maxRecDepth 20000 in
theorem m_99 : (Jvm.Cond.fieldLink "TapOffice$Account" (22 : Nat) "TapOffice$Account" "entries" "I") ∈ lw_tbl := List.mem_of_getElem? (i := 99) rfl
set_option maxRecDepth 20000 in
theorem m_100 : (Jvm.Cond.fieldLink "TapOffice$Account" (26 : Nat) "TapOffice$Account" "greatest" "I") ∈ lw_tbl := List.mem_of_getElem? (i := 100) rfl
set_option maxRecDepth 20000 in
theorem m_101 : (Jvm.Cond.fieldLink "TapOffice$Account" (29 : Nat) "TapOffice$Account" "charges" "I") ∈ lw_tbl := List.mem_of_getElem? (i := 101) rfl
set_option maxRecDepth 20000 in
theorem m_102 : (Jvm.Cond.fieldLink "TapOffice$Account" (32 : Nat) "TapOffice$Account" "topUps" "I") ∈ lw_tbl := List.mem_of_getElem? (i := 102) rfl
set_option maxRecDepth 20000 in
theorem m_125 : (Jvm.Cond.fieldLink "TapOffice$Validator" (11 : Nat) "TapOffice$Validator" "log" "[[I") ∈ lw_tbl := List.mem_of_getElem? (i := 125) rfl
set_option maxRecDepth 20000 in
theorem m_126 : (Jvm.Cond.fieldLink "TapOffice$Validator" (27 : Nat) "TapOffice$Validator" "size" "I") ∈ lw_tbl := List.mem_of_getElem? (i := 126) rfl
set_option maxRecDepth 20000 in
theorem m_127 : (Jvm.Cond.fieldLink "TapOffice$Validator" (16 : Nat) "TapOffice$Validator" "zone" "I") ∈ lw_tbl := List.mem_of_getElem? (i := 127) rfl
set_option maxRecDepth 20000 in
theorem m_128 : (Jvm.Cond.fieldLink "TapOffice$Validator" (20 : Nat) "TapOffice$Validator" "exit" "Z") ∈ lw_tbl := List.mem_of_getElem? (i := 128) rfl
set_option maxRecDepth 20000 in
theorem m_129 : (Jvm.Cond.fieldLink "TapOffice$Validator" (24 : Nat) "TapOffice$Validator" "denied" "I") ∈ lw_tbl := List.mem_of_getElem? (i := 129) rfl
set_option maxRecDepth 20000 in
theorem m_141 : (Jvm.Cond.fieldLink "TapOffice" (10 : Nat) "TapOffice" "tariff" "LTapOffice$Tariff;") ∈ lw_tbl := List.mem_of_getElem? (i := 141) rfl
set_option maxRecDepth 20000 in
theorem m_142 : (Jvm.Cond.fieldLink "TapOffice" (18 : Nat) "TapOffice" "cards" "[LTapOffice$Card;") ∈ lw_tbl := List.mem_of_getElem? (i := 142) rfl
set_option maxRecDepth 20000 in
theorem m_143 : (Jvm.Cond.fieldLink "TapOffice" (24 : Nat) "TapOffice" "accounts" "[LTapOffice$Account;") ∈ lw_tbl := List.mem_of_getElem? (i := 143) rfl
set_option maxRecDepth 20000 in
theorem m_144 : (Jvm.Cond.fieldLink "TapOffice" (30 : Nat) "TapOffice" "validators" "[LTapOffice$Validator;") ∈ lw_tbl := List.mem_of_getElem? (i := 144) rfl
set_option maxRecDepth 20000 in
theorem m_145 : (Jvm.Cond.fieldLink "TapOffice" (34 : Nat) "TapOffice" "incomes" "[I") ∈ lw_tbl := List.mem_of_getElem? (i := 145) rfl
set_option maxRecDepth 20000 in
theorem m_146 : (Jvm.Cond.fieldLink "TapOffice" (62 : Nat) "TapOffice" "now" "I") ∈ lw_tbl := List.mem_of_getElem? (i := 146) rfl
set_option maxRecDepth 20000 in
theorem m_147 : (Jvm.Cond.fieldLink "TapOffice" (117 : Nat) "TapOffice" "deniedCards" "I") ∈ lw_tbl := List.mem_of_getElem? (i := 147) rfl
set_option maxRecDepth 20000 in
theorem m_148 : (Jvm.Cond.fieldLink "TapOffice" (92 : Nat) "TapOffice" "tornTaps" "I") ∈ lw_tbl := List.mem_of_getElem? (i := 148) rfl
set_option maxRecDepth 20000 in
theorem m_170 : (Jvm.Cond.methodLink "TapOffice" (43 : Nat) ({ cls := "TapOffice", name := "isBelow", desc := "(II)Z" } : Jvm.MethodName)) ∈ lw_tbl := List.mem_of_getElem? (i := 170) rfl
set_option maxRecDepth 20000 in
theorem m_171 : (Jvm.Cond.static ({ cls := "TapOffice", name := "isBelow", desc := "(II)Z" } : Jvm.MethodName)) ∈ lw_tbl := List.mem_of_getElem? (i := 171) rfl
set_option maxRecDepth 20000 in
theorem m_172 : (Jvm.Cond.code ({ cls := "TapOffice", name := "isBelow", desc := "(II)Z" } : Jvm.MethodName) prog_1_method_16_code (2 : Nat) (Option.some Jvm.ClassFile.FieldType.boolean)) ∈ lw_tbl := List.mem_of_getElem? (i := 172) rfl
set_option maxRecDepth 20000 in
theorem m_173 : (Jvm.Cond.methodLink "TapOffice" (47 : Nat) ({ cls := "TapOffice$Tariff", name := "putFare", desc := "(III)V" } : Jvm.MethodName)) ∈ lw_tbl := List.mem_of_getElem? (i := 173) rfl
set_option maxRecDepth 20000 in
theorem m_174 : (Jvm.Cond.instanceMethod ({ cls := "TapOffice$Tariff", name := "putFare", desc := "(III)V" } : Jvm.MethodName)) ∈ lw_tbl := List.mem_of_getElem? (i := 174) rfl
set_option maxRecDepth 20000 in
theorem m_175 : (Jvm.Cond.selects "TapOffice$Tariff" ({ cls := "TapOffice$Tariff", name := "putFare", desc := "(III)V" } : Jvm.MethodName) ({ cls := "TapOffice$Tariff", name := "putFare", desc := "(III)V" } : Jvm.MethodName)) ∈ lw_tbl := List.mem_of_getElem? (i := 175) rfl
set_option maxRecDepth 20000 in
theorem m_176 : (Jvm.Cond.code ({ cls := "TapOffice$Tariff", name := "putFare", desc := "(III)V" } : Jvm.MethodName) prog_4_method_2_code (4 : Nat) (Option.none : Option Jvm.ClassFile.FieldType)) ∈ lw_tbl := List.mem_of_getElem? (i := 176) rfl
set_option maxRecDepth 20000 in
theorem m_181 : (Jvm.Cond.fieldLink "TapOffice" (51 : Nat) "TapOffice" "MOST_SETTINGS" "[I") ∈ lw_tbl := List.mem_of_getElem? (i := 181) rfl
set_option maxRecDepth 20000 in
theorem m_183 : (Jvm.Cond.methodLink "TapOffice" (54 : Nat) ({ cls := "TapOffice$Tariff", name := "putSetting", desc := "(II)V" } : Jvm.MethodName)) ∈ lw_tbl := List.mem_of_getElem? (i := 183) rfl
set_option maxRecDepth 20000 in
theorem m_184 : (Jvm.Cond.instanceMethod ({ cls := "TapOffice$Tariff", name := "putSetting", desc := "(II)V" } : Jvm.MethodName)) ∈ lw_tbl := List.mem_of_getElem? (i := 184) rfl
set_option maxRecDepth 20000 in
theorem m_185 : (Jvm.Cond.selects "TapOffice$Tariff" ({ cls := "TapOffice$Tariff", name := "putSetting", desc := "(II)V" } : Jvm.MethodName) ({ cls := "TapOffice$Tariff", name := "putSetting", desc := "(II)V" } : Jvm.MethodName)) ∈ lw_tbl := List.mem_of_getElem? (i := 185) rfl
set_option maxRecDepth 20000 in
theorem m_186 : (Jvm.Cond.code ({ cls := "TapOffice$Tariff", name := "putSetting", desc := "(II)V" } : Jvm.MethodName) prog_4_method_3_code (3 : Nat) (Option.none : Option Jvm.ClassFile.FieldType)) ∈ lw_tbl := List.mem_of_getElem? (i := 186) rfl
set_option maxRecDepth 20000 in
theorem m_191 : (Jvm.Cond.methodLink "TapOffice" (58 : Nat) ({ cls := "TapOffice$Validator", name := "moveTo", desc := "(IZ)V" } : Jvm.MethodName)) ∈ lw_tbl := List.mem_of_getElem? (i := 191) rfl
set_option maxRecDepth 20000 in
theorem m_192 : (Jvm.Cond.instanceMethod ({ cls := "TapOffice$Validator", name := "moveTo", desc := "(IZ)V" } : Jvm.MethodName)) ∈ lw_tbl := List.mem_of_getElem? (i := 192) rfl
set_option maxRecDepth 20000 in
theorem m_193 : (Jvm.Cond.selects "TapOffice$Validator" ({ cls := "TapOffice$Validator", name := "moveTo", desc := "(IZ)V" } : Jvm.MethodName) ({ cls := "TapOffice$Validator", name := "moveTo", desc := "(IZ)V" } : Jvm.MethodName)) ∈ lw_tbl := List.mem_of_getElem? (i := 193) rfl
set_option maxRecDepth 20000 in
theorem m_194 : (Jvm.Cond.code ({ cls := "TapOffice$Validator", name := "moveTo", desc := "(IZ)V" } : Jvm.MethodName) prog_5_method_2_code (3 : Nat) (Option.none : Option Jvm.ClassFile.FieldType)) ∈ lw_tbl := List.mem_of_getElem? (i := 194) rfl
set_option maxRecDepth 20000 in
theorem m_203 : (Jvm.Cond.methodLink "TapOffice" (66 : Nat) ({ cls := "TapOffice$Validator", name := "isFull", desc := "()Z" } : Jvm.MethodName)) ∈ lw_tbl := List.mem_of_getElem? (i := 203) rfl
set_option maxRecDepth 20000 in
theorem m_204 : (Jvm.Cond.instanceMethod ({ cls := "TapOffice$Validator", name := "isFull", desc := "()Z" } : Jvm.MethodName)) ∈ lw_tbl := List.mem_of_getElem? (i := 204) rfl
set_option maxRecDepth 20000 in
theorem m_205 : (Jvm.Cond.selects "TapOffice$Validator" ({ cls := "TapOffice$Validator", name := "isFull", desc := "()Z" } : Jvm.MethodName) ({ cls := "TapOffice$Validator", name := "isFull", desc := "()Z" } : Jvm.MethodName)) ∈ lw_tbl := List.mem_of_getElem? (i := 205) rfl
set_option maxRecDepth 20000 in
theorem m_206 : (Jvm.Cond.code ({ cls := "TapOffice$Validator", name := "isFull", desc := "()Z" } : Jvm.MethodName) prog_5_method_7_code (1 : Nat) (Option.some Jvm.ClassFile.FieldType.boolean)) ∈ lw_tbl := List.mem_of_getElem? (i := 206) rfl
set_option maxRecDepth 20000 in
theorem m_207 : (Jvm.Cond.methodLink "TapOffice" (70 : Nat) ({ cls := "TapOffice$Validator", name := "denies", desc := "(I)Z" } : Jvm.MethodName)) ∈ lw_tbl := List.mem_of_getElem? (i := 207) rfl
set_option maxRecDepth 20000 in
theorem m_208 : (Jvm.Cond.instanceMethod ({ cls := "TapOffice$Validator", name := "denies", desc := "(I)Z" } : Jvm.MethodName)) ∈ lw_tbl := List.mem_of_getElem? (i := 208) rfl
set_option maxRecDepth 20000 in
theorem m_209 : (Jvm.Cond.selects "TapOffice$Validator" ({ cls := "TapOffice$Validator", name := "denies", desc := "(I)Z" } : Jvm.MethodName) ({ cls := "TapOffice$Validator", name := "denies", desc := "(I)Z" } : Jvm.MethodName)) ∈ lw_tbl := List.mem_of_getElem? (i := 209) rfl
set_option maxRecDepth 20000 in
theorem m_210 : (Jvm.Cond.code ({ cls := "TapOffice$Validator", name := "denies", desc := "(I)Z" } : Jvm.MethodName) prog_5_method_5_code (2 : Nat) (Option.some Jvm.ClassFile.FieldType.boolean)) ∈ lw_tbl := List.mem_of_getElem? (i := 210) rfl
set_option maxRecDepth 20000 in
theorem m_211 : (Jvm.Cond.methodLink "TapOffice" (74 : Nat) ({ cls := "TapOffice$Validator", name := "isExit", desc := "()Z" } : Jvm.MethodName)) ∈ lw_tbl := List.mem_of_getElem? (i := 211) rfl
set_option maxRecDepth 20000 in
theorem m_212 : (Jvm.Cond.instanceMethod ({ cls := "TapOffice$Validator", name := "isExit", desc := "()Z" } : Jvm.MethodName)) ∈ lw_tbl := List.mem_of_getElem? (i := 212) rfl
set_option maxRecDepth 20000 in
theorem m_213 : (Jvm.Cond.selects "TapOffice$Validator" ({ cls := "TapOffice$Validator", name := "isExit", desc := "()Z" } : Jvm.MethodName) ({ cls := "TapOffice$Validator", name := "isExit", desc := "()Z" } : Jvm.MethodName)) ∈ lw_tbl := List.mem_of_getElem? (i := 213) rfl
set_option maxRecDepth 20000 in
theorem m_214 : (Jvm.Cond.code ({ cls := "TapOffice$Validator", name := "isExit", desc := "()Z" } : Jvm.MethodName) prog_5_method_4_code (1 : Nat) (Option.some Jvm.ClassFile.FieldType.boolean)) ∈ lw_tbl := List.mem_of_getElem? (i := 214) rfl
set_option maxRecDepth 20000 in
theorem m_215 : (Jvm.Cond.methodLink "TapOffice" (77 : Nat) ({ cls := "TapOffice$Card", name := "read", desc := "(I)I" } : Jvm.MethodName)) ∈ lw_tbl := List.mem_of_getElem? (i := 215) rfl
set_option maxRecDepth 20000 in
theorem m_216 : (Jvm.Cond.instanceMethod ({ cls := "TapOffice$Card", name := "read", desc := "(I)I" } : Jvm.MethodName)) ∈ lw_tbl := List.mem_of_getElem? (i := 216) rfl
set_option maxRecDepth 20000 in
theorem m_217 : (Jvm.Cond.selects "TapOffice$Card" ({ cls := "TapOffice$Card", name := "read", desc := "(I)I" } : Jvm.MethodName) ({ cls := "TapOffice$Card", name := "read", desc := "(I)I" } : Jvm.MethodName)) ∈ lw_tbl := List.mem_of_getElem? (i := 217) rfl
set_option maxRecDepth 20000 in
theorem m_218 : (Jvm.Cond.code ({ cls := "TapOffice$Card", name := "read", desc := "(I)I" } : Jvm.MethodName) prog_3_method_3_code (2 : Nat) (Option.some Jvm.ClassFile.FieldType.int)) ∈ lw_tbl := List.mem_of_getElem? (i := 218) rfl
set_option maxRecDepth 20000 in
theorem m_219 : (Jvm.Cond.methodLink "TapOffice$Card" (29 : Nat) ({ cls := "TapOffice$Card", name := "recordCopy", desc := "()I" } : Jvm.MethodName)) ∈ lw_tbl := List.mem_of_getElem? (i := 219) rfl
set_option maxRecDepth 20000 in
theorem m_221 : (Jvm.Cond.instanceMethod ({ cls := "TapOffice$Card", name := "recordCopy", desc := "()I" } : Jvm.MethodName)) ∈ lw_tbl := List.mem_of_getElem? (i := 221) rfl
set_option maxRecDepth 20000 in
theorem m_222 : (Jvm.Cond.code ({ cls := "TapOffice$Card", name := "recordCopy", desc := "()I" } : Jvm.MethodName) prog_3_method_9_code (1 : Nat) (Option.some Jvm.ClassFile.FieldType.int)) ∈ lw_tbl := List.mem_of_getElem? (i := 222) rfl
set_option maxRecDepth 20000 in
theorem m_223 : (Jvm.Cond.methodLink "TapOffice" (81 : Nat) ({ cls := "TapOffice$Tariff", name := "least", desc := "()I" } : Jvm.MethodName)) ∈ lw_tbl := List.mem_of_getElem? (i := 223) rfl
set_option maxRecDepth 20000 in
theorem m_224 : (Jvm.Cond.instanceMethod ({ cls := "TapOffice$Tariff", name := "least", desc := "()I" } : Jvm.MethodName)) ∈ lw_tbl := List.mem_of_getElem? (i := 224) rfl
set_option maxRecDepth 20000 in
theorem m_225 : (Jvm.Cond.selects "TapOffice$Tariff" ({ cls := "TapOffice$Tariff", name := "least", desc := "()I" } : Jvm.MethodName) ({ cls := "TapOffice$Tariff", name := "least", desc := "()I" } : Jvm.MethodName)) ∈ lw_tbl := List.mem_of_getElem? (i := 225) rfl
set_option maxRecDepth 20000 in
theorem m_226 : (Jvm.Cond.code ({ cls := "TapOffice$Tariff", name := "least", desc := "()I" } : Jvm.MethodName) prog_4_method_4_code (1 : Nat) (Option.some Jvm.ClassFile.FieldType.int)) ∈ lw_tbl := List.mem_of_getElem? (i := 226) rfl
set_option maxRecDepth 20000 in
theorem m_227 : (Jvm.Cond.methodLink "TapOffice" (85 : Nat) ({ cls := "TapOffice$Card", name := "draftTap", desc := "(LTapOffice$Validator;ILTapOffice$Tariff;)I" } : Jvm.MethodName)) ∈ lw_tbl := List.mem_of_getElem? (i := 227) rfl
set_option maxRecDepth 20000 in
theorem m_228 : (Jvm.Cond.instanceMethod ({ cls := "TapOffice$Card", name := "draftTap", desc := "(LTapOffice$Validator;ILTapOffice$Tariff;)I" } : Jvm.MethodName)) ∈ lw_tbl := List.mem_of_getElem? (i := 228) rfl
set_option maxRecDepth 20000 in
theorem m_229 : (Jvm.Cond.selects "TapOffice$Card" ({ cls := "TapOffice$Card", name := "draftTap", desc := "(LTapOffice$Validator;ILTapOffice$Tariff;)I" } : Jvm.MethodName) ({ cls := "TapOffice$Card", name := "draftTap", desc := "(LTapOffice$Validator;ILTapOffice$Tariff;)I" } : Jvm.MethodName)) ∈ lw_tbl := List.mem_of_getElem? (i := 229) rfl
set_option maxRecDepth 20000 in
theorem m_230 : (Jvm.Cond.code ({ cls := "TapOffice$Card", name := "draftTap", desc := "(LTapOffice$Validator;ILTapOffice$Tariff;)I" } : Jvm.MethodName) prog_3_method_7_code (5 : Nat) (Option.some Jvm.ClassFile.FieldType.int)) ∈ lw_tbl := List.mem_of_getElem? (i := 230) rfl
set_option maxRecDepth 20000 in
theorem m_231 : (Jvm.Cond.methodLink "TapOffice$Card" (37 : Nat) ({ cls := "TapOffice$Card", name := "startDraft", desc := "(I)V" } : Jvm.MethodName)) ∈ lw_tbl := List.mem_of_getElem? (i := 231) rfl
set_option maxRecDepth 20000 in
theorem m_233 : (Jvm.Cond.instanceMethod ({ cls := "TapOffice$Card", name := "startDraft", desc := "(I)V" } : Jvm.MethodName)) ∈ lw_tbl := List.mem_of_getElem? (i := 233) rfl
set_option maxRecDepth 20000 in
theorem m_234 : (Jvm.Cond.code ({ cls := "TapOffice$Card", name := "startDraft", desc := "(I)V" } : Jvm.MethodName) prog_3_method_10_code (3 : Nat) (Option.none : Option Jvm.ClassFile.FieldType)) ∈ lw_tbl := List.mem_of_getElem? (i := 234) rfl
set_option maxRecDepth 20000 in
theorem m_235 : (Jvm.Cond.methodLink "TapOffice$Card" (57 : Nat) ({ cls := "TapOffice$Card", name := "spentOn", desc := "(I)I" } : Jvm.MethodName)) ∈ lw_tbl := List.mem_of_getElem? (i := 235) rfl
set_option maxRecDepth 20000 in
theorem m_236 : (Jvm.Cond.instanceMethod ({ cls := "TapOffice$Card", name := "spentOn", desc := "(I)I" } : Jvm.MethodName)) ∈ lw_tbl := List.mem_of_getElem? (i := 236) rfl
set_option maxRecDepth 20000 in
theorem m_237 : (Jvm.Cond.selects "TapOffice$Card" ({ cls := "TapOffice$Card", name := "spentOn", desc := "(I)I" } : Jvm.MethodName) ({ cls := "TapOffice$Card", name := "spentOn", desc := "(I)I" } : Jvm.MethodName)) ∈ lw_tbl := List.mem_of_getElem? (i := 237) rfl
set_option maxRecDepth 20000 in
theorem m_238 : (Jvm.Cond.code ({ cls := "TapOffice$Card", name := "spentOn", desc := "(I)I" } : Jvm.MethodName) prog_3_method_5_code (2 : Nat) (Option.some Jvm.ClassFile.FieldType.int)) ∈ lw_tbl := List.mem_of_getElem? (i := 238) rfl
set_option maxRecDepth 20000 in
theorem m_239 : (Jvm.Cond.methodLink "TapOffice$Card" (33 : Nat) ({ cls := "TapOffice$Card", name := "read", desc := "(I)I" } : Jvm.MethodName)) ∈ lw_tbl := List.mem_of_getElem? (i := 239) rfl
set_option maxRecDepth 20000 in
theorem m_240 : (Jvm.Cond.methodLink "TapOffice$Card" (60 : Nat) ({ cls := "TapOffice$Card", name := "counter", desc := "()I" } : Jvm.MethodName)) ∈ lw_tbl := List.mem_of_getElem? (i := 240) rfl
set_option maxRecDepth 20000 in
theorem m_241 : (Jvm.Cond.instanceMethod ({ cls := "TapOffice$Card", name := "counter", desc := "()I" } : Jvm.MethodName)) ∈ lw_tbl := List.mem_of_getElem? (i := 241) rfl
set_option maxRecDepth 20000 in
theorem m_242 : (Jvm.Cond.selects "TapOffice$Card" ({ cls := "TapOffice$Card", name := "counter", desc := "()I" } : Jvm.MethodName) ({ cls := "TapOffice$Card", name := "counter", desc := "()I" } : Jvm.MethodName)) ∈ lw_tbl := List.mem_of_getElem? (i := 242) rfl
set_option maxRecDepth 20000 in
theorem m_243 : (Jvm.Cond.code ({ cls := "TapOffice$Card", name := "counter", desc := "()I" } : Jvm.MethodName) prog_3_method_4_code (1 : Nat) (Option.some Jvm.ClassFile.FieldType.int)) ∈ lw_tbl := List.mem_of_getElem? (i := 243) rfl
set_option maxRecDepth 20000 in
theorem m_244 : (Jvm.Cond.methodLink "TapOffice$Card" (41 : Nat) ({ cls := "TapOffice$Validator", name := "isExit", desc := "()Z" } : Jvm.MethodName)) ∈ lw_tbl := List.mem_of_getElem? (i := 244) rfl
set_option maxRecDepth 20000 in
theorem m_245 : (Jvm.Cond.methodLink "TapOffice$Card" (47 : Nat) ({ cls := "TapOffice$Validator", name := "zone", desc := "()I" } : Jvm.MethodName)) ∈ lw_tbl := List.mem_of_getElem? (i := 245) rfl
set_option maxRecDepth 20000 in
theorem m_246 : (Jvm.Cond.instanceMethod ({ cls := "TapOffice$Validator", name := "zone", desc := "()I" } : Jvm.MethodName)) ∈ lw_tbl := List.mem_of_getElem? (i := 246) rfl
set_option maxRecDepth 20000 in
theorem m_247 : (Jvm.Cond.selects "TapOffice$Validator" ({ cls := "TapOffice$Validator", name := "zone", desc := "()I" } : Jvm.MethodName) ({ cls := "TapOffice$Validator", name := "zone", desc := "()I" } : Jvm.MethodName)) ∈ lw_tbl := List.mem_of_getElem? (i := 247) rfl
set_option maxRecDepth 20000 in
theorem m_248 : (Jvm.Cond.code ({ cls := "TapOffice$Validator", name := "zone", desc := "()I" } : Jvm.MethodName) prog_5_method_3_code (1 : Nat) (Option.some Jvm.ClassFile.FieldType.int)) ∈ lw_tbl := List.mem_of_getElem? (i := 248) rfl
set_option maxRecDepth 20000 in
theorem m_249 : (Jvm.Cond.methodLink "TapOffice$Card" (50 : Nat) ({ cls := "TapOffice$Card", name := "draftExit", desc := "(IILTapOffice$Tariff;)I" } : Jvm.MethodName)) ∈ lw_tbl := List.mem_of_getElem? (i := 249) rfl
set_option maxRecDepth 20000 in
theorem m_251 : (Jvm.Cond.instanceMethod ({ cls := "TapOffice$Card", name := "draftExit", desc := "(IILTapOffice$Tariff;)I" } : Jvm.MethodName)) ∈ lw_tbl := List.mem_of_getElem? (i := 251) rfl
set_option maxRecDepth 20000 in
theorem m_252 : (Jvm.Cond.code ({ cls := "TapOffice$Card", name := "draftExit", desc := "(IILTapOffice$Tariff;)I" } : Jvm.MethodName) prog_3_method_12_code (7 : Nat) (Option.some Jvm.ClassFile.FieldType.int)) ∈ lw_tbl := List.mem_of_getElem? (i := 252) rfl
set_option maxRecDepth 20000 in
theorem m_253 : (Jvm.Cond.methodLink "TapOffice$Card" (72 : Nat) ({ cls := "TapOffice$Tariff", name := "priceBetween", desc := "(III)I" } : Jvm.MethodName)) ∈ lw_tbl := List.mem_of_getElem? (i := 253) rfl
set_option maxRecDepth 20000 in
theorem m_254 : (Jvm.Cond.instanceMethod ({ cls := "TapOffice$Tariff", name := "priceBetween", desc := "(III)I" } : Jvm.MethodName)) ∈ lw_tbl := List.mem_of_getElem? (i := 254) rfl
set_option maxRecDepth 20000 in
theorem m_255 : (Jvm.Cond.selects "TapOffice$Tariff" ({ cls := "TapOffice$Tariff", name := "priceBetween", desc := "(III)I" } : Jvm.MethodName) ({ cls := "TapOffice$Tariff", name := "priceBetween", desc := "(III)I" } : Jvm.MethodName)) ∈ lw_tbl := List.mem_of_getElem? (i := 255) rfl
set_option maxRecDepth 20000 in
theorem m_256 : (Jvm.Cond.code ({ cls := "TapOffice$Tariff", name := "priceBetween", desc := "(III)I" } : Jvm.MethodName) prog_4_method_5_code (4 : Nat) (Option.some Jvm.ClassFile.FieldType.int)) ∈ lw_tbl := List.mem_of_getElem? (i := 256) rfl
set_option maxRecDepth 20000 in
theorem m_258 : (Jvm.Cond.methodLink "TapOffice$Tariff" (32 : Nat) ({ cls := "TapOffice$Tariff", name := "price", desc := "(II)I" } : Jvm.MethodName)) ∈ lw_tbl := List.mem_of_getElem? (i := 258) rfl
set_option maxRecDepth 20000 in
theorem m_260 : (Jvm.Cond.instanceMethod ({ cls := "TapOffice$Tariff", name := "price", desc := "(II)I" } : Jvm.MethodName)) ∈ lw_tbl := List.mem_of_getElem? (i := 260) rfl
set_option maxRecDepth 20000 in
theorem m_261 : (Jvm.Cond.code ({ cls := "TapOffice$Tariff", name := "price", desc := "(II)I" } : Jvm.MethodName) prog_4_method_8_code (5 : Nat) (Option.some Jvm.ClassFile.FieldType.int)) ∈ lw_tbl := List.mem_of_getElem? (i := 261) rfl
set_option maxRecDepth 20000 in
theorem m_262 : (Jvm.Cond.methodLink "TapOffice$Card" (76 : Nat) ({ cls := "TapOffice$Card", name := "priceOutOfTime", desc := "(IILTapOffice$Tariff;)I" } : Jvm.MethodName)) ∈ lw_tbl := List.mem_of_getElem? (i := 262) rfl
set_option maxRecDepth 20000 in
theorem m_264 : (Jvm.Cond.instanceMethod ({ cls := "TapOffice$Card", name := "priceOutOfTime", desc := "(IILTapOffice$Tariff;)I" } : Jvm.MethodName)) ∈ lw_tbl := List.mem_of_getElem? (i := 264) rfl
set_option maxRecDepth 20000 in
theorem m_265 : (Jvm.Cond.code ({ cls := "TapOffice$Card", name := "priceOutOfTime", desc := "(IILTapOffice$Tariff;)I" } : Jvm.MethodName) prog_3_method_13_code (4 : Nat) (Option.some Jvm.ClassFile.FieldType.int)) ∈ lw_tbl := List.mem_of_getElem? (i := 265) rfl
set_option maxRecDepth 20000 in
theorem m_266 : (Jvm.Cond.methodLink "TapOffice$Card" (63 : Nat) ({ cls := "TapOffice$Tariff", name := "fullPrice", desc := "(II)I" } : Jvm.MethodName)) ∈ lw_tbl := List.mem_of_getElem? (i := 266) rfl
set_option maxRecDepth 20000 in
theorem m_267 : (Jvm.Cond.instanceMethod ({ cls := "TapOffice$Tariff", name := "fullPrice", desc := "(II)I" } : Jvm.MethodName)) ∈ lw_tbl := List.mem_of_getElem? (i := 267) rfl
set_option maxRecDepth 20000 in
theorem m_268 : (Jvm.Cond.selects "TapOffice$Tariff" ({ cls := "TapOffice$Tariff", name := "fullPrice", desc := "(II)I" } : Jvm.MethodName) ({ cls := "TapOffice$Tariff", name := "fullPrice", desc := "(II)I" } : Jvm.MethodName)) ∈ lw_tbl := List.mem_of_getElem? (i := 268) rfl
set_option maxRecDepth 20000 in
theorem m_269 : (Jvm.Cond.code ({ cls := "TapOffice$Tariff", name := "fullPrice", desc := "(II)I" } : Jvm.MethodName) prog_4_method_6_code (5 : Nat) (Option.some Jvm.ClassFile.FieldType.int)) ∈ lw_tbl := List.mem_of_getElem? (i := 269) rfl
set_option maxRecDepth 20000 in
theorem m_270 : (Jvm.Cond.methodLink "TapOffice$Tariff" (36 : Nat) ({ cls := "java/lang/Math", name := "max", desc := "(II)I" } : Jvm.MethodName)) ∈ lw_tbl := List.mem_of_getElem? (i := 270) rfl
set_option maxRecDepth 20000 in
theorem m_271 : (Jvm.Cond.static ({ cls := "java/lang/Math", name := "max", desc := "(II)I" } : Jvm.MethodName)) ∈ lw_tbl := List.mem_of_getElem? (i := 271) rfl
set_option maxRecDepth 20000 in
theorem m_272 : (Jvm.Cond.code ({ cls := "java/lang/Math", name := "max", desc := "(II)I" } : Jvm.MethodName) prog_10_method_65_code (2 : Nat) (Option.some Jvm.ClassFile.FieldType.int)) ∈ lw_tbl := List.mem_of_getElem? (i := 272) rfl
set_option maxRecDepth 20000 in
theorem m_273 : (Jvm.Cond.methodLink "TapOffice$Card" (69 : Nat) ({ cls := "TapOffice$Tariff", name := "capped", desc := "(II)I" } : Jvm.MethodName)) ∈ lw_tbl := List.mem_of_getElem? (i := 273) rfl
set_option maxRecDepth 20000 in
theorem m_274 : (Jvm.Cond.instanceMethod ({ cls := "TapOffice$Tariff", name := "capped", desc := "(II)I" } : Jvm.MethodName)) ∈ lw_tbl := List.mem_of_getElem? (i := 274) rfl
set_option maxRecDepth 20000 in
theorem m_275 : (Jvm.Cond.selects "TapOffice$Tariff" ({ cls := "TapOffice$Tariff", name := "capped", desc := "(II)I" } : Jvm.MethodName) ({ cls := "TapOffice$Tariff", name := "capped", desc := "(II)I" } : Jvm.MethodName)) ∈ lw_tbl := List.mem_of_getElem? (i := 275) rfl
set_option maxRecDepth 20000 in
theorem m_276 : (Jvm.Cond.code ({ cls := "TapOffice$Tariff", name := "capped", desc := "(II)I" } : Jvm.MethodName) prog_4_method_7_code (3 : Nat) (Option.some Jvm.ClassFile.FieldType.int)) ∈ lw_tbl := List.mem_of_getElem? (i := 276) rfl
set_option maxRecDepth 20000 in
theorem m_277 : (Jvm.Cond.methodLink "TapOffice$Tariff" (41 : Nat) ({ cls := "java/lang/Math", name := "min", desc := "(II)I" } : Jvm.MethodName)) ∈ lw_tbl := List.mem_of_getElem? (i := 277) rfl
set_option maxRecDepth 20000 in
theorem m_278 : (Jvm.Cond.static ({ cls := "java/lang/Math", name := "min", desc := "(II)I" } : Jvm.MethodName)) ∈ lw_tbl := List.mem_of_getElem? (i := 278) rfl
set_option maxRecDepth 20000 in
theorem m_279 : (Jvm.Cond.code ({ cls := "java/lang/Math", name := "min", desc := "(II)I" } : Jvm.MethodName) prog_10_method_69_code (2 : Nat) (Option.some Jvm.ClassFile.FieldType.int)) ∈ lw_tbl := List.mem_of_getElem? (i := 279) rfl
set_option maxRecDepth 20000 in
theorem m_280 : (Jvm.Cond.methodLink "TapOffice$Card" (54 : Nat) ({ cls := "TapOffice$Card", name := "draftEntry", desc := "(IILTapOffice$Tariff;)I" } : Jvm.MethodName)) ∈ lw_tbl := List.mem_of_getElem? (i := 280) rfl
set_option maxRecDepth 20000 in
theorem m_282 : (Jvm.Cond.instanceMethod ({ cls := "TapOffice$Card", name := "draftEntry", desc := "(IILTapOffice$Tariff;)I" } : Jvm.MethodName)) ∈ lw_tbl := List.mem_of_getElem? (i := 282) rfl
set_option maxRecDepth 20000 in
theorem m_283 : (Jvm.Cond.code ({ cls := "TapOffice$Card", name := "draftEntry", desc := "(IILTapOffice$Tariff;)I" } : Jvm.MethodName) prog_3_method_11_code (6 : Nat) (Option.some Jvm.ClassFile.FieldType.int)) ∈ lw_tbl := List.mem_of_getElem? (i := 283) rfl
set_option maxRecDepth 20000 in
theorem m_284 : (Jvm.Cond.methodLink "TapOffice" (89 : Nat) ({ cls := "TapOffice$Card", name := "writeDraft", desc := "(I)V" } : Jvm.MethodName)) ∈ lw_tbl := List.mem_of_getElem? (i := 284) rfl
set_option maxRecDepth 20000 in
theorem m_285 : (Jvm.Cond.instanceMethod ({ cls := "TapOffice$Card", name := "writeDraft", desc := "(I)V" } : Jvm.MethodName)) ∈ lw_tbl := List.mem_of_getElem? (i := 285) rfl
set_option maxRecDepth 20000 in
theorem m_286 : (Jvm.Cond.selects "TapOffice$Card" ({ cls := "TapOffice$Card", name := "writeDraft", desc := "(I)V" } : Jvm.MethodName) ({ cls := "TapOffice$Card", name := "writeDraft", desc := "(I)V" } : Jvm.MethodName)) ∈ lw_tbl := List.mem_of_getElem? (i := 286) rfl
set_option maxRecDepth 20000 in
theorem m_287 : (Jvm.Cond.code ({ cls := "TapOffice$Card", name := "writeDraft", desc := "(I)V" } : Jvm.MethodName) prog_3_method_8_code (4 : Nat) (Option.none : Option Jvm.ClassFile.FieldType)) ∈ lw_tbl := List.mem_of_getElem? (i := 287) rfl
set_option maxRecDepth 20000 in
theorem m_288 : (Jvm.Cond.methodLink "TapOffice" (95 : Nat) ({ cls := "TapOffice$Card", name := "counter", desc := "()I" } : Jvm.MethodName)) ∈ lw_tbl := List.mem_of_getElem? (i := 288) rfl
set_option maxRecDepth 20000 in
theorem m_289 : (Jvm.Cond.methodLink "TapOffice" (98 : Nat) ({ cls := "TapOffice$Validator", name := "keepEntry", desc := "(IIII)V" } : Jvm.MethodName)) ∈ lw_tbl := List.mem_of_getElem? (i := 289) rfl
set_option maxRecDepth 20000 in
theorem m_290 : (Jvm.Cond.instanceMethod ({ cls := "TapOffice$Validator", name := "keepEntry", desc := "(IIII)V" } : Jvm.MethodName)) ∈ lw_tbl := List.mem_of_getElem? (i := 290) rfl
set_option maxRecDepth 20000 in
theorem m_291 : (Jvm.Cond.selects "TapOffice$Validator" ({ cls := "TapOffice$Validator", name := "keepEntry", desc := "(IIII)V" } : Jvm.MethodName) ({ cls := "TapOffice$Validator", name := "keepEntry", desc := "(IIII)V" } : Jvm.MethodName)) ∈ lw_tbl := List.mem_of_getElem? (i := 291) rfl
set_option maxRecDepth 20000 in
theorem m_292 : (Jvm.Cond.code ({ cls := "TapOffice$Validator", name := "keepEntry", desc := "(IIII)V" } : Jvm.MethodName) prog_5_method_10_code (6 : Nat) (Option.none : Option Jvm.ClassFile.FieldType)) ∈ lw_tbl := List.mem_of_getElem? (i := 292) rfl
set_option maxRecDepth 20000 in
theorem m_293 : (Jvm.Cond.methodLink "TapOffice$Validator" (30 : Nat) ({ cls := "TapOffice$Validator", name := "isFull", desc := "()Z" } : Jvm.MethodName)) ∈ lw_tbl := List.mem_of_getElem? (i := 293) rfl
set_option maxRecDepth 20000 in
theorem m_298 : (Jvm.Cond.methodLink "TapOffice" (102 : Nat) ({ cls := "TapOffice$Card", name := "draftTopUp", desc := "(II)V" } : Jvm.MethodName)) ∈ lw_tbl := List.mem_of_getElem? (i := 298) rfl
set_option maxRecDepth 20000 in
theorem m_299 : (Jvm.Cond.instanceMethod ({ cls := "TapOffice$Card", name := "draftTopUp", desc := "(II)V" } : Jvm.MethodName)) ∈ lw_tbl := List.mem_of_getElem? (i := 299) rfl
set_option maxRecDepth 20000 in
theorem m_300 : (Jvm.Cond.selects "TapOffice$Card" ({ cls := "TapOffice$Card", name := "draftTopUp", desc := "(II)V" } : Jvm.MethodName) ({ cls := "TapOffice$Card", name := "draftTopUp", desc := "(II)V" } : Jvm.MethodName)) ∈ lw_tbl := List.mem_of_getElem? (i := 300) rfl
set_option maxRecDepth 20000 in
theorem m_301 : (Jvm.Cond.code ({ cls := "TapOffice$Card", name := "draftTopUp", desc := "(II)V" } : Jvm.MethodName) prog_3_method_6_code (3 : Nat) (Option.none : Option Jvm.ClassFile.FieldType)) ∈ lw_tbl := List.mem_of_getElem? (i := 301) rfl
set_option maxRecDepth 20000 in
theorem m_302 : (Jvm.Cond.methodLink "TapOffice" (105 : Nat) ({ cls := "TapOffice$Account", name := "enterTopUp", desc := "(III)V" } : Jvm.MethodName)) ∈ lw_tbl := List.mem_of_getElem? (i := 302) rfl
set_option maxRecDepth 20000 in
theorem m_303 : (Jvm.Cond.instanceMethod ({ cls := "TapOffice$Account", name := "enterTopUp", desc := "(III)V" } : Jvm.MethodName)) ∈ lw_tbl := List.mem_of_getElem? (i := 303) rfl
set_option maxRecDepth 20000 in
theorem m_304 : (Jvm.Cond.selects "TapOffice$Account" ({ cls := "TapOffice$Account", name := "enterTopUp", desc := "(III)V" } : Jvm.MethodName) ({ cls := "TapOffice$Account", name := "enterTopUp", desc := "(III)V" } : Jvm.MethodName)) ∈ lw_tbl := List.mem_of_getElem? (i := 304) rfl
set_option maxRecDepth 20000 in
theorem m_305 : (Jvm.Cond.code ({ cls := "TapOffice$Account", name := "enterTopUp", desc := "(III)V" } : Jvm.MethodName) prog_2_method_8_code (4 : Nat) (Option.none : Option Jvm.ClassFile.FieldType)) ∈ lw_tbl := List.mem_of_getElem? (i := 305) rfl
set_option maxRecDepth 20000 in
theorem m_306 : (Jvm.Cond.methodLink "TapOffice$Account" (35 : Nat) ({ cls := "TapOffice$Account", name := "enter", desc := "(III)Z" } : Jvm.MethodName)) ∈ lw_tbl := List.mem_of_getElem? (i := 306) rfl
set_option maxRecDepth 20000 in
theorem m_308 : (Jvm.Cond.instanceMethod ({ cls := "TapOffice$Account", name := "enter", desc := "(III)Z" } : Jvm.MethodName)) ∈ lw_tbl := List.mem_of_getElem? (i := 308) rfl
set_option maxRecDepth 20000 in
theorem m_309 : (Jvm.Cond.code ({ cls := "TapOffice$Account", name := "enter", desc := "(III)Z" } : Jvm.MethodName) prog_2_method_10_code (4 : Nat) (Option.some Jvm.ClassFile.FieldType.boolean)) ∈ lw_tbl := List.mem_of_getElem? (i := 309) rfl
set_option maxRecDepth 20000 in
theorem m_310 : (Jvm.Cond.methodLink "TapOffice$Account" (39 : Nat) ({ cls := "java/lang/Math", name := "max", desc := "(II)I" } : Jvm.MethodName)) ∈ lw_tbl := List.mem_of_getElem? (i := 310) rfl
set_option maxRecDepth 20000 in
theorem m_315 : (Jvm.Cond.methodLink "TapOffice" (108 : Nat) ({ cls := "TapOffice$Validator", name := "logSize", desc := "()I" } : Jvm.MethodName)) ∈ lw_tbl := List.mem_of_getElem? (i := 315) rfl
set_option maxRecDepth 20000 in
theorem m_316 : (Jvm.Cond.instanceMethod ({ cls := "TapOffice$Validator", name := "logSize", desc := "()I" } : Jvm.MethodName)) ∈ lw_tbl := List.mem_of_getElem? (i := 316) rfl
set_option maxRecDepth 20000 in
theorem m_317 : (Jvm.Cond.selects "TapOffice$Validator" ({ cls := "TapOffice$Validator", name := "logSize", desc := "()I" } : Jvm.MethodName) ({ cls := "TapOffice$Validator", name := "logSize", desc := "()I" } : Jvm.MethodName)) ∈ lw_tbl := List.mem_of_getElem? (i := 317) rfl
set_option maxRecDepth 20000 in
theorem m_318 : (Jvm.Cond.code ({ cls := "TapOffice$Validator", name := "logSize", desc := "()I" } : Jvm.MethodName) prog_5_method_8_code (1 : Nat) (Option.some Jvm.ClassFile.FieldType.int)) ∈ lw_tbl := List.mem_of_getElem? (i := 318) rfl
set_option maxRecDepth 20000 in
theorem m_319 : (Jvm.Cond.methodLink "TapOffice" (111 : Nat) ({ cls := "TapOffice", name := "receiveEntry", desc := "(II)V" } : Jvm.MethodName)) ∈ lw_tbl := List.mem_of_getElem? (i := 319) rfl
set_option maxRecDepth 20000 in
theorem m_321 : (Jvm.Cond.instanceMethod ({ cls := "TapOffice", name := "receiveEntry", desc := "(II)V" } : Jvm.MethodName)) ∈ lw_tbl := List.mem_of_getElem? (i := 321) rfl
set_option maxRecDepth 20000 in
theorem m_322 : (Jvm.Cond.code ({ cls := "TapOffice", name := "receiveEntry", desc := "(II)V" } : Jvm.MethodName) prog_1_method_17_code (6 : Nat) (Option.none : Option Jvm.ClassFile.FieldType)) ∈ lw_tbl := List.mem_of_getElem? (i := 322) rfl
set_option maxRecDepth 20000 in
theorem m_323 : (Jvm.Cond.methodLink "TapOffice" (130 : Nat) ({ cls := "TapOffice$Validator", name := "readEntry", desc := "(II)I" } : Jvm.MethodName)) ∈ lw_tbl := List.mem_of_getElem? (i := 323) rfl
set_option maxRecDepth 20000 in
theorem m_324 : (Jvm.Cond.instanceMethod ({ cls := "TapOffice$Validator", name := "readEntry", desc := "(II)I" } : Jvm.MethodName)) ∈ lw_tbl := List.mem_of_getElem? (i := 324) rfl
set_option maxRecDepth 20000 in
theorem m_325 : (Jvm.Cond.selects "TapOffice$Validator" ({ cls := "TapOffice$Validator", name := "readEntry", desc := "(II)I" } : Jvm.MethodName) ({ cls := "TapOffice$Validator", name := "readEntry", desc := "(II)I" } : Jvm.MethodName)) ∈ lw_tbl := List.mem_of_getElem? (i := 325) rfl
set_option maxRecDepth 20000 in
theorem m_326 : (Jvm.Cond.code ({ cls := "TapOffice$Validator", name := "readEntry", desc := "(II)I" } : Jvm.MethodName) prog_5_method_9_code (3 : Nat) (Option.some Jvm.ClassFile.FieldType.int)) ∈ lw_tbl := List.mem_of_getElem? (i := 326) rfl
set_option maxRecDepth 20000 in
theorem m_327 : (Jvm.Cond.methodLink "TapOffice" (159 : Nat) ({ cls := "TapOffice$Account", name := "enterCharge", desc := "(III)V" } : Jvm.MethodName)) ∈ lw_tbl := List.mem_of_getElem? (i := 327) rfl
set_option maxRecDepth 20000 in
theorem m_328 : (Jvm.Cond.instanceMethod ({ cls := "TapOffice$Account", name := "enterCharge", desc := "(III)V" } : Jvm.MethodName)) ∈ lw_tbl := List.mem_of_getElem? (i := 328) rfl
set_option maxRecDepth 20000 in
theorem m_329 : (Jvm.Cond.selects "TapOffice$Account" ({ cls := "TapOffice$Account", name := "enterCharge", desc := "(III)V" } : Jvm.MethodName) ({ cls := "TapOffice$Account", name := "enterCharge", desc := "(III)V" } : Jvm.MethodName)) ∈ lw_tbl := List.mem_of_getElem? (i := 329) rfl
set_option maxRecDepth 20000 in
theorem m_330 : (Jvm.Cond.code ({ cls := "TapOffice$Account", name := "enterCharge", desc := "(III)V" } : Jvm.MethodName) prog_2_method_7_code (4 : Nat) (Option.none : Option Jvm.ClassFile.FieldType)) ∈ lw_tbl := List.mem_of_getElem? (i := 330) rfl
set_option maxRecDepth 20000 in
theorem m_331 : (Jvm.Cond.methodLink "TapOffice" (114 : Nat) ({ cls := "TapOffice$Validator", name := "emptyLog", desc := "()V" } : Jvm.MethodName)) ∈ lw_tbl := List.mem_of_getElem? (i := 331) rfl
set_option maxRecDepth 20000 in
theorem m_332 : (Jvm.Cond.instanceMethod ({ cls := "TapOffice$Validator", name := "emptyLog", desc := "()V" } : Jvm.MethodName)) ∈ lw_tbl := List.mem_of_getElem? (i := 332) rfl
set_option maxRecDepth 20000 in
theorem m_333 : (Jvm.Cond.selects "TapOffice$Validator" ({ cls := "TapOffice$Validator", name := "emptyLog", desc := "()V" } : Jvm.MethodName) ({ cls := "TapOffice$Validator", name := "emptyLog", desc := "()V" } : Jvm.MethodName)) ∈ lw_tbl := List.mem_of_getElem? (i := 333) rfl
set_option maxRecDepth 20000 in
theorem m_334 : (Jvm.Cond.code ({ cls := "TapOffice$Validator", name := "emptyLog", desc := "()V" } : Jvm.MethodName) prog_5_method_11_code (1 : Nat) (Option.none : Option Jvm.ClassFile.FieldType)) ∈ lw_tbl := List.mem_of_getElem? (i := 334) rfl
set_option maxRecDepth 20000 in
theorem m_335 : (Jvm.Cond.methodLink "TapOffice" (120 : Nat) ({ cls := "TapOffice$Validator", name := "takeDenied", desc := "(I)V" } : Jvm.MethodName)) ∈ lw_tbl := List.mem_of_getElem? (i := 335) rfl
set_option maxRecDepth 20000 in
theorem m_336 : (Jvm.Cond.instanceMethod ({ cls := "TapOffice$Validator", name := "takeDenied", desc := "(I)V" } : Jvm.MethodName)) ∈ lw_tbl := List.mem_of_getElem? (i := 336) rfl
set_option maxRecDepth 20000 in
theorem m_337 : (Jvm.Cond.selects "TapOffice$Validator" ({ cls := "TapOffice$Validator", name := "takeDenied", desc := "(I)V" } : Jvm.MethodName) ({ cls := "TapOffice$Validator", name := "takeDenied", desc := "(I)V" } : Jvm.MethodName)) ∈ lw_tbl := List.mem_of_getElem? (i := 337) rfl
set_option maxRecDepth 20000 in
theorem m_338 : (Jvm.Cond.code ({ cls := "TapOffice$Validator", name := "takeDenied", desc := "(I)V" } : Jvm.MethodName) prog_5_method_6_code (2 : Nat) (Option.none : Option Jvm.ClassFile.FieldType)) ∈ lw_tbl := List.mem_of_getElem? (i := 338) rfl
set_option maxRecDepth 20000 in
theorem m_347 : (Jvm.Cond.methodLink "TapOffice" (123 : Nat) ({ cls := "TapOffice$Card", name := "readCopy", desc := "(II)I" } : Jvm.MethodName)) ∈ lw_tbl := List.mem_of_getElem? (i := 347) rfl
set_option maxRecDepth 20000 in
theorem m_348 : (Jvm.Cond.instanceMethod ({ cls := "TapOffice$Card", name := "readCopy", desc := "(II)I" } : Jvm.MethodName)) ∈ lw_tbl := List.mem_of_getElem? (i := 348) rfl
set_option maxRecDepth 20000 in
theorem m_349 : (Jvm.Cond.selects "TapOffice$Card" ({ cls := "TapOffice$Card", name := "readCopy", desc := "(II)I" } : Jvm.MethodName) ({ cls := "TapOffice$Card", name := "readCopy", desc := "(II)I" } : Jvm.MethodName)) ∈ lw_tbl := List.mem_of_getElem? (i := 349) rfl
set_option maxRecDepth 20000 in
theorem m_350 : (Jvm.Cond.code ({ cls := "TapOffice$Card", name := "readCopy", desc := "(II)I" } : Jvm.MethodName) prog_3_method_2_code (3 : Nat) (Option.some Jvm.ClassFile.FieldType.int)) ∈ lw_tbl := List.mem_of_getElem? (i := 350) rfl
set_option maxRecDepth 20000 in
theorem m_355 : (Jvm.Cond.methodLink "TapOffice" (127 : Nat) ({ cls := "TapOffice$Card", name := "spentOn", desc := "(I)I" } : Jvm.MethodName)) ∈ lw_tbl := List.mem_of_getElem? (i := 355) rfl
set_option maxRecDepth 20000 in
theorem m_364 : (Jvm.Cond.methodLink "TapOffice" (133 : Nat) ({ cls := "TapOffice$Account", name := "known", desc := "()I" } : Jvm.MethodName)) ∈ lw_tbl := List.mem_of_getElem? (i := 364) rfl
set_option maxRecDepth 20000 in
theorem m_365 : (Jvm.Cond.instanceMethod ({ cls := "TapOffice$Account", name := "known", desc := "()I" } : Jvm.MethodName)) ∈ lw_tbl := List.mem_of_getElem? (i := 365) rfl
set_option maxRecDepth 20000 in
theorem m_366 : (Jvm.Cond.selects "TapOffice$Account" ({ cls := "TapOffice$Account", name := "known", desc := "()I" } : Jvm.MethodName) ({ cls := "TapOffice$Account", name := "known", desc := "()I" } : Jvm.MethodName)) ∈ lw_tbl := List.mem_of_getElem? (i := 366) rfl
set_option maxRecDepth 20000 in
theorem m_367 : (Jvm.Cond.code ({ cls := "TapOffice$Account", name := "known", desc := "()I" } : Jvm.MethodName) prog_2_method_2_code (1 : Nat) (Option.some Jvm.ClassFile.FieldType.int)) ∈ lw_tbl := List.mem_of_getElem? (i := 367) rfl
set_option maxRecDepth 20000 in
theorem m_368 : (Jvm.Cond.methodLink "TapOffice" (136 : Nat) ({ cls := "TapOffice$Account", name := "greatestCounter", desc := "()I" } : Jvm.MethodName)) ∈ lw_tbl := List.mem_of_getElem? (i := 368) rfl
set_option maxRecDepth 20000 in
theorem m_369 : (Jvm.Cond.instanceMethod ({ cls := "TapOffice$Account", name := "greatestCounter", desc := "()I" } : Jvm.MethodName)) ∈ lw_tbl := List.mem_of_getElem? (i := 369) rfl
set_option maxRecDepth 20000 in
theorem m_370 : (Jvm.Cond.selects "TapOffice$Account" ({ cls := "TapOffice$Account", name := "greatestCounter", desc := "()I" } : Jvm.MethodName) ({ cls := "TapOffice$Account", name := "greatestCounter", desc := "()I" } : Jvm.MethodName)) ∈ lw_tbl := List.mem_of_getElem? (i := 370) rfl
set_option maxRecDepth 20000 in
theorem m_371 : (Jvm.Cond.code ({ cls := "TapOffice$Account", name := "greatestCounter", desc := "()I" } : Jvm.MethodName) prog_2_method_3_code (1 : Nat) (Option.some Jvm.ClassFile.FieldType.int)) ∈ lw_tbl := List.mem_of_getElem? (i := 371) rfl
set_option maxRecDepth 20000 in
theorem m_372 : (Jvm.Cond.methodLink "TapOffice" (139 : Nat) ({ cls := "TapOffice$Account", name := "missing", desc := "()I" } : Jvm.MethodName)) ∈ lw_tbl := List.mem_of_getElem? (i := 372) rfl
set_option maxRecDepth 20000 in
theorem m_373 : (Jvm.Cond.instanceMethod ({ cls := "TapOffice$Account", name := "missing", desc := "()I" } : Jvm.MethodName)) ∈ lw_tbl := List.mem_of_getElem? (i := 373) rfl
set_option maxRecDepth 20000 in
theorem m_374 : (Jvm.Cond.selects "TapOffice$Account" ({ cls := "TapOffice$Account", name := "missing", desc := "()I" } : Jvm.MethodName) ({ cls := "TapOffice$Account", name := "missing", desc := "()I" } : Jvm.MethodName)) ∈ lw_tbl := List.mem_of_getElem? (i := 374) rfl
set_option maxRecDepth 20000 in
theorem m_375 : (Jvm.Cond.code ({ cls := "TapOffice$Account", name := "missing", desc := "()I" } : Jvm.MethodName) prog_2_method_4_code (1 : Nat) (Option.some Jvm.ClassFile.FieldType.int)) ∈ lw_tbl := List.mem_of_getElem? (i := 375) rfl
set_option maxRecDepth 20000 in
theorem m_376 : (Jvm.Cond.methodLink "TapOffice" (142 : Nat) ({ cls := "TapOffice$Account", name := "lostMoney", desc := "()I" } : Jvm.MethodName)) ∈ lw_tbl := List.mem_of_getElem? (i := 376) rfl
set_option maxRecDepth 20000 in
theorem m_377 : (Jvm.Cond.instanceMethod ({ cls := "TapOffice$Account", name := "lostMoney", desc := "()I" } : Jvm.MethodName)) ∈ lw_tbl := List.mem_of_getElem? (i := 377) rfl
set_option maxRecDepth 20000 in
theorem m_378 : (Jvm.Cond.selects "TapOffice$Account" ({ cls := "TapOffice$Account", name := "lostMoney", desc := "()I" } : Jvm.MethodName) ({ cls := "TapOffice$Account", name := "lostMoney", desc := "()I" } : Jvm.MethodName)) ∈ lw_tbl := List.mem_of_getElem? (i := 378) rfl
set_option maxRecDepth 20000 in
theorem m_379 : (Jvm.Cond.code ({ cls := "TapOffice$Account", name := "lostMoney", desc := "()I" } : Jvm.MethodName) prog_2_method_9_code (5 : Nat) (Option.some Jvm.ClassFile.FieldType.int)) ∈ lw_tbl := List.mem_of_getElem? (i := 379) rfl
set_option maxRecDepth 20000 in
theorem m_380 : (Jvm.Cond.methodLink "TapOffice" (145 : Nat) ({ cls := "TapOffice$Account", name := "allCharges", desc := "()I" } : Jvm.MethodName)) ∈ lw_tbl := List.mem_of_getElem? (i := 380) rfl
set_option maxRecDepth 20000 in
theorem m_381 : (Jvm.Cond.instanceMethod ({ cls := "TapOffice$Account", name := "allCharges", desc := "()I" } : Jvm.MethodName)) ∈ lw_tbl := List.mem_of_getElem? (i := 381) rfl
set_option maxRecDepth 20000 in
theorem m_382 : (Jvm.Cond.selects "TapOffice$Account" ({ cls := "TapOffice$Account", name := "allCharges", desc := "()I" } : Jvm.MethodName) ({ cls := "TapOffice$Account", name := "allCharges", desc := "()I" } : Jvm.MethodName)) ∈ lw_tbl := List.mem_of_getElem? (i := 382) rfl
set_option maxRecDepth 20000 in
theorem m_383 : (Jvm.Cond.code ({ cls := "TapOffice$Account", name := "allCharges", desc := "()I" } : Jvm.MethodName) prog_2_method_5_code (1 : Nat) (Option.some Jvm.ClassFile.FieldType.int)) ∈ lw_tbl := List.mem_of_getElem? (i := 383) rfl
set_option maxRecDepth 20000 in
theorem m_384 : (Jvm.Cond.methodLink "TapOffice" (148 : Nat) ({ cls := "TapOffice$Account", name := "allTopUps", desc := "()I" } : Jvm.MethodName)) ∈ lw_tbl := List.mem_of_getElem? (i := 384) rfl
set_option maxRecDepth 20000 in
theorem m_385 : (Jvm.Cond.instanceMethod ({ cls := "TapOffice$Account", name := "allTopUps", desc := "()I" } : Jvm.MethodName)) ∈ lw_tbl := List.mem_of_getElem? (i := 385) rfl
set_option maxRecDepth 20000 in
theorem m_386 : (Jvm.Cond.selects "TapOffice$Account" ({ cls := "TapOffice$Account", name := "allTopUps", desc := "()I" } : Jvm.MethodName) ({ cls := "TapOffice$Account", name := "allTopUps", desc := "()I" } : Jvm.MethodName)) ∈ lw_tbl := List.mem_of_getElem? (i := 386) rfl
set_option maxRecDepth 20000 in
theorem m_387 : (Jvm.Cond.code ({ cls := "TapOffice$Account", name := "allTopUps", desc := "()I" } : Jvm.MethodName) prog_2_method_6_code (1 : Nat) (Option.some Jvm.ClassFile.FieldType.int)) ∈ lw_tbl := List.mem_of_getElem? (i := 387) rfl
set_option maxRecDepth 20000 in
theorem m_396 : (Jvm.Cond.methodLink "TapOffice" (151 : Nat) ({ cls := "TapOffice", name := "entriesInLogs", desc := "()I" } : Jvm.MethodName)) ∈ lw_tbl := List.mem_of_getElem? (i := 396) rfl
set_option maxRecDepth 20000 in
theorem m_398 : (Jvm.Cond.instanceMethod ({ cls := "TapOffice", name := "entriesInLogs", desc := "()I" } : Jvm.MethodName)) ∈ lw_tbl := List.mem_of_getElem? (i := 398) rfl
set_option maxRecDepth 20000 in
theorem m_399 : (Jvm.Cond.code ({ cls := "TapOffice", name := "entriesInLogs", desc := "()I" } : Jvm.MethodName) prog_1_method_18_code (3 : Nat) (Option.some Jvm.ClassFile.FieldType.int)) ∈ lw_tbl := List.mem_of_getElem? (i := 399) rfl
set_option maxRecDepth 20000 in
theorem m_400 : (Jvm.Cond.methodLink "TapOffice" (154 : Nat) ({ cls := "java/lang/Integer", name := "bitCount", desc := "(I)I" } : Jvm.MethodName)) ∈ lw_tbl := List.mem_of_getElem? (i := 400) rfl
set_option maxRecDepth 20000 in
theorem m_401 : (Jvm.Cond.static ({ cls := "java/lang/Integer", name := "bitCount", desc := "(I)I" } : Jvm.MethodName)) ∈ lw_tbl := List.mem_of_getElem? (i := 401) rfl
set_option maxRecDepth 20000 in
theorem m_402 : (Jvm.Cond.code ({ cls := "java/lang/Integer", name := "bitCount", desc := "(I)I" } : Jvm.MethodName) prog_9_method_49_code (1 : Nat) (Option.some Jvm.ClassFile.FieldType.int)) ∈ lw_tbl := List.mem_of_getElem? (i := 402) rfl
set_option maxRecDepth 20000 in
theorem m_403 : (Jvm.Cond.constant "java/lang/Integer" (265 : Nat) (1431655765 : Int32)) ∈ lw_tbl := List.mem_of_getElem? (i := 403) rfl
set_option maxRecDepth 20000 in
theorem m_404 : (Jvm.Cond.constant "java/lang/Integer" (266 : Nat) (858993459 : Int32)) ∈ lw_tbl := List.mem_of_getElem? (i := 404) rfl
set_option maxRecDepth 20000 in
theorem m_405 : (Jvm.Cond.constant "java/lang/Integer" (267 : Nat) (252645135 : Int32)) ∈ lw_tbl := List.mem_of_getElem? (i := 405) rfl
end
section
theorem dO_init_0 : decode bO_init 0 = .ok (.aload_n 0, 1) := by decide +kernel
theorem dO_init_1 : decode bO_init 1 = .ok (.invokespecial 1, 3) := by decide +kernel
theorem dO_init_4 : decode bO_init 4 = .ok (.aload_n 0, 1) := by decide +kernel
theorem dO_init_5 : decode bO_init 5 = .ok (.new 7, 3) := by decide +kernel
theorem dO_init_8 : decode bO_init 8 = .ok (.dup, 1) := by decide +kernel
theorem dO_init_9 : decode bO_init 9 = .ok (.invokespecial 9, 3) := by decide +kernel
theorem dO_init_12 : decode bO_init 12 = .ok (.putfield 10, 3) := by decide +kernel
theorem dO_init_15 : decode bO_init 15 = .ok (.aload_n 0, 1) := by decide +kernel
theorem dO_init_16 : decode bO_init 16 = .ok (.iconst 4, 1) := by decide +kernel
theorem dO_init_17 : decode bO_init 17 = .ok (.anewarray 16, 3) := by decide +kernel
theorem dO_init_20 : decode bO_init 20 = .ok (.putfield 18, 3) := by decide +kernel
theorem dO_init_23 : decode bO_init 23 = .ok (.aload_n 0, 1) := by decide +kernel
theorem dO_init_24 : decode bO_init 24 = .ok (.iconst 4, 1) := by decide +kernel
theorem dO_init_25 : decode bO_init 25 = .ok (.anewarray 22, 3) := by decide +kernel
theorem dO_init_28 : decode bO_init 28 = .ok (.putfield 24, 3) := by decide +kernel
theorem dO_init_31 : decode bO_init 31 = .ok (.aload_n 0, 1) := by decide +kernel
theorem dO_init_32 : decode bO_init 32 = .ok (.iconst 4, 1) := by decide +kernel
theorem dO_init_33 : decode bO_init 33 = .ok (.anewarray 28, 3) := by decide +kernel
theorem dO_init_36 : decode bO_init 36 = .ok (.putfield 30, 3) := by decide +kernel
theorem dO_init_39 : decode bO_init 39 = .ok (.aload_n 0, 1) := by decide +kernel
theorem dO_init_40 : decode bO_init 40 = .ok (.iconst 4, 1) := by decide +kernel
theorem dO_init_41 : decode bO_init 41 = .ok (.newarray .int, 2) := by decide +kernel
theorem dO_init_43 : decode bO_init 43 = .ok (.putfield 34, 3) := by decide +kernel
theorem dO_init_46 : decode bO_init 46 = .ok (.iconst 0, 1) := by decide +kernel
theorem dO_init_47 : decode bO_init 47 = .ok (.istore_n 1, 1) := by decide +kernel
theorem dO_init_48 : decode bO_init 48 = .ok (.iload_n 1, 1) := by decide +kernel
theorem dO_init_49 : decode bO_init 49 = .ok (.iconst 4, 1) := by decide +kernel
theorem dO_init_50 : decode bO_init 50 = .ok (.if_icmp .ge 35, 3) := by decide +kernel
theorem dO_init_53 : decode bO_init 53 = .ok (.aload_n 0, 1) := by decide +kernel
theorem dO_init_54 : decode bO_init 54 = .ok (.getfield 18, 3) := by decide +kernel
theorem dO_init_57 : decode bO_init 57 = .ok (.iload_n 1, 1) := by decide +kernel
theorem dO_init_58 : decode bO_init 58 = .ok (.new 16, 3) := by decide +kernel
theorem dO_init_61 : decode bO_init 61 = .ok (.dup, 1) := by decide +kernel
theorem dO_init_62 : decode bO_init 62 = .ok (.invokespecial 38, 3) := by decide +kernel
theorem dO_init_65 : decode bO_init 65 = .ok (.aastore, 1) := by decide +kernel
theorem dO_init_66 : decode bO_init 66 = .ok (.aload_n 0, 1) := by decide +kernel
theorem dO_init_67 : decode bO_init 67 = .ok (.getfield 24, 3) := by decide +kernel
theorem dO_init_70 : decode bO_init 70 = .ok (.iload_n 1, 1) := by decide +kernel
theorem dO_init_71 : decode bO_init 71 = .ok (.new 22, 3) := by decide +kernel
theorem dO_init_74 : decode bO_init 74 = .ok (.dup, 1) := by decide +kernel
theorem dO_init_75 : decode bO_init 75 = .ok (.invokespecial 39, 3) := by decide +kernel
theorem dO_init_78 : decode bO_init 78 = .ok (.aastore, 1) := by decide +kernel
theorem dO_init_79 : decode bO_init 79 = .ok (.iinc 1 1, 3) := by decide +kernel
theorem dO_init_82 : decode bO_init 82 = .ok (.goto (-34), 3) := by decide +kernel
theorem dO_init_85 : decode bO_init 85 = .ok (.iconst 0, 1) := by decide +kernel
theorem dO_init_86 : decode bO_init 86 = .ok (.istore_n 1, 1) := by decide +kernel
theorem dO_init_87 : decode bO_init 87 = .ok (.iload_n 1, 1) := by decide +kernel
theorem dO_init_88 : decode bO_init 88 = .ok (.iconst 4, 1) := by decide +kernel
theorem dO_init_89 : decode bO_init 89 = .ok (.if_icmp .ge 23, 3) := by decide +kernel
theorem dO_init_92 : decode bO_init 92 = .ok (.aload_n 0, 1) := by decide +kernel
theorem dO_init_93 : decode bO_init 93 = .ok (.getfield 30, 3) := by decide +kernel
theorem dO_init_96 : decode bO_init 96 = .ok (.iload_n 1, 1) := by decide +kernel
theorem dO_init_97 : decode bO_init 97 = .ok (.new 28, 3) := by decide +kernel
theorem dO_init_100 : decode bO_init 100 = .ok (.dup, 1) := by decide +kernel
theorem dO_init_101 : decode bO_init 101 = .ok (.iload_n 1, 1) := by decide +kernel
theorem dO_init_102 : decode bO_init 102 = .ok (.invokespecial 40, 3) := by decide +kernel
theorem dO_init_105 : decode bO_init 105 = .ok (.aastore, 1) := by decide +kernel
theorem dO_init_106 : decode bO_init 106 = .ok (.iinc 1 1, 3) := by decide +kernel
theorem dO_init_109 : decode bO_init 109 = .ok (.goto (-22), 3) := by decide +kernel
theorem dO_init_112 : decode bO_init 112 = .ok (.return_, 1) := by decide +kernel
theorem dT_init_0 : decode bT_init 0 = .ok (.aload_n 0, 1) := by decide +kernel
theorem dT_init_1 : decode bT_init 1 = .ok (.invokespecial 3, 3) := by decide +kernel
theorem dT_init_4 : decode bT_init 4 = .ok (.aload_n 0, 1) := by decide +kernel
theorem dT_init_5 : decode bT_init 5 = .ok (.bipush 6, 2) := by decide +kernel
theorem dT_init_7 : decode bT_init 7 = .ok (.bipush 6, 2) := by decide +kernel
theorem dT_init_9 : decode bT_init 9 = .ok (.multianewarray 9 2, 4) := by decide +kernel
theorem dT_init_13 : decode bT_init 13 = .ok (.putfield 11, 3) := by decide +kernel
theorem dT_init_16 : decode bT_init 16 = .ok (.aload_n 0, 1) := by decide +kernel
theorem dT_init_17 : decode bT_init 17 = .ok (.getstatic 16, 3) := by decide +kernel
theorem dT_init_20 : decode bT_init 20 = .ok (.invokevirtual 20, 3) := by decide +kernel
theorem dT_init_23 : decode bT_init 23 = .ok (.checkcast 21, 3) := by decide +kernel
theorem dT_init_26 : decode bT_init 26 = .ok (.putfield 25, 3) := by decide +kernel
theorem dT_init_29 : decode bT_init 29 = .ok (.return_, 1) := by decide +kernel
theorem dC_init_0 : decode bC_init 0 = .ok (.aload_n 0, 1) := by decide +kernel
theorem dC_init_1 : decode bC_init 1 = .ok (.invokespecial 3, 3) := by decide +kernel
theorem dC_init_4 : decode bC_init 4 = .ok (.aload_n 0, 1) := by decide +kernel
theorem dC_init_5 : decode bC_init 5 = .ok (.iconst 2, 1) := by decide +kernel
theorem dC_init_6 : decode bC_init 6 = .ok (.bipush 8, 2) := by decide +kernel
theorem dC_init_8 : decode bC_init 8 = .ok (.multianewarray 9 2, 4) := by decide +kernel
theorem dC_init_12 : decode bC_init 12 = .ok (.putfield 11, 3) := by decide +kernel
theorem dC_init_15 : decode bC_init 15 = .ok (.aload_n 0, 1) := by decide +kernel
theorem dC_init_16 : decode bC_init 16 = .ok (.bipush 8, 2) := by decide +kernel
theorem dC_init_18 : decode bC_init 18 = .ok (.newarray .int, 2) := by decide +kernel
theorem dC_init_20 : decode bC_init 20 = .ok (.putfield 16, 3) := by decide +kernel
theorem dC_init_23 : decode bC_init 23 = .ok (.getstatic 20, 3) := by decide +kernel
theorem dC_init_26 : decode bC_init 26 = .ok (.iconst 0, 1) := by decide +kernel
theorem dC_init_27 : decode bC_init 27 = .ok (.aload_n 0, 1) := by decide +kernel
theorem dC_init_28 : decode bC_init 28 = .ok (.getfield 11, 3) := by decide +kernel
theorem dC_init_31 : decode bC_init 31 = .ok (.iconst 0, 1) := by decide +kernel
theorem dC_init_32 : decode bC_init 32 = .ok (.aaload, 1) := by decide +kernel
theorem dC_init_33 : decode bC_init 33 = .ok (.iconst 0, 1) := by decide +kernel
theorem dC_init_34 : decode bC_init 34 = .ok (.bipush 8, 2) := by decide +kernel
theorem dC_init_36 : decode bC_init 36 = .ok (.invokestatic 23, 3) := by decide +kernel
theorem dC_init_39 : decode bC_init 39 = .ok (.getstatic 20, 3) := by decide +kernel
theorem dC_init_42 : decode bC_init 42 = .ok (.iconst 0, 1) := by decide +kernel
theorem dC_init_43 : decode bC_init 43 = .ok (.aload_n 0, 1) := by decide +kernel
theorem dC_init_44 : decode bC_init 44 = .ok (.getfield 11, 3) := by decide +kernel
theorem dC_init_47 : decode bC_init 47 = .ok (.iconst 1, 1) := by decide +kernel
theorem dC_init_48 : decode bC_init 48 = .ok (.aaload, 1) := by decide +kernel
theorem dC_init_49 : decode bC_init 49 = .ok (.iconst 0, 1) := by decide +kernel
theorem dC_init_50 : decode bC_init 50 = .ok (.bipush 8, 2) := by decide +kernel
theorem dC_init_52 : decode bC_init 52 = .ok (.invokestatic 23, 3) := by decide +kernel
theorem dC_init_55 : decode bC_init 55 = .ok (.return_, 1) := by decide +kernel
theorem dA_init_0 : decode bA_init 0 = .ok (.aload_n 0, 1) := by decide +kernel
theorem dA_init_1 : decode bA_init 1 = .ok (.invokespecial 3, 3) := by decide +kernel
theorem dA_init_4 : decode bA_init 4 = .ok (.aload_n 0, 1) := by decide +kernel
theorem dA_init_5 : decode bA_init 5 = .ok (.sipush 513, 3) := by decide +kernel
theorem dA_init_8 : decode bA_init 8 = .ok (.newarray .boolean, 2) := by decide +kernel
theorem dA_init_10 : decode bA_init 10 = .ok (.putfield 9, 3) := by decide +kernel
theorem dA_init_13 : decode bA_init 13 = .ok (.aload_n 0, 1) := by decide +kernel
theorem dA_init_14 : decode bA_init 14 = .ok (.sipush 513, 3) := by decide +kernel
theorem dA_init_17 : decode bA_init 17 = .ok (.newarray .int, 2) := by decide +kernel
theorem dA_init_19 : decode bA_init 19 = .ok (.putfield 15, 3) := by decide +kernel
theorem dA_init_22 : decode bA_init 22 = .ok (.aload_n 0, 1) := by decide +kernel
theorem dA_init_23 : decode bA_init 23 = .ok (.sipush 513, 3) := by decide +kernel
theorem dA_init_26 : decode bA_init 26 = .ok (.newarray .int, 2) := by decide +kernel
theorem dA_init_28 : decode bA_init 28 = .ok (.putfield 19, 3) := by decide +kernel
theorem dA_init_31 : decode bA_init 31 = .ok (.return_, 1) := by decide +kernel
theorem dV_init_0 : decode bV_init 0 = .ok (.aload_n 0, 1) := by decide +kernel
theorem dV_init_1 : decode bV_init 1 = .ok (.invokespecial 3, 3) := by decide +kernel
theorem dV_init_4 : decode bV_init 4 = .ok (.aload_n 0, 1) := by decide +kernel
theorem dV_init_5 : decode bV_init 5 = .ok (.bipush 8, 2) := by decide +kernel
theorem dV_init_7 : decode bV_init 7 = .ok (.iconst 4, 1) := by decide +kernel
theorem dV_init_8 : decode bV_init 8 = .ok (.multianewarray 9 2, 4) := by decide +kernel
theorem dV_init_12 : decode bV_init 12 = .ok (.putfield 11, 3) := by decide +kernel
theorem dV_init_15 : decode bV_init 15 = .ok (.aload_n 0, 1) := by decide +kernel
theorem dV_init_16 : decode bV_init 16 = .ok (.iload_n 1, 1) := by decide +kernel
theorem dV_init_17 : decode bV_init 17 = .ok (.putfield 16, 3) := by decide +kernel
theorem dV_init_20 : decode bV_init 20 = .ok (.return_, 1) := by decide +kernel
theorem dO_fare_0 : decode bO_fare 0 = .ok (.iload_n 1, 1) := by decide +kernel
theorem dO_fare_1 : decode bO_fare 1 = .ok (.bipush 6, 2) := by decide +kernel
theorem dO_fare_3 : decode bO_fare 3 = .ok (.invokestatic 43, 3) := by decide +kernel
theorem dO_fare_6 : decode bO_fare 6 = .ok (.ifCond .eq 23, 3) := by decide +kernel
theorem dO_fare_9 : decode bO_fare 9 = .ok (.iload_n 2, 1) := by decide +kernel
theorem dO_fare_10 : decode bO_fare 10 = .ok (.bipush 6, 2) := by decide +kernel
theorem dO_fare_12 : decode bO_fare 12 = .ok (.invokestatic 43, 3) := by decide +kernel
theorem dO_fare_15 : decode bO_fare 15 = .ok (.ifCond .eq 14, 3) := by decide +kernel
theorem dO_fare_18 : decode bO_fare 18 = .ok (.iload_n 3, 1) := by decide +kernel
theorem dO_fare_19 : decode bO_fare 19 = .ok (.ifCond .lt 10, 3) := by decide +kernel
theorem dO_fare_22 : decode bO_fare 22 = .ok (.iload_n 3, 1) := by decide +kernel
theorem dO_fare_23 : decode bO_fare 23 = .ok (.sipush 999, 3) := by decide +kernel
theorem dO_fare_26 : decode bO_fare 26 = .ok (.if_icmp .le 5, 3) := by decide +kernel
theorem dO_fare_29 : decode bO_fare 29 = .ok (.iconst (-1), 1) := by decide +kernel
theorem dO_fare_30 : decode bO_fare 30 = .ok (.ireturn, 1) := by decide +kernel
theorem dO_fare_31 : decode bO_fare 31 = .ok (.aload_n 0, 1) := by decide +kernel
theorem dO_fare_32 : decode bO_fare 32 = .ok (.getfield 10, 3) := by decide +kernel
theorem dO_fare_35 : decode bO_fare 35 = .ok (.iload_n 1, 1) := by decide +kernel
theorem dO_fare_36 : decode bO_fare 36 = .ok (.iload_n 2, 1) := by decide +kernel
theorem dO_fare_37 : decode bO_fare 37 = .ok (.iload_n 3, 1) := by decide +kernel
theorem dO_fare_38 : decode bO_fare 38 = .ok (.invokevirtual 47, 3) := by decide +kernel
theorem dO_fare_41 : decode bO_fare 41 = .ok (.iconst 0, 1) := by decide +kernel
theorem dO_fare_42 : decode bO_fare 42 = .ok (.ireturn, 1) := by decide +kernel
theorem dO_isBelow_0 : decode bO_isBelow 0 = .ok (.iload_n 0, 1) := by decide +kernel
theorem dO_isBelow_1 : decode bO_isBelow 1 = .ok (.ifCond .lt 12, 3) := by decide +kernel
theorem dO_isBelow_4 : decode bO_isBelow 4 = .ok (.iload_n 0, 1) := by decide +kernel
theorem dO_isBelow_5 : decode bO_isBelow 5 = .ok (.iload_n 1, 1) := by decide +kernel
theorem dO_isBelow_6 : decode bO_isBelow 6 = .ok (.if_icmp .ge 7, 3) := by decide +kernel
theorem dO_isBelow_9 : decode bO_isBelow 9 = .ok (.iconst 1, 1) := by decide +kernel
theorem dO_isBelow_10 : decode bO_isBelow 10 = .ok (.goto 4, 3) := by decide +kernel
theorem dO_isBelow_13 : decode bO_isBelow 13 = .ok (.iconst 0, 1) := by decide +kernel
theorem dO_isBelow_14 : decode bO_isBelow 14 = .ok (.ireturn, 1) := by decide +kernel
theorem dT_putFare_0 : decode bT_putFare 0 = .ok (.aload_n 0, 1) := by decide +kernel
theorem dT_putFare_1 : decode bT_putFare 1 = .ok (.getfield 11, 3) := by decide +kernel
theorem dT_putFare_4 : decode bT_putFare 4 = .ok (.iload_n 1, 1) := by decide +kernel
theorem dT_putFare_5 : decode bT_putFare 5 = .ok (.aaload, 1) := by decide +kernel
theorem dT_putFare_6 : decode bT_putFare 6 = .ok (.iload_n 2, 1) := by decide +kernel
theorem dT_putFare_7 : decode bT_putFare 7 = .ok (.iload_n 3, 1) := by decide +kernel
theorem dT_putFare_8 : decode bT_putFare 8 = .ok (.iastore, 1) := by decide +kernel
theorem dT_putFare_9 : decode bT_putFare 9 = .ok (.aload_n 0, 1) := by decide +kernel
theorem dT_putFare_10 : decode bT_putFare 10 = .ok (.getfield 11, 3) := by decide +kernel
theorem dT_putFare_13 : decode bT_putFare 13 = .ok (.iload_n 2, 1) := by decide +kernel
theorem dT_putFare_14 : decode bT_putFare 14 = .ok (.aaload, 1) := by decide +kernel
theorem dT_putFare_15 : decode bT_putFare 15 = .ok (.iload_n 1, 1) := by decide +kernel
theorem dT_putFare_16 : decode bT_putFare 16 = .ok (.iload_n 3, 1) := by decide +kernel
theorem dT_putFare_17 : decode bT_putFare 17 = .ok (.iastore, 1) := by decide +kernel
theorem dT_putFare_18 : decode bT_putFare 18 = .ok (.return_, 1) := by decide +kernel
theorem dO_set_0 : decode bO_set 0 = .ok (.iload_n 1, 1) := by decide +kernel
theorem dO_set_1 : decode bO_set 1 = .ok (.iconst 5, 1) := by decide +kernel
theorem dO_set_2 : decode bO_set 2 = .ok (.invokestatic 43, 3) := by decide +kernel
theorem dO_set_5 : decode bO_set 5 = .ok (.ifCond .eq 16, 3) := by decide +kernel
theorem dO_set_8 : decode bO_set 8 = .ok (.iload_n 2, 1) := by decide +kernel
theorem dO_set_9 : decode bO_set 9 = .ok (.ifCond .lt 12, 3) := by decide +kernel
theorem dO_set_12 : decode bO_set 12 = .ok (.iload_n 2, 1) := by decide +kernel
theorem dO_set_13 : decode bO_set 13 = .ok (.getstatic 51, 3) := by decide +kernel
theorem dO_set_16 : decode bO_set 16 = .ok (.iload_n 1, 1) := by decide +kernel
theorem dO_set_17 : decode bO_set 17 = .ok (.iaload, 1) := by decide +kernel
theorem dO_set_18 : decode bO_set 18 = .ok (.if_icmp .le 5, 3) := by decide +kernel
theorem dO_set_21 : decode bO_set 21 = .ok (.iconst (-1), 1) := by decide +kernel
theorem dO_set_22 : decode bO_set 22 = .ok (.ireturn, 1) := by decide +kernel
theorem dO_set_23 : decode bO_set 23 = .ok (.aload_n 0, 1) := by decide +kernel
theorem dO_set_24 : decode bO_set 24 = .ok (.getfield 10, 3) := by decide +kernel
theorem dO_set_27 : decode bO_set 27 = .ok (.iload_n 1, 1) := by decide +kernel
theorem dO_set_28 : decode bO_set 28 = .ok (.iload_n 2, 1) := by decide +kernel
theorem dO_set_29 : decode bO_set 29 = .ok (.invokevirtual 54, 3) := by decide +kernel
theorem dO_set_32 : decode bO_set 32 = .ok (.iconst 0, 1) := by decide +kernel
theorem dO_set_33 : decode bO_set 33 = .ok (.ireturn, 1) := by decide +kernel
theorem dT_putSetting_0 : decode bT_putSetting 0 = .ok (.aload_n 0, 1) := by decide +kernel
theorem dT_putSetting_1 : decode bT_putSetting 1 = .ok (.getfield 25, 3) := by decide +kernel
theorem dT_putSetting_4 : decode bT_putSetting 4 = .ok (.iload_n 1, 1) := by decide +kernel
theorem dT_putSetting_5 : decode bT_putSetting 5 = .ok (.iload_n 2, 1) := by decide +kernel
theorem dT_putSetting_6 : decode bT_putSetting 6 = .ok (.iastore, 1) := by decide +kernel
theorem dT_putSetting_7 : decode bT_putSetting 7 = .ok (.return_, 1) := by decide +kernel
theorem dO_place_0 : decode bO_place 0 = .ok (.iload_n 1, 1) := by decide +kernel
theorem dO_place_1 : decode bO_place 1 = .ok (.iconst 4, 1) := by decide +kernel
theorem dO_place_2 : decode bO_place 2 = .ok (.invokestatic 43, 3) := by decide +kernel
theorem dO_place_5 : decode bO_place 5 = .ok (.ifCond .eq 12, 3) := by decide +kernel
theorem dO_place_8 : decode bO_place 8 = .ok (.iload_n 2, 1) := by decide +kernel
theorem dO_place_9 : decode bO_place 9 = .ok (.bipush 6, 2) := by decide +kernel
theorem dO_place_11 : decode bO_place 11 = .ok (.invokestatic 43, 3) := by decide +kernel
theorem dO_place_14 : decode bO_place 14 = .ok (.ifCond .ne 5, 3) := by decide +kernel
theorem dO_place_17 : decode bO_place 17 = .ok (.iconst (-1), 1) := by decide +kernel
theorem dO_place_18 : decode bO_place 18 = .ok (.ireturn, 1) := by decide +kernel
theorem dO_place_19 : decode bO_place 19 = .ok (.aload_n 0, 1) := by decide +kernel
theorem dO_place_20 : decode bO_place 20 = .ok (.getfield 30, 3) := by decide +kernel
theorem dO_place_23 : decode bO_place 23 = .ok (.iload_n 1, 1) := by decide +kernel
theorem dO_place_24 : decode bO_place 24 = .ok (.aaload, 1) := by decide +kernel
theorem dO_place_25 : decode bO_place 25 = .ok (.iload_n 2, 1) := by decide +kernel
theorem dO_place_26 : decode bO_place 26 = .ok (.iload_n 3, 1) := by decide +kernel
theorem dO_place_27 : decode bO_place 27 = .ok (.invokevirtual 58, 3) := by decide +kernel
theorem dO_place_30 : decode bO_place 30 = .ok (.iconst 0, 1) := by decide +kernel
theorem dO_place_31 : decode bO_place 31 = .ok (.ireturn, 1) := by decide +kernel
theorem dV_moveTo_0 : decode bV_moveTo 0 = .ok (.aload_n 0, 1) := by decide +kernel
theorem dV_moveTo_1 : decode bV_moveTo 1 = .ok (.iload_n 1, 1) := by decide +kernel
theorem dV_moveTo_2 : decode bV_moveTo 2 = .ok (.putfield 16, 3) := by decide +kernel
theorem dV_moveTo_5 : decode bV_moveTo 5 = .ok (.aload_n 0, 1) := by decide +kernel
theorem dV_moveTo_6 : decode bV_moveTo 6 = .ok (.iload_n 2, 1) := by decide +kernel
theorem dV_moveTo_7 : decode bV_moveTo 7 = .ok (.putfield 20, 3) := by decide +kernel
theorem dV_moveTo_10 : decode bV_moveTo 10 = .ok (.return_, 1) := by decide +kernel
theorem dO_clock_0 : decode bO_clock 0 = .ok (.iload_n 1, 1) := by decide +kernel
theorem dO_clock_1 : decode bO_clock 1 = .ok (.ifCond .lt 10, 3) := by decide +kernel
theorem dO_clock_4 : decode bO_clock 4 = .ok (.iload_n 1, 1) := by decide +kernel
theorem dO_clock_5 : decode bO_clock 5 = .ok (.sipush 3000, 3) := by decide +kernel
theorem dO_clock_8 : decode bO_clock 8 = .ok (.if_icmp .le 5, 3) := by decide +kernel
theorem dO_clock_11 : decode bO_clock 11 = .ok (.iconst (-1), 1) := by decide +kernel
theorem dO_clock_12 : decode bO_clock 12 = .ok (.ireturn, 1) := by decide +kernel
theorem dO_clock_13 : decode bO_clock 13 = .ok (.aload_n 0, 1) := by decide +kernel
theorem dO_clock_14 : decode bO_clock 14 = .ok (.dup, 1) := by decide +kernel
theorem dO_clock_15 : decode bO_clock 15 = .ok (.getfield 62, 3) := by decide +kernel
theorem dO_clock_18 : decode bO_clock 18 = .ok (.iload_n 1, 1) := by decide +kernel
theorem dO_clock_19 : decode bO_clock 19 = .ok (.iadd, 1) := by decide +kernel
theorem dO_clock_20 : decode bO_clock 20 = .ok (.putfield 62, 3) := by decide +kernel
theorem dO_clock_23 : decode bO_clock 23 = .ok (.aload_n 0, 1) := by decide +kernel
theorem dO_clock_24 : decode bO_clock 24 = .ok (.getfield 62, 3) := by decide +kernel
theorem dO_clock_27 : decode bO_clock 27 = .ok (.ireturn, 1) := by decide +kernel
theorem dO_tap_0 : decode bO_tap 0 = .ok (.iload_n 1, 1) := by decide +kernel
theorem dO_tap_1 : decode bO_tap 1 = .ok (.iconst 4, 1) := by decide +kernel
theorem dO_tap_2 : decode bO_tap 2 = .ok (.invokestatic 43, 3) := by decide +kernel
theorem dO_tap_5 : decode bO_tap 5 = .ok (.ifCond .eq 21, 3) := by decide +kernel
theorem dO_tap_8 : decode bO_tap 8 = .ok (.iload_n 2, 1) := by decide +kernel
theorem dO_tap_9 : decode bO_tap 9 = .ok (.iconst 4, 1) := by decide +kernel
theorem dO_tap_10 : decode bO_tap 10 = .ok (.invokestatic 43, 3) := by decide +kernel
theorem dO_tap_13 : decode bO_tap 13 = .ok (.ifCond .eq 13, 3) := by decide +kernel
theorem dO_tap_16 : decode bO_tap 16 = .ok (.iload_n 3, 1) := by decide +kernel
theorem dO_tap_17 : decode bO_tap 17 = .ok (.ifCond .lt 9, 3) := by decide +kernel
theorem dO_tap_20 : decode bO_tap 20 = .ok (.iload_n 3, 1) := by decide +kernel
theorem dO_tap_21 : decode bO_tap 21 = .ok (.bipush 8, 2) := by decide +kernel
theorem dO_tap_23 : decode bO_tap 23 = .ok (.if_icmp .le 5, 3) := by decide +kernel
theorem dO_tap_26 : decode bO_tap 26 = .ok (.iconst (-1), 1) := by decide +kernel
theorem dO_tap_27 : decode bO_tap 27 = .ok (.ireturn, 1) := by decide +kernel
theorem dO_tap_28 : decode bO_tap 28 = .ok (.aload_n 0, 1) := by decide +kernel
theorem dO_tap_29 : decode bO_tap 29 = .ok (.getfield 18, 3) := by decide +kernel
theorem dO_tap_32 : decode bO_tap 32 = .ok (.iload_n 1, 1) := by decide +kernel
theorem dO_tap_33 : decode bO_tap 33 = .ok (.aaload, 1) := by decide +kernel
theorem dO_tap_34 : decode bO_tap 34 = .ok (.astore 4, 2) := by decide +kernel
theorem dO_tap_36 : decode bO_tap 36 = .ok (.aload_n 0, 1) := by decide +kernel
theorem dO_tap_37 : decode bO_tap 37 = .ok (.getfield 30, 3) := by decide +kernel
theorem dO_tap_40 : decode bO_tap 40 = .ok (.iload_n 2, 1) := by decide +kernel
theorem dO_tap_41 : decode bO_tap 41 = .ok (.aaload, 1) := by decide +kernel
theorem dO_tap_42 : decode bO_tap 42 = .ok (.astore 5, 2) := by decide +kernel
theorem dO_tap_44 : decode bO_tap 44 = .ok (.aload 5, 2) := by decide +kernel
theorem dO_tap_46 : decode bO_tap 46 = .ok (.invokevirtual 66, 3) := by decide +kernel
theorem dO_tap_49 : decode bO_tap 49 = .ok (.ifCond .eq 6, 3) := by decide +kernel
theorem dO_tap_52 : decode bO_tap 52 = .ok (.bipush (-2), 2) := by decide +kernel
theorem dO_tap_54 : decode bO_tap 54 = .ok (.ireturn, 1) := by decide +kernel
theorem dO_tap_55 : decode bO_tap 55 = .ok (.aload 5, 2) := by decide +kernel
theorem dO_tap_57 : decode bO_tap 57 = .ok (.iload_n 1, 1) := by decide +kernel
theorem dO_tap_58 : decode bO_tap 58 = .ok (.invokevirtual 70, 3) := by decide +kernel
theorem dO_tap_61 : decode bO_tap 61 = .ok (.ifCond .eq 6, 3) := by decide +kernel
theorem dO_tap_64 : decode bO_tap 64 = .ok (.bipush (-4), 2) := by decide +kernel
theorem dO_tap_66 : decode bO_tap 66 = .ok (.ireturn, 1) := by decide +kernel
theorem dO_tap_67 : decode bO_tap 67 = .ok (.aload 5, 2) := by decide +kernel
theorem dO_tap_69 : decode bO_tap 69 = .ok (.invokevirtual 74, 3) := by decide +kernel
theorem dO_tap_72 : decode bO_tap 72 = .ok (.ifCond .ne 22, 3) := by decide +kernel
theorem dO_tap_75 : decode bO_tap 75 = .ok (.aload 4, 2) := by decide +kernel
theorem dO_tap_77 : decode bO_tap 77 = .ok (.iconst 0, 1) := by decide +kernel
theorem dO_tap_78 : decode bO_tap 78 = .ok (.invokevirtual 77, 3) := by decide +kernel
theorem dO_tap_81 : decode bO_tap 81 = .ok (.aload_n 0, 1) := by decide +kernel
theorem dO_tap_82 : decode bO_tap 82 = .ok (.getfield 10, 3) := by decide +kernel
theorem dO_tap_85 : decode bO_tap 85 = .ok (.invokevirtual 81, 3) := by decide +kernel
theorem dO_tap_88 : decode bO_tap 88 = .ok (.if_icmp .ge 6, 3) := by decide +kernel
theorem dO_tap_91 : decode bO_tap 91 = .ok (.bipush (-3), 2) := by decide +kernel
theorem dO_tap_93 : decode bO_tap 93 = .ok (.ireturn, 1) := by decide +kernel
theorem dO_tap_94 : decode bO_tap 94 = .ok (.aload 4, 2) := by decide +kernel
theorem dO_tap_96 : decode bO_tap 96 = .ok (.aload 5, 2) := by decide +kernel
theorem dO_tap_98 : decode bO_tap 98 = .ok (.aload_n 0, 1) := by decide +kernel
theorem dO_tap_99 : decode bO_tap 99 = .ok (.getfield 62, 3) := by decide +kernel
theorem dO_tap_102 : decode bO_tap 102 = .ok (.aload_n 0, 1) := by decide +kernel
theorem dO_tap_103 : decode bO_tap 103 = .ok (.getfield 10, 3) := by decide +kernel
theorem dO_tap_106 : decode bO_tap 106 = .ok (.invokevirtual 85, 3) := by decide +kernel
theorem dO_tap_109 : decode bO_tap 109 = .ok (.istore 6, 2) := by decide +kernel
theorem dO_tap_111 : decode bO_tap 111 = .ok (.iload_n 3, 1) := by decide +kernel
theorem dO_tap_112 : decode bO_tap 112 = .ok (.ifCond .eq 22, 3) := by decide +kernel
theorem dO_tap_115 : decode bO_tap 115 = .ok (.aload 4, 2) := by decide +kernel
theorem dO_tap_117 : decode bO_tap 117 = .ok (.iload_n 3, 1) := by decide +kernel
theorem dO_tap_118 : decode bO_tap 118 = .ok (.invokevirtual 89, 3) := by decide +kernel
theorem dO_tap_121 : decode bO_tap 121 = .ok (.aload_n 0, 1) := by decide +kernel
theorem dO_tap_122 : decode bO_tap 122 = .ok (.dup, 1) := by decide +kernel
theorem dO_tap_123 : decode bO_tap 123 = .ok (.getfield 92, 3) := by decide +kernel
theorem dO_tap_126 : decode bO_tap 126 = .ok (.iconst 1, 1) := by decide +kernel
theorem dO_tap_127 : decode bO_tap 127 = .ok (.iadd, 1) := by decide +kernel
theorem dO_tap_128 : decode bO_tap 128 = .ok (.putfield 92, 3) := by decide +kernel
theorem dO_tap_131 : decode bO_tap 131 = .ok (.bipush (-5), 2) := by decide +kernel
theorem dO_tap_133 : decode bO_tap 133 = .ok (.ireturn, 1) := by decide +kernel
theorem dO_tap_134 : decode bO_tap 134 = .ok (.aload 4, 2) := by decide +kernel
theorem dO_tap_136 : decode bO_tap 136 = .ok (.bipush 8, 2) := by decide +kernel
theorem dO_tap_138 : decode bO_tap 138 = .ok (.invokevirtual 89, 3) := by decide +kernel
theorem dO_tap_141 : decode bO_tap 141 = .ok (.aload 5, 2) := by decide +kernel
theorem dO_tap_143 : decode bO_tap 143 = .ok (.iload_n 1, 1) := by decide +kernel
theorem dO_tap_144 : decode bO_tap 144 = .ok (.aload 4, 2) := by decide +kernel
theorem dO_tap_146 : decode bO_tap 146 = .ok (.invokevirtual 95, 3) := by decide +kernel
theorem dO_tap_149 : decode bO_tap 149 = .ok (.iload 6, 2) := by decide +kernel
theorem dO_tap_151 : decode bO_tap 151 = .ok (.aload 4, 2) := by decide +kernel
theorem dO_tap_153 : decode bO_tap 153 = .ok (.iconst 0, 1) := by decide +kernel
theorem dO_tap_154 : decode bO_tap 154 = .ok (.invokevirtual 77, 3) := by decide +kernel
theorem dO_tap_157 : decode bO_tap 157 = .ok (.invokevirtual 98, 3) := by decide +kernel
theorem dO_tap_160 : decode bO_tap 160 = .ok (.iload 6, 2) := by decide +kernel
theorem dO_tap_162 : decode bO_tap 162 = .ok (.ireturn, 1) := by decide +kernel
theorem dV_isFull_0 : decode bV_isFull 0 = .ok (.aload_n 0, 1) := by decide +kernel
theorem dV_isFull_1 : decode bV_isFull 1 = .ok (.getfield 27, 3) := by decide +kernel
theorem dV_isFull_4 : decode bV_isFull 4 = .ok (.bipush 8, 2) := by decide +kernel
theorem dV_isFull_6 : decode bV_isFull 6 = .ok (.if_icmp .lt 7, 3) := by decide +kernel
theorem dV_isFull_9 : decode bV_isFull 9 = .ok (.iconst 1, 1) := by decide +kernel
theorem dV_isFull_10 : decode bV_isFull 10 = .ok (.goto 4, 3) := by decide +kernel
theorem dV_isFull_13 : decode bV_isFull 13 = .ok (.iconst 0, 1) := by decide +kernel
theorem dV_isFull_14 : decode bV_isFull 14 = .ok (.ireturn, 1) := by decide +kernel
theorem dV_denies_0 : decode bV_denies 0 = .ok (.aload_n 0, 1) := by decide +kernel
theorem dV_denies_1 : decode bV_denies 1 = .ok (.getfield 24, 3) := by decide +kernel
theorem dV_denies_4 : decode bV_denies 4 = .ok (.iload_n 1, 1) := by decide +kernel
theorem dV_denies_5 : decode bV_denies 5 = .ok (.ishr, 1) := by decide +kernel
theorem dV_denies_6 : decode bV_denies 6 = .ok (.iconst 1, 1) := by decide +kernel
theorem dV_denies_7 : decode bV_denies 7 = .ok (.iand, 1) := by decide +kernel
theorem dV_denies_8 : decode bV_denies 8 = .ok (.iconst 1, 1) := by decide +kernel
theorem dV_denies_9 : decode bV_denies 9 = .ok (.if_icmp .ne 7, 3) := by decide +kernel
theorem dV_denies_12 : decode bV_denies 12 = .ok (.iconst 1, 1) := by decide +kernel
theorem dV_denies_13 : decode bV_denies 13 = .ok (.goto 4, 3) := by decide +kernel
theorem dV_denies_16 : decode bV_denies 16 = .ok (.iconst 0, 1) := by decide +kernel
theorem dV_denies_17 : decode bV_denies 17 = .ok (.ireturn, 1) := by decide +kernel
theorem dV_isExit_0 : decode bV_isExit 0 = .ok (.aload_n 0, 1) := by decide +kernel
theorem dV_isExit_1 : decode bV_isExit 1 = .ok (.getfield 20, 3) := by decide +kernel
theorem dV_isExit_4 : decode bV_isExit 4 = .ok (.ireturn, 1) := by decide +kernel
theorem dC_read_0 : decode bC_read 0 = .ok (.aload_n 0, 1) := by decide +kernel
theorem dC_read_1 : decode bC_read 1 = .ok (.getfield 11, 3) := by decide +kernel
theorem dC_read_4 : decode bC_read 4 = .ok (.aload_n 0, 1) := by decide +kernel
theorem dC_read_5 : decode bC_read 5 = .ok (.invokevirtual 29, 3) := by decide +kernel
theorem dC_read_8 : decode bC_read 8 = .ok (.aaload, 1) := by decide +kernel
theorem dC_read_9 : decode bC_read 9 = .ok (.iload_n 1, 1) := by decide +kernel
theorem dC_read_10 : decode bC_read 10 = .ok (.iaload, 1) := by decide +kernel
theorem dC_read_11 : decode bC_read 11 = .ok (.ireturn, 1) := by decide +kernel
theorem dC_recordCopy_0 : decode bC_recordCopy 0 = .ok (.aload_n 0, 1) := by decide +kernel
theorem dC_recordCopy_1 : decode bC_recordCopy 1 = .ok (.getfield 11, 3) := by decide +kernel
theorem dC_recordCopy_4 : decode bC_recordCopy 4 = .ok (.iconst 1, 1) := by decide +kernel
theorem dC_recordCopy_5 : decode bC_recordCopy 5 = .ok (.aaload, 1) := by decide +kernel
theorem dC_recordCopy_6 : decode bC_recordCopy 6 = .ok (.bipush 7, 2) := by decide +kernel
theorem dC_recordCopy_8 : decode bC_recordCopy 8 = .ok (.iaload, 1) := by decide +kernel
theorem dC_recordCopy_9 : decode bC_recordCopy 9 = .ok (.sipush 4096, 3) := by decide +kernel
theorem dC_recordCopy_12 : decode bC_recordCopy 12 = .ok (.idiv, 1) := by decide +kernel
theorem dC_recordCopy_13 : decode bC_recordCopy 13 = .ok (.aload_n 0, 1) := by decide +kernel
theorem dC_recordCopy_14 : decode bC_recordCopy 14 = .ok (.getfield 11, 3) := by decide +kernel
theorem dC_recordCopy_17 : decode bC_recordCopy 17 = .ok (.iconst 0, 1) := by decide +kernel
theorem dC_recordCopy_18 : decode bC_recordCopy 18 = .ok (.aaload, 1) := by decide +kernel
theorem dC_recordCopy_19 : decode bC_recordCopy 19 = .ok (.bipush 7, 2) := by decide +kernel
theorem dC_recordCopy_21 : decode bC_recordCopy 21 = .ok (.iaload, 1) := by decide +kernel
theorem dC_recordCopy_22 : decode bC_recordCopy 22 = .ok (.sipush 4096, 3) := by decide +kernel
theorem dC_recordCopy_25 : decode bC_recordCopy 25 = .ok (.idiv, 1) := by decide +kernel
theorem dC_recordCopy_26 : decode bC_recordCopy 26 = .ok (.if_icmp .le 7, 3) := by decide +kernel
theorem dC_recordCopy_29 : decode bC_recordCopy 29 = .ok (.iconst 1, 1) := by decide +kernel
theorem dC_recordCopy_30 : decode bC_recordCopy 30 = .ok (.goto 4, 3) := by decide +kernel
theorem dC_recordCopy_33 : decode bC_recordCopy 33 = .ok (.iconst 0, 1) := by decide +kernel
theorem dC_recordCopy_34 : decode bC_recordCopy 34 = .ok (.ireturn, 1) := by decide +kernel
theorem dT_least_0 : decode bT_least 0 = .ok (.aload_n 0, 1) := by decide +kernel
theorem dT_least_1 : decode bT_least 1 = .ok (.getfield 25, 3) := by decide +kernel
theorem dT_least_4 : decode bT_least 4 = .ok (.iconst 4, 1) := by decide +kernel
theorem dT_least_5 : decode bT_least 5 = .ok (.iaload, 1) := by decide +kernel
theorem dT_least_6 : decode bT_least 6 = .ok (.ireturn, 1) := by decide +kernel
end
section
theorem dC_draftTap_0 : decode bC_draftTap 0 = .ok (.aload_n 0, 1) := by decide +kernel
theorem dC_draftTap_1 : decode bC_draftTap 1 = .ok (.iload_n 2, 1) := by decide +kernel
theorem dC_draftTap_2 : decode bC_draftTap 2 = .ok (.invokevirtual 37, 3) := by decide +kernel
theorem dC_draftTap_5 : decode bC_draftTap 5 = .ok (.aload_n 1, 1) := by decide +kernel
theorem dC_draftTap_6 : decode bC_draftTap 6 = .ok (.invokevirtual 41, 3) := by decide +kernel
theorem dC_draftTap_9 : decode bC_draftTap 9 = .ok (.ifCond .eq 16, 3) := by decide +kernel
theorem dC_draftTap_12 : decode bC_draftTap 12 = .ok (.aload_n 0, 1) := by decide +kernel
theorem dC_draftTap_13 : decode bC_draftTap 13 = .ok (.aload_n 1, 1) := by decide +kernel
theorem dC_draftTap_14 : decode bC_draftTap 14 = .ok (.invokevirtual 47, 3) := by decide +kernel
theorem dC_draftTap_17 : decode bC_draftTap 17 = .ok (.iload_n 2, 1) := by decide +kernel
theorem dC_draftTap_18 : decode bC_draftTap 18 = .ok (.aload_n 3, 1) := by decide +kernel
theorem dC_draftTap_19 : decode bC_draftTap 19 = .ok (.invokevirtual 50, 3) := by decide +kernel
theorem dC_draftTap_22 : decode bC_draftTap 22 = .ok (.goto 13, 3) := by decide +kernel
theorem dC_draftTap_25 : decode bC_draftTap 25 = .ok (.aload_n 0, 1) := by decide +kernel
theorem dC_draftTap_26 : decode bC_draftTap 26 = .ok (.aload_n 1, 1) := by decide +kernel
theorem dC_draftTap_27 : decode bC_draftTap 27 = .ok (.invokevirtual 47, 3) := by decide +kernel
theorem dC_draftTap_30 : decode bC_draftTap 30 = .ok (.iload_n 2, 1) := by decide +kernel
theorem dC_draftTap_31 : decode bC_draftTap 31 = .ok (.aload_n 3, 1) := by decide +kernel
theorem dC_draftTap_32 : decode bC_draftTap 32 = .ok (.invokevirtual 54, 3) := by decide +kernel
theorem dC_draftTap_35 : decode bC_draftTap 35 = .ok (.istore 4, 2) := by decide +kernel
theorem dC_draftTap_37 : decode bC_draftTap 37 = .ok (.aload_n 0, 1) := by decide +kernel
theorem dC_draftTap_38 : decode bC_draftTap 38 = .ok (.getfield 16, 3) := by decide +kernel
theorem dC_draftTap_41 : decode bC_draftTap 41 = .ok (.iconst 0, 1) := by decide +kernel
theorem dC_draftTap_42 : decode bC_draftTap 42 = .ok (.dup2, 1) := by decide +kernel
theorem dC_draftTap_43 : decode bC_draftTap 43 = .ok (.iaload, 1) := by decide +kernel
theorem dC_draftTap_44 : decode bC_draftTap 44 = .ok (.iload 4, 2) := by decide +kernel
theorem dC_draftTap_46 : decode bC_draftTap 46 = .ok (.isub, 1) := by decide +kernel
theorem dC_draftTap_47 : decode bC_draftTap 47 = .ok (.iastore, 1) := by decide +kernel
theorem dC_draftTap_48 : decode bC_draftTap 48 = .ok (.aload_n 0, 1) := by decide +kernel
theorem dC_draftTap_49 : decode bC_draftTap 49 = .ok (.getfield 16, 3) := by decide +kernel
theorem dC_draftTap_52 : decode bC_draftTap 52 = .ok (.bipush 6, 2) := by decide +kernel
theorem dC_draftTap_54 : decode bC_draftTap 54 = .ok (.dup2, 1) := by decide +kernel
theorem dC_draftTap_55 : decode bC_draftTap 55 = .ok (.iaload, 1) := by decide +kernel
theorem dC_draftTap_56 : decode bC_draftTap 56 = .ok (.iload 4, 2) := by decide +kernel
theorem dC_draftTap_58 : decode bC_draftTap 58 = .ok (.iadd, 1) := by decide +kernel
theorem dC_draftTap_59 : decode bC_draftTap 59 = .ok (.iastore, 1) := by decide +kernel
theorem dC_draftTap_60 : decode bC_draftTap 60 = .ok (.iload 4, 2) := by decide +kernel
theorem dC_draftTap_62 : decode bC_draftTap 62 = .ok (.ireturn, 1) := by decide +kernel
theorem dC_startDraft_0 : decode bC_startDraft 0 = .ok (.iload_n 1, 1) := by decide +kernel
theorem dC_startDraft_1 : decode bC_startDraft 1 = .ok (.sipush 1440, 3) := by decide +kernel
theorem dC_startDraft_4 : decode bC_startDraft 4 = .ok (.idiv, 1) := by decide +kernel
theorem dC_startDraft_5 : decode bC_startDraft 5 = .ok (.istore_n 2, 1) := by decide +kernel
theorem dC_startDraft_6 : decode bC_startDraft 6 = .ok (.aload_n 0, 1) := by decide +kernel
theorem dC_startDraft_7 : decode bC_startDraft 7 = .ok (.getfield 11, 3) := by decide +kernel
theorem dC_startDraft_10 : decode bC_startDraft 10 = .ok (.aload_n 0, 1) := by decide +kernel
theorem dC_startDraft_11 : decode bC_startDraft 11 = .ok (.invokevirtual 29, 3) := by decide +kernel
theorem dC_startDraft_14 : decode bC_startDraft 14 = .ok (.aaload, 1) := by decide +kernel
theorem dC_startDraft_15 : decode bC_startDraft 15 = .ok (.iconst 0, 1) := by decide +kernel
theorem dC_startDraft_16 : decode bC_startDraft 16 = .ok (.aload_n 0, 1) := by decide +kernel
theorem dC_startDraft_17 : decode bC_startDraft 17 = .ok (.getfield 16, 3) := by decide +kernel
theorem dC_startDraft_20 : decode bC_startDraft 20 = .ok (.iconst 0, 1) := by decide +kernel
theorem dC_startDraft_21 : decode bC_startDraft 21 = .ok (.bipush 8, 2) := by decide +kernel
theorem dC_startDraft_23 : decode bC_startDraft 23 = .ok (.invokestatic 23, 3) := by decide +kernel
theorem dC_startDraft_26 : decode bC_startDraft 26 = .ok (.aload_n 0, 1) := by decide +kernel
theorem dC_startDraft_27 : decode bC_startDraft 27 = .ok (.getfield 16, 3) := by decide +kernel
theorem dC_startDraft_30 : decode bC_startDraft 30 = .ok (.bipush 6, 2) := by decide +kernel
theorem dC_startDraft_32 : decode bC_startDraft 32 = .ok (.aload_n 0, 1) := by decide +kernel
theorem dC_startDraft_33 : decode bC_startDraft 33 = .ok (.iload_n 2, 1) := by decide +kernel
theorem dC_startDraft_34 : decode bC_startDraft 34 = .ok (.invokevirtual 57, 3) := by decide +kernel
theorem dC_startDraft_37 : decode bC_startDraft 37 = .ok (.iastore, 1) := by decide +kernel
theorem dC_startDraft_38 : decode bC_startDraft 38 = .ok (.aload_n 0, 1) := by decide +kernel
theorem dC_startDraft_39 : decode bC_startDraft 39 = .ok (.getfield 16, 3) := by decide +kernel
theorem dC_startDraft_42 : decode bC_startDraft 42 = .ok (.bipush 7, 2) := by decide +kernel
theorem dC_startDraft_44 : decode bC_startDraft 44 = .ok (.aload_n 0, 1) := by decide +kernel
theorem dC_startDraft_45 : decode bC_startDraft 45 = .ok (.invokevirtual 60, 3) := by decide +kernel
theorem dC_startDraft_48 : decode bC_startDraft 48 = .ok (.iconst 1, 1) := by decide +kernel
theorem dC_startDraft_49 : decode bC_startDraft 49 = .ok (.iadd, 1) := by decide +kernel
theorem dC_startDraft_50 : decode bC_startDraft 50 = .ok (.sipush 4096, 3) := by decide +kernel
theorem dC_startDraft_53 : decode bC_startDraft 53 = .ok (.imul, 1) := by decide +kernel
theorem dC_startDraft_54 : decode bC_startDraft 54 = .ok (.iload_n 2, 1) := by decide +kernel
theorem dC_startDraft_55 : decode bC_startDraft 55 = .ok (.iadd, 1) := by decide +kernel
theorem dC_startDraft_56 : decode bC_startDraft 56 = .ok (.iastore, 1) := by decide +kernel
theorem dC_startDraft_57 : decode bC_startDraft 57 = .ok (.return_, 1) := by decide +kernel
theorem dC_spentOn_0 : decode bC_spentOn 0 = .ok (.aload_n 0, 1) := by decide +kernel
theorem dC_spentOn_1 : decode bC_spentOn 1 = .ok (.bipush 7, 2) := by decide +kernel
theorem dC_spentOn_3 : decode bC_spentOn 3 = .ok (.invokevirtual 33, 3) := by decide +kernel
theorem dC_spentOn_6 : decode bC_spentOn 6 = .ok (.sipush 4096, 3) := by decide +kernel
theorem dC_spentOn_9 : decode bC_spentOn 9 = .ok (.irem, 1) := by decide +kernel
theorem dC_spentOn_10 : decode bC_spentOn 10 = .ok (.iload_n 1, 1) := by decide +kernel
theorem dC_spentOn_11 : decode bC_spentOn 11 = .ok (.if_icmp .ne 12, 3) := by decide +kernel
theorem dC_spentOn_14 : decode bC_spentOn 14 = .ok (.aload_n 0, 1) := by decide +kernel
theorem dC_spentOn_15 : decode bC_spentOn 15 = .ok (.bipush 6, 2) := by decide +kernel
theorem dC_spentOn_17 : decode bC_spentOn 17 = .ok (.invokevirtual 33, 3) := by decide +kernel
theorem dC_spentOn_20 : decode bC_spentOn 20 = .ok (.goto 4, 3) := by decide +kernel
theorem dC_spentOn_23 : decode bC_spentOn 23 = .ok (.iconst 0, 1) := by decide +kernel
theorem dC_spentOn_24 : decode bC_spentOn 24 = .ok (.ireturn, 1) := by decide +kernel
theorem dC_counter_0 : decode bC_counter 0 = .ok (.aload_n 0, 1) := by decide +kernel
theorem dC_counter_1 : decode bC_counter 1 = .ok (.bipush 7, 2) := by decide +kernel
theorem dC_counter_3 : decode bC_counter 3 = .ok (.invokevirtual 33, 3) := by decide +kernel
theorem dC_counter_6 : decode bC_counter 6 = .ok (.sipush 4096, 3) := by decide +kernel
theorem dC_counter_9 : decode bC_counter 9 = .ok (.idiv, 1) := by decide +kernel
theorem dC_counter_10 : decode bC_counter 10 = .ok (.ireturn, 1) := by decide +kernel
theorem dV_zone_0 : decode bV_zone 0 = .ok (.aload_n 0, 1) := by decide +kernel
theorem dV_zone_1 : decode bV_zone 1 = .ok (.getfield 16, 3) := by decide +kernel
theorem dV_zone_4 : decode bV_zone 4 = .ok (.ireturn, 1) := by decide +kernel
theorem dC_draftExit_0 : decode bC_draftExit 0 = .ok (.aload_n 0, 1) := by decide +kernel
theorem dC_draftExit_1 : decode bC_draftExit 1 = .ok (.getfield 16, 3) := by decide +kernel
theorem dC_draftExit_4 : decode bC_draftExit 4 = .ok (.iconst 1, 1) := by decide +kernel
theorem dC_draftExit_5 : decode bC_draftExit 5 = .ok (.iaload, 1) := by decide +kernel
theorem dC_draftExit_6 : decode bC_draftExit 6 = .ok (.iconst (-1), 1) := by decide +kernel
theorem dC_draftExit_7 : decode bC_draftExit 7 = .ok (.if_icmp .eq 21, 3) := by decide +kernel
theorem dC_draftExit_10 : decode bC_draftExit 10 = .ok (.iload_n 2, 1) := by decide +kernel
theorem dC_draftExit_11 : decode bC_draftExit 11 = .ok (.aload_n 0, 1) := by decide +kernel
theorem dC_draftExit_12 : decode bC_draftExit 12 = .ok (.getfield 16, 3) := by decide +kernel
theorem dC_draftExit_15 : decode bC_draftExit 15 = .ok (.iconst 2, 1) := by decide +kernel
theorem dC_draftExit_16 : decode bC_draftExit 16 = .ok (.iaload, 1) := by decide +kernel
theorem dC_draftExit_17 : decode bC_draftExit 17 = .ok (.sipush 180, 3) := by decide +kernel
theorem dC_draftExit_20 : decode bC_draftExit 20 = .ok (.iadd, 1) := by decide +kernel
theorem dC_draftExit_21 : decode bC_draftExit 21 = .ok (.if_icmp .gt 7, 3) := by decide +kernel
theorem dC_draftExit_24 : decode bC_draftExit 24 = .ok (.iconst 1, 1) := by decide +kernel
theorem dC_draftExit_25 : decode bC_draftExit 25 = .ok (.goto 4, 3) := by decide +kernel
theorem dC_draftExit_28 : decode bC_draftExit 28 = .ok (.iconst 0, 1) := by decide +kernel
theorem dC_draftExit_29 : decode bC_draftExit 29 = .ok (.istore 4, 2) := by decide +kernel
theorem dC_draftExit_31 : decode bC_draftExit 31 = .ok (.iload 4, 2) := by decide +kernel
theorem dC_draftExit_33 : decode bC_draftExit 33 = .ok (.ifCond .eq 30, 3) := by decide +kernel
theorem dC_draftExit_36 : decode bC_draftExit 36 = .ok (.aload_n 3, 1) := by decide +kernel
theorem dC_draftExit_37 : decode bC_draftExit 37 = .ok (.aload_n 0, 1) := by decide +kernel
theorem dC_draftExit_38 : decode bC_draftExit 38 = .ok (.getfield 16, 3) := by decide +kernel
theorem dC_draftExit_41 : decode bC_draftExit 41 = .ok (.iconst 3, 1) := by decide +kernel
theorem dC_draftExit_42 : decode bC_draftExit 42 = .ok (.iaload, 1) := by decide +kernel
theorem dC_draftExit_43 : decode bC_draftExit 43 = .ok (.iload_n 1, 1) := by decide +kernel
theorem dC_draftExit_44 : decode bC_draftExit 44 = .ok (.aload_n 0, 1) := by decide +kernel
theorem dC_draftExit_45 : decode bC_draftExit 45 = .ok (.getfield 16, 3) := by decide +kernel
theorem dC_draftExit_48 : decode bC_draftExit 48 = .ok (.iconst 2, 1) := by decide +kernel
theorem dC_draftExit_49 : decode bC_draftExit 49 = .ok (.iaload, 1) := by decide +kernel
theorem dC_draftExit_50 : decode bC_draftExit 50 = .ok (.invokevirtual 72, 3) := by decide +kernel
theorem dC_draftExit_53 : decode bC_draftExit 53 = .ok (.aload_n 0, 1) := by decide +kernel
theorem dC_draftExit_54 : decode bC_draftExit 54 = .ok (.getfield 16, 3) := by decide +kernel
theorem dC_draftExit_57 : decode bC_draftExit 57 = .ok (.iconst 4, 1) := by decide +kernel
theorem dC_draftExit_58 : decode bC_draftExit 58 = .ok (.iaload, 1) := by decide +kernel
theorem dC_draftExit_59 : decode bC_draftExit 59 = .ok (.isub, 1) := by decide +kernel
theorem dC_draftExit_60 : decode bC_draftExit 60 = .ok (.goto 10, 3) := by decide +kernel
theorem dC_draftExit_63 : decode bC_draftExit 63 = .ok (.aload_n 0, 1) := by decide +kernel
theorem dC_draftExit_64 : decode bC_draftExit 64 = .ok (.iload_n 1, 1) := by decide +kernel
theorem dC_draftExit_65 : decode bC_draftExit 65 = .ok (.iload_n 2, 1) := by decide +kernel
theorem dC_draftExit_66 : decode bC_draftExit 66 = .ok (.aload_n 3, 1) := by decide +kernel
theorem dC_draftExit_67 : decode bC_draftExit 67 = .ok (.invokevirtual 76, 3) := by decide +kernel
theorem dC_draftExit_70 : decode bC_draftExit 70 = .ok (.istore 5, 2) := by decide +kernel
theorem dC_draftExit_72 : decode bC_draftExit 72 = .ok (.aload_n 3, 1) := by decide +kernel
theorem dC_draftExit_73 : decode bC_draftExit 73 = .ok (.iload 5, 2) := by decide +kernel
theorem dC_draftExit_75 : decode bC_draftExit 75 = .ok (.aload_n 0, 1) := by decide +kernel
theorem dC_draftExit_76 : decode bC_draftExit 76 = .ok (.getfield 16, 3) := by decide +kernel
theorem dC_draftExit_79 : decode bC_draftExit 79 = .ok (.bipush 6, 2) := by decide +kernel
theorem dC_draftExit_81 : decode bC_draftExit 81 = .ok (.iaload, 1) := by decide +kernel
theorem dC_draftExit_82 : decode bC_draftExit 82 = .ok (.invokevirtual 69, 3) := by decide +kernel
theorem dC_draftExit_85 : decode bC_draftExit 85 = .ok (.istore 6, 2) := by decide +kernel
theorem dC_draftExit_87 : decode bC_draftExit 87 = .ok (.aload_n 0, 1) := by decide +kernel
theorem dC_draftExit_88 : decode bC_draftExit 88 = .ok (.getfield 16, 3) := by decide +kernel
theorem dC_draftExit_91 : decode bC_draftExit 91 = .ok (.iconst 4, 1) := by decide +kernel
theorem dC_draftExit_92 : decode bC_draftExit 92 = .ok (.iload 4, 2) := by decide +kernel
theorem dC_draftExit_94 : decode bC_draftExit 94 = .ok (.ifCond .eq 15, 3) := by decide +kernel
theorem dC_draftExit_97 : decode bC_draftExit 97 = .ok (.aload_n 0, 1) := by decide +kernel
theorem dC_draftExit_98 : decode bC_draftExit 98 = .ok (.getfield 16, 3) := by decide +kernel
theorem dC_draftExit_101 : decode bC_draftExit 101 = .ok (.iconst 4, 1) := by decide +kernel
theorem dC_draftExit_102 : decode bC_draftExit 102 = .ok (.iaload, 1) := by decide +kernel
theorem dC_draftExit_103 : decode bC_draftExit 103 = .ok (.iload 6, 2) := by decide +kernel
theorem dC_draftExit_105 : decode bC_draftExit 105 = .ok (.iadd, 1) := by decide +kernel
theorem dC_draftExit_106 : decode bC_draftExit 106 = .ok (.goto 4, 3) := by decide +kernel
theorem dC_draftExit_109 : decode bC_draftExit 109 = .ok (.iconst 0, 1) := by decide +kernel
theorem dC_draftExit_110 : decode bC_draftExit 110 = .ok (.iastore, 1) := by decide +kernel
theorem dC_draftExit_111 : decode bC_draftExit 111 = .ok (.aload_n 0, 1) := by decide +kernel
theorem dC_draftExit_112 : decode bC_draftExit 112 = .ok (.getfield 16, 3) := by decide +kernel
theorem dC_draftExit_115 : decode bC_draftExit 115 = .ok (.iconst 5, 1) := by decide +kernel
theorem dC_draftExit_116 : decode bC_draftExit 116 = .ok (.iload 4, 2) := by decide +kernel
theorem dC_draftExit_118 : decode bC_draftExit 118 = .ok (.ifCond .eq 7, 3) := by decide +kernel
theorem dC_draftExit_121 : decode bC_draftExit 121 = .ok (.iload_n 2, 1) := by decide +kernel
theorem dC_draftExit_122 : decode bC_draftExit 122 = .ok (.goto 6, 3) := by decide +kernel
theorem dC_draftExit_125 : decode bC_draftExit 125 = .ok (.sipush (-1000), 3) := by decide +kernel
theorem dC_draftExit_128 : decode bC_draftExit 128 = .ok (.iastore, 1) := by decide +kernel
theorem dC_draftExit_129 : decode bC_draftExit 129 = .ok (.aload_n 0, 1) := by decide +kernel
theorem dC_draftExit_130 : decode bC_draftExit 130 = .ok (.getfield 16, 3) := by decide +kernel
theorem dC_draftExit_133 : decode bC_draftExit 133 = .ok (.iconst 1, 1) := by decide +kernel
theorem dC_draftExit_134 : decode bC_draftExit 134 = .ok (.iconst (-1), 1) := by decide +kernel
theorem dC_draftExit_135 : decode bC_draftExit 135 = .ok (.iastore, 1) := by decide +kernel
theorem dC_draftExit_136 : decode bC_draftExit 136 = .ok (.iload 6, 2) := by decide +kernel
theorem dC_draftExit_138 : decode bC_draftExit 138 = .ok (.ireturn, 1) := by decide +kernel
theorem dT_priceBetween_0 : decode bT_priceBetween 0 = .ok (.iload_n 1, 1) := by decide +kernel
theorem dT_priceBetween_1 : decode bT_priceBetween 1 = .ok (.bipush 6, 2) := by decide +kernel
theorem dT_priceBetween_3 : decode bT_priceBetween 3 = .ok (.invokestatic 28, 3) := by decide +kernel
theorem dT_priceBetween_6 : decode bT_priceBetween 6 = .ok (.ifCond .eq 28, 3) := by decide +kernel
theorem dT_priceBetween_9 : decode bT_priceBetween 9 = .ok (.iload_n 2, 1) := by decide +kernel
theorem dT_priceBetween_10 : decode bT_priceBetween 10 = .ok (.bipush 6, 2) := by decide +kernel
theorem dT_priceBetween_12 : decode bT_priceBetween 12 = .ok (.invokestatic 28, 3) := by decide +kernel
theorem dT_priceBetween_15 : decode bT_priceBetween 15 = .ok (.ifCond .eq 19, 3) := by decide +kernel
theorem dT_priceBetween_18 : decode bT_priceBetween 18 = .ok (.aload_n 0, 1) := by decide +kernel
theorem dT_priceBetween_19 : decode bT_priceBetween 19 = .ok (.aload_n 0, 1) := by decide +kernel
theorem dT_priceBetween_20 : decode bT_priceBetween 20 = .ok (.getfield 11, 3) := by decide +kernel
theorem dT_priceBetween_23 : decode bT_priceBetween 23 = .ok (.iload_n 1, 1) := by decide +kernel
theorem dT_priceBetween_24 : decode bT_priceBetween 24 = .ok (.aaload, 1) := by decide +kernel
theorem dT_priceBetween_25 : decode bT_priceBetween 25 = .ok (.iload_n 2, 1) := by decide +kernel
theorem dT_priceBetween_26 : decode bT_priceBetween 26 = .ok (.iaload, 1) := by decide +kernel
theorem dT_priceBetween_27 : decode bT_priceBetween 27 = .ok (.iload_n 3, 1) := by decide +kernel
theorem dT_priceBetween_28 : decode bT_priceBetween 28 = .ok (.invokevirtual 32, 3) := by decide +kernel
theorem dT_priceBetween_31 : decode bT_priceBetween 31 = .ok (.goto 4, 3) := by decide +kernel
theorem dT_priceBetween_34 : decode bT_priceBetween 34 = .ok (.iconst 0, 1) := by decide +kernel
theorem dT_priceBetween_35 : decode bT_priceBetween 35 = .ok (.ireturn, 1) := by decide +kernel
theorem dT_price_0 : decode bT_price 0 = .ok (.iload_n 2, 1) := by decide +kernel
theorem dT_price_1 : decode bT_price 1 = .ok (.sipush 1440, 3) := by decide +kernel
theorem dT_price_4 : decode bT_price 4 = .ok (.irem, 1) := by decide +kernel
theorem dT_price_5 : decode bT_price 5 = .ok (.istore_n 3, 1) := by decide +kernel
theorem dT_price_6 : decode bT_price 6 = .ok (.iload_n 3, 1) := by decide +kernel
theorem dT_price_7 : decode bT_price 7 = .ok (.aload_n 0, 1) := by decide +kernel
theorem dT_price_8 : decode bT_price 8 = .ok (.getfield 25, 3) := by decide +kernel
theorem dT_price_11 : decode bT_price 11 = .ok (.iconst 0, 1) := by decide +kernel
theorem dT_price_12 : decode bT_price 12 = .ok (.iaload, 1) := by decide +kernel
theorem dT_price_13 : decode bT_price 13 = .ok (.if_icmp .lt 17, 3) := by decide +kernel
theorem dT_price_16 : decode bT_price 16 = .ok (.iload_n 3, 1) := by decide +kernel
theorem dT_price_17 : decode bT_price 17 = .ok (.aload_n 0, 1) := by decide +kernel
theorem dT_price_18 : decode bT_price 18 = .ok (.getfield 25, 3) := by decide +kernel
theorem dT_price_21 : decode bT_price 21 = .ok (.iconst 1, 1) := by decide +kernel
theorem dT_price_22 : decode bT_price 22 = .ok (.iaload, 1) := by decide +kernel
theorem dT_price_23 : decode bT_price 23 = .ok (.if_icmp .ge 7, 3) := by decide +kernel
theorem dT_price_26 : decode bT_price 26 = .ok (.iconst 1, 1) := by decide +kernel
theorem dT_price_27 : decode bT_price 27 = .ok (.goto 4, 3) := by decide +kernel
theorem dT_price_30 : decode bT_price 30 = .ok (.iconst 0, 1) := by decide +kernel
theorem dT_price_31 : decode bT_price 31 = .ok (.istore 4, 2) := by decide +kernel
theorem dT_price_33 : decode bT_price 33 = .ok (.iload 4, 2) := by decide +kernel
theorem dT_price_35 : decode bT_price 35 = .ok (.ifCond .eq 19, 3) := by decide +kernel
theorem dT_price_38 : decode bT_price 38 = .ok (.iload_n 1, 1) := by decide +kernel
theorem dT_price_39 : decode bT_price 39 = .ok (.iload_n 1, 1) := by decide +kernel
theorem dT_price_40 : decode bT_price 40 = .ok (.aload_n 0, 1) := by decide +kernel
theorem dT_price_41 : decode bT_price 41 = .ok (.getfield 25, 3) := by decide +kernel
theorem dT_price_44 : decode bT_price 44 = .ok (.iconst 2, 1) := by decide +kernel
theorem dT_price_45 : decode bT_price 45 = .ok (.iaload, 1) := by decide +kernel
theorem dT_price_46 : decode bT_price 46 = .ok (.imul, 1) := by decide +kernel
theorem dT_price_47 : decode bT_price 47 = .ok (.bipush 100, 2) := by decide +kernel
theorem dT_price_49 : decode bT_price 49 = .ok (.idiv, 1) := by decide +kernel
theorem dT_price_50 : decode bT_price 50 = .ok (.iadd, 1) := by decide +kernel
theorem dT_price_51 : decode bT_price 51 = .ok (.goto 4, 3) := by decide +kernel
theorem dT_price_54 : decode bT_price 54 = .ok (.iload_n 1, 1) := by decide +kernel
theorem dT_price_55 : decode bT_price 55 = .ok (.ireturn, 1) := by decide +kernel
theorem dC_priceOutOfTime_0 : decode bC_priceOutOfTime 0 = .ok (.aload_n 0, 1) := by decide +kernel
theorem dC_priceOutOfTime_1 : decode bC_priceOutOfTime 1 = .ok (.getfield 16, 3) := by decide +kernel
theorem dC_priceOutOfTime_4 : decode bC_priceOutOfTime 4 = .ok (.iconst 1, 1) := by decide +kernel
theorem dC_priceOutOfTime_5 : decode bC_priceOutOfTime 5 = .ok (.iaload, 1) := by decide +kernel
theorem dC_priceOutOfTime_6 : decode bC_priceOutOfTime 6 = .ok (.iconst (-1), 1) := by decide +kernel
theorem dC_priceOutOfTime_7 : decode bC_priceOutOfTime 7 = .ok (.if_icmp .ne 12, 3) := by decide +kernel
theorem dC_priceOutOfTime_10 : decode bC_priceOutOfTime 10 = .ok (.aload_n 3, 1) := by decide +kernel
theorem dC_priceOutOfTime_11 : decode bC_priceOutOfTime 11 = .ok (.iload_n 1, 1) := by decide +kernel
theorem dC_priceOutOfTime_12 : decode bC_priceOutOfTime 12 = .ok (.iload_n 2, 1) := by decide +kernel
theorem dC_priceOutOfTime_13 : decode bC_priceOutOfTime 13 = .ok (.invokevirtual 63, 3) := by decide +kernel
theorem dC_priceOutOfTime_16 : decode bC_priceOutOfTime 16 = .ok (.goto 19, 3) := by decide +kernel
theorem dC_priceOutOfTime_19 : decode bC_priceOutOfTime 19 = .ok (.aload_n 3, 1) := by decide +kernel
theorem dC_priceOutOfTime_20 : decode bC_priceOutOfTime 20 = .ok (.aload_n 0, 1) := by decide +kernel
theorem dC_priceOutOfTime_21 : decode bC_priceOutOfTime 21 = .ok (.getfield 16, 3) := by decide +kernel
theorem dC_priceOutOfTime_24 : decode bC_priceOutOfTime 24 = .ok (.iconst 1, 1) := by decide +kernel
theorem dC_priceOutOfTime_25 : decode bC_priceOutOfTime 25 = .ok (.iaload, 1) := by decide +kernel
theorem dC_priceOutOfTime_26 : decode bC_priceOutOfTime 26 = .ok (.aload_n 0, 1) := by decide +kernel
theorem dC_priceOutOfTime_27 : decode bC_priceOutOfTime 27 = .ok (.getfield 16, 3) := by decide +kernel
theorem dC_priceOutOfTime_30 : decode bC_priceOutOfTime 30 = .ok (.iconst 2, 1) := by decide +kernel
theorem dC_priceOutOfTime_31 : decode bC_priceOutOfTime 31 = .ok (.iaload, 1) := by decide +kernel
theorem dC_priceOutOfTime_32 : decode bC_priceOutOfTime 32 = .ok (.invokevirtual 63, 3) := by decide +kernel
theorem dC_priceOutOfTime_35 : decode bC_priceOutOfTime 35 = .ok (.ireturn, 1) := by decide +kernel
theorem dT_fullPrice_0 : decode bT_fullPrice 0 = .ok (.iload_n 1, 1) := by decide +kernel
theorem dT_fullPrice_1 : decode bT_fullPrice 1 = .ok (.bipush 6, 2) := by decide +kernel
theorem dT_fullPrice_3 : decode bT_fullPrice 3 = .ok (.invokestatic 28, 3) := by decide +kernel
theorem dT_fullPrice_6 : decode bT_fullPrice 6 = .ok (.ifCond .ne 5, 3) := by decide +kernel
theorem dT_fullPrice_9 : decode bT_fullPrice 9 = .ok (.iconst 0, 1) := by decide +kernel
theorem dT_fullPrice_10 : decode bT_fullPrice 10 = .ok (.ireturn, 1) := by decide +kernel
theorem dT_fullPrice_11 : decode bT_fullPrice 11 = .ok (.iconst 0, 1) := by decide +kernel
theorem dT_fullPrice_12 : decode bT_fullPrice 12 = .ok (.istore_n 3, 1) := by decide +kernel
theorem dT_fullPrice_13 : decode bT_fullPrice 13 = .ok (.iconst 0, 1) := by decide +kernel
theorem dT_fullPrice_14 : decode bT_fullPrice 14 = .ok (.istore 4, 2) := by decide +kernel
theorem dT_fullPrice_16 : decode bT_fullPrice 16 = .ok (.iload 4, 2) := by decide +kernel
theorem dT_fullPrice_18 : decode bT_fullPrice 18 = .ok (.bipush 6, 2) := by decide +kernel
theorem dT_fullPrice_20 : decode bT_fullPrice 20 = .ok (.if_icmp .ge 23, 3) := by decide +kernel
theorem dT_fullPrice_23 : decode bT_fullPrice 23 = .ok (.iload_n 3, 1) := by decide +kernel
theorem dT_fullPrice_24 : decode bT_fullPrice 24 = .ok (.aload_n 0, 1) := by decide +kernel
theorem dT_fullPrice_25 : decode bT_fullPrice 25 = .ok (.getfield 11, 3) := by decide +kernel
theorem dT_fullPrice_28 : decode bT_fullPrice 28 = .ok (.iload_n 1, 1) := by decide +kernel
theorem dT_fullPrice_29 : decode bT_fullPrice 29 = .ok (.aaload, 1) := by decide +kernel
theorem dT_fullPrice_30 : decode bT_fullPrice 30 = .ok (.iload 4, 2) := by decide +kernel
theorem dT_fullPrice_32 : decode bT_fullPrice 32 = .ok (.iaload, 1) := by decide +kernel
theorem dT_fullPrice_33 : decode bT_fullPrice 33 = .ok (.invokestatic 36, 3) := by decide +kernel
theorem dT_fullPrice_36 : decode bT_fullPrice 36 = .ok (.istore_n 3, 1) := by decide +kernel
theorem dT_fullPrice_37 : decode bT_fullPrice 37 = .ok (.iinc 4 1, 3) := by decide +kernel
theorem dT_fullPrice_40 : decode bT_fullPrice 40 = .ok (.goto (-24), 3) := by decide +kernel
theorem dT_fullPrice_43 : decode bT_fullPrice 43 = .ok (.aload_n 0, 1) := by decide +kernel
theorem dT_fullPrice_44 : decode bT_fullPrice 44 = .ok (.iload_n 3, 1) := by decide +kernel
theorem dT_fullPrice_45 : decode bT_fullPrice 45 = .ok (.iload_n 2, 1) := by decide +kernel
theorem dT_fullPrice_46 : decode bT_fullPrice 46 = .ok (.invokevirtual 32, 3) := by decide +kernel
theorem dT_fullPrice_49 : decode bT_fullPrice 49 = .ok (.ireturn, 1) := by decide +kernel
theorem dT_capped_0 : decode bT_capped 0 = .ok (.iconst 0, 1) := by decide +kernel
theorem dT_capped_1 : decode bT_capped 1 = .ok (.iload_n 1, 1) := by decide +kernel
theorem dT_capped_2 : decode bT_capped 2 = .ok (.aload_n 0, 1) := by decide +kernel
theorem dT_capped_3 : decode bT_capped 3 = .ok (.getfield 25, 3) := by decide +kernel
theorem dT_capped_6 : decode bT_capped 6 = .ok (.iconst 3, 1) := by decide +kernel
theorem dT_capped_7 : decode bT_capped 7 = .ok (.iaload, 1) := by decide +kernel
theorem dT_capped_8 : decode bT_capped 8 = .ok (.iload_n 2, 1) := by decide +kernel
theorem dT_capped_9 : decode bT_capped 9 = .ok (.isub, 1) := by decide +kernel
theorem dT_capped_10 : decode bT_capped 10 = .ok (.invokestatic 41, 3) := by decide +kernel
theorem dT_capped_13 : decode bT_capped 13 = .ok (.invokestatic 36, 3) := by decide +kernel
theorem dT_capped_16 : decode bT_capped 16 = .ok (.ireturn, 1) := by decide +kernel
theorem dC_draftEntry_0 : decode bC_draftEntry 0 = .ok (.aload_n 0, 1) := by decide +kernel
theorem dC_draftEntry_1 : decode bC_draftEntry 1 = .ok (.getfield 16, 3) := by decide +kernel
theorem dC_draftEntry_4 : decode bC_draftEntry 4 = .ok (.iconst 1, 1) := by decide +kernel
theorem dC_draftEntry_5 : decode bC_draftEntry 5 = .ok (.iaload, 1) := by decide +kernel
theorem dC_draftEntry_6 : decode bC_draftEntry 6 = .ok (.iconst (-1), 1) := by decide +kernel
theorem dC_draftEntry_7 : decode bC_draftEntry 7 = .ok (.if_icmp .eq 7, 3) := by decide +kernel
theorem dC_draftEntry_10 : decode bC_draftEntry 10 = .ok (.iconst 1, 1) := by decide +kernel
theorem dC_draftEntry_11 : decode bC_draftEntry 11 = .ok (.goto 4, 3) := by decide +kernel
theorem dC_draftEntry_14 : decode bC_draftEntry 14 = .ok (.iconst 0, 1) := by decide +kernel
theorem dC_draftEntry_15 : decode bC_draftEntry 15 = .ok (.istore 4, 2) := by decide +kernel
theorem dC_draftEntry_17 : decode bC_draftEntry 17 = .ok (.iload 4, 2) := by decide +kernel
theorem dC_draftEntry_19 : decode bC_draftEntry 19 = .ok (.ifCond .eq 33, 3) := by decide +kernel
theorem dC_draftEntry_22 : decode bC_draftEntry 22 = .ok (.aload_n 3, 1) := by decide +kernel
theorem dC_draftEntry_23 : decode bC_draftEntry 23 = .ok (.aload_n 3, 1) := by decide +kernel
theorem dC_draftEntry_24 : decode bC_draftEntry 24 = .ok (.aload_n 0, 1) := by decide +kernel
theorem dC_draftEntry_25 : decode bC_draftEntry 25 = .ok (.getfield 16, 3) := by decide +kernel
theorem dC_draftEntry_28 : decode bC_draftEntry 28 = .ok (.iconst 1, 1) := by decide +kernel
theorem dC_draftEntry_29 : decode bC_draftEntry 29 = .ok (.iaload, 1) := by decide +kernel
theorem dC_draftEntry_30 : decode bC_draftEntry 30 = .ok (.aload_n 0, 1) := by decide +kernel
theorem dC_draftEntry_31 : decode bC_draftEntry 31 = .ok (.getfield 16, 3) := by decide +kernel
theorem dC_draftEntry_34 : decode bC_draftEntry 34 = .ok (.iconst 2, 1) := by decide +kernel
theorem dC_draftEntry_35 : decode bC_draftEntry 35 = .ok (.iaload, 1) := by decide +kernel
theorem dC_draftEntry_36 : decode bC_draftEntry 36 = .ok (.invokevirtual 63, 3) := by decide +kernel
theorem dC_draftEntry_39 : decode bC_draftEntry 39 = .ok (.aload_n 0, 1) := by decide +kernel
theorem dC_draftEntry_40 : decode bC_draftEntry 40 = .ok (.getfield 16, 3) := by decide +kernel
theorem dC_draftEntry_43 : decode bC_draftEntry 43 = .ok (.bipush 6, 2) := by decide +kernel
theorem dC_draftEntry_45 : decode bC_draftEntry 45 = .ok (.iaload, 1) := by decide +kernel
theorem dC_draftEntry_46 : decode bC_draftEntry 46 = .ok (.invokevirtual 69, 3) := by decide +kernel
theorem dC_draftEntry_49 : decode bC_draftEntry 49 = .ok (.goto 4, 3) := by decide +kernel
theorem dC_draftEntry_52 : decode bC_draftEntry 52 = .ok (.iconst 0, 1) := by decide +kernel
theorem dC_draftEntry_53 : decode bC_draftEntry 53 = .ok (.istore 5, 2) := by decide +kernel
theorem dC_draftEntry_55 : decode bC_draftEntry 55 = .ok (.iload 4, 2) := by decide +kernel
theorem dC_draftEntry_57 : decode bC_draftEntry 57 = .ok (.ifCond .ne 16, 3) := by decide +kernel
theorem dC_draftEntry_60 : decode bC_draftEntry 60 = .ok (.iload_n 2, 1) := by decide +kernel
theorem dC_draftEntry_61 : decode bC_draftEntry 61 = .ok (.aload_n 0, 1) := by decide +kernel
theorem dC_draftEntry_62 : decode bC_draftEntry 62 = .ok (.getfield 16, 3) := by decide +kernel
theorem dC_draftEntry_65 : decode bC_draftEntry 65 = .ok (.iconst 5, 1) := by decide +kernel
theorem dC_draftEntry_66 : decode bC_draftEntry 66 = .ok (.iaload, 1) := by decide +kernel
theorem dC_draftEntry_67 : decode bC_draftEntry 67 = .ok (.bipush 30, 2) := by decide +kernel
theorem dC_draftEntry_69 : decode bC_draftEntry 69 = .ok (.iadd, 1) := by decide +kernel
theorem dC_draftEntry_70 : decode bC_draftEntry 70 = .ok (.if_icmp .le 17, 3) := by decide +kernel
theorem dC_draftEntry_73 : decode bC_draftEntry 73 = .ok (.aload_n 0, 1) := by decide +kernel
theorem dC_draftEntry_74 : decode bC_draftEntry 74 = .ok (.getfield 16, 3) := by decide +kernel
theorem dC_draftEntry_77 : decode bC_draftEntry 77 = .ok (.iconst 3, 1) := by decide +kernel
theorem dC_draftEntry_78 : decode bC_draftEntry 78 = .ok (.iload_n 1, 1) := by decide +kernel
theorem dC_draftEntry_79 : decode bC_draftEntry 79 = .ok (.iastore, 1) := by decide +kernel
theorem dC_draftEntry_80 : decode bC_draftEntry 80 = .ok (.aload_n 0, 1) := by decide +kernel
theorem dC_draftEntry_81 : decode bC_draftEntry 81 = .ok (.getfield 16, 3) := by decide +kernel
theorem dC_draftEntry_84 : decode bC_draftEntry 84 = .ok (.iconst 4, 1) := by decide +kernel
theorem dC_draftEntry_85 : decode bC_draftEntry 85 = .ok (.iconst 0, 1) := by decide +kernel
theorem dC_draftEntry_86 : decode bC_draftEntry 86 = .ok (.iastore, 1) := by decide +kernel
theorem dC_draftEntry_87 : decode bC_draftEntry 87 = .ok (.aload_n 0, 1) := by decide +kernel
theorem dC_draftEntry_88 : decode bC_draftEntry 88 = .ok (.getfield 16, 3) := by decide +kernel
theorem dC_draftEntry_91 : decode bC_draftEntry 91 = .ok (.iconst 1, 1) := by decide +kernel
theorem dC_draftEntry_92 : decode bC_draftEntry 92 = .ok (.iload_n 1, 1) := by decide +kernel
theorem dC_draftEntry_93 : decode bC_draftEntry 93 = .ok (.iastore, 1) := by decide +kernel
theorem dC_draftEntry_94 : decode bC_draftEntry 94 = .ok (.aload_n 0, 1) := by decide +kernel
theorem dC_draftEntry_95 : decode bC_draftEntry 95 = .ok (.getfield 16, 3) := by decide +kernel
theorem dC_draftEntry_98 : decode bC_draftEntry 98 = .ok (.iconst 2, 1) := by decide +kernel
theorem dC_draftEntry_99 : decode bC_draftEntry 99 = .ok (.iload_n 2, 1) := by decide +kernel
theorem dC_draftEntry_100 : decode bC_draftEntry 100 = .ok (.iastore, 1) := by decide +kernel
theorem dC_draftEntry_101 : decode bC_draftEntry 101 = .ok (.iload 5, 2) := by decide +kernel
theorem dC_draftEntry_103 : decode bC_draftEntry 103 = .ok (.ireturn, 1) := by decide +kernel
theorem dC_writeDraft_0 : decode bC_writeDraft 0 = .ok (.aload_n 0, 1) := by decide +kernel
theorem dC_writeDraft_1 : decode bC_writeDraft 1 = .ok (.getfield 11, 3) := by decide +kernel
theorem dC_writeDraft_4 : decode bC_writeDraft 4 = .ok (.iconst 1, 1) := by decide +kernel
theorem dC_writeDraft_5 : decode bC_writeDraft 5 = .ok (.aload_n 0, 1) := by decide +kernel
theorem dC_writeDraft_6 : decode bC_writeDraft 6 = .ok (.invokevirtual 29, 3) := by decide +kernel
theorem dC_writeDraft_9 : decode bC_writeDraft 9 = .ok (.isub, 1) := by decide +kernel
theorem dC_writeDraft_10 : decode bC_writeDraft 10 = .ok (.aaload, 1) := by decide +kernel
theorem dC_writeDraft_11 : decode bC_writeDraft 11 = .ok (.astore_n 2, 1) := by decide +kernel
theorem dC_writeDraft_12 : decode bC_writeDraft 12 = .ok (.iconst 0, 1) := by decide +kernel
theorem dC_writeDraft_13 : decode bC_writeDraft 13 = .ok (.istore_n 3, 1) := by decide +kernel
theorem dC_writeDraft_14 : decode bC_writeDraft 14 = .ok (.iload_n 3, 1) := by decide +kernel
theorem dC_writeDraft_15 : decode bC_writeDraft 15 = .ok (.iload_n 1, 1) := by decide +kernel
theorem dC_writeDraft_16 : decode bC_writeDraft 16 = .ok (.if_icmp .ge 24, 3) := by decide +kernel
theorem dC_writeDraft_19 : decode bC_writeDraft 19 = .ok (.iload_n 3, 1) := by decide +kernel
theorem dC_writeDraft_20 : decode bC_writeDraft 20 = .ok (.bipush 8, 2) := by decide +kernel
theorem dC_writeDraft_22 : decode bC_writeDraft 22 = .ok (.if_icmp .ge 18, 3) := by decide +kernel
theorem dC_writeDraft_25 : decode bC_writeDraft 25 = .ok (.aload_n 2, 1) := by decide +kernel
theorem dC_writeDraft_26 : decode bC_writeDraft 26 = .ok (.iload_n 3, 1) := by decide +kernel
theorem dC_writeDraft_27 : decode bC_writeDraft 27 = .ok (.aload_n 0, 1) := by decide +kernel
theorem dC_writeDraft_28 : decode bC_writeDraft 28 = .ok (.getfield 16, 3) := by decide +kernel
theorem dC_writeDraft_31 : decode bC_writeDraft 31 = .ok (.iload_n 3, 1) := by decide +kernel
theorem dC_writeDraft_32 : decode bC_writeDraft 32 = .ok (.iaload, 1) := by decide +kernel
theorem dC_writeDraft_33 : decode bC_writeDraft 33 = .ok (.iastore, 1) := by decide +kernel
theorem dC_writeDraft_34 : decode bC_writeDraft 34 = .ok (.iinc 3 1, 3) := by decide +kernel
theorem dC_writeDraft_37 : decode bC_writeDraft 37 = .ok (.goto (-23), 3) := by decide +kernel
theorem dC_writeDraft_40 : decode bC_writeDraft 40 = .ok (.return_, 1) := by decide +kernel
theorem dV_keepEntry_0 : decode bV_keepEntry 0 = .ok (.aload_n 0, 1) := by decide +kernel
theorem dV_keepEntry_1 : decode bV_keepEntry 1 = .ok (.invokevirtual 30, 3) := by decide +kernel
theorem dV_keepEntry_4 : decode bV_keepEntry 4 = .ok (.ifCond .eq 4, 3) := by decide +kernel
theorem dV_keepEntry_7 : decode bV_keepEntry 7 = .ok (.return_, 1) := by decide +kernel
theorem dV_keepEntry_8 : decode bV_keepEntry 8 = .ok (.aload_n 0, 1) := by decide +kernel
theorem dV_keepEntry_9 : decode bV_keepEntry 9 = .ok (.getfield 11, 3) := by decide +kernel
theorem dV_keepEntry_12 : decode bV_keepEntry 12 = .ok (.aload_n 0, 1) := by decide +kernel
theorem dV_keepEntry_13 : decode bV_keepEntry 13 = .ok (.getfield 27, 3) := by decide +kernel
theorem dV_keepEntry_16 : decode bV_keepEntry 16 = .ok (.aaload, 1) := by decide +kernel
theorem dV_keepEntry_17 : decode bV_keepEntry 17 = .ok (.astore 5, 2) := by decide +kernel
theorem dV_keepEntry_19 : decode bV_keepEntry 19 = .ok (.aload 5, 2) := by decide +kernel
theorem dV_keepEntry_21 : decode bV_keepEntry 21 = .ok (.iconst 0, 1) := by decide +kernel
theorem dV_keepEntry_22 : decode bV_keepEntry 22 = .ok (.iload_n 1, 1) := by decide +kernel
theorem dV_keepEntry_23 : decode bV_keepEntry 23 = .ok (.iastore, 1) := by decide +kernel
theorem dV_keepEntry_24 : decode bV_keepEntry 24 = .ok (.aload 5, 2) := by decide +kernel
theorem dV_keepEntry_26 : decode bV_keepEntry 26 = .ok (.iconst 1, 1) := by decide +kernel
theorem dV_keepEntry_27 : decode bV_keepEntry 27 = .ok (.iload_n 2, 1) := by decide +kernel
theorem dV_keepEntry_28 : decode bV_keepEntry 28 = .ok (.iastore, 1) := by decide +kernel
theorem dV_keepEntry_29 : decode bV_keepEntry 29 = .ok (.aload 5, 2) := by decide +kernel
theorem dV_keepEntry_31 : decode bV_keepEntry 31 = .ok (.iconst 2, 1) := by decide +kernel
theorem dV_keepEntry_32 : decode bV_keepEntry 32 = .ok (.iload_n 3, 1) := by decide +kernel
theorem dV_keepEntry_33 : decode bV_keepEntry 33 = .ok (.iastore, 1) := by decide +kernel
theorem dV_keepEntry_34 : decode bV_keepEntry 34 = .ok (.aload 5, 2) := by decide +kernel
theorem dV_keepEntry_36 : decode bV_keepEntry 36 = .ok (.iconst 3, 1) := by decide +kernel
theorem dV_keepEntry_37 : decode bV_keepEntry 37 = .ok (.iload 4, 2) := by decide +kernel
theorem dV_keepEntry_39 : decode bV_keepEntry 39 = .ok (.iastore, 1) := by decide +kernel
theorem dV_keepEntry_40 : decode bV_keepEntry 40 = .ok (.aload_n 0, 1) := by decide +kernel
theorem dV_keepEntry_41 : decode bV_keepEntry 41 = .ok (.dup, 1) := by decide +kernel
theorem dV_keepEntry_42 : decode bV_keepEntry 42 = .ok (.getfield 27, 3) := by decide +kernel
theorem dV_keepEntry_45 : decode bV_keepEntry 45 = .ok (.iconst 1, 1) := by decide +kernel
theorem dV_keepEntry_46 : decode bV_keepEntry 46 = .ok (.iadd, 1) := by decide +kernel
theorem dV_keepEntry_47 : decode bV_keepEntry 47 = .ok (.putfield 27, 3) := by decide +kernel
theorem dV_keepEntry_50 : decode bV_keepEntry 50 = .ok (.return_, 1) := by decide +kernel
end
section
theorem dO_topUp_0 : decode bO_topUp 0 = .ok (.iload_n 1, 1) := by decide +kernel
theorem dO_topUp_1 : decode bO_topUp 1 = .ok (.iconst 4, 1) := by decide +kernel
theorem dO_topUp_2 : decode bO_topUp 2 = .ok (.invokestatic 43, 3) := by decide +kernel
theorem dO_topUp_5 : decode bO_topUp 5 = .ok (.ifCond .eq 15, 3) := by decide +kernel
theorem dO_topUp_8 : decode bO_topUp 8 = .ok (.iload_n 2, 1) := by decide +kernel
theorem dO_topUp_9 : decode bO_topUp 9 = .ok (.iconst 1, 1) := by decide +kernel
theorem dO_topUp_10 : decode bO_topUp 10 = .ok (.if_icmp .lt 10, 3) := by decide +kernel
theorem dO_topUp_13 : decode bO_topUp 13 = .ok (.iload_n 2, 1) := by decide +kernel
theorem dO_topUp_14 : decode bO_topUp 14 = .ok (.sipush 999, 3) := by decide +kernel
theorem dO_topUp_17 : decode bO_topUp 17 = .ok (.if_icmp .le 5, 3) := by decide +kernel
theorem dO_topUp_20 : decode bO_topUp 20 = .ok (.iconst (-1), 1) := by decide +kernel
theorem dO_topUp_21 : decode bO_topUp 21 = .ok (.ireturn, 1) := by decide +kernel
theorem dO_topUp_22 : decode bO_topUp 22 = .ok (.aload_n 0, 1) := by decide +kernel
theorem dO_topUp_23 : decode bO_topUp 23 = .ok (.getfield 18, 3) := by decide +kernel
theorem dO_topUp_26 : decode bO_topUp 26 = .ok (.iload_n 1, 1) := by decide +kernel
theorem dO_topUp_27 : decode bO_topUp 27 = .ok (.aaload, 1) := by decide +kernel
theorem dO_topUp_28 : decode bO_topUp 28 = .ok (.astore_n 3, 1) := by decide +kernel
theorem dO_topUp_29 : decode bO_topUp 29 = .ok (.aload_n 3, 1) := by decide +kernel
theorem dO_topUp_30 : decode bO_topUp 30 = .ok (.iconst 0, 1) := by decide +kernel
theorem dO_topUp_31 : decode bO_topUp 31 = .ok (.invokevirtual 77, 3) := by decide +kernel
theorem dO_topUp_34 : decode bO_topUp 34 = .ok (.iload_n 2, 1) := by decide +kernel
theorem dO_topUp_35 : decode bO_topUp 35 = .ok (.iadd, 1) := by decide +kernel
theorem dO_topUp_36 : decode bO_topUp 36 = .ok (.sipush 9999, 3) := by decide +kernel
theorem dO_topUp_39 : decode bO_topUp 39 = .ok (.if_icmp .le 5, 3) := by decide +kernel
theorem dO_topUp_42 : decode bO_topUp 42 = .ok (.iconst (-1), 1) := by decide +kernel
theorem dO_topUp_43 : decode bO_topUp 43 = .ok (.ireturn, 1) := by decide +kernel
theorem dO_topUp_44 : decode bO_topUp 44 = .ok (.aload_n 3, 1) := by decide +kernel
theorem dO_topUp_45 : decode bO_topUp 45 = .ok (.iload_n 2, 1) := by decide +kernel
theorem dO_topUp_46 : decode bO_topUp 46 = .ok (.aload_n 0, 1) := by decide +kernel
theorem dO_topUp_47 : decode bO_topUp 47 = .ok (.getfield 62, 3) := by decide +kernel
theorem dO_topUp_50 : decode bO_topUp 50 = .ok (.invokevirtual 102, 3) := by decide +kernel
theorem dO_topUp_53 : decode bO_topUp 53 = .ok (.aload_n 3, 1) := by decide +kernel
theorem dO_topUp_54 : decode bO_topUp 54 = .ok (.bipush 8, 2) := by decide +kernel
theorem dO_topUp_56 : decode bO_topUp 56 = .ok (.invokevirtual 89, 3) := by decide +kernel
theorem dO_topUp_59 : decode bO_topUp 59 = .ok (.aload_n 3, 1) := by decide +kernel
theorem dO_topUp_60 : decode bO_topUp 60 = .ok (.iconst 0, 1) := by decide +kernel
theorem dO_topUp_61 : decode bO_topUp 61 = .ok (.invokevirtual 77, 3) := by decide +kernel
theorem dO_topUp_64 : decode bO_topUp 64 = .ok (.istore 4, 2) := by decide +kernel
theorem dO_topUp_66 : decode bO_topUp 66 = .ok (.aload_n 0, 1) := by decide +kernel
theorem dO_topUp_67 : decode bO_topUp 67 = .ok (.getfield 24, 3) := by decide +kernel
theorem dO_topUp_70 : decode bO_topUp 70 = .ok (.iload_n 1, 1) := by decide +kernel
theorem dO_topUp_71 : decode bO_topUp 71 = .ok (.aaload, 1) := by decide +kernel
theorem dO_topUp_72 : decode bO_topUp 72 = .ok (.aload_n 3, 1) := by decide +kernel
theorem dO_topUp_73 : decode bO_topUp 73 = .ok (.invokevirtual 95, 3) := by decide +kernel
theorem dO_topUp_76 : decode bO_topUp 76 = .ok (.iload_n 2, 1) := by decide +kernel
theorem dO_topUp_77 : decode bO_topUp 77 = .ok (.iload 4, 2) := by decide +kernel
theorem dO_topUp_79 : decode bO_topUp 79 = .ok (.invokevirtual 105, 3) := by decide +kernel
theorem dO_topUp_82 : decode bO_topUp 82 = .ok (.iload 4, 2) := by decide +kernel
theorem dO_topUp_84 : decode bO_topUp 84 = .ok (.ireturn, 1) := by decide +kernel
theorem dC_draftTopUp_0 : decode bC_draftTopUp 0 = .ok (.aload_n 0, 1) := by decide +kernel
theorem dC_draftTopUp_1 : decode bC_draftTopUp 1 = .ok (.iload_n 2, 1) := by decide +kernel
theorem dC_draftTopUp_2 : decode bC_draftTopUp 2 = .ok (.invokevirtual 37, 3) := by decide +kernel
theorem dC_draftTopUp_5 : decode bC_draftTopUp 5 = .ok (.aload_n 0, 1) := by decide +kernel
theorem dC_draftTopUp_6 : decode bC_draftTopUp 6 = .ok (.getfield 16, 3) := by decide +kernel
theorem dC_draftTopUp_9 : decode bC_draftTopUp 9 = .ok (.iconst 0, 1) := by decide +kernel
theorem dC_draftTopUp_10 : decode bC_draftTopUp 10 = .ok (.dup2, 1) := by decide +kernel
theorem dC_draftTopUp_11 : decode bC_draftTopUp 11 = .ok (.iaload, 1) := by decide +kernel
theorem dC_draftTopUp_12 : decode bC_draftTopUp 12 = .ok (.iload_n 1, 1) := by decide +kernel
theorem dC_draftTopUp_13 : decode bC_draftTopUp 13 = .ok (.iadd, 1) := by decide +kernel
theorem dC_draftTopUp_14 : decode bC_draftTopUp 14 = .ok (.iastore, 1) := by decide +kernel
theorem dC_draftTopUp_15 : decode bC_draftTopUp 15 = .ok (.return_, 1) := by decide +kernel
theorem dA_enterTopUp_0 : decode bA_enterTopUp 0 = .ok (.aload_n 0, 1) := by decide +kernel
theorem dA_enterTopUp_1 : decode bA_enterTopUp 1 = .ok (.iload_n 1, 1) := by decide +kernel
theorem dA_enterTopUp_2 : decode bA_enterTopUp 2 = .ok (.iload_n 3, 1) := by decide +kernel
theorem dA_enterTopUp_3 : decode bA_enterTopUp 3 = .ok (.iload_n 2, 1) := by decide +kernel
theorem dA_enterTopUp_4 : decode bA_enterTopUp 4 = .ok (.isub, 1) := by decide +kernel
theorem dA_enterTopUp_5 : decode bA_enterTopUp 5 = .ok (.iload_n 3, 1) := by decide +kernel
theorem dA_enterTopUp_6 : decode bA_enterTopUp 6 = .ok (.invokevirtual 35, 3) := by decide +kernel
theorem dA_enterTopUp_9 : decode bA_enterTopUp 9 = .ok (.ifCond .eq 13, 3) := by decide +kernel
theorem dA_enterTopUp_12 : decode bA_enterTopUp 12 = .ok (.aload_n 0, 1) := by decide +kernel
theorem dA_enterTopUp_13 : decode bA_enterTopUp 13 = .ok (.dup, 1) := by decide +kernel
theorem dA_enterTopUp_14 : decode bA_enterTopUp 14 = .ok (.getfield 32, 3) := by decide +kernel
theorem dA_enterTopUp_17 : decode bA_enterTopUp 17 = .ok (.iload_n 2, 1) := by decide +kernel
theorem dA_enterTopUp_18 : decode bA_enterTopUp 18 = .ok (.iadd, 1) := by decide +kernel
theorem dA_enterTopUp_19 : decode bA_enterTopUp 19 = .ok (.putfield 32, 3) := by decide +kernel
theorem dA_enterTopUp_22 : decode bA_enterTopUp 22 = .ok (.return_, 1) := by decide +kernel
theorem dA_enter_0 : decode bA_enter 0 = .ok (.iload_n 1, 1) := by decide +kernel
theorem dA_enter_1 : decode bA_enter 1 = .ok (.iconst 1, 1) := by decide +kernel
theorem dA_enter_2 : decode bA_enter 2 = .ok (.if_icmp .lt 19, 3) := by decide +kernel
theorem dA_enter_5 : decode bA_enter 5 = .ok (.iload_n 1, 1) := by decide +kernel
theorem dA_enter_6 : decode bA_enter 6 = .ok (.sipush 512, 3) := by decide +kernel
theorem dA_enter_9 : decode bA_enter 9 = .ok (.if_icmp .gt 12, 3) := by decide +kernel
theorem dA_enter_12 : decode bA_enter 12 = .ok (.aload_n 0, 1) := by decide +kernel
theorem dA_enter_13 : decode bA_enter 13 = .ok (.getfield 9, 3) := by decide +kernel
theorem dA_enter_16 : decode bA_enter 16 = .ok (.iload_n 1, 1) := by decide +kernel
theorem dA_enter_17 : decode bA_enter 17 = .ok (.baload, 1) := by decide +kernel
theorem dA_enter_18 : decode bA_enter 18 = .ok (.ifCond .eq 5, 3) := by decide +kernel
theorem dA_enter_21 : decode bA_enter 21 = .ok (.iconst 0, 1) := by decide +kernel
theorem dA_enter_22 : decode bA_enter 22 = .ok (.ireturn, 1) := by decide +kernel
theorem dA_enter_23 : decode bA_enter 23 = .ok (.aload_n 0, 1) := by decide +kernel
theorem dA_enter_24 : decode bA_enter 24 = .ok (.getfield 9, 3) := by decide +kernel
theorem dA_enter_27 : decode bA_enter 27 = .ok (.iload_n 1, 1) := by decide +kernel
theorem dA_enter_28 : decode bA_enter 28 = .ok (.iconst 1, 1) := by decide +kernel
theorem dA_enter_29 : decode bA_enter 29 = .ok (.bastore, 1) := by decide +kernel
theorem dA_enter_30 : decode bA_enter 30 = .ok (.aload_n 0, 1) := by decide +kernel
theorem dA_enter_31 : decode bA_enter 31 = .ok (.getfield 15, 3) := by decide +kernel
theorem dA_enter_34 : decode bA_enter 34 = .ok (.iload_n 1, 1) := by decide +kernel
theorem dA_enter_35 : decode bA_enter 35 = .ok (.iload_n 2, 1) := by decide +kernel
theorem dA_enter_36 : decode bA_enter 36 = .ok (.iastore, 1) := by decide +kernel
theorem dA_enter_37 : decode bA_enter 37 = .ok (.aload_n 0, 1) := by decide +kernel
theorem dA_enter_38 : decode bA_enter 38 = .ok (.getfield 19, 3) := by decide +kernel
theorem dA_enter_41 : decode bA_enter 41 = .ok (.iload_n 1, 1) := by decide +kernel
theorem dA_enter_42 : decode bA_enter 42 = .ok (.iload_n 3, 1) := by decide +kernel
theorem dA_enter_43 : decode bA_enter 43 = .ok (.iastore, 1) := by decide +kernel
theorem dA_enter_44 : decode bA_enter 44 = .ok (.aload_n 0, 1) := by decide +kernel
theorem dA_enter_45 : decode bA_enter 45 = .ok (.dup, 1) := by decide +kernel
theorem dA_enter_46 : decode bA_enter 46 = .ok (.getfield 22, 3) := by decide +kernel
theorem dA_enter_49 : decode bA_enter 49 = .ok (.iconst 1, 1) := by decide +kernel
theorem dA_enter_50 : decode bA_enter 50 = .ok (.iadd, 1) := by decide +kernel
theorem dA_enter_51 : decode bA_enter 51 = .ok (.putfield 22, 3) := by decide +kernel
theorem dA_enter_54 : decode bA_enter 54 = .ok (.aload_n 0, 1) := by decide +kernel
theorem dA_enter_55 : decode bA_enter 55 = .ok (.aload_n 0, 1) := by decide +kernel
theorem dA_enter_56 : decode bA_enter 56 = .ok (.getfield 26, 3) := by decide +kernel
theorem dA_enter_59 : decode bA_enter 59 = .ok (.iload_n 1, 1) := by decide +kernel
theorem dA_enter_60 : decode bA_enter 60 = .ok (.invokestatic 39, 3) := by decide +kernel
theorem dA_enter_63 : decode bA_enter 63 = .ok (.putfield 26, 3) := by decide +kernel
theorem dA_enter_66 : decode bA_enter 66 = .ok (.iconst 1, 1) := by decide +kernel
theorem dA_enter_67 : decode bA_enter 67 = .ok (.ireturn, 1) := by decide +kernel
theorem dO_upload_0 : decode bO_upload 0 = .ok (.iload_n 1, 1) := by decide +kernel
theorem dO_upload_1 : decode bO_upload 1 = .ok (.iconst 4, 1) := by decide +kernel
theorem dO_upload_2 : decode bO_upload 2 = .ok (.invokestatic 43, 3) := by decide +kernel
theorem dO_upload_5 : decode bO_upload 5 = .ok (.ifCond .ne 5, 3) := by decide +kernel
theorem dO_upload_8 : decode bO_upload 8 = .ok (.iconst (-1), 1) := by decide +kernel
theorem dO_upload_9 : decode bO_upload 9 = .ok (.ireturn, 1) := by decide +kernel
theorem dO_upload_10 : decode bO_upload 10 = .ok (.iload_n 2, 1) := by decide +kernel
theorem dO_upload_11 : decode bO_upload 11 = .ok (.ifCond .eq 5, 3) := by decide +kernel
theorem dO_upload_14 : decode bO_upload 14 = .ok (.iconst 0, 1) := by decide +kernel
theorem dO_upload_15 : decode bO_upload 15 = .ok (.ireturn, 1) := by decide +kernel
theorem dO_upload_16 : decode bO_upload 16 = .ok (.aload_n 0, 1) := by decide +kernel
theorem dO_upload_17 : decode bO_upload 17 = .ok (.getfield 30, 3) := by decide +kernel
theorem dO_upload_20 : decode bO_upload 20 = .ok (.iload_n 1, 1) := by decide +kernel
theorem dO_upload_21 : decode bO_upload 21 = .ok (.aaload, 1) := by decide +kernel
theorem dO_upload_22 : decode bO_upload 22 = .ok (.astore_n 3, 1) := by decide +kernel
theorem dO_upload_23 : decode bO_upload 23 = .ok (.aload_n 3, 1) := by decide +kernel
theorem dO_upload_24 : decode bO_upload 24 = .ok (.invokevirtual 108, 3) := by decide +kernel
theorem dO_upload_27 : decode bO_upload 27 = .ok (.istore 4, 2) := by decide +kernel
theorem dO_upload_29 : decode bO_upload 29 = .ok (.iconst 0, 1) := by decide +kernel
theorem dO_upload_30 : decode bO_upload 30 = .ok (.istore 5, 2) := by decide +kernel
theorem dO_upload_32 : decode bO_upload 32 = .ok (.iload 5, 2) := by decide +kernel
theorem dO_upload_34 : decode bO_upload 34 = .ok (.iload 4, 2) := by decide +kernel
theorem dO_upload_36 : decode bO_upload 36 = .ok (.if_icmp .ge 16, 3) := by decide +kernel
theorem dO_upload_39 : decode bO_upload 39 = .ok (.aload_n 0, 1) := by decide +kernel
theorem dO_upload_40 : decode bO_upload 40 = .ok (.iload_n 1, 1) := by decide +kernel
theorem dO_upload_41 : decode bO_upload 41 = .ok (.iload 5, 2) := by decide +kernel
theorem dO_upload_43 : decode bO_upload 43 = .ok (.invokevirtual 111, 3) := by decide +kernel
theorem dO_upload_46 : decode bO_upload 46 = .ok (.iinc 5 1, 3) := by decide +kernel
theorem dO_upload_49 : decode bO_upload 49 = .ok (.goto (-17), 3) := by decide +kernel
theorem dO_upload_52 : decode bO_upload 52 = .ok (.aload_n 3, 1) := by decide +kernel
theorem dO_upload_53 : decode bO_upload 53 = .ok (.invokevirtual 114, 3) := by decide +kernel
theorem dO_upload_56 : decode bO_upload 56 = .ok (.aload_n 3, 1) := by decide +kernel
theorem dO_upload_57 : decode bO_upload 57 = .ok (.aload_n 0, 1) := by decide +kernel
theorem dO_upload_58 : decode bO_upload 58 = .ok (.getfield 117, 3) := by decide +kernel
theorem dO_upload_61 : decode bO_upload 61 = .ok (.invokevirtual 120, 3) := by decide +kernel
theorem dO_upload_64 : decode bO_upload 64 = .ok (.iload 4, 2) := by decide +kernel
theorem dO_upload_66 : decode bO_upload 66 = .ok (.ireturn, 1) := by decide +kernel
theorem dV_logSize_0 : decode bV_logSize 0 = .ok (.aload_n 0, 1) := by decide +kernel
theorem dV_logSize_1 : decode bV_logSize 1 = .ok (.getfield 27, 3) := by decide +kernel
theorem dV_logSize_4 : decode bV_logSize 4 = .ok (.ireturn, 1) := by decide +kernel
theorem dO_receiveEntry_0 : decode bO_receiveEntry 0 = .ok (.aload_n 0, 1) := by decide +kernel
theorem dO_receiveEntry_1 : decode bO_receiveEntry 1 = .ok (.getfield 30, 3) := by decide +kernel
theorem dO_receiveEntry_4 : decode bO_receiveEntry 4 = .ok (.iload_n 1, 1) := by decide +kernel
theorem dO_receiveEntry_5 : decode bO_receiveEntry 5 = .ok (.aaload, 1) := by decide +kernel
theorem dO_receiveEntry_6 : decode bO_receiveEntry 6 = .ok (.astore_n 3, 1) := by decide +kernel
theorem dO_receiveEntry_7 : decode bO_receiveEntry 7 = .ok (.aload_n 3, 1) := by decide +kernel
theorem dO_receiveEntry_8 : decode bO_receiveEntry 8 = .ok (.iload_n 2, 1) := by decide +kernel
theorem dO_receiveEntry_9 : decode bO_receiveEntry 9 = .ok (.iconst 0, 1) := by decide +kernel
theorem dO_receiveEntry_10 : decode bO_receiveEntry 10 = .ok (.invokevirtual 130, 3) := by decide +kernel
theorem dO_receiveEntry_13 : decode bO_receiveEntry 13 = .ok (.istore 4, 2) := by decide +kernel
theorem dO_receiveEntry_15 : decode bO_receiveEntry 15 = .ok (.iload 4, 2) := by decide +kernel
theorem dO_receiveEntry_17 : decode bO_receiveEntry 17 = .ok (.iconst 4, 1) := by decide +kernel
theorem dO_receiveEntry_18 : decode bO_receiveEntry 18 = .ok (.invokestatic 43, 3) := by decide +kernel
theorem dO_receiveEntry_21 : decode bO_receiveEntry 21 = .ok (.ifCond .ne 4, 3) := by decide +kernel
theorem dO_receiveEntry_24 : decode bO_receiveEntry 24 = .ok (.return_, 1) := by decide +kernel
theorem dO_receiveEntry_25 : decode bO_receiveEntry 25 = .ok (.aload_n 3, 1) := by decide +kernel
theorem dO_receiveEntry_26 : decode bO_receiveEntry 26 = .ok (.iload_n 2, 1) := by decide +kernel
theorem dO_receiveEntry_27 : decode bO_receiveEntry 27 = .ok (.iconst 2, 1) := by decide +kernel
theorem dO_receiveEntry_28 : decode bO_receiveEntry 28 = .ok (.invokevirtual 130, 3) := by decide +kernel
theorem dO_receiveEntry_31 : decode bO_receiveEntry 31 = .ok (.istore 5, 2) := by decide +kernel
theorem dO_receiveEntry_33 : decode bO_receiveEntry 33 = .ok (.aload_n 0, 1) := by decide +kernel
theorem dO_receiveEntry_34 : decode bO_receiveEntry 34 = .ok (.getfield 24, 3) := by decide +kernel
theorem dO_receiveEntry_37 : decode bO_receiveEntry 37 = .ok (.iload 4, 2) := by decide +kernel
theorem dO_receiveEntry_39 : decode bO_receiveEntry 39 = .ok (.aaload, 1) := by decide +kernel
theorem dO_receiveEntry_40 : decode bO_receiveEntry 40 = .ok (.aload_n 3, 1) := by decide +kernel
theorem dO_receiveEntry_41 : decode bO_receiveEntry 41 = .ok (.iload_n 2, 1) := by decide +kernel
theorem dO_receiveEntry_42 : decode bO_receiveEntry 42 = .ok (.iconst 1, 1) := by decide +kernel
theorem dO_receiveEntry_43 : decode bO_receiveEntry 43 = .ok (.invokevirtual 130, 3) := by decide +kernel
theorem dO_receiveEntry_46 : decode bO_receiveEntry 46 = .ok (.iload 5, 2) := by decide +kernel
theorem dO_receiveEntry_48 : decode bO_receiveEntry 48 = .ok (.aload_n 3, 1) := by decide +kernel
theorem dO_receiveEntry_49 : decode bO_receiveEntry 49 = .ok (.iload_n 2, 1) := by decide +kernel
theorem dO_receiveEntry_50 : decode bO_receiveEntry 50 = .ok (.iconst 3, 1) := by decide +kernel
theorem dO_receiveEntry_51 : decode bO_receiveEntry 51 = .ok (.invokevirtual 130, 3) := by decide +kernel
theorem dO_receiveEntry_54 : decode bO_receiveEntry 54 = .ok (.invokevirtual 159, 3) := by decide +kernel
theorem dO_receiveEntry_57 : decode bO_receiveEntry 57 = .ok (.aload_n 0, 1) := by decide +kernel
theorem dO_receiveEntry_58 : decode bO_receiveEntry 58 = .ok (.getfield 34, 3) := by decide +kernel
theorem dO_receiveEntry_61 : decode bO_receiveEntry 61 = .ok (.iload_n 1, 1) := by decide +kernel
theorem dO_receiveEntry_62 : decode bO_receiveEntry 62 = .ok (.dup2, 1) := by decide +kernel
theorem dO_receiveEntry_63 : decode bO_receiveEntry 63 = .ok (.iaload, 1) := by decide +kernel
theorem dO_receiveEntry_64 : decode bO_receiveEntry 64 = .ok (.iload 5, 2) := by decide +kernel
theorem dO_receiveEntry_66 : decode bO_receiveEntry 66 = .ok (.iadd, 1) := by decide +kernel
theorem dO_receiveEntry_67 : decode bO_receiveEntry 67 = .ok (.iastore, 1) := by decide +kernel
theorem dO_receiveEntry_68 : decode bO_receiveEntry 68 = .ok (.return_, 1) := by decide +kernel
theorem dV_readEntry_0 : decode bV_readEntry 0 = .ok (.aload_n 0, 1) := by decide +kernel
theorem dV_readEntry_1 : decode bV_readEntry 1 = .ok (.getfield 11, 3) := by decide +kernel
theorem dV_readEntry_4 : decode bV_readEntry 4 = .ok (.iload_n 1, 1) := by decide +kernel
theorem dV_readEntry_5 : decode bV_readEntry 5 = .ok (.aaload, 1) := by decide +kernel
theorem dV_readEntry_6 : decode bV_readEntry 6 = .ok (.iload_n 2, 1) := by decide +kernel
theorem dV_readEntry_7 : decode bV_readEntry 7 = .ok (.iaload, 1) := by decide +kernel
theorem dV_readEntry_8 : decode bV_readEntry 8 = .ok (.ireturn, 1) := by decide +kernel
theorem dA_enterCharge_0 : decode bA_enterCharge 0 = .ok (.aload_n 0, 1) := by decide +kernel
theorem dA_enterCharge_1 : decode bA_enterCharge 1 = .ok (.iload_n 1, 1) := by decide +kernel
theorem dA_enterCharge_2 : decode bA_enterCharge 2 = .ok (.iload_n 3, 1) := by decide +kernel
theorem dA_enterCharge_3 : decode bA_enterCharge 3 = .ok (.iload_n 2, 1) := by decide +kernel
theorem dA_enterCharge_4 : decode bA_enterCharge 4 = .ok (.iadd, 1) := by decide +kernel
theorem dA_enterCharge_5 : decode bA_enterCharge 5 = .ok (.iload_n 3, 1) := by decide +kernel
theorem dA_enterCharge_6 : decode bA_enterCharge 6 = .ok (.invokevirtual 35, 3) := by decide +kernel
theorem dA_enterCharge_9 : decode bA_enterCharge 9 = .ok (.ifCond .eq 13, 3) := by decide +kernel
theorem dA_enterCharge_12 : decode bA_enterCharge 12 = .ok (.aload_n 0, 1) := by decide +kernel
theorem dA_enterCharge_13 : decode bA_enterCharge 13 = .ok (.dup, 1) := by decide +kernel
theorem dA_enterCharge_14 : decode bA_enterCharge 14 = .ok (.getfield 29, 3) := by decide +kernel
theorem dA_enterCharge_17 : decode bA_enterCharge 17 = .ok (.iload_n 2, 1) := by decide +kernel
theorem dA_enterCharge_18 : decode bA_enterCharge 18 = .ok (.iadd, 1) := by decide +kernel
theorem dA_enterCharge_19 : decode bA_enterCharge 19 = .ok (.putfield 29, 3) := by decide +kernel
theorem dA_enterCharge_22 : decode bA_enterCharge 22 = .ok (.return_, 1) := by decide +kernel
theorem dV_emptyLog_0 : decode bV_emptyLog 0 = .ok (.aload_n 0, 1) := by decide +kernel
theorem dV_emptyLog_1 : decode bV_emptyLog 1 = .ok (.iconst 0, 1) := by decide +kernel
theorem dV_emptyLog_2 : decode bV_emptyLog 2 = .ok (.putfield 27, 3) := by decide +kernel
theorem dV_emptyLog_5 : decode bV_emptyLog 5 = .ok (.return_, 1) := by decide +kernel
theorem dV_takeDenied_0 : decode bV_takeDenied 0 = .ok (.aload_n 0, 1) := by decide +kernel
theorem dV_takeDenied_1 : decode bV_takeDenied 1 = .ok (.iload_n 1, 1) := by decide +kernel
theorem dV_takeDenied_2 : decode bV_takeDenied 2 = .ok (.putfield 24, 3) := by decide +kernel
theorem dV_takeDenied_5 : decode bV_takeDenied 5 = .ok (.return_, 1) := by decide +kernel
theorem dO_deny_0 : decode bO_deny 0 = .ok (.iload_n 1, 1) := by decide +kernel
theorem dO_deny_1 : decode bO_deny 1 = .ok (.iconst 4, 1) := by decide +kernel
theorem dO_deny_2 : decode bO_deny 2 = .ok (.invokestatic 43, 3) := by decide +kernel
theorem dO_deny_5 : decode bO_deny 5 = .ok (.ifCond .ne 5, 3) := by decide +kernel
theorem dO_deny_8 : decode bO_deny 8 = .ok (.iconst (-1), 1) := by decide +kernel
theorem dO_deny_9 : decode bO_deny 9 = .ok (.ireturn, 1) := by decide +kernel
theorem dO_deny_10 : decode bO_deny 10 = .ok (.aload_n 0, 1) := by decide +kernel
theorem dO_deny_11 : decode bO_deny 11 = .ok (.iload_n 2, 1) := by decide +kernel
theorem dO_deny_12 : decode bO_deny 12 = .ok (.ifCond .eq 14, 3) := by decide +kernel
theorem dO_deny_15 : decode bO_deny 15 = .ok (.aload_n 0, 1) := by decide +kernel
theorem dO_deny_16 : decode bO_deny 16 = .ok (.getfield 117, 3) := by decide +kernel
theorem dO_deny_19 : decode bO_deny 19 = .ok (.iconst 1, 1) := by decide +kernel
theorem dO_deny_20 : decode bO_deny 20 = .ok (.iload_n 1, 1) := by decide +kernel
theorem dO_deny_21 : decode bO_deny 21 = .ok (.ishl, 1) := by decide +kernel
theorem dO_deny_22 : decode bO_deny 22 = .ok (.ior, 1) := by decide +kernel
theorem dO_deny_23 : decode bO_deny 23 = .ok (.goto 13, 3) := by decide +kernel
theorem dO_deny_26 : decode bO_deny 26 = .ok (.aload_n 0, 1) := by decide +kernel
theorem dO_deny_27 : decode bO_deny 27 = .ok (.getfield 117, 3) := by decide +kernel
theorem dO_deny_30 : decode bO_deny 30 = .ok (.iconst 1, 1) := by decide +kernel
theorem dO_deny_31 : decode bO_deny 31 = .ok (.iload_n 1, 1) := by decide +kernel
theorem dO_deny_32 : decode bO_deny 32 = .ok (.ishl, 1) := by decide +kernel
theorem dO_deny_33 : decode bO_deny 33 = .ok (.iconst (-1), 1) := by decide +kernel
theorem dO_deny_34 : decode bO_deny 34 = .ok (.ixor, 1) := by decide +kernel
theorem dO_deny_35 : decode bO_deny 35 = .ok (.iand, 1) := by decide +kernel
theorem dO_deny_36 : decode bO_deny 36 = .ok (.putfield 117, 3) := by decide +kernel
theorem dO_deny_39 : decode bO_deny 39 = .ok (.iconst 0, 1) := by decide +kernel
theorem dO_deny_40 : decode bO_deny 40 = .ok (.ireturn, 1) := by decide +kernel
theorem dO_word_0 : decode bO_word 0 = .ok (.iload_n 1, 1) := by decide +kernel
theorem dO_word_1 : decode bO_word 1 = .ok (.iconst 4, 1) := by decide +kernel
theorem dO_word_2 : decode bO_word 2 = .ok (.invokestatic 43, 3) := by decide +kernel
theorem dO_word_5 : decode bO_word 5 = .ok (.ifCond .eq 20, 3) := by decide +kernel
theorem dO_word_8 : decode bO_word 8 = .ok (.iload_n 2, 1) := by decide +kernel
theorem dO_word_9 : decode bO_word 9 = .ok (.iconst 2, 1) := by decide +kernel
theorem dO_word_10 : decode bO_word 10 = .ok (.invokestatic 43, 3) := by decide +kernel
theorem dO_word_13 : decode bO_word 13 = .ok (.ifCond .eq 12, 3) := by decide +kernel
theorem dO_word_16 : decode bO_word 16 = .ok (.iload_n 3, 1) := by decide +kernel
theorem dO_word_17 : decode bO_word 17 = .ok (.bipush 8, 2) := by decide +kernel
theorem dO_word_19 : decode bO_word 19 = .ok (.invokestatic 43, 3) := by decide +kernel
theorem dO_word_22 : decode bO_word 22 = .ok (.ifCond .ne 5, 3) := by decide +kernel
theorem dO_word_25 : decode bO_word 25 = .ok (.iconst (-1), 1) := by decide +kernel
theorem dO_word_26 : decode bO_word 26 = .ok (.ireturn, 1) := by decide +kernel
theorem dO_word_27 : decode bO_word 27 = .ok (.aload_n 0, 1) := by decide +kernel
theorem dO_word_28 : decode bO_word 28 = .ok (.getfield 18, 3) := by decide +kernel
theorem dO_word_31 : decode bO_word 31 = .ok (.iload_n 1, 1) := by decide +kernel
theorem dO_word_32 : decode bO_word 32 = .ok (.aaload, 1) := by decide +kernel
theorem dO_word_33 : decode bO_word 33 = .ok (.iload_n 2, 1) := by decide +kernel
theorem dO_word_34 : decode bO_word 34 = .ok (.iload_n 3, 1) := by decide +kernel
theorem dO_word_35 : decode bO_word 35 = .ok (.invokevirtual 123, 3) := by decide +kernel
theorem dO_word_38 : decode bO_word 38 = .ok (.ireturn, 1) := by decide +kernel
theorem dC_readCopy_0 : decode bC_readCopy 0 = .ok (.aload_n 0, 1) := by decide +kernel
theorem dC_readCopy_1 : decode bC_readCopy 1 = .ok (.getfield 11, 3) := by decide +kernel
theorem dC_readCopy_4 : decode bC_readCopy 4 = .ok (.iload_n 1, 1) := by decide +kernel
theorem dC_readCopy_5 : decode bC_readCopy 5 = .ok (.aaload, 1) := by decide +kernel
theorem dC_readCopy_6 : decode bC_readCopy 6 = .ok (.iload_n 2, 1) := by decide +kernel
theorem dC_readCopy_7 : decode bC_readCopy 7 = .ok (.iaload, 1) := by decide +kernel
theorem dC_readCopy_8 : decode bC_readCopy 8 = .ok (.ireturn, 1) := by decide +kernel
theorem dO_card_0 : decode bO_card 0 = .ok (.iload_n 1, 1) := by decide +kernel
theorem dO_card_1 : decode bO_card 1 = .ok (.iconst 4, 1) := by decide +kernel
theorem dO_card_2 : decode bO_card 2 = .ok (.invokestatic 43, 3) := by decide +kernel
theorem dO_card_5 : decode bO_card 5 = .ok (.ifCond .ne 5, 3) := by decide +kernel
theorem dO_card_8 : decode bO_card 8 = .ok (.iconst (-1), 1) := by decide +kernel
theorem dO_card_9 : decode bO_card 9 = .ok (.ireturn, 1) := by decide +kernel
theorem dO_card_10 : decode bO_card 10 = .ok (.aload_n 0, 1) := by decide +kernel
theorem dO_card_11 : decode bO_card 11 = .ok (.getfield 18, 3) := by decide +kernel
theorem dO_card_14 : decode bO_card 14 = .ok (.iload_n 1, 1) := by decide +kernel
theorem dO_card_15 : decode bO_card 15 = .ok (.aaload, 1) := by decide +kernel
theorem dO_card_16 : decode bO_card 16 = .ok (.astore_n 3, 1) := by decide +kernel
theorem dO_card_17 : decode bO_card 17 = .ok (.iload_n 2, 1) := by decide +kernel
theorem dO_card_18 : decode bO_card 18 = .ok (.tableswitch 100 0 7 #[46, 52, 58, 64, 70, 76, 82, 87], 46) := by decide +kernel
theorem dO_card_64 : decode bO_card 64 = .ok (.aload_n 3, 1) := by decide +kernel
theorem dO_card_65 : decode bO_card 65 = .ok (.iconst 0, 1) := by decide +kernel
theorem dO_card_66 : decode bO_card 66 = .ok (.invokevirtual 77, 3) := by decide +kernel
theorem dO_card_69 : decode bO_card 69 = .ok (.ireturn, 1) := by decide +kernel
theorem dO_card_70 : decode bO_card 70 = .ok (.aload_n 3, 1) := by decide +kernel
theorem dO_card_71 : decode bO_card 71 = .ok (.iconst 1, 1) := by decide +kernel
theorem dO_card_72 : decode bO_card 72 = .ok (.invokevirtual 77, 3) := by decide +kernel
theorem dO_card_75 : decode bO_card 75 = .ok (.ireturn, 1) := by decide +kernel
theorem dO_card_76 : decode bO_card 76 = .ok (.aload_n 3, 1) := by decide +kernel
theorem dO_card_77 : decode bO_card 77 = .ok (.iconst 2, 1) := by decide +kernel
theorem dO_card_78 : decode bO_card 78 = .ok (.invokevirtual 77, 3) := by decide +kernel
theorem dO_card_81 : decode bO_card 81 = .ok (.ireturn, 1) := by decide +kernel
theorem dO_card_82 : decode bO_card 82 = .ok (.aload_n 3, 1) := by decide +kernel
theorem dO_card_83 : decode bO_card 83 = .ok (.iconst 3, 1) := by decide +kernel
theorem dO_card_84 : decode bO_card 84 = .ok (.invokevirtual 77, 3) := by decide +kernel
theorem dO_card_87 : decode bO_card 87 = .ok (.ireturn, 1) := by decide +kernel
theorem dO_card_88 : decode bO_card 88 = .ok (.aload_n 3, 1) := by decide +kernel
theorem dO_card_89 : decode bO_card 89 = .ok (.iconst 4, 1) := by decide +kernel
theorem dO_card_90 : decode bO_card 90 = .ok (.invokevirtual 77, 3) := by decide +kernel
theorem dO_card_93 : decode bO_card 93 = .ok (.ireturn, 1) := by decide +kernel
theorem dO_card_94 : decode bO_card 94 = .ok (.aload_n 3, 1) := by decide +kernel
theorem dO_card_95 : decode bO_card 95 = .ok (.iconst 5, 1) := by decide +kernel
theorem dO_card_96 : decode bO_card 96 = .ok (.invokevirtual 77, 3) := by decide +kernel
theorem dO_card_99 : decode bO_card 99 = .ok (.ireturn, 1) := by decide +kernel
theorem dO_card_100 : decode bO_card 100 = .ok (.aload_n 3, 1) := by decide +kernel
theorem dO_card_101 : decode bO_card 101 = .ok (.invokevirtual 95, 3) := by decide +kernel
theorem dO_card_104 : decode bO_card 104 = .ok (.ireturn, 1) := by decide +kernel
theorem dO_card_105 : decode bO_card 105 = .ok (.aload_n 3, 1) := by decide +kernel
theorem dO_card_106 : decode bO_card 106 = .ok (.aload_n 0, 1) := by decide +kernel
theorem dO_card_107 : decode bO_card 107 = .ok (.getfield 62, 3) := by decide +kernel
theorem dO_card_110 : decode bO_card 110 = .ok (.sipush 1440, 3) := by decide +kernel
theorem dO_card_113 : decode bO_card 113 = .ok (.idiv, 1) := by decide +kernel
theorem dO_card_114 : decode bO_card 114 = .ok (.invokevirtual 127, 3) := by decide +kernel
theorem dO_card_117 : decode bO_card 117 = .ok (.ireturn, 1) := by decide +kernel
theorem dO_card_118 : decode bO_card 118 = .ok (.iconst (-1), 1) := by decide +kernel
theorem dO_card_119 : decode bO_card 119 = .ok (.ireturn, 1) := by decide +kernel
theorem dO_logged_0 : decode bO_logged 0 = .ok (.iload_n 1, 1) := by decide +kernel
theorem dO_logged_1 : decode bO_logged 1 = .ok (.iconst 4, 1) := by decide +kernel
theorem dO_logged_2 : decode bO_logged 2 = .ok (.invokestatic 43, 3) := by decide +kernel
theorem dO_logged_5 : decode bO_logged 5 = .ok (.ifCond .eq 11, 3) := by decide +kernel
theorem dO_logged_8 : decode bO_logged 8 = .ok (.iload_n 3, 1) := by decide +kernel
theorem dO_logged_9 : decode bO_logged 9 = .ok (.iconst 4, 1) := by decide +kernel
theorem dO_logged_10 : decode bO_logged 10 = .ok (.invokestatic 43, 3) := by decide +kernel
theorem dO_logged_13 : decode bO_logged 13 = .ok (.ifCond .ne 5, 3) := by decide +kernel
theorem dO_logged_16 : decode bO_logged 16 = .ok (.iconst (-1), 1) := by decide +kernel
theorem dO_logged_17 : decode bO_logged 17 = .ok (.ireturn, 1) := by decide +kernel
theorem dO_logged_18 : decode bO_logged 18 = .ok (.aload_n 0, 1) := by decide +kernel
theorem dO_logged_19 : decode bO_logged 19 = .ok (.getfield 30, 3) := by decide +kernel
theorem dO_logged_22 : decode bO_logged 22 = .ok (.iload_n 1, 1) := by decide +kernel
theorem dO_logged_23 : decode bO_logged 23 = .ok (.aaload, 1) := by decide +kernel
theorem dO_logged_24 : decode bO_logged 24 = .ok (.astore 4, 2) := by decide +kernel
theorem dO_logged_26 : decode bO_logged 26 = .ok (.iload_n 2, 1) := by decide +kernel
theorem dO_logged_27 : decode bO_logged 27 = .ok (.aload 4, 2) := by decide +kernel
theorem dO_logged_29 : decode bO_logged 29 = .ok (.invokevirtual 108, 3) := by decide +kernel
theorem dO_logged_32 : decode bO_logged 32 = .ok (.invokestatic 43, 3) := by decide +kernel
theorem dO_logged_35 : decode bO_logged 35 = .ok (.ifCond .eq 13, 3) := by decide +kernel
theorem dO_logged_38 : decode bO_logged 38 = .ok (.aload 4, 2) := by decide +kernel
theorem dO_logged_40 : decode bO_logged 40 = .ok (.iload_n 2, 1) := by decide +kernel
theorem dO_logged_41 : decode bO_logged 41 = .ok (.iload_n 3, 1) := by decide +kernel
theorem dO_logged_42 : decode bO_logged 42 = .ok (.invokevirtual 130, 3) := by decide +kernel
theorem dO_logged_45 : decode bO_logged 45 = .ok (.goto 4, 3) := by decide +kernel
theorem dO_logged_48 : decode bO_logged 48 = .ok (.iconst (-1), 1) := by decide +kernel
theorem dO_logged_49 : decode bO_logged 49 = .ok (.ireturn, 1) := by decide +kernel
theorem dO_office_0 : decode bO_office 0 = .ok (.iload_n 1, 1) := by decide +kernel
theorem dO_office_1 : decode bO_office 1 = .ok (.iconst 4, 1) := by decide +kernel
theorem dO_office_2 : decode bO_office 2 = .ok (.invokestatic 43, 3) := by decide +kernel
theorem dO_office_5 : decode bO_office 5 = .ok (.ifCond .ne 5, 3) := by decide +kernel
theorem dO_office_8 : decode bO_office 8 = .ok (.iconst (-1), 1) := by decide +kernel
theorem dO_office_9 : decode bO_office 9 = .ok (.ireturn, 1) := by decide +kernel
theorem dO_office_10 : decode bO_office 10 = .ok (.aload_n 0, 1) := by decide +kernel
theorem dO_office_11 : decode bO_office 11 = .ok (.getfield 24, 3) := by decide +kernel
theorem dO_office_14 : decode bO_office 14 = .ok (.iload_n 1, 1) := by decide +kernel
theorem dO_office_15 : decode bO_office 15 = .ok (.aaload, 1) := by decide +kernel
theorem dO_office_16 : decode bO_office 16 = .ok (.astore_n 3, 1) := by decide +kernel
theorem dO_office_17 : decode bO_office 17 = .ok (.iload_n 2, 1) := by decide +kernel
theorem dO_office_18 : decode bO_office 18 = .ok (.tableswitch 68 0 5 #[38, 43, 48, 53, 58, 63], 38) := by decide +kernel
theorem dO_office_56 : decode bO_office 56 = .ok (.aload_n 3, 1) := by decide +kernel
theorem dO_office_57 : decode bO_office 57 = .ok (.invokevirtual 133, 3) := by decide +kernel
theorem dO_office_60 : decode bO_office 60 = .ok (.ireturn, 1) := by decide +kernel
theorem dO_office_61 : decode bO_office 61 = .ok (.aload_n 3, 1) := by decide +kernel
theorem dO_office_62 : decode bO_office 62 = .ok (.invokevirtual 136, 3) := by decide +kernel
theorem dO_office_65 : decode bO_office 65 = .ok (.ireturn, 1) := by decide +kernel
theorem dO_office_66 : decode bO_office 66 = .ok (.aload_n 3, 1) := by decide +kernel
theorem dO_office_67 : decode bO_office 67 = .ok (.invokevirtual 139, 3) := by decide +kernel
theorem dO_office_70 : decode bO_office 70 = .ok (.ireturn, 1) := by decide +kernel
theorem dO_office_71 : decode bO_office 71 = .ok (.aload_n 3, 1) := by decide +kernel
theorem dO_office_72 : decode bO_office 72 = .ok (.invokevirtual 142, 3) := by decide +kernel
theorem dO_office_75 : decode bO_office 75 = .ok (.ireturn, 1) := by decide +kernel
theorem dO_office_76 : decode bO_office 76 = .ok (.aload_n 3, 1) := by decide +kernel
theorem dO_office_77 : decode bO_office 77 = .ok (.invokevirtual 145, 3) := by decide +kernel
theorem dO_office_80 : decode bO_office 80 = .ok (.ireturn, 1) := by decide +kernel
theorem dO_office_81 : decode bO_office 81 = .ok (.aload_n 3, 1) := by decide +kernel
theorem dO_office_82 : decode bO_office 82 = .ok (.invokevirtual 148, 3) := by decide +kernel
theorem dO_office_85 : decode bO_office 85 = .ok (.ireturn, 1) := by decide +kernel
theorem dO_office_86 : decode bO_office 86 = .ok (.iconst (-1), 1) := by decide +kernel
theorem dO_office_87 : decode bO_office 87 = .ok (.ireturn, 1) := by decide +kernel
theorem dA_known_0 : decode bA_known 0 = .ok (.aload_n 0, 1) := by decide +kernel
theorem dA_known_1 : decode bA_known 1 = .ok (.getfield 22, 3) := by decide +kernel
theorem dA_known_4 : decode bA_known 4 = .ok (.ireturn, 1) := by decide +kernel
theorem dA_greatestCounter_0 : decode bA_greatestCounter 0 = .ok (.aload_n 0, 1) := by decide +kernel
theorem dA_greatestCounter_1 : decode bA_greatestCounter 1 = .ok (.getfield 26, 3) := by decide +kernel
theorem dA_greatestCounter_4 : decode bA_greatestCounter 4 = .ok (.ireturn, 1) := by decide +kernel
theorem dA_missing_0 : decode bA_missing 0 = .ok (.aload_n 0, 1) := by decide +kernel
theorem dA_missing_1 : decode bA_missing 1 = .ok (.getfield 26, 3) := by decide +kernel
theorem dA_missing_4 : decode bA_missing 4 = .ok (.aload_n 0, 1) := by decide +kernel
theorem dA_missing_5 : decode bA_missing 5 = .ok (.getfield 22, 3) := by decide +kernel
theorem dA_missing_8 : decode bA_missing 8 = .ok (.isub, 1) := by decide +kernel
theorem dA_missing_9 : decode bA_missing 9 = .ok (.ireturn, 1) := by decide +kernel
end
section
theorem dA_lostMoney_0 : decode bA_lostMoney 0 = .ok (.iconst 0, 1) := by decide +kernel
theorem dA_lostMoney_1 : decode bA_lostMoney 1 = .ok (.istore_n 1, 1) := by decide +kernel
theorem dA_lostMoney_2 : decode bA_lostMoney 2 = .ok (.iconst 0, 1) := by decide +kernel
theorem dA_lostMoney_3 : decode bA_lostMoney 3 = .ok (.istore_n 2, 1) := by decide +kernel
theorem dA_lostMoney_4 : decode bA_lostMoney 4 = .ok (.iconst 0, 1) := by decide +kernel
theorem dA_lostMoney_5 : decode bA_lostMoney 5 = .ok (.istore_n 3, 1) := by decide +kernel
theorem dA_lostMoney_6 : decode bA_lostMoney 6 = .ok (.iconst 1, 1) := by decide +kernel
theorem dA_lostMoney_7 : decode bA_lostMoney 7 = .ok (.istore 4, 2) := by decide +kernel
theorem dA_lostMoney_9 : decode bA_lostMoney 9 = .ok (.iload 4, 2) := by decide +kernel
theorem dA_lostMoney_11 : decode bA_lostMoney 11 = .ok (.sipush 512, 3) := by decide +kernel
theorem dA_lostMoney_14 : decode bA_lostMoney 14 = .ok (.if_icmp .gt 50, 3) := by decide +kernel
theorem dA_lostMoney_17 : decode bA_lostMoney 17 = .ok (.aload_n 0, 1) := by decide +kernel
theorem dA_lostMoney_18 : decode bA_lostMoney 18 = .ok (.getfield 9, 3) := by decide +kernel
theorem dA_lostMoney_21 : decode bA_lostMoney 21 = .ok (.iload 4, 2) := by decide +kernel
theorem dA_lostMoney_23 : decode bA_lostMoney 23 = .ok (.baload, 1) := by decide +kernel
theorem dA_lostMoney_24 : decode bA_lostMoney 24 = .ok (.ifCond .eq 34, 3) := by decide +kernel
theorem dA_lostMoney_27 : decode bA_lostMoney 27 = .ok (.iload 4, 2) := by decide +kernel
theorem dA_lostMoney_29 : decode bA_lostMoney 29 = .ok (.iload_n 2, 1) := by decide +kernel
theorem dA_lostMoney_30 : decode bA_lostMoney 30 = .ok (.iconst 1, 1) := by decide +kernel
theorem dA_lostMoney_31 : decode bA_lostMoney 31 = .ok (.iadd, 1) := by decide +kernel
theorem dA_lostMoney_32 : decode bA_lostMoney 32 = .ok (.if_icmp .eq 15, 3) := by decide +kernel
theorem dA_lostMoney_35 : decode bA_lostMoney 35 = .ok (.iload_n 1, 1) := by decide +kernel
theorem dA_lostMoney_36 : decode bA_lostMoney 36 = .ok (.iload_n 3, 1) := by decide +kernel
theorem dA_lostMoney_37 : decode bA_lostMoney 37 = .ok (.aload_n 0, 1) := by decide +kernel
theorem dA_lostMoney_38 : decode bA_lostMoney 38 = .ok (.getfield 15, 3) := by decide +kernel
theorem dA_lostMoney_41 : decode bA_lostMoney 41 = .ok (.iload 4, 2) := by decide +kernel
theorem dA_lostMoney_43 : decode bA_lostMoney 43 = .ok (.iaload, 1) := by decide +kernel
theorem dA_lostMoney_44 : decode bA_lostMoney 44 = .ok (.isub, 1) := by decide +kernel
theorem dA_lostMoney_45 : decode bA_lostMoney 45 = .ok (.iadd, 1) := by decide +kernel
theorem dA_lostMoney_46 : decode bA_lostMoney 46 = .ok (.istore_n 1, 1) := by decide +kernel
theorem dA_lostMoney_47 : decode bA_lostMoney 47 = .ok (.iload 4, 2) := by decide +kernel
theorem dA_lostMoney_49 : decode bA_lostMoney 49 = .ok (.istore_n 2, 1) := by decide +kernel
theorem dA_lostMoney_50 : decode bA_lostMoney 50 = .ok (.aload_n 0, 1) := by decide +kernel
theorem dA_lostMoney_51 : decode bA_lostMoney 51 = .ok (.getfield 19, 3) := by decide +kernel
theorem dA_lostMoney_54 : decode bA_lostMoney 54 = .ok (.iload 4, 2) := by decide +kernel
theorem dA_lostMoney_56 : decode bA_lostMoney 56 = .ok (.iaload, 1) := by decide +kernel
theorem dA_lostMoney_57 : decode bA_lostMoney 57 = .ok (.istore_n 3, 1) := by decide +kernel
theorem dA_lostMoney_58 : decode bA_lostMoney 58 = .ok (.iinc 4 1, 3) := by decide +kernel
theorem dA_lostMoney_61 : decode bA_lostMoney 61 = .ok (.goto (-52), 3) := by decide +kernel
theorem dA_lostMoney_64 : decode bA_lostMoney 64 = .ok (.iload_n 1, 1) := by decide +kernel
theorem dA_lostMoney_65 : decode bA_lostMoney 65 = .ok (.ireturn, 1) := by decide +kernel
theorem dA_allCharges_0 : decode bA_allCharges 0 = .ok (.aload_n 0, 1) := by decide +kernel
theorem dA_allCharges_1 : decode bA_allCharges 1 = .ok (.getfield 29, 3) := by decide +kernel
theorem dA_allCharges_4 : decode bA_allCharges 4 = .ok (.ireturn, 1) := by decide +kernel
theorem dA_allTopUps_0 : decode bA_allTopUps 0 = .ok (.aload_n 0, 1) := by decide +kernel
theorem dA_allTopUps_1 : decode bA_allTopUps 1 = .ok (.getfield 32, 3) := by decide +kernel
theorem dA_allTopUps_4 : decode bA_allTopUps 4 = .ok (.ireturn, 1) := by decide +kernel
theorem dO_income_0 : decode bO_income 0 = .ok (.iload_n 1, 1) := by decide +kernel
theorem dO_income_1 : decode bO_income 1 = .ok (.iconst 4, 1) := by decide +kernel
theorem dO_income_2 : decode bO_income 2 = .ok (.invokestatic 43, 3) := by decide +kernel
theorem dO_income_5 : decode bO_income 5 = .ok (.ifCond .eq 12, 3) := by decide +kernel
theorem dO_income_8 : decode bO_income 8 = .ok (.aload_n 0, 1) := by decide +kernel
theorem dO_income_9 : decode bO_income 9 = .ok (.getfield 34, 3) := by decide +kernel
theorem dO_income_12 : decode bO_income 12 = .ok (.iload_n 1, 1) := by decide +kernel
theorem dO_income_13 : decode bO_income 13 = .ok (.iaload, 1) := by decide +kernel
theorem dO_income_14 : decode bO_income 14 = .ok (.goto 4, 3) := by decide +kernel
theorem dO_income_17 : decode bO_income 17 = .ok (.iconst (-1), 1) := by decide +kernel
theorem dO_income_18 : decode bO_income 18 = .ok (.ireturn, 1) := by decide +kernel
theorem dO_count_0 : decode bO_count 0 = .ok (.iload_n 1, 1) := by decide +kernel
theorem dO_count_1 : decode bO_count 1 = .ok (.tableswitch 54 0 3 #[31, 36, 41, 46], 31) := by decide +kernel
theorem dO_count_32 : decode bO_count 32 = .ok (.aload_n 0, 1) := by decide +kernel
theorem dO_count_33 : decode bO_count 33 = .ok (.getfield 62, 3) := by decide +kernel
theorem dO_count_36 : decode bO_count 36 = .ok (.ireturn, 1) := by decide +kernel
theorem dO_count_37 : decode bO_count 37 = .ok (.aload_n 0, 1) := by decide +kernel
theorem dO_count_38 : decode bO_count 38 = .ok (.invokevirtual 151, 3) := by decide +kernel
theorem dO_count_41 : decode bO_count 41 = .ok (.ireturn, 1) := by decide +kernel
theorem dO_count_42 : decode bO_count 42 = .ok (.aload_n 0, 1) := by decide +kernel
theorem dO_count_43 : decode bO_count 43 = .ok (.getfield 92, 3) := by decide +kernel
theorem dO_count_46 : decode bO_count 46 = .ok (.ireturn, 1) := by decide +kernel
theorem dO_count_47 : decode bO_count 47 = .ok (.aload_n 0, 1) := by decide +kernel
theorem dO_count_48 : decode bO_count 48 = .ok (.getfield 117, 3) := by decide +kernel
theorem dO_count_51 : decode bO_count 51 = .ok (.invokestatic 154, 3) := by decide +kernel
theorem dO_count_54 : decode bO_count 54 = .ok (.ireturn, 1) := by decide +kernel
theorem dO_count_55 : decode bO_count 55 = .ok (.iconst (-1), 1) := by decide +kernel
theorem dO_count_56 : decode bO_count 56 = .ok (.ireturn, 1) := by decide +kernel
theorem dO_entriesInLogs_0 : decode bO_entriesInLogs 0 = .ok (.iconst 0, 1) := by decide +kernel
theorem dO_entriesInLogs_1 : decode bO_entriesInLogs 1 = .ok (.istore_n 1, 1) := by decide +kernel
theorem dO_entriesInLogs_2 : decode bO_entriesInLogs 2 = .ok (.iconst 0, 1) := by decide +kernel
theorem dO_entriesInLogs_3 : decode bO_entriesInLogs 3 = .ok (.istore_n 2, 1) := by decide +kernel
theorem dO_entriesInLogs_4 : decode bO_entriesInLogs 4 = .ok (.iload_n 2, 1) := by decide +kernel
theorem dO_entriesInLogs_5 : decode bO_entriesInLogs 5 = .ok (.iconst 4, 1) := by decide +kernel
theorem dO_entriesInLogs_6 : decode bO_entriesInLogs 6 = .ok (.if_icmp .ge 21, 3) := by decide +kernel
theorem dO_entriesInLogs_9 : decode bO_entriesInLogs 9 = .ok (.iload_n 1, 1) := by decide +kernel
theorem dO_entriesInLogs_10 : decode bO_entriesInLogs 10 = .ok (.aload_n 0, 1) := by decide +kernel
theorem dO_entriesInLogs_11 : decode bO_entriesInLogs 11 = .ok (.getfield 30, 3) := by decide +kernel
theorem dO_entriesInLogs_14 : decode bO_entriesInLogs 14 = .ok (.iload_n 2, 1) := by decide +kernel
theorem dO_entriesInLogs_15 : decode bO_entriesInLogs 15 = .ok (.aaload, 1) := by decide +kernel
theorem dO_entriesInLogs_16 : decode bO_entriesInLogs 16 = .ok (.invokevirtual 108, 3) := by decide +kernel
theorem dO_entriesInLogs_19 : decode bO_entriesInLogs 19 = .ok (.iadd, 1) := by decide +kernel
theorem dO_entriesInLogs_20 : decode bO_entriesInLogs 20 = .ok (.istore_n 1, 1) := by decide +kernel
theorem dO_entriesInLogs_21 : decode bO_entriesInLogs 21 = .ok (.iinc 2 1, 3) := by decide +kernel
theorem dO_entriesInLogs_24 : decode bO_entriesInLogs 24 = .ok (.goto (-20), 3) := by decide +kernel
theorem dO_entriesInLogs_27 : decode bO_entriesInLogs 27 = .ok (.iload_n 1, 1) := by decide +kernel
theorem dO_entriesInLogs_28 : decode bO_entriesInLogs 28 = .ok (.ireturn, 1) := by decide +kernel
theorem dI_bitCount_0 : decode bI_bitCount 0 = .ok (.iload_n 0, 1) := by decide +kernel
theorem dI_bitCount_1 : decode bI_bitCount 1 = .ok (.iload_n 0, 1) := by decide +kernel
theorem dI_bitCount_2 : decode bI_bitCount 2 = .ok (.iconst 1, 1) := by decide +kernel
theorem dI_bitCount_3 : decode bI_bitCount 3 = .ok (.iushr, 1) := by decide +kernel
theorem dI_bitCount_4 : decode bI_bitCount 4 = .ok (.ldc_w 265, 3) := by decide +kernel
theorem dI_bitCount_7 : decode bI_bitCount 7 = .ok (.iand, 1) := by decide +kernel
theorem dI_bitCount_8 : decode bI_bitCount 8 = .ok (.isub, 1) := by decide +kernel
theorem dI_bitCount_9 : decode bI_bitCount 9 = .ok (.istore_n 0, 1) := by decide +kernel
theorem dI_bitCount_10 : decode bI_bitCount 10 = .ok (.iload_n 0, 1) := by decide +kernel
theorem dI_bitCount_11 : decode bI_bitCount 11 = .ok (.ldc_w 266, 3) := by decide +kernel
theorem dI_bitCount_14 : decode bI_bitCount 14 = .ok (.iand, 1) := by decide +kernel
theorem dI_bitCount_15 : decode bI_bitCount 15 = .ok (.iload_n 0, 1) := by decide +kernel
theorem dI_bitCount_16 : decode bI_bitCount 16 = .ok (.iconst 2, 1) := by decide +kernel
theorem dI_bitCount_17 : decode bI_bitCount 17 = .ok (.iushr, 1) := by decide +kernel
theorem dI_bitCount_18 : decode bI_bitCount 18 = .ok (.ldc_w 266, 3) := by decide +kernel
theorem dI_bitCount_21 : decode bI_bitCount 21 = .ok (.iand, 1) := by decide +kernel
theorem dI_bitCount_22 : decode bI_bitCount 22 = .ok (.iadd, 1) := by decide +kernel
theorem dI_bitCount_23 : decode bI_bitCount 23 = .ok (.istore_n 0, 1) := by decide +kernel
theorem dI_bitCount_24 : decode bI_bitCount 24 = .ok (.iload_n 0, 1) := by decide +kernel
theorem dI_bitCount_25 : decode bI_bitCount 25 = .ok (.iload_n 0, 1) := by decide +kernel
theorem dI_bitCount_26 : decode bI_bitCount 26 = .ok (.iconst 4, 1) := by decide +kernel
theorem dI_bitCount_27 : decode bI_bitCount 27 = .ok (.iushr, 1) := by decide +kernel
theorem dI_bitCount_28 : decode bI_bitCount 28 = .ok (.iadd, 1) := by decide +kernel
theorem dI_bitCount_29 : decode bI_bitCount 29 = .ok (.ldc_w 267, 3) := by decide +kernel
theorem dI_bitCount_32 : decode bI_bitCount 32 = .ok (.iand, 1) := by decide +kernel
theorem dI_bitCount_33 : decode bI_bitCount 33 = .ok (.istore_n 0, 1) := by decide +kernel
theorem dI_bitCount_34 : decode bI_bitCount 34 = .ok (.iload_n 0, 1) := by decide +kernel
theorem dI_bitCount_35 : decode bI_bitCount 35 = .ok (.iload_n 0, 1) := by decide +kernel
theorem dI_bitCount_36 : decode bI_bitCount 36 = .ok (.bipush 8, 2) := by decide +kernel
theorem dI_bitCount_38 : decode bI_bitCount 38 = .ok (.iushr, 1) := by decide +kernel
theorem dI_bitCount_39 : decode bI_bitCount 39 = .ok (.iadd, 1) := by decide +kernel
theorem dI_bitCount_40 : decode bI_bitCount 40 = .ok (.istore_n 0, 1) := by decide +kernel
theorem dI_bitCount_41 : decode bI_bitCount 41 = .ok (.iload_n 0, 1) := by decide +kernel
theorem dI_bitCount_42 : decode bI_bitCount 42 = .ok (.iload_n 0, 1) := by decide +kernel
theorem dI_bitCount_43 : decode bI_bitCount 43 = .ok (.bipush 16, 2) := by decide +kernel
theorem dI_bitCount_45 : decode bI_bitCount 45 = .ok (.iushr, 1) := by decide +kernel
theorem dI_bitCount_46 : decode bI_bitCount 46 = .ok (.iadd, 1) := by decide +kernel
theorem dI_bitCount_47 : decode bI_bitCount 47 = .ok (.istore_n 0, 1) := by decide +kernel
theorem dI_bitCount_48 : decode bI_bitCount 48 = .ok (.iload_n 0, 1) := by decide +kernel
theorem dI_bitCount_49 : decode bI_bitCount 49 = .ok (.bipush 63, 2) := by decide +kernel
theorem dI_bitCount_51 : decode bI_bitCount 51 = .ok (.iand, 1) := by decide +kernel
theorem dI_bitCount_52 : decode bI_bitCount 52 = .ok (.ireturn, 1) := by decide +kernel
theorem dM_init_0 : decode bM_init 0 = .ok (.aload_n 0, 1) := by decide +kernel
theorem dM_init_1 : decode bM_init 1 = .ok (.invokespecial 1, 3) := by decide +kernel
theorem dM_init_4 : decode bM_init 4 = .ok (.aload_n 0, 1) := by decide +kernel
theorem dM_init_5 : decode bM_init 5 = .ok (.bipush 36, 2) := by decide +kernel
theorem dM_init_7 : decode bM_init 7 = .ok (.newarray .int, 2) := by decide +kernel
theorem dM_init_9 : decode bM_init 9 = .ok (.putfield 7, 3) := by decide +kernel
theorem dM_init_12 : decode bM_init 12 = .ok (.aload_n 0, 1) := by decide +kernel
theorem dM_init_13 : decode bM_init 13 = .ok (.iconst 5, 1) := by decide +kernel
theorem dM_init_14 : decode bM_init 14 = .ok (.newarray .int, 2) := by decide +kernel
theorem dM_init_16 : decode bM_init 16 = .ok (.putfield 13, 3) := by decide +kernel
theorem dM_init_19 : decode bM_init 19 = .ok (.aload_n 0, 1) := by decide +kernel
theorem dM_init_20 : decode bM_init 20 = .ok (.bipush 64, 2) := by decide +kernel
theorem dM_init_22 : decode bM_init 22 = .ok (.newarray .int, 2) := by decide +kernel
theorem dM_init_24 : decode bM_init 24 = .ok (.putfield 16, 3) := by decide +kernel
theorem dM_init_27 : decode bM_init 27 = .ok (.aload_n 0, 1) := by decide +kernel
theorem dM_init_28 : decode bM_init 28 = .ok (.bipush 8, 2) := by decide +kernel
theorem dM_init_30 : decode bM_init 30 = .ok (.newarray .int, 2) := by decide +kernel
theorem dM_init_32 : decode bM_init 32 = .ok (.putfield 19, 3) := by decide +kernel
theorem dM_init_35 : decode bM_init 35 = .ok (.aload_n 0, 1) := by decide +kernel
theorem dM_init_36 : decode bM_init 36 = .ok (.iconst 4, 1) := by decide +kernel
theorem dM_init_37 : decode bM_init 37 = .ok (.newarray .int, 2) := by decide +kernel
theorem dM_init_39 : decode bM_init 39 = .ok (.putfield 22, 3) := by decide +kernel
theorem dM_init_42 : decode bM_init 42 = .ok (.aload_n 0, 1) := by decide +kernel
theorem dM_init_43 : decode bM_init 43 = .ok (.iconst 4, 1) := by decide +kernel
theorem dM_init_44 : decode bM_init 44 = .ok (.newarray .boolean, 2) := by decide +kernel
theorem dM_init_46 : decode bM_init 46 = .ok (.putfield 25, 3) := by decide +kernel
theorem dM_init_49 : decode bM_init 49 = .ok (.aload_n 0, 1) := by decide +kernel
theorem dM_init_50 : decode bM_init 50 = .ok (.sipush 128, 3) := by decide +kernel
theorem dM_init_53 : decode bM_init 53 = .ok (.newarray .int, 2) := by decide +kernel
theorem dM_init_55 : decode bM_init 55 = .ok (.putfield 29, 3) := by decide +kernel
theorem dM_init_58 : decode bM_init 58 = .ok (.aload_n 0, 1) := by decide +kernel
theorem dM_init_59 : decode bM_init 59 = .ok (.iconst 4, 1) := by decide +kernel
theorem dM_init_60 : decode bM_init 60 = .ok (.newarray .int, 2) := by decide +kernel
theorem dM_init_62 : decode bM_init 62 = .ok (.putfield 32, 3) := by decide +kernel
theorem dM_init_65 : decode bM_init 65 = .ok (.aload_n 0, 1) := by decide +kernel
theorem dM_init_66 : decode bM_init 66 = .ok (.bipush 16, 2) := by decide +kernel
theorem dM_init_68 : decode bM_init 68 = .ok (.newarray .boolean, 2) := by decide +kernel
theorem dM_init_70 : decode bM_init 70 = .ok (.putfield 35, 3) := by decide +kernel
theorem dM_init_73 : decode bM_init 73 = .ok (.aload_n 0, 1) := by decide +kernel
theorem dM_init_74 : decode bM_init 74 = .ok (.iconst 4, 1) := by decide +kernel
theorem dM_init_75 : decode bM_init 75 = .ok (.newarray .boolean, 2) := by decide +kernel
theorem dM_init_77 : decode bM_init 77 = .ok (.putfield 38, 3) := by decide +kernel
theorem dM_init_80 : decode bM_init 80 = .ok (.aload_n 0, 1) := by decide +kernel
theorem dM_init_81 : decode bM_init 81 = .ok (.iconst 4, 1) := by decide +kernel
theorem dM_init_82 : decode bM_init 82 = .ok (.newarray .int, 2) := by decide +kernel
theorem dM_init_84 : decode bM_init 84 = .ok (.putfield 41, 3) := by decide +kernel
theorem dM_init_87 : decode bM_init 87 = .ok (.aload_n 0, 1) := by decide +kernel
theorem dM_init_88 : decode bM_init 88 = .ok (.sipush 2080, 3) := by decide +kernel
theorem dM_init_91 : decode bM_init 91 = .ok (.newarray .int, 2) := by decide +kernel
theorem dM_init_93 : decode bM_init 93 = .ok (.putfield 44, 3) := by decide +kernel
theorem dM_init_96 : decode bM_init 96 = .ok (.aload_n 0, 1) := by decide +kernel
theorem dM_init_97 : decode bM_init 97 = .ok (.sipush 2080, 3) := by decide +kernel
theorem dM_init_100 : decode bM_init 100 = .ok (.newarray .int, 2) := by decide +kernel
theorem dM_init_102 : decode bM_init 102 = .ok (.putfield 47, 3) := by decide +kernel
theorem dM_init_105 : decode bM_init 105 = .ok (.aload_n 0, 1) := by decide +kernel
theorem dM_init_106 : decode bM_init 106 = .ok (.sipush 2080, 3) := by decide +kernel
theorem dM_init_109 : decode bM_init 109 = .ok (.newarray .int, 2) := by decide +kernel
theorem dM_init_111 : decode bM_init 111 = .ok (.putfield 50, 3) := by decide +kernel
theorem dM_init_114 : decode bM_init 114 = .ok (.aload_n 0, 1) := by decide +kernel
theorem dM_init_115 : decode bM_init 115 = .ok (.getfield 13, 3) := by decide +kernel
theorem dM_init_118 : decode bM_init 118 = .ok (.iconst 3, 1) := by decide +kernel
theorem dM_init_119 : decode bM_init 119 = .ok (.sipush 9999, 3) := by decide +kernel
theorem dM_init_122 : decode bM_init 122 = .ok (.iastore, 1) := by decide +kernel
theorem dM_init_123 : decode bM_init 123 = .ok (.iconst 0, 1) := by decide +kernel
theorem dM_init_124 : decode bM_init 124 = .ok (.istore_n 1, 1) := by decide +kernel
theorem dM_init_125 : decode bM_init 125 = .ok (.iload_n 1, 1) := by decide +kernel
theorem dM_init_126 : decode bM_init 126 = .ok (.iconst 4, 1) := by decide +kernel
theorem dM_init_127 : decode bM_init 127 = .ok (.if_icmp .ge 16, 3) := by decide +kernel
theorem dM_init_130 : decode bM_init 130 = .ok (.aload_n 0, 1) := by decide +kernel
theorem dM_init_131 : decode bM_init 131 = .ok (.getfield 22, 3) := by decide +kernel
theorem dM_init_134 : decode bM_init 134 = .ok (.iload_n 1, 1) := by decide +kernel
theorem dM_init_135 : decode bM_init 135 = .ok (.iload_n 1, 1) := by decide +kernel
theorem dM_init_136 : decode bM_init 136 = .ok (.iastore, 1) := by decide +kernel
theorem dM_init_137 : decode bM_init 137 = .ok (.iinc 1 1, 3) := by decide +kernel
theorem dM_init_140 : decode bM_init 140 = .ok (.goto (-15), 3) := by decide +kernel
theorem dM_init_143 : decode bM_init 143 = .ok (.iconst 0, 1) := by decide +kernel
theorem dM_init_144 : decode bM_init 144 = .ok (.istore_n 1, 1) := by decide +kernel
theorem dM_init_145 : decode bM_init 145 = .ok (.iload_n 1, 1) := by decide +kernel
theorem dM_init_146 : decode bM_init 146 = .ok (.bipush 8, 2) := by decide +kernel
theorem dM_init_148 : decode bM_init 148 = .ok (.if_icmp .ge 35, 3) := by decide +kernel
theorem dM_init_151 : decode bM_init 151 = .ok (.aload_n 0, 1) := by decide +kernel
theorem dM_init_152 : decode bM_init 152 = .ok (.getfield 16, 3) := by decide +kernel
theorem dM_init_155 : decode bM_init 155 = .ok (.bipush 8, 2) := by decide +kernel
theorem dM_init_157 : decode bM_init 157 = .ok (.iload_n 1, 1) := by decide +kernel
theorem dM_init_158 : decode bM_init 158 = .ok (.imul, 1) := by decide +kernel
theorem dM_init_159 : decode bM_init 159 = .ok (.iconst 1, 1) := by decide +kernel
theorem dM_init_160 : decode bM_init 160 = .ok (.iadd, 1) := by decide +kernel
theorem dM_init_161 : decode bM_init 161 = .ok (.iconst (-1), 1) := by decide +kernel
theorem dM_init_162 : decode bM_init 162 = .ok (.iastore, 1) := by decide +kernel
theorem dM_init_163 : decode bM_init 163 = .ok (.aload_n 0, 1) := by decide +kernel
theorem dM_init_164 : decode bM_init 164 = .ok (.getfield 16, 3) := by decide +kernel
theorem dM_init_167 : decode bM_init 167 = .ok (.bipush 8, 2) := by decide +kernel
theorem dM_init_169 : decode bM_init 169 = .ok (.iload_n 1, 1) := by decide +kernel
theorem dM_init_170 : decode bM_init 170 = .ok (.imul, 1) := by decide +kernel
theorem dM_init_171 : decode bM_init 171 = .ok (.iconst 5, 1) := by decide +kernel
theorem dM_init_172 : decode bM_init 172 = .ok (.iadd, 1) := by decide +kernel
theorem dM_init_173 : decode bM_init 173 = .ok (.sipush (-1000), 3) := by decide +kernel
theorem dM_init_176 : decode bM_init 176 = .ok (.iastore, 1) := by decide +kernel
theorem dM_init_177 : decode bM_init 177 = .ok (.iinc 1 1, 3) := by decide +kernel
theorem dM_init_180 : decode bM_init 180 = .ok (.goto (-35), 3) := by decide +kernel
theorem dM_init_183 : decode bM_init 183 = .ok (.return_, 1) := by decide +kernel
theorem dM_fare_0 : decode bM_fare 0 = .ok (.iload_n 1, 1) := by decide +kernel
theorem dM_fare_1 : decode bM_fare 1 = .ok (.iconst 0, 1) := by decide +kernel
theorem dM_fare_2 : decode bM_fare 2 = .ok (.iconst 5, 1) := by decide +kernel
theorem dM_fare_3 : decode bM_fare 3 = .ok (.invokestatic 53, 3) := by decide +kernel
theorem dM_fare_6 : decode bM_fare 6 = .ok (.ifCond .eq 23, 3) := by decide +kernel
theorem dM_fare_9 : decode bM_fare 9 = .ok (.iload_n 2, 1) := by decide +kernel
theorem dM_fare_10 : decode bM_fare 10 = .ok (.iconst 0, 1) := by decide +kernel
theorem dM_fare_11 : decode bM_fare 11 = .ok (.iconst 5, 1) := by decide +kernel
theorem dM_fare_12 : decode bM_fare 12 = .ok (.invokestatic 53, 3) := by decide +kernel
theorem dM_fare_15 : decode bM_fare 15 = .ok (.ifCond .eq 14, 3) := by decide +kernel
theorem dM_fare_18 : decode bM_fare 18 = .ok (.iload_n 3, 1) := by decide +kernel
theorem dM_fare_19 : decode bM_fare 19 = .ok (.iconst 0, 1) := by decide +kernel
theorem dM_fare_20 : decode bM_fare 20 = .ok (.sipush 999, 3) := by decide +kernel
theorem dM_fare_23 : decode bM_fare 23 = .ok (.invokestatic 53, 3) := by decide +kernel
theorem dM_fare_26 : decode bM_fare 26 = .ok (.ifCond .ne 5, 3) := by decide +kernel
theorem dM_fare_29 : decode bM_fare 29 = .ok (.iconst (-1), 1) := by decide +kernel
theorem dM_fare_30 : decode bM_fare 30 = .ok (.ireturn, 1) := by decide +kernel
theorem dM_fare_31 : decode bM_fare 31 = .ok (.aload_n 0, 1) := by decide +kernel
theorem dM_fare_32 : decode bM_fare 32 = .ok (.getfield 7, 3) := by decide +kernel
theorem dM_fare_35 : decode bM_fare 35 = .ok (.bipush 6, 2) := by decide +kernel
theorem dM_fare_37 : decode bM_fare 37 = .ok (.iload_n 1, 1) := by decide +kernel
theorem dM_fare_38 : decode bM_fare 38 = .ok (.imul, 1) := by decide +kernel
theorem dM_fare_39 : decode bM_fare 39 = .ok (.iload_n 2, 1) := by decide +kernel
theorem dM_fare_40 : decode bM_fare 40 = .ok (.iadd, 1) := by decide +kernel
theorem dM_fare_41 : decode bM_fare 41 = .ok (.iload_n 3, 1) := by decide +kernel
theorem dM_fare_42 : decode bM_fare 42 = .ok (.iastore, 1) := by decide +kernel
theorem dM_fare_43 : decode bM_fare 43 = .ok (.aload_n 0, 1) := by decide +kernel
theorem dM_fare_44 : decode bM_fare 44 = .ok (.getfield 7, 3) := by decide +kernel
theorem dM_fare_47 : decode bM_fare 47 = .ok (.bipush 6, 2) := by decide +kernel
theorem dM_fare_49 : decode bM_fare 49 = .ok (.iload_n 2, 1) := by decide +kernel
theorem dM_fare_50 : decode bM_fare 50 = .ok (.imul, 1) := by decide +kernel
theorem dM_fare_51 : decode bM_fare 51 = .ok (.iload_n 1, 1) := by decide +kernel
theorem dM_fare_52 : decode bM_fare 52 = .ok (.iadd, 1) := by decide +kernel
theorem dM_fare_53 : decode bM_fare 53 = .ok (.iload_n 3, 1) := by decide +kernel
theorem dM_fare_54 : decode bM_fare 54 = .ok (.iastore, 1) := by decide +kernel
theorem dM_fare_55 : decode bM_fare 55 = .ok (.iconst 0, 1) := by decide +kernel
theorem dM_fare_56 : decode bM_fare 56 = .ok (.ireturn, 1) := by decide +kernel
theorem dM_in_0 : decode bM_in 0 = .ok (.iload_n 0, 1) := by decide +kernel
theorem dM_in_1 : decode bM_in 1 = .ok (.iload_n 1, 1) := by decide +kernel
theorem dM_in_2 : decode bM_in 2 = .ok (.if_icmp .lt 12, 3) := by decide +kernel
theorem dM_in_5 : decode bM_in 5 = .ok (.iload_n 0, 1) := by decide +kernel
theorem dM_in_6 : decode bM_in 6 = .ok (.iload_n 2, 1) := by decide +kernel
theorem dM_in_7 : decode bM_in 7 = .ok (.if_icmp .gt 7, 3) := by decide +kernel
theorem dM_in_10 : decode bM_in 10 = .ok (.iconst 1, 1) := by decide +kernel
theorem dM_in_11 : decode bM_in 11 = .ok (.goto 4, 3) := by decide +kernel
theorem dM_in_14 : decode bM_in 14 = .ok (.iconst 0, 1) := by decide +kernel
theorem dM_in_15 : decode bM_in 15 = .ok (.ireturn, 1) := by decide +kernel
theorem dM_set_0 : decode bM_set 0 = .ok (.iload_n 1, 1) := by decide +kernel
theorem dM_set_1 : decode bM_set 1 = .ok (.iconst 0, 1) := by decide +kernel
theorem dM_set_2 : decode bM_set 2 = .ok (.iconst 4, 1) := by decide +kernel
theorem dM_set_3 : decode bM_set 3 = .ok (.invokestatic 53, 3) := by decide +kernel
theorem dM_set_6 : decode bM_set 6 = .ok (.ifCond .ne 5, 3) := by decide +kernel
theorem dM_set_9 : decode bM_set 9 = .ok (.iconst (-1), 1) := by decide +kernel
theorem dM_set_10 : decode bM_set 10 = .ok (.ireturn, 1) := by decide +kernel
theorem dM_set_11 : decode bM_set 11 = .ok (.iload_n 1, 1) := by decide +kernel
theorem dM_set_12 : decode bM_set 12 = .ok (.iconst 2, 1) := by decide +kernel
theorem dM_set_13 : decode bM_set 13 = .ok (.if_icmp .ge 9, 3) := by decide +kernel
theorem dM_set_16 : decode bM_set 16 = .ok (.sipush 1440, 3) := by decide +kernel
theorem dM_set_19 : decode bM_set 19 = .ok (.goto 28, 3) := by decide +kernel
theorem dM_set_22 : decode bM_set 22 = .ok (.iload_n 1, 1) := by decide +kernel
theorem dM_set_23 : decode bM_set 23 = .ok (.iconst 2, 1) := by decide +kernel
theorem dM_set_24 : decode bM_set 24 = .ok (.if_icmp .ne 9, 3) := by decide +kernel
theorem dM_set_27 : decode bM_set 27 = .ok (.sipush 200, 3) := by decide +kernel
theorem dM_set_30 : decode bM_set 30 = .ok (.goto 17, 3) := by decide +kernel
theorem dM_set_33 : decode bM_set 33 = .ok (.iload_n 1, 1) := by decide +kernel
theorem dM_set_34 : decode bM_set 34 = .ok (.iconst 3, 1) := by decide +kernel
theorem dM_set_35 : decode bM_set 35 = .ok (.if_icmp .ne 9, 3) := by decide +kernel
theorem dM_set_38 : decode bM_set 38 = .ok (.sipush 9999, 3) := by decide +kernel
theorem dM_set_41 : decode bM_set 41 = .ok (.goto 6, 3) := by decide +kernel
theorem dM_set_44 : decode bM_set 44 = .ok (.sipush 999, 3) := by decide +kernel
theorem dM_set_47 : decode bM_set 47 = .ok (.istore_n 3, 1) := by decide +kernel
theorem dM_set_48 : decode bM_set 48 = .ok (.iload_n 2, 1) := by decide +kernel
theorem dM_set_49 : decode bM_set 49 = .ok (.iconst 0, 1) := by decide +kernel
theorem dM_set_50 : decode bM_set 50 = .ok (.iload_n 3, 1) := by decide +kernel
theorem dM_set_51 : decode bM_set 51 = .ok (.invokestatic 53, 3) := by decide +kernel
theorem dM_set_54 : decode bM_set 54 = .ok (.ifCond .ne 5, 3) := by decide +kernel
theorem dM_set_57 : decode bM_set 57 = .ok (.iconst (-1), 1) := by decide +kernel
theorem dM_set_58 : decode bM_set 58 = .ok (.ireturn, 1) := by decide +kernel
theorem dM_set_59 : decode bM_set 59 = .ok (.aload_n 0, 1) := by decide +kernel
theorem dM_set_60 : decode bM_set 60 = .ok (.getfield 13, 3) := by decide +kernel
theorem dM_set_63 : decode bM_set 63 = .ok (.iload_n 1, 1) := by decide +kernel
theorem dM_set_64 : decode bM_set 64 = .ok (.iload_n 2, 1) := by decide +kernel
theorem dM_set_65 : decode bM_set 65 = .ok (.iastore, 1) := by decide +kernel
theorem dM_set_66 : decode bM_set 66 = .ok (.iconst 0, 1) := by decide +kernel
theorem dM_set_67 : decode bM_set 67 = .ok (.ireturn, 1) := by decide +kernel
theorem dM_place_0 : decode bM_place 0 = .ok (.iload_n 1, 1) := by decide +kernel
theorem dM_place_1 : decode bM_place 1 = .ok (.iconst 0, 1) := by decide +kernel
theorem dM_place_2 : decode bM_place 2 = .ok (.iconst 3, 1) := by decide +kernel
theorem dM_place_3 : decode bM_place 3 = .ok (.invokestatic 53, 3) := by decide +kernel
theorem dM_place_6 : decode bM_place 6 = .ok (.ifCond .eq 12, 3) := by decide +kernel
theorem dM_place_9 : decode bM_place 9 = .ok (.iload_n 2, 1) := by decide +kernel
theorem dM_place_10 : decode bM_place 10 = .ok (.iconst 0, 1) := by decide +kernel
theorem dM_place_11 : decode bM_place 11 = .ok (.iconst 5, 1) := by decide +kernel
theorem dM_place_12 : decode bM_place 12 = .ok (.invokestatic 53, 3) := by decide +kernel
theorem dM_place_15 : decode bM_place 15 = .ok (.ifCond .ne 5, 3) := by decide +kernel
theorem dM_place_18 : decode bM_place 18 = .ok (.iconst (-1), 1) := by decide +kernel
theorem dM_place_19 : decode bM_place 19 = .ok (.ireturn, 1) := by decide +kernel
theorem dM_place_20 : decode bM_place 20 = .ok (.aload_n 0, 1) := by decide +kernel
theorem dM_place_21 : decode bM_place 21 = .ok (.getfield 22, 3) := by decide +kernel
theorem dM_place_24 : decode bM_place 24 = .ok (.iload_n 1, 1) := by decide +kernel
theorem dM_place_25 : decode bM_place 25 = .ok (.iload_n 2, 1) := by decide +kernel
theorem dM_place_26 : decode bM_place 26 = .ok (.iastore, 1) := by decide +kernel
theorem dM_place_27 : decode bM_place 27 = .ok (.aload_n 0, 1) := by decide +kernel
theorem dM_place_28 : decode bM_place 28 = .ok (.getfield 25, 3) := by decide +kernel
theorem dM_place_31 : decode bM_place 31 = .ok (.iload_n 1, 1) := by decide +kernel
theorem dM_place_32 : decode bM_place 32 = .ok (.iload_n 3, 1) := by decide +kernel
theorem dM_place_33 : decode bM_place 33 = .ok (.bastore, 1) := by decide +kernel
theorem dM_place_34 : decode bM_place 34 = .ok (.iconst 0, 1) := by decide +kernel
theorem dM_place_35 : decode bM_place 35 = .ok (.ireturn, 1) := by decide +kernel
theorem dM_clock_0 : decode bM_clock 0 = .ok (.iload_n 1, 1) := by decide +kernel
theorem dM_clock_1 : decode bM_clock 1 = .ok (.iconst 0, 1) := by decide +kernel
theorem dM_clock_2 : decode bM_clock 2 = .ok (.sipush 3000, 3) := by decide +kernel
theorem dM_clock_5 : decode bM_clock 5 = .ok (.invokestatic 53, 3) := by decide +kernel
theorem dM_clock_8 : decode bM_clock 8 = .ok (.ifCond .ne 5, 3) := by decide +kernel
theorem dM_clock_11 : decode bM_clock 11 = .ok (.iconst (-1), 1) := by decide +kernel
theorem dM_clock_12 : decode bM_clock 12 = .ok (.ireturn, 1) := by decide +kernel
theorem dM_clock_13 : decode bM_clock 13 = .ok (.aload_n 0, 1) := by decide +kernel
theorem dM_clock_14 : decode bM_clock 14 = .ok (.dup, 1) := by decide +kernel
theorem dM_clock_15 : decode bM_clock 15 = .ok (.getfield 57, 3) := by decide +kernel
theorem dM_clock_18 : decode bM_clock 18 = .ok (.iload_n 1, 1) := by decide +kernel
theorem dM_clock_19 : decode bM_clock 19 = .ok (.iadd, 1) := by decide +kernel
theorem dM_clock_20 : decode bM_clock 20 = .ok (.putfield 57, 3) := by decide +kernel
theorem dM_clock_23 : decode bM_clock 23 = .ok (.aload_n 0, 1) := by decide +kernel
theorem dM_clock_24 : decode bM_clock 24 = .ok (.getfield 57, 3) := by decide +kernel
theorem dM_clock_27 : decode bM_clock 27 = .ok (.ireturn, 1) := by decide +kernel
end
section
theorem dM_tap_0 : decode bM_tap 0 = .ok (.iload_n 1, 1) := by decide +kernel
theorem dM_tap_1 : decode bM_tap 1 = .ok (.iconst 0, 1) := by decide +kernel
theorem dM_tap_2 : decode bM_tap 2 = .ok (.iconst 3, 1) := by decide +kernel
theorem dM_tap_3 : decode bM_tap 3 = .ok (.invokestatic 53, 3) := by decide +kernel
theorem dM_tap_6 : decode bM_tap 6 = .ok (.ifCond .eq 22, 3) := by decide +kernel
theorem dM_tap_9 : decode bM_tap 9 = .ok (.iload_n 2, 1) := by decide +kernel
theorem dM_tap_10 : decode bM_tap 10 = .ok (.iconst 0, 1) := by decide +kernel
theorem dM_tap_11 : decode bM_tap 11 = .ok (.iconst 3, 1) := by decide +kernel
theorem dM_tap_12 : decode bM_tap 12 = .ok (.invokestatic 53, 3) := by decide +kernel
theorem dM_tap_15 : decode bM_tap 15 = .ok (.ifCond .eq 13, 3) := by decide +kernel
theorem dM_tap_18 : decode bM_tap 18 = .ok (.iload_n 3, 1) := by decide +kernel
theorem dM_tap_19 : decode bM_tap 19 = .ok (.iconst 0, 1) := by decide +kernel
theorem dM_tap_20 : decode bM_tap 20 = .ok (.bipush 8, 2) := by decide +kernel
theorem dM_tap_22 : decode bM_tap 22 = .ok (.invokestatic 53, 3) := by decide +kernel
theorem dM_tap_25 : decode bM_tap 25 = .ok (.ifCond .ne 5, 3) := by decide +kernel
theorem dM_tap_28 : decode bM_tap 28 = .ok (.iconst (-1), 1) := by decide +kernel
theorem dM_tap_29 : decode bM_tap 29 = .ok (.ireturn, 1) := by decide +kernel
theorem dM_tap_30 : decode bM_tap 30 = .ok (.aload_n 0, 1) := by decide +kernel
theorem dM_tap_31 : decode bM_tap 31 = .ok (.getfield 32, 3) := by decide +kernel
theorem dM_tap_34 : decode bM_tap 34 = .ok (.iload_n 2, 1) := by decide +kernel
theorem dM_tap_35 : decode bM_tap 35 = .ok (.iaload, 1) := by decide +kernel
theorem dM_tap_36 : decode bM_tap 36 = .ok (.bipush 8, 2) := by decide +kernel
theorem dM_tap_38 : decode bM_tap 38 = .ok (.if_icmp .ne 6, 3) := by decide +kernel
theorem dM_tap_41 : decode bM_tap 41 = .ok (.bipush (-2), 2) := by decide +kernel
theorem dM_tap_43 : decode bM_tap 43 = .ok (.ireturn, 1) := by decide +kernel
theorem dM_tap_44 : decode bM_tap 44 = .ok (.aload_n 0, 1) := by decide +kernel
theorem dM_tap_45 : decode bM_tap 45 = .ok (.getfield 35, 3) := by decide +kernel
theorem dM_tap_48 : decode bM_tap 48 = .ok (.iconst 4, 1) := by decide +kernel
theorem dM_tap_49 : decode bM_tap 49 = .ok (.iload_n 2, 1) := by decide +kernel
theorem dM_tap_50 : decode bM_tap 50 = .ok (.imul, 1) := by decide +kernel
theorem dM_tap_51 : decode bM_tap 51 = .ok (.iload_n 1, 1) := by decide +kernel
theorem dM_tap_52 : decode bM_tap 52 = .ok (.iadd, 1) := by decide +kernel
theorem dM_tap_53 : decode bM_tap 53 = .ok (.baload, 1) := by decide +kernel
theorem dM_tap_54 : decode bM_tap 54 = .ok (.ifCond .eq 6, 3) := by decide +kernel
theorem dM_tap_57 : decode bM_tap 57 = .ok (.bipush (-4), 2) := by decide +kernel
theorem dM_tap_59 : decode bM_tap 59 = .ok (.ireturn, 1) := by decide +kernel
theorem dM_tap_60 : decode bM_tap 60 = .ok (.aload_n 0, 1) := by decide +kernel
theorem dM_tap_61 : decode bM_tap 61 = .ok (.iload_n 1, 1) := by decide +kernel
theorem dM_tap_62 : decode bM_tap 62 = .ok (.invokevirtual 71, 3) := by decide +kernel
theorem dM_tap_65 : decode bM_tap 65 = .ok (.aload_n 0, 1) := by decide +kernel
theorem dM_tap_66 : decode bM_tap 66 = .ok (.getfield 25, 3) := by decide +kernel
theorem dM_tap_69 : decode bM_tap 69 = .ok (.iload_n 2, 1) := by decide +kernel
theorem dM_tap_70 : decode bM_tap 70 = .ok (.baload, 1) := by decide +kernel
theorem dM_tap_71 : decode bM_tap 71 = .ok (.ifCond .ne 21, 3) := by decide +kernel
theorem dM_tap_74 : decode bM_tap 74 = .ok (.aload_n 0, 1) := by decide +kernel
theorem dM_tap_75 : decode bM_tap 75 = .ok (.getfield 19, 3) := by decide +kernel
theorem dM_tap_78 : decode bM_tap 78 = .ok (.iconst 0, 1) := by decide +kernel
theorem dM_tap_79 : decode bM_tap 79 = .ok (.iaload, 1) := by decide +kernel
theorem dM_tap_80 : decode bM_tap 80 = .ok (.aload_n 0, 1) := by decide +kernel
theorem dM_tap_81 : decode bM_tap 81 = .ok (.getfield 13, 3) := by decide +kernel
theorem dM_tap_84 : decode bM_tap 84 = .ok (.iconst 4, 1) := by decide +kernel
theorem dM_tap_85 : decode bM_tap 85 = .ok (.iaload, 1) := by decide +kernel
theorem dM_tap_86 : decode bM_tap 86 = .ok (.if_icmp .ge 6, 3) := by decide +kernel
theorem dM_tap_89 : decode bM_tap 89 = .ok (.bipush (-3), 2) := by decide +kernel
theorem dM_tap_91 : decode bM_tap 91 = .ok (.ireturn, 1) := by decide +kernel
theorem dM_tap_92 : decode bM_tap 92 = .ok (.aload_n 0, 1) := by decide +kernel
theorem dM_tap_93 : decode bM_tap 93 = .ok (.getfield 25, 3) := by decide +kernel
theorem dM_tap_96 : decode bM_tap 96 = .ok (.iload_n 2, 1) := by decide +kernel
theorem dM_tap_97 : decode bM_tap 97 = .ok (.baload, 1) := by decide +kernel
theorem dM_tap_98 : decode bM_tap 98 = .ok (.ifCond .eq 17, 3) := by decide +kernel
theorem dM_tap_101 : decode bM_tap 101 = .ok (.aload_n 0, 1) := by decide +kernel
theorem dM_tap_102 : decode bM_tap 102 = .ok (.iload_n 1, 1) := by decide +kernel
theorem dM_tap_103 : decode bM_tap 103 = .ok (.aload_n 0, 1) := by decide +kernel
theorem dM_tap_104 : decode bM_tap 104 = .ok (.getfield 22, 3) := by decide +kernel
theorem dM_tap_107 : decode bM_tap 107 = .ok (.iload_n 2, 1) := by decide +kernel
theorem dM_tap_108 : decode bM_tap 108 = .ok (.iaload, 1) := by decide +kernel
theorem dM_tap_109 : decode bM_tap 109 = .ok (.invokevirtual 75, 3) := by decide +kernel
theorem dM_tap_112 : decode bM_tap 112 = .ok (.goto 14, 3) := by decide +kernel
theorem dM_tap_115 : decode bM_tap 115 = .ok (.aload_n 0, 1) := by decide +kernel
theorem dM_tap_116 : decode bM_tap 116 = .ok (.iload_n 1, 1) := by decide +kernel
theorem dM_tap_117 : decode bM_tap 117 = .ok (.aload_n 0, 1) := by decide +kernel
theorem dM_tap_118 : decode bM_tap 118 = .ok (.getfield 22, 3) := by decide +kernel
theorem dM_tap_121 : decode bM_tap 121 = .ok (.iload_n 2, 1) := by decide +kernel
theorem dM_tap_122 : decode bM_tap 122 = .ok (.iaload, 1) := by decide +kernel
theorem dM_tap_123 : decode bM_tap 123 = .ok (.invokevirtual 79, 3) := by decide +kernel
theorem dM_tap_126 : decode bM_tap 126 = .ok (.istore 4, 2) := by decide +kernel
theorem dM_tap_128 : decode bM_tap 128 = .ok (.aload_n 0, 1) := by decide +kernel
theorem dM_tap_129 : decode bM_tap 129 = .ok (.getfield 19, 3) := by decide +kernel
theorem dM_tap_132 : decode bM_tap 132 = .ok (.iconst 0, 1) := by decide +kernel
theorem dM_tap_133 : decode bM_tap 133 = .ok (.dup2, 1) := by decide +kernel
theorem dM_tap_134 : decode bM_tap 134 = .ok (.iaload, 1) := by decide +kernel
theorem dM_tap_135 : decode bM_tap 135 = .ok (.iload 4, 2) := by decide +kernel
theorem dM_tap_137 : decode bM_tap 137 = .ok (.isub, 1) := by decide +kernel
theorem dM_tap_138 : decode bM_tap 138 = .ok (.iastore, 1) := by decide +kernel
theorem dM_tap_139 : decode bM_tap 139 = .ok (.aload_n 0, 1) := by decide +kernel
theorem dM_tap_140 : decode bM_tap 140 = .ok (.getfield 19, 3) := by decide +kernel
theorem dM_tap_143 : decode bM_tap 143 = .ok (.bipush 6, 2) := by decide +kernel
theorem dM_tap_145 : decode bM_tap 145 = .ok (.dup2, 1) := by decide +kernel
theorem dM_tap_146 : decode bM_tap 146 = .ok (.iaload, 1) := by decide +kernel
theorem dM_tap_147 : decode bM_tap 147 = .ok (.iload 4, 2) := by decide +kernel
theorem dM_tap_149 : decode bM_tap 149 = .ok (.iadd, 1) := by decide +kernel
theorem dM_tap_150 : decode bM_tap 150 = .ok (.iastore, 1) := by decide +kernel
theorem dM_tap_151 : decode bM_tap 151 = .ok (.aload_n 0, 1) := by decide +kernel
theorem dM_tap_152 : decode bM_tap 152 = .ok (.iload_n 1, 1) := by decide +kernel
theorem dM_tap_153 : decode bM_tap 153 = .ok (.invokevirtual 68, 3) := by decide +kernel
theorem dM_tap_156 : decode bM_tap 156 = .ok (.iconst 1, 1) := by decide +kernel
theorem dM_tap_157 : decode bM_tap 157 = .ok (.iadd, 1) := by decide +kernel
theorem dM_tap_158 : decode bM_tap 158 = .ok (.istore 5, 2) := by decide +kernel
theorem dM_tap_160 : decode bM_tap 160 = .ok (.aload_n 0, 1) := by decide +kernel
theorem dM_tap_161 : decode bM_tap 161 = .ok (.iload_n 1, 1) := by decide +kernel
theorem dM_tap_162 : decode bM_tap 162 = .ok (.iload_n 3, 1) := by decide +kernel
theorem dM_tap_163 : decode bM_tap 163 = .ok (.ifCond .ne 8, 3) := by decide +kernel
theorem dM_tap_166 : decode bM_tap 166 = .ok (.bipush 8, 2) := by decide +kernel
theorem dM_tap_168 : decode bM_tap 168 = .ok (.goto 4, 3) := by decide +kernel
theorem dM_tap_171 : decode bM_tap 171 = .ok (.iload_n 3, 1) := by decide +kernel
theorem dM_tap_172 : decode bM_tap 172 = .ok (.invokevirtual 82, 3) := by decide +kernel
theorem dM_tap_175 : decode bM_tap 175 = .ok (.iload_n 3, 1) := by decide +kernel
theorem dM_tap_176 : decode bM_tap 176 = .ok (.ifCond .le 16, 3) := by decide +kernel
theorem dM_tap_179 : decode bM_tap 179 = .ok (.aload_n 0, 1) := by decide +kernel
theorem dM_tap_180 : decode bM_tap 180 = .ok (.dup, 1) := by decide +kernel
theorem dM_tap_181 : decode bM_tap 181 = .ok (.getfield 86, 3) := by decide +kernel
theorem dM_tap_184 : decode bM_tap 184 = .ok (.iconst 1, 1) := by decide +kernel
theorem dM_tap_185 : decode bM_tap 185 = .ok (.iadd, 1) := by decide +kernel
theorem dM_tap_186 : decode bM_tap 186 = .ok (.putfield 86, 3) := by decide +kernel
theorem dM_tap_189 : decode bM_tap 189 = .ok (.bipush (-5), 2) := by decide +kernel
theorem dM_tap_191 : decode bM_tap 191 = .ok (.ireturn, 1) := by decide +kernel
theorem dM_tap_192 : decode bM_tap 192 = .ok (.bipush 32, 2) := by decide +kernel
theorem dM_tap_194 : decode bM_tap 194 = .ok (.iload_n 2, 1) := by decide +kernel
theorem dM_tap_195 : decode bM_tap 195 = .ok (.imul, 1) := by decide +kernel
theorem dM_tap_196 : decode bM_tap 196 = .ok (.iconst 4, 1) := by decide +kernel
theorem dM_tap_197 : decode bM_tap 197 = .ok (.aload_n 0, 1) := by decide +kernel
theorem dM_tap_198 : decode bM_tap 198 = .ok (.getfield 32, 3) := by decide +kernel
theorem dM_tap_201 : decode bM_tap 201 = .ok (.iload_n 2, 1) := by decide +kernel
theorem dM_tap_202 : decode bM_tap 202 = .ok (.iaload, 1) := by decide +kernel
theorem dM_tap_203 : decode bM_tap 203 = .ok (.imul, 1) := by decide +kernel
theorem dM_tap_204 : decode bM_tap 204 = .ok (.iadd, 1) := by decide +kernel
theorem dM_tap_205 : decode bM_tap 205 = .ok (.istore 6, 2) := by decide +kernel
theorem dM_tap_207 : decode bM_tap 207 = .ok (.aload_n 0, 1) := by decide +kernel
theorem dM_tap_208 : decode bM_tap 208 = .ok (.getfield 29, 3) := by decide +kernel
theorem dM_tap_211 : decode bM_tap 211 = .ok (.iload 6, 2) := by decide +kernel
theorem dM_tap_213 : decode bM_tap 213 = .ok (.iload_n 1, 1) := by decide +kernel
theorem dM_tap_214 : decode bM_tap 214 = .ok (.iastore, 1) := by decide +kernel
theorem dM_tap_215 : decode bM_tap 215 = .ok (.aload_n 0, 1) := by decide +kernel
theorem dM_tap_216 : decode bM_tap 216 = .ok (.getfield 29, 3) := by decide +kernel
theorem dM_tap_219 : decode bM_tap 219 = .ok (.iload 6, 2) := by decide +kernel
theorem dM_tap_221 : decode bM_tap 221 = .ok (.iconst 1, 1) := by decide +kernel
theorem dM_tap_222 : decode bM_tap 222 = .ok (.iadd, 1) := by decide +kernel
theorem dM_tap_223 : decode bM_tap 223 = .ok (.iload 5, 2) := by decide +kernel
theorem dM_tap_225 : decode bM_tap 225 = .ok (.iastore, 1) := by decide +kernel
theorem dM_tap_226 : decode bM_tap 226 = .ok (.aload_n 0, 1) := by decide +kernel
theorem dM_tap_227 : decode bM_tap 227 = .ok (.getfield 29, 3) := by decide +kernel
theorem dM_tap_230 : decode bM_tap 230 = .ok (.iload 6, 2) := by decide +kernel
theorem dM_tap_232 : decode bM_tap 232 = .ok (.iconst 2, 1) := by decide +kernel
theorem dM_tap_233 : decode bM_tap 233 = .ok (.iadd, 1) := by decide +kernel
theorem dM_tap_234 : decode bM_tap 234 = .ok (.iload 4, 2) := by decide +kernel
theorem dM_tap_236 : decode bM_tap 236 = .ok (.iastore, 1) := by decide +kernel
theorem dM_tap_237 : decode bM_tap 237 = .ok (.aload_n 0, 1) := by decide +kernel
theorem dM_tap_238 : decode bM_tap 238 = .ok (.getfield 29, 3) := by decide +kernel
theorem dM_tap_241 : decode bM_tap 241 = .ok (.iload 6, 2) := by decide +kernel
theorem dM_tap_243 : decode bM_tap 243 = .ok (.iconst 3, 1) := by decide +kernel
theorem dM_tap_244 : decode bM_tap 244 = .ok (.iadd, 1) := by decide +kernel
theorem dM_tap_245 : decode bM_tap 245 = .ok (.aload_n 0, 1) := by decide +kernel
theorem dM_tap_246 : decode bM_tap 246 = .ok (.getfield 19, 3) := by decide +kernel
theorem dM_tap_249 : decode bM_tap 249 = .ok (.iconst 0, 1) := by decide +kernel
theorem dM_tap_250 : decode bM_tap 250 = .ok (.iaload, 1) := by decide +kernel
theorem dM_tap_251 : decode bM_tap 251 = .ok (.iastore, 1) := by decide +kernel
theorem dM_tap_252 : decode bM_tap 252 = .ok (.aload_n 0, 1) := by decide +kernel
theorem dM_tap_253 : decode bM_tap 253 = .ok (.getfield 32, 3) := by decide +kernel
theorem dM_tap_256 : decode bM_tap 256 = .ok (.iload_n 2, 1) := by decide +kernel
theorem dM_tap_257 : decode bM_tap 257 = .ok (.dup2, 1) := by decide +kernel
theorem dM_tap_258 : decode bM_tap 258 = .ok (.iaload, 1) := by decide +kernel
theorem dM_tap_259 : decode bM_tap 259 = .ok (.iconst 1, 1) := by decide +kernel
theorem dM_tap_260 : decode bM_tap 260 = .ok (.iadd, 1) := by decide +kernel
theorem dM_tap_261 : decode bM_tap 261 = .ok (.iastore, 1) := by decide +kernel
theorem dM_tap_262 : decode bM_tap 262 = .ok (.iload 4, 2) := by decide +kernel
theorem dM_tap_264 : decode bM_tap 264 = .ok (.ireturn, 1) := by decide +kernel
theorem dM_load_0 : decode bM_load 0 = .ok (.aload_n 0, 1) := by decide +kernel
theorem dM_load_1 : decode bM_load 1 = .ok (.iload_n 1, 1) := by decide +kernel
theorem dM_load_2 : decode bM_load 2 = .ok (.invokevirtual 61, 3) := by decide +kernel
theorem dM_load_5 : decode bM_load 5 = .ok (.istore_n 2, 1) := by decide +kernel
theorem dM_load_6 : decode bM_load 6 = .ok (.iconst 0, 1) := by decide +kernel
theorem dM_load_7 : decode bM_load 7 = .ok (.istore_n 3, 1) := by decide +kernel
theorem dM_load_8 : decode bM_load 8 = .ok (.iload_n 3, 1) := by decide +kernel
theorem dM_load_9 : decode bM_load 9 = .ok (.bipush 8, 2) := by decide +kernel
theorem dM_load_11 : decode bM_load 11 = .ok (.if_icmp .ge 23, 3) := by decide +kernel
theorem dM_load_14 : decode bM_load 14 = .ok (.aload_n 0, 1) := by decide +kernel
theorem dM_load_15 : decode bM_load 15 = .ok (.getfield 19, 3) := by decide +kernel
theorem dM_load_18 : decode bM_load 18 = .ok (.iload_n 3, 1) := by decide +kernel
theorem dM_load_19 : decode bM_load 19 = .ok (.aload_n 0, 1) := by decide +kernel
theorem dM_load_20 : decode bM_load 20 = .ok (.getfield 16, 3) := by decide +kernel
theorem dM_load_23 : decode bM_load 23 = .ok (.iload_n 2, 1) := by decide +kernel
theorem dM_load_24 : decode bM_load 24 = .ok (.iload_n 3, 1) := by decide +kernel
theorem dM_load_25 : decode bM_load 25 = .ok (.iadd, 1) := by decide +kernel
theorem dM_load_26 : decode bM_load 26 = .ok (.iaload, 1) := by decide +kernel
theorem dM_load_27 : decode bM_load 27 = .ok (.iastore, 1) := by decide +kernel
theorem dM_load_28 : decode bM_load 28 = .ok (.iinc 3 1, 3) := by decide +kernel
theorem dM_load_31 : decode bM_load 31 = .ok (.goto (-23), 3) := by decide +kernel
theorem dM_load_34 : decode bM_load 34 = .ok (.aload_n 0, 1) := by decide +kernel
theorem dM_load_35 : decode bM_load 35 = .ok (.getfield 19, 3) := by decide +kernel
theorem dM_load_38 : decode bM_load 38 = .ok (.bipush 6, 2) := by decide +kernel
theorem dM_load_40 : decode bM_load 40 = .ok (.aload_n 0, 1) := by decide +kernel
theorem dM_load_41 : decode bM_load 41 = .ok (.iload_n 1, 1) := by decide +kernel
theorem dM_load_42 : decode bM_load 42 = .ok (.invokevirtual 65, 3) := by decide +kernel
theorem dM_load_45 : decode bM_load 45 = .ok (.iastore, 1) := by decide +kernel
theorem dM_load_46 : decode bM_load 46 = .ok (.return_, 1) := by decide +kernel
theorem dM_base_0 : decode bM_base 0 = .ok (.aload_n 0, 1) := by decide +kernel
theorem dM_base_1 : decode bM_base 1 = .ok (.getfield 16, 3) := by decide +kernel
theorem dM_base_4 : decode bM_base 4 = .ok (.bipush 16, 2) := by decide +kernel
theorem dM_base_6 : decode bM_base 6 = .ok (.iload_n 1, 1) := by decide +kernel
theorem dM_base_7 : decode bM_base 7 = .ok (.imul, 1) := by decide +kernel
theorem dM_base_8 : decode bM_base 8 = .ok (.bipush 7, 2) := by decide +kernel
theorem dM_base_10 : decode bM_base 10 = .ok (.iadd, 1) := by decide +kernel
theorem dM_base_11 : decode bM_base 11 = .ok (.iaload, 1) := by decide +kernel
theorem dM_base_12 : decode bM_base 12 = .ok (.sipush 4096, 3) := by decide +kernel
theorem dM_base_15 : decode bM_base 15 = .ok (.idiv, 1) := by decide +kernel
theorem dM_base_16 : decode bM_base 16 = .ok (.istore_n 2, 1) := by decide +kernel
theorem dM_base_17 : decode bM_base 17 = .ok (.aload_n 0, 1) := by decide +kernel
theorem dM_base_18 : decode bM_base 18 = .ok (.getfield 16, 3) := by decide +kernel
theorem dM_base_21 : decode bM_base 21 = .ok (.bipush 16, 2) := by decide +kernel
theorem dM_base_23 : decode bM_base 23 = .ok (.iload_n 1, 1) := by decide +kernel
theorem dM_base_24 : decode bM_base 24 = .ok (.imul, 1) := by decide +kernel
theorem dM_base_25 : decode bM_base 25 = .ok (.bipush 15, 2) := by decide +kernel
theorem dM_base_27 : decode bM_base 27 = .ok (.iadd, 1) := by decide +kernel
theorem dM_base_28 : decode bM_base 28 = .ok (.iaload, 1) := by decide +kernel
theorem dM_base_29 : decode bM_base 29 = .ok (.sipush 4096, 3) := by decide +kernel
theorem dM_base_32 : decode bM_base 32 = .ok (.idiv, 1) := by decide +kernel
theorem dM_base_33 : decode bM_base 33 = .ok (.istore_n 3, 1) := by decide +kernel
theorem dM_base_34 : decode bM_base 34 = .ok (.bipush 16, 2) := by decide +kernel
theorem dM_base_36 : decode bM_base 36 = .ok (.iload_n 1, 1) := by decide +kernel
theorem dM_base_37 : decode bM_base 37 = .ok (.imul, 1) := by decide +kernel
theorem dM_base_38 : decode bM_base 38 = .ok (.iload_n 3, 1) := by decide +kernel
theorem dM_base_39 : decode bM_base 39 = .ok (.iload_n 2, 1) := by decide +kernel
theorem dM_base_40 : decode bM_base 40 = .ok (.if_icmp .le 8, 3) := by decide +kernel
theorem dM_base_43 : decode bM_base 43 = .ok (.bipush 8, 2) := by decide +kernel
theorem dM_base_45 : decode bM_base 45 = .ok (.goto 4, 3) := by decide +kernel
theorem dM_base_48 : decode bM_base 48 = .ok (.iconst 0, 1) := by decide +kernel
theorem dM_base_49 : decode bM_base 49 = .ok (.iadd, 1) := by decide +kernel
theorem dM_base_50 : decode bM_base 50 = .ok (.ireturn, 1) := by decide +kernel
theorem dM_spent_0 : decode bM_spent 0 = .ok (.aload_n 0, 1) := by decide +kernel
theorem dM_spent_1 : decode bM_spent 1 = .ok (.iload_n 1, 1) := by decide +kernel
theorem dM_spent_2 : decode bM_spent 2 = .ok (.invokevirtual 61, 3) := by decide +kernel
theorem dM_spent_5 : decode bM_spent 5 = .ok (.istore_n 2, 1) := by decide +kernel
theorem dM_spent_6 : decode bM_spent 6 = .ok (.aload_n 0, 1) := by decide +kernel
theorem dM_spent_7 : decode bM_spent 7 = .ok (.getfield 16, 3) := by decide +kernel
theorem dM_spent_10 : decode bM_spent 10 = .ok (.iload_n 2, 1) := by decide +kernel
theorem dM_spent_11 : decode bM_spent 11 = .ok (.bipush 7, 2) := by decide +kernel
theorem dM_spent_13 : decode bM_spent 13 = .ok (.iadd, 1) := by decide +kernel
theorem dM_spent_14 : decode bM_spent 14 = .ok (.iaload, 1) := by decide +kernel
theorem dM_spent_15 : decode bM_spent 15 = .ok (.sipush 4096, 3) := by decide +kernel
theorem dM_spent_18 : decode bM_spent 18 = .ok (.irem, 1) := by decide +kernel
theorem dM_spent_19 : decode bM_spent 19 = .ok (.aload_n 0, 1) := by decide +kernel
theorem dM_spent_20 : decode bM_spent 20 = .ok (.getfield 57, 3) := by decide +kernel
theorem dM_spent_23 : decode bM_spent 23 = .ok (.sipush 1440, 3) := by decide +kernel
theorem dM_spent_26 : decode bM_spent 26 = .ok (.idiv, 1) := by decide +kernel
theorem dM_spent_27 : decode bM_spent 27 = .ok (.if_icmp .ne 15, 3) := by decide +kernel
theorem dM_spent_30 : decode bM_spent 30 = .ok (.aload_n 0, 1) := by decide +kernel
theorem dM_spent_31 : decode bM_spent 31 = .ok (.getfield 16, 3) := by decide +kernel
theorem dM_spent_34 : decode bM_spent 34 = .ok (.iload_n 2, 1) := by decide +kernel
theorem dM_spent_35 : decode bM_spent 35 = .ok (.bipush 6, 2) := by decide +kernel
theorem dM_spent_37 : decode bM_spent 37 = .ok (.iadd, 1) := by decide +kernel
theorem dM_spent_38 : decode bM_spent 38 = .ok (.iaload, 1) := by decide +kernel
theorem dM_spent_39 : decode bM_spent 39 = .ok (.goto 4, 3) := by decide +kernel
theorem dM_spent_42 : decode bM_spent 42 = .ok (.iconst 0, 1) := by decide +kernel
theorem dM_spent_43 : decode bM_spent 43 = .ok (.ireturn, 1) := by decide +kernel
theorem dM_leave_0 : decode bM_leave 0 = .ok (.aload_n 0, 1) := by decide +kernel
theorem dM_leave_1 : decode bM_leave 1 = .ok (.getfield 19, 3) := by decide +kernel
theorem dM_leave_4 : decode bM_leave 4 = .ok (.iconst 1, 1) := by decide +kernel
theorem dM_leave_5 : decode bM_leave 5 = .ok (.iaload, 1) := by decide +kernel
theorem dM_leave_6 : decode bM_leave 6 = .ok (.ifCond .ge 41, 3) := by decide +kernel
theorem dM_leave_9 : decode bM_leave 9 = .ok (.aload_n 0, 1) := by decide +kernel
theorem dM_leave_10 : decode bM_leave 10 = .ok (.aload_n 0, 1) := by decide +kernel
theorem dM_leave_11 : decode bM_leave 11 = .ok (.aload_n 0, 1) := by decide +kernel
theorem dM_leave_12 : decode bM_leave 12 = .ok (.iload_n 2, 1) := by decide +kernel
theorem dM_leave_13 : decode bM_leave 13 = .ok (.invokevirtual 89, 3) := by decide +kernel
theorem dM_leave_16 : decode bM_leave 16 = .ok (.aload_n 0, 1) := by decide +kernel
theorem dM_leave_17 : decode bM_leave 17 = .ok (.getfield 57, 3) := by decide +kernel
theorem dM_leave_20 : decode bM_leave 20 = .ok (.invokevirtual 92, 3) := by decide +kernel
theorem dM_leave_23 : decode bM_leave 23 = .ok (.iload_n 1, 1) := by decide +kernel
theorem dM_leave_24 : decode bM_leave 24 = .ok (.invokevirtual 95, 3) := by decide +kernel
theorem dM_leave_27 : decode bM_leave 27 = .ok (.istore_n 3, 1) := by decide +kernel
theorem dM_leave_28 : decode bM_leave 28 = .ok (.aload_n 0, 1) := by decide +kernel
theorem dM_leave_29 : decode bM_leave 29 = .ok (.getfield 19, 3) := by decide +kernel
theorem dM_leave_32 : decode bM_leave 32 = .ok (.iconst 4, 1) := by decide +kernel
theorem dM_leave_33 : decode bM_leave 33 = .ok (.iconst 0, 1) := by decide +kernel
theorem dM_leave_34 : decode bM_leave 34 = .ok (.iastore, 1) := by decide +kernel
theorem dM_leave_35 : decode bM_leave 35 = .ok (.aload_n 0, 1) := by decide +kernel
theorem dM_leave_36 : decode bM_leave 36 = .ok (.getfield 19, 3) := by decide +kernel
theorem dM_leave_39 : decode bM_leave 39 = .ok (.iconst 5, 1) := by decide +kernel
theorem dM_leave_40 : decode bM_leave 40 = .ok (.sipush (-1000), 3) := by decide +kernel
theorem dM_leave_43 : decode bM_leave 43 = .ok (.iastore, 1) := by decide +kernel
theorem dM_leave_44 : decode bM_leave 44 = .ok (.goto 137, 3) := by decide +kernel
theorem dM_leave_47 : decode bM_leave 47 = .ok (.aload_n 0, 1) := by decide +kernel
theorem dM_leave_48 : decode bM_leave 48 = .ok (.getfield 57, 3) := by decide +kernel
theorem dM_leave_51 : decode bM_leave 51 = .ok (.aload_n 0, 1) := by decide +kernel
theorem dM_leave_52 : decode bM_leave 52 = .ok (.getfield 19, 3) := by decide +kernel
theorem dM_leave_55 : decode bM_leave 55 = .ok (.iconst 2, 1) := by decide +kernel
theorem dM_leave_56 : decode bM_leave 56 = .ok (.iaload, 1) := by decide +kernel
theorem dM_leave_57 : decode bM_leave 57 = .ok (.sipush 180, 3) := by decide +kernel
theorem dM_leave_60 : decode bM_leave 60 = .ok (.iadd, 1) := by decide +kernel
theorem dM_leave_61 : decode bM_leave 61 = .ok (.if_icmp .le 48, 3) := by decide +kernel
theorem dM_leave_64 : decode bM_leave 64 = .ok (.aload_n 0, 1) := by decide +kernel
theorem dM_leave_65 : decode bM_leave 65 = .ok (.aload_n 0, 1) := by decide +kernel
theorem dM_leave_66 : decode bM_leave 66 = .ok (.aload_n 0, 1) := by decide +kernel
theorem dM_leave_67 : decode bM_leave 67 = .ok (.aload_n 0, 1) := by decide +kernel
theorem dM_leave_68 : decode bM_leave 68 = .ok (.getfield 19, 3) := by decide +kernel
theorem dM_leave_71 : decode bM_leave 71 = .ok (.iconst 1, 1) := by decide +kernel
theorem dM_leave_72 : decode bM_leave 72 = .ok (.iaload, 1) := by decide +kernel
theorem dM_leave_73 : decode bM_leave 73 = .ok (.invokevirtual 89, 3) := by decide +kernel
theorem dM_leave_76 : decode bM_leave 76 = .ok (.aload_n 0, 1) := by decide +kernel
theorem dM_leave_77 : decode bM_leave 77 = .ok (.getfield 19, 3) := by decide +kernel
theorem dM_leave_80 : decode bM_leave 80 = .ok (.iconst 2, 1) := by decide +kernel
theorem dM_leave_81 : decode bM_leave 81 = .ok (.iaload, 1) := by decide +kernel
theorem dM_leave_82 : decode bM_leave 82 = .ok (.invokevirtual 92, 3) := by decide +kernel
theorem dM_leave_85 : decode bM_leave 85 = .ok (.iload_n 1, 1) := by decide +kernel
theorem dM_leave_86 : decode bM_leave 86 = .ok (.invokevirtual 95, 3) := by decide +kernel
theorem dM_leave_89 : decode bM_leave 89 = .ok (.istore_n 3, 1) := by decide +kernel
theorem dM_leave_90 : decode bM_leave 90 = .ok (.aload_n 0, 1) := by decide +kernel
theorem dM_leave_91 : decode bM_leave 91 = .ok (.getfield 19, 3) := by decide +kernel
theorem dM_leave_94 : decode bM_leave 94 = .ok (.iconst 4, 1) := by decide +kernel
theorem dM_leave_95 : decode bM_leave 95 = .ok (.iconst 0, 1) := by decide +kernel
theorem dM_leave_96 : decode bM_leave 96 = .ok (.iastore, 1) := by decide +kernel
theorem dM_leave_97 : decode bM_leave 97 = .ok (.aload_n 0, 1) := by decide +kernel
theorem dM_leave_98 : decode bM_leave 98 = .ok (.getfield 19, 3) := by decide +kernel
theorem dM_leave_101 : decode bM_leave 101 = .ok (.iconst 5, 1) := by decide +kernel
theorem dM_leave_102 : decode bM_leave 102 = .ok (.sipush (-1000), 3) := by decide +kernel
theorem dM_leave_105 : decode bM_leave 105 = .ok (.iastore, 1) := by decide +kernel
theorem dM_leave_106 : decode bM_leave 106 = .ok (.goto 75, 3) := by decide +kernel
theorem dM_leave_109 : decode bM_leave 109 = .ok (.aload_n 0, 1) := by decide +kernel
theorem dM_leave_110 : decode bM_leave 110 = .ok (.aload_n 0, 1) := by decide +kernel
theorem dM_leave_111 : decode bM_leave 111 = .ok (.getfield 7, 3) := by decide +kernel
theorem dM_leave_114 : decode bM_leave 114 = .ok (.bipush 6, 2) := by decide +kernel
theorem dM_leave_116 : decode bM_leave 116 = .ok (.aload_n 0, 1) := by decide +kernel
theorem dM_leave_117 : decode bM_leave 117 = .ok (.getfield 19, 3) := by decide +kernel
theorem dM_leave_120 : decode bM_leave 120 = .ok (.iconst 3, 1) := by decide +kernel
theorem dM_leave_121 : decode bM_leave 121 = .ok (.iaload, 1) := by decide +kernel
theorem dM_leave_122 : decode bM_leave 122 = .ok (.imul, 1) := by decide +kernel
theorem dM_leave_123 : decode bM_leave 123 = .ok (.iload_n 2, 1) := by decide +kernel
theorem dM_leave_124 : decode bM_leave 124 = .ok (.iadd, 1) := by decide +kernel
theorem dM_leave_125 : decode bM_leave 125 = .ok (.iaload, 1) := by decide +kernel
theorem dM_leave_126 : decode bM_leave 126 = .ok (.aload_n 0, 1) := by decide +kernel
theorem dM_leave_127 : decode bM_leave 127 = .ok (.getfield 19, 3) := by decide +kernel
theorem dM_leave_130 : decode bM_leave 130 = .ok (.iconst 2, 1) := by decide +kernel
theorem dM_leave_131 : decode bM_leave 131 = .ok (.iaload, 1) := by decide +kernel
theorem dM_leave_132 : decode bM_leave 132 = .ok (.invokevirtual 92, 3) := by decide +kernel
theorem dM_leave_135 : decode bM_leave 135 = .ok (.aload_n 0, 1) := by decide +kernel
theorem dM_leave_136 : decode bM_leave 136 = .ok (.getfield 19, 3) := by decide +kernel
theorem dM_leave_139 : decode bM_leave 139 = .ok (.iconst 4, 1) := by decide +kernel
theorem dM_leave_140 : decode bM_leave 140 = .ok (.iaload, 1) := by decide +kernel
theorem dM_leave_141 : decode bM_leave 141 = .ok (.isub, 1) := by decide +kernel
theorem dM_leave_142 : decode bM_leave 142 = .ok (.istore 4, 2) := by decide +kernel
theorem dM_leave_144 : decode bM_leave 144 = .ok (.aload_n 0, 1) := by decide +kernel
theorem dM_leave_145 : decode bM_leave 145 = .ok (.iload 4, 2) := by decide +kernel
theorem dM_leave_147 : decode bM_leave 147 = .ok (.ifCond .ge 7, 3) := by decide +kernel
theorem dM_leave_150 : decode bM_leave 150 = .ok (.iconst 0, 1) := by decide +kernel
theorem dM_leave_151 : decode bM_leave 151 = .ok (.goto 5, 3) := by decide +kernel
theorem dM_leave_154 : decode bM_leave 154 = .ok (.iload 4, 2) := by decide +kernel
theorem dM_leave_156 : decode bM_leave 156 = .ok (.iload_n 1, 1) := by decide +kernel
theorem dM_leave_157 : decode bM_leave 157 = .ok (.invokevirtual 95, 3) := by decide +kernel
theorem dM_leave_160 : decode bM_leave 160 = .ok (.istore_n 3, 1) := by decide +kernel
theorem dM_leave_161 : decode bM_leave 161 = .ok (.aload_n 0, 1) := by decide +kernel
theorem dM_leave_162 : decode bM_leave 162 = .ok (.getfield 19, 3) := by decide +kernel
theorem dM_leave_165 : decode bM_leave 165 = .ok (.iconst 4, 1) := by decide +kernel
theorem dM_leave_166 : decode bM_leave 166 = .ok (.dup2, 1) := by decide +kernel
theorem dM_leave_167 : decode bM_leave 167 = .ok (.iaload, 1) := by decide +kernel
theorem dM_leave_168 : decode bM_leave 168 = .ok (.iload_n 3, 1) := by decide +kernel
theorem dM_leave_169 : decode bM_leave 169 = .ok (.iadd, 1) := by decide +kernel
theorem dM_leave_170 : decode bM_leave 170 = .ok (.iastore, 1) := by decide +kernel
theorem dM_leave_171 : decode bM_leave 171 = .ok (.aload_n 0, 1) := by decide +kernel
theorem dM_leave_172 : decode bM_leave 172 = .ok (.getfield 19, 3) := by decide +kernel
theorem dM_leave_175 : decode bM_leave 175 = .ok (.iconst 5, 1) := by decide +kernel
theorem dM_leave_176 : decode bM_leave 176 = .ok (.aload_n 0, 1) := by decide +kernel
theorem dM_leave_177 : decode bM_leave 177 = .ok (.getfield 57, 3) := by decide +kernel
theorem dM_leave_180 : decode bM_leave 180 = .ok (.iastore, 1) := by decide +kernel
theorem dM_leave_181 : decode bM_leave 181 = .ok (.aload_n 0, 1) := by decide +kernel
theorem dM_leave_182 : decode bM_leave 182 = .ok (.getfield 19, 3) := by decide +kernel
theorem dM_leave_185 : decode bM_leave 185 = .ok (.iconst 1, 1) := by decide +kernel
theorem dM_leave_186 : decode bM_leave 186 = .ok (.iconst (-1), 1) := by decide +kernel
theorem dM_leave_187 : decode bM_leave 187 = .ok (.iastore, 1) := by decide +kernel
theorem dM_leave_188 : decode bM_leave 188 = .ok (.iload_n 3, 1) := by decide +kernel
theorem dM_leave_189 : decode bM_leave 189 = .ok (.ireturn, 1) := by decide +kernel
theorem dM_full_0 : decode bM_full 0 = .ok (.iconst 0, 1) := by decide +kernel
theorem dM_full_1 : decode bM_full 1 = .ok (.istore_n 2, 1) := by decide +kernel
theorem dM_full_2 : decode bM_full 2 = .ok (.iconst 0, 1) := by decide +kernel
theorem dM_full_3 : decode bM_full 3 = .ok (.istore_n 3, 1) := by decide +kernel
theorem dM_full_4 : decode bM_full 4 = .ok (.iload_n 3, 1) := by decide +kernel
theorem dM_full_5 : decode bM_full 5 = .ok (.bipush 6, 2) := by decide +kernel
theorem dM_full_7 : decode bM_full 7 = .ok (.if_icmp .ge 36, 3) := by decide +kernel
theorem dM_full_10 : decode bM_full 10 = .ok (.aload_n 0, 1) := by decide +kernel
theorem dM_full_11 : decode bM_full 11 = .ok (.getfield 7, 3) := by decide +kernel
theorem dM_full_14 : decode bM_full 14 = .ok (.bipush 6, 2) := by decide +kernel
theorem dM_full_16 : decode bM_full 16 = .ok (.iload_n 1, 1) := by decide +kernel
theorem dM_full_17 : decode bM_full 17 = .ok (.imul, 1) := by decide +kernel
theorem dM_full_18 : decode bM_full 18 = .ok (.iload_n 3, 1) := by decide +kernel
theorem dM_full_19 : decode bM_full 19 = .ok (.iadd, 1) := by decide +kernel
theorem dM_full_20 : decode bM_full 20 = .ok (.iaload, 1) := by decide +kernel
theorem dM_full_21 : decode bM_full 21 = .ok (.iload_n 2, 1) := by decide +kernel
theorem dM_full_22 : decode bM_full 22 = .ok (.if_icmp .le 15, 3) := by decide +kernel
theorem dM_full_25 : decode bM_full 25 = .ok (.aload_n 0, 1) := by decide +kernel
theorem dM_full_26 : decode bM_full 26 = .ok (.getfield 7, 3) := by decide +kernel
theorem dM_full_29 : decode bM_full 29 = .ok (.bipush 6, 2) := by decide +kernel
theorem dM_full_31 : decode bM_full 31 = .ok (.iload_n 1, 1) := by decide +kernel
theorem dM_full_32 : decode bM_full 32 = .ok (.imul, 1) := by decide +kernel
theorem dM_full_33 : decode bM_full 33 = .ok (.iload_n 3, 1) := by decide +kernel
theorem dM_full_34 : decode bM_full 34 = .ok (.iadd, 1) := by decide +kernel
theorem dM_full_35 : decode bM_full 35 = .ok (.iaload, 1) := by decide +kernel
theorem dM_full_36 : decode bM_full 36 = .ok (.istore_n 2, 1) := by decide +kernel
theorem dM_full_37 : decode bM_full 37 = .ok (.iinc 3 1, 3) := by decide +kernel
theorem dM_full_40 : decode bM_full 40 = .ok (.goto (-36), 3) := by decide +kernel
theorem dM_full_43 : decode bM_full 43 = .ok (.iload_n 2, 1) := by decide +kernel
theorem dM_full_44 : decode bM_full 44 = .ok (.ireturn, 1) := by decide +kernel
end
section
theorem dM_price_0 : decode bM_price 0 = .ok (.iload_n 2, 1) := by decide +kernel
theorem dM_price_1 : decode bM_price 1 = .ok (.sipush 1440, 3) := by decide +kernel
theorem dM_price_4 : decode bM_price 4 = .ok (.irem, 1) := by decide +kernel
theorem dM_price_5 : decode bM_price 5 = .ok (.istore_n 3, 1) := by decide +kernel
theorem dM_price_6 : decode bM_price 6 = .ok (.iload_n 3, 1) := by decide +kernel
theorem dM_price_7 : decode bM_price 7 = .ok (.aload_n 0, 1) := by decide +kernel
theorem dM_price_8 : decode bM_price 8 = .ok (.getfield 13, 3) := by decide +kernel
theorem dM_price_11 : decode bM_price 11 = .ok (.iconst 0, 1) := by decide +kernel
theorem dM_price_12 : decode bM_price 12 = .ok (.iaload, 1) := by decide +kernel
theorem dM_price_13 : decode bM_price 13 = .ok (.if_icmp .lt 29, 3) := by decide +kernel
theorem dM_price_16 : decode bM_price 16 = .ok (.iload_n 3, 1) := by decide +kernel
theorem dM_price_17 : decode bM_price 17 = .ok (.aload_n 0, 1) := by decide +kernel
theorem dM_price_18 : decode bM_price 18 = .ok (.getfield 13, 3) := by decide +kernel
theorem dM_price_21 : decode bM_price 21 = .ok (.iconst 1, 1) := by decide +kernel
theorem dM_price_22 : decode bM_price 22 = .ok (.iaload, 1) := by decide +kernel
theorem dM_price_23 : decode bM_price 23 = .ok (.if_icmp .ge 19, 3) := by decide +kernel
theorem dM_price_26 : decode bM_price 26 = .ok (.iload_n 1, 1) := by decide +kernel
theorem dM_price_27 : decode bM_price 27 = .ok (.iload_n 1, 1) := by decide +kernel
theorem dM_price_28 : decode bM_price 28 = .ok (.aload_n 0, 1) := by decide +kernel
theorem dM_price_29 : decode bM_price 29 = .ok (.getfield 13, 3) := by decide +kernel
theorem dM_price_32 : decode bM_price 32 = .ok (.iconst 2, 1) := by decide +kernel
theorem dM_price_33 : decode bM_price 33 = .ok (.iaload, 1) := by decide +kernel
theorem dM_price_34 : decode bM_price 34 = .ok (.imul, 1) := by decide +kernel
theorem dM_price_35 : decode bM_price 35 = .ok (.bipush 100, 2) := by decide +kernel
theorem dM_price_37 : decode bM_price 37 = .ok (.idiv, 1) := by decide +kernel
theorem dM_price_38 : decode bM_price 38 = .ok (.iadd, 1) := by decide +kernel
theorem dM_price_39 : decode bM_price 39 = .ok (.goto 4, 3) := by decide +kernel
theorem dM_price_42 : decode bM_price 42 = .ok (.iload_n 1, 1) := by decide +kernel
theorem dM_price_43 : decode bM_price 43 = .ok (.ireturn, 1) := by decide +kernel
theorem dM_capped_0 : decode bM_capped 0 = .ok (.aload_n 0, 1) := by decide +kernel
theorem dM_capped_1 : decode bM_capped 1 = .ok (.getfield 13, 3) := by decide +kernel
theorem dM_capped_4 : decode bM_capped 4 = .ok (.iconst 3, 1) := by decide +kernel
theorem dM_capped_5 : decode bM_capped 5 = .ok (.iaload, 1) := by decide +kernel
theorem dM_capped_6 : decode bM_capped 6 = .ok (.aload_n 0, 1) := by decide +kernel
theorem dM_capped_7 : decode bM_capped 7 = .ok (.iload_n 2, 1) := by decide +kernel
theorem dM_capped_8 : decode bM_capped 8 = .ok (.invokevirtual 65, 3) := by decide +kernel
theorem dM_capped_11 : decode bM_capped 11 = .ok (.isub, 1) := by decide +kernel
theorem dM_capped_12 : decode bM_capped 12 = .ok (.istore_n 3, 1) := by decide +kernel
theorem dM_capped_13 : decode bM_capped 13 = .ok (.iload_n 1, 1) := by decide +kernel
theorem dM_capped_14 : decode bM_capped 14 = .ok (.iload_n 3, 1) := by decide +kernel
theorem dM_capped_15 : decode bM_capped 15 = .ok (.if_icmp .ge 7, 3) := by decide +kernel
theorem dM_capped_18 : decode bM_capped 18 = .ok (.iload_n 1, 1) := by decide +kernel
theorem dM_capped_19 : decode bM_capped 19 = .ok (.goto 4, 3) := by decide +kernel
theorem dM_capped_22 : decode bM_capped 22 = .ok (.iload_n 3, 1) := by decide +kernel
theorem dM_capped_23 : decode bM_capped 23 = .ok (.istore 4, 2) := by decide +kernel
theorem dM_capped_25 : decode bM_capped 25 = .ok (.iload 4, 2) := by decide +kernel
theorem dM_capped_27 : decode bM_capped 27 = .ok (.ifCond .ge 7, 3) := by decide +kernel
theorem dM_capped_30 : decode bM_capped 30 = .ok (.iconst 0, 1) := by decide +kernel
theorem dM_capped_31 : decode bM_capped 31 = .ok (.goto 5, 3) := by decide +kernel
theorem dM_capped_34 : decode bM_capped 34 = .ok (.iload 4, 2) := by decide +kernel
theorem dM_capped_36 : decode bM_capped 36 = .ok (.ireturn, 1) := by decide +kernel
theorem dM_enter_0 : decode bM_enter 0 = .ok (.aload_n 0, 1) := by decide +kernel
theorem dM_enter_1 : decode bM_enter 1 = .ok (.getfield 19, 3) := by decide +kernel
theorem dM_enter_4 : decode bM_enter 4 = .ok (.iconst 1, 1) := by decide +kernel
theorem dM_enter_5 : decode bM_enter 5 = .ok (.iaload, 1) := by decide +kernel
theorem dM_enter_6 : decode bM_enter 6 = .ok (.ifCond .lt 7, 3) := by decide +kernel
theorem dM_enter_9 : decode bM_enter 9 = .ok (.iconst 1, 1) := by decide +kernel
theorem dM_enter_10 : decode bM_enter 10 = .ok (.goto 4, 3) := by decide +kernel
theorem dM_enter_13 : decode bM_enter 13 = .ok (.iconst 0, 1) := by decide +kernel
theorem dM_enter_14 : decode bM_enter 14 = .ok (.istore_n 3, 1) := by decide +kernel
theorem dM_enter_15 : decode bM_enter 15 = .ok (.iload_n 3, 1) := by decide +kernel
theorem dM_enter_16 : decode bM_enter 16 = .ok (.ifCond .eq 31, 3) := by decide +kernel
theorem dM_enter_19 : decode bM_enter 19 = .ok (.aload_n 0, 1) := by decide +kernel
theorem dM_enter_20 : decode bM_enter 20 = .ok (.aload_n 0, 1) := by decide +kernel
theorem dM_enter_21 : decode bM_enter 21 = .ok (.aload_n 0, 1) := by decide +kernel
theorem dM_enter_22 : decode bM_enter 22 = .ok (.aload_n 0, 1) := by decide +kernel
theorem dM_enter_23 : decode bM_enter 23 = .ok (.getfield 19, 3) := by decide +kernel
theorem dM_enter_26 : decode bM_enter 26 = .ok (.iconst 1, 1) := by decide +kernel
theorem dM_enter_27 : decode bM_enter 27 = .ok (.iaload, 1) := by decide +kernel
theorem dM_enter_28 : decode bM_enter 28 = .ok (.invokevirtual 89, 3) := by decide +kernel
theorem dM_enter_31 : decode bM_enter 31 = .ok (.aload_n 0, 1) := by decide +kernel
theorem dM_enter_32 : decode bM_enter 32 = .ok (.getfield 19, 3) := by decide +kernel
theorem dM_enter_35 : decode bM_enter 35 = .ok (.iconst 2, 1) := by decide +kernel
theorem dM_enter_36 : decode bM_enter 36 = .ok (.iaload, 1) := by decide +kernel
theorem dM_enter_37 : decode bM_enter 37 = .ok (.invokevirtual 92, 3) := by decide +kernel
theorem dM_enter_40 : decode bM_enter 40 = .ok (.iload_n 1, 1) := by decide +kernel
theorem dM_enter_41 : decode bM_enter 41 = .ok (.invokevirtual 95, 3) := by decide +kernel
theorem dM_enter_44 : decode bM_enter 44 = .ok (.goto 4, 3) := by decide +kernel
theorem dM_enter_47 : decode bM_enter 47 = .ok (.iconst 0, 1) := by decide +kernel
theorem dM_enter_48 : decode bM_enter 48 = .ok (.istore 4, 2) := by decide +kernel
theorem dM_enter_50 : decode bM_enter 50 = .ok (.iload_n 3, 1) := by decide +kernel
theorem dM_enter_51 : decode bM_enter 51 = .ok (.ifCond .ne 19, 3) := by decide +kernel
theorem dM_enter_54 : decode bM_enter 54 = .ok (.aload_n 0, 1) := by decide +kernel
theorem dM_enter_55 : decode bM_enter 55 = .ok (.getfield 57, 3) := by decide +kernel
theorem dM_enter_58 : decode bM_enter 58 = .ok (.aload_n 0, 1) := by decide +kernel
theorem dM_enter_59 : decode bM_enter 59 = .ok (.getfield 19, 3) := by decide +kernel
theorem dM_enter_62 : decode bM_enter 62 = .ok (.iconst 5, 1) := by decide +kernel
theorem dM_enter_63 : decode bM_enter 63 = .ok (.iaload, 1) := by decide +kernel
theorem dM_enter_64 : decode bM_enter 64 = .ok (.bipush 30, 2) := by decide +kernel
theorem dM_enter_66 : decode bM_enter 66 = .ok (.iadd, 1) := by decide +kernel
theorem dM_enter_67 : decode bM_enter 67 = .ok (.if_icmp .le 17, 3) := by decide +kernel
theorem dM_enter_70 : decode bM_enter 70 = .ok (.aload_n 0, 1) := by decide +kernel
theorem dM_enter_71 : decode bM_enter 71 = .ok (.getfield 19, 3) := by decide +kernel
theorem dM_enter_74 : decode bM_enter 74 = .ok (.iconst 3, 1) := by decide +kernel
theorem dM_enter_75 : decode bM_enter 75 = .ok (.iload_n 2, 1) := by decide +kernel
theorem dM_enter_76 : decode bM_enter 76 = .ok (.iastore, 1) := by decide +kernel
theorem dM_enter_77 : decode bM_enter 77 = .ok (.aload_n 0, 1) := by decide +kernel
theorem dM_enter_78 : decode bM_enter 78 = .ok (.getfield 19, 3) := by decide +kernel
theorem dM_enter_81 : decode bM_enter 81 = .ok (.iconst 4, 1) := by decide +kernel
theorem dM_enter_82 : decode bM_enter 82 = .ok (.iconst 0, 1) := by decide +kernel
theorem dM_enter_83 : decode bM_enter 83 = .ok (.iastore, 1) := by decide +kernel
theorem dM_enter_84 : decode bM_enter 84 = .ok (.aload_n 0, 1) := by decide +kernel
theorem dM_enter_85 : decode bM_enter 85 = .ok (.getfield 19, 3) := by decide +kernel
theorem dM_enter_88 : decode bM_enter 88 = .ok (.iconst 1, 1) := by decide +kernel
theorem dM_enter_89 : decode bM_enter 89 = .ok (.iload_n 2, 1) := by decide +kernel
theorem dM_enter_90 : decode bM_enter 90 = .ok (.iastore, 1) := by decide +kernel
theorem dM_enter_91 : decode bM_enter 91 = .ok (.aload_n 0, 1) := by decide +kernel
theorem dM_enter_92 : decode bM_enter 92 = .ok (.getfield 19, 3) := by decide +kernel
theorem dM_enter_95 : decode bM_enter 95 = .ok (.iconst 2, 1) := by decide +kernel
theorem dM_enter_96 : decode bM_enter 96 = .ok (.aload_n 0, 1) := by decide +kernel
theorem dM_enter_97 : decode bM_enter 97 = .ok (.getfield 57, 3) := by decide +kernel
theorem dM_enter_100 : decode bM_enter 100 = .ok (.iastore, 1) := by decide +kernel
theorem dM_enter_101 : decode bM_enter 101 = .ok (.iload 4, 2) := by decide +kernel
theorem dM_enter_103 : decode bM_enter 103 = .ok (.ireturn, 1) := by decide +kernel
theorem dM_counter_0 : decode bM_counter 0 = .ok (.aload_n 0, 1) := by decide +kernel
theorem dM_counter_1 : decode bM_counter 1 = .ok (.getfield 16, 3) := by decide +kernel
theorem dM_counter_4 : decode bM_counter 4 = .ok (.aload_n 0, 1) := by decide +kernel
theorem dM_counter_5 : decode bM_counter 5 = .ok (.iload_n 1, 1) := by decide +kernel
theorem dM_counter_6 : decode bM_counter 6 = .ok (.invokevirtual 61, 3) := by decide +kernel
theorem dM_counter_9 : decode bM_counter 9 = .ok (.bipush 7, 2) := by decide +kernel
theorem dM_counter_11 : decode bM_counter 11 = .ok (.iadd, 1) := by decide +kernel
theorem dM_counter_12 : decode bM_counter 12 = .ok (.iaload, 1) := by decide +kernel
theorem dM_counter_13 : decode bM_counter 13 = .ok (.sipush 4096, 3) := by decide +kernel
theorem dM_counter_16 : decode bM_counter 16 = .ok (.idiv, 1) := by decide +kernel
theorem dM_counter_17 : decode bM_counter 17 = .ok (.ireturn, 1) := by decide +kernel
theorem dM_change_0 : decode bM_change 0 = .ok (.aload_n 0, 1) := by decide +kernel
theorem dM_change_1 : decode bM_change 1 = .ok (.iload_n 1, 1) := by decide +kernel
theorem dM_change_2 : decode bM_change 2 = .ok (.invokevirtual 61, 3) := by decide +kernel
theorem dM_change_5 : decode bM_change 5 = .ok (.istore_n 3, 1) := by decide +kernel
theorem dM_change_6 : decode bM_change 6 = .ok (.aload_n 0, 1) := by decide +kernel
theorem dM_change_7 : decode bM_change 7 = .ok (.getfield 19, 3) := by decide +kernel
theorem dM_change_10 : decode bM_change 10 = .ok (.bipush 7, 2) := by decide +kernel
theorem dM_change_12 : decode bM_change 12 = .ok (.aload_n 0, 1) := by decide +kernel
theorem dM_change_13 : decode bM_change 13 = .ok (.iload_n 1, 1) := by decide +kernel
theorem dM_change_14 : decode bM_change 14 = .ok (.invokevirtual 68, 3) := by decide +kernel
theorem dM_change_17 : decode bM_change 17 = .ok (.iconst 1, 1) := by decide +kernel
theorem dM_change_18 : decode bM_change 18 = .ok (.iadd, 1) := by decide +kernel
theorem dM_change_19 : decode bM_change 19 = .ok (.sipush 4096, 3) := by decide +kernel
theorem dM_change_22 : decode bM_change 22 = .ok (.imul, 1) := by decide +kernel
theorem dM_change_23 : decode bM_change 23 = .ok (.aload_n 0, 1) := by decide +kernel
theorem dM_change_24 : decode bM_change 24 = .ok (.getfield 57, 3) := by decide +kernel
theorem dM_change_27 : decode bM_change 27 = .ok (.sipush 1440, 3) := by decide +kernel
theorem dM_change_30 : decode bM_change 30 = .ok (.idiv, 1) := by decide +kernel
theorem dM_change_31 : decode bM_change 31 = .ok (.iadd, 1) := by decide +kernel
theorem dM_change_32 : decode bM_change 32 = .ok (.iastore, 1) := by decide +kernel
theorem dM_change_33 : decode bM_change 33 = .ok (.iload_n 3, 1) := by decide +kernel
theorem dM_change_34 : decode bM_change 34 = .ok (.bipush 16, 2) := by decide +kernel
theorem dM_change_36 : decode bM_change 36 = .ok (.irem, 1) := by decide +kernel
theorem dM_change_37 : decode bM_change 37 = .ok (.ifCond .ne 10, 3) := by decide +kernel
theorem dM_change_40 : decode bM_change 40 = .ok (.iload_n 3, 1) := by decide +kernel
theorem dM_change_41 : decode bM_change 41 = .ok (.bipush 8, 2) := by decide +kernel
theorem dM_change_43 : decode bM_change 43 = .ok (.iadd, 1) := by decide +kernel
theorem dM_change_44 : decode bM_change 44 = .ok (.goto 7, 3) := by decide +kernel
theorem dM_change_47 : decode bM_change 47 = .ok (.iload_n 3, 1) := by decide +kernel
theorem dM_change_48 : decode bM_change 48 = .ok (.bipush 8, 2) := by decide +kernel
theorem dM_change_50 : decode bM_change 50 = .ok (.isub, 1) := by decide +kernel
theorem dM_change_51 : decode bM_change 51 = .ok (.istore 4, 2) := by decide +kernel
theorem dM_change_53 : decode bM_change 53 = .ok (.iconst 0, 1) := by decide +kernel
theorem dM_change_54 : decode bM_change 54 = .ok (.istore 5, 2) := by decide +kernel
theorem dM_change_56 : decode bM_change 56 = .ok (.iload 5, 2) := by decide +kernel
theorem dM_change_58 : decode bM_change 58 = .ok (.iload_n 2, 1) := by decide +kernel
theorem dM_change_59 : decode bM_change 59 = .ok (.if_icmp .ge 26, 3) := by decide +kernel
theorem dM_change_62 : decode bM_change 62 = .ok (.aload_n 0, 1) := by decide +kernel
theorem dM_change_63 : decode bM_change 63 = .ok (.getfield 16, 3) := by decide +kernel
theorem dM_change_66 : decode bM_change 66 = .ok (.iload 4, 2) := by decide +kernel
theorem dM_change_68 : decode bM_change 68 = .ok (.iload 5, 2) := by decide +kernel
theorem dM_change_70 : decode bM_change 70 = .ok (.iadd, 1) := by decide +kernel
theorem dM_change_71 : decode bM_change 71 = .ok (.aload_n 0, 1) := by decide +kernel
theorem dM_change_72 : decode bM_change 72 = .ok (.getfield 19, 3) := by decide +kernel
theorem dM_change_75 : decode bM_change 75 = .ok (.iload 5, 2) := by decide +kernel
theorem dM_change_77 : decode bM_change 77 = .ok (.iaload, 1) := by decide +kernel
theorem dM_change_78 : decode bM_change 78 = .ok (.iastore, 1) := by decide +kernel
theorem dM_change_79 : decode bM_change 79 = .ok (.iinc 5 1, 3) := by decide +kernel
theorem dM_change_82 : decode bM_change 82 = .ok (.goto (-26), 3) := by decide +kernel
theorem dM_change_85 : decode bM_change 85 = .ok (.return_, 1) := by decide +kernel
theorem dM_topUp_0 : decode bM_topUp 0 = .ok (.iload_n 1, 1) := by decide +kernel
theorem dM_topUp_1 : decode bM_topUp 1 = .ok (.iconst 0, 1) := by decide +kernel
theorem dM_topUp_2 : decode bM_topUp 2 = .ok (.iconst 3, 1) := by decide +kernel
theorem dM_topUp_3 : decode bM_topUp 3 = .ok (.invokestatic 53, 3) := by decide +kernel
theorem dM_topUp_6 : decode bM_topUp 6 = .ok (.ifCond .eq 14, 3) := by decide +kernel
theorem dM_topUp_9 : decode bM_topUp 9 = .ok (.iload_n 2, 1) := by decide +kernel
theorem dM_topUp_10 : decode bM_topUp 10 = .ok (.iconst 1, 1) := by decide +kernel
theorem dM_topUp_11 : decode bM_topUp 11 = .ok (.sipush 999, 3) := by decide +kernel
theorem dM_topUp_14 : decode bM_topUp 14 = .ok (.invokestatic 53, 3) := by decide +kernel
theorem dM_topUp_17 : decode bM_topUp 17 = .ok (.ifCond .ne 5, 3) := by decide +kernel
theorem dM_topUp_20 : decode bM_topUp 20 = .ok (.iconst (-1), 1) := by decide +kernel
theorem dM_topUp_21 : decode bM_topUp 21 = .ok (.ireturn, 1) := by decide +kernel
theorem dM_topUp_22 : decode bM_topUp 22 = .ok (.aload_n 0, 1) := by decide +kernel
theorem dM_topUp_23 : decode bM_topUp 23 = .ok (.iload_n 1, 1) := by decide +kernel
theorem dM_topUp_24 : decode bM_topUp 24 = .ok (.invokevirtual 71, 3) := by decide +kernel
theorem dM_topUp_27 : decode bM_topUp 27 = .ok (.aload_n 0, 1) := by decide +kernel
theorem dM_topUp_28 : decode bM_topUp 28 = .ok (.getfield 19, 3) := by decide +kernel
theorem dM_topUp_31 : decode bM_topUp 31 = .ok (.iconst 0, 1) := by decide +kernel
theorem dM_topUp_32 : decode bM_topUp 32 = .ok (.iaload, 1) := by decide +kernel
theorem dM_topUp_33 : decode bM_topUp 33 = .ok (.iload_n 2, 1) := by decide +kernel
theorem dM_topUp_34 : decode bM_topUp 34 = .ok (.iadd, 1) := by decide +kernel
theorem dM_topUp_35 : decode bM_topUp 35 = .ok (.sipush 9999, 3) := by decide +kernel
theorem dM_topUp_38 : decode bM_topUp 38 = .ok (.if_icmp .le 5, 3) := by decide +kernel
theorem dM_topUp_41 : decode bM_topUp 41 = .ok (.iconst (-1), 1) := by decide +kernel
theorem dM_topUp_42 : decode bM_topUp 42 = .ok (.ireturn, 1) := by decide +kernel
theorem dM_topUp_43 : decode bM_topUp 43 = .ok (.aload_n 0, 1) := by decide +kernel
theorem dM_topUp_44 : decode bM_topUp 44 = .ok (.getfield 19, 3) := by decide +kernel
theorem dM_topUp_47 : decode bM_topUp 47 = .ok (.iconst 0, 1) := by decide +kernel
theorem dM_topUp_48 : decode bM_topUp 48 = .ok (.dup2, 1) := by decide +kernel
theorem dM_topUp_49 : decode bM_topUp 49 = .ok (.iaload, 1) := by decide +kernel
theorem dM_topUp_50 : decode bM_topUp 50 = .ok (.iload_n 2, 1) := by decide +kernel
theorem dM_topUp_51 : decode bM_topUp 51 = .ok (.iadd, 1) := by decide +kernel
theorem dM_topUp_52 : decode bM_topUp 52 = .ok (.iastore, 1) := by decide +kernel
theorem dM_topUp_53 : decode bM_topUp 53 = .ok (.aload_n 0, 1) := by decide +kernel
theorem dM_topUp_54 : decode bM_topUp 54 = .ok (.iload_n 1, 1) := by decide +kernel
theorem dM_topUp_55 : decode bM_topUp 55 = .ok (.aload_n 0, 1) := by decide +kernel
theorem dM_topUp_56 : decode bM_topUp 56 = .ok (.iload_n 1, 1) := by decide +kernel
theorem dM_topUp_57 : decode bM_topUp 57 = .ok (.invokevirtual 68, 3) := by decide +kernel
theorem dM_topUp_60 : decode bM_topUp 60 = .ok (.iconst 1, 1) := by decide +kernel
theorem dM_topUp_61 : decode bM_topUp 61 = .ok (.iadd, 1) := by decide +kernel
theorem dM_topUp_62 : decode bM_topUp 62 = .ok (.iconst 2, 1) := by decide +kernel
theorem dM_topUp_63 : decode bM_topUp 63 = .ok (.iload_n 2, 1) := by decide +kernel
theorem dM_topUp_64 : decode bM_topUp 64 = .ok (.aload_n 0, 1) := by decide +kernel
theorem dM_topUp_65 : decode bM_topUp 65 = .ok (.getfield 19, 3) := by decide +kernel
theorem dM_topUp_68 : decode bM_topUp 68 = .ok (.iconst 0, 1) := by decide +kernel
theorem dM_topUp_69 : decode bM_topUp 69 = .ok (.iaload, 1) := by decide +kernel
theorem dM_topUp_70 : decode bM_topUp 70 = .ok (.invokevirtual 98, 3) := by decide +kernel
theorem dM_topUp_73 : decode bM_topUp 73 = .ok (.aload_n 0, 1) := by decide +kernel
theorem dM_topUp_74 : decode bM_topUp 74 = .ok (.iload_n 1, 1) := by decide +kernel
theorem dM_topUp_75 : decode bM_topUp 75 = .ok (.bipush 8, 2) := by decide +kernel
theorem dM_topUp_77 : decode bM_topUp 77 = .ok (.invokevirtual 82, 3) := by decide +kernel
theorem dM_topUp_80 : decode bM_topUp 80 = .ok (.aload_n 0, 1) := by decide +kernel
theorem dM_topUp_81 : decode bM_topUp 81 = .ok (.getfield 19, 3) := by decide +kernel
theorem dM_topUp_84 : decode bM_topUp 84 = .ok (.iconst 0, 1) := by decide +kernel
theorem dM_topUp_85 : decode bM_topUp 85 = .ok (.iaload, 1) := by decide +kernel
theorem dM_topUp_86 : decode bM_topUp 86 = .ok (.ireturn, 1) := by decide +kernel
theorem dM_enterOffice_0 : decode bM_enterOffice 0 = .ok (.aload_n 0, 1) := by decide +kernel
theorem dM_enterOffice_1 : decode bM_enterOffice 1 = .ok (.getfield 44, 3) := by decide +kernel
theorem dM_enterOffice_4 : decode bM_enterOffice 4 = .ok (.sipush 520, 3) := by decide +kernel
theorem dM_enterOffice_7 : decode bM_enterOffice 7 = .ok (.iload_n 1, 1) := by decide +kernel
theorem dM_enterOffice_8 : decode bM_enterOffice 8 = .ok (.imul, 1) := by decide +kernel
theorem dM_enterOffice_9 : decode bM_enterOffice 9 = .ok (.iload_n 2, 1) := by decide +kernel
theorem dM_enterOffice_10 : decode bM_enterOffice 10 = .ok (.iadd, 1) := by decide +kernel
theorem dM_enterOffice_11 : decode bM_enterOffice 11 = .ok (.iload_n 3, 1) := by decide +kernel
theorem dM_enterOffice_12 : decode bM_enterOffice 12 = .ok (.iastore, 1) := by decide +kernel
theorem dM_enterOffice_13 : decode bM_enterOffice 13 = .ok (.aload_n 0, 1) := by decide +kernel
theorem dM_enterOffice_14 : decode bM_enterOffice 14 = .ok (.getfield 47, 3) := by decide +kernel
theorem dM_enterOffice_17 : decode bM_enterOffice 17 = .ok (.sipush 520, 3) := by decide +kernel
theorem dM_enterOffice_20 : decode bM_enterOffice 20 = .ok (.iload_n 1, 1) := by decide +kernel
theorem dM_enterOffice_21 : decode bM_enterOffice 21 = .ok (.imul, 1) := by decide +kernel
theorem dM_enterOffice_22 : decode bM_enterOffice 22 = .ok (.iload_n 2, 1) := by decide +kernel
theorem dM_enterOffice_23 : decode bM_enterOffice 23 = .ok (.iadd, 1) := by decide +kernel
theorem dM_enterOffice_24 : decode bM_enterOffice 24 = .ok (.iload 4, 2) := by decide +kernel
theorem dM_enterOffice_26 : decode bM_enterOffice 26 = .ok (.iastore, 1) := by decide +kernel
theorem dM_enterOffice_27 : decode bM_enterOffice 27 = .ok (.aload_n 0, 1) := by decide +kernel
theorem dM_enterOffice_28 : decode bM_enterOffice 28 = .ok (.getfield 50, 3) := by decide +kernel
theorem dM_enterOffice_31 : decode bM_enterOffice 31 = .ok (.sipush 520, 3) := by decide +kernel
theorem dM_enterOffice_34 : decode bM_enterOffice 34 = .ok (.iload_n 1, 1) := by decide +kernel
theorem dM_enterOffice_35 : decode bM_enterOffice 35 = .ok (.imul, 1) := by decide +kernel
theorem dM_enterOffice_36 : decode bM_enterOffice 36 = .ok (.iload_n 2, 1) := by decide +kernel
theorem dM_enterOffice_37 : decode bM_enterOffice 37 = .ok (.iadd, 1) := by decide +kernel
theorem dM_enterOffice_38 : decode bM_enterOffice 38 = .ok (.iload 5, 2) := by decide +kernel
theorem dM_enterOffice_40 : decode bM_enterOffice 40 = .ok (.iastore, 1) := by decide +kernel
theorem dM_enterOffice_41 : decode bM_enterOffice 41 = .ok (.return_, 1) := by decide +kernel
theorem dM_upload_0 : decode bM_upload 0 = .ok (.iload_n 1, 1) := by decide +kernel
theorem dM_upload_1 : decode bM_upload 1 = .ok (.iconst 0, 1) := by decide +kernel
theorem dM_upload_2 : decode bM_upload 2 = .ok (.iconst 3, 1) := by decide +kernel
theorem dM_upload_3 : decode bM_upload 3 = .ok (.invokestatic 53, 3) := by decide +kernel
theorem dM_upload_6 : decode bM_upload 6 = .ok (.ifCond .ne 5, 3) := by decide +kernel
theorem dM_upload_9 : decode bM_upload 9 = .ok (.iconst (-1), 1) := by decide +kernel
theorem dM_upload_10 : decode bM_upload 10 = .ok (.ireturn, 1) := by decide +kernel
theorem dM_upload_11 : decode bM_upload 11 = .ok (.iload_n 2, 1) := by decide +kernel
theorem dM_upload_12 : decode bM_upload 12 = .ok (.ifCond .eq 5, 3) := by decide +kernel
theorem dM_upload_15 : decode bM_upload 15 = .ok (.iconst 0, 1) := by decide +kernel
theorem dM_upload_16 : decode bM_upload 16 = .ok (.ireturn, 1) := by decide +kernel
theorem dM_upload_17 : decode bM_upload 17 = .ok (.aload_n 0, 1) := by decide +kernel
theorem dM_upload_18 : decode bM_upload 18 = .ok (.getfield 32, 3) := by decide +kernel
theorem dM_upload_21 : decode bM_upload 21 = .ok (.iload_n 1, 1) := by decide +kernel
theorem dM_upload_22 : decode bM_upload 22 = .ok (.iaload, 1) := by decide +kernel
theorem dM_upload_23 : decode bM_upload 23 = .ok (.istore_n 3, 1) := by decide +kernel
theorem dM_upload_24 : decode bM_upload 24 = .ok (.iconst 0, 1) := by decide +kernel
theorem dM_upload_25 : decode bM_upload 25 = .ok (.istore 4, 2) := by decide +kernel
theorem dM_upload_27 : decode bM_upload 27 = .ok (.iload 4, 2) := by decide +kernel
theorem dM_upload_29 : decode bM_upload 29 = .ok (.iload_n 3, 1) := by decide +kernel
theorem dM_upload_30 : decode bM_upload 30 = .ok (.if_icmp .ge 77, 3) := by decide +kernel
theorem dM_upload_33 : decode bM_upload 33 = .ok (.bipush 32, 2) := by decide +kernel
theorem dM_upload_35 : decode bM_upload 35 = .ok (.iload_n 1, 1) := by decide +kernel
theorem dM_upload_36 : decode bM_upload 36 = .ok (.imul, 1) := by decide +kernel
theorem dM_upload_37 : decode bM_upload 37 = .ok (.iconst 4, 1) := by decide +kernel
theorem dM_upload_38 : decode bM_upload 38 = .ok (.iload 4, 2) := by decide +kernel
theorem dM_upload_40 : decode bM_upload 40 = .ok (.imul, 1) := by decide +kernel
theorem dM_upload_41 : decode bM_upload 41 = .ok (.iadd, 1) := by decide +kernel
theorem dM_upload_42 : decode bM_upload 42 = .ok (.istore 5, 2) := by decide +kernel
theorem dM_upload_44 : decode bM_upload 44 = .ok (.aload_n 0, 1) := by decide +kernel
theorem dM_upload_45 : decode bM_upload 45 = .ok (.aload_n 0, 1) := by decide +kernel
theorem dM_upload_46 : decode bM_upload 46 = .ok (.getfield 29, 3) := by decide +kernel
theorem dM_upload_49 : decode bM_upload 49 = .ok (.iload 5, 2) := by decide +kernel
theorem dM_upload_51 : decode bM_upload 51 = .ok (.iaload, 1) := by decide +kernel
theorem dM_upload_52 : decode bM_upload 52 = .ok (.aload_n 0, 1) := by decide +kernel
theorem dM_upload_53 : decode bM_upload 53 = .ok (.getfield 29, 3) := by decide +kernel
theorem dM_upload_56 : decode bM_upload 56 = .ok (.iload 5, 2) := by decide +kernel
theorem dM_upload_58 : decode bM_upload 58 = .ok (.iconst 1, 1) := by decide +kernel
theorem dM_upload_59 : decode bM_upload 59 = .ok (.iadd, 1) := by decide +kernel
theorem dM_upload_60 : decode bM_upload 60 = .ok (.iaload, 1) := by decide +kernel
theorem dM_upload_61 : decode bM_upload 61 = .ok (.iconst 1, 1) := by decide +kernel
theorem dM_upload_62 : decode bM_upload 62 = .ok (.aload_n 0, 1) := by decide +kernel
theorem dM_upload_63 : decode bM_upload 63 = .ok (.getfield 29, 3) := by decide +kernel
theorem dM_upload_66 : decode bM_upload 66 = .ok (.iload 5, 2) := by decide +kernel
theorem dM_upload_68 : decode bM_upload 68 = .ok (.iconst 2, 1) := by decide +kernel
theorem dM_upload_69 : decode bM_upload 69 = .ok (.iadd, 1) := by decide +kernel
theorem dM_upload_70 : decode bM_upload 70 = .ok (.iaload, 1) := by decide +kernel
theorem dM_upload_71 : decode bM_upload 71 = .ok (.aload_n 0, 1) := by decide +kernel
theorem dM_upload_72 : decode bM_upload 72 = .ok (.getfield 29, 3) := by decide +kernel
theorem dM_upload_75 : decode bM_upload 75 = .ok (.iload 5, 2) := by decide +kernel
theorem dM_upload_77 : decode bM_upload 77 = .ok (.iconst 3, 1) := by decide +kernel
theorem dM_upload_78 : decode bM_upload 78 = .ok (.iadd, 1) := by decide +kernel
theorem dM_upload_79 : decode bM_upload 79 = .ok (.iaload, 1) := by decide +kernel
theorem dM_upload_80 : decode bM_upload 80 = .ok (.invokevirtual 98, 3) := by decide +kernel
theorem dM_upload_83 : decode bM_upload 83 = .ok (.aload_n 0, 1) := by decide +kernel
theorem dM_upload_84 : decode bM_upload 84 = .ok (.getfield 41, 3) := by decide +kernel
theorem dM_upload_87 : decode bM_upload 87 = .ok (.iload_n 1, 1) := by decide +kernel
theorem dM_upload_88 : decode bM_upload 88 = .ok (.dup2, 1) := by decide +kernel
theorem dM_upload_89 : decode bM_upload 89 = .ok (.iaload, 1) := by decide +kernel
theorem dM_upload_90 : decode bM_upload 90 = .ok (.aload_n 0, 1) := by decide +kernel
theorem dM_upload_91 : decode bM_upload 91 = .ok (.getfield 29, 3) := by decide +kernel
theorem dM_upload_94 : decode bM_upload 94 = .ok (.iload 5, 2) := by decide +kernel
theorem dM_upload_96 : decode bM_upload 96 = .ok (.iconst 2, 1) := by decide +kernel
theorem dM_upload_97 : decode bM_upload 97 = .ok (.iadd, 1) := by decide +kernel
theorem dM_upload_98 : decode bM_upload 98 = .ok (.iaload, 1) := by decide +kernel
theorem dM_upload_99 : decode bM_upload 99 = .ok (.iadd, 1) := by decide +kernel
theorem dM_upload_100 : decode bM_upload 100 = .ok (.iastore, 1) := by decide +kernel
theorem dM_upload_101 : decode bM_upload 101 = .ok (.iinc 4 1, 3) := by decide +kernel
theorem dM_upload_104 : decode bM_upload 104 = .ok (.goto (-77), 3) := by decide +kernel
theorem dM_upload_107 : decode bM_upload 107 = .ok (.aload_n 0, 1) := by decide +kernel
theorem dM_upload_108 : decode bM_upload 108 = .ok (.getfield 32, 3) := by decide +kernel
theorem dM_upload_111 : decode bM_upload 111 = .ok (.iload_n 1, 1) := by decide +kernel
theorem dM_upload_112 : decode bM_upload 112 = .ok (.iconst 0, 1) := by decide +kernel
theorem dM_upload_113 : decode bM_upload 113 = .ok (.iastore, 1) := by decide +kernel
theorem dM_upload_114 : decode bM_upload 114 = .ok (.iconst 0, 1) := by decide +kernel
theorem dM_upload_115 : decode bM_upload 115 = .ok (.istore 4, 2) := by decide +kernel
theorem dM_upload_117 : decode bM_upload 117 = .ok (.iload 4, 2) := by decide +kernel
theorem dM_upload_119 : decode bM_upload 119 = .ok (.iconst 4, 1) := by decide +kernel
theorem dM_upload_120 : decode bM_upload 120 = .ok (.if_icmp .ge 27, 3) := by decide +kernel
theorem dM_upload_123 : decode bM_upload 123 = .ok (.aload_n 0, 1) := by decide +kernel
theorem dM_upload_124 : decode bM_upload 124 = .ok (.getfield 35, 3) := by decide +kernel
theorem dM_upload_127 : decode bM_upload 127 = .ok (.iconst 4, 1) := by decide +kernel
theorem dM_upload_128 : decode bM_upload 128 = .ok (.iload_n 1, 1) := by decide +kernel
theorem dM_upload_129 : decode bM_upload 129 = .ok (.imul, 1) := by decide +kernel
theorem dM_upload_130 : decode bM_upload 130 = .ok (.iload 4, 2) := by decide +kernel
theorem dM_upload_132 : decode bM_upload 132 = .ok (.iadd, 1) := by decide +kernel
theorem dM_upload_133 : decode bM_upload 133 = .ok (.aload_n 0, 1) := by decide +kernel
theorem dM_upload_134 : decode bM_upload 134 = .ok (.getfield 38, 3) := by decide +kernel
theorem dM_upload_137 : decode bM_upload 137 = .ok (.iload 4, 2) := by decide +kernel
theorem dM_upload_139 : decode bM_upload 139 = .ok (.baload, 1) := by decide +kernel
theorem dM_upload_140 : decode bM_upload 140 = .ok (.bastore, 1) := by decide +kernel
theorem dM_upload_141 : decode bM_upload 141 = .ok (.iinc 4 1, 3) := by decide +kernel
theorem dM_upload_144 : decode bM_upload 144 = .ok (.goto (-27), 3) := by decide +kernel
theorem dM_upload_147 : decode bM_upload 147 = .ok (.iload_n 3, 1) := by decide +kernel
theorem dM_upload_148 : decode bM_upload 148 = .ok (.ireturn, 1) := by decide +kernel
theorem dM_deny_0 : decode bM_deny 0 = .ok (.iload_n 1, 1) := by decide +kernel
theorem dM_deny_1 : decode bM_deny 1 = .ok (.iconst 0, 1) := by decide +kernel
theorem dM_deny_2 : decode bM_deny 2 = .ok (.iconst 3, 1) := by decide +kernel
theorem dM_deny_3 : decode bM_deny 3 = .ok (.invokestatic 53, 3) := by decide +kernel
theorem dM_deny_6 : decode bM_deny 6 = .ok (.ifCond .ne 5, 3) := by decide +kernel
theorem dM_deny_9 : decode bM_deny 9 = .ok (.iconst (-1), 1) := by decide +kernel
theorem dM_deny_10 : decode bM_deny 10 = .ok (.ireturn, 1) := by decide +kernel
theorem dM_deny_11 : decode bM_deny 11 = .ok (.aload_n 0, 1) := by decide +kernel
theorem dM_deny_12 : decode bM_deny 12 = .ok (.getfield 38, 3) := by decide +kernel
theorem dM_deny_15 : decode bM_deny 15 = .ok (.iload_n 1, 1) := by decide +kernel
theorem dM_deny_16 : decode bM_deny 16 = .ok (.iload_n 2, 1) := by decide +kernel
theorem dM_deny_17 : decode bM_deny 17 = .ok (.bastore, 1) := by decide +kernel
theorem dM_deny_18 : decode bM_deny 18 = .ok (.iconst 0, 1) := by decide +kernel
theorem dM_deny_19 : decode bM_deny 19 = .ok (.ireturn, 1) := by decide +kernel
theorem dM_word_0 : decode bM_word 0 = .ok (.iload_n 1, 1) := by decide +kernel
theorem dM_word_1 : decode bM_word 1 = .ok (.iconst 0, 1) := by decide +kernel
theorem dM_word_2 : decode bM_word 2 = .ok (.iconst 3, 1) := by decide +kernel
theorem dM_word_3 : decode bM_word 3 = .ok (.invokestatic 53, 3) := by decide +kernel
theorem dM_word_6 : decode bM_word 6 = .ok (.ifCond .eq 41, 3) := by decide +kernel
theorem dM_word_9 : decode bM_word 9 = .ok (.iload_n 2, 1) := by decide +kernel
theorem dM_word_10 : decode bM_word 10 = .ok (.iconst 0, 1) := by decide +kernel
theorem dM_word_11 : decode bM_word 11 = .ok (.iconst 1, 1) := by decide +kernel
theorem dM_word_12 : decode bM_word 12 = .ok (.invokestatic 53, 3) := by decide +kernel
theorem dM_word_15 : decode bM_word 15 = .ok (.ifCond .eq 32, 3) := by decide +kernel
theorem dM_word_18 : decode bM_word 18 = .ok (.iload_n 3, 1) := by decide +kernel
theorem dM_word_19 : decode bM_word 19 = .ok (.iconst 0, 1) := by decide +kernel
theorem dM_word_20 : decode bM_word 20 = .ok (.bipush 7, 2) := by decide +kernel
theorem dM_word_22 : decode bM_word 22 = .ok (.invokestatic 53, 3) := by decide +kernel
theorem dM_word_25 : decode bM_word 25 = .ok (.ifCond .eq 22, 3) := by decide +kernel
theorem dM_word_28 : decode bM_word 28 = .ok (.aload_n 0, 1) := by decide +kernel
theorem dM_word_29 : decode bM_word 29 = .ok (.getfield 16, 3) := by decide +kernel
theorem dM_word_32 : decode bM_word 32 = .ok (.bipush 16, 2) := by decide +kernel
theorem dM_word_34 : decode bM_word 34 = .ok (.iload_n 1, 1) := by decide +kernel
theorem dM_word_35 : decode bM_word 35 = .ok (.imul, 1) := by decide +kernel
theorem dM_word_36 : decode bM_word 36 = .ok (.bipush 8, 2) := by decide +kernel
theorem dM_word_38 : decode bM_word 38 = .ok (.iload_n 2, 1) := by decide +kernel
theorem dM_word_39 : decode bM_word 39 = .ok (.imul, 1) := by decide +kernel
theorem dM_word_40 : decode bM_word 40 = .ok (.iadd, 1) := by decide +kernel
theorem dM_word_41 : decode bM_word 41 = .ok (.iload_n 3, 1) := by decide +kernel
theorem dM_word_42 : decode bM_word 42 = .ok (.iadd, 1) := by decide +kernel
theorem dM_word_43 : decode bM_word 43 = .ok (.iaload, 1) := by decide +kernel
theorem dM_word_44 : decode bM_word 44 = .ok (.goto 4, 3) := by decide +kernel
theorem dM_word_47 : decode bM_word 47 = .ok (.iconst (-1), 1) := by decide +kernel
theorem dM_word_48 : decode bM_word 48 = .ok (.ireturn, 1) := by decide +kernel
end
section
theorem dM_card_0 : decode bM_card 0 = .ok (.iload_n 1, 1) := by decide +kernel
theorem dM_card_1 : decode bM_card 1 = .ok (.iconst 0, 1) := by decide +kernel
theorem dM_card_2 : decode bM_card 2 = .ok (.iconst 3, 1) := by decide +kernel
theorem dM_card_3 : decode bM_card 3 = .ok (.invokestatic 53, 3) := by decide +kernel
theorem dM_card_6 : decode bM_card 6 = .ok (.ifCond .eq 13, 3) := by decide +kernel
theorem dM_card_9 : decode bM_card 9 = .ok (.iload_n 2, 1) := by decide +kernel
theorem dM_card_10 : decode bM_card 10 = .ok (.iconst 0, 1) := by decide +kernel
theorem dM_card_11 : decode bM_card 11 = .ok (.bipush 7, 2) := by decide +kernel
theorem dM_card_13 : decode bM_card 13 = .ok (.invokestatic 53, 3) := by decide +kernel
theorem dM_card_16 : decode bM_card 16 = .ok (.ifCond .ne 5, 3) := by decide +kernel
theorem dM_card_19 : decode bM_card 19 = .ok (.iconst (-1), 1) := by decide +kernel
theorem dM_card_20 : decode bM_card 20 = .ok (.ireturn, 1) := by decide +kernel
theorem dM_card_21 : decode bM_card 21 = .ok (.iload_n 2, 1) := by decide +kernel
theorem dM_card_22 : decode bM_card 22 = .ok (.bipush 6, 2) := by decide +kernel
theorem dM_card_24 : decode bM_card 24 = .ok (.if_icmp .ne 11, 3) := by decide +kernel
theorem dM_card_27 : decode bM_card 27 = .ok (.aload_n 0, 1) := by decide +kernel
theorem dM_card_28 : decode bM_card 28 = .ok (.iload_n 1, 1) := by decide +kernel
theorem dM_card_29 : decode bM_card 29 = .ok (.invokevirtual 68, 3) := by decide +kernel
theorem dM_card_32 : decode bM_card 32 = .ok (.goto 29, 3) := by decide +kernel
theorem dM_card_35 : decode bM_card 35 = .ok (.iload_n 2, 1) := by decide +kernel
theorem dM_card_36 : decode bM_card 36 = .ok (.bipush 7, 2) := by decide +kernel
theorem dM_card_38 : decode bM_card 38 = .ok (.if_icmp .ne 11, 3) := by decide +kernel
theorem dM_card_41 : decode bM_card 41 = .ok (.aload_n 0, 1) := by decide +kernel
theorem dM_card_42 : decode bM_card 42 = .ok (.iload_n 1, 1) := by decide +kernel
theorem dM_card_43 : decode bM_card 43 = .ok (.invokevirtual 65, 3) := by decide +kernel
theorem dM_card_46 : decode bM_card 46 = .ok (.goto 15, 3) := by decide +kernel
theorem dM_card_49 : decode bM_card 49 = .ok (.aload_n 0, 1) := by decide +kernel
theorem dM_card_50 : decode bM_card 50 = .ok (.getfield 16, 3) := by decide +kernel
theorem dM_card_53 : decode bM_card 53 = .ok (.aload_n 0, 1) := by decide +kernel
theorem dM_card_54 : decode bM_card 54 = .ok (.iload_n 1, 1) := by decide +kernel
theorem dM_card_55 : decode bM_card 55 = .ok (.invokevirtual 61, 3) := by decide +kernel
theorem dM_card_58 : decode bM_card 58 = .ok (.iload_n 2, 1) := by decide +kernel
theorem dM_card_59 : decode bM_card 59 = .ok (.iadd, 1) := by decide +kernel
theorem dM_card_60 : decode bM_card 60 = .ok (.iaload, 1) := by decide +kernel
theorem dM_card_61 : decode bM_card 61 = .ok (.ireturn, 1) := by decide +kernel
theorem dM_logged_0 : decode bM_logged 0 = .ok (.iload_n 1, 1) := by decide +kernel
theorem dM_logged_1 : decode bM_logged 1 = .ok (.iconst 0, 1) := by decide +kernel
theorem dM_logged_2 : decode bM_logged 2 = .ok (.iconst 3, 1) := by decide +kernel
theorem dM_logged_3 : decode bM_logged 3 = .ok (.invokestatic 53, 3) := by decide +kernel
theorem dM_logged_6 : decode bM_logged 6 = .ok (.ifCond .eq 44, 3) := by decide +kernel
theorem dM_logged_9 : decode bM_logged 9 = .ok (.iload_n 2, 1) := by decide +kernel
theorem dM_logged_10 : decode bM_logged 10 = .ok (.ifCond .lt 40, 3) := by decide +kernel
theorem dM_logged_13 : decode bM_logged 13 = .ok (.iload_n 2, 1) := by decide +kernel
theorem dM_logged_14 : decode bM_logged 14 = .ok (.aload_n 0, 1) := by decide +kernel
theorem dM_logged_15 : decode bM_logged 15 = .ok (.getfield 32, 3) := by decide +kernel
theorem dM_logged_18 : decode bM_logged 18 = .ok (.iload_n 1, 1) := by decide +kernel
theorem dM_logged_19 : decode bM_logged 19 = .ok (.iaload, 1) := by decide +kernel
theorem dM_logged_20 : decode bM_logged 20 = .ok (.if_icmp .ge 30, 3) := by decide +kernel
theorem dM_logged_23 : decode bM_logged 23 = .ok (.iload_n 3, 1) := by decide +kernel
theorem dM_logged_24 : decode bM_logged 24 = .ok (.iconst 0, 1) := by decide +kernel
theorem dM_logged_25 : decode bM_logged 25 = .ok (.iconst 3, 1) := by decide +kernel
theorem dM_logged_26 : decode bM_logged 26 = .ok (.invokestatic 53, 3) := by decide +kernel
theorem dM_logged_29 : decode bM_logged 29 = .ok (.ifCond .eq 21, 3) := by decide +kernel
theorem dM_logged_32 : decode bM_logged 32 = .ok (.aload_n 0, 1) := by decide +kernel
theorem dM_logged_33 : decode bM_logged 33 = .ok (.getfield 29, 3) := by decide +kernel
theorem dM_logged_36 : decode bM_logged 36 = .ok (.bipush 32, 2) := by decide +kernel
theorem dM_logged_38 : decode bM_logged 38 = .ok (.iload_n 1, 1) := by decide +kernel
theorem dM_logged_39 : decode bM_logged 39 = .ok (.imul, 1) := by decide +kernel
theorem dM_logged_40 : decode bM_logged 40 = .ok (.iconst 4, 1) := by decide +kernel
theorem dM_logged_41 : decode bM_logged 41 = .ok (.iload_n 2, 1) := by decide +kernel
theorem dM_logged_42 : decode bM_logged 42 = .ok (.imul, 1) := by decide +kernel
theorem dM_logged_43 : decode bM_logged 43 = .ok (.iadd, 1) := by decide +kernel
theorem dM_logged_44 : decode bM_logged 44 = .ok (.iload_n 3, 1) := by decide +kernel
theorem dM_logged_45 : decode bM_logged 45 = .ok (.iadd, 1) := by decide +kernel
theorem dM_logged_46 : decode bM_logged 46 = .ok (.iaload, 1) := by decide +kernel
theorem dM_logged_47 : decode bM_logged 47 = .ok (.goto 4, 3) := by decide +kernel
theorem dM_logged_50 : decode bM_logged 50 = .ok (.iconst (-1), 1) := by decide +kernel
theorem dM_logged_51 : decode bM_logged 51 = .ok (.ireturn, 1) := by decide +kernel
theorem dM_office_0 : decode bM_office 0 = .ok (.iload_n 1, 1) := by decide +kernel
theorem dM_office_1 : decode bM_office 1 = .ok (.iconst 0, 1) := by decide +kernel
theorem dM_office_2 : decode bM_office 2 = .ok (.iconst 3, 1) := by decide +kernel
theorem dM_office_3 : decode bM_office 3 = .ok (.invokestatic 53, 3) := by decide +kernel
theorem dM_office_6 : decode bM_office 6 = .ok (.ifCond .ne 5, 3) := by decide +kernel
theorem dM_office_9 : decode bM_office 9 = .ok (.iconst (-1), 1) := by decide +kernel
theorem dM_office_10 : decode bM_office 10 = .ok (.ireturn, 1) := by decide +kernel
theorem dM_office_11 : decode bM_office 11 = .ok (.iload_n 2, 1) := by decide +kernel
theorem dM_office_12 : decode bM_office 12 = .ok (.tableswitch 84 0 5 #[40, 46, 52, 64, 70, 77], 40) := by decide +kernel
theorem dM_office_52 : decode bM_office 52 = .ok (.aload_n 0, 1) := by decide +kernel
theorem dM_office_53 : decode bM_office 53 = .ok (.iload_n 1, 1) := by decide +kernel
theorem dM_office_54 : decode bM_office 54 = .ok (.invokevirtual 102, 3) := by decide +kernel
theorem dM_office_57 : decode bM_office 57 = .ok (.ireturn, 1) := by decide +kernel
theorem dM_office_58 : decode bM_office 58 = .ok (.aload_n 0, 1) := by decide +kernel
theorem dM_office_59 : decode bM_office 59 = .ok (.iload_n 1, 1) := by decide +kernel
theorem dM_office_60 : decode bM_office 60 = .ok (.invokevirtual 105, 3) := by decide +kernel
theorem dM_office_63 : decode bM_office 63 = .ok (.ireturn, 1) := by decide +kernel
theorem dM_office_64 : decode bM_office 64 = .ok (.aload_n 0, 1) := by decide +kernel
theorem dM_office_65 : decode bM_office 65 = .ok (.iload_n 1, 1) := by decide +kernel
theorem dM_office_66 : decode bM_office 66 = .ok (.invokevirtual 105, 3) := by decide +kernel
theorem dM_office_69 : decode bM_office 69 = .ok (.aload_n 0, 1) := by decide +kernel
theorem dM_office_70 : decode bM_office 70 = .ok (.iload_n 1, 1) := by decide +kernel
theorem dM_office_71 : decode bM_office 71 = .ok (.invokevirtual 102, 3) := by decide +kernel
theorem dM_office_74 : decode bM_office 74 = .ok (.isub, 1) := by decide +kernel
theorem dM_office_75 : decode bM_office 75 = .ok (.ireturn, 1) := by decide +kernel
theorem dM_office_76 : decode bM_office 76 = .ok (.aload_n 0, 1) := by decide +kernel
theorem dM_office_77 : decode bM_office 77 = .ok (.iload_n 1, 1) := by decide +kernel
theorem dM_office_78 : decode bM_office 78 = .ok (.invokevirtual 108, 3) := by decide +kernel
theorem dM_office_81 : decode bM_office 81 = .ok (.ireturn, 1) := by decide +kernel
theorem dM_office_82 : decode bM_office 82 = .ok (.aload_n 0, 1) := by decide +kernel
theorem dM_office_83 : decode bM_office 83 = .ok (.iload_n 1, 1) := by decide +kernel
theorem dM_office_84 : decode bM_office 84 = .ok (.iconst 1, 1) := by decide +kernel
theorem dM_office_85 : decode bM_office 85 = .ok (.invokevirtual 111, 3) := by decide +kernel
theorem dM_office_88 : decode bM_office 88 = .ok (.ireturn, 1) := by decide +kernel
theorem dM_office_89 : decode bM_office 89 = .ok (.aload_n 0, 1) := by decide +kernel
theorem dM_office_90 : decode bM_office 90 = .ok (.iload_n 1, 1) := by decide +kernel
theorem dM_office_91 : decode bM_office 91 = .ok (.iconst 2, 1) := by decide +kernel
theorem dM_office_92 : decode bM_office 92 = .ok (.invokevirtual 111, 3) := by decide +kernel
theorem dM_office_95 : decode bM_office 95 = .ok (.ireturn, 1) := by decide +kernel
theorem dM_office_96 : decode bM_office 96 = .ok (.iconst (-1), 1) := by decide +kernel
theorem dM_office_97 : decode bM_office 97 = .ok (.ireturn, 1) := by decide +kernel
theorem dM_known_0 : decode bM_known 0 = .ok (.iconst 0, 1) := by decide +kernel
theorem dM_known_1 : decode bM_known 1 = .ok (.istore_n 2, 1) := by decide +kernel
theorem dM_known_2 : decode bM_known 2 = .ok (.iconst 0, 1) := by decide +kernel
theorem dM_known_3 : decode bM_known 3 = .ok (.istore_n 3, 1) := by decide +kernel
theorem dM_known_4 : decode bM_known 4 = .ok (.iload_n 3, 1) := by decide +kernel
theorem dM_known_5 : decode bM_known 5 = .ok (.sipush 520, 3) := by decide +kernel
theorem dM_known_8 : decode bM_known 8 = .ok (.if_icmp .ge 27, 3) := by decide +kernel
theorem dM_known_11 : decode bM_known 11 = .ok (.aload_n 0, 1) := by decide +kernel
theorem dM_known_12 : decode bM_known 12 = .ok (.getfield 44, 3) := by decide +kernel
theorem dM_known_15 : decode bM_known 15 = .ok (.sipush 520, 3) := by decide +kernel
theorem dM_known_18 : decode bM_known 18 = .ok (.iload_n 1, 1) := by decide +kernel
theorem dM_known_19 : decode bM_known 19 = .ok (.imul, 1) := by decide +kernel
theorem dM_known_20 : decode bM_known 20 = .ok (.iload_n 3, 1) := by decide +kernel
theorem dM_known_21 : decode bM_known 21 = .ok (.iadd, 1) := by decide +kernel
theorem dM_known_22 : decode bM_known 22 = .ok (.iaload, 1) := by decide +kernel
theorem dM_known_23 : decode bM_known 23 = .ok (.ifCond .le 6, 3) := by decide +kernel
theorem dM_known_26 : decode bM_known 26 = .ok (.iinc 2 1, 3) := by decide +kernel
theorem dM_known_29 : decode bM_known 29 = .ok (.iinc 3 1, 3) := by decide +kernel
theorem dM_known_32 : decode bM_known 32 = .ok (.goto (-28), 3) := by decide +kernel
theorem dM_known_35 : decode bM_known 35 = .ok (.iload_n 2, 1) := by decide +kernel
theorem dM_known_36 : decode bM_known 36 = .ok (.ireturn, 1) := by decide +kernel
theorem dM_greatest_0 : decode bM_greatest 0 = .ok (.iconst 0, 1) := by decide +kernel
theorem dM_greatest_1 : decode bM_greatest 1 = .ok (.istore_n 2, 1) := by decide +kernel
theorem dM_greatest_2 : decode bM_greatest 2 = .ok (.iconst 0, 1) := by decide +kernel
theorem dM_greatest_3 : decode bM_greatest 3 = .ok (.istore_n 3, 1) := by decide +kernel
theorem dM_greatest_4 : decode bM_greatest 4 = .ok (.iload_n 3, 1) := by decide +kernel
theorem dM_greatest_5 : decode bM_greatest 5 = .ok (.sipush 520, 3) := by decide +kernel
theorem dM_greatest_8 : decode bM_greatest 8 = .ok (.if_icmp .ge 26, 3) := by decide +kernel
theorem dM_greatest_11 : decode bM_greatest 11 = .ok (.aload_n 0, 1) := by decide +kernel
theorem dM_greatest_12 : decode bM_greatest 12 = .ok (.getfield 44, 3) := by decide +kernel
theorem dM_greatest_15 : decode bM_greatest 15 = .ok (.sipush 520, 3) := by decide +kernel
theorem dM_greatest_18 : decode bM_greatest 18 = .ok (.iload_n 1, 1) := by decide +kernel
theorem dM_greatest_19 : decode bM_greatest 19 = .ok (.imul, 1) := by decide +kernel
theorem dM_greatest_20 : decode bM_greatest 20 = .ok (.iload_n 3, 1) := by decide +kernel
theorem dM_greatest_21 : decode bM_greatest 21 = .ok (.iadd, 1) := by decide +kernel
theorem dM_greatest_22 : decode bM_greatest 22 = .ok (.iaload, 1) := by decide +kernel
theorem dM_greatest_23 : decode bM_greatest 23 = .ok (.ifCond .le 5, 3) := by decide +kernel
theorem dM_greatest_26 : decode bM_greatest 26 = .ok (.iload_n 3, 1) := by decide +kernel
theorem dM_greatest_27 : decode bM_greatest 27 = .ok (.istore_n 2, 1) := by decide +kernel
theorem dM_greatest_28 : decode bM_greatest 28 = .ok (.iinc 3 1, 3) := by decide +kernel
theorem dM_greatest_31 : decode bM_greatest 31 = .ok (.goto (-27), 3) := by decide +kernel
theorem dM_greatest_34 : decode bM_greatest 34 = .ok (.iload_n 2, 1) := by decide +kernel
theorem dM_greatest_35 : decode bM_greatest 35 = .ok (.ireturn, 1) := by decide +kernel
theorem dM_lost_0 : decode bM_lost 0 = .ok (.iconst 0, 1) := by decide +kernel
theorem dM_lost_1 : decode bM_lost 1 = .ok (.istore_n 2, 1) := by decide +kernel
theorem dM_lost_2 : decode bM_lost 2 = .ok (.iconst 0, 1) := by decide +kernel
theorem dM_lost_3 : decode bM_lost 3 = .ok (.istore_n 3, 1) := by decide +kernel
theorem dM_lost_4 : decode bM_lost 4 = .ok (.iconst 0, 1) := by decide +kernel
theorem dM_lost_5 : decode bM_lost 5 = .ok (.istore 4, 2) := by decide +kernel
theorem dM_lost_7 : decode bM_lost 7 = .ok (.iconst 1, 1) := by decide +kernel
theorem dM_lost_8 : decode bM_lost 8 = .ok (.istore 5, 2) := by decide +kernel
theorem dM_lost_10 : decode bM_lost 10 = .ok (.iload 5, 2) := by decide +kernel
theorem dM_lost_12 : decode bM_lost 12 = .ok (.sipush 520, 3) := by decide +kernel
theorem dM_lost_15 : decode bM_lost 15 = .ok (.if_icmp .ge 106, 3) := by decide +kernel
theorem dM_lost_18 : decode bM_lost 18 = .ok (.sipush 520, 3) := by decide +kernel
theorem dM_lost_21 : decode bM_lost 21 = .ok (.iload_n 1, 1) := by decide +kernel
theorem dM_lost_22 : decode bM_lost 22 = .ok (.imul, 1) := by decide +kernel
theorem dM_lost_23 : decode bM_lost 23 = .ok (.iload 5, 2) := by decide +kernel
theorem dM_lost_25 : decode bM_lost 25 = .ok (.iadd, 1) := by decide +kernel
theorem dM_lost_26 : decode bM_lost 26 = .ok (.istore 6, 2) := by decide +kernel
theorem dM_lost_28 : decode bM_lost 28 = .ok (.aload_n 0, 1) := by decide +kernel
theorem dM_lost_29 : decode bM_lost 29 = .ok (.getfield 44, 3) := by decide +kernel
theorem dM_lost_32 : decode bM_lost 32 = .ok (.iload 6, 2) := by decide +kernel
theorem dM_lost_34 : decode bM_lost 34 = .ok (.iaload, 1) := by decide +kernel
theorem dM_lost_35 : decode bM_lost 35 = .ok (.ifCond .ne 6, 3) := by decide +kernel
theorem dM_lost_38 : decode bM_lost 38 = .ok (.goto 77, 3) := by decide +kernel
theorem dM_lost_41 : decode bM_lost 41 = .ok (.aload_n 0, 1) := by decide +kernel
theorem dM_lost_42 : decode bM_lost 42 = .ok (.getfield 44, 3) := by decide +kernel
theorem dM_lost_45 : decode bM_lost 45 = .ok (.iload 6, 2) := by decide +kernel
theorem dM_lost_47 : decode bM_lost 47 = .ok (.iaload, 1) := by decide +kernel
theorem dM_lost_48 : decode bM_lost 48 = .ok (.iconst 1, 1) := by decide +kernel
theorem dM_lost_49 : decode bM_lost 49 = .ok (.if_icmp .ne 21, 3) := by decide +kernel
theorem dM_lost_52 : decode bM_lost 52 = .ok (.aload_n 0, 1) := by decide +kernel
theorem dM_lost_53 : decode bM_lost 53 = .ok (.getfield 50, 3) := by decide +kernel
theorem dM_lost_56 : decode bM_lost 56 = .ok (.iload 6, 2) := by decide +kernel
theorem dM_lost_58 : decode bM_lost 58 = .ok (.iaload, 1) := by decide +kernel
theorem dM_lost_59 : decode bM_lost 59 = .ok (.aload_n 0, 1) := by decide +kernel
theorem dM_lost_60 : decode bM_lost 60 = .ok (.getfield 47, 3) := by decide +kernel
theorem dM_lost_63 : decode bM_lost 63 = .ok (.iload 6, 2) := by decide +kernel
theorem dM_lost_65 : decode bM_lost 65 = .ok (.iaload, 1) := by decide +kernel
theorem dM_lost_66 : decode bM_lost 66 = .ok (.iadd, 1) := by decide +kernel
theorem dM_lost_67 : decode bM_lost 67 = .ok (.goto 18, 3) := by decide +kernel
theorem dM_lost_70 : decode bM_lost 70 = .ok (.aload_n 0, 1) := by decide +kernel
theorem dM_lost_71 : decode bM_lost 71 = .ok (.getfield 50, 3) := by decide +kernel
theorem dM_lost_74 : decode bM_lost 74 = .ok (.iload 6, 2) := by decide +kernel
theorem dM_lost_76 : decode bM_lost 76 = .ok (.iaload, 1) := by decide +kernel
theorem dM_lost_77 : decode bM_lost 77 = .ok (.aload_n 0, 1) := by decide +kernel
theorem dM_lost_78 : decode bM_lost 78 = .ok (.getfield 47, 3) := by decide +kernel
theorem dM_lost_81 : decode bM_lost 81 = .ok (.iload 6, 2) := by decide +kernel
theorem dM_lost_83 : decode bM_lost 83 = .ok (.iaload, 1) := by decide +kernel
theorem dM_lost_84 : decode bM_lost 84 = .ok (.isub, 1) := by decide +kernel
theorem dM_lost_85 : decode bM_lost 85 = .ok (.istore 7, 2) := by decide +kernel
theorem dM_lost_87 : decode bM_lost 87 = .ok (.iload 5, 2) := by decide +kernel
theorem dM_lost_89 : decode bM_lost 89 = .ok (.iload_n 3, 1) := by decide +kernel
theorem dM_lost_90 : decode bM_lost 90 = .ok (.iconst 1, 1) := by decide +kernel
theorem dM_lost_91 : decode bM_lost 91 = .ok (.iadd, 1) := by decide +kernel
theorem dM_lost_92 : decode bM_lost 92 = .ok (.if_icmp .eq 11, 3) := by decide +kernel
theorem dM_lost_95 : decode bM_lost 95 = .ok (.iload_n 2, 1) := by decide +kernel
theorem dM_lost_96 : decode bM_lost 96 = .ok (.iload 4, 2) := by decide +kernel
theorem dM_lost_98 : decode bM_lost 98 = .ok (.iload 7, 2) := by decide +kernel
theorem dM_lost_100 : decode bM_lost 100 = .ok (.isub, 1) := by decide +kernel
theorem dM_lost_101 : decode bM_lost 101 = .ok (.iadd, 1) := by decide +kernel
theorem dM_lost_102 : decode bM_lost 102 = .ok (.istore_n 2, 1) := by decide +kernel
theorem dM_lost_103 : decode bM_lost 103 = .ok (.iload 5, 2) := by decide +kernel
theorem dM_lost_105 : decode bM_lost 105 = .ok (.istore_n 3, 1) := by decide +kernel
theorem dM_lost_106 : decode bM_lost 106 = .ok (.aload_n 0, 1) := by decide +kernel
theorem dM_lost_107 : decode bM_lost 107 = .ok (.getfield 50, 3) := by decide +kernel
theorem dM_lost_110 : decode bM_lost 110 = .ok (.iload 6, 2) := by decide +kernel
theorem dM_lost_112 : decode bM_lost 112 = .ok (.iaload, 1) := by decide +kernel
theorem dM_lost_113 : decode bM_lost 113 = .ok (.istore 4, 2) := by decide +kernel
theorem dM_lost_115 : decode bM_lost 115 = .ok (.iinc 5 1, 3) := by decide +kernel
theorem dM_lost_118 : decode bM_lost 118 = .ok (.goto (-108), 3) := by decide +kernel
theorem dM_lost_121 : decode bM_lost 121 = .ok (.iload_n 2, 1) := by decide +kernel
theorem dM_lost_122 : decode bM_lost 122 = .ok (.ireturn, 1) := by decide +kernel
theorem dM_sum_0 : decode bM_sum 0 = .ok (.iconst 0, 1) := by decide +kernel
theorem dM_sum_1 : decode bM_sum 1 = .ok (.istore_n 3, 1) := by decide +kernel
theorem dM_sum_2 : decode bM_sum 2 = .ok (.iconst 0, 1) := by decide +kernel
theorem dM_sum_3 : decode bM_sum 3 = .ok (.istore 4, 2) := by decide +kernel
theorem dM_sum_5 : decode bM_sum 5 = .ok (.iload 4, 2) := by decide +kernel
theorem dM_sum_7 : decode bM_sum 7 = .ok (.sipush 520, 3) := by decide +kernel
theorem dM_sum_10 : decode bM_sum 10 = .ok (.if_icmp .ge 42, 3) := by decide +kernel
theorem dM_sum_13 : decode bM_sum 13 = .ok (.aload_n 0, 1) := by decide +kernel
theorem dM_sum_14 : decode bM_sum 14 = .ok (.getfield 44, 3) := by decide +kernel
theorem dM_sum_17 : decode bM_sum 17 = .ok (.sipush 520, 3) := by decide +kernel
theorem dM_sum_20 : decode bM_sum 20 = .ok (.iload_n 1, 1) := by decide +kernel
theorem dM_sum_21 : decode bM_sum 21 = .ok (.imul, 1) := by decide +kernel
theorem dM_sum_22 : decode bM_sum 22 = .ok (.iload 4, 2) := by decide +kernel
theorem dM_sum_24 : decode bM_sum 24 = .ok (.iadd, 1) := by decide +kernel
theorem dM_sum_25 : decode bM_sum 25 = .ok (.iaload, 1) := by decide +kernel
theorem dM_sum_26 : decode bM_sum 26 = .ok (.iload_n 2, 1) := by decide +kernel
theorem dM_sum_27 : decode bM_sum 27 = .ok (.if_icmp .ne 19, 3) := by decide +kernel
theorem dM_sum_30 : decode bM_sum 30 = .ok (.iload_n 3, 1) := by decide +kernel
theorem dM_sum_31 : decode bM_sum 31 = .ok (.aload_n 0, 1) := by decide +kernel
theorem dM_sum_32 : decode bM_sum 32 = .ok (.getfield 47, 3) := by decide +kernel
theorem dM_sum_35 : decode bM_sum 35 = .ok (.sipush 520, 3) := by decide +kernel
theorem dM_sum_38 : decode bM_sum 38 = .ok (.iload_n 1, 1) := by decide +kernel
theorem dM_sum_39 : decode bM_sum 39 = .ok (.imul, 1) := by decide +kernel
theorem dM_sum_40 : decode bM_sum 40 = .ok (.iload 4, 2) := by decide +kernel
theorem dM_sum_42 : decode bM_sum 42 = .ok (.iadd, 1) := by decide +kernel
theorem dM_sum_43 : decode bM_sum 43 = .ok (.iaload, 1) := by decide +kernel
theorem dM_sum_44 : decode bM_sum 44 = .ok (.iadd, 1) := by decide +kernel
theorem dM_sum_45 : decode bM_sum 45 = .ok (.istore_n 3, 1) := by decide +kernel
theorem dM_sum_46 : decode bM_sum 46 = .ok (.iinc 4 1, 3) := by decide +kernel
theorem dM_sum_49 : decode bM_sum 49 = .ok (.goto (-44), 3) := by decide +kernel
theorem dM_sum_52 : decode bM_sum 52 = .ok (.iload_n 3, 1) := by decide +kernel
theorem dM_sum_53 : decode bM_sum 53 = .ok (.ireturn, 1) := by decide +kernel
theorem dM_income_0 : decode bM_income 0 = .ok (.iload_n 1, 1) := by decide +kernel
theorem dM_income_1 : decode bM_income 1 = .ok (.iconst 0, 1) := by decide +kernel
theorem dM_income_2 : decode bM_income 2 = .ok (.iconst 3, 1) := by decide +kernel
theorem dM_income_3 : decode bM_income 3 = .ok (.invokestatic 53, 3) := by decide +kernel
theorem dM_income_6 : decode bM_income 6 = .ok (.ifCond .eq 12, 3) := by decide +kernel
theorem dM_income_9 : decode bM_income 9 = .ok (.aload_n 0, 1) := by decide +kernel
theorem dM_income_10 : decode bM_income 10 = .ok (.getfield 41, 3) := by decide +kernel
theorem dM_income_13 : decode bM_income 13 = .ok (.iload_n 1, 1) := by decide +kernel
theorem dM_income_14 : decode bM_income 14 = .ok (.iaload, 1) := by decide +kernel
theorem dM_income_15 : decode bM_income 15 = .ok (.goto 4, 3) := by decide +kernel
theorem dM_income_18 : decode bM_income 18 = .ok (.iconst (-1), 1) := by decide +kernel
theorem dM_income_19 : decode bM_income 19 = .ok (.ireturn, 1) := by decide +kernel
theorem dM_count_0 : decode bM_count 0 = .ok (.iconst 0, 1) := by decide +kernel
theorem dM_count_1 : decode bM_count 1 = .ok (.istore_n 2, 1) := by decide +kernel
theorem dM_count_2 : decode bM_count 2 = .ok (.iconst 0, 1) := by decide +kernel
theorem dM_count_3 : decode bM_count 3 = .ok (.istore_n 3, 1) := by decide +kernel
theorem dM_count_4 : decode bM_count 4 = .ok (.iconst 0, 1) := by decide +kernel
theorem dM_count_5 : decode bM_count 5 = .ok (.istore 4, 2) := by decide +kernel
theorem dM_count_7 : decode bM_count 7 = .ok (.iload 4, 2) := by decide +kernel
theorem dM_count_9 : decode bM_count 9 = .ok (.iconst 4, 1) := by decide +kernel
theorem dM_count_10 : decode bM_count 10 = .ok (.if_icmp .ge 32, 3) := by decide +kernel
theorem dM_count_13 : decode bM_count 13 = .ok (.iload_n 2, 1) := by decide +kernel
theorem dM_count_14 : decode bM_count 14 = .ok (.aload_n 0, 1) := by decide +kernel
theorem dM_count_15 : decode bM_count 15 = .ok (.getfield 32, 3) := by decide +kernel
theorem dM_count_18 : decode bM_count 18 = .ok (.iload 4, 2) := by decide +kernel
theorem dM_count_20 : decode bM_count 20 = .ok (.iaload, 1) := by decide +kernel
theorem dM_count_21 : decode bM_count 21 = .ok (.iadd, 1) := by decide +kernel
theorem dM_count_22 : decode bM_count 22 = .ok (.istore_n 2, 1) := by decide +kernel
theorem dM_count_23 : decode bM_count 23 = .ok (.aload_n 0, 1) := by decide +kernel
theorem dM_count_24 : decode bM_count 24 = .ok (.getfield 38, 3) := by decide +kernel
theorem dM_count_27 : decode bM_count 27 = .ok (.iload 4, 2) := by decide +kernel
theorem dM_count_29 : decode bM_count 29 = .ok (.baload, 1) := by decide +kernel
theorem dM_count_30 : decode bM_count 30 = .ok (.ifCond .eq 6, 3) := by decide +kernel
theorem dM_count_33 : decode bM_count 33 = .ok (.iinc 3 1, 3) := by decide +kernel
theorem dM_count_36 : decode bM_count 36 = .ok (.iinc 4 1, 3) := by decide +kernel
theorem dM_count_39 : decode bM_count 39 = .ok (.goto (-32), 3) := by decide +kernel
theorem dM_count_42 : decode bM_count 42 = .ok (.iload_n 1, 1) := by decide +kernel
theorem dM_count_43 : decode bM_count 43 = .ok (.ifCond .ne 10, 3) := by decide +kernel
theorem dM_count_46 : decode bM_count 46 = .ok (.aload_n 0, 1) := by decide +kernel
theorem dM_count_47 : decode bM_count 47 = .ok (.getfield 57, 3) := by decide +kernel
theorem dM_count_50 : decode bM_count 50 = .ok (.goto 34, 3) := by decide +kernel
theorem dM_count_53 : decode bM_count 53 = .ok (.iload_n 1, 1) := by decide +kernel
theorem dM_count_54 : decode bM_count 54 = .ok (.iconst 1, 1) := by decide +kernel
theorem dM_count_55 : decode bM_count 55 = .ok (.if_icmp .ne 7, 3) := by decide +kernel
theorem dM_count_58 : decode bM_count 58 = .ok (.iload_n 2, 1) := by decide +kernel
theorem dM_count_59 : decode bM_count 59 = .ok (.goto 25, 3) := by decide +kernel
theorem dM_count_62 : decode bM_count 62 = .ok (.iload_n 1, 1) := by decide +kernel
theorem dM_count_63 : decode bM_count 63 = .ok (.iconst 2, 1) := by decide +kernel
theorem dM_count_64 : decode bM_count 64 = .ok (.if_icmp .ne 10, 3) := by decide +kernel
theorem dM_count_67 : decode bM_count 67 = .ok (.aload_n 0, 1) := by decide +kernel
theorem dM_count_68 : decode bM_count 68 = .ok (.getfield 86, 3) := by decide +kernel
theorem dM_count_71 : decode bM_count 71 = .ok (.goto 13, 3) := by decide +kernel
theorem dM_count_74 : decode bM_count 74 = .ok (.iload_n 1, 1) := by decide +kernel
theorem dM_count_75 : decode bM_count 75 = .ok (.iconst 3, 1) := by decide +kernel
theorem dM_count_76 : decode bM_count 76 = .ok (.if_icmp .ne 7, 3) := by decide +kernel
theorem dM_count_79 : decode bM_count 79 = .ok (.iload_n 3, 1) := by decide +kernel
theorem dM_count_80 : decode bM_count 80 = .ok (.goto 4, 3) := by decide +kernel
theorem dM_count_83 : decode bM_count 83 = .ok (.iconst (-1), 1) := by decide +kernel
theorem dM_count_84 : decode bM_count 84 = .ok (.ireturn, 1) := by decide +kernel
end
section
def fw_tys (cA : Nat → ClassId) : List (ClassId × FieldType) := [(cA 0, .int), (cA 1, .array .int), (cA 2, .object "TapOffice$Card"), (cA 3, .object "TapOffice$Account"), (cA 4, .object "TapOffice$Validator"), (cA 5, .boolean)]
/-! TAG WORLDS (own rows): the cells of a family of objects, each by a tag (kind, i, j); all their ints are one function of tag and place. -/
abbrev fw_T : Type := Nat × Nat × Nat
abbrev fw_S : Type := fw_T → Nat → Int32
/-- a cell's shape: an array of numbers (its array class, its length), an array of references (class, length, targets), an object (its class, its fields: a reference to a tag, or the number at a place) -/
abbrev fw_H : Type := (Nat × Nat) ⊕ (Nat × Nat × (Nat → fw_T)) ⊕ (Nat × List (fw_T ⊕ Nat))
abbrev fw_X : Type := va_G × (Nat → ClassId) × (fw_T → Nat)
/-- another row at a tag; another number at a place of it -/
def fw_row (σ : fw_S) (t : fw_T) (r : Nat → Int32) : fw_S := fun u => if u = t then r else σ u
def fw_st (σ : fw_S) (t : fw_T) (k : Nat) (x : Int32) : fw_S := fw_row σ t (upd (σ t) k x)
def fw_fv (ad : fw_T → Nat) (r : Nat → Int32) (f : fw_T ⊕ Nat) : Value := match f with
  | .inl u => .ref (ad u)
  | .inr k => .int (r k)
def fw_ent (cA : Nat → ClassId) (ad : fw_T → Nat) (r : Nat → Int32) (h : fw_H) : va_E := match h with
  | .inl q => .inl (cA q.1, q.2, .inl r)
  | .inr (.inl q) => .inl (cA q.1, q.2.1, .inr (.inr (.inr (.inr (fun i => some (ad (q.2.2 i)))))))
  | .inr (.inr q) => .inr (q.1, q.2.map (fw_fv ad r))
def fw_W (cl : List vw_C) (sh : fw_T → fw_H) (V : fw_T → Prop) (X : fw_X) (σ : fw_S) (H : Heap) : Prop := ∀ t, V t → va_at X.1 cl (X.2.2 t, fw_ent X.2.1 X.2.2 (σ t) (sh t)) H
def fw_I (V : fw_T → Prop) (X : fw_X) : Prop := ∀ t u, V t → V u → X.2.2 t = X.2.2 u → t = u
def fw_A (V : fw_T → Prop) (X : fw_X) : Nat → Prop := fun q => ∃ t, V t ∧ q = X.2.2 t
theorem fw_row_self (σ : fw_S) (t : fw_T) (r : Nat → Int32) : fw_row σ t r t = r := if_pos rfl
theorem fw_row_ne (σ : fw_S) {t u : fw_T} (r : Nat → Int32) (h : u ≠ t) : fw_row σ t r u = σ u := if_neg h
theorem fw_st_at (σ : fw_S) (t : fw_T) (k : Nat) (x : Int32) (u : fw_T) (j : Nat) : fw_st σ t k x u j = if u = t ∧ j = k then x else σ u j := by
  unfold fw_st fw_row upd
  by_cases h : u = t
  · subst h
    by_cases h2 : j = k <;> simp [h2]
  · simp [h]
theorem fw_W.store {cl : List vw_C} {sh : fw_T → fw_H} {V : fw_T → Prop} {X : fw_X} {σ : fw_S} {H H1 : Heap} (h : fw_W cl sh V X σ H) (hI : fw_I V X) {t : fw_T} (hV : V t) {r : Nat → Int32} (he : va_at X.1 cl (X.2.2 t, fw_ent X.2.1 X.2.2 r (sh t)) H1) (oq : ∀ q : Nat, q ≠ X.2.2 t → H1[q]? = H[q]?) : fw_W cl sh V X (fw_row σ t r) H1 := by
  intro u hu
  by_cases e : u = t
  · subst e
    rw [fw_row_self]
    exact he
  · rw [fw_row_ne σ r e]
    exact (h u hu).kept (oq _ (fun q => e (hI u t hu hV q)))
theorem fw_W.kept {cl : List vw_C} {sh : fw_T → fw_H} {V : fw_T → Prop} {X : fw_X} {σ : fw_S} {H H1 : Heap} (h : fw_W cl sh V X σ H) (oq : ∀ t, V t → H1[X.2.2 t]? = H[X.2.2 t]?) : fw_W cl sh V X σ H1 := fun t ht => (h t ht).kept (oq t ht)
theorem fw_W.lt {cl : List vw_C} {sh : fw_T → fw_H} {V : fw_T → Prop} {X : fw_X} {σ : fw_S} {H : Heap} (h : fw_W cl sh V X σ H) {t : fw_T} (ht : V t) : X.2.2 t < H.size := (h t ht).lt
/-- the numbers among an object's fields stand at their own places -/
def fw_ok : Nat → List (fw_T ⊕ Nat) → Bool
  | _, [] => true
  | n, .inl _ :: l => fw_ok (n + 1) l
  | n, .inr i :: l => (i == n) && fw_ok (n + 1) l
theorem fw_ok_at : ∀ (l : List (fw_T ⊕ Nat)) (n : Nat), fw_ok n l = true → ∀ j i, l[j]? = some (.inr i) → i = n + j
  | [], _, _, j, i, h => by simp at h
  | .inl u :: l, n, ho, j, i, h => by
    cases j with
    | zero => simp at h
    | succ j =>
      have := fw_ok_at l (n + 1) ho j i (by simpa using h)
      omega
  | .inr a :: l, n, ho, j, i, h => by
    simp only [fw_ok, Bool.and_eq_true, beq_iff_eq] at ho
    cases j with
    | zero =>
      have e : a = i := by simpa using h
      omega
    | succ j =>
      have := fw_ok_at l (n + 1) ho.2 j i (by simpa using h)
      omega
theorem fw_set {ad : fw_T → Nat} {r : Nat → Int32} {l : List (fw_T ⊕ Nat)} (ho : fw_ok 0 l = true) {k : Nat} (hk : l[k]? = some (.inr k)) (x : Int32) : l.map (fw_fv ad (upd r k x)) = (l.map (fw_fv ad r)).set k (.int x) := by
  apply List.ext_getElem?
  intro j
  rw [List.getElem?_map, List.getElem?_set, List.getElem?_map, List.length_map]
  have hlt : k < l.length := (List.getElem?_eq_some_iff.mp hk).1
  by_cases e : k = j
  · subst e
    rw [if_pos rfl, if_pos hlt, hk]
    simp [fw_fv, upd]
  · rw [if_neg e]
    cases hj : l[j]? with
    | none => rfl
    | some f =>
      cases f with
      | inl u => rfl
      | inr i =>
        have := fw_ok_at l 0 ho j i hj
        have hne : i ≠ k := by omega
        simp [fw_fv, upd, hne]
section FWR
variable {p : Program} {l : Launch} {e : Env} {R : Room} {s : State} {m : MethodId} {args : Array Value} {below : List Frame} {meth : Method} {c : Code} {H : Heap} {locs : List Loc} {cells slots : Nat} {Q : State → Prop}
variable {cc : ByteArray} {pc : Nat} {ls : Array Slot} {rest : List Value} {cl : List vw_C} {A : Nat → Prop} {tys : List (ClassId × FieldType)} {H0 : Heap} {sh : fw_T → fw_H} {V : fw_T → Prop} {X : fw_X} {σ : fw_S}
/-- getfield of a tag's object -/
theorem fw_get (hexec : p.tables.exec = Jvm.exec) (hb : c.code = cc) {own ref C : String} {T : u_T} {N ci index : Nat} {Ts : List Cond} (hts : ∀ w ∈ Ts, w.before args s = true) (hin : ∀ w ∈ u_ws C T N, w ∈ Ts) (hown : s.vm.findClass own = some m.cls) (hK : va_K X.1 cl tys s) (hW : fw_W cl sh V X σ H) (t : fw_T) (hV : V t) {fl : List (fw_T ⊕ Nat)} (hsh : sh t = .inr (.inr (ci, fl))) (hc : cl[ci]? = some (C, T, N)) (k : Nat) (hk : k < N) (hlink : (Cond.fieldLink own index ref (T k).2.1 (T k).2.2.1).before args s = true) (hsame : ∀ x, s.fieldFound? (T k).1 (T k).2.1 (T k).2.2.1 = some x → s.fieldFound? ref (T k).2.1 (T k).2.2.1 = some x) {f : fw_T ⊕ Nat} (hf : fl[k]? = some f) {v : Value} (hv : fw_fv X.2.2 (σ t) f = v) (hdg : decode cc pc = .ok (.getfield index, 3))
    (kk : W p l e R s m args below meth c H locs cells slots Q (F0 m (pc + 3) ls (v :: rest))) : W p l e R s m args below meth c H locs cells slots Q (F0 m pc ls (.ref (X.2.2 t) :: rest)) := by
  have h1 := hW t hV
  rw [hsh] at h1
  have hP : va_P X.1 cl [(X.2.2 t, .inr (ci, fl.map (fw_fv X.2.2 (σ t))))] H := fun j q hq => by
    cases j with
    | zero => cases hq; exact h1
    | succ j => simp at hq
  subst hv
  exact va_get (D := X.1) (ci := ci) (v := fw_fv X.2.2 (σ t) f) (C := C) (T := T) (N := N) hexec hb hts hin hown hK hP 0 rfl hc k hk hlink hsame (by rw [List.getElem?_map, hf]; rfl) hdg kk
/-- putfield of a number of a tag's object -/
theorem fw_put (hexec : p.tables.exec = Jvm.exec) (hb : c.code = cc) {own ref C : String} {T : u_T} {N ci index : Nat} {Ts : List Cond} (hts : ∀ w ∈ Ts, w.before args s = true) (hin : ∀ w ∈ u_ws C T N, w ∈ Ts) (ty0 : Nat → FieldType) (hty : ∀ k, k < N → parseFieldDescriptor (T k).2.2.1 = some (ty0 k)) (hnm : ∀ a, a < N → ∀ b, b < N → a ≠ b → (T a).2.1 ≠ (T b).2.1) (hown : s.vm.findClass own = some m.cls) (hK : va_K X.1 cl tys s) (hW : fw_W cl sh V X σ H) (hI : fw_I V X) (hA : ∀ t, V t → A (X.2.2 t)) (hS0 : va_S A H0 H locs) (t : fw_T) (hV : V t) {fl : List (fw_T ⊕ Nat)} (hsh : sh t = .inr (.inr (ci, fl))) (hok : fw_ok 0 fl = true) (hc : cl[ci]? = some (C, T, N)) (k : Nat) (hk : k < N) (hlink : (Cond.fieldLink own index ref (T k).2.1 (T k).2.2.1).before args s = true) (hsame : ∀ x, s.fieldFound? (T k).1 (T k).2.1 (T k).2.2.1 = some x → s.fieldFound? ref (T k).2.1 (T k).2.2.1 = some x) (hfin : (T k).2.2.2 = false) (hf : fl[k]? = some (.inr k)) {ty : FieldType} {x : Int32} (hd : parseFieldDescriptor (T k).2.2.1 = some ty) (hn : narrow ty (.int x) = .int x) (hfit : fits ty (.int x) = true)
    (hdg : decode cc pc = .ok (.putfield index, 3)) (kk : ∀ (H1 : Heap) (locs1 : List Loc), fw_W cl sh V X (fw_st σ t k x) H1 → va_S A H0 H1 locs1 → W p l e R s m args below meth c H1 locs1 cells slots Q (F0 m (pc + 3) ls rest)) : W p l e R s m args below meth c H locs cells slots Q (F0 m pc ls (.int x :: .ref (X.2.2 t) :: rest)) := by
  have hap := va_apart (own := own) hts hin ty0 hty hnm hK hc
  have h0 := hW t hV
  rw [hsh] at h0
  obtain ⟨r, h1, cell, q1, q2, q3, q4⟩ := h0
  have hr : r = (C, T, N) := Option.some.inj (h1.symm.trans hc)
  subst hr
  obtain ⟨hS, hfc, kC, hkC, hkind⟩ := hK.1 ci _ hc
  obtain ⟨cf, kf, fi, f, hi, hsl⟩ := hS k hk
  have hlay := hts _ (hin _ (u_in_lay hk))
  unfold u_lay at hlay
  rw [if_neg (by rw [hfin]; decide)] at hlay
  have hst := (u_facts hfc hkC (u_lays hts hin hk) hi).1
  have h6 := u_store hfc hkC hkind hlay hi hd hn hfit
  have hlen : k < (fl.map (fw_fv X.2.2 (σ t))).length := by rw [List.length_map]; exact (List.getElem?_eq_some_iff.mp hf).1
  refine W.putK hexec hb (f := f) ⟨hown, hlink, ⟨_, _, _, hsame _ hi⟩, hst⟩ (by rw [q2]; exact h6) q1 q3 (by rw [hsl]; exact k2_hasslot (q4 k hk)) rfl rfl hdg fun H' e1 e2 e3 => ?_
  rw [hsl] at e1 ⊢
  refine kk H' _ (hW.store hI hV ?_ e3) (hS0.put e2 e3 (hA t hV))
  rw [hsh]
  show ∃ r : vw_C, cl[ci]? = some r ∧ t_OB (X.2.2 t) (X.1.1 ci) r.2.2 (X.1.2 ci) H' (vp_V (fl.map (fw_fv X.2.2 (upd (σ t) k x))))
  rw [fw_set hok hf]
  exact ⟨_, hc, t_OB.to (V := updV (vp_V (fl.map (fw_fv X.2.2 (σ t)))) k (.int x)) ⟨_, e1, q2, q3, t_set q4 hap hk (.int x)⟩ (fun j _ => vp_updV_set hlen (.int x) j)⟩
theorem fw_iald (hexec : p.tables.exec = Jvm.exec) (hb : c.code = cc) (hK : va_K X.1 cl tys s) (hW : fw_W cl sh V X σ H) (t : fw_T) (hV : V t) {q n : Nat} (hsh : sh t = .inl (q, n)) (t0 : Nat) (ht : tys[t0]? = some (X.2.1 q, .int)) {i : Int32} (ii : Nat) (hii : i.toNatClampNeg = ii) (hin : vp_in i n) (hdg : decode cc pc = .ok (.iaload, 1))
    (kk : W p l e R s m args below meth c H locs cells slots Q (F0 m (pc + 1) ls (.int (σ t ii) :: rest))) : W p l e R s m args below meth c H locs cells slots Q (F0 m pc ls (.int i :: .ref (X.2.2 t) :: rest)) := by
  have ha := hW t hV
  rw [hsh] at ha
  have hlt : i.toNatClampNeg < n := Nat.not_le.mp fun q => hin (Or.inr q)
  subst hii
  exact W.iald (v := .int (σ t i.toNatClampNeg)) hexec hb ha ((hK.2 t0 _ ht).1 n (fun j => .int (σ t j))) (fun q => by cases q) (by show ¬ (i < 0 ∨ (arrV _ _ _).slots.size ≤ _); rw [arrV_size]; exact hin) (by show (arrV _ _ _).slots[_]? = _; rw [arrV_read _ _ hlt]) rfl rfl hdg kk
theorem fw_zald (hexec : p.tables.exec = Jvm.exec) (hb : c.code = cc) (hK : va_K X.1 cl tys s) (hW : fw_W cl sh V X σ H) (t : fw_T) (hV : V t) {q n : Nat} (hsh : sh t = .inl (q, n)) (t0 : Nat) (ht : tys[t0]? = some (X.2.1 q, .boolean)) {i : Int32} (ii : Nat) (hii : i.toNatClampNeg = ii) (hin : vp_in i n) (hdg : decode cc pc = .ok (.baload, 1))
    (kk : W p l e R s m args below meth c H locs cells slots Q (F0 m (pc + 1) ls (.int (σ t ii) :: rest))) : W p l e R s m args below meth c H locs cells slots Q (F0 m pc ls (.int i :: .ref (X.2.2 t) :: rest)) := by
  have ha := hW t hV
  rw [hsh] at ha
  have hlt : i.toNatClampNeg < n := Nat.not_le.mp fun q => hin (Or.inr q)
  subst hii
  exact W.zald (v := .int (σ t i.toNatClampNeg)) hexec hb ha ((hK.2 t0 _ ht).1 n (fun j => .int (σ t j))) (fun q => by cases q) (by show ¬ (i < 0 ∨ (arrV _ _ _).slots.size ≤ _); rw [arrV_size]; exact hin) (by show (arrV _ _ _).slots[_]? = _; rw [arrV_read _ _ hlt]) rfl rfl hdg kk
theorem fw_aald (hexec : p.tables.exec = Jvm.exec) (hb : c.code = cc) (hK : va_K X.1 cl tys s) (hW : fw_W cl sh V X σ H) (t : fw_T) (hV : V t) {q n : Nat} {g : Nat → fw_T} (hsh : sh t = .inr (.inl (q, n, g))) (t0 : Nat) {ty : FieldType} (ht : tys[t0]? = some (X.2.1 q, ty)) (hty : ty.isReference = true) {i : Int32} (ii : Nat) (hii : i.toNatClampNeg = ii) (t2 : fw_T) (ht2 : g ii = t2) (hin : vp_in i n) (hdg : decode cc pc = .ok (.aaload, 1))
    (kk : W p l e R s m args below meth c H locs cells slots Q (F0 m (pc + 1) ls (.ref (X.2.2 t2) :: rest))) : W p l e R s m args below meth c H locs cells slots Q (F0 m pc ls (.int i :: .ref (X.2.2 t) :: rest)) := by
  have ha := hW t hV
  rw [hsh] at ha
  have hlt : i.toNatClampNeg < n := Nat.not_le.mp fun q => hin (Or.inr q)
  subst hii
  subst ht2
  exact W.aald (v := .ref (X.2.2 (g i.toNatClampNeg))) (ty := ty) hexec hb ha ((hK.2 t0 _ ht).1 n (fun j => va_rf (some (X.2.2 (g j))))) hty (fun q => by cases q) (by show ¬ (i < 0 ∨ (arrV _ _ _).slots.size ≤ _); rw [arrV_size]; exact hin) (by show (arrV _ _ _).slots[_]? = _; rw [arrV_read _ _ hlt]; rfl) rfl rfl hdg kk
theorem fw_alen (hexec : p.tables.exec = Jvm.exec) (hb : c.code = cc) (hK : va_K X.1 cl tys s) (hW : fw_W cl sh V X σ H) (t : fw_T) (hV : V t) {q n : Nat} (hsh : sh t = .inl (q, n)) (t0 : Nat) {ty : FieldType} (ht : tys[t0]? = some (X.2.1 q, ty)) {v : Int32} (hv : Int32.ofNat n = v) (hdg : decode cc pc = .ok (.arraylength, 1))
    (kk : W p l e R s m args below meth c H locs cells slots Q (F0 m (pc + 1) ls (.int v :: rest))) : W p l e R s m args below meth c H locs cells slots Q (F0 m pc ls (.ref (X.2.2 t) :: rest)) := by
  subst hv
  have ha := hW t hV
  rw [hsh] at ha
  exact W.alen (n := Int32.ofNat n) hexec hb ha ((hK.2 t0 _ ht).1 n (fun j => .int (σ t j))) (by rw [vp_cell_i, arrV_size] <;> rfl) rfl rfl hdg kk
theorem fw_iast (hexec : p.tables.exec = Jvm.exec) (hb : c.code = cc) (hK : va_K X.1 cl tys s) (hW : fw_W cl sh V X σ H) (hI : fw_I V X) (hA : ∀ t, V t → A (X.2.2 t)) (hS : va_S A H0 H locs) (t : fw_T) (hV : V t) {q n : Nat} (hsh : sh t = .inl (q, n)) (t0 : Nat) (ht : tys[t0]? = some (X.2.1 q, .int)) {i x : Int32} (ii : Nat) (hii : i.toNatClampNeg = ii) (hin : vp_in i n) (hdg : decode cc pc = .ok (.iastore, 1))
    (kk : ∀ (H1 : Heap) (locs1 : List Loc), fw_W cl sh V X (fw_st σ t ii x) H1 → va_S A H0 H1 locs1 → W p l e R s m args below meth c H1 locs1 cells slots Q (F0 m (pc + 1) ls rest)) : W p l e R s m args below meth c H locs cells slots Q (F0 m pc ls (.int x :: .int i :: .ref (X.2.2 t) :: rest)) := by
  have ha := hW t hV
  rw [hsh] at ha
  subst hii
  refine W.iast hexec hb ha ((hK.2 t0 _ ht).1 n (fun j => .int (σ t j))) (fun q => by cases q) (by show ¬ (i < 0 ∨ (arrV _ _ _).slots.size ≤ _); rw [arrV_size]; exact hin) rfl rfl hdg fun H1 e z oq => ?_
  refine kk H1 _ (hW.store hI hV ?_ oq) (hS.put z oq (hA t hV))
  rw [hsh]
  show H1[X.2.2 t]? = some (vp_cell _ _)
  rw [e]
  show some ((vp_cell (X.2.1 q) (n, .inl (σ t))).setSlot _ _) = _
  rw [vp_cell_i, vp_cell_i, arrV_store]
  congr 2
  funext j
  by_cases hj : j = i.toNatClampNeg
  · subst hj
    simp [updV, upd]
  · simp [updV, upd, hj]
theorem fw_zast (hexec : p.tables.exec = Jvm.exec) (hb : c.code = cc) (hK : va_K X.1 cl tys s) (hW : fw_W cl sh V X σ H) (hI : fw_I V X) (hA : ∀ t, V t → A (X.2.2 t)) (hS : va_S A H0 H locs) (t : fw_T) (hV : V t) {q n : Nat} (hsh : sh t = .inl (q, n)) (t0 : Nat) (ht : tys[t0]? = some (X.2.1 q, .boolean)) {i x : Int32} (hx : narrow .boolean (.int x) = .int x) (ii : Nat) (hii : i.toNatClampNeg = ii) (hin : vp_in i n) (hdg : decode cc pc = .ok (.bastore, 1))
    (kk : ∀ (H1 : Heap) (locs1 : List Loc), fw_W cl sh V X (fw_st σ t ii x) H1 → va_S A H0 H1 locs1 → W p l e R s m args below meth c H1 locs1 cells slots Q (F0 m (pc + 1) ls rest)) : W p l e R s m args below meth c H locs cells slots Q (F0 m pc ls (.int x :: .int i :: .ref (X.2.2 t) :: rest)) := by
  have ha := hW t hV
  rw [hsh] at ha
  subst hii
  refine W.zast hexec hb ha ((hK.2 t0 _ ht).1 n (fun j => .int (σ t j))) (fun q => by cases q) (by show ¬ (i < 0 ∨ (arrV _ _ _).slots.size ≤ _); rw [arrV_size]; exact hin) rfl rfl hdg fun H1 e z oq => ?_
  refine kk H1 _ (hW.store hI hV ?_ oq) (hS.put z oq (hA t hV))
  rw [hsh]
  show H1[X.2.2 t]? = some (vp_cell _ _)
  rw [e, hx]
  show some ((vp_cell (X.2.1 q) (n, .inl (σ t))).setSlot _ _) = _
  rw [vp_cell_i, vp_cell_i, arrV_store]
  congr 2
  funext j
  by_cases hj : j = i.toNatClampNeg
  · subst hj
    simp [updV, upd]
  · simp [updV, upd, hj]
end FWR
/-- the world of a family, with what the tables say of its classes -/
def fw_O (cl : List vw_C) (sh : fw_T → fw_H) (V : fw_T → Prop) (tys : (Nat → ClassId) → List (ClassId × FieldType)) (X : fw_X) (σ : fw_S) (U : State) : Prop := fw_W cl sh V X σ U.heap ∧ va_K X.1 cl (tys X.2.1) U ∧ va_Nw fw_nb U
theorem fw_O.moved {cl : List vw_C} {sh : fw_T → fw_H} {V : fw_T → Prop} {tys : (Nat → ClassId) → List (ClassId × FieldType)} {X : fw_X} {σ : fw_S} {U : State} (g : JFrame) (mk : MethodId) (a : Array Value) (h : fw_O cl sh V tys X σ U) : fw_O cl sh V tys X σ (U.calling g mk a) := ⟨h.1, va_K.moved (u := U) (U := U.calling g mk a) (Vm.Alike.refl U.vm) h.2.1, va_Nw.same (u := U) rfl rfl h.2.2⟩
/-- contracts over a family: an int method, a void method -/
def fw_Mi (cl : List vw_C) (sh : fw_T → fw_H) (V : fw_T → Prop) (tys : (Nat → ClassId) → List (ClassId × FieldType)) (l : Launch) (y : MethodName) (ws : List Cond) (rm : Room) (X : fw_X) (σ : fw_S) (av : List Value) (out : Int32 × fw_S) : Prop :=
  Met l y ws rm (va_Pc av (fun U => fw_O cl sh V tys X σ U)) (va_Qi (fun r u => (r, u) = out) (fun u t => fw_O cl sh V tys X u t) (fw_A V X)) 0 0 (fw_A V X)
def fw_Mv (cl : List vw_C) (sh : fw_T → fw_H) (V : fw_T → Prop) (tys : (Nat → ClassId) → List (ClassId × FieldType)) (l : Launch) (y : MethodName) (ws : List Cond) (rm : Room) (X : fw_X) (σ : fw_S) (av : List Value) (out : fw_S) : Prop :=
  Met l y ws rm (va_Pc av (fun U => fw_O cl sh V tys X σ U)) (va_Qv (fun u => u = out) (fun u t => fw_O cl sh V tys X u t) (fw_A V X)) 0 0 (fw_A V X)
/-- an int method that wants more of its start -/
def fw_MiE (cl : List vw_C) (sh : fw_T → fw_H) (V : fw_T → Prop) (tys : (Nat → ClassId) → List (ClassId × FieldType)) (Ex : State → Prop) (l : Launch) (y : MethodName) (ws : List Cond) (rm : Room) (X : fw_X) (σ : fw_S) (av : List Value) (out : Int32 × fw_S) : Prop :=
  Met l y ws rm (va_Pc av (fun U => fw_O cl sh V tys X σ U ∧ Ex U)) (va_Qi (fun r u => (r, u) = out) (fun u t => fw_O cl sh V tys X u t) (fw_A V X)) 0 0 (fw_A V X)
section FWC
variable {cl : List vw_C} {sh : fw_T → fw_H} {V : fw_T → Prop} {tys : (Nat → ClassId) → List (ClassId × FieldType)} {l : Launch} {y : MethodName} {ws ws' : List Cond} {rm : Room} {X : fw_X} {σ : fw_S} {av : List Value} {cc : ByteArray} {maxL : Nat} {ret : Option FieldType}
theorem fw_Mi_of {out : Int32 × fw_S} (hy : plainName y.cls = true) (hw : ws = Cond.code y cc maxL ret :: ws') (hn : (lg_sl av).length ≤ maxL)
    (body : ∀ (p : Program) (e : Env) (s : State) (m : MethodId) (below : List Frame) (meth : Method) (c : Code) (ls : Array Slot), p.tables.exec = Jvm.exec → c.code = cc → meth.sig.returnType = ret → c.maxLocals = maxL → meth.locks = false → s.vm.findClass y.cls = some m.cls → (∀ w ∈ ws, w.before av.toArray s = true) → va_K X.1 cl (tys X.2.1) s → va_Nw fw_nb s → fw_W cl sh V X σ s.heap → lv_has ls maxL (lv_args 0 av) →
      W p l e rm s m av.toArray below meth c s.heap [] 0 0 (MQ below (va_Qi (fun r u => (r, u) = out) (fun u t => fw_O cl sh V tys X u t) (fw_A V X)) av.toArray s 0 0 (fw_A V X)) (F0 m 0 ls [])) : fw_Mi cl sh V tys l y ws rm X σ av out := by
  refine Met.ofW (cc := cc) (maxL := maxL) (ret := ret) hy hw ?_
  intro p e s m args below meth c s₁ B hml hv
  obtain ⟨rfl, hW, hK, hnb⟩ := hv
  have hl := lv_entry av (n := maxL) hn
  rw [lg_entry_eq]
  exact body p e s m below meth c _ B.exec B.bytes B.returns hml B.notSynchronized (findClass_of_methodNamed B.named) (atoms_spec (ws := ws) B.pre) hK hnb hW hl
theorem fw_MiE_of {Ex : State → Prop} {out : Int32 × fw_S} (hy : plainName y.cls = true) (hw : ws = Cond.code y cc maxL ret :: ws') (hn : (lg_sl av).length ≤ maxL)
    (body : ∀ (p : Program) (e : Env) (s : State) (m : MethodId) (below : List Frame) (meth : Method) (c : Code) (ls : Array Slot), p.tables.exec = Jvm.exec → c.code = cc → meth.sig.returnType = ret → c.maxLocals = maxL → meth.locks = false → s.vm.findClass y.cls = some m.cls → (∀ w ∈ ws, w.before av.toArray s = true) → va_K X.1 cl (tys X.2.1) s → va_Nw fw_nb s → fw_W cl sh V X σ s.heap → Ex s → lv_has ls maxL (lv_args 0 av) →
      W p l e rm s m av.toArray below meth c s.heap [] 0 0 (MQ below (va_Qi (fun r u => (r, u) = out) (fun u t => fw_O cl sh V tys X u t) (fw_A V X)) av.toArray s 0 0 (fw_A V X)) (F0 m 0 ls [])) : fw_MiE cl sh V tys Ex l y ws rm X σ av out := by
  refine Met.ofW (cc := cc) (maxL := maxL) (ret := ret) hy hw ?_
  intro p e s m args below meth c s₁ B hml hv
  obtain ⟨rfl, ⟨hW, hK, hnb⟩, hE⟩ := hv
  have hl := lv_entry av (n := maxL) hn
  rw [lg_entry_eq]
  exact body p e s m below meth c _ B.exec B.bytes B.returns hml B.notSynchronized (findClass_of_methodNamed B.named) (atoms_spec (ws := ws) B.pre) hK hnb hW hE hl
theorem fw_Mv_of {out : fw_S} (hy : plainName y.cls = true) (hw : ws = Cond.code y cc maxL ret :: ws') (hn : (lg_sl av).length ≤ maxL)
    (body : ∀ (p : Program) (e : Env) (s : State) (m : MethodId) (below : List Frame) (meth : Method) (c : Code) (ls : Array Slot), p.tables.exec = Jvm.exec → c.code = cc → meth.sig.returnType = ret → c.maxLocals = maxL → meth.locks = false → s.vm.findClass y.cls = some m.cls → (∀ w ∈ ws, w.before av.toArray s = true) → va_K X.1 cl (tys X.2.1) s → va_Nw fw_nb s → fw_W cl sh V X σ s.heap → lv_has ls maxL (lv_args 0 av) →
      W p l e rm s m av.toArray below meth c s.heap [] 0 0 (MQ below (va_Qv (fun u => u = out) (fun u t => fw_O cl sh V tys X u t) (fw_A V X)) av.toArray s 0 0 (fw_A V X)) (F0 m 0 ls [])) : fw_Mv cl sh V tys l y ws rm X σ av out := by
  refine Met.ofW (cc := cc) (maxL := maxL) (ret := ret) hy hw ?_
  intro p e s m args below meth c s₁ B hml hv
  obtain ⟨rfl, hW, hK, hnb⟩ := hv
  have hl := lv_entry av (n := maxL) hn
  rw [lg_entry_eq]
  exact body p e s m below meth c _ B.exec B.bytes B.returns hml B.notSynchronized (findClass_of_methodNamed B.named) (atoms_spec (ws := ws) B.pre) hK hnb hW hl
variable {p : Program} {e : Env} {R : Room} {s : State} {m : MethodId} {args : Array Value} {below : List Frame} {meth : Method} {c : Code} {H : Heap} {locs : List Loc} {cells slots : Nat} {Q : State → Prop} {pc : Nat} {ls : Array Slot} {rest : List Value} {A : Nat → Prop} {H0 : Heap}
theorem fw_iret (hexec : p.tables.exec = Jvm.exec) (hb : c.code = cc) (hr : meth.sig.returnType = some .int) (hlocks : meth.locks = false) (hK : va_K X.1 cl (tys X.2.1) s) (hnb : va_Nw fw_nb s) (hW : fw_W cl sh V X σ H) (hS : va_S (fw_A V X) s.heap H locs) {v : Int32} {out : Int32 × fw_S} (ho : out = (v, σ)) (hdg : decode cc pc = .ok (.ireturn, 1)) :
    W p l e R s m args below meth c H locs 0 0 (MQ below (va_Qi (fun r u => (r, u) = out) (fun u t => fw_O cl sh V tys X u t) (fw_A V X)) args s 0 0 (fw_A V X)) (F0 m pc ls [.int v]) :=
  W.iret (v := v) hexec hb hr (fun t ht hW' => ⟨⟨v, σ, rfl, ho.symm, by rw [ht]; exact hW, va_K.moved hW'.alike hK, va_Nw.warmM hW' hnb⟩, hS.F ht⟩) hS.2.2 hdg hlocks
theorem fw_zret (hexec : p.tables.exec = Jvm.exec) (hb : c.code = cc) (hr : meth.sig.returnType = some .boolean) (hlocks : meth.locks = false) (hK : va_K X.1 cl (tys X.2.1) s) (hnb : va_Nw fw_nb s) (hW : fw_W cl sh V X σ H) (hS : va_S (fw_A V X) s.heap H locs) {v : Int32} (hv : v = 0 ∨ v = 1) {out : Int32 × fw_S} (ho : out = (v, σ)) (hdg : decode cc pc = .ok (.ireturn, 1)) :
    W p l e R s m args below meth c H locs 0 0 (MQ below (va_Qi (fun r u => (r, u) = out) (fun u t => fw_O cl sh V tys X u t) (fw_A V X)) args s 0 0 (fw_A V X)) (F0 m pc ls [.int v]) :=
  W.zret (v := v) (ty := .boolean) hexec hb hr (by rcases hv with rfl | rfl <;> rfl) (fun t ht hW' => ⟨⟨v, σ, rfl, ho.symm, by rw [ht]; exact hW, va_K.moved hW'.alike hK, va_Nw.warmM hW' hnb⟩, hS.F ht⟩) hS.2.2 hdg hlocks
theorem fw_vret (hexec : p.tables.exec = Jvm.exec) (hb : c.code = cc) (hr : meth.sig.returnType = none) (hlocks : meth.locks = false) (hK : va_K X.1 cl (tys X.2.1) s) (hnb : va_Nw fw_nb s) (hW : fw_W cl sh V X σ H) (hS : va_S (fw_A V X) s.heap H locs) {out : fw_S} (ho : out = σ) (hdg : decode cc pc = .ok (.return_, 1)) :
    W p l e R s m args below meth c H locs 0 0 (MQ below (va_Qv (fun u => u = out) (fun u t => fw_O cl sh V tys X u t) (fw_A V X)) args s 0 0 (fw_A V X)) (F0 m pc ls []) :=
  W.vret hexec hb hr (fun t ht hW' => ⟨⟨σ, rfl, ho.symm, by rw [ht]; exact hW, va_K.moved hW'.alike hK, va_Nw.warmM hW' hnb⟩, hS.F ht⟩) hS.2.2 hdg hlocks
/-- what a call of a contract over the family wants of its start -/
theorem fw_preV (hK : va_K X.1 cl (tys X.2.1) s) (hnb : va_Nw fw_nb s) (hW : fw_W cl sh V X σ H) (t : fw_T) (hV : V t) {ci : Nat} {fl : List (fw_T ⊕ Nat)} (hsh : sh t = .inr (.inr (ci, fl))) {C : String} {T : u_T} {N : Nat} (hc : cl[ci]? = some (C, T, N)) (As : List Value) : PreV s H C (X.2.2 t) (va_Pc (.ref (X.2.2 t) :: As) (fun U => fw_O cl sh V tys X σ U)) As := by
  refine ⟨fun a U g mk q => ⟨q.1, fw_O.moved g mk a q.2⟩, ?_, fun U hU hW' => ⟨rfl, by rw [hU]; exact hW, va_K.moved hW'.alike hK, va_Nw.warmM hW' hnb⟩⟩
  have h0 := hW t hV
  rw [hsh] at h0
  obtain ⟨r, h1, cell, g1, g2, g3, -⟩ := h0
  exact ⟨cell, g1, by rw [g3]; rfl, by rw [g2]; exact (hK.1 ci _ hc).2.1⟩
theorem fw_preS (hK : va_K X.1 cl (tys X.2.1) s) (hnb : va_Nw fw_nb s) (hW : fw_W cl sh V X σ H) (As : List Value) : PreS s H (va_Pc As (fun U => fw_O cl sh V tys X σ U)) As :=
  ⟨fun a U g mk q => ⟨q.1, fw_O.moved g mk a q.2⟩, fun U hU hW' => ⟨rfl, by rw [hU]; exact hW, va_K.moved hW'.alike hK, va_Nw.warmM hW' hnb⟩⟩
/-- behind a call, within the family -/
theorem fw_ki {out : Int32 × fw_S} {a : Array Value} {st0 : List Value} (hr : va_Run p l e R s m args below meth c H locs cells slots 0 0 (F0 m pc ls st0) rest (va_Qi (fun r u => (r, u) = out) (fun u t => fw_O cl sh V tys X u t) (fw_A V X) a) (fw_A V X)) (hS : va_S (fw_A V X) H0 H locs)
    (kk : ∀ (r : Int32) (σ' : fw_S) (H1 : Heap) (locs1 : List Loc), out = (r, σ') → fw_W cl sh V X σ' H1 → va_S (fw_A V X) H0 H1 locs1 → W p l e R s m args below meth c H1 locs1 cells slots Q (F0 m (pc + 3) ls (.int r :: rest))) : W p l e R s m args below meth c H locs cells slots Q (F0 m pc ls st0) :=
  va_calli hr hS (fun _ _ h => h) (fun _ h => h) (fun r u t H1 locs1 ht _ hp hB _ _ hS1 => kk r u H1 locs1 hp.symm (by have h := hB.1; rw [ht] at h; exact h) hS1)
theorem fw_kv {out : fw_S} {a : Array Value} {st0 : List Value} (hr : va_Run p l e R s m args below meth c H locs cells slots 0 0 (F0 m pc ls st0) rest (va_Qv (fun u => u = out) (fun u t => fw_O cl sh V tys X u t) (fw_A V X) a) (fw_A V X)) (hS : va_S (fw_A V X) H0 H locs)
    (kk : ∀ (H1 : Heap) (locs1 : List Loc), fw_W cl sh V X out H1 → va_S (fw_A V X) H0 H1 locs1 → W p l e R s m args below meth c H1 locs1 cells slots Q (F0 m (pc + 3) ls rest)) : W p l e R s m args below meth c H locs cells slots Q (F0 m pc ls st0) :=
  va_callv hr hS (fun _ _ h => h) (fun _ h => h) (fun u t H1 locs1 ht _ hp hB _ _ hS1 => kk H1 locs1 (by have h := hB.1; rw [ht, hp] at h; exact h) hS1)
/-- behind a call out of a larger world: what lies outside the family is as it was -/
theorem fw_kiL {out : Int32 × fw_S} {a : Array Value} {st0 : List Value} (hr : va_Run p l e R s m args below meth c H locs cells slots 0 0 (F0 m pc ls st0) rest (va_Qi (fun r u => (r, u) = out) (fun u t => fw_O cl sh V tys X u t) (fw_A V X) a) (fw_A V X)) (hA : ∀ t, V t → A (X.2.2 t)) (hS : va_S A H0 H locs)
    (kk : ∀ (r : Int32) (σ' : fw_S) (H1 : Heap) (locs1 : List Loc), out = (r, σ') → fw_W cl sh V X σ' H1 → (∀ q : Nat, q < H.size → ¬ fw_A V X q → H1[q]? = H[q]?) → va_S A H0 H1 locs1 → W p l e R s m args below meth c H1 locs1 cells slots Q (F0 m (pc + 3) ls (.int r :: rest))) : W p l e R s m args below meth c H locs cells slots Q (F0 m pc ls st0) :=
  va_calli hr hS (fun _ _ ⟨u, hu, h⟩ => h ▸ hA u hu) (fun _ ⟨u, hu, h⟩ => h ▸ hA u hu) (fun r u t H1 locs1 ht _ hp hB _ hk hS1 => kk r u H1 locs1 hp.symm (by have h := hB.1; rw [ht] at h; exact h) hk hS1)
/-- behind a call of a method that only reads -/
theorem fw_kp {v : Int32} {a : Array Value} {st0 : List Value} (hr : va_Run p l e R s m args below meth c H locs cells slots 0 0 (F0 m pc ls st0) rest (va_Qi (fun r u => (r, u) = (v, σ)) (fun u t => fw_O cl sh V tys X u t) (fw_A V X) a) (fw_A V X)) (hS : va_S (fw_A V X) H0 H locs)
    (kk : ∀ (H1 : Heap) (locs1 : List Loc), fw_W cl sh V X σ H1 → va_S (fw_A V X) H0 H1 locs1 → W p l e R s m args below meth c H1 locs1 cells slots Q (F0 m (pc + 3) ls (.int v :: rest))) : W p l e R s m args below meth c H locs cells slots Q (F0 m pc ls st0) :=
  fw_ki hr hS (fun r σ' H1 locs1 ho hW hS1 => by
    obtain ⟨h1, h2⟩ := Prod.mk.inj ho
    subst h1
    subst h2
    exact kk H1 locs1 hW hS1)
end FWC
def fw_rm (d : Nat) : Room := { frames := d, cells := 0, slots := 0, locals := 40 * d }
/-- the first n numbers of one row copied to another -/
def fw_cp (σ : fw_S) (t u : fw_T) (n : Nat) : fw_S := fw_row σ u (va_cpy (σ t) (σ u) 0 0 n)
section FWD
variable {p : Program} {l : Launch} {e : Env} {R : Room} {s : State} {m : MethodId} {args : Array Value} {below : List Frame} {meth : Method} {c : Code} {H : Heap} {locs : List Loc} {cells slots : Nat} {Q : State → Prop}
variable {cc : ByteArray} {pc : Nat} {ls : Array Slot} {rest : List Value} {cl : List vw_C} {A : Nat → Prop} {tys : List (ClassId × FieldType)} {H0 : Heap} {sh : fw_T → fw_H} {V : fw_T → Prop} {X : fw_X} {σ : fw_S}
/-- System.arraycopy from the start of one row of ints to the start of another -/
theorem fw_copy (hexec : p.tables.exec = Jvm.exec) (hb : c.code = cc) (hml : c.maxLocals = ls.size) {own : String} {index : Nat} (hown : s.vm.findClass own = some m.cls) (hlink : (Cond.methodLink own index arraycopyName).before args s = true) (hnat : (Cond.native arraycopyName).before args s = true) (hstat : (Cond.static arraycopyName).before args s = true) (hini : (Cond.initialized "java/lang/System").before args s = true)
    (hK : va_K X.1 cl tys s) (hW : fw_W cl sh V X σ H) (hI : fw_I V X) (hA : ∀ t, V t → A (X.2.2 t)) (hS : va_S A H0 H locs) (t u : fw_T) (hVt : V t) (hVu : V u) {qa na qb nb : Nat} (hst : sh t = .inl (qa, na)) (hsu : sh u = .inl (qb, nb)) (t0 t1 : Nat) (ht0 : tys[t0]? = some (X.2.1 qa, .int)) (ht1 : tys[t1]? = some (X.2.1 qb, .int))
    (N : Nat) {n : Int32} (hN : n.toNatClampNeg = N) (h3 : ¬ n < 0) (h4 : N ≤ na) (h5 : N ≤ nb) (hframes : 1 ≤ R.frames) (hlocals : (rest.map fun v => v.category).sum + (nativeFrameWords "java/lang/System" "arraycopy" 5 + 11) ≤ R.locals) (hdg : decode cc pc = .ok (.invokestatic index, 3))
    (kk : ∀ (H1 : Heap) (locs1 : List Loc), fw_W cl sh V X (fw_cp σ t u N) H1 → va_S A H0 H1 locs1 → W p l e R s m args below meth c H1 locs1 cells slots Q (F0 m (pc + 3) ls rest)) : W p l e R s m args below meth c H locs cells slots Q (F0 m pc ls (.int n :: .int 0 :: .ref (X.2.2 u) :: .int 0 :: .ref (X.2.2 t) :: rest)) := by
  have ha := hW t hVt
  rw [hst] at ha
  have hu := hW u hVu
  rw [hsu] at hu
  have hc0 : H[X.2.2 t]? = some (arrV (X.2.1 qa) na (fun j => .int (σ t j))) := ha
  have hc1 : H[X.2.2 u]? = some (arrV (X.2.1 qb) nb (fun j => .int (σ u j))) := hu
  have hn0 : n.toInt = (N : Int) := by
    have h6 : (0 : Int) ≤ n.toInt := by simpa using Int32.le_iff_toInt_le.mp (Int32.not_lt.mp h3)
    rw [← hN]
    show n.toInt = ((n.toInt.toNat : Nat) : Int)
    omega
  have hz : (0 : Int32).toInt = 0 := by decide
  intro T hT X1
  obtain ⟨-, k0, hk0, cm0, hkk0⟩ := (hK.2 t0 _ ht0).1 na (fun j => .int (σ t j))
  obtain ⟨-, k1, hk1, cm1, hkk1⟩ := (hK.2 t1 _ ht1).1 nb (fun j => .int (σ u j))
  obtain ⟨vm', X', step⟩ := X1.arraycopy hexec hown hlink hnat hstat hini (src := X.2.2 t) (dst := X.2.2 u) (srcPos := 0) (destPos := 0) (n := n) (by rw [hT]; exact hc0) (by rw [hT]; exact hc1)
    (fun _ h => by cases h) (fun _ h => by cases h) (fun h => by cases h) (fun h => by cases h) hk0 hk1 hkk0 hkk1 (by simp [refKind]) (by decide) (by decide) h3
    (by rw [hn0, hz, arrV_size]; omega) (by rw [hn0, hz, arrV_size]; omega)
    (fun vm₁ _ i hi => by
      have h7 : i < na := by omega
      have h8 : (arrV (X.2.1 qa) na (fun j => .int (σ t j))).slots.getD ((0 : Int32).toNatClampNeg + i) .null = .int (σ t i) := by
        rw [sb_cl0, Nat.zero_add, Array.getD_eq_getD_getElem?, arrV_read _ _ h7]
        rfl
      rw [h8]
      exact ⟨rfl, trivial⟩)
    (g := F0 m pc ls (.int n :: .int 0 :: .ref (X.2.2 u) :: .int 0 :: .ref (X.2.2 t) :: rest)) rfl (by rw [hml]) (rest := rest) rfl (by rw [hb]; exact hdg) hframes (by show 2 * 0 + _ + _ ≤ _; omega)
  have e1 : copied (arrV (X.2.1 qa) na (fun j => .int (σ t j))) (arrV (X.2.1 qb) nb (fun j => .int (σ u j))) 0 0 n = vp_cell (X.2.1 qb) (nb, .inl (va_cpy (σ t) (σ u) 0 0 N)) := by
    have h9 := va_copied (fun z => .int z) (X.2.1 qa) (X.2.1 qb) (n0 := na) (n1 := nb) (sp := 0) (dp := 0) (n := N) (σ t) (σ u) (by omega)
    rw [← hN] at h9 ⊢
    exact h9
  rw [e1] at X' step
  have hw2 : fw_W cl sh V X (fw_cp σ t u N) ((T.setVm vm').setCell (X.2.2 u) (vp_cell (X.2.1 qb) (nb, .inl (va_cpy (σ t) (σ u) 0 0 N)))).heap := by
    refine hW.store hI hVu (r := va_cpy (σ t) (σ u) 0 0 N) ?_ ?_
    · rw [hsu]
      exact heapAt_setCell_self _ (by show _ < T.heap.size; rw [hT]; exact (Array.getElem?_eq_some_iff.mp hc1).1)
    · intro q hq
      rw [heapAt_setCell_ne _ (Ne.symm hq)]
      show T.heap[q]? = _
      rw [hT]
  have z2 : H0.size ≤ ((T.setVm vm').setCell (X.2.2 u) (vp_cell (X.2.1 qb) (nb, .inl (va_cpy (σ t) (σ u) 0 0 N)))).heap.size := by
    rw [size_setCell]
    show _ ≤ T.heap.size
    rw [hT]
    exact hS.1
  have o2 : ∀ q : Nat, q < H0.size → ¬ A q → ((T.setVm vm').setCell (X.2.2 u) (vp_cell (X.2.1 qb) (nb, .inl (va_cpy (σ t) (σ u) 0 0 N)))).heap[q]? = H0[q]? := fun q g1 g2 => by
    have hne : X.2.2 u ≠ q := fun h => g2 (by rw [← h]; exact hA u hVu)
    rw [heapAt_setCell_ne _ hne]
    show T.heap[q]? = _
    rw [hT]
    exact hS.2.1 q g1 g2
  obtain ⟨t', a1, b1⟩ := kk _ _ hw2 ⟨z2, o2, fun q hq => by
    rcases List.mem_append.mp hq with h | h
    · exact hS.2.2 q h
    · obtain ⟨z, -, hz⟩ := List.mem_map.mp h
      rw [← hz]
      exact hA u hVu⟩ _ rfl X'
  exact ⟨t', step t' a1, b1⟩
end FWD
theorem vi_lt {i : Int32} {n : Nat} (h : vp_in i n) : i.toNatClampNeg < n := Nat.not_le.mp fun q => h (Or.inr q)
theorem lp_lt {x y : Int32} {j B : Nat} (hj : x = nI j) (hy : y = nI B) (hB : B < 2 ^ 31) (h : j ≤ B) (c : ¬ y ≤ x) : j < B := by
  rcases Nat.lt_or_ge j B with q | q
  · exact q
  · exact absurd (by rw [hj, hy]; exact nI_le q (by omega)) c
theorem lp_lt2 {x y : Int32} {j B : Nat} (hj : x = nI j) (hy : y = nI B) (hB : B < 2 ^ 30) (h : j ≤ B + 1) (c : ¬ y < x) : j < B + 1 := by
  rcases Nat.lt_or_ge j (B + 1) with q | q
  · exact q
  · exact absurd (by rw [hj, hy]; exact nI_lt (by omega) (by omega)) c
theorem bo_n {x : Int32} (h : x = 0 ∨ x = 1) : narrow .boolean (.int x) = .int x := by rcases h with rfl | rfl <;> rfl
theorem bo_f {x : Int32} (h : x = 0 ∨ x = 1) : fits .boolean (.int x) = true := by rcases h with rfl | rfl <;> rfl
theorem vi_of {x : Int32} {n : Nat} (h0 : 0 ≤ x.toInt) (h1 : x.toInt < n) : vp_in x n := vp_in_iff.mpr ⟨h0, h1⟩
end
section
def cni : Nat → Nat := fun k => match k with
  | 0 => 1
  | 1 => 1
  | 2 => 1
  | 3 => 1
  | 4 => 1
  | 5 => 1
  | 6 => 1
  | 7 => 1
  | 8 => 6
  | 10 => 4
  | 11 => 4
  | 12 => 4
  | 13 => 4
  | 14 => 4
  | 15 => 4
  | 16 => 4
  | 17 => 4
  | 18 => 4
  | 19 => 4
  | 20 => 4
  | _ => 0
def cnj : Nat → Nat := fun k => match k with
  | 0 => 1
  | 1 => 1
  | 2 => 1
  | 3 => 1
  | 4 => 1
  | 5 => 1
  | 6 => 1
  | 7 => 1
  | 8 => 1
  | 10 => 1
  | 11 => 1
  | 12 => 1
  | 13 => 1
  | 14 => 1
  | 15 => 1
  | 16 => 1
  | 17 => 1
  | 18 => 1
  | 19 => 2
  | 20 => 8
  | _ => 0
def cshk (k i : Nat) : fw_H := match k with
  | 0 => .inr (.inr (0, [.inl (1, 0, 0), .inl (2, 0, 0), .inl (3, 0, 0), .inl (4, 0, 0), .inl (5, 0, 0), .inr 5, .inr 6, .inr 7]))
  | 1 => .inr (.inr (1, [.inl (6, 0, 0), .inl (7, 0, 0)]))
  | 2 => .inr (.inl (2, 4, fun n => (10, n, 0)))
  | 3 => .inr (.inl (3, 4, fun n => (11, n, 0)))
  | 4 => .inr (.inl (4, 4, fun n => (12, n, 0)))
  | 5 => .inl (0, 4)
  | 6 => .inr (.inl (1, 6, fun n => (8, n, 0)))
  | 7 => .inl (0, 5)
  | 8 => .inl (0, 6)
  | 10 => .inr (.inr (2, [.inl (13, i, 0), .inl (14, i, 0)]))
  | 11 => .inr (.inr (3, [.inl (15, i, 0), .inl (16, i, 0), .inl (17, i, 0), .inr 3, .inr 4, .inr 5, .inr 6]))
  | 12 => .inr (.inr (4, [.inl (18, i, 0), .inr 1, .inr 2, .inr 3, .inr 4]))
  | 13 => .inr (.inl (1, 2, fun n => (19, i, n)))
  | 14 => .inl (0, 8)
  | 15 => .inl (5, 513)
  | 16 => .inl (0, 513)
  | 17 => .inl (0, 513)
  | 18 => .inr (.inl (1, 8, fun n => (20, i, n)))
  | 19 => .inl (0, 8)
  | 20 => .inl (0, 4)
  | _ => .inl (0, 0)
def csh (t : fw_T) : fw_H := cshk t.1 t.2.1
def cV (t : fw_T) : Prop := t.2.1 < cni t.1 ∧ t.2.2 < cnj t.1
theorem cv0 : cV (0, 0, 0) := ⟨Nat.zero_lt_one, Nat.zero_lt_one⟩
theorem cv1 : cV (1, 0, 0) := ⟨Nat.zero_lt_one, Nat.zero_lt_one⟩
theorem cv2 : cV (2, 0, 0) := ⟨Nat.zero_lt_one, Nat.zero_lt_one⟩
theorem cv3 : cV (3, 0, 0) := ⟨Nat.zero_lt_one, Nat.zero_lt_one⟩
theorem cv4 : cV (4, 0, 0) := ⟨Nat.zero_lt_one, Nat.zero_lt_one⟩
theorem cv5 : cV (5, 0, 0) := ⟨Nat.zero_lt_one, Nat.zero_lt_one⟩
theorem cv6 : cV (6, 0, 0) := ⟨Nat.zero_lt_one, Nat.zero_lt_one⟩
theorem cv7 : cV (7, 0, 0) := ⟨Nat.zero_lt_one, Nat.zero_lt_one⟩
theorem cve8 {i : Nat} (h : i < 6) : cV (8, i, 0) := ⟨h, Nat.zero_lt_one⟩
theorem cvs8 {k i j : Nat} (h : cV (k, i, j)) (hk : cni k = 6 := by rfl) : cV (8, i, 0) := ⟨Nat.lt_of_lt_of_eq h.1 hk, Nat.zero_lt_one⟩
theorem cve10 {i : Nat} (h : i < 4) : cV (10, i, 0) := ⟨h, Nat.zero_lt_one⟩
theorem cvs10 {k i j : Nat} (h : cV (k, i, j)) (hk : cni k = 4 := by rfl) : cV (10, i, 0) := ⟨Nat.lt_of_lt_of_eq h.1 hk, Nat.zero_lt_one⟩
theorem cve11 {i : Nat} (h : i < 4) : cV (11, i, 0) := ⟨h, Nat.zero_lt_one⟩
theorem cvs11 {k i j : Nat} (h : cV (k, i, j)) (hk : cni k = 4 := by rfl) : cV (11, i, 0) := ⟨Nat.lt_of_lt_of_eq h.1 hk, Nat.zero_lt_one⟩
theorem cve12 {i : Nat} (h : i < 4) : cV (12, i, 0) := ⟨h, Nat.zero_lt_one⟩
theorem cvs12 {k i j : Nat} (h : cV (k, i, j)) (hk : cni k = 4 := by rfl) : cV (12, i, 0) := ⟨Nat.lt_of_lt_of_eq h.1 hk, Nat.zero_lt_one⟩
theorem cve13 {i : Nat} (h : i < 4) : cV (13, i, 0) := ⟨h, Nat.zero_lt_one⟩
theorem cvs13 {k i j : Nat} (h : cV (k, i, j)) (hk : cni k = 4 := by rfl) : cV (13, i, 0) := ⟨Nat.lt_of_lt_of_eq h.1 hk, Nat.zero_lt_one⟩
theorem cve14 {i : Nat} (h : i < 4) : cV (14, i, 0) := ⟨h, Nat.zero_lt_one⟩
theorem cvs14 {k i j : Nat} (h : cV (k, i, j)) (hk : cni k = 4 := by rfl) : cV (14, i, 0) := ⟨Nat.lt_of_lt_of_eq h.1 hk, Nat.zero_lt_one⟩
theorem cve15 {i : Nat} (h : i < 4) : cV (15, i, 0) := ⟨h, Nat.zero_lt_one⟩
theorem cvs15 {k i j : Nat} (h : cV (k, i, j)) (hk : cni k = 4 := by rfl) : cV (15, i, 0) := ⟨Nat.lt_of_lt_of_eq h.1 hk, Nat.zero_lt_one⟩
theorem cve16 {i : Nat} (h : i < 4) : cV (16, i, 0) := ⟨h, Nat.zero_lt_one⟩
theorem cvs16 {k i j : Nat} (h : cV (k, i, j)) (hk : cni k = 4 := by rfl) : cV (16, i, 0) := ⟨Nat.lt_of_lt_of_eq h.1 hk, Nat.zero_lt_one⟩
theorem cve17 {i : Nat} (h : i < 4) : cV (17, i, 0) := ⟨h, Nat.zero_lt_one⟩
theorem cvs17 {k i j : Nat} (h : cV (k, i, j)) (hk : cni k = 4 := by rfl) : cV (17, i, 0) := ⟨Nat.lt_of_lt_of_eq h.1 hk, Nat.zero_lt_one⟩
theorem cve18 {i : Nat} (h : i < 4) : cV (18, i, 0) := ⟨h, Nat.zero_lt_one⟩
theorem cvs18 {k i j : Nat} (h : cV (k, i, j)) (hk : cni k = 4 := by rfl) : cV (18, i, 0) := ⟨Nat.lt_of_lt_of_eq h.1 hk, Nat.zero_lt_one⟩
theorem cvj19 {k i j n : Nat} (h : cV (k, i, j)) (hn : n < 2) (hk : cni k = 4 := by rfl) : cV (19, i, n) := ⟨Nat.lt_of_lt_of_eq h.1 hk, hn⟩
theorem cvj20 {k i j n : Nat} (h : cV (k, i, j)) (hn : n < 8) (hk : cni k = 4 := by rfl) : cV (20, i, n) := ⟨Nat.lt_of_lt_of_eq h.1 hk, hn⟩
end
section
def cs_isBelow (a1 : Int32) (a2 : Int32) : Int32 :=
  if a1 < 0 then 0 else if a2 ≤ a1 then 0 else 1
set_option maxHeartbeats 4000000 in
set_option maxRecDepth 100000 in
theorem c_isBelow (l : Launch) (X : fw_X) (hI : fw_I cV X) (σ : fw_S) (a1 a2 : Int32)  : fw_Mi fw_cl csh cV fw_tys l yO_isBelow wO_isBelow (fw_rm 0) X σ [.int a1, .int a2] ((cs_isBelow a1 a2, σ)) := by
  obtain ⟨out, he⟩ : ∃ z : Int32, z = cs_isBelow a1 a2 := ⟨_, rfl⟩
  rw [← he]
  refine fw_Mi_of (cc := bO_isBelow) (maxL := 2) (ret := (some .boolean)) (by decide) rfl (Nat.le_of_ble_eq_true rfl) ?_
  intro p e s m below meth c ls hx hb hr hml hlocks hown hts hK hnb hW hl
  have hS : va_S (fw_A cV X) s.heap s.heap [] := va_S.rf
  have hA : ∀ t, cV t → fw_A cV X (X.2.2 t) := fun t h => ⟨t, h, rfl⟩
  have htb := tb_use hts
  have hl : lv_has ls 2 [(0, .int a1), (1, .int a2)] := hl
  have hown : s.vm.findClass "TapOffice" = some m.cls := hown
  unfold cs_isBelow at he
  refine lv_iload_n hx hb dO_isBelow_0 rfl (lv_at hl 0 rfl) ?_
  refine lv_if_lt (tgt := 13) hx hb dO_isBelow_1 (by decide) (fun c1 => ?_) (fun c1 => ?_)
  · rw [if_pos c1] at he
    refine lv_iconst (v := 0) hx hb dO_isBelow_13 (by decide) ?_
    exact fw_zret hx hb hr hlocks hK hnb hW hS (by decide) (by rw [he]) dO_isBelow_14
  · rw [if_neg c1] at he
    refine lv_iload_n hx hb dO_isBelow_4 rfl (lv_at hl 0 rfl) ?_
    refine lv_iload_n hx hb dO_isBelow_5 rfl (lv_at hl 1 rfl) ?_
    refine lv_icmp_ge (tgt := 13) hx hb dO_isBelow_6 (by decide) (fun c2 => ?_) (fun c2 => ?_)
    · rw [if_pos c2] at he
      refine lv_iconst (v := 0) hx hb dO_isBelow_13 (by decide) ?_
      exact fw_zret hx hb hr hlocks hK hnb hW hS (by decide) (by rw [he]) dO_isBelow_14
    · rw [if_neg c2] at he
      refine lv_iconst (v := 1) hx hb dO_isBelow_9 (by decide) ?_
      refine lv_goto (tgt := 14) hx hb dO_isBelow_10 (by decide) ?_
      exact fw_zret hx hb hr hlocks hK hnb hW hS (by decide) (by rw [he]) dO_isBelow_14
theorem ib_in {x y : Int32} {n : Nat} (h : ¬ cs_isBelow x y = 0) (hy : y.toInt = n := by decide) : vp_in x n := by
  unfold cs_isBelow at h
  by_cases h1 : x < 0
  · rw [if_pos h1] at h
    exact absurd rfl h
  · rw [if_neg h1] at h
    by_cases h2 : y ≤ x
    · rw [if_pos h2] at h
      exact absurd rfl h
    · refine vi_of ?_ ?_
      · have := Int32.le_iff_toInt_le.mp (Int32.not_lt.mp h1)
        simpa using this
      · have := Int32.lt_iff_toInt_lt.mp (Int32.not_le.mp h2)
        omega
def cs_putFare_s2 (σ5 : fw_S) : fw_S :=
  σ5
def cs_putFare_s1 (a1 : Int32) (a2 : Int32) (a3 : Int32) (σ2 : fw_S) : fw_S :=
  cs_putFare_s2 (fw_st σ2 (8, a2.toNatClampNeg, 0) a1.toNatClampNeg a3)
def cs_putFare (σ : fw_S) (a1 : Int32) (a2 : Int32) (a3 : Int32) : fw_S :=
  cs_putFare_s1 a1 a2 a3 (fw_st σ (8, a1.toNatClampNeg, 0) a2.toNatClampNeg a3)
set_option maxHeartbeats 4000000 in
set_option maxRecDepth 100000 in
theorem c_putFare (l : Launch) (X : fw_X) (hI : fw_I cV X) (σ : fw_S) (a1 a2 a3 : Int32) (h1 : vp_in a1 6) (h2 : vp_in a2 6) : fw_Mv fw_cl csh cV fw_tys l yT_putFare wT_putFare (fw_rm 0) X σ [.ref (X.2.2 (1, 0, 0)), .int a1, .int a2, .int a3] (cs_putFare σ a1 a2 a3) := by
  obtain ⟨out, he⟩ : ∃ z : fw_S, z = cs_putFare σ a1 a2 a3 := ⟨_, rfl⟩
  rw [← he]
  refine fw_Mv_of (cc := bT_putFare) (maxL := 4) (ret := none) (by decide) rfl (Nat.le_of_ble_eq_true rfl) ?_
  intro p e s m below meth c ls hx hb hr hml hlocks hown hts hK hnb hW hl
  have hS : va_S (fw_A cV X) s.heap s.heap [] := va_S.rf
  have hA : ∀ t, cV t → fw_A cV X (X.2.2 t) := fun t h => ⟨t, h, rfl⟩
  have htb := tb_use hts
  have hl : lv_has ls 4 [(0, .ref (X.2.2 (1, 0, 0))), (1, .int a1), (2, .int a2), (3, .int a3)] := hl
  have hown : s.vm.findClass "TapOffice$Tariff" = some m.cls := hown
  unfold cs_putFare at he
  refine lv_aload_n hx hb dT_putFare_0 rfl (lv_at hl 0 rfl) ?_
  refine fw_get (X := X) (v := .ref (X.2.2 (6, 0, 0))) hx hb hts hin_T hown hK hW (1, 0, 0) cv1 rfl rfl 0 (by decide) (htb _ m_59 rfl) (fun _ h => h) rfl rfl dT_putFare_1 ?_
  refine lv_iload_n hx hb dT_putFare_4 rfl (lv_at hl 1 rfl) ?_
  refine fw_aald (X := X) hx hb hK hW (6, 0, 0) cv6 rfl 1 rfl rfl a1.toNatClampNeg rfl (8, a1.toNatClampNeg, 0) rfl h1 dT_putFare_5 ?_
  have hV1 : cV (8, a1.toNatClampNeg, 0) := (cve8 (vi_lt h1))
  refine lv_iload_n hx hb dT_putFare_6 rfl (lv_at hl 2 rfl) ?_
  refine lv_iload_n hx hb dT_putFare_7 rfl (lv_at hl 3 rfl) ?_
  refine fw_iast (X := X) hx hb hK hW hI hA hS (8, a1.toNatClampNeg, 0) hV1 rfl 0 rfl a2.toNatClampNeg rfl h2 dT_putFare_8 (fun H locs hW hS => ?_)
  obtain ⟨σ2, e3⟩ : ∃ z : fw_S, z = fw_st σ (8, a1.toNatClampNeg, 0) a2.toNatClampNeg a3 := ⟨_, rfl⟩
  rw [← e3] at hW
  try rw [← e3] at he
  unfold cs_putFare_s1 at he
  refine lv_aload_n hx hb dT_putFare_9 rfl (lv_at hl 0 rfl) ?_
  refine fw_get (X := X) (v := .ref (X.2.2 (6, 0, 0))) hx hb hts hin_T hown hK hW (1, 0, 0) cv1 rfl rfl 0 (by decide) (htb _ m_59 rfl) (fun _ h => h) rfl rfl dT_putFare_10 ?_
  refine lv_iload_n hx hb dT_putFare_13 rfl (lv_at hl 2 rfl) ?_
  refine fw_aald (X := X) hx hb hK hW (6, 0, 0) cv6 rfl 1 rfl rfl a2.toNatClampNeg rfl (8, a2.toNatClampNeg, 0) rfl h2 dT_putFare_14 ?_
  have hV4 : cV (8, a2.toNatClampNeg, 0) := (cve8 (vi_lt h2))
  refine lv_iload_n hx hb dT_putFare_15 rfl (lv_at hl 1 rfl) ?_
  refine lv_iload_n hx hb dT_putFare_16 rfl (lv_at hl 3 rfl) ?_
  refine fw_iast (X := X) hx hb hK hW hI hA hS (8, a2.toNatClampNeg, 0) hV4 rfl 0 rfl a1.toNatClampNeg rfl h1 dT_putFare_17 (fun H locs hW hS => ?_)
  obtain ⟨σ5, e6⟩ : ∃ z : fw_S, z = fw_st σ2 (8, a2.toNatClampNeg, 0) a1.toNatClampNeg a3 := ⟨_, rfl⟩
  rw [← e6] at hW
  try rw [← e6] at he
  unfold cs_putFare_s2 at he
  exact fw_vret hx hb hr hlocks hK hnb hW hS he dT_putFare_18
def cs_putSetting_s1 (σ1 : fw_S) : fw_S :=
  σ1
def cs_putSetting (σ : fw_S) (a1 : Int32) (a2 : Int32) : fw_S :=
  cs_putSetting_s1 (fw_st σ (7, 0, 0) a1.toNatClampNeg a2)
set_option maxHeartbeats 4000000 in
set_option maxRecDepth 100000 in
theorem c_putSetting (l : Launch) (X : fw_X) (hI : fw_I cV X) (σ : fw_S) (a1 a2 : Int32) (h1 : vp_in a1 5) : fw_Mv fw_cl csh cV fw_tys l yT_putSetting wT_putSetting (fw_rm 0) X σ [.ref (X.2.2 (1, 0, 0)), .int a1, .int a2] (cs_putSetting σ a1 a2) := by
  obtain ⟨out, he⟩ : ∃ z : fw_S, z = cs_putSetting σ a1 a2 := ⟨_, rfl⟩
  rw [← he]
  refine fw_Mv_of (cc := bT_putSetting) (maxL := 3) (ret := none) (by decide) rfl (Nat.le_of_ble_eq_true rfl) ?_
  intro p e s m below meth c ls hx hb hr hml hlocks hown hts hK hnb hW hl
  have hS : va_S (fw_A cV X) s.heap s.heap [] := va_S.rf
  have hA : ∀ t, cV t → fw_A cV X (X.2.2 t) := fun t h => ⟨t, h, rfl⟩
  have htb := tb_use hts
  have hl : lv_has ls 3 [(0, .ref (X.2.2 (1, 0, 0))), (1, .int a1), (2, .int a2)] := hl
  have hown : s.vm.findClass "TapOffice$Tariff" = some m.cls := hown
  unfold cs_putSetting at he
  refine lv_aload_n hx hb dT_putSetting_0 rfl (lv_at hl 0 rfl) ?_
  refine fw_get (X := X) (v := .ref (X.2.2 (7, 0, 0))) hx hb hts hin_T hown hK hW (1, 0, 0) cv1 rfl rfl 1 (by decide) (htb _ m_60 rfl) (fun _ h => h) rfl rfl dT_putSetting_1 ?_
  refine lv_iload_n hx hb dT_putSetting_4 rfl (lv_at hl 1 rfl) ?_
  refine lv_iload_n hx hb dT_putSetting_5 rfl (lv_at hl 2 rfl) ?_
  refine fw_iast (X := X) hx hb hK hW hI hA hS (7, 0, 0) cv7 rfl 0 rfl a1.toNatClampNeg rfl h1 dT_putSetting_6 (fun H locs hW hS => ?_)
  obtain ⟨σ1, e2⟩ : ∃ z : fw_S, z = fw_st σ (7, 0, 0) a1.toNatClampNeg a2 := ⟨_, rfl⟩
  rw [← e2] at hW
  try rw [← e2] at he
  unfold cs_putSetting_s1 at he
  exact fw_vret hx hb hr hlocks hK hnb hW hS he dT_putSetting_7
def cs_least (σ : fw_S)  : Int32 :=
  (σ (7, 0, 0) 4)
set_option maxHeartbeats 4000000 in
set_option maxRecDepth 100000 in
theorem c_least (l : Launch) (X : fw_X) (hI : fw_I cV X) (σ : fw_S)  : fw_Mi fw_cl csh cV fw_tys l yT_least wT_least (fw_rm 0) X σ [.ref (X.2.2 (1, 0, 0))] ((cs_least σ, σ)) := by
  obtain ⟨out, he⟩ : ∃ z : Int32, z = cs_least σ := ⟨_, rfl⟩
  rw [← he]
  refine fw_Mi_of (cc := bT_least) (maxL := 1) (ret := (some .int)) (by decide) rfl (Nat.le_of_ble_eq_true rfl) ?_
  intro p e s m below meth c ls hx hb hr hml hlocks hown hts hK hnb hW hl
  have hS : va_S (fw_A cV X) s.heap s.heap [] := va_S.rf
  have hA : ∀ t, cV t → fw_A cV X (X.2.2 t) := fun t h => ⟨t, h, rfl⟩
  have htb := tb_use hts
  have hl : lv_has ls 1 [(0, .ref (X.2.2 (1, 0, 0)))] := hl
  have hown : s.vm.findClass "TapOffice$Tariff" = some m.cls := hown
  unfold cs_least at he
  refine lv_aload_n hx hb dT_least_0 rfl (lv_at hl 0 rfl) ?_
  refine fw_get (X := X) (v := .ref (X.2.2 (7, 0, 0))) hx hb hts hin_T hown hK hW (1, 0, 0) cv1 rfl rfl 1 (by decide) (htb _ m_60 rfl) (fun _ h => h) rfl rfl dT_least_1 ?_
  refine lv_iconst (v := 4) hx hb dT_least_4 (by decide) ?_
  refine fw_iald (X := X) hx hb hK hW (7, 0, 0) cv7 rfl 0 rfl 4 (by decide) (by unfold vp_in; decide) dT_least_5 ?_
  exact fw_iret hx hb hr hlocks hK hnb hW hS (by rw [he]) dT_least_6
def cs_price_s1 (a1 : Int32) (σ : fw_S) (z1 : Int32) : Int32 :=
  if z1 < (σ (7, 0, 0) 0) then a1 else if (σ (7, 0, 0) 1) ≤ z1 then a1 else (a1 + ((a1 * (σ (7, 0, 0) 2)) / 100))
def cs_price (σ : fw_S) (a1 : Int32) (a2 : Int32) : Int32 :=
  cs_price_s1 a1 σ (a2 - a2 / 1440 * 1440)
set_option maxHeartbeats 4000000 in
set_option maxRecDepth 100000 in
theorem c_price (l : Launch) (X : fw_X) (hI : fw_I cV X) (σ : fw_S) (a1 a2 : Int32)  : fw_Mi fw_cl csh cV fw_tys l yT_price wT_price (fw_rm 0) X σ [.ref (X.2.2 (1, 0, 0)), .int a1, .int a2] ((cs_price σ a1 a2, σ)) := by
  obtain ⟨out, he⟩ : ∃ z : Int32, z = cs_price σ a1 a2 := ⟨_, rfl⟩
  rw [← he]
  refine fw_Mi_of (cc := bT_price) (maxL := 5) (ret := (some .int)) (by decide) rfl (Nat.le_of_ble_eq_true rfl) ?_
  intro p e s m below meth c ls hx hb hr hml hlocks hown hts hK hnb hW hl
  have hS : va_S (fw_A cV X) s.heap s.heap [] := va_S.rf
  have hA : ∀ t, cV t → fw_A cV X (X.2.2 t) := fun t h => ⟨t, h, rfl⟩
  have htb := tb_use hts
  have hl : lv_has ls 5 [(0, .ref (X.2.2 (1, 0, 0))), (1, .int a1), (2, .int a2)] := hl
  have hown : s.vm.findClass "TapOffice$Tariff" = some m.cls := hown
  unfold cs_price at he
  refine lv_iload_n hx hb dT_price_0 rfl (lv_at hl 2 rfl) ?_
  refine lv_sipush (v := 1440) hx hb dT_price_1 (by decide) ?_
  refine lv_irem hx hb dT_price_4 (by decide) ?_
  refine lv_topi (fun z1 e2 => ?_)
  try rw [← e2] at he
  unfold cs_price_s1 at he
  refine lv_istore_n (lv' := [(3, .int z1), (0, .ref (X.2.2 (1, 0, 0))), (1, .int a1), (2, .int a2)]) hx hb dT_price_5 rfl hl (by decide) rfl (fun ls hl => ?_)
  refine lv_iload_n hx hb dT_price_6 rfl (lv_at hl 0 rfl) ?_
  refine lv_aload_n hx hb dT_price_7 rfl (lv_at hl 1 rfl) ?_
  refine fw_get (X := X) (v := .ref (X.2.2 (7, 0, 0))) hx hb hts hin_T hown hK hW (1, 0, 0) cv1 rfl rfl 1 (by decide) (htb _ m_60 rfl) (fun _ h => h) rfl rfl dT_price_8 ?_
  refine lv_iconst (v := 0) hx hb dT_price_11 (by decide) ?_
  refine fw_iald (X := X) hx hb hK hW (7, 0, 0) cv7 rfl 0 rfl 0 (by decide) (by unfold vp_in; decide) dT_price_12 ?_
  refine lv_icmp_lt (tgt := 30) hx hb dT_price_13 (by decide) (fun c3 => ?_) (fun c3 => ?_)
  · rw [if_pos c3] at he
    refine lv_iconst (v := 0) hx hb dT_price_30 (by decide) ?_
    refine lv_istore (lv' := [(4, .int 0), (3, .int z1), (0, .ref (X.2.2 (1, 0, 0))), (1, .int a1), (2, .int a2)]) hx hb dT_price_31 hl (by decide) rfl (fun ls hl => ?_)
    refine lv_iload hx hb dT_price_33 (lv_at hl 0 rfl) ?_
    refine lv_if_eq (tgt := 54) hx hb dT_price_35 (by decide) (fun c4 => ?_) (fun c4 => ?_)
    rotate_left
    · exact absurd c4 (by decide)
    refine lv_iload_n hx hb dT_price_54 rfl (lv_at hl 3 rfl) ?_
    exact fw_iret hx hb hr hlocks hK hnb hW hS (by rw [he]) dT_price_55
  · rw [if_neg c3] at he
    refine lv_iload_n hx hb dT_price_16 rfl (lv_at hl 0 rfl) ?_
    refine lv_aload_n hx hb dT_price_17 rfl (lv_at hl 1 rfl) ?_
    refine fw_get (X := X) (v := .ref (X.2.2 (7, 0, 0))) hx hb hts hin_T hown hK hW (1, 0, 0) cv1 rfl rfl 1 (by decide) (htb _ m_60 rfl) (fun _ h => h) rfl rfl dT_price_18 ?_
    refine lv_iconst (v := 1) hx hb dT_price_21 (by decide) ?_
    refine fw_iald (X := X) hx hb hK hW (7, 0, 0) cv7 rfl 0 rfl 1 (by decide) (by unfold vp_in; decide) dT_price_22 ?_
    refine lv_icmp_ge (tgt := 30) hx hb dT_price_23 (by decide) (fun c5 => ?_) (fun c5 => ?_)
    · rw [if_pos c5] at he
      refine lv_iconst (v := 0) hx hb dT_price_30 (by decide) ?_
      refine lv_istore (lv' := [(4, .int 0), (3, .int z1), (0, .ref (X.2.2 (1, 0, 0))), (1, .int a1), (2, .int a2)]) hx hb dT_price_31 hl (by decide) rfl (fun ls hl => ?_)
      refine lv_iload hx hb dT_price_33 (lv_at hl 0 rfl) ?_
      refine lv_if_eq (tgt := 54) hx hb dT_price_35 (by decide) (fun c6 => ?_) (fun c6 => ?_)
      rotate_left
      · exact absurd c6 (by decide)
      refine lv_iload_n hx hb dT_price_54 rfl (lv_at hl 3 rfl) ?_
      exact fw_iret hx hb hr hlocks hK hnb hW hS (by rw [he]) dT_price_55
    · rw [if_neg c5] at he
      refine lv_iconst (v := 1) hx hb dT_price_26 (by decide) ?_
      refine lv_goto (tgt := 31) hx hb dT_price_27 (by decide) ?_
      refine lv_istore (lv' := [(4, .int 1), (3, .int z1), (0, .ref (X.2.2 (1, 0, 0))), (1, .int a1), (2, .int a2)]) hx hb dT_price_31 hl (by decide) rfl (fun ls hl => ?_)
      refine lv_iload hx hb dT_price_33 (lv_at hl 0 rfl) ?_
      refine lv_if_eq (tgt := 54) hx hb dT_price_35 (by decide) (fun c7 => ?_) (fun c7 => ?_)
      · exact absurd c7 (by decide)
      refine lv_iload_n hx hb dT_price_38 rfl (lv_at hl 3 rfl) ?_
      refine lv_iload_n hx hb dT_price_39 rfl (lv_at hl 3 rfl) ?_
      refine lv_aload_n hx hb dT_price_40 rfl (lv_at hl 2 rfl) ?_
      refine fw_get (X := X) (v := .ref (X.2.2 (7, 0, 0))) hx hb hts hin_T hown hK hW (1, 0, 0) cv1 rfl rfl 1 (by decide) (htb _ m_60 rfl) (fun _ h => h) rfl rfl dT_price_41 ?_
      refine lv_iconst (v := 2) hx hb dT_price_44 (by decide) ?_
      refine fw_iald (X := X) hx hb hK hW (7, 0, 0) cv7 rfl 0 rfl 2 (by decide) (by unfold vp_in; decide) dT_price_45 ?_
      refine lv_imul hx hb dT_price_46 ?_
      refine lv_bipush (v := 100) hx hb dT_price_47 (by decide) ?_
      refine lv_idiv hx hb dT_price_49 (by decide) ?_
      refine lv_iadd hx hb dT_price_50 ?_
      refine lv_goto (tgt := 55) hx hb dT_price_51 (by decide) ?_
      exact fw_iret hx hb hr hlocks hK hnb hW hS (by rw [he]) dT_price_55
def cs_priceBetween (σ : fw_S) (a1 : Int32) (a2 : Int32) (a3 : Int32) : Int32 :=
  if (cs_isBelow a1 6) = 0 then 0 else if (cs_isBelow a2 6) = 0 then 0 else (cs_price σ (σ (8, a1.toNatClampNeg, 0) a2.toNatClampNeg) a3)
set_option maxHeartbeats 4000000 in
set_option maxRecDepth 100000 in
theorem c_priceBetween (l : Launch) (X : fw_X) (hI : fw_I cV X) (σ : fw_S) (a1 a2 a3 : Int32)  : fw_Mi fw_cl csh cV fw_tys l yT_priceBetween wT_priceBetween (fw_rm 1) X σ [.ref (X.2.2 (1, 0, 0)), .int a1, .int a2, .int a3] ((cs_priceBetween σ a1 a2 a3, σ)) := by
  obtain ⟨out, he⟩ : ∃ z : Int32, z = cs_priceBetween σ a1 a2 a3 := ⟨_, rfl⟩
  rw [← he]
  refine fw_Mi_of (cc := bT_priceBetween) (maxL := 4) (ret := (some .int)) (by decide) rfl (Nat.le_of_ble_eq_true rfl) ?_
  intro p e s m below meth c ls hx hb hr hml hlocks hown hts hK hnb hW hl
  have hS : va_S (fw_A cV X) s.heap s.heap [] := va_S.rf
  have hA : ∀ t, cV t → fw_A cV X (X.2.2 t) := fun t h => ⟨t, h, rfl⟩
  have htb := tb_use hts
  have hl : lv_has ls 4 [(0, .ref (X.2.2 (1, 0, 0))), (1, .int a1), (2, .int a2), (3, .int a3)] := hl
  have hown : s.vm.findClass "TapOffice$Tariff" = some m.cls := hown
  unfold cs_priceBetween at he
  refine lv_iload_n hx hb dT_priceBetween_0 rfl (lv_at hl 1 rfl) ?_
  refine lv_bipush (v := 6) hx hb dT_priceBetween_1 (by decide) ?_
  refine fw_kp (va_runSN (As := [.int a1, .int 6]) (rest := []) ⟨hx, hb, hml, hown, hts⟩ (c_isBelow l X hI σ a1 6 ) ⟨va_cnB 2 hts (tb_C m_172) rfl rfl rfl hnb (htb _ m_25 rfl) (by decide +kernel) ⟨Nat.le_of_ble_eq_true rfl, Nat.le_of_ble_eq_true rfl⟩, htb _ m_171 rfl, trivial⟩ (fw_preS (X := X) hK hnb hW [.int a1, .int 6]) rfl rfl hl.1 rfl (lv_room (Nat.le_of_ble_eq_true rfl)) dT_priceBetween_3 ⟨Nat.zero_le _, Nat.zero_le _⟩) hS (fun H locs hW hS => ?_)
  refine lv_if_eq (tgt := 34) hx hb dT_priceBetween_6 (by decide) (fun c1 => ?_) (fun c1 => ?_)
  · rw [if_pos c1] at he
    refine lv_iconst (v := 0) hx hb dT_priceBetween_34 (by decide) ?_
    exact fw_iret hx hb hr hlocks hK hnb hW hS (by rw [he]) dT_priceBetween_35
  · rw [if_neg c1] at he
    refine lv_iload_n hx hb dT_priceBetween_9 rfl (lv_at hl 2 rfl) ?_
    refine lv_bipush (v := 6) hx hb dT_priceBetween_10 (by decide) ?_
    refine fw_kp (va_runSN (As := [.int a2, .int 6]) (rest := []) ⟨hx, hb, hml, hown, hts⟩ (c_isBelow l X hI σ a2 6 ) ⟨va_cnB 2 hts (tb_C m_172) rfl rfl rfl hnb (htb _ m_25 rfl) (by decide +kernel) ⟨Nat.le_of_ble_eq_true rfl, Nat.le_of_ble_eq_true rfl⟩, htb _ m_171 rfl, trivial⟩ (fw_preS (X := X) hK hnb hW [.int a2, .int 6]) rfl rfl hl.1 rfl (lv_room (Nat.le_of_ble_eq_true rfl)) dT_priceBetween_12 ⟨Nat.zero_le _, Nat.zero_le _⟩) hS (fun H locs hW hS => ?_)
    refine lv_if_eq (tgt := 34) hx hb dT_priceBetween_15 (by decide) (fun c2 => ?_) (fun c2 => ?_)
    · rw [if_pos c2] at he
      refine lv_iconst (v := 0) hx hb dT_priceBetween_34 (by decide) ?_
      exact fw_iret hx hb hr hlocks hK hnb hW hS (by rw [he]) dT_priceBetween_35
    · rw [if_neg c2] at he
      refine lv_aload_n hx hb dT_priceBetween_18 rfl (lv_at hl 0 rfl) ?_
      refine lv_aload_n hx hb dT_priceBetween_19 rfl (lv_at hl 0 rfl) ?_
      refine fw_get (X := X) (v := .ref (X.2.2 (6, 0, 0))) hx hb hts hin_T hown hK hW (1, 0, 0) cv1 rfl rfl 0 (by decide) (htb _ m_59 rfl) (fun _ h => h) rfl rfl dT_priceBetween_20 ?_
      refine lv_iload_n hx hb dT_priceBetween_23 rfl (lv_at hl 1 rfl) ?_
      refine fw_aald (X := X) hx hb hK hW (6, 0, 0) cv6 rfl 1 rfl rfl a1.toNatClampNeg rfl (8, a1.toNatClampNeg, 0) rfl (ib_in ‹¬ cs_isBelow a1 6 = 0›) dT_priceBetween_24 ?_
      have hV3 : cV (8, a1.toNatClampNeg, 0) := (cve8 (vi_lt (ib_in ‹¬ cs_isBelow a1 6 = 0›)))
      refine lv_iload_n hx hb dT_priceBetween_25 rfl (lv_at hl 2 rfl) ?_
      refine fw_iald (X := X) hx hb hK hW (8, a1.toNatClampNeg, 0) hV3 rfl 0 rfl a2.toNatClampNeg rfl (ib_in ‹¬ cs_isBelow a2 6 = 0›) dT_priceBetween_26 ?_
      refine lv_iload_n hx hb dT_priceBetween_27 rfl (lv_at hl 3 rfl) ?_
      refine fw_kp (va_runV (As := [.int (σ (8, a1.toNatClampNeg, 0) a2.toNatClampNeg), .int a3]) (rest := []) ⟨hx, hb, hml, hown, hts⟩ (c_price l X hI σ (σ (8, a1.toNatClampNeg, 0) a2.toNatClampNeg) a3 ) (cwV 2 hts (tb_V m_261 m_258 m_260 m_3 m_26) rfl rfl rfl (by decide +kernel) ⟨Nat.le_of_ble_eq_true rfl, Nat.le_of_ble_eq_true rfl⟩) (fw_preV (X := X) hK hnb hW (1, 0, 0) cv1 rfl rfl [.int (σ (8, a1.toNatClampNeg, 0) a2.toNatClampNeg), .int a3]) rfl rfl hl.1 rfl (lv_room (Nat.le_of_ble_eq_true rfl)) dT_priceBetween_28 ⟨Nat.zero_le _, Nat.zero_le _⟩) hS (fun H locs hW hS => ?_)
      refine lv_goto (tgt := 35) hx hb dT_priceBetween_31 (by decide) ?_
      exact fw_iret hx hb hr hlocks hK hnb hW hS (by rw [he]) dT_priceBetween_35
def cs_capped (σ : fw_S) (a1 : Int32) (a2 : Int32) : Int32 :=
  (if 0 < (if ((σ (7, 0, 0) 3) - a2) < a1 then ((σ (7, 0, 0) 3) - a2) else a1) then (if ((σ (7, 0, 0) 3) - a2) < a1 then ((σ (7, 0, 0) 3) - a2) else a1) else 0)
set_option maxHeartbeats 4000000 in
set_option maxRecDepth 100000 in
theorem c_capped (l : Launch) (X : fw_X) (hI : fw_I cV X) (σ : fw_S) (a1 a2 : Int32)  : fw_Mi fw_cl csh cV fw_tys l yT_capped wT_capped (fw_rm 1) X σ [.ref (X.2.2 (1, 0, 0)), .int a1, .int a2] ((cs_capped σ a1 a2, σ)) := by
  obtain ⟨out, he⟩ : ∃ z : Int32, z = cs_capped σ a1 a2 := ⟨_, rfl⟩
  rw [← he]
  refine fw_Mi_of (cc := bT_capped) (maxL := 3) (ret := (some .int)) (by decide) rfl (Nat.le_of_ble_eq_true rfl) ?_
  intro p e s m below meth c ls hx hb hr hml hlocks hown hts hK hnb hW hl
  have hS : va_S (fw_A cV X) s.heap s.heap [] := va_S.rf
  have hA : ∀ t, cV t → fw_A cV X (X.2.2 t) := fun t h => ⟨t, h, rfl⟩
  have htb := tb_use hts
  have hl : lv_has ls 3 [(0, .ref (X.2.2 (1, 0, 0))), (1, .int a1), (2, .int a2)] := hl
  have hown : s.vm.findClass "TapOffice$Tariff" = some m.cls := hown
  unfold cs_capped at he
  refine lv_iconst (v := 0) hx hb dT_capped_0 (by decide) ?_
  refine lv_iload_n hx hb dT_capped_1 rfl (lv_at hl 1 rfl) ?_
  refine lv_aload_n hx hb dT_capped_2 rfl (lv_at hl 0 rfl) ?_
  refine fw_get (X := X) (v := .ref (X.2.2 (7, 0, 0))) hx hb hts hin_T hown hK hW (1, 0, 0) cv1 rfl rfl 1 (by decide) (htb _ m_60 rfl) (fun _ h => h) rfl rfl dT_capped_3 ?_
  refine lv_iconst (v := 3) hx hb dT_capped_6 (by decide) ?_
  refine fw_iald (X := X) hx hb hK hW (7, 0, 0) cv7 rfl 0 rfl 3 (by decide) (by unfold vp_in; decide) dT_capped_7 ?_
  refine lv_iload_n hx hb dT_capped_8 rfl (lv_at hl 2 rfl) ?_
  refine lv_isub hx hb dT_capped_9 ?_
  refine va_mmin hx hb (hml.trans hl.1.symm) hown (htb _ m_277 rfl) (htb _ m_278 rfl) (htb _ m_32 rfl) (htb _ m_279 rfl) (Nat.le_of_ble_eq_true rfl) (Nat.le_of_ble_eq_true rfl) (Nat.zero_le _) (Nat.zero_le _) dT_capped_10 ?_
  refine va_mmax hx hb (hml.trans hl.1.symm) hown (htb _ m_270 rfl) (htb _ m_271 rfl) (htb _ m_32 rfl) (htb _ m_272 rfl) (Nat.le_of_ble_eq_true rfl) (Nat.le_of_ble_eq_true rfl) (Nat.zero_le _) (Nat.zero_le _) dT_capped_13 ?_
  exact fw_iret hx hb hr hlocks hK hnb hW hS (by rw [he]) dT_capped_16
def cs_fullPrice_s1 (x4 : Int32) (rec : Int32 → Int32 → Int32) (z4 : Int32) : Int32 :=
  rec (x4 + 1) z4
def cs_fullPrice_lp (a1 : Int32) (a2 : Int32) (σ : fw_S) : Nat → Int32 → Int32 → Int32
  | 0, _, _ => 0
  | n + 1, x4, x3 => if 6 ≤ x4 then (cs_price σ x3 a2) else cs_fullPrice_s1 x4 (cs_fullPrice_lp a1 a2 σ n) (if x3 < (σ (8, a1.toNatClampNeg, 0) x4.toNatClampNeg) then (σ (8, a1.toNatClampNeg, 0) x4.toNatClampNeg) else x3)
def cs_fullPrice (σ : fw_S) (a1 : Int32) (a2 : Int32) : Int32 :=
  if (cs_isBelow a1 6) = 0 then 0 else cs_fullPrice_lp a1 a2 σ (6 + 1) 0 0
set_option maxHeartbeats 4000000 in
set_option maxRecDepth 100000 in
theorem c_fullPrice_lp {p : Program} {e : Env} {s : State} {m : MethodId} {below : List Frame} {meth : Method} {c : Code} {args : Array Value} (l : Launch) (X : fw_X) (hI : fw_I cV X) (σ : fw_S) (a1 a2 : Int32)  (hz : ¬ cs_isBelow a1 6 = 0)  (out : Int32)
    (hx : p.tables.exec = Jvm.exec) (hb : c.code = bT_fullPrice) (hr : meth.sig.returnType = (some .int)) (hml : c.maxLocals = 5) (hlocks : meth.locks = false) (hown : s.vm.findClass "TapOffice$Tariff" = some m.cls) (hts : ∀ w ∈ wT_fullPrice, w.before args s = true) (hK : va_K X.1 fw_cl (fw_tys X.2.1) s) (hnb : va_Nw fw_nb s) :
    ∀ (n : Nat) (x4 x3 : Int32) (j : Nat), x4 = nI j → j ≤ 6 → 6 + 1 ≤ j + n → ∀ (H : Heap) (locs : List Loc), fw_W fw_cl csh cV X σ H → va_S (fw_A cV X) s.heap H locs → ∀ (ls : Array Slot), lv_has ls 5 [(0, .ref (X.2.2 (1, 0, 0))), (1, .int a1), (2, .int a2), (3, .int x3), (4, .int x4)] → out = cs_fullPrice_lp a1 a2 σ n x4 x3 → W p l e (fw_rm 1) s m args below meth c H locs 0 0 (MQ below (va_Qi (fun r u => (r, u) = (out, σ)) (fun u t => fw_O fw_cl csh cV fw_tys X u t) (fw_A cV X)) args s 0 0 (fw_A cV X)) (F0 m 16 ls []) := by
  have hA : ∀ t, cV t → fw_A cV X (X.2.2 t) := fun t h => ⟨t, h, rfl⟩
  have htb := tb_use hts
  intro n
  induction n with
  | zero =>
    intro x4 x3 j hj h1 h2
    exact absurd h2 (by omega)
  | succ n ih =>
    intro x4 x3 j hj hj1 hj2 H locs hW hS ls hl he
    rw [cs_fullPrice_lp] at he
    refine lv_iload hx hb dT_fullPrice_16 (lv_at hl 4 rfl) ?_
    refine lv_bipush (v := 6) hx hb dT_fullPrice_18 (by decide) ?_
    refine lv_icmp_ge (tgt := 43) hx hb dT_fullPrice_20 (by decide) (fun c2 => ?_) (fun c2 => ?_)
    · rw [if_pos c2] at he
      refine lv_aload_n hx hb dT_fullPrice_43 rfl (lv_at hl 0 rfl) ?_
      refine lv_iload_n hx hb dT_fullPrice_44 rfl (lv_at hl 3 rfl) ?_
      refine lv_iload_n hx hb dT_fullPrice_45 rfl (lv_at hl 2 rfl) ?_
      refine fw_kp (va_runV (As := [.int x3, .int a2]) (rest := []) ⟨hx, hb, hml, hown, hts⟩ (c_price l X hI σ x3 a2 ) (cwV 2 hts (tb_V m_261 m_258 m_260 m_3 m_26) rfl rfl rfl (by decide +kernel) ⟨Nat.le_of_ble_eq_true rfl, Nat.le_of_ble_eq_true rfl⟩) (fw_preV (X := X) hK hnb hW (1, 0, 0) cv1 rfl rfl [.int x3, .int a2]) rfl rfl hl.1 rfl (lv_room (Nat.le_of_ble_eq_true rfl)) dT_fullPrice_46 ⟨Nat.zero_le _, Nat.zero_le _⟩) hS (fun H locs hW hS => ?_)
      exact fw_iret hx hb hr hlocks hK hnb hW hS (by rw [he]) dT_fullPrice_49
    · rw [if_neg c2] at he
      have hlt : j < 6 := lp_lt (B := 6) hj rfl (by decide) hj1 c2
      have hin : vp_in x4 6 := by rw [hj]; exact vp_in_nI hlt (by decide)
      refine lv_iload_n hx hb dT_fullPrice_23 rfl (lv_at hl 3 rfl) ?_
      refine lv_aload_n hx hb dT_fullPrice_24 rfl (lv_at hl 0 rfl) ?_
      refine fw_get (X := X) (v := .ref (X.2.2 (6, 0, 0))) hx hb hts hin_T hown hK hW (1, 0, 0) cv1 rfl rfl 0 (by decide) (htb _ m_59 rfl) (fun _ h => h) rfl rfl dT_fullPrice_25 ?_
      refine lv_iload_n hx hb dT_fullPrice_28 rfl (lv_at hl 1 rfl) ?_
      refine fw_aald (X := X) hx hb hK hW (6, 0, 0) cv6 rfl 1 rfl rfl a1.toNatClampNeg rfl (8, a1.toNatClampNeg, 0) rfl (ib_in hz) dT_fullPrice_29 ?_
      have hV3 : cV (8, a1.toNatClampNeg, 0) := (cve8 (vi_lt (ib_in hz)))
      refine lv_iload hx hb dT_fullPrice_30 (lv_at hl 4 rfl) ?_
      refine fw_iald (X := X) hx hb hK hW (8, a1.toNatClampNeg, 0) hV3 rfl 0 rfl x4.toNatClampNeg rfl hin dT_fullPrice_32 ?_
      refine va_mmax hx hb (hml.trans hl.1.symm) hown (htb _ m_270 rfl) (htb _ m_271 rfl) (htb _ m_32 rfl) (htb _ m_272 rfl) (Nat.le_of_ble_eq_true rfl) (Nat.le_of_ble_eq_true rfl) (Nat.zero_le _) (Nat.zero_le _) dT_fullPrice_33 ?_
      refine lv_topi (fun z4 e5 => ?_)
      try rw [← e5] at he
      unfold cs_fullPrice_s1 at he
      refine lv_istore_n (lv' := [(3, .int z4), (0, .ref (X.2.2 (1, 0, 0))), (1, .int a1), (2, .int a2), (4, .int x4)]) hx hb dT_fullPrice_36 rfl hl (by decide) rfl (fun ls hl => ?_)
      refine lv_iinc (v := x4 + 1) (lv' := [(4, .int (x4 + 1)), (3, .int z4), (0, .ref (X.2.2 (1, 0, 0))), (1, .int a1), (2, .int a2)]) hx hb dT_fullPrice_37 hl (k := 4) rfl (by rfl) (by decide) rfl (fun ls hl => ?_)
      refine lv_goto (tgt := 16) hx hb dT_fullPrice_40 (by decide) ?_
      exact ih (x4 + 1) z4 (j + 1) (by rw [hj]; exact nI_1 j) hlt (by omega) _ _ hW hS ls (lv_sub hl [2, 3, 4, 1, 0] rfl) he
set_option maxHeartbeats 4000000 in
set_option maxRecDepth 100000 in
theorem c_fullPrice (l : Launch) (X : fw_X) (hI : fw_I cV X) (σ : fw_S) (a1 a2 : Int32)  : fw_Mi fw_cl csh cV fw_tys l yT_fullPrice wT_fullPrice (fw_rm 1) X σ [.ref (X.2.2 (1, 0, 0)), .int a1, .int a2] ((cs_fullPrice σ a1 a2, σ)) := by
  obtain ⟨out, he⟩ : ∃ z : Int32, z = cs_fullPrice σ a1 a2 := ⟨_, rfl⟩
  rw [← he]
  refine fw_Mi_of (cc := bT_fullPrice) (maxL := 5) (ret := (some .int)) (by decide) rfl (Nat.le_of_ble_eq_true rfl) ?_
  intro p e s m below meth c ls hx hb hr hml hlocks hown hts hK hnb hW hl
  have hS : va_S (fw_A cV X) s.heap s.heap [] := va_S.rf
  have hA : ∀ t, cV t → fw_A cV X (X.2.2 t) := fun t h => ⟨t, h, rfl⟩
  have htb := tb_use hts
  have hl : lv_has ls 5 [(0, .ref (X.2.2 (1, 0, 0))), (1, .int a1), (2, .int a2)] := hl
  have hown : s.vm.findClass "TapOffice$Tariff" = some m.cls := hown
  unfold cs_fullPrice at he
  refine lv_iload_n hx hb dT_fullPrice_0 rfl (lv_at hl 1 rfl) ?_
  refine lv_bipush (v := 6) hx hb dT_fullPrice_1 (by decide) ?_
  refine fw_kp (va_runSN (As := [.int a1, .int 6]) (rest := []) ⟨hx, hb, hml, hown, hts⟩ (c_isBelow l X hI σ a1 6 ) ⟨va_cnB 2 hts (tb_C m_172) rfl rfl rfl hnb (htb _ m_25 rfl) (by decide +kernel) ⟨Nat.le_of_ble_eq_true rfl, Nat.le_of_ble_eq_true rfl⟩, htb _ m_171 rfl, trivial⟩ (fw_preS (X := X) hK hnb hW [.int a1, .int 6]) rfl rfl hl.1 rfl (lv_room (Nat.le_of_ble_eq_true rfl)) dT_fullPrice_3 ⟨Nat.zero_le _, Nat.zero_le _⟩) hS (fun H locs hW hS => ?_)
  refine lv_if_ne (tgt := 11) hx hb dT_fullPrice_6 (by decide) (fun c1 => ?_) (fun c1 => ?_)
  · rw [if_neg c1] at he
    refine lv_iconst (v := 0) hx hb dT_fullPrice_11 (by decide) ?_
    refine lv_istore_n (lv' := [(3, .int 0), (0, .ref (X.2.2 (1, 0, 0))), (1, .int a1), (2, .int a2)]) hx hb dT_fullPrice_12 rfl hl (by decide) rfl (fun ls hl => ?_)
    refine lv_iconst (v := 0) hx hb dT_fullPrice_13 (by decide) ?_
    refine lv_istore (lv' := [(4, .int 0), (3, .int 0), (0, .ref (X.2.2 (1, 0, 0))), (1, .int a1), (2, .int a2)]) hx hb dT_fullPrice_14 hl (by decide) rfl (fun ls hl => ?_)
    exact c_fullPrice_lp l X hI σ a1 a2 ‹¬ cs_isBelow a1 6 = 0›  out hx hb hr hml hlocks hown hts hK hnb (6 + 1) 0 0 0 nI_0.symm (by decide) (by decide) _ _ hW hS ls (lv_sub hl [2, 3, 4, 1, 0] rfl) he
  · rw [if_pos c1] at he
    refine lv_iconst (v := 0) hx hb dT_fullPrice_9 (by decide) ?_
    exact fw_iret hx hb hr hlocks hK hnb hW hS (by rw [he]) dT_fullPrice_10
end
section
def cs_moveTo_s2 (σ3 : fw_S) : fw_S :=
  σ3
def cs_moveTo_s1 (v : Nat) (a2 : Int32) (σ1 : fw_S) : fw_S :=
  cs_moveTo_s2 (fw_st σ1 (12, v, 0) 3 a2)
def cs_moveTo (σ : fw_S) (v : Nat) (a1 : Int32) (a2 : Int32) : fw_S :=
  cs_moveTo_s1 v a2 (fw_st σ (12, v, 0) 2 a1)
set_option maxHeartbeats 4000000 in
set_option maxRecDepth 100000 in
theorem c_moveTo (l : Launch) (X : fw_X) (hI : fw_I cV X) (σ : fw_S) (v : Nat) (hv : v < 4) (a1 a2 : Int32) (hz : a2 = 0 ∨ a2 = 1) : fw_Mv fw_cl csh cV fw_tys l yV_moveTo wV_moveTo (fw_rm 0) X σ [.ref (X.2.2 (12, v, 0)), .int a1, .int a2] (cs_moveTo σ v a1 a2) := by
  obtain ⟨out, he⟩ : ∃ z : fw_S, z = cs_moveTo σ v a1 a2 := ⟨_, rfl⟩
  rw [← he]
  refine fw_Mv_of (cc := bV_moveTo) (maxL := 3) (ret := none) (by decide) rfl (Nat.le_of_ble_eq_true rfl) ?_
  intro p e s m below meth c ls hx hb hr hml hlocks hown hts hK hnb hW hl
  have hS : va_S (fw_A cV X) s.heap s.heap [] := va_S.rf
  have hA : ∀ t, cV t → fw_A cV X (X.2.2 t) := fun t h => ⟨t, h, rfl⟩
  have htb := tb_use hts
  have hl : lv_has ls 3 [(0, .ref (X.2.2 (12, v, 0))), (1, .int a1), (2, .int a2)] := hl
  have hown : s.vm.findClass "TapOffice$Validator" = some m.cls := hown
  unfold cs_moveTo at he
  refine lv_aload_n hx hb dV_moveTo_0 rfl (lv_at hl 0 rfl) ?_
  refine lv_iload_n hx hb dV_moveTo_1 rfl (lv_at hl 1 rfl) ?_
  refine fw_put (X := X) hx hb hts hin_V ty_V ty_V_ok nm_V hown hK hW hI hA hS (12, v, 0) (cve12 hv) rfl rfl rfl 2 (by decide) (htb _ m_127 rfl) (fun _ h => h) rfl rfl (ty := .int) (by decide +kernel) rfl rfl dV_moveTo_2 (fun H locs hW hS => ?_)
  obtain ⟨σ1, e2⟩ : ∃ z : fw_S, z = fw_st σ (12, v, 0) 2 a1 := ⟨_, rfl⟩
  rw [← e2] at hW
  try rw [← e2] at he
  unfold cs_moveTo_s1 at he
  refine lv_aload_n hx hb dV_moveTo_5 rfl (lv_at hl 0 rfl) ?_
  refine lv_iload_n hx hb dV_moveTo_6 rfl (lv_at hl 2 rfl) ?_
  refine fw_put (X := X) hx hb hts hin_V ty_V ty_V_ok nm_V hown hK hW hI hA hS (12, v, 0) (cve12 hv) rfl rfl rfl 3 (by decide) (htb _ m_128 rfl) (fun _ h => h) rfl rfl (ty := .boolean) (by decide +kernel) (bo_n (hz)) (bo_f (hz)) dV_moveTo_7 (fun H locs hW hS => ?_)
  obtain ⟨σ3, e4⟩ : ∃ z : fw_S, z = fw_st σ1 (12, v, 0) 3 a2 := ⟨_, rfl⟩
  rw [← e4] at hW
  try rw [← e4] at he
  unfold cs_moveTo_s2 at he
  exact fw_vret hx hb hr hlocks hK hnb hW hS he dV_moveTo_10
def cs_zone (σ : fw_S) (v : Nat) : Int32 :=
  (σ (12, v, 0) 2)
set_option maxHeartbeats 4000000 in
set_option maxRecDepth 100000 in
theorem c_zone (l : Launch) (X : fw_X) (hI : fw_I cV X) (σ : fw_S) (v : Nat) (hv : v < 4)  : fw_Mi fw_cl csh cV fw_tys l yV_zone wV_zone (fw_rm 0) X σ [.ref (X.2.2 (12, v, 0))] ((cs_zone σ v, σ)) := by
  obtain ⟨out, he⟩ : ∃ z : Int32, z = cs_zone σ v := ⟨_, rfl⟩
  rw [← he]
  refine fw_Mi_of (cc := bV_zone) (maxL := 1) (ret := (some .int)) (by decide) rfl (Nat.le_of_ble_eq_true rfl) ?_
  intro p e s m below meth c ls hx hb hr hml hlocks hown hts hK hnb hW hl
  have hS : va_S (fw_A cV X) s.heap s.heap [] := va_S.rf
  have hA : ∀ t, cV t → fw_A cV X (X.2.2 t) := fun t h => ⟨t, h, rfl⟩
  have htb := tb_use hts
  have hl : lv_has ls 1 [(0, .ref (X.2.2 (12, v, 0)))] := hl
  have hown : s.vm.findClass "TapOffice$Validator" = some m.cls := hown
  unfold cs_zone at he
  refine lv_aload_n hx hb dV_zone_0 rfl (lv_at hl 0 rfl) ?_
  refine fw_get (X := X) (v := .int (σ (12, v, 0) 2)) hx hb hts hin_V hown hK hW (12, v, 0) (cve12 hv) rfl rfl 2 (by decide) (htb _ m_127 rfl) (fun _ h => h) rfl rfl dV_zone_1 ?_
  exact fw_iret hx hb hr hlocks hK hnb hW hS (by rw [he]) dV_zone_4
def cs_isExit (σ : fw_S) (v : Nat) : Int32 :=
  (σ (12, v, 0) 3)
set_option maxHeartbeats 4000000 in
set_option maxRecDepth 100000 in
theorem c_isExit (l : Launch) (X : fw_X) (hI : fw_I cV X) (σ : fw_S) (v : Nat) (hv : v < 4) (hz : σ (12, v, 0) 3 = 0 ∨ σ (12, v, 0) 3 = 1) : fw_Mi fw_cl csh cV fw_tys l yV_isExit wV_isExit (fw_rm 0) X σ [.ref (X.2.2 (12, v, 0))] ((cs_isExit σ v, σ)) := by
  obtain ⟨out, he⟩ : ∃ z : Int32, z = cs_isExit σ v := ⟨_, rfl⟩
  rw [← he]
  refine fw_Mi_of (cc := bV_isExit) (maxL := 1) (ret := (some .boolean)) (by decide) rfl (Nat.le_of_ble_eq_true rfl) ?_
  intro p e s m below meth c ls hx hb hr hml hlocks hown hts hK hnb hW hl
  have hS : va_S (fw_A cV X) s.heap s.heap [] := va_S.rf
  have hA : ∀ t, cV t → fw_A cV X (X.2.2 t) := fun t h => ⟨t, h, rfl⟩
  have htb := tb_use hts
  have hl : lv_has ls 1 [(0, .ref (X.2.2 (12, v, 0)))] := hl
  have hown : s.vm.findClass "TapOffice$Validator" = some m.cls := hown
  unfold cs_isExit at he
  refine lv_aload_n hx hb dV_isExit_0 rfl (lv_at hl 0 rfl) ?_
  refine fw_get (X := X) (v := .int (σ (12, v, 0) 3)) hx hb hts hin_V hown hK hW (12, v, 0) (cve12 hv) rfl rfl 3 (by decide) (htb _ m_128 rfl) (fun _ h => h) rfl rfl dV_isExit_1 ?_
  exact fw_zret hx hb hr hlocks hK hnb hW hS hz (by rw [he]) dV_isExit_4
def cs_denies (σ : fw_S) (v : Nat) (a1 : Int32) : Int32 :=
  if (((σ (12, v, 0) 4) >>> (a1 &&& 31)) &&& 1) = 1 then 1 else 0
set_option maxHeartbeats 4000000 in
set_option maxRecDepth 100000 in
theorem c_denies (l : Launch) (X : fw_X) (hI : fw_I cV X) (σ : fw_S) (v : Nat) (hv : v < 4) (a1 : Int32)  : fw_Mi fw_cl csh cV fw_tys l yV_denies wV_denies (fw_rm 0) X σ [.ref (X.2.2 (12, v, 0)), .int a1] ((cs_denies σ v a1, σ)) := by
  obtain ⟨out, he⟩ : ∃ z : Int32, z = cs_denies σ v a1 := ⟨_, rfl⟩
  rw [← he]
  refine fw_Mi_of (cc := bV_denies) (maxL := 2) (ret := (some .boolean)) (by decide) rfl (Nat.le_of_ble_eq_true rfl) ?_
  intro p e s m below meth c ls hx hb hr hml hlocks hown hts hK hnb hW hl
  have hS : va_S (fw_A cV X) s.heap s.heap [] := va_S.rf
  have hA : ∀ t, cV t → fw_A cV X (X.2.2 t) := fun t h => ⟨t, h, rfl⟩
  have htb := tb_use hts
  have hl : lv_has ls 2 [(0, .ref (X.2.2 (12, v, 0))), (1, .int a1)] := hl
  have hown : s.vm.findClass "TapOffice$Validator" = some m.cls := hown
  unfold cs_denies at he
  refine lv_aload_n hx hb dV_denies_0 rfl (lv_at hl 0 rfl) ?_
  refine fw_get (X := X) (v := .int (σ (12, v, 0) 4)) hx hb hts hin_V hown hK hW (12, v, 0) (cve12 hv) rfl rfl 4 (by decide) (htb _ m_129 rfl) (fun _ h => h) rfl rfl dV_denies_1 ?_
  refine lv_iload_n hx hb dV_denies_4 rfl (lv_at hl 1 rfl) ?_
  refine lv_ishr hx hb dV_denies_5 ?_
  refine lv_iconst (v := 1) hx hb dV_denies_6 (by decide) ?_
  refine lv_iand hx hb dV_denies_7 ?_
  refine lv_iconst (v := 1) hx hb dV_denies_8 (by decide) ?_
  refine lv_icmp_ne (tgt := 16) hx hb dV_denies_9 (by decide) (fun c1 => ?_) (fun c1 => ?_)
  · rw [if_neg c1] at he
    refine lv_iconst (v := 0) hx hb dV_denies_16 (by decide) ?_
    exact fw_zret hx hb hr hlocks hK hnb hW hS (by decide) (by rw [he]) dV_denies_17
  · rw [if_pos c1] at he
    refine lv_iconst (v := 1) hx hb dV_denies_12 (by decide) ?_
    refine lv_goto (tgt := 17) hx hb dV_denies_13 (by decide) ?_
    exact fw_zret hx hb hr hlocks hK hnb hW hS (by decide) (by rw [he]) dV_denies_17
def cs_takeDenied_s1 (σ1 : fw_S) : fw_S :=
  σ1
def cs_takeDenied (σ : fw_S) (v : Nat) (a1 : Int32) : fw_S :=
  cs_takeDenied_s1 (fw_st σ (12, v, 0) 4 a1)
set_option maxHeartbeats 4000000 in
set_option maxRecDepth 100000 in
theorem c_takeDenied (l : Launch) (X : fw_X) (hI : fw_I cV X) (σ : fw_S) (v : Nat) (hv : v < 4) (a1 : Int32)  : fw_Mv fw_cl csh cV fw_tys l yV_takeDenied wV_takeDenied (fw_rm 0) X σ [.ref (X.2.2 (12, v, 0)), .int a1] (cs_takeDenied σ v a1) := by
  obtain ⟨out, he⟩ : ∃ z : fw_S, z = cs_takeDenied σ v a1 := ⟨_, rfl⟩
  rw [← he]
  refine fw_Mv_of (cc := bV_takeDenied) (maxL := 2) (ret := none) (by decide) rfl (Nat.le_of_ble_eq_true rfl) ?_
  intro p e s m below meth c ls hx hb hr hml hlocks hown hts hK hnb hW hl
  have hS : va_S (fw_A cV X) s.heap s.heap [] := va_S.rf
  have hA : ∀ t, cV t → fw_A cV X (X.2.2 t) := fun t h => ⟨t, h, rfl⟩
  have htb := tb_use hts
  have hl : lv_has ls 2 [(0, .ref (X.2.2 (12, v, 0))), (1, .int a1)] := hl
  have hown : s.vm.findClass "TapOffice$Validator" = some m.cls := hown
  unfold cs_takeDenied at he
  refine lv_aload_n hx hb dV_takeDenied_0 rfl (lv_at hl 0 rfl) ?_
  refine lv_iload_n hx hb dV_takeDenied_1 rfl (lv_at hl 1 rfl) ?_
  refine fw_put (X := X) hx hb hts hin_V ty_V ty_V_ok nm_V hown hK hW hI hA hS (12, v, 0) (cve12 hv) rfl rfl rfl 4 (by decide) (htb _ m_129 rfl) (fun _ h => h) rfl rfl (ty := .int) (by decide +kernel) rfl rfl dV_takeDenied_2 (fun H locs hW hS => ?_)
  obtain ⟨σ1, e2⟩ : ∃ z : fw_S, z = fw_st σ (12, v, 0) 4 a1 := ⟨_, rfl⟩
  rw [← e2] at hW
  try rw [← e2] at he
  unfold cs_takeDenied_s1 at he
  exact fw_vret hx hb hr hlocks hK hnb hW hS he dV_takeDenied_5
def cs_isFull (σ : fw_S) (v : Nat) : Int32 :=
  if (σ (12, v, 0) 1) < 8 then 0 else 1
set_option maxHeartbeats 4000000 in
set_option maxRecDepth 100000 in
theorem c_isFull (l : Launch) (X : fw_X) (hI : fw_I cV X) (σ : fw_S) (v : Nat) (hv : v < 4)  : fw_Mi fw_cl csh cV fw_tys l yV_isFull wV_isFull (fw_rm 0) X σ [.ref (X.2.2 (12, v, 0))] ((cs_isFull σ v, σ)) := by
  obtain ⟨out, he⟩ : ∃ z : Int32, z = cs_isFull σ v := ⟨_, rfl⟩
  rw [← he]
  refine fw_Mi_of (cc := bV_isFull) (maxL := 1) (ret := (some .boolean)) (by decide) rfl (Nat.le_of_ble_eq_true rfl) ?_
  intro p e s m below meth c ls hx hb hr hml hlocks hown hts hK hnb hW hl
  have hS : va_S (fw_A cV X) s.heap s.heap [] := va_S.rf
  have hA : ∀ t, cV t → fw_A cV X (X.2.2 t) := fun t h => ⟨t, h, rfl⟩
  have htb := tb_use hts
  have hl : lv_has ls 1 [(0, .ref (X.2.2 (12, v, 0)))] := hl
  have hown : s.vm.findClass "TapOffice$Validator" = some m.cls := hown
  unfold cs_isFull at he
  refine lv_aload_n hx hb dV_isFull_0 rfl (lv_at hl 0 rfl) ?_
  refine fw_get (X := X) (v := .int (σ (12, v, 0) 1)) hx hb hts hin_V hown hK hW (12, v, 0) (cve12 hv) rfl rfl 1 (by decide) (htb _ m_126 rfl) (fun _ h => h) rfl rfl dV_isFull_1 ?_
  refine lv_bipush (v := 8) hx hb dV_isFull_4 (by decide) ?_
  refine lv_icmp_lt (tgt := 13) hx hb dV_isFull_6 (by decide) (fun c1 => ?_) (fun c1 => ?_)
  · rw [if_pos c1] at he
    refine lv_iconst (v := 0) hx hb dV_isFull_13 (by decide) ?_
    exact fw_zret hx hb hr hlocks hK hnb hW hS (by decide) (by rw [he]) dV_isFull_14
  · rw [if_neg c1] at he
    refine lv_iconst (v := 1) hx hb dV_isFull_9 (by decide) ?_
    refine lv_goto (tgt := 14) hx hb dV_isFull_10 (by decide) ?_
    exact fw_zret hx hb hr hlocks hK hnb hW hS (by decide) (by rw [he]) dV_isFull_14
theorem ke_in {σ : fw_S} {v : Nat} (h1 : 0 ≤ σ (12, v, 0) 1) (h2 : cs_isFull σ v = 0) : vp_in (σ (12, v, 0) 1) 8 := by
  unfold cs_isFull at h2
  by_cases h3 : σ (12, v, 0) 1 < 8
  · refine vi_of ?_ ?_
    · have := Int32.le_iff_toInt_le.mp h1
      simpa using this
    · have := Int32.lt_iff_toInt_lt.mp h3
      simpa using this
  · rw [if_neg h3] at h2
    exact absurd h2 (by decide)
def cs_logSize (σ : fw_S) (v : Nat) : Int32 :=
  (σ (12, v, 0) 1)
set_option maxHeartbeats 4000000 in
set_option maxRecDepth 100000 in
theorem c_logSize (l : Launch) (X : fw_X) (hI : fw_I cV X) (σ : fw_S) (v : Nat) (hv : v < 4)  : fw_Mi fw_cl csh cV fw_tys l yV_logSize wV_logSize (fw_rm 0) X σ [.ref (X.2.2 (12, v, 0))] ((cs_logSize σ v, σ)) := by
  obtain ⟨out, he⟩ : ∃ z : Int32, z = cs_logSize σ v := ⟨_, rfl⟩
  rw [← he]
  refine fw_Mi_of (cc := bV_logSize) (maxL := 1) (ret := (some .int)) (by decide) rfl (Nat.le_of_ble_eq_true rfl) ?_
  intro p e s m below meth c ls hx hb hr hml hlocks hown hts hK hnb hW hl
  have hS : va_S (fw_A cV X) s.heap s.heap [] := va_S.rf
  have hA : ∀ t, cV t → fw_A cV X (X.2.2 t) := fun t h => ⟨t, h, rfl⟩
  have htb := tb_use hts
  have hl : lv_has ls 1 [(0, .ref (X.2.2 (12, v, 0)))] := hl
  have hown : s.vm.findClass "TapOffice$Validator" = some m.cls := hown
  unfold cs_logSize at he
  refine lv_aload_n hx hb dV_logSize_0 rfl (lv_at hl 0 rfl) ?_
  refine fw_get (X := X) (v := .int (σ (12, v, 0) 1)) hx hb hts hin_V hown hK hW (12, v, 0) (cve12 hv) rfl rfl 1 (by decide) (htb _ m_126 rfl) (fun _ h => h) rfl rfl dV_logSize_1 ?_
  exact fw_iret hx hb hr hlocks hK hnb hW hS (by rw [he]) dV_logSize_4
def cs_readEntry (σ : fw_S) (v : Nat) (a1 : Int32) (a2 : Int32) : Int32 :=
  (σ (20, v, a1.toNatClampNeg) a2.toNatClampNeg)
set_option maxHeartbeats 4000000 in
set_option maxRecDepth 100000 in
theorem c_readEntry (l : Launch) (X : fw_X) (hI : fw_I cV X) (σ : fw_S) (v : Nat) (hv : v < 4) (a1 a2 : Int32) (h1 : vp_in a1 8) (h2 : vp_in a2 4) : fw_Mi fw_cl csh cV fw_tys l yV_readEntry wV_readEntry (fw_rm 0) X σ [.ref (X.2.2 (12, v, 0)), .int a1, .int a2] ((cs_readEntry σ v a1 a2, σ)) := by
  obtain ⟨out, he⟩ : ∃ z : Int32, z = cs_readEntry σ v a1 a2 := ⟨_, rfl⟩
  rw [← he]
  refine fw_Mi_of (cc := bV_readEntry) (maxL := 3) (ret := (some .int)) (by decide) rfl (Nat.le_of_ble_eq_true rfl) ?_
  intro p e s m below meth c ls hx hb hr hml hlocks hown hts hK hnb hW hl
  have hS : va_S (fw_A cV X) s.heap s.heap [] := va_S.rf
  have hA : ∀ t, cV t → fw_A cV X (X.2.2 t) := fun t h => ⟨t, h, rfl⟩
  have htb := tb_use hts
  have hl : lv_has ls 3 [(0, .ref (X.2.2 (12, v, 0))), (1, .int a1), (2, .int a2)] := hl
  have hown : s.vm.findClass "TapOffice$Validator" = some m.cls := hown
  unfold cs_readEntry at he
  refine lv_aload_n hx hb dV_readEntry_0 rfl (lv_at hl 0 rfl) ?_
  refine fw_get (X := X) (v := .ref (X.2.2 (18, v, 0))) hx hb hts hin_V hown hK hW (12, v, 0) (cve12 hv) rfl rfl 0 (by decide) (htb _ m_125 rfl) (fun _ h => h) rfl rfl dV_readEntry_1 ?_
  refine lv_iload_n hx hb dV_readEntry_4 rfl (lv_at hl 1 rfl) ?_
  refine fw_aald (X := X) hx hb hK hW (18, v, 0) (cvs18 (cve12 hv)) rfl 1 rfl rfl a1.toNatClampNeg rfl (20, v, a1.toNatClampNeg) rfl h1 dV_readEntry_5 ?_
  have hV1 : cV (20, v, a1.toNatClampNeg) := (cvj20 (cvs18 (cve12 hv)) (vi_lt h1))
  refine lv_iload_n hx hb dV_readEntry_6 rfl (lv_at hl 2 rfl) ?_
  refine fw_iald (X := X) hx hb hK hW (20, v, a1.toNatClampNeg) hV1 rfl 0 rfl a2.toNatClampNeg rfl h2 dV_readEntry_7 ?_
  exact fw_iret hx hb hr hlocks hK hnb hW hS (by rw [he]) dV_readEntry_8
def cs_keepEntry_s5 (σ11 : fw_S) : fw_S :=
  σ11
def cs_keepEntry_s4 (v : Nat) (σ9 : fw_S) : fw_S :=
  cs_keepEntry_s5 (fw_st σ9 (12, v, 0) 1 ((σ9 (12, v, 0) 1) + 1))
def cs_keepEntry_s3 (v : Nat) (a4 : Int32) (σ : fw_S) (σ7 : fw_S) : fw_S :=
  cs_keepEntry_s4 v (fw_st σ7 (20, v, (σ (12, v, 0) 1).toNatClampNeg) 3 a4)
def cs_keepEntry_s2 (v : Nat) (a3 : Int32) (a4 : Int32) (σ : fw_S) (σ5 : fw_S) : fw_S :=
  cs_keepEntry_s3 v a4 σ (fw_st σ5 (20, v, (σ (12, v, 0) 1).toNatClampNeg) 2 a3)
def cs_keepEntry_s1 (v : Nat) (a2 : Int32) (a3 : Int32) (a4 : Int32) (σ : fw_S) (σ3 : fw_S) : fw_S :=
  cs_keepEntry_s2 v a3 a4 σ (fw_st σ3 (20, v, (σ (12, v, 0) 1).toNatClampNeg) 1 a2)
def cs_keepEntry (σ : fw_S) (v : Nat) (a1 : Int32) (a2 : Int32) (a3 : Int32) (a4 : Int32) : fw_S :=
  if (cs_isFull σ v) = 0 then cs_keepEntry_s1 v a2 a3 a4 σ (fw_st σ (20, v, (σ (12, v, 0) 1).toNatClampNeg) 0 a1) else σ
set_option maxHeartbeats 4000000 in
set_option maxRecDepth 100000 in
theorem c_keepEntry (l : Launch) (X : fw_X) (hI : fw_I cV X) (σ : fw_S) (v : Nat) (hv : v < 4) (a1 a2 a3 a4 : Int32) (h1 : 0 ≤ σ (12, v, 0) 1) : fw_Mv fw_cl csh cV fw_tys l yV_keepEntry wV_keepEntry (fw_rm 1) X σ [.ref (X.2.2 (12, v, 0)), .int a1, .int a2, .int a3, .int a4] (cs_keepEntry σ v a1 a2 a3 a4) := by
  obtain ⟨out, he⟩ : ∃ z : fw_S, z = cs_keepEntry σ v a1 a2 a3 a4 := ⟨_, rfl⟩
  rw [← he]
  refine fw_Mv_of (cc := bV_keepEntry) (maxL := 6) (ret := none) (by decide) rfl (Nat.le_of_ble_eq_true rfl) ?_
  intro p e s m below meth c ls hx hb hr hml hlocks hown hts hK hnb hW hl
  have hS : va_S (fw_A cV X) s.heap s.heap [] := va_S.rf
  have hA : ∀ t, cV t → fw_A cV X (X.2.2 t) := fun t h => ⟨t, h, rfl⟩
  have htb := tb_use hts
  have hl : lv_has ls 6 [(0, .ref (X.2.2 (12, v, 0))), (1, .int a1), (2, .int a2), (3, .int a3), (4, .int a4)] := hl
  have hown : s.vm.findClass "TapOffice$Validator" = some m.cls := hown
  unfold cs_keepEntry at he
  refine lv_aload_n hx hb dV_keepEntry_0 rfl (lv_at hl 0 rfl) ?_
  refine fw_kp (va_runV (As := []) (rest := []) ⟨hx, hb, hml, hown, hts⟩ (c_isFull l X hI σ v ((cve12 hv)).1 ) (cwV 0 hts (tb_V m_206 m_293 m_204 m_205 m_30) rfl rfl rfl (by decide +kernel) ⟨Nat.le_of_ble_eq_true rfl, Nat.le_of_ble_eq_true rfl⟩) (fw_preV (X := X) hK hnb hW (12, v, 0) (cve12 hv) rfl rfl []) rfl rfl hl.1 rfl (lv_room (Nat.le_of_ble_eq_true rfl)) dV_keepEntry_1 ⟨Nat.zero_le _, Nat.zero_le _⟩) hS (fun H locs hW hS => ?_)
  refine lv_if_eq (tgt := 8) hx hb dV_keepEntry_4 (by decide) (fun c1 => ?_) (fun c1 => ?_)
  · rw [if_pos c1] at he
    refine lv_aload_n hx hb dV_keepEntry_8 rfl (lv_at hl 0 rfl) ?_
    refine fw_get (X := X) (v := .ref (X.2.2 (18, v, 0))) hx hb hts hin_V hown hK hW (12, v, 0) (cve12 hv) rfl rfl 0 (by decide) (htb _ m_125 rfl) (fun _ h => h) rfl rfl dV_keepEntry_9 ?_
    refine lv_aload_n hx hb dV_keepEntry_12 rfl (lv_at hl 0 rfl) ?_
    refine fw_get (X := X) (v := .int (σ (12, v, 0) 1)) hx hb hts hin_V hown hK hW (12, v, 0) (cve12 hv) rfl rfl 1 (by decide) (htb _ m_126 rfl) (fun _ h => h) rfl rfl dV_keepEntry_13 ?_
    refine fw_aald (X := X) hx hb hK hW (18, v, 0) (cvs18 (cve12 hv)) rfl 1 rfl rfl (σ (12, v, 0) 1).toNatClampNeg rfl (20, v, (σ (12, v, 0) 1).toNatClampNeg) rfl (ke_in h1 ‹cs_isFull σ v = 0›) dV_keepEntry_16 ?_
    have hV2 : cV (20, v, (σ (12, v, 0) 1).toNatClampNeg) := (cvj20 (cvs18 (cve12 hv)) (vi_lt (ke_in h1 ‹cs_isFull σ v = 0›)))
    refine lv_astore (lv' := [(5, .ref (X.2.2 (20, v, (σ (12, v, 0) 1).toNatClampNeg))), (0, .ref (X.2.2 (12, v, 0))), (1, .int a1), (2, .int a2), (3, .int a3), (4, .int a4)]) hx hb dV_keepEntry_17 hl (by decide) rfl (fun ls hl => ?_)
    refine lv_aload hx hb dV_keepEntry_19 (lv_at hl 0 rfl) ?_
    refine lv_iconst (v := 0) hx hb dV_keepEntry_21 (by decide) ?_
    refine lv_iload_n hx hb dV_keepEntry_22 rfl (lv_at hl 2 rfl) ?_
    refine fw_iast (X := X) hx hb hK hW hI hA hS (20, v, (σ (12, v, 0) 1).toNatClampNeg) hV2 rfl 0 rfl 0 (by decide) (by unfold vp_in; decide) dV_keepEntry_23 (fun H locs hW hS => ?_)
    obtain ⟨σ3, e4⟩ : ∃ z : fw_S, z = fw_st σ (20, v, (σ (12, v, 0) 1).toNatClampNeg) 0 a1 := ⟨_, rfl⟩
    rw [← e4] at hW
    try rw [← e4] at he
    unfold cs_keepEntry_s1 at he
    refine lv_aload hx hb dV_keepEntry_24 (lv_at hl 0 rfl) ?_
    refine lv_iconst (v := 1) hx hb dV_keepEntry_26 (by decide) ?_
    refine lv_iload_n hx hb dV_keepEntry_27 rfl (lv_at hl 3 rfl) ?_
    refine fw_iast (X := X) hx hb hK hW hI hA hS (20, v, (σ (12, v, 0) 1).toNatClampNeg) hV2 rfl 0 rfl 1 (by decide) (by unfold vp_in; decide) dV_keepEntry_28 (fun H locs hW hS => ?_)
    obtain ⟨σ5, e6⟩ : ∃ z : fw_S, z = fw_st σ3 (20, v, (σ (12, v, 0) 1).toNatClampNeg) 1 a2 := ⟨_, rfl⟩
    rw [← e6] at hW
    try rw [← e6] at he
    unfold cs_keepEntry_s2 at he
    refine lv_aload hx hb dV_keepEntry_29 (lv_at hl 0 rfl) ?_
    refine lv_iconst (v := 2) hx hb dV_keepEntry_31 (by decide) ?_
    refine lv_iload_n hx hb dV_keepEntry_32 rfl (lv_at hl 4 rfl) ?_
    refine fw_iast (X := X) hx hb hK hW hI hA hS (20, v, (σ (12, v, 0) 1).toNatClampNeg) hV2 rfl 0 rfl 2 (by decide) (by unfold vp_in; decide) dV_keepEntry_33 (fun H locs hW hS => ?_)
    obtain ⟨σ7, e8⟩ : ∃ z : fw_S, z = fw_st σ5 (20, v, (σ (12, v, 0) 1).toNatClampNeg) 2 a3 := ⟨_, rfl⟩
    rw [← e8] at hW
    try rw [← e8] at he
    unfold cs_keepEntry_s3 at he
    refine lv_aload hx hb dV_keepEntry_34 (lv_at hl 0 rfl) ?_
    refine lv_iconst (v := 3) hx hb dV_keepEntry_36 (by decide) ?_
    refine lv_iload hx hb dV_keepEntry_37 (lv_at hl 5 rfl) ?_
    refine fw_iast (X := X) hx hb hK hW hI hA hS (20, v, (σ (12, v, 0) 1).toNatClampNeg) hV2 rfl 0 rfl 3 (by decide) (by unfold vp_in; decide) dV_keepEntry_39 (fun H locs hW hS => ?_)
    obtain ⟨σ9, e10⟩ : ∃ z : fw_S, z = fw_st σ7 (20, v, (σ (12, v, 0) 1).toNatClampNeg) 3 a4 := ⟨_, rfl⟩
    rw [← e10] at hW
    try rw [← e10] at he
    unfold cs_keepEntry_s4 at he
    refine lv_aload_n hx hb dV_keepEntry_40 rfl (lv_at hl 1 rfl) ?_
    refine lv_dup hx hb dV_keepEntry_41 rfl ?_
    refine fw_get (X := X) (v := .int (σ9 (12, v, 0) 1)) hx hb hts hin_V hown hK hW (12, v, 0) (cve12 hv) rfl rfl 1 (by decide) (htb _ m_126 rfl) (fun _ h => h) rfl rfl dV_keepEntry_42 ?_
    refine lv_iconst (v := 1) hx hb dV_keepEntry_45 (by decide) ?_
    refine lv_iadd hx hb dV_keepEntry_46 ?_
    refine fw_put (X := X) hx hb hts hin_V ty_V ty_V_ok nm_V hown hK hW hI hA hS (12, v, 0) (cve12 hv) rfl rfl rfl 1 (by decide) (htb _ m_126 rfl) (fun _ h => h) rfl rfl (ty := .int) (by decide +kernel) rfl rfl dV_keepEntry_47 (fun H locs hW hS => ?_)
    obtain ⟨σ11, e12⟩ : ∃ z : fw_S, z = fw_st σ9 (12, v, 0) 1 ((σ9 (12, v, 0) 1) + 1) := ⟨_, rfl⟩
    rw [← e12] at hW
    try rw [← e12] at he
    unfold cs_keepEntry_s5 at he
    exact fw_vret hx hb hr hlocks hK hnb hW hS he dV_keepEntry_50
  · rw [if_neg c1] at he
    exact fw_vret hx hb hr hlocks hK hnb hW hS he dV_keepEntry_7
def cs_emptyLog_s1 (σ1 : fw_S) : fw_S :=
  σ1
def cs_emptyLog (σ : fw_S) (v : Nat) : fw_S :=
  cs_emptyLog_s1 (fw_st σ (12, v, 0) 1 0)
set_option maxHeartbeats 4000000 in
set_option maxRecDepth 100000 in
theorem c_emptyLog (l : Launch) (X : fw_X) (hI : fw_I cV X) (σ : fw_S) (v : Nat) (hv : v < 4)  : fw_Mv fw_cl csh cV fw_tys l yV_emptyLog wV_emptyLog (fw_rm 0) X σ [.ref (X.2.2 (12, v, 0))] (cs_emptyLog σ v) := by
  obtain ⟨out, he⟩ : ∃ z : fw_S, z = cs_emptyLog σ v := ⟨_, rfl⟩
  rw [← he]
  refine fw_Mv_of (cc := bV_emptyLog) (maxL := 1) (ret := none) (by decide) rfl (Nat.le_of_ble_eq_true rfl) ?_
  intro p e s m below meth c ls hx hb hr hml hlocks hown hts hK hnb hW hl
  have hS : va_S (fw_A cV X) s.heap s.heap [] := va_S.rf
  have hA : ∀ t, cV t → fw_A cV X (X.2.2 t) := fun t h => ⟨t, h, rfl⟩
  have htb := tb_use hts
  have hl : lv_has ls 1 [(0, .ref (X.2.2 (12, v, 0)))] := hl
  have hown : s.vm.findClass "TapOffice$Validator" = some m.cls := hown
  unfold cs_emptyLog at he
  refine lv_aload_n hx hb dV_emptyLog_0 rfl (lv_at hl 0 rfl) ?_
  refine lv_iconst (v := 0) hx hb dV_emptyLog_1 (by decide) ?_
  refine fw_put (X := X) hx hb hts hin_V ty_V ty_V_ok nm_V hown hK hW hI hA hS (12, v, 0) (cve12 hv) rfl rfl rfl 1 (by decide) (htb _ m_126 rfl) (fun _ h => h) rfl rfl (ty := .int) (by decide +kernel) rfl rfl dV_emptyLog_2 (fun H locs hW hS => ?_)
  obtain ⟨σ1, e2⟩ : ∃ z : fw_S, z = fw_st σ (12, v, 0) 1 0 := ⟨_, rfl⟩
  rw [← e2] at hW
  try rw [← e2] at he
  unfold cs_emptyLog_s1 at he
  exact fw_vret hx hb hr hlocks hK hnb hW hS he dV_emptyLog_5
def cs_known (σ : fw_S) (k : Nat) : Int32 :=
  (σ (11, k, 0) 3)
set_option maxHeartbeats 4000000 in
set_option maxRecDepth 100000 in
theorem c_known (l : Launch) (X : fw_X) (hI : fw_I cV X) (σ : fw_S) (k : Nat) (hk : k < 4)  : fw_Mi fw_cl csh cV fw_tys l yA_known wA_known (fw_rm 0) X σ [.ref (X.2.2 (11, k, 0))] ((cs_known σ k, σ)) := by
  obtain ⟨out, he⟩ : ∃ z : Int32, z = cs_known σ k := ⟨_, rfl⟩
  rw [← he]
  refine fw_Mi_of (cc := bA_known) (maxL := 1) (ret := (some .int)) (by decide) rfl (Nat.le_of_ble_eq_true rfl) ?_
  intro p e s m below meth c ls hx hb hr hml hlocks hown hts hK hnb hW hl
  have hS : va_S (fw_A cV X) s.heap s.heap [] := va_S.rf
  have hA : ∀ t, cV t → fw_A cV X (X.2.2 t) := fun t h => ⟨t, h, rfl⟩
  have htb := tb_use hts
  have hl : lv_has ls 1 [(0, .ref (X.2.2 (11, k, 0)))] := hl
  have hown : s.vm.findClass "TapOffice$Account" = some m.cls := hown
  unfold cs_known at he
  refine lv_aload_n hx hb dA_known_0 rfl (lv_at hl 0 rfl) ?_
  refine fw_get (X := X) (v := .int (σ (11, k, 0) 3)) hx hb hts hin_A hown hK hW (11, k, 0) (cve11 hk) rfl rfl 3 (by decide) (htb _ m_99 rfl) (fun _ h => h) rfl rfl dA_known_1 ?_
  exact fw_iret hx hb hr hlocks hK hnb hW hS (by rw [he]) dA_known_4
def cs_greatestCounter (σ : fw_S) (k : Nat) : Int32 :=
  (σ (11, k, 0) 4)
set_option maxHeartbeats 4000000 in
set_option maxRecDepth 100000 in
theorem c_greatestCounter (l : Launch) (X : fw_X) (hI : fw_I cV X) (σ : fw_S) (k : Nat) (hk : k < 4)  : fw_Mi fw_cl csh cV fw_tys l yA_greatestCounter wA_greatestCounter (fw_rm 0) X σ [.ref (X.2.2 (11, k, 0))] ((cs_greatestCounter σ k, σ)) := by
  obtain ⟨out, he⟩ : ∃ z : Int32, z = cs_greatestCounter σ k := ⟨_, rfl⟩
  rw [← he]
  refine fw_Mi_of (cc := bA_greatestCounter) (maxL := 1) (ret := (some .int)) (by decide) rfl (Nat.le_of_ble_eq_true rfl) ?_
  intro p e s m below meth c ls hx hb hr hml hlocks hown hts hK hnb hW hl
  have hS : va_S (fw_A cV X) s.heap s.heap [] := va_S.rf
  have hA : ∀ t, cV t → fw_A cV X (X.2.2 t) := fun t h => ⟨t, h, rfl⟩
  have htb := tb_use hts
  have hl : lv_has ls 1 [(0, .ref (X.2.2 (11, k, 0)))] := hl
  have hown : s.vm.findClass "TapOffice$Account" = some m.cls := hown
  unfold cs_greatestCounter at he
  refine lv_aload_n hx hb dA_greatestCounter_0 rfl (lv_at hl 0 rfl) ?_
  refine fw_get (X := X) (v := .int (σ (11, k, 0) 4)) hx hb hts hin_A hown hK hW (11, k, 0) (cve11 hk) rfl rfl 4 (by decide) (htb _ m_100 rfl) (fun _ h => h) rfl rfl dA_greatestCounter_1 ?_
  exact fw_iret hx hb hr hlocks hK hnb hW hS (by rw [he]) dA_greatestCounter_4
def cs_missing (σ : fw_S) (k : Nat) : Int32 :=
  ((σ (11, k, 0) 4) - (σ (11, k, 0) 3))
set_option maxHeartbeats 4000000 in
set_option maxRecDepth 100000 in
theorem c_missing (l : Launch) (X : fw_X) (hI : fw_I cV X) (σ : fw_S) (k : Nat) (hk : k < 4)  : fw_Mi fw_cl csh cV fw_tys l yA_missing wA_missing (fw_rm 0) X σ [.ref (X.2.2 (11, k, 0))] ((cs_missing σ k, σ)) := by
  obtain ⟨out, he⟩ : ∃ z : Int32, z = cs_missing σ k := ⟨_, rfl⟩
  rw [← he]
  refine fw_Mi_of (cc := bA_missing) (maxL := 1) (ret := (some .int)) (by decide) rfl (Nat.le_of_ble_eq_true rfl) ?_
  intro p e s m below meth c ls hx hb hr hml hlocks hown hts hK hnb hW hl
  have hS : va_S (fw_A cV X) s.heap s.heap [] := va_S.rf
  have hA : ∀ t, cV t → fw_A cV X (X.2.2 t) := fun t h => ⟨t, h, rfl⟩
  have htb := tb_use hts
  have hl : lv_has ls 1 [(0, .ref (X.2.2 (11, k, 0)))] := hl
  have hown : s.vm.findClass "TapOffice$Account" = some m.cls := hown
  unfold cs_missing at he
  refine lv_aload_n hx hb dA_missing_0 rfl (lv_at hl 0 rfl) ?_
  refine fw_get (X := X) (v := .int (σ (11, k, 0) 4)) hx hb hts hin_A hown hK hW (11, k, 0) (cve11 hk) rfl rfl 4 (by decide) (htb _ m_100 rfl) (fun _ h => h) rfl rfl dA_missing_1 ?_
  refine lv_aload_n hx hb dA_missing_4 rfl (lv_at hl 0 rfl) ?_
  refine fw_get (X := X) (v := .int (σ (11, k, 0) 3)) hx hb hts hin_A hown hK hW (11, k, 0) (cve11 hk) rfl rfl 3 (by decide) (htb _ m_99 rfl) (fun _ h => h) rfl rfl dA_missing_5 ?_
  refine lv_isub hx hb dA_missing_8 ?_
  exact fw_iret hx hb hr hlocks hK hnb hW hS (by rw [he]) dA_missing_9
def cs_allCharges (σ : fw_S) (k : Nat) : Int32 :=
  (σ (11, k, 0) 5)
set_option maxHeartbeats 4000000 in
set_option maxRecDepth 100000 in
theorem c_allCharges (l : Launch) (X : fw_X) (hI : fw_I cV X) (σ : fw_S) (k : Nat) (hk : k < 4)  : fw_Mi fw_cl csh cV fw_tys l yA_allCharges wA_allCharges (fw_rm 0) X σ [.ref (X.2.2 (11, k, 0))] ((cs_allCharges σ k, σ)) := by
  obtain ⟨out, he⟩ : ∃ z : Int32, z = cs_allCharges σ k := ⟨_, rfl⟩
  rw [← he]
  refine fw_Mi_of (cc := bA_allCharges) (maxL := 1) (ret := (some .int)) (by decide) rfl (Nat.le_of_ble_eq_true rfl) ?_
  intro p e s m below meth c ls hx hb hr hml hlocks hown hts hK hnb hW hl
  have hS : va_S (fw_A cV X) s.heap s.heap [] := va_S.rf
  have hA : ∀ t, cV t → fw_A cV X (X.2.2 t) := fun t h => ⟨t, h, rfl⟩
  have htb := tb_use hts
  have hl : lv_has ls 1 [(0, .ref (X.2.2 (11, k, 0)))] := hl
  have hown : s.vm.findClass "TapOffice$Account" = some m.cls := hown
  unfold cs_allCharges at he
  refine lv_aload_n hx hb dA_allCharges_0 rfl (lv_at hl 0 rfl) ?_
  refine fw_get (X := X) (v := .int (σ (11, k, 0) 5)) hx hb hts hin_A hown hK hW (11, k, 0) (cve11 hk) rfl rfl 5 (by decide) (htb _ m_101 rfl) (fun _ h => h) rfl rfl dA_allCharges_1 ?_
  exact fw_iret hx hb hr hlocks hK hnb hW hS (by rw [he]) dA_allCharges_4
def cs_allTopUps (σ : fw_S) (k : Nat) : Int32 :=
  (σ (11, k, 0) 6)
set_option maxHeartbeats 4000000 in
set_option maxRecDepth 100000 in
theorem c_allTopUps (l : Launch) (X : fw_X) (hI : fw_I cV X) (σ : fw_S) (k : Nat) (hk : k < 4)  : fw_Mi fw_cl csh cV fw_tys l yA_allTopUps wA_allTopUps (fw_rm 0) X σ [.ref (X.2.2 (11, k, 0))] ((cs_allTopUps σ k, σ)) := by
  obtain ⟨out, he⟩ : ∃ z : Int32, z = cs_allTopUps σ k := ⟨_, rfl⟩
  rw [← he]
  refine fw_Mi_of (cc := bA_allTopUps) (maxL := 1) (ret := (some .int)) (by decide) rfl (Nat.le_of_ble_eq_true rfl) ?_
  intro p e s m below meth c ls hx hb hr hml hlocks hown hts hK hnb hW hl
  have hS : va_S (fw_A cV X) s.heap s.heap [] := va_S.rf
  have hA : ∀ t, cV t → fw_A cV X (X.2.2 t) := fun t h => ⟨t, h, rfl⟩
  have htb := tb_use hts
  have hl : lv_has ls 1 [(0, .ref (X.2.2 (11, k, 0)))] := hl
  have hown : s.vm.findClass "TapOffice$Account" = some m.cls := hown
  unfold cs_allTopUps at he
  refine lv_aload_n hx hb dA_allTopUps_0 rfl (lv_at hl 0 rfl) ?_
  refine fw_get (X := X) (v := .int (σ (11, k, 0) 6)) hx hb hts hin_A hown hK hW (11, k, 0) (cve11 hk) rfl rfl 6 (by decide) (htb _ m_102 rfl) (fun _ h => h) rfl rfl dA_allTopUps_1 ?_
  exact fw_iret hx hb hr hlocks hK hnb hW hS (by rw [he]) dA_allTopUps_4
theorem en_in {x : Int32} (h1 : ¬ x < 1) (h2 : ¬ 512 < x) : vp_in x 513 := by
  have h3 := Int32.le_iff_toInt_le.mp (Int32.not_lt.mp h1)
  have h4 := Int32.le_iff_toInt_le.mp (Int32.not_lt.mp h2)
  have e1 : (1 : Int32).toInt = 1 := by decide
  have e2 : (512 : Int32).toInt = 512 := by decide
  exact vi_of (by omega) (by omega)
def cs_enter_s5 (σ12 : fw_S) : Int32 × fw_S :=
  (1, σ12)
def cs_enter_s4 (k : Nat) (a1 : Int32) (σ10 : fw_S) : Int32 × fw_S :=
  cs_enter_s5 (fw_st σ10 (11, k, 0) 4 (if (σ10 (11, k, 0) 4) < a1 then a1 else (σ10 (11, k, 0) 4)))
def cs_enter_s3 (k : Nat) (a1 : Int32) (σ8 : fw_S) : Int32 × fw_S :=
  cs_enter_s4 k a1 (fw_st σ8 (11, k, 0) 3 ((σ8 (11, k, 0) 3) + 1))
def cs_enter_s2 (k : Nat) (a1 : Int32) (a3 : Int32) (σ6 : fw_S) : Int32 × fw_S :=
  cs_enter_s3 k a1 (fw_st σ6 (17, k, 0) a1.toNatClampNeg a3)
def cs_enter_s1 (k : Nat) (a1 : Int32) (a2 : Int32) (a3 : Int32) (σ4 : fw_S) : Int32 × fw_S :=
  cs_enter_s2 k a1 a3 (fw_st σ4 (16, k, 0) a1.toNatClampNeg a2)
def cs_enter (σ : fw_S) (k : Nat) (a1 : Int32) (a2 : Int32) (a3 : Int32) : Int32 × fw_S :=
  if a1 < 1 then (0, σ) else if 512 < a1 then (0, σ) else if (σ (15, k, 0) a1.toNatClampNeg) = 0 then cs_enter_s1 k a1 a2 a3 (fw_st σ (15, k, 0) a1.toNatClampNeg 1) else (0, σ)
set_option maxHeartbeats 4000000 in
set_option maxRecDepth 100000 in
theorem c_enter (l : Launch) (X : fw_X) (hI : fw_I cV X) (σ : fw_S) (k : Nat) (hk : k < 4) (a1 a2 a3 : Int32)  : fw_Mi fw_cl csh cV fw_tys l yA_enter wA_enter (fw_rm 1) X σ [.ref (X.2.2 (11, k, 0)), .int a1, .int a2, .int a3] (cs_enter σ k a1 a2 a3) := by
  obtain ⟨out, he⟩ : ∃ z : Int32 × fw_S, z = cs_enter σ k a1 a2 a3 := ⟨_, rfl⟩
  rw [← he]
  refine fw_Mi_of (cc := bA_enter) (maxL := 4) (ret := (some .boolean)) (by decide) rfl (Nat.le_of_ble_eq_true rfl) ?_
  intro p e s m below meth c ls hx hb hr hml hlocks hown hts hK hnb hW hl
  have hS : va_S (fw_A cV X) s.heap s.heap [] := va_S.rf
  have hA : ∀ t, cV t → fw_A cV X (X.2.2 t) := fun t h => ⟨t, h, rfl⟩
  have htb := tb_use hts
  have hl : lv_has ls 4 [(0, .ref (X.2.2 (11, k, 0))), (1, .int a1), (2, .int a2), (3, .int a3)] := hl
  have hown : s.vm.findClass "TapOffice$Account" = some m.cls := hown
  unfold cs_enter at he
  refine lv_iload_n hx hb dA_enter_0 rfl (lv_at hl 1 rfl) ?_
  refine lv_iconst (v := 1) hx hb dA_enter_1 (by decide) ?_
  refine lv_icmp_lt (tgt := 21) hx hb dA_enter_2 (by decide) (fun c1 => ?_) (fun c1 => ?_)
  · rw [if_pos c1] at he
    refine lv_iconst (v := 0) hx hb dA_enter_21 (by decide) ?_
    exact fw_zret hx hb hr hlocks hK hnb hW hS (by decide) he dA_enter_22
  · rw [if_neg c1] at he
    refine lv_iload_n hx hb dA_enter_5 rfl (lv_at hl 1 rfl) ?_
    refine lv_sipush (v := 512) hx hb dA_enter_6 (by decide) ?_
    refine lv_icmp_gt (tgt := 21) hx hb dA_enter_9 (by decide) (fun c2 => ?_) (fun c2 => ?_)
    · rw [if_pos c2] at he
      refine lv_iconst (v := 0) hx hb dA_enter_21 (by decide) ?_
      exact fw_zret hx hb hr hlocks hK hnb hW hS (by decide) he dA_enter_22
    · rw [if_neg c2] at he
      refine lv_aload_n hx hb dA_enter_12 rfl (lv_at hl 0 rfl) ?_
      refine fw_get (X := X) (v := .ref (X.2.2 (15, k, 0))) hx hb hts hin_A hown hK hW (11, k, 0) (cve11 hk) rfl rfl 0 (by decide) (htb _ m_96 rfl) (fun _ h => h) rfl rfl dA_enter_13 ?_
      refine lv_iload_n hx hb dA_enter_16 rfl (lv_at hl 1 rfl) ?_
      refine fw_zald (X := X) hx hb hK hW (15, k, 0) (cvs15 (cve11 hk)) rfl 5 rfl a1.toNatClampNeg rfl (en_in ‹¬ a1 < 1› ‹¬ 512 < a1›) dA_enter_17 ?_
      refine lv_if_eq (tgt := 23) hx hb dA_enter_18 (by decide) (fun c3 => ?_) (fun c3 => ?_)
      · rw [if_pos c3] at he
        refine lv_aload_n hx hb dA_enter_23 rfl (lv_at hl 0 rfl) ?_
        refine fw_get (X := X) (v := .ref (X.2.2 (15, k, 0))) hx hb hts hin_A hown hK hW (11, k, 0) (cve11 hk) rfl rfl 0 (by decide) (htb _ m_96 rfl) (fun _ h => h) rfl rfl dA_enter_24 ?_
        refine lv_iload_n hx hb dA_enter_27 rfl (lv_at hl 1 rfl) ?_
        refine lv_iconst (v := 1) hx hb dA_enter_28 (by decide) ?_
        refine fw_zast (X := X) hx hb hK hW hI hA hS (15, k, 0) (cvs15 (cve11 hk)) rfl 5 rfl rfl a1.toNatClampNeg rfl (en_in ‹¬ a1 < 1› ‹¬ 512 < a1›) dA_enter_29 (fun H locs hW hS => ?_)
        obtain ⟨σ4, e5⟩ : ∃ z : fw_S, z = fw_st σ (15, k, 0) a1.toNatClampNeg 1 := ⟨_, rfl⟩
        rw [← e5] at hW
        try rw [← e5] at he
        unfold cs_enter_s1 at he
        refine lv_aload_n hx hb dA_enter_30 rfl (lv_at hl 0 rfl) ?_
        refine fw_get (X := X) (v := .ref (X.2.2 (16, k, 0))) hx hb hts hin_A hown hK hW (11, k, 0) (cve11 hk) rfl rfl 1 (by decide) (htb _ m_97 rfl) (fun _ h => h) rfl rfl dA_enter_31 ?_
        refine lv_iload_n hx hb dA_enter_34 rfl (lv_at hl 1 rfl) ?_
        refine lv_iload_n hx hb dA_enter_35 rfl (lv_at hl 2 rfl) ?_
        refine fw_iast (X := X) hx hb hK hW hI hA hS (16, k, 0) (cvs16 (cve11 hk)) rfl 0 rfl a1.toNatClampNeg rfl (en_in ‹¬ a1 < 1› ‹¬ 512 < a1›) dA_enter_36 (fun H locs hW hS => ?_)
        obtain ⟨σ6, e7⟩ : ∃ z : fw_S, z = fw_st σ4 (16, k, 0) a1.toNatClampNeg a2 := ⟨_, rfl⟩
        rw [← e7] at hW
        try rw [← e7] at he
        unfold cs_enter_s2 at he
        refine lv_aload_n hx hb dA_enter_37 rfl (lv_at hl 0 rfl) ?_
        refine fw_get (X := X) (v := .ref (X.2.2 (17, k, 0))) hx hb hts hin_A hown hK hW (11, k, 0) (cve11 hk) rfl rfl 2 (by decide) (htb _ m_98 rfl) (fun _ h => h) rfl rfl dA_enter_38 ?_
        refine lv_iload_n hx hb dA_enter_41 rfl (lv_at hl 1 rfl) ?_
        refine lv_iload_n hx hb dA_enter_42 rfl (lv_at hl 3 rfl) ?_
        refine fw_iast (X := X) hx hb hK hW hI hA hS (17, k, 0) (cvs17 (cve11 hk)) rfl 0 rfl a1.toNatClampNeg rfl (en_in ‹¬ a1 < 1› ‹¬ 512 < a1›) dA_enter_43 (fun H locs hW hS => ?_)
        obtain ⟨σ8, e9⟩ : ∃ z : fw_S, z = fw_st σ6 (17, k, 0) a1.toNatClampNeg a3 := ⟨_, rfl⟩
        rw [← e9] at hW
        try rw [← e9] at he
        unfold cs_enter_s3 at he
        refine lv_aload_n hx hb dA_enter_44 rfl (lv_at hl 0 rfl) ?_
        refine lv_dup hx hb dA_enter_45 rfl ?_
        refine fw_get (X := X) (v := .int (σ8 (11, k, 0) 3)) hx hb hts hin_A hown hK hW (11, k, 0) (cve11 hk) rfl rfl 3 (by decide) (htb _ m_99 rfl) (fun _ h => h) rfl rfl dA_enter_46 ?_
        refine lv_iconst (v := 1) hx hb dA_enter_49 (by decide) ?_
        refine lv_iadd hx hb dA_enter_50 ?_
        refine fw_put (X := X) hx hb hts hin_A ty_A ty_A_ok nm_A hown hK hW hI hA hS (11, k, 0) (cve11 hk) rfl rfl rfl 3 (by decide) (htb _ m_99 rfl) (fun _ h => h) rfl rfl (ty := .int) (by decide +kernel) rfl rfl dA_enter_51 (fun H locs hW hS => ?_)
        obtain ⟨σ10, e11⟩ : ∃ z : fw_S, z = fw_st σ8 (11, k, 0) 3 ((σ8 (11, k, 0) 3) + 1) := ⟨_, rfl⟩
        rw [← e11] at hW
        try rw [← e11] at he
        unfold cs_enter_s4 at he
        refine lv_aload_n hx hb dA_enter_54 rfl (lv_at hl 0 rfl) ?_
        refine lv_aload_n hx hb dA_enter_55 rfl (lv_at hl 0 rfl) ?_
        refine fw_get (X := X) (v := .int (σ10 (11, k, 0) 4)) hx hb hts hin_A hown hK hW (11, k, 0) (cve11 hk) rfl rfl 4 (by decide) (htb _ m_100 rfl) (fun _ h => h) rfl rfl dA_enter_56 ?_
        refine lv_iload_n hx hb dA_enter_59 rfl (lv_at hl 1 rfl) ?_
        refine va_mmax hx hb (hml.trans hl.1.symm) hown (htb _ m_310 rfl) (htb _ m_271 rfl) (htb _ m_32 rfl) (htb _ m_272 rfl) (Nat.le_of_ble_eq_true rfl) (Nat.le_of_ble_eq_true rfl) (Nat.zero_le _) (Nat.zero_le _) dA_enter_60 ?_
        refine fw_put (X := X) hx hb hts hin_A ty_A ty_A_ok nm_A hown hK hW hI hA hS (11, k, 0) (cve11 hk) rfl rfl rfl 4 (by decide) (htb _ m_100 rfl) (fun _ h => h) rfl rfl (ty := .int) (by decide +kernel) rfl rfl dA_enter_63 (fun H locs hW hS => ?_)
        obtain ⟨σ12, e13⟩ : ∃ z : fw_S, z = fw_st σ10 (11, k, 0) 4 (if (σ10 (11, k, 0) 4) < a1 then a1 else (σ10 (11, k, 0) 4)) := ⟨_, rfl⟩
        rw [← e13] at hW
        try rw [← e13] at he
        unfold cs_enter_s5 at he
        refine lv_iconst (v := 1) hx hb dA_enter_66 (by decide) ?_
        exact fw_zret hx hb hr hlocks hK hnb hW hS (by decide) he dA_enter_67
      · rw [if_neg c3] at he
        refine lv_iconst (v := 0) hx hb dA_enter_21 (by decide) ?_
        exact fw_zret hx hb hr hlocks hK hnb hW hS (by decide) he dA_enter_22
def cs_enterCharge_s2 (σ5 : fw_S) : fw_S :=
  σ5
def cs_enterCharge_s1 (k : Nat) (a2 : Int32) (r1 : Int32) (σ2 : fw_S) : fw_S :=
  if r1 = 0 then σ2 else cs_enterCharge_s2 (fw_st σ2 (11, k, 0) 5 ((σ2 (11, k, 0) 5) + a2))
def cs_enterCharge (σ : fw_S) (k : Nat) (a1 : Int32) (a2 : Int32) (a3 : Int32) : fw_S :=
  cs_enterCharge_s1 k a2 ((cs_enter σ k a1 (a3 + a2) a3).1) ((cs_enter σ k a1 (a3 + a2) a3).2)
set_option maxHeartbeats 4000000 in
set_option maxRecDepth 100000 in
theorem c_enterCharge (l : Launch) (X : fw_X) (hI : fw_I cV X) (σ : fw_S) (k : Nat) (hk : k < 4) (a1 a2 a3 : Int32)  : fw_Mv fw_cl csh cV fw_tys l yA_enterCharge wA_enterCharge (fw_rm 2) X σ [.ref (X.2.2 (11, k, 0)), .int a1, .int a2, .int a3] (cs_enterCharge σ k a1 a2 a3) := by
  obtain ⟨out, he⟩ : ∃ z : fw_S, z = cs_enterCharge σ k a1 a2 a3 := ⟨_, rfl⟩
  rw [← he]
  refine fw_Mv_of (cc := bA_enterCharge) (maxL := 4) (ret := none) (by decide) rfl (Nat.le_of_ble_eq_true rfl) ?_
  intro p e s m below meth c ls hx hb hr hml hlocks hown hts hK hnb hW hl
  have hS : va_S (fw_A cV X) s.heap s.heap [] := va_S.rf
  have hA : ∀ t, cV t → fw_A cV X (X.2.2 t) := fun t h => ⟨t, h, rfl⟩
  have htb := tb_use hts
  have hl : lv_has ls 4 [(0, .ref (X.2.2 (11, k, 0))), (1, .int a1), (2, .int a2), (3, .int a3)] := hl
  have hown : s.vm.findClass "TapOffice$Account" = some m.cls := hown
  unfold cs_enterCharge at he
  refine lv_aload_n hx hb dA_enterCharge_0 rfl (lv_at hl 0 rfl) ?_
  refine lv_iload_n hx hb dA_enterCharge_1 rfl (lv_at hl 1 rfl) ?_
  refine lv_iload_n hx hb dA_enterCharge_2 rfl (lv_at hl 3 rfl) ?_
  refine lv_iload_n hx hb dA_enterCharge_3 rfl (lv_at hl 2 rfl) ?_
  refine lv_iadd hx hb dA_enterCharge_4 ?_
  refine lv_iload_n hx hb dA_enterCharge_5 rfl (lv_at hl 3 rfl) ?_
  refine fw_ki (va_runV (As := [.int a1, .int (a3 + a2), .int a3]) (rest := []) ⟨hx, hb, hml, hown, hts⟩ (c_enter l X hI σ k ((cve11 hk)).1 a1 (a3 + a2) a3 ) (cwV 3 hts (tb_V m_309 m_306 m_308 m_6 m_29) rfl rfl rfl (by decide +kernel) ⟨Nat.le_of_ble_eq_true rfl, Nat.le_of_ble_eq_true rfl⟩) (fw_preV (X := X) hK hnb hW (11, k, 0) (cve11 hk) rfl rfl [.int a1, .int (a3 + a2), .int a3]) rfl rfl hl.1 rfl (lv_room (Nat.le_of_ble_eq_true rfl)) dA_enterCharge_6 ⟨Nat.zero_le _, Nat.zero_le _⟩) hS (fun r1 σ2 H locs o3 hW hS => ?_)
  rw [o3] at he
  unfold cs_enterCharge_s1 at he
  dsimp only at he
  refine lv_if_eq (tgt := 22) hx hb dA_enterCharge_9 (by decide) (fun c4 => ?_) (fun c4 => ?_)
  · rw [if_pos c4] at he
    exact fw_vret hx hb hr hlocks hK hnb hW hS he dA_enterCharge_22
  · rw [if_neg c4] at he
    refine lv_aload_n hx hb dA_enterCharge_12 rfl (lv_at hl 0 rfl) ?_
    refine lv_dup hx hb dA_enterCharge_13 rfl ?_
    refine fw_get (X := X) (v := .int (σ2 (11, k, 0) 5)) hx hb hts hin_A hown hK hW (11, k, 0) (cve11 hk) rfl rfl 5 (by decide) (htb _ m_101 rfl) (fun _ h => h) rfl rfl dA_enterCharge_14 ?_
    refine lv_iload_n hx hb dA_enterCharge_17 rfl (lv_at hl 2 rfl) ?_
    refine lv_iadd hx hb dA_enterCharge_18 ?_
    refine fw_put (X := X) hx hb hts hin_A ty_A ty_A_ok nm_A hown hK hW hI hA hS (11, k, 0) (cve11 hk) rfl rfl rfl 5 (by decide) (htb _ m_101 rfl) (fun _ h => h) rfl rfl (ty := .int) (by decide +kernel) rfl rfl dA_enterCharge_19 (fun H locs hW hS => ?_)
    obtain ⟨σ5, e6⟩ : ∃ z : fw_S, z = fw_st σ2 (11, k, 0) 5 ((σ2 (11, k, 0) 5) + a2) := ⟨_, rfl⟩
    rw [← e6] at hW
    try rw [← e6] at he
    unfold cs_enterCharge_s2 at he
    exact fw_vret hx hb hr hlocks hK hnb hW hS he dA_enterCharge_22
def cs_enterTopUp_s2 (σ5 : fw_S) : fw_S :=
  σ5
def cs_enterTopUp_s1 (k : Nat) (a2 : Int32) (r1 : Int32) (σ2 : fw_S) : fw_S :=
  if r1 = 0 then σ2 else cs_enterTopUp_s2 (fw_st σ2 (11, k, 0) 6 ((σ2 (11, k, 0) 6) + a2))
def cs_enterTopUp (σ : fw_S) (k : Nat) (a1 : Int32) (a2 : Int32) (a3 : Int32) : fw_S :=
  cs_enterTopUp_s1 k a2 ((cs_enter σ k a1 (a3 - a2) a3).1) ((cs_enter σ k a1 (a3 - a2) a3).2)
set_option maxHeartbeats 4000000 in
set_option maxRecDepth 100000 in
theorem c_enterTopUp (l : Launch) (X : fw_X) (hI : fw_I cV X) (σ : fw_S) (k : Nat) (hk : k < 4) (a1 a2 a3 : Int32)  : fw_Mv fw_cl csh cV fw_tys l yA_enterTopUp wA_enterTopUp (fw_rm 2) X σ [.ref (X.2.2 (11, k, 0)), .int a1, .int a2, .int a3] (cs_enterTopUp σ k a1 a2 a3) := by
  obtain ⟨out, he⟩ : ∃ z : fw_S, z = cs_enterTopUp σ k a1 a2 a3 := ⟨_, rfl⟩
  rw [← he]
  refine fw_Mv_of (cc := bA_enterTopUp) (maxL := 4) (ret := none) (by decide) rfl (Nat.le_of_ble_eq_true rfl) ?_
  intro p e s m below meth c ls hx hb hr hml hlocks hown hts hK hnb hW hl
  have hS : va_S (fw_A cV X) s.heap s.heap [] := va_S.rf
  have hA : ∀ t, cV t → fw_A cV X (X.2.2 t) := fun t h => ⟨t, h, rfl⟩
  have htb := tb_use hts
  have hl : lv_has ls 4 [(0, .ref (X.2.2 (11, k, 0))), (1, .int a1), (2, .int a2), (3, .int a3)] := hl
  have hown : s.vm.findClass "TapOffice$Account" = some m.cls := hown
  unfold cs_enterTopUp at he
  refine lv_aload_n hx hb dA_enterTopUp_0 rfl (lv_at hl 0 rfl) ?_
  refine lv_iload_n hx hb dA_enterTopUp_1 rfl (lv_at hl 1 rfl) ?_
  refine lv_iload_n hx hb dA_enterTopUp_2 rfl (lv_at hl 3 rfl) ?_
  refine lv_iload_n hx hb dA_enterTopUp_3 rfl (lv_at hl 2 rfl) ?_
  refine lv_isub hx hb dA_enterTopUp_4 ?_
  refine lv_iload_n hx hb dA_enterTopUp_5 rfl (lv_at hl 3 rfl) ?_
  refine fw_ki (va_runV (As := [.int a1, .int (a3 - a2), .int a3]) (rest := []) ⟨hx, hb, hml, hown, hts⟩ (c_enter l X hI σ k ((cve11 hk)).1 a1 (a3 - a2) a3 ) (cwV 3 hts (tb_V m_309 m_306 m_308 m_6 m_29) rfl rfl rfl (by decide +kernel) ⟨Nat.le_of_ble_eq_true rfl, Nat.le_of_ble_eq_true rfl⟩) (fw_preV (X := X) hK hnb hW (11, k, 0) (cve11 hk) rfl rfl [.int a1, .int (a3 - a2), .int a3]) rfl rfl hl.1 rfl (lv_room (Nat.le_of_ble_eq_true rfl)) dA_enterTopUp_6 ⟨Nat.zero_le _, Nat.zero_le _⟩) hS (fun r1 σ2 H locs o3 hW hS => ?_)
  rw [o3] at he
  unfold cs_enterTopUp_s1 at he
  dsimp only at he
  refine lv_if_eq (tgt := 22) hx hb dA_enterTopUp_9 (by decide) (fun c4 => ?_) (fun c4 => ?_)
  · rw [if_pos c4] at he
    exact fw_vret hx hb hr hlocks hK hnb hW hS he dA_enterTopUp_22
  · rw [if_neg c4] at he
    refine lv_aload_n hx hb dA_enterTopUp_12 rfl (lv_at hl 0 rfl) ?_
    refine lv_dup hx hb dA_enterTopUp_13 rfl ?_
    refine fw_get (X := X) (v := .int (σ2 (11, k, 0) 6)) hx hb hts hin_A hown hK hW (11, k, 0) (cve11 hk) rfl rfl 6 (by decide) (htb _ m_102 rfl) (fun _ h => h) rfl rfl dA_enterTopUp_14 ?_
    refine lv_iload_n hx hb dA_enterTopUp_17 rfl (lv_at hl 2 rfl) ?_
    refine lv_iadd hx hb dA_enterTopUp_18 ?_
    refine fw_put (X := X) hx hb hts hin_A ty_A ty_A_ok nm_A hown hK hW hI hA hS (11, k, 0) (cve11 hk) rfl rfl rfl 6 (by decide) (htb _ m_102 rfl) (fun _ h => h) rfl rfl (ty := .int) (by decide +kernel) rfl rfl dA_enterTopUp_19 (fun H locs hW hS => ?_)
    obtain ⟨σ5, e6⟩ : ∃ z : fw_S, z = fw_st σ2 (11, k, 0) 6 ((σ2 (11, k, 0) 6) + a2) := ⟨_, rfl⟩
    rw [← e6] at hW
    try rw [← e6] at he
    unfold cs_enterTopUp_s2 at he
    exact fw_vret hx hb hr hlocks hK hnb hW hS he dA_enterTopUp_22
def cs_lostMoney_s1 (x4 : Int32) (x1 : Int32) (rec : Int32 → Int32 → Int32 → Int32 → Int32) (z4 : Int32) : Int32 :=
  rec (x4 + 1) x1 x4 z4
def cs_lostMoney_s3 (x4 : Int32) (rec : Int32 → Int32 → Int32 → Int32 → Int32) (z6 : Int32) (z8 : Int32) : Int32 :=
  rec (x4 + 1) z6 x4 z8
def cs_lostMoney_s2 (k : Nat) (σ : fw_S) (x4 : Int32) (rec : Int32 → Int32 → Int32 → Int32 → Int32) (z6 : Int32) : Int32 :=
  cs_lostMoney_s3 x4 rec z6 (σ (17, k, 0) x4.toNatClampNeg)
def cs_lostMoney_lp (k : Nat) (σ : fw_S) : Nat → Int32 → Int32 → Int32 → Int32 → Int32
  | 0, _, _, _, _ => 0
  | n + 1, x4, x1, x2, x3 => if 512 < x4 then x1 else if (σ (15, k, 0) x4.toNatClampNeg) = 0 then (cs_lostMoney_lp k σ n) (x4 + 1) x1 x2 x3 else if x4 = (x2 + 1) then cs_lostMoney_s1 x4 x1 (cs_lostMoney_lp k σ n) (σ (17, k, 0) x4.toNatClampNeg) else cs_lostMoney_s2 k σ x4 (cs_lostMoney_lp k σ n) (x1 + (x3 - (σ (16, k, 0) x4.toNatClampNeg)))
def cs_lostMoney (σ : fw_S) (k : Nat) : Int32 :=
  cs_lostMoney_lp k σ (513 + 1) 1 0 0 0
set_option maxHeartbeats 4000000 in
set_option maxRecDepth 100000 in
theorem c_lostMoney_lp {p : Program} {e : Env} {s : State} {m : MethodId} {below : List Frame} {meth : Method} {c : Code} {args : Array Value} (l : Launch) (X : fw_X) (hI : fw_I cV X) (σ : fw_S) (k : Nat) (hk : k < 4)    (out : Int32)
    (hx : p.tables.exec = Jvm.exec) (hb : c.code = bA_lostMoney) (hr : meth.sig.returnType = (some .int)) (hml : c.maxLocals = 5) (hlocks : meth.locks = false) (hown : s.vm.findClass "TapOffice$Account" = some m.cls) (hts : ∀ w ∈ wA_lostMoney, w.before args s = true) (hK : va_K X.1 fw_cl (fw_tys X.2.1) s) (hnb : va_Nw fw_nb s) :
    ∀ (n : Nat) (x4 x1 x2 x3 : Int32) (j : Nat), x4 = nI j → j ≤ 513 → 513 + 1 ≤ j + n → ∀ (H : Heap) (locs : List Loc), fw_W fw_cl csh cV X σ H → va_S (fw_A cV X) s.heap H locs → ∀ (ls : Array Slot), lv_has ls 5 [(0, .ref (X.2.2 (11, k, 0))), (1, .int x1), (2, .int x2), (3, .int x3), (4, .int x4)] → out = cs_lostMoney_lp k σ n x4 x1 x2 x3 → W p l e (fw_rm 0) s m args below meth c H locs 0 0 (MQ below (va_Qi (fun r u => (r, u) = (out, σ)) (fun u t => fw_O fw_cl csh cV fw_tys X u t) (fw_A cV X)) args s 0 0 (fw_A cV X)) (F0 m 9 ls []) := by
  have hA : ∀ t, cV t → fw_A cV X (X.2.2 t) := fun t h => ⟨t, h, rfl⟩
  have htb := tb_use hts
  intro n
  induction n with
  | zero =>
    intro x4 x1 x2 x3 j hj h1 h2
    exact absurd h2 (by omega)
  | succ n ih =>
    intro x4 x1 x2 x3 j hj hj1 hj2 H locs hW hS ls hl he
    rw [cs_lostMoney_lp] at he
    refine lv_iload hx hb dA_lostMoney_9 (lv_at hl 4 rfl) ?_
    refine lv_sipush (v := 512) hx hb dA_lostMoney_11 (by decide) ?_
    refine lv_icmp_gt (tgt := 64) hx hb dA_lostMoney_14 (by decide) (fun c1 => ?_) (fun c1 => ?_)
    · rw [if_pos c1] at he
      refine lv_iload_n hx hb dA_lostMoney_64 rfl (lv_at hl 1 rfl) ?_
      exact fw_iret hx hb hr hlocks hK hnb hW hS (by rw [he]) dA_lostMoney_65
    · rw [if_neg c1] at he
      have hlt : j < 513 := lp_lt2 (B := 512) hj rfl (by decide) hj1 c1
      have hin : vp_in x4 513 := by rw [hj]; exact vp_in_nI hlt (by decide)
      refine lv_aload_n hx hb dA_lostMoney_17 rfl (lv_at hl 0 rfl) ?_
      refine fw_get (X := X) (v := .ref (X.2.2 (15, k, 0))) hx hb hts hin_A hown hK hW (11, k, 0) (cve11 hk) rfl rfl 0 (by decide) (htb _ m_96 rfl) (fun _ h => h) rfl rfl dA_lostMoney_18 ?_
      refine lv_iload hx hb dA_lostMoney_21 (lv_at hl 4 rfl) ?_
      refine fw_zald (X := X) hx hb hK hW (15, k, 0) (cvs15 (cve11 hk)) rfl 5 rfl x4.toNatClampNeg rfl hin dA_lostMoney_23 ?_
      refine lv_if_eq (tgt := 58) hx hb dA_lostMoney_24 (by decide) (fun c2 => ?_) (fun c2 => ?_)
      · rw [if_pos c2] at he
        refine lv_iinc (v := x4 + 1) (lv' := [(4, .int (x4 + 1)), (0, .ref (X.2.2 (11, k, 0))), (1, .int x1), (2, .int x2), (3, .int x3)]) hx hb dA_lostMoney_58 hl (k := 4) rfl (by rfl) (by decide) rfl (fun ls hl => ?_)
        refine lv_goto (tgt := 9) hx hb dA_lostMoney_61 (by decide) ?_
        exact ih (x4 + 1) x1 x2 x3 (j + 1) (by rw [hj]; exact nI_1 j) hlt (by omega) _ _ hW hS ls (lv_sub hl [1, 2, 3, 4, 0] rfl) he
      · rw [if_neg c2] at he
        refine lv_iload hx hb dA_lostMoney_27 (lv_at hl 4 rfl) ?_
        refine lv_iload_n hx hb dA_lostMoney_29 rfl (lv_at hl 2 rfl) ?_
        refine lv_iconst (v := 1) hx hb dA_lostMoney_30 (by decide) ?_
        refine lv_iadd hx hb dA_lostMoney_31 ?_
        refine lv_icmp_eq (tgt := 47) hx hb dA_lostMoney_32 (by decide) (fun c3 => ?_) (fun c3 => ?_)
        · rw [if_pos c3] at he
          refine lv_iload hx hb dA_lostMoney_47 (lv_at hl 4 rfl) ?_
          refine lv_istore_n (lv' := [(2, .int x4), (0, .ref (X.2.2 (11, k, 0))), (1, .int x1), (3, .int x3), (4, .int x4)]) hx hb dA_lostMoney_49 rfl hl (by decide) rfl (fun ls hl => ?_)
          refine lv_aload_n hx hb dA_lostMoney_50 rfl (lv_at hl 1 rfl) ?_
          refine fw_get (X := X) (v := .ref (X.2.2 (17, k, 0))) hx hb hts hin_A hown hK hW (11, k, 0) (cve11 hk) rfl rfl 2 (by decide) (htb _ m_98 rfl) (fun _ h => h) rfl rfl dA_lostMoney_51 ?_
          refine lv_iload hx hb dA_lostMoney_54 (lv_at hl 4 rfl) ?_
          refine fw_iald (X := X) hx hb hK hW (17, k, 0) (cvs17 (cve11 hk)) rfl 0 rfl x4.toNatClampNeg rfl hin dA_lostMoney_56 ?_
          refine lv_topi (fun z4 e5 => ?_)
          try rw [← e5] at he
          unfold cs_lostMoney_s1 at he
          refine lv_istore_n (lv' := [(3, .int z4), (2, .int x4), (0, .ref (X.2.2 (11, k, 0))), (1, .int x1), (4, .int x4)]) hx hb dA_lostMoney_57 rfl hl (by decide) rfl (fun ls hl => ?_)
          refine lv_iinc (v := x4 + 1) (lv' := [(4, .int (x4 + 1)), (3, .int z4), (2, .int x4), (0, .ref (X.2.2 (11, k, 0))), (1, .int x1)]) hx hb dA_lostMoney_58 hl (k := 4) rfl (by rfl) (by decide) rfl (fun ls hl => ?_)
          refine lv_goto (tgt := 9) hx hb dA_lostMoney_61 (by decide) ?_
          exact ih (x4 + 1) x1 x4 z4 (j + 1) (by rw [hj]; exact nI_1 j) hlt (by omega) _ _ hW hS ls (lv_sub hl [3, 4, 2, 1, 0] rfl) he
        · rw [if_neg c3] at he
          refine lv_iload_n hx hb dA_lostMoney_35 rfl (lv_at hl 1 rfl) ?_
          refine lv_iload_n hx hb dA_lostMoney_36 rfl (lv_at hl 3 rfl) ?_
          refine lv_aload_n hx hb dA_lostMoney_37 rfl (lv_at hl 0 rfl) ?_
          refine fw_get (X := X) (v := .ref (X.2.2 (16, k, 0))) hx hb hts hin_A hown hK hW (11, k, 0) (cve11 hk) rfl rfl 1 (by decide) (htb _ m_97 rfl) (fun _ h => h) rfl rfl dA_lostMoney_38 ?_
          refine lv_iload hx hb dA_lostMoney_41 (lv_at hl 4 rfl) ?_
          refine fw_iald (X := X) hx hb hK hW (16, k, 0) (cvs16 (cve11 hk)) rfl 0 rfl x4.toNatClampNeg rfl hin dA_lostMoney_43 ?_
          refine lv_isub hx hb dA_lostMoney_44 ?_
          refine lv_iadd hx hb dA_lostMoney_45 ?_
          refine lv_topi (fun z6 e7 => ?_)
          try rw [← e7] at he
          unfold cs_lostMoney_s2 at he
          refine lv_istore_n (lv' := [(1, .int z6), (0, .ref (X.2.2 (11, k, 0))), (2, .int x2), (3, .int x3), (4, .int x4)]) hx hb dA_lostMoney_46 rfl hl (by decide) rfl (fun ls hl => ?_)
          refine lv_iload hx hb dA_lostMoney_47 (lv_at hl 4 rfl) ?_
          refine lv_istore_n (lv' := [(2, .int x4), (1, .int z6), (0, .ref (X.2.2 (11, k, 0))), (3, .int x3), (4, .int x4)]) hx hb dA_lostMoney_49 rfl hl (by decide) rfl (fun ls hl => ?_)
          refine lv_aload_n hx hb dA_lostMoney_50 rfl (lv_at hl 2 rfl) ?_
          refine fw_get (X := X) (v := .ref (X.2.2 (17, k, 0))) hx hb hts hin_A hown hK hW (11, k, 0) (cve11 hk) rfl rfl 2 (by decide) (htb _ m_98 rfl) (fun _ h => h) rfl rfl dA_lostMoney_51 ?_
          refine lv_iload hx hb dA_lostMoney_54 (lv_at hl 4 rfl) ?_
          refine fw_iald (X := X) hx hb hK hW (17, k, 0) (cvs17 (cve11 hk)) rfl 0 rfl x4.toNatClampNeg rfl hin dA_lostMoney_56 ?_
          refine lv_topi (fun z8 e9 => ?_)
          try rw [← e9] at he
          unfold cs_lostMoney_s3 at he
          refine lv_istore_n (lv' := [(3, .int z8), (2, .int x4), (1, .int z6), (0, .ref (X.2.2 (11, k, 0))), (4, .int x4)]) hx hb dA_lostMoney_57 rfl hl (by decide) rfl (fun ls hl => ?_)
          refine lv_iinc (v := x4 + 1) (lv' := [(4, .int (x4 + 1)), (3, .int z8), (2, .int x4), (1, .int z6), (0, .ref (X.2.2 (11, k, 0)))]) hx hb dA_lostMoney_58 hl (k := 4) rfl (by rfl) (by decide) rfl (fun ls hl => ?_)
          refine lv_goto (tgt := 9) hx hb dA_lostMoney_61 (by decide) ?_
          exact ih (x4 + 1) z6 x4 z8 (j + 1) (by rw [hj]; exact nI_1 j) hlt (by omega) _ _ hW hS ls (lv_sub hl [4, 3, 2, 1, 0] rfl) he
set_option maxHeartbeats 4000000 in
set_option maxRecDepth 100000 in
theorem c_lostMoney (l : Launch) (X : fw_X) (hI : fw_I cV X) (σ : fw_S) (k : Nat) (hk : k < 4)  : fw_Mi fw_cl csh cV fw_tys l yA_lostMoney wA_lostMoney (fw_rm 0) X σ [.ref (X.2.2 (11, k, 0))] ((cs_lostMoney σ k, σ)) := by
  obtain ⟨out, he⟩ : ∃ z : Int32, z = cs_lostMoney σ k := ⟨_, rfl⟩
  rw [← he]
  refine fw_Mi_of (cc := bA_lostMoney) (maxL := 5) (ret := (some .int)) (by decide) rfl (Nat.le_of_ble_eq_true rfl) ?_
  intro p e s m below meth c ls hx hb hr hml hlocks hown hts hK hnb hW hl
  have hS : va_S (fw_A cV X) s.heap s.heap [] := va_S.rf
  have hA : ∀ t, cV t → fw_A cV X (X.2.2 t) := fun t h => ⟨t, h, rfl⟩
  have htb := tb_use hts
  have hl : lv_has ls 5 [(0, .ref (X.2.2 (11, k, 0)))] := hl
  have hown : s.vm.findClass "TapOffice$Account" = some m.cls := hown
  unfold cs_lostMoney at he
  refine lv_iconst (v := 0) hx hb dA_lostMoney_0 (by decide) ?_
  refine lv_istore_n (lv' := [(1, .int 0), (0, .ref (X.2.2 (11, k, 0)))]) hx hb dA_lostMoney_1 rfl hl (by decide) rfl (fun ls hl => ?_)
  refine lv_iconst (v := 0) hx hb dA_lostMoney_2 (by decide) ?_
  refine lv_istore_n (lv' := [(2, .int 0), (1, .int 0), (0, .ref (X.2.2 (11, k, 0)))]) hx hb dA_lostMoney_3 rfl hl (by decide) rfl (fun ls hl => ?_)
  refine lv_iconst (v := 0) hx hb dA_lostMoney_4 (by decide) ?_
  refine lv_istore_n (lv' := [(3, .int 0), (2, .int 0), (1, .int 0), (0, .ref (X.2.2 (11, k, 0)))]) hx hb dA_lostMoney_5 rfl hl (by decide) rfl (fun ls hl => ?_)
  refine lv_iconst (v := 1) hx hb dA_lostMoney_6 (by decide) ?_
  refine lv_istore (lv' := [(4, .int 1), (3, .int 0), (2, .int 0), (1, .int 0), (0, .ref (X.2.2 (11, k, 0)))]) hx hb dA_lostMoney_7 hl (by decide) rfl (fun ls hl => ?_)
  exact c_lostMoney_lp l X hI σ k hk   out hx hb hr hml hlocks hown hts hK hnb (513 + 1) 1 0 0 0 1 rfl (by decide) (by decide) _ _ hW hS ls (lv_sub hl [4, 3, 2, 1, 0] rfl) he
end
section
def cs_readCopy (σ : fw_S) (k : Nat) (a1 : Int32) (a2 : Int32) : Int32 :=
  (σ (19, k, a1.toNatClampNeg) a2.toNatClampNeg)
set_option maxHeartbeats 4000000 in
set_option maxRecDepth 100000 in
theorem c_readCopy (l : Launch) (X : fw_X) (hI : fw_I cV X) (σ : fw_S) (k : Nat) (hk : k < 4) (a1 a2 : Int32) (h1 : vp_in a1 2) (h2 : vp_in a2 8) : fw_Mi fw_cl csh cV fw_tys l yC_readCopy wC_readCopy (fw_rm 0) X σ [.ref (X.2.2 (10, k, 0)), .int a1, .int a2] ((cs_readCopy σ k a1 a2, σ)) := by
  obtain ⟨out, he⟩ : ∃ z : Int32, z = cs_readCopy σ k a1 a2 := ⟨_, rfl⟩
  rw [← he]
  refine fw_Mi_of (cc := bC_readCopy) (maxL := 3) (ret := (some .int)) (by decide) rfl (Nat.le_of_ble_eq_true rfl) ?_
  intro p e s m below meth c ls hx hb hr hml hlocks hown hts hK hnb hW hl
  have hS : va_S (fw_A cV X) s.heap s.heap [] := va_S.rf
  have hA : ∀ t, cV t → fw_A cV X (X.2.2 t) := fun t h => ⟨t, h, rfl⟩
  have htb := tb_use hts
  have hl : lv_has ls 3 [(0, .ref (X.2.2 (10, k, 0))), (1, .int a1), (2, .int a2)] := hl
  have hown : s.vm.findClass "TapOffice$Card" = some m.cls := hown
  unfold cs_readCopy at he
  refine lv_aload_n hx hb dC_readCopy_0 rfl (lv_at hl 0 rfl) ?_
  refine fw_get (X := X) (v := .ref (X.2.2 (13, k, 0))) hx hb hts hin_C hown hK hW (10, k, 0) (cve10 hk) rfl rfl 0 (by decide) (htb _ m_84 rfl) (fun _ h => h) rfl rfl dC_readCopy_1 ?_
  refine lv_iload_n hx hb dC_readCopy_4 rfl (lv_at hl 1 rfl) ?_
  refine fw_aald (X := X) hx hb hK hW (13, k, 0) (cvs13 (cve10 hk)) rfl 1 rfl rfl a1.toNatClampNeg rfl (19, k, a1.toNatClampNeg) rfl h1 dC_readCopy_5 ?_
  have hV1 : cV (19, k, a1.toNatClampNeg) := (cvj19 (cvs13 (cve10 hk)) (vi_lt h1))
  refine lv_iload_n hx hb dC_readCopy_6 rfl (lv_at hl 2 rfl) ?_
  refine fw_iald (X := X) hx hb hK hW (19, k, a1.toNatClampNeg) hV1 rfl 0 rfl a2.toNatClampNeg rfl h2 dC_readCopy_7 ?_
  exact fw_iret hx hb hr hlocks hK hnb hW hS (by rw [he]) dC_readCopy_8
def cs_recordCopy (σ : fw_S) (k : Nat) : Int32 :=
  if ((σ (19, k, 1) 7) / 4096) ≤ ((σ (19, k, 0) 7) / 4096) then 0 else 1
set_option maxHeartbeats 4000000 in
set_option maxRecDepth 100000 in
theorem c_recordCopy (l : Launch) (X : fw_X) (hI : fw_I cV X) (σ : fw_S) (k : Nat) (hk : k < 4)  : fw_Mi fw_cl csh cV fw_tys l yC_recordCopy wC_recordCopy (fw_rm 0) X σ [.ref (X.2.2 (10, k, 0))] ((cs_recordCopy σ k, σ)) := by
  obtain ⟨out, he⟩ : ∃ z : Int32, z = cs_recordCopy σ k := ⟨_, rfl⟩
  rw [← he]
  refine fw_Mi_of (cc := bC_recordCopy) (maxL := 1) (ret := (some .int)) (by decide) rfl (Nat.le_of_ble_eq_true rfl) ?_
  intro p e s m below meth c ls hx hb hr hml hlocks hown hts hK hnb hW hl
  have hS : va_S (fw_A cV X) s.heap s.heap [] := va_S.rf
  have hA : ∀ t, cV t → fw_A cV X (X.2.2 t) := fun t h => ⟨t, h, rfl⟩
  have htb := tb_use hts
  have hl : lv_has ls 1 [(0, .ref (X.2.2 (10, k, 0)))] := hl
  have hown : s.vm.findClass "TapOffice$Card" = some m.cls := hown
  unfold cs_recordCopy at he
  refine lv_aload_n hx hb dC_recordCopy_0 rfl (lv_at hl 0 rfl) ?_
  refine fw_get (X := X) (v := .ref (X.2.2 (13, k, 0))) hx hb hts hin_C hown hK hW (10, k, 0) (cve10 hk) rfl rfl 0 (by decide) (htb _ m_84 rfl) (fun _ h => h) rfl rfl dC_recordCopy_1 ?_
  refine lv_iconst (v := 1) hx hb dC_recordCopy_4 (by decide) ?_
  refine fw_aald (X := X) hx hb hK hW (13, k, 0) (cvs13 (cve10 hk)) rfl 1 rfl rfl 1 (by decide) (19, k, 1) rfl (by unfold vp_in; decide) dC_recordCopy_5 ?_
  have hV1 : cV (19, k, 1) := (cvj19 (cvs13 (cve10 hk)) (by decide))
  refine lv_bipush (v := 7) hx hb dC_recordCopy_6 (by decide) ?_
  refine fw_iald (X := X) hx hb hK hW (19, k, 1) hV1 rfl 0 rfl 7 (by decide) (by unfold vp_in; decide) dC_recordCopy_8 ?_
  refine lv_sipush (v := 4096) hx hb dC_recordCopy_9 (by decide) ?_
  refine lv_idiv hx hb dC_recordCopy_12 (by decide) ?_
  refine lv_aload_n hx hb dC_recordCopy_13 rfl (lv_at hl 0 rfl) ?_
  refine fw_get (X := X) (v := .ref (X.2.2 (13, k, 0))) hx hb hts hin_C hown hK hW (10, k, 0) (cve10 hk) rfl rfl 0 (by decide) (htb _ m_84 rfl) (fun _ h => h) rfl rfl dC_recordCopy_14 ?_
  refine lv_iconst (v := 0) hx hb dC_recordCopy_17 (by decide) ?_
  refine fw_aald (X := X) hx hb hK hW (13, k, 0) (cvs13 (cve10 hk)) rfl 1 rfl rfl 0 (by decide) (19, k, 0) rfl (by unfold vp_in; decide) dC_recordCopy_18 ?_
  have hV2 : cV (19, k, 0) := (cvj19 (cvs13 (cve10 hk)) (by decide))
  refine lv_bipush (v := 7) hx hb dC_recordCopy_19 (by decide) ?_
  refine fw_iald (X := X) hx hb hK hW (19, k, 0) hV2 rfl 0 rfl 7 (by decide) (by unfold vp_in; decide) dC_recordCopy_21 ?_
  refine lv_sipush (v := 4096) hx hb dC_recordCopy_22 (by decide) ?_
  refine lv_idiv hx hb dC_recordCopy_25 (by decide) ?_
  refine lv_icmp_le (tgt := 33) hx hb dC_recordCopy_26 (by decide) (fun c3 => ?_) (fun c3 => ?_)
  · rw [if_pos c3] at he
    refine lv_iconst (v := 0) hx hb dC_recordCopy_33 (by decide) ?_
    exact fw_iret hx hb hr hlocks hK hnb hW hS (by rw [he]) dC_recordCopy_34
  · rw [if_neg c3] at he
    refine lv_iconst (v := 1) hx hb dC_recordCopy_29 (by decide) ?_
    refine lv_goto (tgt := 34) hx hb dC_recordCopy_30 (by decide) ?_
    exact fw_iret hx hb hr hlocks hK hnb hW hS (by rw [he]) dC_recordCopy_34
theorem rc_01 (σ : fw_S) (k : Nat) : cs_recordCopy σ k = 0 ∨ cs_recordCopy σ k = 1 := by
  unfold cs_recordCopy
  split
  · exact Or.inl rfl
  · exact Or.inr rfl
theorem rc_in (σ : fw_S) (k : Nat) : vp_in (cs_recordCopy σ k) 2 := by
  rcases rc_01 σ k with h | h <;> rw [h] <;> unfold vp_in <;> decide
theorem rc1_in (σ : fw_S) (k : Nat) : vp_in (1 - cs_recordCopy σ k) 2 := by
  rcases rc_01 σ k with h | h <;> rw [h] <;> unfold vp_in <;> decide
def cs_read (σ : fw_S) (k : Nat) (a1 : Int32) : Int32 :=
  (σ (19, k, (cs_recordCopy σ k).toNatClampNeg) a1.toNatClampNeg)
set_option maxHeartbeats 4000000 in
set_option maxRecDepth 100000 in
theorem c_read (l : Launch) (X : fw_X) (hI : fw_I cV X) (σ : fw_S) (k : Nat) (hk : k < 4) (a1 : Int32) (h1 : vp_in a1 8) : fw_Mi fw_cl csh cV fw_tys l yC_read wC_read (fw_rm 1) X σ [.ref (X.2.2 (10, k, 0)), .int a1] ((cs_read σ k a1, σ)) := by
  obtain ⟨out, he⟩ : ∃ z : Int32, z = cs_read σ k a1 := ⟨_, rfl⟩
  rw [← he]
  refine fw_Mi_of (cc := bC_read) (maxL := 2) (ret := (some .int)) (by decide) rfl (Nat.le_of_ble_eq_true rfl) ?_
  intro p e s m below meth c ls hx hb hr hml hlocks hown hts hK hnb hW hl
  have hS : va_S (fw_A cV X) s.heap s.heap [] := va_S.rf
  have hA : ∀ t, cV t → fw_A cV X (X.2.2 t) := fun t h => ⟨t, h, rfl⟩
  have htb := tb_use hts
  have hl : lv_has ls 2 [(0, .ref (X.2.2 (10, k, 0))), (1, .int a1)] := hl
  have hown : s.vm.findClass "TapOffice$Card" = some m.cls := hown
  unfold cs_read at he
  refine lv_aload_n hx hb dC_read_0 rfl (lv_at hl 0 rfl) ?_
  refine fw_get (X := X) (v := .ref (X.2.2 (13, k, 0))) hx hb hts hin_C hown hK hW (10, k, 0) (cve10 hk) rfl rfl 0 (by decide) (htb _ m_84 rfl) (fun _ h => h) rfl rfl dC_read_1 ?_
  refine lv_aload_n hx hb dC_read_4 rfl (lv_at hl 0 rfl) ?_
  refine fw_kp (va_runV (As := []) (rest := [.ref (X.2.2 (13, k, 0))]) ⟨hx, hb, hml, hown, hts⟩ (c_recordCopy l X hI σ k ((cve10 hk)).1 ) (cwV 0 hts (tb_V m_222 m_219 m_221 m_0 m_27) rfl rfl rfl (by decide +kernel) ⟨Nat.le_of_ble_eq_true rfl, Nat.le_of_ble_eq_true rfl⟩) (fw_preV (X := X) hK hnb hW (10, k, 0) (cve10 hk) rfl rfl []) rfl rfl hl.1 rfl (lv_room (Nat.le_of_ble_eq_true rfl)) dC_read_5 ⟨Nat.zero_le _, Nat.zero_le _⟩) hS (fun H locs hW hS => ?_)
  refine fw_aald (X := X) hx hb hK hW (13, k, 0) (cvs13 (cve10 hk)) rfl 1 rfl rfl (cs_recordCopy σ k).toNatClampNeg rfl (19, k, (cs_recordCopy σ k).toNatClampNeg) rfl (rc_in σ k) dC_read_8 ?_
  have hV1 : cV (19, k, (cs_recordCopy σ k).toNatClampNeg) := (cvj19 (cvs13 (cve10 hk)) (vi_lt (rc_in σ k)))
  refine lv_iload_n hx hb dC_read_9 rfl (lv_at hl 1 rfl) ?_
  refine fw_iald (X := X) hx hb hK hW (19, k, (cs_recordCopy σ k).toNatClampNeg) hV1 rfl 0 rfl a1.toNatClampNeg rfl h1 dC_read_10 ?_
  exact fw_iret hx hb hr hlocks hK hnb hW hS (by rw [he]) dC_read_11
def cs_counter (σ : fw_S) (k : Nat) : Int32 :=
  ((cs_read σ k 7) / 4096)
set_option maxHeartbeats 4000000 in
set_option maxRecDepth 100000 in
theorem c_counter (l : Launch) (X : fw_X) (hI : fw_I cV X) (σ : fw_S) (k : Nat) (hk : k < 4)  : fw_Mi fw_cl csh cV fw_tys l yC_counter wC_counter (fw_rm 2) X σ [.ref (X.2.2 (10, k, 0))] ((cs_counter σ k, σ)) := by
  obtain ⟨out, he⟩ : ∃ z : Int32, z = cs_counter σ k := ⟨_, rfl⟩
  rw [← he]
  refine fw_Mi_of (cc := bC_counter) (maxL := 1) (ret := (some .int)) (by decide) rfl (Nat.le_of_ble_eq_true rfl) ?_
  intro p e s m below meth c ls hx hb hr hml hlocks hown hts hK hnb hW hl
  have hS : va_S (fw_A cV X) s.heap s.heap [] := va_S.rf
  have hA : ∀ t, cV t → fw_A cV X (X.2.2 t) := fun t h => ⟨t, h, rfl⟩
  have htb := tb_use hts
  have hl : lv_has ls 1 [(0, .ref (X.2.2 (10, k, 0)))] := hl
  have hown : s.vm.findClass "TapOffice$Card" = some m.cls := hown
  unfold cs_counter at he
  refine lv_aload_n hx hb dC_counter_0 rfl (lv_at hl 0 rfl) ?_
  refine lv_bipush (v := 7) hx hb dC_counter_1 (by decide) ?_
  refine fw_kp (va_runV (As := [.int 7]) (rest := []) ⟨hx, hb, hml, hown, hts⟩ (c_read l X hI σ k ((cve10 hk)).1 7 (by unfold vp_in; decide)) (cwV 1 hts (tb_V m_218 m_239 m_216 m_217 m_27) rfl rfl rfl (by decide +kernel) ⟨Nat.le_of_ble_eq_true rfl, Nat.le_of_ble_eq_true rfl⟩) (fw_preV (X := X) hK hnb hW (10, k, 0) (cve10 hk) rfl rfl [.int 7]) rfl rfl hl.1 rfl (lv_room (Nat.le_of_ble_eq_true rfl)) dC_counter_3 ⟨Nat.zero_le _, Nat.zero_le _⟩) hS (fun H locs hW hS => ?_)
  refine lv_sipush (v := 4096) hx hb dC_counter_6 (by decide) ?_
  refine lv_idiv hx hb dC_counter_9 (by decide) ?_
  exact fw_iret hx hb hr hlocks hK hnb hW hS (by rw [he]) dC_counter_10
def cs_spentOn (σ : fw_S) (k : Nat) (a1 : Int32) : Int32 :=
  if ((cs_read σ k 7) - (cs_read σ k 7) / 4096 * 4096) = a1 then (cs_read σ k 6) else 0
set_option maxHeartbeats 4000000 in
set_option maxRecDepth 100000 in
theorem c_spentOn (l : Launch) (X : fw_X) (hI : fw_I cV X) (σ : fw_S) (k : Nat) (hk : k < 4) (a1 : Int32)  : fw_Mi fw_cl csh cV fw_tys l yC_spentOn wC_spentOn (fw_rm 2) X σ [.ref (X.2.2 (10, k, 0)), .int a1] ((cs_spentOn σ k a1, σ)) := by
  obtain ⟨out, he⟩ : ∃ z : Int32, z = cs_spentOn σ k a1 := ⟨_, rfl⟩
  rw [← he]
  refine fw_Mi_of (cc := bC_spentOn) (maxL := 2) (ret := (some .int)) (by decide) rfl (Nat.le_of_ble_eq_true rfl) ?_
  intro p e s m below meth c ls hx hb hr hml hlocks hown hts hK hnb hW hl
  have hS : va_S (fw_A cV X) s.heap s.heap [] := va_S.rf
  have hA : ∀ t, cV t → fw_A cV X (X.2.2 t) := fun t h => ⟨t, h, rfl⟩
  have htb := tb_use hts
  have hl : lv_has ls 2 [(0, .ref (X.2.2 (10, k, 0))), (1, .int a1)] := hl
  have hown : s.vm.findClass "TapOffice$Card" = some m.cls := hown
  unfold cs_spentOn at he
  refine lv_aload_n hx hb dC_spentOn_0 rfl (lv_at hl 0 rfl) ?_
  refine lv_bipush (v := 7) hx hb dC_spentOn_1 (by decide) ?_
  refine fw_kp (va_runV (As := [.int 7]) (rest := []) ⟨hx, hb, hml, hown, hts⟩ (c_read l X hI σ k ((cve10 hk)).1 7 (by unfold vp_in; decide)) (cwV 1 hts (tb_V m_218 m_239 m_216 m_217 m_27) rfl rfl rfl (by decide +kernel) ⟨Nat.le_of_ble_eq_true rfl, Nat.le_of_ble_eq_true rfl⟩) (fw_preV (X := X) hK hnb hW (10, k, 0) (cve10 hk) rfl rfl [.int 7]) rfl rfl hl.1 rfl (lv_room (Nat.le_of_ble_eq_true rfl)) dC_spentOn_3 ⟨Nat.zero_le _, Nat.zero_le _⟩) hS (fun H locs hW hS => ?_)
  refine lv_sipush (v := 4096) hx hb dC_spentOn_6 (by decide) ?_
  refine lv_irem hx hb dC_spentOn_9 (by decide) ?_
  refine lv_iload_n hx hb dC_spentOn_10 rfl (lv_at hl 1 rfl) ?_
  refine lv_icmp_ne (tgt := 23) hx hb dC_spentOn_11 (by decide) (fun c1 => ?_) (fun c1 => ?_)
  · rw [if_neg c1] at he
    refine lv_iconst (v := 0) hx hb dC_spentOn_23 (by decide) ?_
    exact fw_iret hx hb hr hlocks hK hnb hW hS (by rw [he]) dC_spentOn_24
  · rw [if_pos c1] at he
    refine lv_aload_n hx hb dC_spentOn_14 rfl (lv_at hl 0 rfl) ?_
    refine lv_bipush (v := 6) hx hb dC_spentOn_15 (by decide) ?_
    refine fw_kp (va_runV (As := [.int 6]) (rest := []) ⟨hx, hb, hml, hown, hts⟩ (c_read l X hI σ k ((cve10 hk)).1 6 (by unfold vp_in; decide)) (cwV 1 hts (tb_V m_218 m_239 m_216 m_217 m_27) rfl rfl rfl (by decide +kernel) ⟨Nat.le_of_ble_eq_true rfl, Nat.le_of_ble_eq_true rfl⟩) (fw_preV (X := X) hK hnb hW (10, k, 0) (cve10 hk) rfl rfl [.int 6]) rfl rfl hl.1 rfl (lv_room (Nat.le_of_ble_eq_true rfl)) dC_spentOn_17 ⟨Nat.zero_le _, Nat.zero_le _⟩) hS (fun H locs hW hS => ?_)
    refine lv_goto (tgt := 24) hx hb dC_spentOn_20 (by decide) ?_
    exact fw_iret hx hb hr hlocks hK hnb hW hS (by rw [he]) dC_spentOn_24
def cs_startDraft_s4 (σ8 : fw_S) : fw_S :=
  σ8
def cs_startDraft_s3 (k : Nat) (z1 : Int32) (σ6 : fw_S) : fw_S :=
  cs_startDraft_s4 (fw_st σ6 (14, k, 0) 7 ((((cs_counter σ6 k) + 1) * 4096) + z1))
def cs_startDraft_s2 (k : Nat) (z1 : Int32) (σ4 : fw_S) : fw_S :=
  cs_startDraft_s3 k z1 (fw_st σ4 (14, k, 0) 6 (cs_spentOn σ4 k z1))
def cs_startDraft_s1 (k : Nat) (σ : fw_S) (z1 : Int32) : fw_S :=
  cs_startDraft_s2 k z1 (fw_cp σ (19, k, (cs_recordCopy σ k).toNatClampNeg) (14, k, 0) 8)
def cs_startDraft (σ : fw_S) (k : Nat) (a1 : Int32) : fw_S :=
  cs_startDraft_s1 k σ (a1 / 1440)
set_option maxHeartbeats 4000000 in
set_option maxRecDepth 100000 in
theorem c_startDraft (l : Launch) (X : fw_X) (hI : fw_I cV X) (σ : fw_S) (k : Nat) (hk : k < 4) (a1 : Int32)  : fw_Mv fw_cl csh cV fw_tys l yC_startDraft wC_startDraft (fw_rm 3) X σ [.ref (X.2.2 (10, k, 0)), .int a1] (cs_startDraft σ k a1) := by
  obtain ⟨out, he⟩ : ∃ z : fw_S, z = cs_startDraft σ k a1 := ⟨_, rfl⟩
  rw [← he]
  refine fw_Mv_of (cc := bC_startDraft) (maxL := 3) (ret := none) (by decide) rfl (Nat.le_of_ble_eq_true rfl) ?_
  intro p e s m below meth c ls hx hb hr hml hlocks hown hts hK hnb hW hl
  have hS : va_S (fw_A cV X) s.heap s.heap [] := va_S.rf
  have hA : ∀ t, cV t → fw_A cV X (X.2.2 t) := fun t h => ⟨t, h, rfl⟩
  have htb := tb_use hts
  have hl : lv_has ls 3 [(0, .ref (X.2.2 (10, k, 0))), (1, .int a1)] := hl
  have hown : s.vm.findClass "TapOffice$Card" = some m.cls := hown
  unfold cs_startDraft at he
  refine lv_iload_n hx hb dC_startDraft_0 rfl (lv_at hl 1 rfl) ?_
  refine lv_sipush (v := 1440) hx hb dC_startDraft_1 (by decide) ?_
  refine lv_idiv hx hb dC_startDraft_4 (by decide) ?_
  refine lv_topi (fun z1 e2 => ?_)
  try rw [← e2] at he
  unfold cs_startDraft_s1 at he
  refine lv_istore_n (lv' := [(2, .int z1), (0, .ref (X.2.2 (10, k, 0))), (1, .int a1)]) hx hb dC_startDraft_5 rfl hl (by decide) rfl (fun ls hl => ?_)
  refine lv_aload_n hx hb dC_startDraft_6 rfl (lv_at hl 1 rfl) ?_
  refine fw_get (X := X) (v := .ref (X.2.2 (13, k, 0))) hx hb hts hin_C hown hK hW (10, k, 0) (cve10 hk) rfl rfl 0 (by decide) (htb _ m_84 rfl) (fun _ h => h) rfl rfl dC_startDraft_7 ?_
  refine lv_aload_n hx hb dC_startDraft_10 rfl (lv_at hl 1 rfl) ?_
  refine fw_kp (va_runV (As := []) (rest := [.ref (X.2.2 (13, k, 0))]) ⟨hx, hb, hml, hown, hts⟩ (c_recordCopy l X hI σ k ((cve10 hk)).1 ) (cwV 0 hts (tb_V m_222 m_219 m_221 m_0 m_27) rfl rfl rfl (by decide +kernel) ⟨Nat.le_of_ble_eq_true rfl, Nat.le_of_ble_eq_true rfl⟩) (fw_preV (X := X) hK hnb hW (10, k, 0) (cve10 hk) rfl rfl []) rfl rfl hl.1 rfl (lv_room (Nat.le_of_ble_eq_true rfl)) dC_startDraft_11 ⟨Nat.zero_le _, Nat.zero_le _⟩) hS (fun H locs hW hS => ?_)
  refine fw_aald (X := X) hx hb hK hW (13, k, 0) (cvs13 (cve10 hk)) rfl 1 rfl rfl (cs_recordCopy σ k).toNatClampNeg rfl (19, k, (cs_recordCopy σ k).toNatClampNeg) rfl (rc_in σ k) dC_startDraft_14 ?_
  have hV3 : cV (19, k, (cs_recordCopy σ k).toNatClampNeg) := (cvj19 (cvs13 (cve10 hk)) (vi_lt (rc_in σ k)))
  refine lv_iconst (v := 0) hx hb dC_startDraft_15 (by decide) ?_
  refine lv_aload_n hx hb dC_startDraft_16 rfl (lv_at hl 1 rfl) ?_
  refine fw_get (X := X) (v := .ref (X.2.2 (14, k, 0))) hx hb hts hin_C hown hK hW (10, k, 0) (cve10 hk) rfl rfl 1 (by decide) (htb _ m_85 rfl) (fun _ h => h) rfl rfl dC_startDraft_17 ?_
  refine lv_iconst (v := 0) hx hb dC_startDraft_20 (by decide) ?_
  refine lv_bipush (v := 8) hx hb dC_startDraft_21 (by decide) ?_
  refine fw_copy (X := X) hx hb (hml.trans hl.1.symm) hown (htb _ m_81 rfl) (htb _ m_83 rfl) (htb _ m_82 rfl) (htb _ m_28 rfl) hK hW hI hA hS (19, k, (cs_recordCopy σ k).toNatClampNeg) (14, k, 0) hV3 (cvs14 (cve10 hk)) rfl rfl 0 0 rfl rfl 8 (by decide) (by decide) (by decide) (by decide) (Nat.le_of_ble_eq_true rfl) (Nat.le_of_ble_eq_true rfl) dC_startDraft_23 (fun H locs hW hS => ?_)
  obtain ⟨σ4, e5⟩ : ∃ z : fw_S, z = fw_cp σ (19, k, (cs_recordCopy σ k).toNatClampNeg) (14, k, 0) 8 := ⟨_, rfl⟩
  rw [← e5] at hW
  try rw [← e5] at he
  unfold cs_startDraft_s2 at he
  refine lv_aload_n hx hb dC_startDraft_26 rfl (lv_at hl 1 rfl) ?_
  refine fw_get (X := X) (v := .ref (X.2.2 (14, k, 0))) hx hb hts hin_C hown hK hW (10, k, 0) (cve10 hk) rfl rfl 1 (by decide) (htb _ m_85 rfl) (fun _ h => h) rfl rfl dC_startDraft_27 ?_
  refine lv_bipush (v := 6) hx hb dC_startDraft_30 (by decide) ?_
  refine lv_aload_n hx hb dC_startDraft_32 rfl (lv_at hl 1 rfl) ?_
  refine lv_iload_n hx hb dC_startDraft_33 rfl (lv_at hl 0 rfl) ?_
  refine fw_kp (va_runV (As := [.int z1]) (rest := [.int 6, .ref (X.2.2 (14, k, 0))]) ⟨hx, hb, hml, hown, hts⟩ (c_spentOn l X hI σ4 k ((cve10 hk)).1 z1 ) (cwV 1 hts (tb_V m_238 m_235 m_236 m_237 m_27) rfl rfl rfl (by decide +kernel) ⟨Nat.le_of_ble_eq_true rfl, Nat.le_of_ble_eq_true rfl⟩) (fw_preV (X := X) hK hnb hW (10, k, 0) (cve10 hk) rfl rfl [.int z1]) rfl rfl hl.1 rfl (lv_room (Nat.le_of_ble_eq_true rfl)) dC_startDraft_34 ⟨Nat.zero_le _, Nat.zero_le _⟩) hS (fun H locs hW hS => ?_)
  refine fw_iast (X := X) hx hb hK hW hI hA hS (14, k, 0) (cvs14 (cve10 hk)) rfl 0 rfl 6 (by decide) (by unfold vp_in; decide) dC_startDraft_37 (fun H locs hW hS => ?_)
  obtain ⟨σ6, e7⟩ : ∃ z : fw_S, z = fw_st σ4 (14, k, 0) 6 (cs_spentOn σ4 k z1) := ⟨_, rfl⟩
  rw [← e7] at hW
  try rw [← e7] at he
  unfold cs_startDraft_s3 at he
  refine lv_aload_n hx hb dC_startDraft_38 rfl (lv_at hl 1 rfl) ?_
  refine fw_get (X := X) (v := .ref (X.2.2 (14, k, 0))) hx hb hts hin_C hown hK hW (10, k, 0) (cve10 hk) rfl rfl 1 (by decide) (htb _ m_85 rfl) (fun _ h => h) rfl rfl dC_startDraft_39 ?_
  refine lv_bipush (v := 7) hx hb dC_startDraft_42 (by decide) ?_
  refine lv_aload_n hx hb dC_startDraft_44 rfl (lv_at hl 1 rfl) ?_
  refine fw_kp (va_runV (As := []) (rest := [.int 7, .ref (X.2.2 (14, k, 0))]) ⟨hx, hb, hml, hown, hts⟩ (c_counter l X hI σ6 k ((cve10 hk)).1 ) (cwV 0 hts (tb_V m_243 m_240 m_241 m_242 m_27) rfl rfl rfl (by decide +kernel) ⟨Nat.le_of_ble_eq_true rfl, Nat.le_of_ble_eq_true rfl⟩) (fw_preV (X := X) hK hnb hW (10, k, 0) (cve10 hk) rfl rfl []) rfl rfl hl.1 rfl (lv_room (Nat.le_of_ble_eq_true rfl)) dC_startDraft_45 ⟨Nat.zero_le _, Nat.zero_le _⟩) hS (fun H locs hW hS => ?_)
  refine lv_iconst (v := 1) hx hb dC_startDraft_48 (by decide) ?_
  refine lv_iadd hx hb dC_startDraft_49 ?_
  refine lv_sipush (v := 4096) hx hb dC_startDraft_50 (by decide) ?_
  refine lv_imul hx hb dC_startDraft_53 ?_
  refine lv_iload_n hx hb dC_startDraft_54 rfl (lv_at hl 0 rfl) ?_
  refine lv_iadd hx hb dC_startDraft_55 ?_
  refine fw_iast (X := X) hx hb hK hW hI hA hS (14, k, 0) (cvs14 (cve10 hk)) rfl 0 rfl 7 (by decide) (by unfold vp_in; decide) dC_startDraft_56 (fun H locs hW hS => ?_)
  obtain ⟨σ8, e9⟩ : ∃ z : fw_S, z = fw_st σ6 (14, k, 0) 7 ((((cs_counter σ6 k) + 1) * 4096) + z1) := ⟨_, rfl⟩
  rw [← e9] at hW
  try rw [← e9] at he
  unfold cs_startDraft_s4 at he
  exact fw_vret hx hb hr hlocks hK hnb hW hS he dC_startDraft_57
theorem fw_st_off {σ : fw_S} {t u : fw_T} {k : Nat} {x : Int32} (h : u.1 ≠ t.1) : fw_st σ t k x u = σ u := fw_row_ne σ _ (fun e => h (by rw [e]))
theorem fw_cp_off {σ : fw_S} {t t2 u : fw_T} {n : Nat} (h : u.1 ≠ t2.1) : fw_cp σ t t2 n u = σ u := fw_row_ne σ _ (fun e => h (by rw [e]))
theorem fr_startDraft (σ : fw_S) (k : Nat) (a : Int32) (u : fw_T) (h : u.1 ≠ 14) : cs_startDraft σ k a u = σ u := by
  simp only [cs_startDraft, cs_startDraft_s4, cs_startDraft_s3, cs_startDraft_s2, cs_startDraft_s1]
  rw [fw_st_off h, fw_st_off h, fw_cp_off h]
def cs_draftTopUp_s2 (σ3 : fw_S) : fw_S :=
  σ3
def cs_draftTopUp_s1 (k : Nat) (a1 : Int32) (σ1 : fw_S) : fw_S :=
  cs_draftTopUp_s2 (fw_st σ1 (14, k, 0) 0 ((σ1 (14, k, 0) 0) + a1))
def cs_draftTopUp (σ : fw_S) (k : Nat) (a1 : Int32) (a2 : Int32) : fw_S :=
  cs_draftTopUp_s1 k a1 (cs_startDraft σ k a2)
set_option maxHeartbeats 4000000 in
set_option maxRecDepth 100000 in
theorem c_draftTopUp (l : Launch) (X : fw_X) (hI : fw_I cV X) (σ : fw_S) (k : Nat) (hk : k < 4) (a1 a2 : Int32)  : fw_Mv fw_cl csh cV fw_tys l yC_draftTopUp wC_draftTopUp (fw_rm 4) X σ [.ref (X.2.2 (10, k, 0)), .int a1, .int a2] (cs_draftTopUp σ k a1 a2) := by
  obtain ⟨out, he⟩ : ∃ z : fw_S, z = cs_draftTopUp σ k a1 a2 := ⟨_, rfl⟩
  rw [← he]
  refine fw_Mv_of (cc := bC_draftTopUp) (maxL := 3) (ret := none) (by decide) rfl (Nat.le_of_ble_eq_true rfl) ?_
  intro p e s m below meth c ls hx hb hr hml hlocks hown hts hK hnb hW hl
  have hS : va_S (fw_A cV X) s.heap s.heap [] := va_S.rf
  have hA : ∀ t, cV t → fw_A cV X (X.2.2 t) := fun t h => ⟨t, h, rfl⟩
  have htb := tb_use hts
  have hl : lv_has ls 3 [(0, .ref (X.2.2 (10, k, 0))), (1, .int a1), (2, .int a2)] := hl
  have hown : s.vm.findClass "TapOffice$Card" = some m.cls := hown
  unfold cs_draftTopUp at he
  refine lv_aload_n hx hb dC_draftTopUp_0 rfl (lv_at hl 0 rfl) ?_
  refine lv_iload_n hx hb dC_draftTopUp_1 rfl (lv_at hl 2 rfl) ?_
  refine fw_kv (va_runV (As := [.int a2]) (rest := []) ⟨hx, hb, hml, hown, hts⟩ (c_startDraft l X hI σ k ((cve10 hk)).1 a2 ) (cwV 1 hts (tb_V m_234 m_231 m_233 m_1 m_27) rfl rfl rfl (by decide +kernel) ⟨Nat.le_of_ble_eq_true rfl, Nat.le_of_ble_eq_true rfl⟩) (fw_preV (X := X) hK hnb hW (10, k, 0) (cve10 hk) rfl rfl [.int a2]) rfl rfl hl.1 rfl (lv_room (Nat.le_of_ble_eq_true rfl)) dC_draftTopUp_2 ⟨Nat.zero_le _, Nat.zero_le _⟩) hS (fun H locs hW hS => ?_)
  obtain ⟨σ1, e2⟩ : ∃ z : fw_S, z = cs_startDraft σ k a2 := ⟨_, rfl⟩
  rw [← e2] at hW
  try rw [← e2] at he
  unfold cs_draftTopUp_s1 at he
  refine lv_aload_n hx hb dC_draftTopUp_5 rfl (lv_at hl 0 rfl) ?_
  refine fw_get (X := X) (v := .ref (X.2.2 (14, k, 0))) hx hb hts hin_C hown hK hW (10, k, 0) (cve10 hk) rfl rfl 1 (by decide) (htb _ m_85 rfl) (fun _ h => h) rfl rfl dC_draftTopUp_6 ?_
  refine lv_iconst (v := 0) hx hb dC_draftTopUp_9 (by decide) ?_
  refine lv_dup2_11 hx hb dC_draftTopUp_10 rfl rfl ?_
  refine fw_iald (X := X) hx hb hK hW (14, k, 0) (cvs14 (cve10 hk)) rfl 0 rfl 0 (by decide) (by unfold vp_in; decide) dC_draftTopUp_11 ?_
  refine lv_iload_n hx hb dC_draftTopUp_12 rfl (lv_at hl 1 rfl) ?_
  refine lv_iadd hx hb dC_draftTopUp_13 ?_
  refine fw_iast (X := X) hx hb hK hW hI hA hS (14, k, 0) (cvs14 (cve10 hk)) rfl 0 rfl 0 (by decide) (by unfold vp_in; decide) dC_draftTopUp_14 (fun H locs hW hS => ?_)
  obtain ⟨σ3, e4⟩ : ∃ z : fw_S, z = fw_st σ1 (14, k, 0) 0 ((σ1 (14, k, 0) 0) + a1) := ⟨_, rfl⟩
  rw [← e4] at hW
  try rw [← e4] at he
  unfold cs_draftTopUp_s2 at he
  exact fw_vret hx hb hr hlocks hK hnb hW hS he dC_draftTopUp_15
def cs_priceOutOfTime (σ : fw_S) (k : Nat) (a1 : Int32) (a2 : Int32) : Int32 :=
  if (σ (14, k, 0) 1) = (-1) then (cs_fullPrice σ a1 a2) else (cs_fullPrice σ (σ (14, k, 0) 1) (σ (14, k, 0) 2))
set_option maxHeartbeats 4000000 in
set_option maxRecDepth 100000 in
theorem c_priceOutOfTime (l : Launch) (X : fw_X) (hI : fw_I cV X) (σ : fw_S) (k : Nat) (hk : k < 4) (a1 a2 : Int32)  : fw_Mi fw_cl csh cV fw_tys l yC_priceOutOfTime wC_priceOutOfTime (fw_rm 2) X σ [.ref (X.2.2 (10, k, 0)), .int a1, .int a2, .ref (X.2.2 (1, 0, 0))] ((cs_priceOutOfTime σ k a1 a2, σ)) := by
  obtain ⟨out, he⟩ : ∃ z : Int32, z = cs_priceOutOfTime σ k a1 a2 := ⟨_, rfl⟩
  rw [← he]
  refine fw_Mi_of (cc := bC_priceOutOfTime) (maxL := 4) (ret := (some .int)) (by decide) rfl (Nat.le_of_ble_eq_true rfl) ?_
  intro p e s m below meth c ls hx hb hr hml hlocks hown hts hK hnb hW hl
  have hS : va_S (fw_A cV X) s.heap s.heap [] := va_S.rf
  have hA : ∀ t, cV t → fw_A cV X (X.2.2 t) := fun t h => ⟨t, h, rfl⟩
  have htb := tb_use hts
  have hl : lv_has ls 4 [(0, .ref (X.2.2 (10, k, 0))), (1, .int a1), (2, .int a2), (3, .ref (X.2.2 (1, 0, 0)))] := hl
  have hown : s.vm.findClass "TapOffice$Card" = some m.cls := hown
  unfold cs_priceOutOfTime at he
  refine lv_aload_n hx hb dC_priceOutOfTime_0 rfl (lv_at hl 0 rfl) ?_
  refine fw_get (X := X) (v := .ref (X.2.2 (14, k, 0))) hx hb hts hin_C hown hK hW (10, k, 0) (cve10 hk) rfl rfl 1 (by decide) (htb _ m_85 rfl) (fun _ h => h) rfl rfl dC_priceOutOfTime_1 ?_
  refine lv_iconst (v := 1) hx hb dC_priceOutOfTime_4 (by decide) ?_
  refine fw_iald (X := X) hx hb hK hW (14, k, 0) (cvs14 (cve10 hk)) rfl 0 rfl 1 (by decide) (by unfold vp_in; decide) dC_priceOutOfTime_5 ?_
  refine lv_iconst (v := (-1)) hx hb dC_priceOutOfTime_6 (by decide) ?_
  refine lv_icmp_ne (tgt := 19) hx hb dC_priceOutOfTime_7 (by decide) (fun c1 => ?_) (fun c1 => ?_)
  · rw [if_neg c1] at he
    refine lv_aload_n hx hb dC_priceOutOfTime_19 rfl (lv_at hl 3 rfl) ?_
    refine lv_aload_n hx hb dC_priceOutOfTime_20 rfl (lv_at hl 0 rfl) ?_
    refine fw_get (X := X) (v := .ref (X.2.2 (14, k, 0))) hx hb hts hin_C hown hK hW (10, k, 0) (cve10 hk) rfl rfl 1 (by decide) (htb _ m_85 rfl) (fun _ h => h) rfl rfl dC_priceOutOfTime_21 ?_
    refine lv_iconst (v := 1) hx hb dC_priceOutOfTime_24 (by decide) ?_
    refine fw_iald (X := X) hx hb hK hW (14, k, 0) (cvs14 (cve10 hk)) rfl 0 rfl 1 (by decide) (by unfold vp_in; decide) dC_priceOutOfTime_25 ?_
    refine lv_aload_n hx hb dC_priceOutOfTime_26 rfl (lv_at hl 0 rfl) ?_
    refine fw_get (X := X) (v := .ref (X.2.2 (14, k, 0))) hx hb hts hin_C hown hK hW (10, k, 0) (cve10 hk) rfl rfl 1 (by decide) (htb _ m_85 rfl) (fun _ h => h) rfl rfl dC_priceOutOfTime_27 ?_
    refine lv_iconst (v := 2) hx hb dC_priceOutOfTime_30 (by decide) ?_
    refine fw_iald (X := X) hx hb hK hW (14, k, 0) (cvs14 (cve10 hk)) rfl 0 rfl 2 (by decide) (by unfold vp_in; decide) dC_priceOutOfTime_31 ?_
    refine fw_kp (va_runV (As := [.int (σ (14, k, 0) 1), .int (σ (14, k, 0) 2)]) (rest := []) ⟨hx, hb, hml, hown, hts⟩ (c_fullPrice l X hI σ (σ (14, k, 0) 1) (σ (14, k, 0) 2) ) (cwV 2 hts (tb_V m_269 m_266 m_267 m_268 m_26) rfl rfl rfl (by decide +kernel) ⟨Nat.le_of_ble_eq_true rfl, Nat.le_of_ble_eq_true rfl⟩) (fw_preV (X := X) hK hnb hW (1, 0, 0) cv1 rfl rfl [.int (σ (14, k, 0) 1), .int (σ (14, k, 0) 2)]) rfl rfl hl.1 rfl (lv_room (Nat.le_of_ble_eq_true rfl)) dC_priceOutOfTime_32 ⟨Nat.zero_le _, Nat.zero_le _⟩) hS (fun H locs hW hS => ?_)
    exact fw_iret hx hb hr hlocks hK hnb hW hS (by rw [he]) dC_priceOutOfTime_35
  · rw [if_pos c1] at he
    refine lv_aload_n hx hb dC_priceOutOfTime_10 rfl (lv_at hl 3 rfl) ?_
    refine lv_iload_n hx hb dC_priceOutOfTime_11 rfl (lv_at hl 1 rfl) ?_
    refine lv_iload_n hx hb dC_priceOutOfTime_12 rfl (lv_at hl 2 rfl) ?_
    refine fw_kp (va_runV (As := [.int a1, .int a2]) (rest := []) ⟨hx, hb, hml, hown, hts⟩ (c_fullPrice l X hI σ a1 a2 ) (cwV 2 hts (tb_V m_269 m_266 m_267 m_268 m_26) rfl rfl rfl (by decide +kernel) ⟨Nat.le_of_ble_eq_true rfl, Nat.le_of_ble_eq_true rfl⟩) (fw_preV (X := X) hK hnb hW (1, 0, 0) cv1 rfl rfl [.int a1, .int a2]) rfl rfl hl.1 rfl (lv_room (Nat.le_of_ble_eq_true rfl)) dC_priceOutOfTime_13 ⟨Nat.zero_le _, Nat.zero_le _⟩) hS (fun H locs hW hS => ?_)
    refine lv_goto (tgt := 35) hx hb dC_priceOutOfTime_16 (by decide) ?_
    exact fw_iret hx hb hr hlocks hK hnb hW hS (by rw [he]) dC_priceOutOfTime_35
def cs_draftEntry_s2 (σ7 : fw_S) : Int32 × fw_S :=
  (0, σ7)
def cs_draftEntry_s1 (k : Nat) (a2 : Int32) (σ5 : fw_S) : Int32 × fw_S :=
  cs_draftEntry_s2 (fw_st σ5 (14, k, 0) 2 a2)
def cs_draftEntry_s6 (σ15 : fw_S) : Int32 × fw_S :=
  (0, σ15)
def cs_draftEntry_s5 (k : Nat) (a2 : Int32) (σ13 : fw_S) : Int32 × fw_S :=
  cs_draftEntry_s6 (fw_st σ13 (14, k, 0) 2 a2)
def cs_draftEntry_s4 (k : Nat) (a1 : Int32) (a2 : Int32) (σ11 : fw_S) : Int32 × fw_S :=
  cs_draftEntry_s5 k a2 (fw_st σ11 (14, k, 0) 1 a1)
def cs_draftEntry_s3 (k : Nat) (a1 : Int32) (a2 : Int32) (σ9 : fw_S) : Int32 × fw_S :=
  cs_draftEntry_s4 k a1 a2 (fw_st σ9 (14, k, 0) 4 0)
def cs_draftEntry_s11 (z18 : Int32) (σ27 : fw_S) : Int32 × fw_S :=
  (z18, σ27)
def cs_draftEntry_s10 (k : Nat) (a2 : Int32) (z18 : Int32) (σ25 : fw_S) : Int32 × fw_S :=
  cs_draftEntry_s11 z18 (fw_st σ25 (14, k, 0) 2 a2)
def cs_draftEntry_s9 (k : Nat) (a1 : Int32) (a2 : Int32) (z18 : Int32) (σ23 : fw_S) : Int32 × fw_S :=
  cs_draftEntry_s10 k a2 z18 (fw_st σ23 (14, k, 0) 1 a1)
def cs_draftEntry_s8 (k : Nat) (a1 : Int32) (a2 : Int32) (z18 : Int32) (σ21 : fw_S) : Int32 × fw_S :=
  cs_draftEntry_s9 k a1 a2 z18 (fw_st σ21 (14, k, 0) 4 0)
def cs_draftEntry_s7 (k : Nat) (a1 : Int32) (a2 : Int32) (σ : fw_S) (z18 : Int32) : Int32 × fw_S :=
  cs_draftEntry_s8 k a1 a2 z18 (fw_st σ (14, k, 0) 3 a1)
def cs_draftEntry (σ : fw_S) (k : Nat) (a1 : Int32) (a2 : Int32) : Int32 × fw_S :=
  if (σ (14, k, 0) 1) = (-1) then if a2 ≤ ((σ (14, k, 0) 5) + 30) then cs_draftEntry_s1 k a2 (fw_st σ (14, k, 0) 1 a1) else cs_draftEntry_s3 k a1 a2 (fw_st σ (14, k, 0) 3 a1) else cs_draftEntry_s7 k a1 a2 σ (cs_capped σ (cs_fullPrice σ (σ (14, k, 0) 1) (σ (14, k, 0) 2)) (σ (14, k, 0) 6))
set_option maxHeartbeats 4000000 in
set_option maxRecDepth 100000 in
theorem c_draftEntry (l : Launch) (X : fw_X) (hI : fw_I cV X) (σ : fw_S) (k : Nat) (hk : k < 4) (a1 a2 : Int32)  : fw_Mi fw_cl csh cV fw_tys l yC_draftEntry wC_draftEntry (fw_rm 2) X σ [.ref (X.2.2 (10, k, 0)), .int a1, .int a2, .ref (X.2.2 (1, 0, 0))] (cs_draftEntry σ k a1 a2) := by
  obtain ⟨out, he⟩ : ∃ z : Int32 × fw_S, z = cs_draftEntry σ k a1 a2 := ⟨_, rfl⟩
  rw [← he]
  refine fw_Mi_of (cc := bC_draftEntry) (maxL := 6) (ret := (some .int)) (by decide) rfl (Nat.le_of_ble_eq_true rfl) ?_
  intro p e s m below meth c ls hx hb hr hml hlocks hown hts hK hnb hW hl
  have hS : va_S (fw_A cV X) s.heap s.heap [] := va_S.rf
  have hA : ∀ t, cV t → fw_A cV X (X.2.2 t) := fun t h => ⟨t, h, rfl⟩
  have htb := tb_use hts
  have hl : lv_has ls 6 [(0, .ref (X.2.2 (10, k, 0))), (1, .int a1), (2, .int a2), (3, .ref (X.2.2 (1, 0, 0)))] := hl
  have hown : s.vm.findClass "TapOffice$Card" = some m.cls := hown
  unfold cs_draftEntry at he
  refine lv_aload_n hx hb dC_draftEntry_0 rfl (lv_at hl 0 rfl) ?_
  refine fw_get (X := X) (v := .ref (X.2.2 (14, k, 0))) hx hb hts hin_C hown hK hW (10, k, 0) (cve10 hk) rfl rfl 1 (by decide) (htb _ m_85 rfl) (fun _ h => h) rfl rfl dC_draftEntry_1 ?_
  refine lv_iconst (v := 1) hx hb dC_draftEntry_4 (by decide) ?_
  refine fw_iald (X := X) hx hb hK hW (14, k, 0) (cvs14 (cve10 hk)) rfl 0 rfl 1 (by decide) (by unfold vp_in; decide) dC_draftEntry_5 ?_
  refine lv_iconst (v := (-1)) hx hb dC_draftEntry_6 (by decide) ?_
  refine lv_icmp_eq (tgt := 14) hx hb dC_draftEntry_7 (by decide) (fun c1 => ?_) (fun c1 => ?_)
  · rw [if_pos c1] at he
    refine lv_iconst (v := 0) hx hb dC_draftEntry_14 (by decide) ?_
    refine lv_istore (lv' := [(4, .int 0), (0, .ref (X.2.2 (10, k, 0))), (1, .int a1), (2, .int a2), (3, .ref (X.2.2 (1, 0, 0)))]) hx hb dC_draftEntry_15 hl (by decide) rfl (fun ls hl => ?_)
    refine lv_iload hx hb dC_draftEntry_17 (lv_at hl 0 rfl) ?_
    refine lv_if_eq (tgt := 52) hx hb dC_draftEntry_19 (by decide) (fun c2 => ?_) (fun c2 => ?_)
    rotate_left
    · exact absurd c2 (by decide)
    refine lv_iconst (v := 0) hx hb dC_draftEntry_52 (by decide) ?_
    refine lv_istore (lv' := [(5, .int 0), (4, .int 0), (0, .ref (X.2.2 (10, k, 0))), (1, .int a1), (2, .int a2), (3, .ref (X.2.2 (1, 0, 0)))]) hx hb dC_draftEntry_53 hl (by decide) rfl (fun ls hl => ?_)
    refine lv_iload hx hb dC_draftEntry_55 (lv_at hl 1 rfl) ?_
    refine lv_if_ne (tgt := 73) hx hb dC_draftEntry_57 (by decide) (fun c3 => ?_) (fun c3 => ?_)
    · exact absurd c3 (by decide)
    refine lv_iload_n hx hb dC_draftEntry_60 rfl (lv_at hl 4 rfl) ?_
    refine lv_aload_n hx hb dC_draftEntry_61 rfl (lv_at hl 2 rfl) ?_
    refine fw_get (X := X) (v := .ref (X.2.2 (14, k, 0))) hx hb hts hin_C hown hK hW (10, k, 0) (cve10 hk) rfl rfl 1 (by decide) (htb _ m_85 rfl) (fun _ h => h) rfl rfl dC_draftEntry_62 ?_
    refine lv_iconst (v := 5) hx hb dC_draftEntry_65 (by decide) ?_
    refine fw_iald (X := X) hx hb hK hW (14, k, 0) (cvs14 (cve10 hk)) rfl 0 rfl 5 (by decide) (by unfold vp_in; decide) dC_draftEntry_66 ?_
    refine lv_bipush (v := 30) hx hb dC_draftEntry_67 (by decide) ?_
    refine lv_iadd hx hb dC_draftEntry_69 ?_
    refine lv_icmp_le (tgt := 87) hx hb dC_draftEntry_70 (by decide) (fun c4 => ?_) (fun c4 => ?_)
    · rw [if_pos c4] at he
      refine lv_aload_n hx hb dC_draftEntry_87 rfl (lv_at hl 2 rfl) ?_
      refine fw_get (X := X) (v := .ref (X.2.2 (14, k, 0))) hx hb hts hin_C hown hK hW (10, k, 0) (cve10 hk) rfl rfl 1 (by decide) (htb _ m_85 rfl) (fun _ h => h) rfl rfl dC_draftEntry_88 ?_
      refine lv_iconst (v := 1) hx hb dC_draftEntry_91 (by decide) ?_
      refine lv_iload_n hx hb dC_draftEntry_92 rfl (lv_at hl 3 rfl) ?_
      refine fw_iast (X := X) hx hb hK hW hI hA hS (14, k, 0) (cvs14 (cve10 hk)) rfl 0 rfl 1 (by decide) (by unfold vp_in; decide) dC_draftEntry_93 (fun H locs hW hS => ?_)
      obtain ⟨σ5, e6⟩ : ∃ z : fw_S, z = fw_st σ (14, k, 0) 1 a1 := ⟨_, rfl⟩
      rw [← e6] at hW
      try rw [← e6] at he
      unfold cs_draftEntry_s1 at he
      refine lv_aload_n hx hb dC_draftEntry_94 rfl (lv_at hl 2 rfl) ?_
      refine fw_get (X := X) (v := .ref (X.2.2 (14, k, 0))) hx hb hts hin_C hown hK hW (10, k, 0) (cve10 hk) rfl rfl 1 (by decide) (htb _ m_85 rfl) (fun _ h => h) rfl rfl dC_draftEntry_95 ?_
      refine lv_iconst (v := 2) hx hb dC_draftEntry_98 (by decide) ?_
      refine lv_iload_n hx hb dC_draftEntry_99 rfl (lv_at hl 4 rfl) ?_
      refine fw_iast (X := X) hx hb hK hW hI hA hS (14, k, 0) (cvs14 (cve10 hk)) rfl 0 rfl 2 (by decide) (by unfold vp_in; decide) dC_draftEntry_100 (fun H locs hW hS => ?_)
      obtain ⟨σ7, e8⟩ : ∃ z : fw_S, z = fw_st σ5 (14, k, 0) 2 a2 := ⟨_, rfl⟩
      rw [← e8] at hW
      try rw [← e8] at he
      unfold cs_draftEntry_s2 at he
      refine lv_iload hx hb dC_draftEntry_101 (lv_at hl 0 rfl) ?_
      exact fw_iret hx hb hr hlocks hK hnb hW hS he dC_draftEntry_103
    · rw [if_neg c4] at he
      refine lv_aload_n hx hb dC_draftEntry_73 rfl (lv_at hl 2 rfl) ?_
      refine fw_get (X := X) (v := .ref (X.2.2 (14, k, 0))) hx hb hts hin_C hown hK hW (10, k, 0) (cve10 hk) rfl rfl 1 (by decide) (htb _ m_85 rfl) (fun _ h => h) rfl rfl dC_draftEntry_74 ?_
      refine lv_iconst (v := 3) hx hb dC_draftEntry_77 (by decide) ?_
      refine lv_iload_n hx hb dC_draftEntry_78 rfl (lv_at hl 3 rfl) ?_
      refine fw_iast (X := X) hx hb hK hW hI hA hS (14, k, 0) (cvs14 (cve10 hk)) rfl 0 rfl 3 (by decide) (by unfold vp_in; decide) dC_draftEntry_79 (fun H locs hW hS => ?_)
      obtain ⟨σ9, e10⟩ : ∃ z : fw_S, z = fw_st σ (14, k, 0) 3 a1 := ⟨_, rfl⟩
      rw [← e10] at hW
      try rw [← e10] at he
      unfold cs_draftEntry_s3 at he
      refine lv_aload_n hx hb dC_draftEntry_80 rfl (lv_at hl 2 rfl) ?_
      refine fw_get (X := X) (v := .ref (X.2.2 (14, k, 0))) hx hb hts hin_C hown hK hW (10, k, 0) (cve10 hk) rfl rfl 1 (by decide) (htb _ m_85 rfl) (fun _ h => h) rfl rfl dC_draftEntry_81 ?_
      refine lv_iconst (v := 4) hx hb dC_draftEntry_84 (by decide) ?_
      refine lv_iconst (v := 0) hx hb dC_draftEntry_85 (by decide) ?_
      refine fw_iast (X := X) hx hb hK hW hI hA hS (14, k, 0) (cvs14 (cve10 hk)) rfl 0 rfl 4 (by decide) (by unfold vp_in; decide) dC_draftEntry_86 (fun H locs hW hS => ?_)
      obtain ⟨σ11, e12⟩ : ∃ z : fw_S, z = fw_st σ9 (14, k, 0) 4 0 := ⟨_, rfl⟩
      rw [← e12] at hW
      try rw [← e12] at he
      unfold cs_draftEntry_s4 at he
      refine lv_aload_n hx hb dC_draftEntry_87 rfl (lv_at hl 2 rfl) ?_
      refine fw_get (X := X) (v := .ref (X.2.2 (14, k, 0))) hx hb hts hin_C hown hK hW (10, k, 0) (cve10 hk) rfl rfl 1 (by decide) (htb _ m_85 rfl) (fun _ h => h) rfl rfl dC_draftEntry_88 ?_
      refine lv_iconst (v := 1) hx hb dC_draftEntry_91 (by decide) ?_
      refine lv_iload_n hx hb dC_draftEntry_92 rfl (lv_at hl 3 rfl) ?_
      refine fw_iast (X := X) hx hb hK hW hI hA hS (14, k, 0) (cvs14 (cve10 hk)) rfl 0 rfl 1 (by decide) (by unfold vp_in; decide) dC_draftEntry_93 (fun H locs hW hS => ?_)
      obtain ⟨σ13, e14⟩ : ∃ z : fw_S, z = fw_st σ11 (14, k, 0) 1 a1 := ⟨_, rfl⟩
      rw [← e14] at hW
      try rw [← e14] at he
      unfold cs_draftEntry_s5 at he
      refine lv_aload_n hx hb dC_draftEntry_94 rfl (lv_at hl 2 rfl) ?_
      refine fw_get (X := X) (v := .ref (X.2.2 (14, k, 0))) hx hb hts hin_C hown hK hW (10, k, 0) (cve10 hk) rfl rfl 1 (by decide) (htb _ m_85 rfl) (fun _ h => h) rfl rfl dC_draftEntry_95 ?_
      refine lv_iconst (v := 2) hx hb dC_draftEntry_98 (by decide) ?_
      refine lv_iload_n hx hb dC_draftEntry_99 rfl (lv_at hl 4 rfl) ?_
      refine fw_iast (X := X) hx hb hK hW hI hA hS (14, k, 0) (cvs14 (cve10 hk)) rfl 0 rfl 2 (by decide) (by unfold vp_in; decide) dC_draftEntry_100 (fun H locs hW hS => ?_)
      obtain ⟨σ15, e16⟩ : ∃ z : fw_S, z = fw_st σ13 (14, k, 0) 2 a2 := ⟨_, rfl⟩
      rw [← e16] at hW
      try rw [← e16] at he
      unfold cs_draftEntry_s6 at he
      refine lv_iload hx hb dC_draftEntry_101 (lv_at hl 0 rfl) ?_
      exact fw_iret hx hb hr hlocks hK hnb hW hS he dC_draftEntry_103
  · rw [if_neg c1] at he
    refine lv_iconst (v := 1) hx hb dC_draftEntry_10 (by decide) ?_
    refine lv_goto (tgt := 15) hx hb dC_draftEntry_11 (by decide) ?_
    refine lv_istore (lv' := [(4, .int 1), (0, .ref (X.2.2 (10, k, 0))), (1, .int a1), (2, .int a2), (3, .ref (X.2.2 (1, 0, 0)))]) hx hb dC_draftEntry_15 hl (by decide) rfl (fun ls hl => ?_)
    refine lv_iload hx hb dC_draftEntry_17 (lv_at hl 0 rfl) ?_
    refine lv_if_eq (tgt := 52) hx hb dC_draftEntry_19 (by decide) (fun c17 => ?_) (fun c17 => ?_)
    · exact absurd c17 (by decide)
    refine lv_aload_n hx hb dC_draftEntry_22 rfl (lv_at hl 4 rfl) ?_
    refine lv_aload_n hx hb dC_draftEntry_23 rfl (lv_at hl 4 rfl) ?_
    refine lv_aload_n hx hb dC_draftEntry_24 rfl (lv_at hl 1 rfl) ?_
    refine fw_get (X := X) (v := .ref (X.2.2 (14, k, 0))) hx hb hts hin_C hown hK hW (10, k, 0) (cve10 hk) rfl rfl 1 (by decide) (htb _ m_85 rfl) (fun _ h => h) rfl rfl dC_draftEntry_25 ?_
    refine lv_iconst (v := 1) hx hb dC_draftEntry_28 (by decide) ?_
    refine fw_iald (X := X) hx hb hK hW (14, k, 0) (cvs14 (cve10 hk)) rfl 0 rfl 1 (by decide) (by unfold vp_in; decide) dC_draftEntry_29 ?_
    refine lv_aload_n hx hb dC_draftEntry_30 rfl (lv_at hl 1 rfl) ?_
    refine fw_get (X := X) (v := .ref (X.2.2 (14, k, 0))) hx hb hts hin_C hown hK hW (10, k, 0) (cve10 hk) rfl rfl 1 (by decide) (htb _ m_85 rfl) (fun _ h => h) rfl rfl dC_draftEntry_31 ?_
    refine lv_iconst (v := 2) hx hb dC_draftEntry_34 (by decide) ?_
    refine fw_iald (X := X) hx hb hK hW (14, k, 0) (cvs14 (cve10 hk)) rfl 0 rfl 2 (by decide) (by unfold vp_in; decide) dC_draftEntry_35 ?_
    refine fw_kp (va_runV (As := [.int (σ (14, k, 0) 1), .int (σ (14, k, 0) 2)]) (rest := [.ref (X.2.2 (1, 0, 0))]) ⟨hx, hb, hml, hown, hts⟩ (c_fullPrice l X hI σ (σ (14, k, 0) 1) (σ (14, k, 0) 2) ) (cwV 2 hts (tb_V m_269 m_266 m_267 m_268 m_26) rfl rfl rfl (by decide +kernel) ⟨Nat.le_of_ble_eq_true rfl, Nat.le_of_ble_eq_true rfl⟩) (fw_preV (X := X) hK hnb hW (1, 0, 0) cv1 rfl rfl [.int (σ (14, k, 0) 1), .int (σ (14, k, 0) 2)]) rfl rfl hl.1 rfl (lv_room (Nat.le_of_ble_eq_true rfl)) dC_draftEntry_36 ⟨Nat.zero_le _, Nat.zero_le _⟩) hS (fun H locs hW hS => ?_)
    refine lv_aload_n hx hb dC_draftEntry_39 rfl (lv_at hl 1 rfl) ?_
    refine fw_get (X := X) (v := .ref (X.2.2 (14, k, 0))) hx hb hts hin_C hown hK hW (10, k, 0) (cve10 hk) rfl rfl 1 (by decide) (htb _ m_85 rfl) (fun _ h => h) rfl rfl dC_draftEntry_40 ?_
    refine lv_bipush (v := 6) hx hb dC_draftEntry_43 (by decide) ?_
    refine fw_iald (X := X) hx hb hK hW (14, k, 0) (cvs14 (cve10 hk)) rfl 0 rfl 6 (by decide) (by unfold vp_in; decide) dC_draftEntry_45 ?_
    refine fw_kp (va_runV (As := [.int (cs_fullPrice σ (σ (14, k, 0) 1) (σ (14, k, 0) 2)), .int (σ (14, k, 0) 6)]) (rest := []) ⟨hx, hb, hml, hown, hts⟩ (c_capped l X hI σ (cs_fullPrice σ (σ (14, k, 0) 1) (σ (14, k, 0) 2)) (σ (14, k, 0) 6) ) (cwV 2 hts (tb_V m_276 m_273 m_274 m_275 m_26) rfl rfl rfl (by decide +kernel) ⟨Nat.le_of_ble_eq_true rfl, Nat.le_of_ble_eq_true rfl⟩) (fw_preV (X := X) hK hnb hW (1, 0, 0) cv1 rfl rfl [.int (cs_fullPrice σ (σ (14, k, 0) 1) (σ (14, k, 0) 2)), .int (σ (14, k, 0) 6)]) rfl rfl hl.1 rfl (lv_room (Nat.le_of_ble_eq_true rfl)) dC_draftEntry_46 ⟨Nat.zero_le _, Nat.zero_le _⟩) hS (fun H locs hW hS => ?_)
    refine lv_goto (tgt := 53) hx hb dC_draftEntry_49 (by decide) ?_
    refine lv_topi (fun z18 e19 => ?_)
    try rw [← e19] at he
    unfold cs_draftEntry_s7 at he
    refine lv_istore (lv' := [(5, .int z18), (4, .int 1), (0, .ref (X.2.2 (10, k, 0))), (1, .int a1), (2, .int a2), (3, .ref (X.2.2 (1, 0, 0)))]) hx hb dC_draftEntry_53 hl (by decide) rfl (fun ls hl => ?_)
    refine lv_iload hx hb dC_draftEntry_55 (lv_at hl 1 rfl) ?_
    refine lv_if_ne (tgt := 73) hx hb dC_draftEntry_57 (by decide) (fun c20 => ?_) (fun c20 => ?_)
    rotate_left
    · exact absurd c20 (by decide)
    refine lv_aload_n hx hb dC_draftEntry_73 rfl (lv_at hl 2 rfl) ?_
    refine fw_get (X := X) (v := .ref (X.2.2 (14, k, 0))) hx hb hts hin_C hown hK hW (10, k, 0) (cve10 hk) rfl rfl 1 (by decide) (htb _ m_85 rfl) (fun _ h => h) rfl rfl dC_draftEntry_74 ?_
    refine lv_iconst (v := 3) hx hb dC_draftEntry_77 (by decide) ?_
    refine lv_iload_n hx hb dC_draftEntry_78 rfl (lv_at hl 3 rfl) ?_
    refine fw_iast (X := X) hx hb hK hW hI hA hS (14, k, 0) (cvs14 (cve10 hk)) rfl 0 rfl 3 (by decide) (by unfold vp_in; decide) dC_draftEntry_79 (fun H locs hW hS => ?_)
    obtain ⟨σ21, e22⟩ : ∃ z : fw_S, z = fw_st σ (14, k, 0) 3 a1 := ⟨_, rfl⟩
    rw [← e22] at hW
    try rw [← e22] at he
    unfold cs_draftEntry_s8 at he
    refine lv_aload_n hx hb dC_draftEntry_80 rfl (lv_at hl 2 rfl) ?_
    refine fw_get (X := X) (v := .ref (X.2.2 (14, k, 0))) hx hb hts hin_C hown hK hW (10, k, 0) (cve10 hk) rfl rfl 1 (by decide) (htb _ m_85 rfl) (fun _ h => h) rfl rfl dC_draftEntry_81 ?_
    refine lv_iconst (v := 4) hx hb dC_draftEntry_84 (by decide) ?_
    refine lv_iconst (v := 0) hx hb dC_draftEntry_85 (by decide) ?_
    refine fw_iast (X := X) hx hb hK hW hI hA hS (14, k, 0) (cvs14 (cve10 hk)) rfl 0 rfl 4 (by decide) (by unfold vp_in; decide) dC_draftEntry_86 (fun H locs hW hS => ?_)
    obtain ⟨σ23, e24⟩ : ∃ z : fw_S, z = fw_st σ21 (14, k, 0) 4 0 := ⟨_, rfl⟩
    rw [← e24] at hW
    try rw [← e24] at he
    unfold cs_draftEntry_s9 at he
    refine lv_aload_n hx hb dC_draftEntry_87 rfl (lv_at hl 2 rfl) ?_
    refine fw_get (X := X) (v := .ref (X.2.2 (14, k, 0))) hx hb hts hin_C hown hK hW (10, k, 0) (cve10 hk) rfl rfl 1 (by decide) (htb _ m_85 rfl) (fun _ h => h) rfl rfl dC_draftEntry_88 ?_
    refine lv_iconst (v := 1) hx hb dC_draftEntry_91 (by decide) ?_
    refine lv_iload_n hx hb dC_draftEntry_92 rfl (lv_at hl 3 rfl) ?_
    refine fw_iast (X := X) hx hb hK hW hI hA hS (14, k, 0) (cvs14 (cve10 hk)) rfl 0 rfl 1 (by decide) (by unfold vp_in; decide) dC_draftEntry_93 (fun H locs hW hS => ?_)
    obtain ⟨σ25, e26⟩ : ∃ z : fw_S, z = fw_st σ23 (14, k, 0) 1 a1 := ⟨_, rfl⟩
    rw [← e26] at hW
    try rw [← e26] at he
    unfold cs_draftEntry_s10 at he
    refine lv_aload_n hx hb dC_draftEntry_94 rfl (lv_at hl 2 rfl) ?_
    refine fw_get (X := X) (v := .ref (X.2.2 (14, k, 0))) hx hb hts hin_C hown hK hW (10, k, 0) (cve10 hk) rfl rfl 1 (by decide) (htb _ m_85 rfl) (fun _ h => h) rfl rfl dC_draftEntry_95 ?_
    refine lv_iconst (v := 2) hx hb dC_draftEntry_98 (by decide) ?_
    refine lv_iload_n hx hb dC_draftEntry_99 rfl (lv_at hl 4 rfl) ?_
    refine fw_iast (X := X) hx hb hK hW hI hA hS (14, k, 0) (cvs14 (cve10 hk)) rfl 0 rfl 2 (by decide) (by unfold vp_in; decide) dC_draftEntry_100 (fun H locs hW hS => ?_)
    obtain ⟨σ27, e28⟩ : ∃ z : fw_S, z = fw_st σ25 (14, k, 0) 2 a2 := ⟨_, rfl⟩
    rw [← e28] at hW
    try rw [← e28] at he
    unfold cs_draftEntry_s11 at he
    refine lv_iload hx hb dC_draftEntry_101 (lv_at hl 0 rfl) ?_
    exact fw_iret hx hb hr hlocks hK hnb hW hS he dC_draftEntry_103
def cs_draftExit_s5 (z5 : Int32) (σ13 : fw_S) : Int32 × fw_S :=
  (z5, σ13)
def cs_draftExit_s4 (k : Nat) (z5 : Int32) (σ11 : fw_S) : Int32 × fw_S :=
  cs_draftExit_s5 z5 (fw_st σ11 (14, k, 0) 1 (-1))
def cs_draftExit_s3 (k : Nat) (z5 : Int32) (σ8 : fw_S) : Int32 × fw_S :=
  cs_draftExit_s4 k z5 (fw_st σ8 (14, k, 0) 5 (-1000))
def cs_draftExit_s2 (k : Nat) (σ : fw_S) (z5 : Int32) : Int32 × fw_S :=
  cs_draftExit_s3 k z5 (fw_st σ (14, k, 0) 4 0)
def cs_draftExit_s1 (k : Nat) (σ : fw_S) (z3 : Int32) : Int32 × fw_S :=
  cs_draftExit_s2 k σ (cs_capped σ z3 (σ (14, k, 0) 6))
def cs_draftExit_s10 (z19 : Int32) (σ27 : fw_S) : Int32 × fw_S :=
  (z19, σ27)
def cs_draftExit_s9 (k : Nat) (z19 : Int32) (σ25 : fw_S) : Int32 × fw_S :=
  cs_draftExit_s10 z19 (fw_st σ25 (14, k, 0) 1 (-1))
def cs_draftExit_s8 (k : Nat) (z19 : Int32) (σ22 : fw_S) : Int32 × fw_S :=
  cs_draftExit_s9 k z19 (fw_st σ22 (14, k, 0) 5 (-1000))
def cs_draftExit_s7 (k : Nat) (σ : fw_S) (z19 : Int32) : Int32 × fw_S :=
  cs_draftExit_s8 k z19 (fw_st σ (14, k, 0) 4 0)
def cs_draftExit_s6 (k : Nat) (σ : fw_S) (z17 : Int32) : Int32 × fw_S :=
  cs_draftExit_s7 k σ (cs_capped σ z17 (σ (14, k, 0) 6))
def cs_draftExit_s15 (z32 : Int32) (σ40 : fw_S) : Int32 × fw_S :=
  (z32, σ40)
def cs_draftExit_s14 (k : Nat) (z32 : Int32) (σ38 : fw_S) : Int32 × fw_S :=
  cs_draftExit_s15 z32 (fw_st σ38 (14, k, 0) 1 (-1))
def cs_draftExit_s13 (k : Nat) (a2 : Int32) (z32 : Int32) (σ35 : fw_S) : Int32 × fw_S :=
  cs_draftExit_s14 k z32 (fw_st σ35 (14, k, 0) 5 a2)
def cs_draftExit_s12 (k : Nat) (a2 : Int32) (σ : fw_S) (z32 : Int32) : Int32 × fw_S :=
  cs_draftExit_s13 k a2 z32 (fw_st σ (14, k, 0) 4 ((σ (14, k, 0) 4) + z32))
def cs_draftExit_s11 (k : Nat) (a2 : Int32) (σ : fw_S) (z30 : Int32) : Int32 × fw_S :=
  cs_draftExit_s12 k a2 σ (cs_capped σ z30 (σ (14, k, 0) 6))
def cs_draftExit (σ : fw_S) (k : Nat) (a1 : Int32) (a2 : Int32) : Int32 × fw_S :=
  if (σ (14, k, 0) 1) = (-1) then cs_draftExit_s1 k σ (cs_priceOutOfTime σ k a1 a2) else if ((σ (14, k, 0) 2) + 180) < a2 then cs_draftExit_s6 k σ (cs_priceOutOfTime σ k a1 a2) else cs_draftExit_s11 k a2 σ ((cs_priceBetween σ (σ (14, k, 0) 3) a1 (σ (14, k, 0) 2)) - (σ (14, k, 0) 4))
set_option maxHeartbeats 4000000 in
set_option maxRecDepth 100000 in
theorem c_draftExit (l : Launch) (X : fw_X) (hI : fw_I cV X) (σ : fw_S) (k : Nat) (hk : k < 4) (a1 a2 : Int32)  : fw_Mi fw_cl csh cV fw_tys l yC_draftExit wC_draftExit (fw_rm 3) X σ [.ref (X.2.2 (10, k, 0)), .int a1, .int a2, .ref (X.2.2 (1, 0, 0))] (cs_draftExit σ k a1 a2) := by
  obtain ⟨out, he⟩ : ∃ z : Int32 × fw_S, z = cs_draftExit σ k a1 a2 := ⟨_, rfl⟩
  rw [← he]
  refine fw_Mi_of (cc := bC_draftExit) (maxL := 7) (ret := (some .int)) (by decide) rfl (Nat.le_of_ble_eq_true rfl) ?_
  intro p e s m below meth c ls hx hb hr hml hlocks hown hts hK hnb hW hl
  have hS : va_S (fw_A cV X) s.heap s.heap [] := va_S.rf
  have hA : ∀ t, cV t → fw_A cV X (X.2.2 t) := fun t h => ⟨t, h, rfl⟩
  have htb := tb_use hts
  have hl : lv_has ls 7 [(0, .ref (X.2.2 (10, k, 0))), (1, .int a1), (2, .int a2), (3, .ref (X.2.2 (1, 0, 0)))] := hl
  have hown : s.vm.findClass "TapOffice$Card" = some m.cls := hown
  unfold cs_draftExit at he
  refine lv_aload_n hx hb dC_draftExit_0 rfl (lv_at hl 0 rfl) ?_
  refine fw_get (X := X) (v := .ref (X.2.2 (14, k, 0))) hx hb hts hin_C hown hK hW (10, k, 0) (cve10 hk) rfl rfl 1 (by decide) (htb _ m_85 rfl) (fun _ h => h) rfl rfl dC_draftExit_1 ?_
  refine lv_iconst (v := 1) hx hb dC_draftExit_4 (by decide) ?_
  refine fw_iald (X := X) hx hb hK hW (14, k, 0) (cvs14 (cve10 hk)) rfl 0 rfl 1 (by decide) (by unfold vp_in; decide) dC_draftExit_5 ?_
  refine lv_iconst (v := (-1)) hx hb dC_draftExit_6 (by decide) ?_
  refine lv_icmp_eq (tgt := 28) hx hb dC_draftExit_7 (by decide) (fun c1 => ?_) (fun c1 => ?_)
  · rw [if_pos c1] at he
    refine lv_iconst (v := 0) hx hb dC_draftExit_28 (by decide) ?_
    refine lv_istore (lv' := [(4, .int 0), (0, .ref (X.2.2 (10, k, 0))), (1, .int a1), (2, .int a2), (3, .ref (X.2.2 (1, 0, 0)))]) hx hb dC_draftExit_29 hl (by decide) rfl (fun ls hl => ?_)
    refine lv_iload hx hb dC_draftExit_31 (lv_at hl 0 rfl) ?_
    refine lv_if_eq (tgt := 63) hx hb dC_draftExit_33 (by decide) (fun c2 => ?_) (fun c2 => ?_)
    rotate_left
    · exact absurd c2 (by decide)
    refine lv_aload_n hx hb dC_draftExit_63 rfl (lv_at hl 1 rfl) ?_
    refine lv_iload_n hx hb dC_draftExit_64 rfl (lv_at hl 2 rfl) ?_
    refine lv_iload_n hx hb dC_draftExit_65 rfl (lv_at hl 3 rfl) ?_
    refine lv_aload_n hx hb dC_draftExit_66 rfl (lv_at hl 4 rfl) ?_
    refine fw_kp (va_runV (As := [.int a1, .int a2, .ref (X.2.2 (1, 0, 0))]) (rest := []) ⟨hx, hb, hml, hown, hts⟩ (c_priceOutOfTime l X hI σ k ((cve10 hk)).1 a1 a2 ) (cwV 3 hts (tb_V m_265 m_262 m_264 m_4 m_27) rfl rfl rfl (by decide +kernel) ⟨Nat.le_of_ble_eq_true rfl, Nat.le_of_ble_eq_true rfl⟩) (fw_preV (X := X) hK hnb hW (10, k, 0) (cve10 hk) rfl rfl [.int a1, .int a2, .ref (X.2.2 (1, 0, 0))]) rfl rfl hl.1 rfl (lv_room (Nat.le_of_ble_eq_true rfl)) dC_draftExit_67 ⟨Nat.zero_le _, Nat.zero_le _⟩) hS (fun H locs hW hS => ?_)
    refine lv_topi (fun z3 e4 => ?_)
    try rw [← e4] at he
    unfold cs_draftExit_s1 at he
    refine lv_istore (lv' := [(5, .int z3), (4, .int 0), (0, .ref (X.2.2 (10, k, 0))), (1, .int a1), (2, .int a2), (3, .ref (X.2.2 (1, 0, 0)))]) hx hb dC_draftExit_70 hl (by decide) rfl (fun ls hl => ?_)
    refine lv_aload_n hx hb dC_draftExit_72 rfl (lv_at hl 5 rfl) ?_
    refine lv_iload hx hb dC_draftExit_73 (lv_at hl 0 rfl) ?_
    refine lv_aload_n hx hb dC_draftExit_75 rfl (lv_at hl 2 rfl) ?_
    refine fw_get (X := X) (v := .ref (X.2.2 (14, k, 0))) hx hb hts hin_C hown hK hW (10, k, 0) (cve10 hk) rfl rfl 1 (by decide) (htb _ m_85 rfl) (fun _ h => h) rfl rfl dC_draftExit_76 ?_
    refine lv_bipush (v := 6) hx hb dC_draftExit_79 (by decide) ?_
    refine fw_iald (X := X) hx hb hK hW (14, k, 0) (cvs14 (cve10 hk)) rfl 0 rfl 6 (by decide) (by unfold vp_in; decide) dC_draftExit_81 ?_
    refine fw_kp (va_runV (As := [.int z3, .int (σ (14, k, 0) 6)]) (rest := []) ⟨hx, hb, hml, hown, hts⟩ (c_capped l X hI σ z3 (σ (14, k, 0) 6) ) (cwV 2 hts (tb_V m_276 m_273 m_274 m_275 m_26) rfl rfl rfl (by decide +kernel) ⟨Nat.le_of_ble_eq_true rfl, Nat.le_of_ble_eq_true rfl⟩) (fw_preV (X := X) hK hnb hW (1, 0, 0) cv1 rfl rfl [.int z3, .int (σ (14, k, 0) 6)]) rfl rfl hl.1 rfl (lv_room (Nat.le_of_ble_eq_true rfl)) dC_draftExit_82 ⟨Nat.zero_le _, Nat.zero_le _⟩) hS (fun H locs hW hS => ?_)
    refine lv_topi (fun z5 e6 => ?_)
    try rw [← e6] at he
    unfold cs_draftExit_s2 at he
    refine lv_istore (lv' := [(6, .int z5), (5, .int z3), (4, .int 0), (0, .ref (X.2.2 (10, k, 0))), (1, .int a1), (2, .int a2), (3, .ref (X.2.2 (1, 0, 0)))]) hx hb dC_draftExit_85 hl (by decide) rfl (fun ls hl => ?_)
    refine lv_aload_n hx hb dC_draftExit_87 rfl (lv_at hl 3 rfl) ?_
    refine fw_get (X := X) (v := .ref (X.2.2 (14, k, 0))) hx hb hts hin_C hown hK hW (10, k, 0) (cve10 hk) rfl rfl 1 (by decide) (htb _ m_85 rfl) (fun _ h => h) rfl rfl dC_draftExit_88 ?_
    refine lv_iconst (v := 4) hx hb dC_draftExit_91 (by decide) ?_
    refine lv_iload hx hb dC_draftExit_92 (lv_at hl 2 rfl) ?_
    refine lv_if_eq (tgt := 109) hx hb dC_draftExit_94 (by decide) (fun c7 => ?_) (fun c7 => ?_)
    rotate_left
    · exact absurd c7 (by decide)
    refine lv_iconst (v := 0) hx hb dC_draftExit_109 (by decide) ?_
    refine fw_iast (X := X) hx hb hK hW hI hA hS (14, k, 0) (cvs14 (cve10 hk)) rfl 0 rfl 4 (by decide) (by unfold vp_in; decide) dC_draftExit_110 (fun H locs hW hS => ?_)
    obtain ⟨σ8, e9⟩ : ∃ z : fw_S, z = fw_st σ (14, k, 0) 4 0 := ⟨_, rfl⟩
    rw [← e9] at hW
    try rw [← e9] at he
    unfold cs_draftExit_s3 at he
    refine lv_aload_n hx hb dC_draftExit_111 rfl (lv_at hl 3 rfl) ?_
    refine fw_get (X := X) (v := .ref (X.2.2 (14, k, 0))) hx hb hts hin_C hown hK hW (10, k, 0) (cve10 hk) rfl rfl 1 (by decide) (htb _ m_85 rfl) (fun _ h => h) rfl rfl dC_draftExit_112 ?_
    refine lv_iconst (v := 5) hx hb dC_draftExit_115 (by decide) ?_
    refine lv_iload hx hb dC_draftExit_116 (lv_at hl 2 rfl) ?_
    refine lv_if_eq (tgt := 125) hx hb dC_draftExit_118 (by decide) (fun c10 => ?_) (fun c10 => ?_)
    rotate_left
    · exact absurd c10 (by decide)
    refine lv_sipush (v := (-1000)) hx hb dC_draftExit_125 (by decide) ?_
    refine fw_iast (X := X) hx hb hK hW hI hA hS (14, k, 0) (cvs14 (cve10 hk)) rfl 0 rfl 5 (by decide) (by unfold vp_in; decide) dC_draftExit_128 (fun H locs hW hS => ?_)
    obtain ⟨σ11, e12⟩ : ∃ z : fw_S, z = fw_st σ8 (14, k, 0) 5 (-1000) := ⟨_, rfl⟩
    rw [← e12] at hW
    try rw [← e12] at he
    unfold cs_draftExit_s4 at he
    refine lv_aload_n hx hb dC_draftExit_129 rfl (lv_at hl 3 rfl) ?_
    refine fw_get (X := X) (v := .ref (X.2.2 (14, k, 0))) hx hb hts hin_C hown hK hW (10, k, 0) (cve10 hk) rfl rfl 1 (by decide) (htb _ m_85 rfl) (fun _ h => h) rfl rfl dC_draftExit_130 ?_
    refine lv_iconst (v := 1) hx hb dC_draftExit_133 (by decide) ?_
    refine lv_iconst (v := (-1)) hx hb dC_draftExit_134 (by decide) ?_
    refine fw_iast (X := X) hx hb hK hW hI hA hS (14, k, 0) (cvs14 (cve10 hk)) rfl 0 rfl 1 (by decide) (by unfold vp_in; decide) dC_draftExit_135 (fun H locs hW hS => ?_)
    obtain ⟨σ13, e14⟩ : ∃ z : fw_S, z = fw_st σ11 (14, k, 0) 1 (-1) := ⟨_, rfl⟩
    rw [← e14] at hW
    try rw [← e14] at he
    unfold cs_draftExit_s5 at he
    refine lv_iload hx hb dC_draftExit_136 (lv_at hl 0 rfl) ?_
    exact fw_iret hx hb hr hlocks hK hnb hW hS he dC_draftExit_138
  · rw [if_neg c1] at he
    refine lv_iload_n hx hb dC_draftExit_10 rfl (lv_at hl 2 rfl) ?_
    refine lv_aload_n hx hb dC_draftExit_11 rfl (lv_at hl 0 rfl) ?_
    refine fw_get (X := X) (v := .ref (X.2.2 (14, k, 0))) hx hb hts hin_C hown hK hW (10, k, 0) (cve10 hk) rfl rfl 1 (by decide) (htb _ m_85 rfl) (fun _ h => h) rfl rfl dC_draftExit_12 ?_
    refine lv_iconst (v := 2) hx hb dC_draftExit_15 (by decide) ?_
    refine fw_iald (X := X) hx hb hK hW (14, k, 0) (cvs14 (cve10 hk)) rfl 0 rfl 2 (by decide) (by unfold vp_in; decide) dC_draftExit_16 ?_
    refine lv_sipush (v := 180) hx hb dC_draftExit_17 (by decide) ?_
    refine lv_iadd hx hb dC_draftExit_20 ?_
    refine lv_icmp_gt (tgt := 28) hx hb dC_draftExit_21 (by decide) (fun c15 => ?_) (fun c15 => ?_)
    · rw [if_pos c15] at he
      refine lv_iconst (v := 0) hx hb dC_draftExit_28 (by decide) ?_
      refine lv_istore (lv' := [(4, .int 0), (0, .ref (X.2.2 (10, k, 0))), (1, .int a1), (2, .int a2), (3, .ref (X.2.2 (1, 0, 0)))]) hx hb dC_draftExit_29 hl (by decide) rfl (fun ls hl => ?_)
      refine lv_iload hx hb dC_draftExit_31 (lv_at hl 0 rfl) ?_
      refine lv_if_eq (tgt := 63) hx hb dC_draftExit_33 (by decide) (fun c16 => ?_) (fun c16 => ?_)
      rotate_left
      · exact absurd c16 (by decide)
      refine lv_aload_n hx hb dC_draftExit_63 rfl (lv_at hl 1 rfl) ?_
      refine lv_iload_n hx hb dC_draftExit_64 rfl (lv_at hl 2 rfl) ?_
      refine lv_iload_n hx hb dC_draftExit_65 rfl (lv_at hl 3 rfl) ?_
      refine lv_aload_n hx hb dC_draftExit_66 rfl (lv_at hl 4 rfl) ?_
      refine fw_kp (va_runV (As := [.int a1, .int a2, .ref (X.2.2 (1, 0, 0))]) (rest := []) ⟨hx, hb, hml, hown, hts⟩ (c_priceOutOfTime l X hI σ k ((cve10 hk)).1 a1 a2 ) (cwV 3 hts (tb_V m_265 m_262 m_264 m_4 m_27) rfl rfl rfl (by decide +kernel) ⟨Nat.le_of_ble_eq_true rfl, Nat.le_of_ble_eq_true rfl⟩) (fw_preV (X := X) hK hnb hW (10, k, 0) (cve10 hk) rfl rfl [.int a1, .int a2, .ref (X.2.2 (1, 0, 0))]) rfl rfl hl.1 rfl (lv_room (Nat.le_of_ble_eq_true rfl)) dC_draftExit_67 ⟨Nat.zero_le _, Nat.zero_le _⟩) hS (fun H locs hW hS => ?_)
      refine lv_topi (fun z17 e18 => ?_)
      try rw [← e18] at he
      unfold cs_draftExit_s6 at he
      refine lv_istore (lv' := [(5, .int z17), (4, .int 0), (0, .ref (X.2.2 (10, k, 0))), (1, .int a1), (2, .int a2), (3, .ref (X.2.2 (1, 0, 0)))]) hx hb dC_draftExit_70 hl (by decide) rfl (fun ls hl => ?_)
      refine lv_aload_n hx hb dC_draftExit_72 rfl (lv_at hl 5 rfl) ?_
      refine lv_iload hx hb dC_draftExit_73 (lv_at hl 0 rfl) ?_
      refine lv_aload_n hx hb dC_draftExit_75 rfl (lv_at hl 2 rfl) ?_
      refine fw_get (X := X) (v := .ref (X.2.2 (14, k, 0))) hx hb hts hin_C hown hK hW (10, k, 0) (cve10 hk) rfl rfl 1 (by decide) (htb _ m_85 rfl) (fun _ h => h) rfl rfl dC_draftExit_76 ?_
      refine lv_bipush (v := 6) hx hb dC_draftExit_79 (by decide) ?_
      refine fw_iald (X := X) hx hb hK hW (14, k, 0) (cvs14 (cve10 hk)) rfl 0 rfl 6 (by decide) (by unfold vp_in; decide) dC_draftExit_81 ?_
      refine fw_kp (va_runV (As := [.int z17, .int (σ (14, k, 0) 6)]) (rest := []) ⟨hx, hb, hml, hown, hts⟩ (c_capped l X hI σ z17 (σ (14, k, 0) 6) ) (cwV 2 hts (tb_V m_276 m_273 m_274 m_275 m_26) rfl rfl rfl (by decide +kernel) ⟨Nat.le_of_ble_eq_true rfl, Nat.le_of_ble_eq_true rfl⟩) (fw_preV (X := X) hK hnb hW (1, 0, 0) cv1 rfl rfl [.int z17, .int (σ (14, k, 0) 6)]) rfl rfl hl.1 rfl (lv_room (Nat.le_of_ble_eq_true rfl)) dC_draftExit_82 ⟨Nat.zero_le _, Nat.zero_le _⟩) hS (fun H locs hW hS => ?_)
      refine lv_topi (fun z19 e20 => ?_)
      try rw [← e20] at he
      unfold cs_draftExit_s7 at he
      refine lv_istore (lv' := [(6, .int z19), (5, .int z17), (4, .int 0), (0, .ref (X.2.2 (10, k, 0))), (1, .int a1), (2, .int a2), (3, .ref (X.2.2 (1, 0, 0)))]) hx hb dC_draftExit_85 hl (by decide) rfl (fun ls hl => ?_)
      refine lv_aload_n hx hb dC_draftExit_87 rfl (lv_at hl 3 rfl) ?_
      refine fw_get (X := X) (v := .ref (X.2.2 (14, k, 0))) hx hb hts hin_C hown hK hW (10, k, 0) (cve10 hk) rfl rfl 1 (by decide) (htb _ m_85 rfl) (fun _ h => h) rfl rfl dC_draftExit_88 ?_
      refine lv_iconst (v := 4) hx hb dC_draftExit_91 (by decide) ?_
      refine lv_iload hx hb dC_draftExit_92 (lv_at hl 2 rfl) ?_
      refine lv_if_eq (tgt := 109) hx hb dC_draftExit_94 (by decide) (fun c21 => ?_) (fun c21 => ?_)
      rotate_left
      · exact absurd c21 (by decide)
      refine lv_iconst (v := 0) hx hb dC_draftExit_109 (by decide) ?_
      refine fw_iast (X := X) hx hb hK hW hI hA hS (14, k, 0) (cvs14 (cve10 hk)) rfl 0 rfl 4 (by decide) (by unfold vp_in; decide) dC_draftExit_110 (fun H locs hW hS => ?_)
      obtain ⟨σ22, e23⟩ : ∃ z : fw_S, z = fw_st σ (14, k, 0) 4 0 := ⟨_, rfl⟩
      rw [← e23] at hW
      try rw [← e23] at he
      unfold cs_draftExit_s8 at he
      refine lv_aload_n hx hb dC_draftExit_111 rfl (lv_at hl 3 rfl) ?_
      refine fw_get (X := X) (v := .ref (X.2.2 (14, k, 0))) hx hb hts hin_C hown hK hW (10, k, 0) (cve10 hk) rfl rfl 1 (by decide) (htb _ m_85 rfl) (fun _ h => h) rfl rfl dC_draftExit_112 ?_
      refine lv_iconst (v := 5) hx hb dC_draftExit_115 (by decide) ?_
      refine lv_iload hx hb dC_draftExit_116 (lv_at hl 2 rfl) ?_
      refine lv_if_eq (tgt := 125) hx hb dC_draftExit_118 (by decide) (fun c24 => ?_) (fun c24 => ?_)
      rotate_left
      · exact absurd c24 (by decide)
      refine lv_sipush (v := (-1000)) hx hb dC_draftExit_125 (by decide) ?_
      refine fw_iast (X := X) hx hb hK hW hI hA hS (14, k, 0) (cvs14 (cve10 hk)) rfl 0 rfl 5 (by decide) (by unfold vp_in; decide) dC_draftExit_128 (fun H locs hW hS => ?_)
      obtain ⟨σ25, e26⟩ : ∃ z : fw_S, z = fw_st σ22 (14, k, 0) 5 (-1000) := ⟨_, rfl⟩
      rw [← e26] at hW
      try rw [← e26] at he
      unfold cs_draftExit_s9 at he
      refine lv_aload_n hx hb dC_draftExit_129 rfl (lv_at hl 3 rfl) ?_
      refine fw_get (X := X) (v := .ref (X.2.2 (14, k, 0))) hx hb hts hin_C hown hK hW (10, k, 0) (cve10 hk) rfl rfl 1 (by decide) (htb _ m_85 rfl) (fun _ h => h) rfl rfl dC_draftExit_130 ?_
      refine lv_iconst (v := 1) hx hb dC_draftExit_133 (by decide) ?_
      refine lv_iconst (v := (-1)) hx hb dC_draftExit_134 (by decide) ?_
      refine fw_iast (X := X) hx hb hK hW hI hA hS (14, k, 0) (cvs14 (cve10 hk)) rfl 0 rfl 1 (by decide) (by unfold vp_in; decide) dC_draftExit_135 (fun H locs hW hS => ?_)
      obtain ⟨σ27, e28⟩ : ∃ z : fw_S, z = fw_st σ25 (14, k, 0) 1 (-1) := ⟨_, rfl⟩
      rw [← e28] at hW
      try rw [← e28] at he
      unfold cs_draftExit_s10 at he
      refine lv_iload hx hb dC_draftExit_136 (lv_at hl 0 rfl) ?_
      exact fw_iret hx hb hr hlocks hK hnb hW hS he dC_draftExit_138
    · rw [if_neg c15] at he
      refine lv_iconst (v := 1) hx hb dC_draftExit_24 (by decide) ?_
      refine lv_goto (tgt := 29) hx hb dC_draftExit_25 (by decide) ?_
      refine lv_istore (lv' := [(4, .int 1), (0, .ref (X.2.2 (10, k, 0))), (1, .int a1), (2, .int a2), (3, .ref (X.2.2 (1, 0, 0)))]) hx hb dC_draftExit_29 hl (by decide) rfl (fun ls hl => ?_)
      refine lv_iload hx hb dC_draftExit_31 (lv_at hl 0 rfl) ?_
      refine lv_if_eq (tgt := 63) hx hb dC_draftExit_33 (by decide) (fun c29 => ?_) (fun c29 => ?_)
      · exact absurd c29 (by decide)
      refine lv_aload_n hx hb dC_draftExit_36 rfl (lv_at hl 4 rfl) ?_
      refine lv_aload_n hx hb dC_draftExit_37 rfl (lv_at hl 1 rfl) ?_
      refine fw_get (X := X) (v := .ref (X.2.2 (14, k, 0))) hx hb hts hin_C hown hK hW (10, k, 0) (cve10 hk) rfl rfl 1 (by decide) (htb _ m_85 rfl) (fun _ h => h) rfl rfl dC_draftExit_38 ?_
      refine lv_iconst (v := 3) hx hb dC_draftExit_41 (by decide) ?_
      refine fw_iald (X := X) hx hb hK hW (14, k, 0) (cvs14 (cve10 hk)) rfl 0 rfl 3 (by decide) (by unfold vp_in; decide) dC_draftExit_42 ?_
      refine lv_iload_n hx hb dC_draftExit_43 rfl (lv_at hl 2 rfl) ?_
      refine lv_aload_n hx hb dC_draftExit_44 rfl (lv_at hl 1 rfl) ?_
      refine fw_get (X := X) (v := .ref (X.2.2 (14, k, 0))) hx hb hts hin_C hown hK hW (10, k, 0) (cve10 hk) rfl rfl 1 (by decide) (htb _ m_85 rfl) (fun _ h => h) rfl rfl dC_draftExit_45 ?_
      refine lv_iconst (v := 2) hx hb dC_draftExit_48 (by decide) ?_
      refine fw_iald (X := X) hx hb hK hW (14, k, 0) (cvs14 (cve10 hk)) rfl 0 rfl 2 (by decide) (by unfold vp_in; decide) dC_draftExit_49 ?_
      refine fw_kp (va_runV (As := [.int (σ (14, k, 0) 3), .int a1, .int (σ (14, k, 0) 2)]) (rest := []) ⟨hx, hb, hml, hown, hts⟩ (c_priceBetween l X hI σ (σ (14, k, 0) 3) a1 (σ (14, k, 0) 2) ) (cwV 3 hts (tb_V m_256 m_253 m_254 m_255 m_26) rfl rfl rfl (by decide +kernel) ⟨Nat.le_of_ble_eq_true rfl, Nat.le_of_ble_eq_true rfl⟩) (fw_preV (X := X) hK hnb hW (1, 0, 0) cv1 rfl rfl [.int (σ (14, k, 0) 3), .int a1, .int (σ (14, k, 0) 2)]) rfl rfl hl.1 rfl (lv_room (Nat.le_of_ble_eq_true rfl)) dC_draftExit_50 ⟨Nat.zero_le _, Nat.zero_le _⟩) hS (fun H locs hW hS => ?_)
      refine lv_aload_n hx hb dC_draftExit_53 rfl (lv_at hl 1 rfl) ?_
      refine fw_get (X := X) (v := .ref (X.2.2 (14, k, 0))) hx hb hts hin_C hown hK hW (10, k, 0) (cve10 hk) rfl rfl 1 (by decide) (htb _ m_85 rfl) (fun _ h => h) rfl rfl dC_draftExit_54 ?_
      refine lv_iconst (v := 4) hx hb dC_draftExit_57 (by decide) ?_
      refine fw_iald (X := X) hx hb hK hW (14, k, 0) (cvs14 (cve10 hk)) rfl 0 rfl 4 (by decide) (by unfold vp_in; decide) dC_draftExit_58 ?_
      refine lv_isub hx hb dC_draftExit_59 ?_
      refine lv_goto (tgt := 70) hx hb dC_draftExit_60 (by decide) ?_
      refine lv_topi (fun z30 e31 => ?_)
      try rw [← e31] at he
      unfold cs_draftExit_s11 at he
      refine lv_istore (lv' := [(5, .int z30), (4, .int 1), (0, .ref (X.2.2 (10, k, 0))), (1, .int a1), (2, .int a2), (3, .ref (X.2.2 (1, 0, 0)))]) hx hb dC_draftExit_70 hl (by decide) rfl (fun ls hl => ?_)
      refine lv_aload_n hx hb dC_draftExit_72 rfl (lv_at hl 5 rfl) ?_
      refine lv_iload hx hb dC_draftExit_73 (lv_at hl 0 rfl) ?_
      refine lv_aload_n hx hb dC_draftExit_75 rfl (lv_at hl 2 rfl) ?_
      refine fw_get (X := X) (v := .ref (X.2.2 (14, k, 0))) hx hb hts hin_C hown hK hW (10, k, 0) (cve10 hk) rfl rfl 1 (by decide) (htb _ m_85 rfl) (fun _ h => h) rfl rfl dC_draftExit_76 ?_
      refine lv_bipush (v := 6) hx hb dC_draftExit_79 (by decide) ?_
      refine fw_iald (X := X) hx hb hK hW (14, k, 0) (cvs14 (cve10 hk)) rfl 0 rfl 6 (by decide) (by unfold vp_in; decide) dC_draftExit_81 ?_
      refine fw_kp (va_runV (As := [.int z30, .int (σ (14, k, 0) 6)]) (rest := []) ⟨hx, hb, hml, hown, hts⟩ (c_capped l X hI σ z30 (σ (14, k, 0) 6) ) (cwV 2 hts (tb_V m_276 m_273 m_274 m_275 m_26) rfl rfl rfl (by decide +kernel) ⟨Nat.le_of_ble_eq_true rfl, Nat.le_of_ble_eq_true rfl⟩) (fw_preV (X := X) hK hnb hW (1, 0, 0) cv1 rfl rfl [.int z30, .int (σ (14, k, 0) 6)]) rfl rfl hl.1 rfl (lv_room (Nat.le_of_ble_eq_true rfl)) dC_draftExit_82 ⟨Nat.zero_le _, Nat.zero_le _⟩) hS (fun H locs hW hS => ?_)
      refine lv_topi (fun z32 e33 => ?_)
      try rw [← e33] at he
      unfold cs_draftExit_s12 at he
      refine lv_istore (lv' := [(6, .int z32), (5, .int z30), (4, .int 1), (0, .ref (X.2.2 (10, k, 0))), (1, .int a1), (2, .int a2), (3, .ref (X.2.2 (1, 0, 0)))]) hx hb dC_draftExit_85 hl (by decide) rfl (fun ls hl => ?_)
      refine lv_aload_n hx hb dC_draftExit_87 rfl (lv_at hl 3 rfl) ?_
      refine fw_get (X := X) (v := .ref (X.2.2 (14, k, 0))) hx hb hts hin_C hown hK hW (10, k, 0) (cve10 hk) rfl rfl 1 (by decide) (htb _ m_85 rfl) (fun _ h => h) rfl rfl dC_draftExit_88 ?_
      refine lv_iconst (v := 4) hx hb dC_draftExit_91 (by decide) ?_
      refine lv_iload hx hb dC_draftExit_92 (lv_at hl 2 rfl) ?_
      refine lv_if_eq (tgt := 109) hx hb dC_draftExit_94 (by decide) (fun c34 => ?_) (fun c34 => ?_)
      · exact absurd c34 (by decide)
      refine lv_aload_n hx hb dC_draftExit_97 rfl (lv_at hl 3 rfl) ?_
      refine fw_get (X := X) (v := .ref (X.2.2 (14, k, 0))) hx hb hts hin_C hown hK hW (10, k, 0) (cve10 hk) rfl rfl 1 (by decide) (htb _ m_85 rfl) (fun _ h => h) rfl rfl dC_draftExit_98 ?_
      refine lv_iconst (v := 4) hx hb dC_draftExit_101 (by decide) ?_
      refine fw_iald (X := X) hx hb hK hW (14, k, 0) (cvs14 (cve10 hk)) rfl 0 rfl 4 (by decide) (by unfold vp_in; decide) dC_draftExit_102 ?_
      refine lv_iload hx hb dC_draftExit_103 (lv_at hl 0 rfl) ?_
      refine lv_iadd hx hb dC_draftExit_105 ?_
      refine lv_goto (tgt := 110) hx hb dC_draftExit_106 (by decide) ?_
      refine fw_iast (X := X) hx hb hK hW hI hA hS (14, k, 0) (cvs14 (cve10 hk)) rfl 0 rfl 4 (by decide) (by unfold vp_in; decide) dC_draftExit_110 (fun H locs hW hS => ?_)
      obtain ⟨σ35, e36⟩ : ∃ z : fw_S, z = fw_st σ (14, k, 0) 4 ((σ (14, k, 0) 4) + z32) := ⟨_, rfl⟩
      rw [← e36] at hW
      try rw [← e36] at he
      unfold cs_draftExit_s13 at he
      refine lv_aload_n hx hb dC_draftExit_111 rfl (lv_at hl 3 rfl) ?_
      refine fw_get (X := X) (v := .ref (X.2.2 (14, k, 0))) hx hb hts hin_C hown hK hW (10, k, 0) (cve10 hk) rfl rfl 1 (by decide) (htb _ m_85 rfl) (fun _ h => h) rfl rfl dC_draftExit_112 ?_
      refine lv_iconst (v := 5) hx hb dC_draftExit_115 (by decide) ?_
      refine lv_iload hx hb dC_draftExit_116 (lv_at hl 2 rfl) ?_
      refine lv_if_eq (tgt := 125) hx hb dC_draftExit_118 (by decide) (fun c37 => ?_) (fun c37 => ?_)
      · exact absurd c37 (by decide)
      refine lv_iload_n hx hb dC_draftExit_121 rfl (lv_at hl 5 rfl) ?_
      refine lv_goto (tgt := 128) hx hb dC_draftExit_122 (by decide) ?_
      refine fw_iast (X := X) hx hb hK hW hI hA hS (14, k, 0) (cvs14 (cve10 hk)) rfl 0 rfl 5 (by decide) (by unfold vp_in; decide) dC_draftExit_128 (fun H locs hW hS => ?_)
      obtain ⟨σ38, e39⟩ : ∃ z : fw_S, z = fw_st σ35 (14, k, 0) 5 a2 := ⟨_, rfl⟩
      rw [← e39] at hW
      try rw [← e39] at he
      unfold cs_draftExit_s14 at he
      refine lv_aload_n hx hb dC_draftExit_129 rfl (lv_at hl 3 rfl) ?_
      refine fw_get (X := X) (v := .ref (X.2.2 (14, k, 0))) hx hb hts hin_C hown hK hW (10, k, 0) (cve10 hk) rfl rfl 1 (by decide) (htb _ m_85 rfl) (fun _ h => h) rfl rfl dC_draftExit_130 ?_
      refine lv_iconst (v := 1) hx hb dC_draftExit_133 (by decide) ?_
      refine lv_iconst (v := (-1)) hx hb dC_draftExit_134 (by decide) ?_
      refine fw_iast (X := X) hx hb hK hW hI hA hS (14, k, 0) (cvs14 (cve10 hk)) rfl 0 rfl 1 (by decide) (by unfold vp_in; decide) dC_draftExit_135 (fun H locs hW hS => ?_)
      obtain ⟨σ40, e41⟩ : ∃ z : fw_S, z = fw_st σ38 (14, k, 0) 1 (-1) := ⟨_, rfl⟩
      rw [← e41] at hW
      try rw [← e41] at he
      unfold cs_draftExit_s15 at he
      refine lv_iload hx hb dC_draftExit_136 (lv_at hl 0 rfl) ?_
      exact fw_iret hx hb hr hlocks hK hnb hW hS he dC_draftExit_138
theorem fr_draftEntry (σ : fw_S) (k : Nat) (a b : Int32) (u : fw_T) (h : u.1 ≠ 14) : (cs_draftEntry σ k a b).2 u = σ u := by
  simp only [cs_draftEntry, cs_draftEntry_s2, cs_draftEntry_s1, cs_draftEntry_s6, cs_draftEntry_s5, cs_draftEntry_s4, cs_draftEntry_s3, cs_draftEntry_s11, cs_draftEntry_s10, cs_draftEntry_s9, cs_draftEntry_s8, cs_draftEntry_s7]
  repeat' split
  all_goals simp only [fw_st_off (t := (14, k, 0)) h]
theorem fr_draftExit (σ : fw_S) (k : Nat) (a b : Int32) (u : fw_T) (h : u.1 ≠ 14) : (cs_draftExit σ k a b).2 u = σ u := by
  simp only [cs_draftExit, cs_draftExit_s5, cs_draftExit_s4, cs_draftExit_s3, cs_draftExit_s2, cs_draftExit_s1, cs_draftExit_s10, cs_draftExit_s9, cs_draftExit_s8, cs_draftExit_s7, cs_draftExit_s6, cs_draftExit_s15, cs_draftExit_s14, cs_draftExit_s13, cs_draftExit_s12, cs_draftExit_s11]
  repeat' split
  all_goals simp only [fw_st_off (t := (14, k, 0)) h]
def cs_draftTap_s4 (r4 : Int32) (σ9 : fw_S) : Int32 × fw_S :=
  (r4, σ9)
def cs_draftTap_s3 (k : Nat) (r4 : Int32) (σ7 : fw_S) : Int32 × fw_S :=
  cs_draftTap_s4 r4 (fw_st σ7 (14, k, 0) 6 ((σ7 (14, k, 0) 6) + r4))
def cs_draftTap_s2 (k : Nat) (r4 : Int32) (σ5 : fw_S) : Int32 × fw_S :=
  cs_draftTap_s3 k r4 (fw_st σ5 (14, k, 0) 0 ((σ5 (14, k, 0) 0) - r4))
def cs_draftTap_s7 (r11 : Int32) (σ16 : fw_S) : Int32 × fw_S :=
  (r11, σ16)
def cs_draftTap_s6 (k : Nat) (r11 : Int32) (σ14 : fw_S) : Int32 × fw_S :=
  cs_draftTap_s7 r11 (fw_st σ14 (14, k, 0) 6 ((σ14 (14, k, 0) 6) + r11))
def cs_draftTap_s5 (k : Nat) (r11 : Int32) (σ12 : fw_S) : Int32 × fw_S :=
  cs_draftTap_s6 k r11 (fw_st σ12 (14, k, 0) 0 ((σ12 (14, k, 0) 0) - r11))
def cs_draftTap_s1 (k : Nat) (v : Nat) (a2 : Int32) (σ1 : fw_S) : Int32 × fw_S :=
  if (cs_isExit σ1 v) = 0 then cs_draftTap_s2 k ((cs_draftEntry σ1 k (cs_zone σ1 v) a2).1) ((cs_draftEntry σ1 k (cs_zone σ1 v) a2).2) else cs_draftTap_s5 k ((cs_draftExit σ1 k (cs_zone σ1 v) a2).1) ((cs_draftExit σ1 k (cs_zone σ1 v) a2).2)
def cs_draftTap (σ : fw_S) (k : Nat) (v : Nat) (a2 : Int32) : Int32 × fw_S :=
  cs_draftTap_s1 k v a2 (cs_startDraft σ k a2)
set_option maxHeartbeats 4000000 in
set_option maxRecDepth 100000 in
theorem c_draftTap (l : Launch) (X : fw_X) (hI : fw_I cV X) (σ : fw_S) (k : Nat) (hk : k < 4) (v : Nat) (hv : v < 4) (a2 : Int32) (hz : σ (12, v, 0) 3 = 0 ∨ σ (12, v, 0) 3 = 1) : fw_Mi fw_cl csh cV fw_tys l yC_draftTap wC_draftTap (fw_rm 4) X σ [.ref (X.2.2 (10, k, 0)), .ref (X.2.2 (12, v, 0)), .int a2, .ref (X.2.2 (1, 0, 0))] (cs_draftTap σ k v a2) := by
  obtain ⟨out, he⟩ : ∃ z : Int32 × fw_S, z = cs_draftTap σ k v a2 := ⟨_, rfl⟩
  rw [← he]
  refine fw_Mi_of (cc := bC_draftTap) (maxL := 5) (ret := (some .int)) (by decide) rfl (Nat.le_of_ble_eq_true rfl) ?_
  intro p e s m below meth c ls hx hb hr hml hlocks hown hts hK hnb hW hl
  have hS : va_S (fw_A cV X) s.heap s.heap [] := va_S.rf
  have hA : ∀ t, cV t → fw_A cV X (X.2.2 t) := fun t h => ⟨t, h, rfl⟩
  have htb := tb_use hts
  have hl : lv_has ls 5 [(0, .ref (X.2.2 (10, k, 0))), (1, .ref (X.2.2 (12, v, 0))), (2, .int a2), (3, .ref (X.2.2 (1, 0, 0)))] := hl
  have hown : s.vm.findClass "TapOffice$Card" = some m.cls := hown
  unfold cs_draftTap at he
  refine lv_aload_n hx hb dC_draftTap_0 rfl (lv_at hl 0 rfl) ?_
  refine lv_iload_n hx hb dC_draftTap_1 rfl (lv_at hl 2 rfl) ?_
  refine fw_kv (va_runV (As := [.int a2]) (rest := []) ⟨hx, hb, hml, hown, hts⟩ (c_startDraft l X hI σ k ((cve10 hk)).1 a2 ) (cwV 1 hts (tb_V m_234 m_231 m_233 m_1 m_27) rfl rfl rfl (by decide +kernel) ⟨Nat.le_of_ble_eq_true rfl, Nat.le_of_ble_eq_true rfl⟩) (fw_preV (X := X) hK hnb hW (10, k, 0) (cve10 hk) rfl rfl [.int a2]) rfl rfl hl.1 rfl (lv_room (Nat.le_of_ble_eq_true rfl)) dC_draftTap_2 ⟨Nat.zero_le _, Nat.zero_le _⟩) hS (fun H locs hW hS => ?_)
  obtain ⟨σ1, e2⟩ : ∃ z : fw_S, z = cs_startDraft σ k a2 := ⟨_, rfl⟩
  rw [← e2] at hW
  try rw [← e2] at he
  unfold cs_draftTap_s1 at he
  have hz : σ1 (12, v, 0) 3 = 0 ∨ σ1 (12, v, 0) 3 = 1 := by rw [e2, fr_startDraft _ _ _ (12, v, 0) (by simp)]; exact hz
  refine lv_aload_n hx hb dC_draftTap_5 rfl (lv_at hl 1 rfl) ?_
  refine fw_kp (va_runV (As := []) (rest := []) ⟨hx, hb, hml, hown, hts⟩ (c_isExit l X hI σ1 v ((cve12 hv)).1 (hz)) (cwV 0 hts (tb_V m_214 m_244 m_212 m_213 m_30) rfl rfl rfl (by decide +kernel) ⟨Nat.le_of_ble_eq_true rfl, Nat.le_of_ble_eq_true rfl⟩) (fw_preV (X := X) hK hnb hW (12, v, 0) (cve12 hv) rfl rfl []) rfl rfl hl.1 rfl (lv_room (Nat.le_of_ble_eq_true rfl)) dC_draftTap_6 ⟨Nat.zero_le _, Nat.zero_le _⟩) hS (fun H locs hW hS => ?_)
  refine lv_if_eq (tgt := 25) hx hb dC_draftTap_9 (by decide) (fun c3 => ?_) (fun c3 => ?_)
  · rw [if_pos c3] at he
    refine lv_aload_n hx hb dC_draftTap_25 rfl (lv_at hl 0 rfl) ?_
    refine lv_aload_n hx hb dC_draftTap_26 rfl (lv_at hl 1 rfl) ?_
    refine fw_kp (va_runV (As := []) (rest := [.ref (X.2.2 (10, k, 0))]) ⟨hx, hb, hml, hown, hts⟩ (c_zone l X hI σ1 v ((cve12 hv)).1 ) (cwV 0 hts (tb_V m_248 m_245 m_246 m_247 m_30) rfl rfl rfl (by decide +kernel) ⟨Nat.le_of_ble_eq_true rfl, Nat.le_of_ble_eq_true rfl⟩) (fw_preV (X := X) hK hnb hW (12, v, 0) (cve12 hv) rfl rfl []) rfl rfl hl.1 rfl (lv_room (Nat.le_of_ble_eq_true rfl)) dC_draftTap_27 ⟨Nat.zero_le _, Nat.zero_le _⟩) hS (fun H locs hW hS => ?_)
    refine lv_iload_n hx hb dC_draftTap_30 rfl (lv_at hl 2 rfl) ?_
    refine lv_aload_n hx hb dC_draftTap_31 rfl (lv_at hl 3 rfl) ?_
    refine fw_ki (va_runV (As := [.int (cs_zone σ1 v), .int a2, .ref (X.2.2 (1, 0, 0))]) (rest := []) ⟨hx, hb, hml, hown, hts⟩ (c_draftEntry l X hI σ1 k ((cve10 hk)).1 (cs_zone σ1 v) a2 ) (cwV 3 hts (tb_V m_283 m_280 m_282 m_5 m_27) rfl rfl rfl (by decide +kernel) ⟨Nat.le_of_ble_eq_true rfl, Nat.le_of_ble_eq_true rfl⟩) (fw_preV (X := X) hK hnb hW (10, k, 0) (cve10 hk) rfl rfl [.int (cs_zone σ1 v), .int a2, .ref (X.2.2 (1, 0, 0))]) rfl rfl hl.1 rfl (lv_room (Nat.le_of_ble_eq_true rfl)) dC_draftTap_32 ⟨Nat.zero_le _, Nat.zero_le _⟩) hS (fun r4 σ5 H locs o6 hW hS => ?_)
    rw [o6] at he
    unfold cs_draftTap_s2 at he
    dsimp only at he
    refine lv_istore (lv' := [(4, .int r4), (0, .ref (X.2.2 (10, k, 0))), (1, .ref (X.2.2 (12, v, 0))), (2, .int a2), (3, .ref (X.2.2 (1, 0, 0)))]) hx hb dC_draftTap_35 hl (by decide) rfl (fun ls hl => ?_)
    refine lv_aload_n hx hb dC_draftTap_37 rfl (lv_at hl 1 rfl) ?_
    refine fw_get (X := X) (v := .ref (X.2.2 (14, k, 0))) hx hb hts hin_C hown hK hW (10, k, 0) (cve10 hk) rfl rfl 1 (by decide) (htb _ m_85 rfl) (fun _ h => h) rfl rfl dC_draftTap_38 ?_
    refine lv_iconst (v := 0) hx hb dC_draftTap_41 (by decide) ?_
    refine lv_dup2_11 hx hb dC_draftTap_42 rfl rfl ?_
    refine fw_iald (X := X) hx hb hK hW (14, k, 0) (cvs14 (cve10 hk)) rfl 0 rfl 0 (by decide) (by unfold vp_in; decide) dC_draftTap_43 ?_
    refine lv_iload hx hb dC_draftTap_44 (lv_at hl 0 rfl) ?_
    refine lv_isub hx hb dC_draftTap_46 ?_
    refine fw_iast (X := X) hx hb hK hW hI hA hS (14, k, 0) (cvs14 (cve10 hk)) rfl 0 rfl 0 (by decide) (by unfold vp_in; decide) dC_draftTap_47 (fun H locs hW hS => ?_)
    obtain ⟨σ7, e8⟩ : ∃ z : fw_S, z = fw_st σ5 (14, k, 0) 0 ((σ5 (14, k, 0) 0) - r4) := ⟨_, rfl⟩
    rw [← e8] at hW
    try rw [← e8] at he
    unfold cs_draftTap_s3 at he
    refine lv_aload_n hx hb dC_draftTap_48 rfl (lv_at hl 1 rfl) ?_
    refine fw_get (X := X) (v := .ref (X.2.2 (14, k, 0))) hx hb hts hin_C hown hK hW (10, k, 0) (cve10 hk) rfl rfl 1 (by decide) (htb _ m_85 rfl) (fun _ h => h) rfl rfl dC_draftTap_49 ?_
    refine lv_bipush (v := 6) hx hb dC_draftTap_52 (by decide) ?_
    refine lv_dup2_11 hx hb dC_draftTap_54 rfl rfl ?_
    refine fw_iald (X := X) hx hb hK hW (14, k, 0) (cvs14 (cve10 hk)) rfl 0 rfl 6 (by decide) (by unfold vp_in; decide) dC_draftTap_55 ?_
    refine lv_iload hx hb dC_draftTap_56 (lv_at hl 0 rfl) ?_
    refine lv_iadd hx hb dC_draftTap_58 ?_
    refine fw_iast (X := X) hx hb hK hW hI hA hS (14, k, 0) (cvs14 (cve10 hk)) rfl 0 rfl 6 (by decide) (by unfold vp_in; decide) dC_draftTap_59 (fun H locs hW hS => ?_)
    obtain ⟨σ9, e10⟩ : ∃ z : fw_S, z = fw_st σ7 (14, k, 0) 6 ((σ7 (14, k, 0) 6) + r4) := ⟨_, rfl⟩
    rw [← e10] at hW
    try rw [← e10] at he
    unfold cs_draftTap_s4 at he
    refine lv_iload hx hb dC_draftTap_60 (lv_at hl 0 rfl) ?_
    exact fw_iret hx hb hr hlocks hK hnb hW hS he dC_draftTap_62
  · rw [if_neg c3] at he
    refine lv_aload_n hx hb dC_draftTap_12 rfl (lv_at hl 0 rfl) ?_
    refine lv_aload_n hx hb dC_draftTap_13 rfl (lv_at hl 1 rfl) ?_
    refine fw_kp (va_runV (As := []) (rest := [.ref (X.2.2 (10, k, 0))]) ⟨hx, hb, hml, hown, hts⟩ (c_zone l X hI σ1 v ((cve12 hv)).1 ) (cwV 0 hts (tb_V m_248 m_245 m_246 m_247 m_30) rfl rfl rfl (by decide +kernel) ⟨Nat.le_of_ble_eq_true rfl, Nat.le_of_ble_eq_true rfl⟩) (fw_preV (X := X) hK hnb hW (12, v, 0) (cve12 hv) rfl rfl []) rfl rfl hl.1 rfl (lv_room (Nat.le_of_ble_eq_true rfl)) dC_draftTap_14 ⟨Nat.zero_le _, Nat.zero_le _⟩) hS (fun H locs hW hS => ?_)
    refine lv_iload_n hx hb dC_draftTap_17 rfl (lv_at hl 2 rfl) ?_
    refine lv_aload_n hx hb dC_draftTap_18 rfl (lv_at hl 3 rfl) ?_
    refine fw_ki (va_runV (As := [.int (cs_zone σ1 v), .int a2, .ref (X.2.2 (1, 0, 0))]) (rest := []) ⟨hx, hb, hml, hown, hts⟩ (c_draftExit l X hI σ1 k ((cve10 hk)).1 (cs_zone σ1 v) a2 ) (cwV 3 hts (tb_V m_252 m_249 m_251 m_2 m_27) rfl rfl rfl (by decide +kernel) ⟨Nat.le_of_ble_eq_true rfl, Nat.le_of_ble_eq_true rfl⟩) (fw_preV (X := X) hK hnb hW (10, k, 0) (cve10 hk) rfl rfl [.int (cs_zone σ1 v), .int a2, .ref (X.2.2 (1, 0, 0))]) rfl rfl hl.1 rfl (lv_room (Nat.le_of_ble_eq_true rfl)) dC_draftTap_19 ⟨Nat.zero_le _, Nat.zero_le _⟩) hS (fun r11 σ12 H locs o13 hW hS => ?_)
    rw [o13] at he
    unfold cs_draftTap_s5 at he
    dsimp only at he
    refine lv_goto (tgt := 35) hx hb dC_draftTap_22 (by decide) ?_
    refine lv_istore (lv' := [(4, .int r11), (0, .ref (X.2.2 (10, k, 0))), (1, .ref (X.2.2 (12, v, 0))), (2, .int a2), (3, .ref (X.2.2 (1, 0, 0)))]) hx hb dC_draftTap_35 hl (by decide) rfl (fun ls hl => ?_)
    refine lv_aload_n hx hb dC_draftTap_37 rfl (lv_at hl 1 rfl) ?_
    refine fw_get (X := X) (v := .ref (X.2.2 (14, k, 0))) hx hb hts hin_C hown hK hW (10, k, 0) (cve10 hk) rfl rfl 1 (by decide) (htb _ m_85 rfl) (fun _ h => h) rfl rfl dC_draftTap_38 ?_
    refine lv_iconst (v := 0) hx hb dC_draftTap_41 (by decide) ?_
    refine lv_dup2_11 hx hb dC_draftTap_42 rfl rfl ?_
    refine fw_iald (X := X) hx hb hK hW (14, k, 0) (cvs14 (cve10 hk)) rfl 0 rfl 0 (by decide) (by unfold vp_in; decide) dC_draftTap_43 ?_
    refine lv_iload hx hb dC_draftTap_44 (lv_at hl 0 rfl) ?_
    refine lv_isub hx hb dC_draftTap_46 ?_
    refine fw_iast (X := X) hx hb hK hW hI hA hS (14, k, 0) (cvs14 (cve10 hk)) rfl 0 rfl 0 (by decide) (by unfold vp_in; decide) dC_draftTap_47 (fun H locs hW hS => ?_)
    obtain ⟨σ14, e15⟩ : ∃ z : fw_S, z = fw_st σ12 (14, k, 0) 0 ((σ12 (14, k, 0) 0) - r11) := ⟨_, rfl⟩
    rw [← e15] at hW
    try rw [← e15] at he
    unfold cs_draftTap_s6 at he
    refine lv_aload_n hx hb dC_draftTap_48 rfl (lv_at hl 1 rfl) ?_
    refine fw_get (X := X) (v := .ref (X.2.2 (14, k, 0))) hx hb hts hin_C hown hK hW (10, k, 0) (cve10 hk) rfl rfl 1 (by decide) (htb _ m_85 rfl) (fun _ h => h) rfl rfl dC_draftTap_49 ?_
    refine lv_bipush (v := 6) hx hb dC_draftTap_52 (by decide) ?_
    refine lv_dup2_11 hx hb dC_draftTap_54 rfl rfl ?_
    refine fw_iald (X := X) hx hb hK hW (14, k, 0) (cvs14 (cve10 hk)) rfl 0 rfl 6 (by decide) (by unfold vp_in; decide) dC_draftTap_55 ?_
    refine lv_iload hx hb dC_draftTap_56 (lv_at hl 0 rfl) ?_
    refine lv_iadd hx hb dC_draftTap_58 ?_
    refine fw_iast (X := X) hx hb hK hW hI hA hS (14, k, 0) (cvs14 (cve10 hk)) rfl 0 rfl 6 (by decide) (by unfold vp_in; decide) dC_draftTap_59 (fun H locs hW hS => ?_)
    obtain ⟨σ16, e17⟩ : ∃ z : fw_S, z = fw_st σ14 (14, k, 0) 6 ((σ14 (14, k, 0) 6) + r11) := ⟨_, rfl⟩
    rw [← e17] at hW
    try rw [← e17] at he
    unfold cs_draftTap_s7 at he
    refine lv_iload hx hb dC_draftTap_60 (lv_at hl 0 rfl) ?_
    exact fw_iret hx hb hr hlocks hK hnb hW hS he dC_draftTap_62
theorem fr_draftTap (σ : fw_S) (k v : Nat) (a : Int32) (u : fw_T) (h : u.1 ≠ 14) : (cs_draftTap σ k v a).2 u = σ u := by
  simp only [cs_draftTap, cs_draftTap_s4, cs_draftTap_s3, cs_draftTap_s2, cs_draftTap_s7, cs_draftTap_s6, cs_draftTap_s5, cs_draftTap_s1]
  split
  all_goals simp only [fw_st_off (t := (14, k, 0)) h, fr_draftEntry _ _ _ _ _ h, fr_draftExit _ _ _ _ _ h, fr_startDraft _ _ _ _ h]
def cs_writeDraft_s1 (x3 : Int32) (rec : Int32 → fw_S → fw_S) (σ4 : fw_S) : fw_S :=
  rec (x3 + 1) σ4
def cs_writeDraft_lp (k : Nat) (a1 : Int32) (σ : fw_S) : Nat → Int32 → fw_S → fw_S
  | 0, _, τ => τ
  | n + 1, x3, τ => if a1 ≤ x3 then τ else if 8 ≤ x3 then τ else cs_writeDraft_s1 x3 (cs_writeDraft_lp k a1 σ n) (fw_st τ (19, k, (1 - (cs_recordCopy σ k)).toNatClampNeg) x3.toNatClampNeg (τ (14, k, 0) x3.toNatClampNeg))
def cs_writeDraft (σ : fw_S) (k : Nat) (a1 : Int32) : fw_S :=
  cs_writeDraft_lp k a1 σ (8 + 1) 0 σ
set_option maxHeartbeats 4000000 in
set_option maxRecDepth 100000 in
theorem c_writeDraft_lp {p : Program} {e : Env} {s : State} {m : MethodId} {below : List Frame} {meth : Method} {c : Code} {args : Array Value} (l : Launch) (X : fw_X) (hI : fw_I cV X) (σ : fw_S) (k : Nat) (hk : k < 4) (a1 : Int32)   (hV1 : cV (19, k, (1 - (cs_recordCopy σ k)).toNatClampNeg)) (out : fw_S)
    (hx : p.tables.exec = Jvm.exec) (hb : c.code = bC_writeDraft) (hr : meth.sig.returnType = none) (hml : c.maxLocals = 4) (hlocks : meth.locks = false) (hown : s.vm.findClass "TapOffice$Card" = some m.cls) (hts : ∀ w ∈ wC_writeDraft, w.before args s = true) (hK : va_K X.1 fw_cl (fw_tys X.2.1) s) (hnb : va_Nw fw_nb s) :
    ∀ (n : Nat) (x3 : Int32) (j : Nat), x3 = nI j → j ≤ 8 → 8 + 1 ≤ j + n → ∀ (τ : fw_S), ∀ (H : Heap) (locs : List Loc), fw_W fw_cl csh cV X τ H → va_S (fw_A cV X) s.heap H locs → ∀ (ls : Array Slot), lv_has ls 4 [(0, .ref (X.2.2 (10, k, 0))), (1, .int a1), (2, .ref (X.2.2 (19, k, (1 - (cs_recordCopy σ k)).toNatClampNeg))), (3, .int x3)] → out = cs_writeDraft_lp k a1 σ n x3 τ → W p l e (fw_rm 1) s m args below meth c H locs 0 0 (MQ below (va_Qv (fun u => u = out) (fun u t => fw_O fw_cl csh cV fw_tys X u t) (fw_A cV X)) args s 0 0 (fw_A cV X)) (F0 m 14 ls []) := by
  have hA : ∀ t, cV t → fw_A cV X (X.2.2 t) := fun t h => ⟨t, h, rfl⟩
  have htb := tb_use hts
  intro n
  induction n with
  | zero =>
    intro x3 j hj h1 h2
    exact absurd h2 (by omega)
  | succ n ih =>
    intro x3 j hj hj1 hj2 τ H locs hW hS ls hl he
    rw [cs_writeDraft_lp] at he
    refine lv_iload_n hx hb dC_writeDraft_14 rfl (lv_at hl 3 rfl) ?_
    refine lv_iload_n hx hb dC_writeDraft_15 rfl (lv_at hl 1 rfl) ?_
    refine lv_icmp_ge (tgt := 40) hx hb dC_writeDraft_16 (by decide) (fun c2 => ?_) (fun c2 => ?_)
    · rw [if_pos c2] at he
      exact fw_vret hx hb hr hlocks hK hnb hW hS he dC_writeDraft_40
    · rw [if_neg c2] at he
      refine lv_iload_n hx hb dC_writeDraft_19 rfl (lv_at hl 3 rfl) ?_
      refine lv_bipush (v := 8) hx hb dC_writeDraft_20 (by decide) ?_
      refine lv_icmp_ge (tgt := 40) hx hb dC_writeDraft_22 (by decide) (fun c3 => ?_) (fun c3 => ?_)
      · rw [if_pos c3] at he
        exact fw_vret hx hb hr hlocks hK hnb hW hS he dC_writeDraft_40
      · rw [if_neg c3] at he
        have hlt : j < 8 := lp_lt (B := 8) hj rfl (by decide) hj1 c3
        have hin : vp_in x3 8 := by rw [hj]; exact vp_in_nI hlt (by decide)
        refine lv_aload_n hx hb dC_writeDraft_25 rfl (lv_at hl 2 rfl) ?_
        refine lv_iload_n hx hb dC_writeDraft_26 rfl (lv_at hl 3 rfl) ?_
        refine lv_aload_n hx hb dC_writeDraft_27 rfl (lv_at hl 0 rfl) ?_
        refine fw_get (X := X) (v := .ref (X.2.2 (14, k, 0))) hx hb hts hin_C hown hK hW (10, k, 0) (cve10 hk) rfl rfl 1 (by decide) (htb _ m_85 rfl) (fun _ h => h) rfl rfl dC_writeDraft_28 ?_
        refine lv_iload_n hx hb dC_writeDraft_31 rfl (lv_at hl 3 rfl) ?_
        refine fw_iald (X := X) hx hb hK hW (14, k, 0) (cvs14 (cve10 hk)) rfl 0 rfl x3.toNatClampNeg rfl hin dC_writeDraft_32 ?_
        refine fw_iast (X := X) hx hb hK hW hI hA hS (19, k, (1 - (cs_recordCopy σ k)).toNatClampNeg) hV1 rfl 0 rfl x3.toNatClampNeg rfl hin dC_writeDraft_33 (fun H locs hW hS => ?_)
        obtain ⟨σ4, e5⟩ : ∃ z : fw_S, z = fw_st τ (19, k, (1 - (cs_recordCopy σ k)).toNatClampNeg) x3.toNatClampNeg (τ (14, k, 0) x3.toNatClampNeg) := ⟨_, rfl⟩
        rw [← e5] at hW
        try rw [← e5] at he
        unfold cs_writeDraft_s1 at he
        refine lv_iinc (v := x3 + 1) (lv' := [(3, .int (x3 + 1)), (0, .ref (X.2.2 (10, k, 0))), (1, .int a1), (2, .ref (X.2.2 (19, k, (1 - (cs_recordCopy σ k)).toNatClampNeg)))]) hx hb dC_writeDraft_34 hl (k := 3) rfl (by rfl) (by decide) rfl (fun ls hl => ?_)
        refine lv_goto (tgt := 14) hx hb dC_writeDraft_37 (by decide) ?_
        exact ih (x3 + 1) (j + 1) (by rw [hj]; exact nI_1 j) hlt (by omega) σ4 _ _ hW hS ls (lv_sub hl [1, 2, 3, 0] rfl) he
set_option maxHeartbeats 4000000 in
set_option maxRecDepth 100000 in
theorem c_writeDraft (l : Launch) (X : fw_X) (hI : fw_I cV X) (σ : fw_S) (k : Nat) (hk : k < 4) (a1 : Int32)  : fw_Mv fw_cl csh cV fw_tys l yC_writeDraft wC_writeDraft (fw_rm 1) X σ [.ref (X.2.2 (10, k, 0)), .int a1] (cs_writeDraft σ k a1) := by
  obtain ⟨out, he⟩ : ∃ z : fw_S, z = cs_writeDraft σ k a1 := ⟨_, rfl⟩
  rw [← he]
  refine fw_Mv_of (cc := bC_writeDraft) (maxL := 4) (ret := none) (by decide) rfl (Nat.le_of_ble_eq_true rfl) ?_
  intro p e s m below meth c ls hx hb hr hml hlocks hown hts hK hnb hW hl
  have hS : va_S (fw_A cV X) s.heap s.heap [] := va_S.rf
  have hA : ∀ t, cV t → fw_A cV X (X.2.2 t) := fun t h => ⟨t, h, rfl⟩
  have htb := tb_use hts
  have hl : lv_has ls 4 [(0, .ref (X.2.2 (10, k, 0))), (1, .int a1)] := hl
  have hown : s.vm.findClass "TapOffice$Card" = some m.cls := hown
  unfold cs_writeDraft at he
  refine lv_aload_n hx hb dC_writeDraft_0 rfl (lv_at hl 0 rfl) ?_
  refine fw_get (X := X) (v := .ref (X.2.2 (13, k, 0))) hx hb hts hin_C hown hK hW (10, k, 0) (cve10 hk) rfl rfl 0 (by decide) (htb _ m_84 rfl) (fun _ h => h) rfl rfl dC_writeDraft_1 ?_
  refine lv_iconst (v := 1) hx hb dC_writeDraft_4 (by decide) ?_
  refine lv_aload_n hx hb dC_writeDraft_5 rfl (lv_at hl 0 rfl) ?_
  refine fw_kp (va_runV (As := []) (rest := [.int 1, .ref (X.2.2 (13, k, 0))]) ⟨hx, hb, hml, hown, hts⟩ (c_recordCopy l X hI σ k ((cve10 hk)).1 ) (cwV 0 hts (tb_V m_222 m_219 m_221 m_0 m_27) rfl rfl rfl (by decide +kernel) ⟨Nat.le_of_ble_eq_true rfl, Nat.le_of_ble_eq_true rfl⟩) (fw_preV (X := X) hK hnb hW (10, k, 0) (cve10 hk) rfl rfl []) rfl rfl hl.1 rfl (lv_room (Nat.le_of_ble_eq_true rfl)) dC_writeDraft_6 ⟨Nat.zero_le _, Nat.zero_le _⟩) hS (fun H locs hW hS => ?_)
  refine lv_isub hx hb dC_writeDraft_9 ?_
  refine fw_aald (X := X) hx hb hK hW (13, k, 0) (cvs13 (cve10 hk)) rfl 1 rfl rfl (1 - (cs_recordCopy σ k)).toNatClampNeg rfl (19, k, (1 - (cs_recordCopy σ k)).toNatClampNeg) rfl (rc1_in σ k) dC_writeDraft_10 ?_
  have hV1 : cV (19, k, (1 - (cs_recordCopy σ k)).toNatClampNeg) := (cvj19 (cvs13 (cve10 hk)) (vi_lt (rc1_in σ k)))
  refine lv_astore_n (lv' := [(2, .ref (X.2.2 (19, k, (1 - (cs_recordCopy σ k)).toNatClampNeg))), (0, .ref (X.2.2 (10, k, 0))), (1, .int a1)]) hx hb dC_writeDraft_11 rfl hl (by decide) rfl (fun ls hl => ?_)
  refine lv_iconst (v := 0) hx hb dC_writeDraft_12 (by decide) ?_
  refine lv_istore_n (lv' := [(3, .int 0), (2, .ref (X.2.2 (19, k, (1 - (cs_recordCopy σ k)).toNatClampNeg))), (0, .ref (X.2.2 (10, k, 0))), (1, .int a1)]) hx hb dC_writeDraft_13 rfl hl (by decide) rfl (fun ls hl => ?_)
  exact c_writeDraft_lp l X hI σ k hk a1  hV1 out hx hb hr hml hlocks hown hts hK hnb (8 + 1) 0 0 nI_0.symm (by decide) (by decide) σ _ _ hW hS ls (lv_sub hl [2, 3, 1, 0] rfl) he
theorem fr_writeDraft_lp (σ : fw_S) (k : Nat) (a : Int32) (u : fw_T) (h : u.1 ≠ 19) : ∀ (n : Nat) (x : Int32) (τ : fw_S), cs_writeDraft_lp k a σ n x τ u = τ u := by
  intro n
  induction n with
  | zero => intro x τ; rfl
  | succ n ih =>
    intro x τ
    simp only [cs_writeDraft, cs_writeDraft_s1, cs_writeDraft_lp]
    repeat' split
    all_goals simp only [ih, fw_st_off (t := (19, k, (1 - cs_recordCopy σ k).toNatClampNeg)) h]
theorem fr_writeDraft (σ : fw_S) (k : Nat) (a : Int32) (u : fw_T) (h : u.1 ≠ 19) : cs_writeDraft σ k a u = σ u := by
  unfold cs_writeDraft
  exact fr_writeDraft_lp _ _ _ _ h _ _ _
end
section
theorem up_lt {x z : Int32} {j : Nat} (hj : x = nI j) (hj1 : j ≤ 8) (hq : z ≤ 8) (c : ¬ z ≤ x) : j < 8 := by
  have h1 := Int32.lt_iff_toInt_lt.mp (Int32.not_le.mp c)
  have h2 := Int32.le_iff_toInt_le.mp hq
  have e1 : (8 : Int32).toInt = 8 := by decide
  rw [hj, nI_toInt (by omega)] at h1
  omega
theorem lg_in {σ : fw_S} {v : Nat} {x : Int32} (h8 : σ (12, v, 0) 1 ≤ 8) (h : ¬ cs_isBelow x (cs_logSize σ v) = 0) : vp_in x 8 := by
  unfold cs_isBelow at h
  by_cases h1 : x < 0
  · rw [if_pos h1] at h
    exact absurd rfl h
  · rw [if_neg h1] at h
    by_cases h2 : cs_logSize σ v ≤ x
    · rw [if_pos h2] at h
      exact absurd rfl h
    · have h3 := Int32.lt_iff_toInt_lt.mp (Int32.not_le.mp h2)
      have h4 : (cs_logSize σ v).toInt ≤ (8 : Int32).toInt := Int32.le_iff_toInt_le.mp h8
      have e1 : (8 : Int32).toInt = 8 := by decide
      refine vi_of ?_ (by omega)
      have := Int32.le_iff_toInt_le.mp (Int32.not_lt.mp h1)
      simpa using this
theorem sw_out4 {x : Int32} (h0 : ¬ x = 0) (h1 : ¬ x = 1) (h2 : ¬ x = 2) (h3 : ¬ x = 3) : x.toInt < 0 ∨ 3 < x.toInt := by
  have e0 := lv_neT h0 (a := 0) (by decide)
  have e1 := lv_neT h1 (a := 1) (by decide)
  have e2 := lv_neT h2 (a := 2) (by decide)
  have e3 := lv_neT h3 (a := 3) (by decide)
  omega
theorem sw_out6 {x : Int32} (h0 : ¬ x = 0) (h1 : ¬ x = 1) (h2 : ¬ x = 2) (h3 : ¬ x = 3) (h4 : ¬ x = 4) (h5 : ¬ x = 5) : x.toInt < 0 ∨ 5 < x.toInt := by
  have e4 := lv_neT h4 (a := 4) (by decide)
  have e5 := lv_neT h5 (a := 5) (by decide)
  rcases sw_out4 h0 h1 h2 h3 with h | h
  · exact Or.inl h
  · exact Or.inr (by omega)
theorem sw_out8 {x : Int32} (h0 : ¬ x = 0) (h1 : ¬ x = 1) (h2 : ¬ x = 2) (h3 : ¬ x = 3) (h4 : ¬ x = 4) (h5 : ¬ x = 5) (h6 : ¬ x = 6) (h7 : ¬ x = 7) : x.toInt < 0 ∨ 7 < x.toInt := by
  have e6 := lv_neT h6 (a := 6) (by decide)
  have e7 := lv_neT h7 (a := 7) (by decide)
  rcases sw_out6 h0 h1 h2 h3 h4 h5 with h | h
  · exact Or.inl h
  · exact Or.inr (by omega)
def cs_most (k : Nat) : Int32 := match k with
  | 0 => 1440
  | 1 => 1440
  | 2 => 200
  | 3 => 9999
  | _ => 999
/-- the class's own table of the greatest values, as the Statement gives it -/
def cs_exS (X : fw_X) (tb : Nat) (U : State) : Prop := va_Z "TapOffice" "MOST_SETTINGS" "[I" (.ref tb) (fw_A cV X) U U.heap ∧ va_T .int tb 5 (fun j => .int (cs_most j)) (fw_A cV X) U U.heap
def cs_bitCount_s5 (z9 : Int32) : Int32 :=
  (z9 &&& 63)
def cs_bitCount_s4 (z7 : Int32) : Int32 :=
  cs_bitCount_s5 (z7 + (((z7 : Int32).toUInt32 >>> ((16 : Int32).toUInt32 &&& Int32.toUInt32 31)).toInt32))
def cs_bitCount_s3 (z5 : Int32) : Int32 :=
  cs_bitCount_s4 (z5 + (((z5 : Int32).toUInt32 >>> ((8 : Int32).toUInt32 &&& Int32.toUInt32 31)).toInt32))
def cs_bitCount_s2 (z3 : Int32) : Int32 :=
  cs_bitCount_s3 ((z3 + (((z3 : Int32).toUInt32 >>> ((4 : Int32).toUInt32 &&& Int32.toUInt32 31)).toInt32)) &&& 252645135)
def cs_bitCount_s1 (z1 : Int32) : Int32 :=
  cs_bitCount_s2 ((z1 &&& 858993459) + ((((z1 : Int32).toUInt32 >>> ((2 : Int32).toUInt32 &&& Int32.toUInt32 31)).toInt32) &&& 858993459))
def cs_bitCount (a1 : Int32) : Int32 :=
  cs_bitCount_s1 (a1 - ((((a1 : Int32).toUInt32 >>> ((1 : Int32).toUInt32 &&& Int32.toUInt32 31)).toInt32) &&& 1431655765))
set_option maxHeartbeats 4000000 in
set_option maxRecDepth 100000 in
theorem c_bitCount (l : Launch) (X : fw_X) (hI : fw_I cV X) (σ : fw_S) (a1 : Int32)  : fw_Mi fw_cl csh cV fw_tys l yI_bitCount wI_bitCount (fw_rm 0) X σ [.int a1] ((cs_bitCount a1, σ)) := by
  obtain ⟨out, he⟩ : ∃ z : Int32, z = cs_bitCount a1 := ⟨_, rfl⟩
  rw [← he]
  refine fw_Mi_of (cc := bI_bitCount) (maxL := 1) (ret := (some .int)) (by decide) rfl (Nat.le_of_ble_eq_true rfl) ?_
  intro p e s m below meth c ls hx hb hr hml hlocks hown hts hK hnb hW hl
  have hS : va_S (fw_A cV X) s.heap s.heap [] := va_S.rf
  have hA : ∀ t, cV t → fw_A cV X (X.2.2 t) := fun t h => ⟨t, h, rfl⟩
  have htb := tb_use hts
  have hl : lv_has ls 1 [(0, .int a1)] := hl
  have hown : s.vm.findClass "java/lang/Integer" = some m.cls := hown
  unfold cs_bitCount at he
  refine lv_iload_n hx hb dI_bitCount_0 rfl (lv_at hl 0 rfl) ?_
  refine lv_iload_n hx hb dI_bitCount_1 rfl (lv_at hl 0 rfl) ?_
  refine lv_iconst (v := 1) hx hb dI_bitCount_2 (by decide) ?_
  refine lv_iushr (v := ((a1 : Int32).toUInt32 >>> ((1 : Int32).toUInt32 &&& Int32.toUInt32 31)).toInt32) hx hb dI_bitCount_3 rfl ?_
  refine lv_ldcw (v := 1431655765) hx hb hown (htb _ m_403 rfl) dI_bitCount_4 ?_
  refine lv_iand hx hb dI_bitCount_7 ?_
  refine lv_isub hx hb dI_bitCount_8 ?_
  refine lv_topi (fun z1 e2 => ?_)
  try rw [← e2] at he
  unfold cs_bitCount_s1 at he
  refine lv_istore_n (lv' := [(0, .int z1)]) hx hb dI_bitCount_9 rfl hl (by decide) rfl (fun ls hl => ?_)
  refine lv_iload_n hx hb dI_bitCount_10 rfl (lv_at hl 0 rfl) ?_
  refine lv_ldcw (v := 858993459) hx hb hown (htb _ m_404 rfl) dI_bitCount_11 ?_
  refine lv_iand hx hb dI_bitCount_14 ?_
  refine lv_iload_n hx hb dI_bitCount_15 rfl (lv_at hl 0 rfl) ?_
  refine lv_iconst (v := 2) hx hb dI_bitCount_16 (by decide) ?_
  refine lv_iushr (v := ((z1 : Int32).toUInt32 >>> ((2 : Int32).toUInt32 &&& Int32.toUInt32 31)).toInt32) hx hb dI_bitCount_17 rfl ?_
  refine lv_ldcw (v := 858993459) hx hb hown (htb _ m_404 rfl) dI_bitCount_18 ?_
  refine lv_iand hx hb dI_bitCount_21 ?_
  refine lv_iadd hx hb dI_bitCount_22 ?_
  refine lv_topi (fun z3 e4 => ?_)
  try rw [← e4] at he
  unfold cs_bitCount_s2 at he
  refine lv_istore_n (lv' := [(0, .int z3)]) hx hb dI_bitCount_23 rfl hl (by decide) rfl (fun ls hl => ?_)
  refine lv_iload_n hx hb dI_bitCount_24 rfl (lv_at hl 0 rfl) ?_
  refine lv_iload_n hx hb dI_bitCount_25 rfl (lv_at hl 0 rfl) ?_
  refine lv_iconst (v := 4) hx hb dI_bitCount_26 (by decide) ?_
  refine lv_iushr (v := ((z3 : Int32).toUInt32 >>> ((4 : Int32).toUInt32 &&& Int32.toUInt32 31)).toInt32) hx hb dI_bitCount_27 rfl ?_
  refine lv_iadd hx hb dI_bitCount_28 ?_
  refine lv_ldcw (v := 252645135) hx hb hown (htb _ m_405 rfl) dI_bitCount_29 ?_
  refine lv_iand hx hb dI_bitCount_32 ?_
  refine lv_topi (fun z5 e6 => ?_)
  try rw [← e6] at he
  unfold cs_bitCount_s3 at he
  refine lv_istore_n (lv' := [(0, .int z5)]) hx hb dI_bitCount_33 rfl hl (by decide) rfl (fun ls hl => ?_)
  refine lv_iload_n hx hb dI_bitCount_34 rfl (lv_at hl 0 rfl) ?_
  refine lv_iload_n hx hb dI_bitCount_35 rfl (lv_at hl 0 rfl) ?_
  refine lv_bipush (v := 8) hx hb dI_bitCount_36 (by decide) ?_
  refine lv_iushr (v := ((z5 : Int32).toUInt32 >>> ((8 : Int32).toUInt32 &&& Int32.toUInt32 31)).toInt32) hx hb dI_bitCount_38 rfl ?_
  refine lv_iadd hx hb dI_bitCount_39 ?_
  refine lv_topi (fun z7 e8 => ?_)
  try rw [← e8] at he
  unfold cs_bitCount_s4 at he
  refine lv_istore_n (lv' := [(0, .int z7)]) hx hb dI_bitCount_40 rfl hl (by decide) rfl (fun ls hl => ?_)
  refine lv_iload_n hx hb dI_bitCount_41 rfl (lv_at hl 0 rfl) ?_
  refine lv_iload_n hx hb dI_bitCount_42 rfl (lv_at hl 0 rfl) ?_
  refine lv_bipush (v := 16) hx hb dI_bitCount_43 (by decide) ?_
  refine lv_iushr (v := ((z7 : Int32).toUInt32 >>> ((16 : Int32).toUInt32 &&& Int32.toUInt32 31)).toInt32) hx hb dI_bitCount_45 rfl ?_
  refine lv_iadd hx hb dI_bitCount_46 ?_
  refine lv_topi (fun z9 e10 => ?_)
  try rw [← e10] at he
  unfold cs_bitCount_s5 at he
  refine lv_istore_n (lv' := [(0, .int z9)]) hx hb dI_bitCount_47 rfl hl (by decide) rfl (fun ls hl => ?_)
  refine lv_iload_n hx hb dI_bitCount_48 rfl (lv_at hl 0 rfl) ?_
  refine lv_bipush (v := 63) hx hb dI_bitCount_49 (by decide) ?_
  refine lv_iand hx hb dI_bitCount_51 ?_
  exact fw_iret hx hb hr hlocks hK hnb hW hS (by rw [he]) dI_bitCount_52
def cs_fare_s1 (σ5 : fw_S) : Int32 × fw_S :=
  (0, σ5)
def cs_fare (σ : fw_S) (a1 : Int32) (a2 : Int32) (a3 : Int32) : Int32 × fw_S :=
  if (cs_isBelow a1 6) = 0 then ((-1), σ) else if (cs_isBelow a2 6) = 0 then ((-1), σ) else if a3 < 0 then ((-1), σ) else if a3 ≤ 999 then cs_fare_s1 (cs_putFare σ a1 a2 a3) else ((-1), σ)
set_option maxHeartbeats 4000000 in
set_option maxRecDepth 100000 in
theorem c_fare (l : Launch) (X : fw_X) (hI : fw_I cV X) (σ : fw_S) (a1 a2 a3 : Int32)  : fw_Mi fw_cl csh cV fw_tys l yO_fare wO_fare (fw_rm 2) X σ [.ref (X.2.2 (0, 0, 0)), .int a1, .int a2, .int a3] (cs_fare σ a1 a2 a3) := by
  obtain ⟨out, he⟩ : ∃ z : Int32 × fw_S, z = cs_fare σ a1 a2 a3 := ⟨_, rfl⟩
  rw [← he]
  refine fw_Mi_of (cc := bO_fare) (maxL := 4) (ret := (some .int)) (by decide) rfl (Nat.le_of_ble_eq_true rfl) ?_
  intro p e s m below meth c ls hx hb hr hml hlocks hown hts hK hnb hW hl
  have hS : va_S (fw_A cV X) s.heap s.heap [] := va_S.rf
  have hA : ∀ t, cV t → fw_A cV X (X.2.2 t) := fun t h => ⟨t, h, rfl⟩
  have htb := tb_use hts
  have hl : lv_has ls 4 [(0, .ref (X.2.2 (0, 0, 0))), (1, .int a1), (2, .int a2), (3, .int a3)] := hl
  have hown : s.vm.findClass "TapOffice" = some m.cls := hown
  unfold cs_fare at he
  refine lv_iload_n hx hb dO_fare_0 rfl (lv_at hl 1 rfl) ?_
  refine lv_bipush (v := 6) hx hb dO_fare_1 (by decide) ?_
  refine fw_kp (va_runS (As := [.int a1, .int 6]) (rest := []) ⟨hx, hb, hml, hown, hts⟩ (c_isBelow l X hI σ a1 6 ) (va_cwS 2 hts (tb_S m_172 m_170 m_171 m_25) rfl rfl rfl (by decide +kernel) ⟨Nat.le_of_ble_eq_true rfl, Nat.le_of_ble_eq_true rfl⟩) (fw_preS (X := X) hK hnb hW [.int a1, .int 6]) rfl rfl hl.1 rfl (lv_room (Nat.le_of_ble_eq_true rfl)) dO_fare_3 ⟨Nat.zero_le _, Nat.zero_le _⟩) hS (fun H locs hW hS => ?_)
  refine lv_if_eq (tgt := 29) hx hb dO_fare_6 (by decide) (fun c1 => ?_) (fun c1 => ?_)
  · rw [if_pos c1] at he
    refine lv_iconst (v := (-1)) hx hb dO_fare_29 (by decide) ?_
    exact fw_iret hx hb hr hlocks hK hnb hW hS he dO_fare_30
  · rw [if_neg c1] at he
    refine lv_iload_n hx hb dO_fare_9 rfl (lv_at hl 2 rfl) ?_
    refine lv_bipush (v := 6) hx hb dO_fare_10 (by decide) ?_
    refine fw_kp (va_runS (As := [.int a2, .int 6]) (rest := []) ⟨hx, hb, hml, hown, hts⟩ (c_isBelow l X hI σ a2 6 ) (va_cwS 2 hts (tb_S m_172 m_170 m_171 m_25) rfl rfl rfl (by decide +kernel) ⟨Nat.le_of_ble_eq_true rfl, Nat.le_of_ble_eq_true rfl⟩) (fw_preS (X := X) hK hnb hW [.int a2, .int 6]) rfl rfl hl.1 rfl (lv_room (Nat.le_of_ble_eq_true rfl)) dO_fare_12 ⟨Nat.zero_le _, Nat.zero_le _⟩) hS (fun H locs hW hS => ?_)
    refine lv_if_eq (tgt := 29) hx hb dO_fare_15 (by decide) (fun c2 => ?_) (fun c2 => ?_)
    · rw [if_pos c2] at he
      refine lv_iconst (v := (-1)) hx hb dO_fare_29 (by decide) ?_
      exact fw_iret hx hb hr hlocks hK hnb hW hS he dO_fare_30
    · rw [if_neg c2] at he
      refine lv_iload_n hx hb dO_fare_18 rfl (lv_at hl 3 rfl) ?_
      refine lv_if_lt (tgt := 29) hx hb dO_fare_19 (by decide) (fun c3 => ?_) (fun c3 => ?_)
      · rw [if_pos c3] at he
        refine lv_iconst (v := (-1)) hx hb dO_fare_29 (by decide) ?_
        exact fw_iret hx hb hr hlocks hK hnb hW hS he dO_fare_30
      · rw [if_neg c3] at he
        refine lv_iload_n hx hb dO_fare_22 rfl (lv_at hl 3 rfl) ?_
        refine lv_sipush (v := 999) hx hb dO_fare_23 (by decide) ?_
        refine lv_icmp_le (tgt := 31) hx hb dO_fare_26 (by decide) (fun c4 => ?_) (fun c4 => ?_)
        · rw [if_pos c4] at he
          refine lv_aload_n hx hb dO_fare_31 rfl (lv_at hl 0 rfl) ?_
          refine fw_get (X := X) (v := .ref (X.2.2 (1, 0, 0))) hx hb hts hin_O hown hK hW (0, 0, 0) cv0 rfl rfl 0 (by decide) (htb _ m_141 rfl) (fun _ h => h) rfl rfl dO_fare_32 ?_
          refine lv_iload_n hx hb dO_fare_35 rfl (lv_at hl 1 rfl) ?_
          refine lv_iload_n hx hb dO_fare_36 rfl (lv_at hl 2 rfl) ?_
          refine lv_iload_n hx hb dO_fare_37 rfl (lv_at hl 3 rfl) ?_
          refine fw_kv (va_runV (As := [.int a1, .int a2, .int a3]) (rest := []) ⟨hx, hb, hml, hown, hts⟩ (c_putFare l X hI σ a1 a2 a3 ((ib_in ‹¬ cs_isBelow a1 6 = 0›)) ((ib_in ‹¬ cs_isBelow a2 6 = 0›))) (cwV 3 hts (tb_V m_176 m_173 m_174 m_175 m_26) rfl rfl rfl (by decide +kernel) ⟨Nat.le_of_ble_eq_true rfl, Nat.le_of_ble_eq_true rfl⟩) (fw_preV (X := X) hK hnb hW (1, 0, 0) cv1 rfl rfl [.int a1, .int a2, .int a3]) rfl rfl hl.1 rfl (lv_room (Nat.le_of_ble_eq_true rfl)) dO_fare_38 ⟨Nat.zero_le _, Nat.zero_le _⟩) hS (fun H locs hW hS => ?_)
          obtain ⟨σ5, e6⟩ : ∃ z : fw_S, z = cs_putFare σ a1 a2 a3 := ⟨_, rfl⟩
          rw [← e6] at hW
          try rw [← e6] at he
          unfold cs_fare_s1 at he
          refine lv_iconst (v := 0) hx hb dO_fare_41 (by decide) ?_
          exact fw_iret hx hb hr hlocks hK hnb hW hS he dO_fare_42
        · rw [if_neg c4] at he
          refine lv_iconst (v := (-1)) hx hb dO_fare_29 (by decide) ?_
          exact fw_iret hx hb hr hlocks hK hnb hW hS he dO_fare_30
def cs_set_s1 (σ4 : fw_S) : Int32 × fw_S :=
  (0, σ4)
def cs_set (σ : fw_S) (a1 : Int32) (a2 : Int32) : Int32 × fw_S :=
  if (cs_isBelow a1 5) = 0 then ((-1), σ) else if a2 < 0 then ((-1), σ) else if a2 ≤ (cs_most a1.toNatClampNeg) then cs_set_s1 (cs_putSetting σ a1 a2) else ((-1), σ)
set_option maxHeartbeats 4000000 in
set_option maxRecDepth 100000 in
theorem c_set (l : Launch) (X : fw_X) (hI : fw_I cV X) (σ : fw_S) (a1 a2 : Int32) (tb : Nat) : fw_MiE fw_cl csh cV fw_tys (cs_exS X tb) l yO_set wO_set (fw_rm 1) X σ [.ref (X.2.2 (0, 0, 0)), .int a1, .int a2] (cs_set σ a1 a2) := by
  obtain ⟨out, he⟩ : ∃ z : Int32 × fw_S, z = cs_set σ a1 a2 := ⟨_, rfl⟩
  rw [← he]
  refine fw_MiE_of (cc := bO_set) (maxL := 3) (ret := (some .int)) (by decide) rfl (Nat.le_of_ble_eq_true rfl) ?_
  intro p e s m below meth c ls hx hb hr hml hlocks hown hts hK hnb hW hE hl
  have hS : va_S (fw_A cV X) s.heap s.heap [] := va_S.rf
  have hA : ∀ t, cV t → fw_A cV X (X.2.2 t) := fun t h => ⟨t, h, rfl⟩
  have htb := tb_use hts
  have hl : lv_has ls 3 [(0, .ref (X.2.2 (0, 0, 0))), (1, .int a1), (2, .int a2)] := hl
  have hown : s.vm.findClass "TapOffice" = some m.cls := hown
  unfold cs_set at he
  refine lv_iload_n hx hb dO_set_0 rfl (lv_at hl 1 rfl) ?_
  refine lv_iconst (v := 5) hx hb dO_set_1 (by decide) ?_
  refine fw_kp (va_runS (As := [.int a1, .int 5]) (rest := []) ⟨hx, hb, hml, hown, hts⟩ (c_isBelow l X hI σ a1 5 ) (va_cwS 2 hts (tb_S m_172 m_170 m_171 m_25) rfl rfl rfl (by decide +kernel) ⟨Nat.le_of_ble_eq_true rfl, Nat.le_of_ble_eq_true rfl⟩) (fw_preS (X := X) hK hnb hW [.int a1, .int 5]) rfl rfl hl.1 rfl (lv_room (Nat.le_of_ble_eq_true rfl)) dO_set_2 ⟨Nat.zero_le _, Nat.zero_le _⟩) hS (fun H locs hW hS => ?_)
  refine lv_if_eq (tgt := 21) hx hb dO_set_5 (by decide) (fun c1 => ?_) (fun c1 => ?_)
  · rw [if_pos c1] at he
    refine lv_iconst (v := (-1)) hx hb dO_set_21 (by decide) ?_
    exact fw_iret hx hb hr hlocks hK hnb hW hS he dO_set_22
  · rw [if_neg c1] at he
    refine lv_iload_n hx hb dO_set_8 rfl (lv_at hl 2 rfl) ?_
    refine lv_if_lt (tgt := 21) hx hb dO_set_9 (by decide) (fun c2 => ?_) (fun c2 => ?_)
    · rw [if_pos c2] at he
      refine lv_iconst (v := (-1)) hx hb dO_set_21 (by decide) ?_
      exact fw_iret hx hb hr hlocks hK hnb hW hS he dO_set_22
    · rw [if_neg c2] at he
      refine lv_iload_n hx hb dO_set_12 rfl (lv_at hl 2 rfl) ?_
      refine va_gets (v := .ref tb) hx hb hE.1 hS hown (htb _ m_181 rfl) (fun _ h => h) dO_set_13 ?_
      refine lv_iload_n hx hb dO_set_16 rfl (lv_at hl 1 rfl) ?_
      refine va_ti (v := .int (cs_most a1.toNatClampNeg)) hx hb hE.2 hS (ib_in ‹¬ cs_isBelow a1 5 = 0›) rfl dO_set_17 ?_
      refine lv_icmp_le (tgt := 23) hx hb dO_set_18 (by decide) (fun c3 => ?_) (fun c3 => ?_)
      · rw [if_pos c3] at he
        refine lv_aload_n hx hb dO_set_23 rfl (lv_at hl 0 rfl) ?_
        refine fw_get (X := X) (v := .ref (X.2.2 (1, 0, 0))) hx hb hts hin_O hown hK hW (0, 0, 0) cv0 rfl rfl 0 (by decide) (htb _ m_141 rfl) (fun _ h => h) rfl rfl dO_set_24 ?_
        refine lv_iload_n hx hb dO_set_27 rfl (lv_at hl 1 rfl) ?_
        refine lv_iload_n hx hb dO_set_28 rfl (lv_at hl 2 rfl) ?_
        refine fw_kv (va_runV (As := [.int a1, .int a2]) (rest := []) ⟨hx, hb, hml, hown, hts⟩ (c_putSetting l X hI σ a1 a2 ((ib_in ‹¬ cs_isBelow a1 5 = 0›))) (cwV 2 hts (tb_V m_186 m_183 m_184 m_185 m_26) rfl rfl rfl (by decide +kernel) ⟨Nat.le_of_ble_eq_true rfl, Nat.le_of_ble_eq_true rfl⟩) (fw_preV (X := X) hK hnb hW (1, 0, 0) cv1 rfl rfl [.int a1, .int a2]) rfl rfl hl.1 rfl (lv_room (Nat.le_of_ble_eq_true rfl)) dO_set_29 ⟨Nat.zero_le _, Nat.zero_le _⟩) hS (fun H locs hW hS => ?_)
        obtain ⟨σ4, e5⟩ : ∃ z : fw_S, z = cs_putSetting σ a1 a2 := ⟨_, rfl⟩
        rw [← e5] at hW
        try rw [← e5] at he
        unfold cs_set_s1 at he
        refine lv_iconst (v := 0) hx hb dO_set_32 (by decide) ?_
        exact fw_iret hx hb hr hlocks hK hnb hW hS he dO_set_33
      · rw [if_neg c3] at he
        refine lv_iconst (v := (-1)) hx hb dO_set_21 (by decide) ?_
        exact fw_iret hx hb hr hlocks hK hnb hW hS he dO_set_22
def cs_place_s1 (σ4 : fw_S) : Int32 × fw_S :=
  (0, σ4)
def cs_place (σ : fw_S) (a1 : Int32) (a2 : Int32) (a3 : Int32) : Int32 × fw_S :=
  if (cs_isBelow a1 4) = 0 then ((-1), σ) else if (cs_isBelow a2 6) = 0 then ((-1), σ) else cs_place_s1 (cs_moveTo σ a1.toNatClampNeg a2 a3)
set_option maxHeartbeats 4000000 in
set_option maxRecDepth 100000 in
theorem c_place (l : Launch) (X : fw_X) (hI : fw_I cV X) (σ : fw_S) (a1 a2 a3 : Int32) (hz : a3 = 0 ∨ a3 = 1) : fw_Mi fw_cl csh cV fw_tys l yO_place wO_place (fw_rm 2) X σ [.ref (X.2.2 (0, 0, 0)), .int a1, .int a2, .int a3] (cs_place σ a1 a2 a3) := by
  obtain ⟨out, he⟩ : ∃ z : Int32 × fw_S, z = cs_place σ a1 a2 a3 := ⟨_, rfl⟩
  rw [← he]
  refine fw_Mi_of (cc := bO_place) (maxL := 4) (ret := (some .int)) (by decide) rfl (Nat.le_of_ble_eq_true rfl) ?_
  intro p e s m below meth c ls hx hb hr hml hlocks hown hts hK hnb hW hl
  have hS : va_S (fw_A cV X) s.heap s.heap [] := va_S.rf
  have hA : ∀ t, cV t → fw_A cV X (X.2.2 t) := fun t h => ⟨t, h, rfl⟩
  have htb := tb_use hts
  have hl : lv_has ls 4 [(0, .ref (X.2.2 (0, 0, 0))), (1, .int a1), (2, .int a2), (3, .int a3)] := hl
  have hown : s.vm.findClass "TapOffice" = some m.cls := hown
  unfold cs_place at he
  refine lv_iload_n hx hb dO_place_0 rfl (lv_at hl 1 rfl) ?_
  refine lv_iconst (v := 4) hx hb dO_place_1 (by decide) ?_
  refine fw_kp (va_runS (As := [.int a1, .int 4]) (rest := []) ⟨hx, hb, hml, hown, hts⟩ (c_isBelow l X hI σ a1 4 ) (va_cwS 2 hts (tb_S m_172 m_170 m_171 m_25) rfl rfl rfl (by decide +kernel) ⟨Nat.le_of_ble_eq_true rfl, Nat.le_of_ble_eq_true rfl⟩) (fw_preS (X := X) hK hnb hW [.int a1, .int 4]) rfl rfl hl.1 rfl (lv_room (Nat.le_of_ble_eq_true rfl)) dO_place_2 ⟨Nat.zero_le _, Nat.zero_le _⟩) hS (fun H locs hW hS => ?_)
  refine lv_if_eq (tgt := 17) hx hb dO_place_5 (by decide) (fun c1 => ?_) (fun c1 => ?_)
  · rw [if_pos c1] at he
    refine lv_iconst (v := (-1)) hx hb dO_place_17 (by decide) ?_
    exact fw_iret hx hb hr hlocks hK hnb hW hS he dO_place_18
  · rw [if_neg c1] at he
    refine lv_iload_n hx hb dO_place_8 rfl (lv_at hl 2 rfl) ?_
    refine lv_bipush (v := 6) hx hb dO_place_9 (by decide) ?_
    refine fw_kp (va_runS (As := [.int a2, .int 6]) (rest := []) ⟨hx, hb, hml, hown, hts⟩ (c_isBelow l X hI σ a2 6 ) (va_cwS 2 hts (tb_S m_172 m_170 m_171 m_25) rfl rfl rfl (by decide +kernel) ⟨Nat.le_of_ble_eq_true rfl, Nat.le_of_ble_eq_true rfl⟩) (fw_preS (X := X) hK hnb hW [.int a2, .int 6]) rfl rfl hl.1 rfl (lv_room (Nat.le_of_ble_eq_true rfl)) dO_place_11 ⟨Nat.zero_le _, Nat.zero_le _⟩) hS (fun H locs hW hS => ?_)
    refine lv_if_ne (tgt := 19) hx hb dO_place_14 (by decide) (fun c2 => ?_) (fun c2 => ?_)
    · rw [if_neg c2] at he
      refine lv_aload_n hx hb dO_place_19 rfl (lv_at hl 0 rfl) ?_
      refine fw_get (X := X) (v := .ref (X.2.2 (4, 0, 0))) hx hb hts hin_O hown hK hW (0, 0, 0) cv0 rfl rfl 3 (by decide) (htb _ m_144 rfl) (fun _ h => h) rfl rfl dO_place_20 ?_
      refine lv_iload_n hx hb dO_place_23 rfl (lv_at hl 1 rfl) ?_
      refine fw_aald (X := X) hx hb hK hW (4, 0, 0) cv4 rfl 4 rfl rfl a1.toNatClampNeg rfl (12, a1.toNatClampNeg, 0) rfl (ib_in ‹¬ cs_isBelow a1 4 = 0›) dO_place_24 ?_
      have hV3 : cV (12, a1.toNatClampNeg, 0) := (cve12 (vi_lt (ib_in ‹¬ cs_isBelow a1 4 = 0›)))
      refine lv_iload_n hx hb dO_place_25 rfl (lv_at hl 2 rfl) ?_
      refine lv_iload_n hx hb dO_place_26 rfl (lv_at hl 3 rfl) ?_
      refine fw_kv (va_runV (As := [.int a2, .int a3]) (rest := []) ⟨hx, hb, hml, hown, hts⟩ (c_moveTo l X hI σ a1.toNatClampNeg (hV3).1 a2 a3 (hz)) (cwV 2 hts (tb_V m_194 m_191 m_192 m_193 m_30) rfl rfl rfl (by decide +kernel) ⟨Nat.le_of_ble_eq_true rfl, Nat.le_of_ble_eq_true rfl⟩) (fw_preV (X := X) hK hnb hW (12, a1.toNatClampNeg, 0) hV3 rfl rfl [.int a2, .int a3]) rfl rfl hl.1 rfl (lv_room (Nat.le_of_ble_eq_true rfl)) dO_place_27 ⟨Nat.zero_le _, Nat.zero_le _⟩) hS (fun H locs hW hS => ?_)
      obtain ⟨σ4, e5⟩ : ∃ z : fw_S, z = cs_moveTo σ a1.toNatClampNeg a2 a3 := ⟨_, rfl⟩
      rw [← e5] at hW
      try rw [← e5] at he
      unfold cs_place_s1 at he
      refine lv_iconst (v := 0) hx hb dO_place_30 (by decide) ?_
      exact fw_iret hx hb hr hlocks hK hnb hW hS he dO_place_31
    · rw [if_pos c2] at he
      refine lv_iconst (v := (-1)) hx hb dO_place_17 (by decide) ?_
      exact fw_iret hx hb hr hlocks hK hnb hW hS he dO_place_18
def cs_clock_s1 (σ3 : fw_S) : Int32 × fw_S :=
  (σ3 (0, 0, 0) 5, σ3)
def cs_clock (σ : fw_S) (a1 : Int32) : Int32 × fw_S :=
  if a1 < 0 then ((-1), σ) else if a1 ≤ 3000 then cs_clock_s1 (fw_st σ (0, 0, 0) 5 ((σ (0, 0, 0) 5) + a1)) else ((-1), σ)
set_option maxHeartbeats 4000000 in
set_option maxRecDepth 100000 in
theorem c_clock (l : Launch) (X : fw_X) (hI : fw_I cV X) (σ : fw_S) (a1 : Int32)  : fw_Mi fw_cl csh cV fw_tys l yO_clock wO_clock (fw_rm 0) X σ [.ref (X.2.2 (0, 0, 0)), .int a1] (cs_clock σ a1) := by
  obtain ⟨out, he⟩ : ∃ z : Int32 × fw_S, z = cs_clock σ a1 := ⟨_, rfl⟩
  rw [← he]
  refine fw_Mi_of (cc := bO_clock) (maxL := 2) (ret := (some .int)) (by decide) rfl (Nat.le_of_ble_eq_true rfl) ?_
  intro p e s m below meth c ls hx hb hr hml hlocks hown hts hK hnb hW hl
  have hS : va_S (fw_A cV X) s.heap s.heap [] := va_S.rf
  have hA : ∀ t, cV t → fw_A cV X (X.2.2 t) := fun t h => ⟨t, h, rfl⟩
  have htb := tb_use hts
  have hl : lv_has ls 2 [(0, .ref (X.2.2 (0, 0, 0))), (1, .int a1)] := hl
  have hown : s.vm.findClass "TapOffice" = some m.cls := hown
  unfold cs_clock at he
  refine lv_iload_n hx hb dO_clock_0 rfl (lv_at hl 1 rfl) ?_
  refine lv_if_lt (tgt := 11) hx hb dO_clock_1 (by decide) (fun c1 => ?_) (fun c1 => ?_)
  · rw [if_pos c1] at he
    refine lv_iconst (v := (-1)) hx hb dO_clock_11 (by decide) ?_
    exact fw_iret hx hb hr hlocks hK hnb hW hS he dO_clock_12
  · rw [if_neg c1] at he
    refine lv_iload_n hx hb dO_clock_4 rfl (lv_at hl 1 rfl) ?_
    refine lv_sipush (v := 3000) hx hb dO_clock_5 (by decide) ?_
    refine lv_icmp_le (tgt := 13) hx hb dO_clock_8 (by decide) (fun c2 => ?_) (fun c2 => ?_)
    · rw [if_pos c2] at he
      refine lv_aload_n hx hb dO_clock_13 rfl (lv_at hl 0 rfl) ?_
      refine lv_dup hx hb dO_clock_14 rfl ?_
      refine fw_get (X := X) (v := .int (σ (0, 0, 0) 5)) hx hb hts hin_O hown hK hW (0, 0, 0) cv0 rfl rfl 5 (by decide) (htb _ m_146 rfl) (fun _ h => h) rfl rfl dO_clock_15 ?_
      refine lv_iload_n hx hb dO_clock_18 rfl (lv_at hl 1 rfl) ?_
      refine lv_iadd hx hb dO_clock_19 ?_
      refine fw_put (X := X) hx hb hts hin_O ty_O ty_O_ok nm_O hown hK hW hI hA hS (0, 0, 0) cv0 rfl rfl rfl 5 (by decide) (htb _ m_146 rfl) (fun _ h => h) rfl rfl (ty := .int) (by decide +kernel) rfl rfl dO_clock_20 (fun H locs hW hS => ?_)
      obtain ⟨σ3, e4⟩ : ∃ z : fw_S, z = fw_st σ (0, 0, 0) 5 ((σ (0, 0, 0) 5) + a1) := ⟨_, rfl⟩
      rw [← e4] at hW
      try rw [← e4] at he
      unfold cs_clock_s1 at he
      refine lv_aload_n hx hb dO_clock_23 rfl (lv_at hl 0 rfl) ?_
      refine fw_get (X := X) (v := .int (σ3 (0, 0, 0) 5)) hx hb hts hin_O hown hK hW (0, 0, 0) cv0 rfl rfl 5 (by decide) (htb _ m_146 rfl) (fun _ h => h) rfl rfl dO_clock_24 ?_
      exact fw_iret hx hb hr hlocks hK hnb hW hS he dO_clock_27
    · rw [if_neg c2] at he
      refine lv_iconst (v := (-1)) hx hb dO_clock_11 (by decide) ?_
      exact fw_iret hx hb hr hlocks hK hnb hW hS he dO_clock_12
def cs_tap_s8 (r23 : Int32) (σ29 : fw_S) : Int32 × fw_S :=
  (r23, σ29)
def cs_tap_s7 (a1 : Int32) (a2 : Int32) (r23 : Int32) (σ27 : fw_S) : Int32 × fw_S :=
  cs_tap_s8 r23 (cs_keepEntry σ27 a2.toNatClampNeg a1 (cs_counter σ27 a1.toNatClampNeg) r23 (cs_read σ27 a1.toNatClampNeg 0))
def cs_tap_s10 (σ33 : fw_S) : Int32 × fw_S :=
  ((-5), σ33)
def cs_tap_s9 (σ31 : fw_S) : Int32 × fw_S :=
  cs_tap_s10 (fw_st σ31 (0, 0, 0) 7 ((σ31 (0, 0, 0) 7) + 1))
def cs_tap_s6 (a1 : Int32) (a2 : Int32) (a3 : Int32) (r23 : Int32) (σ24 : fw_S) : Int32 × fw_S :=
  if a3 = 0 then cs_tap_s7 a1 a2 r23 (cs_writeDraft σ24 a1.toNatClampNeg 8) else cs_tap_s9 (cs_writeDraft σ24 a1.toNatClampNeg a3)
def cs_tap_s3 (r10 : Int32) (σ16 : fw_S) : Int32 × fw_S :=
  (r10, σ16)
def cs_tap_s2 (a1 : Int32) (a2 : Int32) (r10 : Int32) (σ14 : fw_S) : Int32 × fw_S :=
  cs_tap_s3 r10 (cs_keepEntry σ14 a2.toNatClampNeg a1 (cs_counter σ14 a1.toNatClampNeg) r10 (cs_read σ14 a1.toNatClampNeg 0))
def cs_tap_s5 (σ20 : fw_S) : Int32 × fw_S :=
  ((-5), σ20)
def cs_tap_s4 (σ18 : fw_S) : Int32 × fw_S :=
  cs_tap_s5 (fw_st σ18 (0, 0, 0) 7 ((σ18 (0, 0, 0) 7) + 1))
def cs_tap_s1 (a1 : Int32) (a2 : Int32) (a3 : Int32) (r10 : Int32) (σ11 : fw_S) : Int32 × fw_S :=
  if a3 = 0 then cs_tap_s2 a1 a2 r10 (cs_writeDraft σ11 a1.toNatClampNeg 8) else cs_tap_s4 (cs_writeDraft σ11 a1.toNatClampNeg a3)
def cs_tap (σ : fw_S) (a1 : Int32) (a2 : Int32) (a3 : Int32) : Int32 × fw_S :=
  if (cs_isBelow a1 4) = 0 then ((-1), σ) else if (cs_isBelow a2 4) = 0 then ((-1), σ) else if a3 < 0 then ((-1), σ) else if a3 ≤ 8 then if (cs_isFull σ a2.toNatClampNeg) = 0 then if (cs_denies σ a2.toNatClampNeg a1) = 0 then if (cs_isExit σ a2.toNatClampNeg) = 0 then if (cs_least σ) ≤ (cs_read σ a1.toNatClampNeg 0) then cs_tap_s6 a1 a2 a3 ((cs_draftTap σ a1.toNatClampNeg a2.toNatClampNeg (σ (0, 0, 0) 5)).1) ((cs_draftTap σ a1.toNatClampNeg a2.toNatClampNeg (σ (0, 0, 0) 5)).2) else ((-3), σ) else cs_tap_s1 a1 a2 a3 ((cs_draftTap σ a1.toNatClampNeg a2.toNatClampNeg (σ (0, 0, 0) 5)).1) ((cs_draftTap σ a1.toNatClampNeg a2.toNatClampNeg (σ (0, 0, 0) 5)).2) else ((-4), σ) else ((-2), σ) else ((-1), σ)
set_option maxHeartbeats 4000000 in
set_option maxRecDepth 100000 in
theorem c_tap (l : Launch) (X : fw_X) (hI : fw_I cV X) (σ : fw_S) (a1 a2 a3 : Int32) (hz : ∀ v, v < 4 → σ (12, v, 0) 3 = 0 ∨ σ (12, v, 0) 3 = 1) (hs : ∀ v, v < 4 → 0 ≤ σ (12, v, 0) 1) : fw_Mi fw_cl csh cV fw_tys l yO_tap wO_tap (fw_rm 6) X σ [.ref (X.2.2 (0, 0, 0)), .int a1, .int a2, .int a3] (cs_tap σ a1 a2 a3) := by
  obtain ⟨out, he⟩ : ∃ z : Int32 × fw_S, z = cs_tap σ a1 a2 a3 := ⟨_, rfl⟩
  rw [← he]
  refine fw_Mi_of (cc := bO_tap) (maxL := 7) (ret := (some .int)) (by decide) rfl (Nat.le_of_ble_eq_true rfl) ?_
  intro p e s m below meth c ls hx hb hr hml hlocks hown hts hK hnb hW hl
  have hS : va_S (fw_A cV X) s.heap s.heap [] := va_S.rf
  have hA : ∀ t, cV t → fw_A cV X (X.2.2 t) := fun t h => ⟨t, h, rfl⟩
  have htb := tb_use hts
  have hl : lv_has ls 7 [(0, .ref (X.2.2 (0, 0, 0))), (1, .int a1), (2, .int a2), (3, .int a3)] := hl
  have hown : s.vm.findClass "TapOffice" = some m.cls := hown
  unfold cs_tap at he
  refine lv_iload_n hx hb dO_tap_0 rfl (lv_at hl 1 rfl) ?_
  refine lv_iconst (v := 4) hx hb dO_tap_1 (by decide) ?_
  refine fw_kp (va_runS (As := [.int a1, .int 4]) (rest := []) ⟨hx, hb, hml, hown, hts⟩ (c_isBelow l X hI σ a1 4 ) (va_cwS 2 hts (tb_S m_172 m_170 m_171 m_25) rfl rfl rfl (by decide +kernel) ⟨Nat.le_of_ble_eq_true rfl, Nat.le_of_ble_eq_true rfl⟩) (fw_preS (X := X) hK hnb hW [.int a1, .int 4]) rfl rfl hl.1 rfl (lv_room (Nat.le_of_ble_eq_true rfl)) dO_tap_2 ⟨Nat.zero_le _, Nat.zero_le _⟩) hS (fun H locs hW hS => ?_)
  refine lv_if_eq (tgt := 26) hx hb dO_tap_5 (by decide) (fun c1 => ?_) (fun c1 => ?_)
  · rw [if_pos c1] at he
    refine lv_iconst (v := (-1)) hx hb dO_tap_26 (by decide) ?_
    exact fw_iret hx hb hr hlocks hK hnb hW hS he dO_tap_27
  · rw [if_neg c1] at he
    refine lv_iload_n hx hb dO_tap_8 rfl (lv_at hl 2 rfl) ?_
    refine lv_iconst (v := 4) hx hb dO_tap_9 (by decide) ?_
    refine fw_kp (va_runS (As := [.int a2, .int 4]) (rest := []) ⟨hx, hb, hml, hown, hts⟩ (c_isBelow l X hI σ a2 4 ) (va_cwS 2 hts (tb_S m_172 m_170 m_171 m_25) rfl rfl rfl (by decide +kernel) ⟨Nat.le_of_ble_eq_true rfl, Nat.le_of_ble_eq_true rfl⟩) (fw_preS (X := X) hK hnb hW [.int a2, .int 4]) rfl rfl hl.1 rfl (lv_room (Nat.le_of_ble_eq_true rfl)) dO_tap_10 ⟨Nat.zero_le _, Nat.zero_le _⟩) hS (fun H locs hW hS => ?_)
    refine lv_if_eq (tgt := 26) hx hb dO_tap_13 (by decide) (fun c2 => ?_) (fun c2 => ?_)
    · rw [if_pos c2] at he
      refine lv_iconst (v := (-1)) hx hb dO_tap_26 (by decide) ?_
      exact fw_iret hx hb hr hlocks hK hnb hW hS he dO_tap_27
    · rw [if_neg c2] at he
      refine lv_iload_n hx hb dO_tap_16 rfl (lv_at hl 3 rfl) ?_
      refine lv_if_lt (tgt := 26) hx hb dO_tap_17 (by decide) (fun c3 => ?_) (fun c3 => ?_)
      · rw [if_pos c3] at he
        refine lv_iconst (v := (-1)) hx hb dO_tap_26 (by decide) ?_
        exact fw_iret hx hb hr hlocks hK hnb hW hS he dO_tap_27
      · rw [if_neg c3] at he
        refine lv_iload_n hx hb dO_tap_20 rfl (lv_at hl 3 rfl) ?_
        refine lv_bipush (v := 8) hx hb dO_tap_21 (by decide) ?_
        refine lv_icmp_le (tgt := 28) hx hb dO_tap_23 (by decide) (fun c4 => ?_) (fun c4 => ?_)
        · rw [if_pos c4] at he
          refine lv_aload_n hx hb dO_tap_28 rfl (lv_at hl 0 rfl) ?_
          refine fw_get (X := X) (v := .ref (X.2.2 (2, 0, 0))) hx hb hts hin_O hown hK hW (0, 0, 0) cv0 rfl rfl 1 (by decide) (htb _ m_142 rfl) (fun _ h => h) rfl rfl dO_tap_29 ?_
          refine lv_iload_n hx hb dO_tap_32 rfl (lv_at hl 1 rfl) ?_
          refine fw_aald (X := X) hx hb hK hW (2, 0, 0) cv2 rfl 2 rfl rfl a1.toNatClampNeg rfl (10, a1.toNatClampNeg, 0) rfl (ib_in ‹¬ cs_isBelow a1 4 = 0›) dO_tap_33 ?_
          have hV5 : cV (10, a1.toNatClampNeg, 0) := (cve10 (vi_lt (ib_in ‹¬ cs_isBelow a1 4 = 0›)))
          refine lv_astore (lv' := [(4, .ref (X.2.2 (10, a1.toNatClampNeg, 0))), (0, .ref (X.2.2 (0, 0, 0))), (1, .int a1), (2, .int a2), (3, .int a3)]) hx hb dO_tap_34 hl (by decide) rfl (fun ls hl => ?_)
          refine lv_aload_n hx hb dO_tap_36 rfl (lv_at hl 1 rfl) ?_
          refine fw_get (X := X) (v := .ref (X.2.2 (4, 0, 0))) hx hb hts hin_O hown hK hW (0, 0, 0) cv0 rfl rfl 3 (by decide) (htb _ m_144 rfl) (fun _ h => h) rfl rfl dO_tap_37 ?_
          refine lv_iload_n hx hb dO_tap_40 rfl (lv_at hl 3 rfl) ?_
          refine fw_aald (X := X) hx hb hK hW (4, 0, 0) cv4 rfl 4 rfl rfl a2.toNatClampNeg rfl (12, a2.toNatClampNeg, 0) rfl (ib_in ‹¬ cs_isBelow a2 4 = 0›) dO_tap_41 ?_
          have hV6 : cV (12, a2.toNatClampNeg, 0) := (cve12 (vi_lt (ib_in ‹¬ cs_isBelow a2 4 = 0›)))
          refine lv_astore (lv' := [(5, .ref (X.2.2 (12, a2.toNatClampNeg, 0))), (4, .ref (X.2.2 (10, a1.toNatClampNeg, 0))), (0, .ref (X.2.2 (0, 0, 0))), (1, .int a1), (2, .int a2), (3, .int a3)]) hx hb dO_tap_42 hl (by decide) rfl (fun ls hl => ?_)
          refine lv_aload hx hb dO_tap_44 (lv_at hl 0 rfl) ?_
          refine fw_kp (va_runV (As := []) (rest := []) ⟨hx, hb, hml, hown, hts⟩ (c_isFull l X hI σ a2.toNatClampNeg (hV6).1 ) (cwV 0 hts (tb_V m_206 m_203 m_204 m_205 m_30) rfl rfl rfl (by decide +kernel) ⟨Nat.le_of_ble_eq_true rfl, Nat.le_of_ble_eq_true rfl⟩) (fw_preV (X := X) hK hnb hW (12, a2.toNatClampNeg, 0) hV6 rfl rfl []) rfl rfl hl.1 rfl (lv_room (Nat.le_of_ble_eq_true rfl)) dO_tap_46 ⟨Nat.zero_le _, Nat.zero_le _⟩) hS (fun H locs hW hS => ?_)
          refine lv_if_eq (tgt := 55) hx hb dO_tap_49 (by decide) (fun c7 => ?_) (fun c7 => ?_)
          · rw [if_pos c7] at he
            refine lv_aload hx hb dO_tap_55 (lv_at hl 0 rfl) ?_
            refine lv_iload_n hx hb dO_tap_57 rfl (lv_at hl 3 rfl) ?_
            refine fw_kp (va_runV (As := [.int a1]) (rest := []) ⟨hx, hb, hml, hown, hts⟩ (c_denies l X hI σ a2.toNatClampNeg (hV6).1 a1 ) (cwV 1 hts (tb_V m_210 m_207 m_208 m_209 m_30) rfl rfl rfl (by decide +kernel) ⟨Nat.le_of_ble_eq_true rfl, Nat.le_of_ble_eq_true rfl⟩) (fw_preV (X := X) hK hnb hW (12, a2.toNatClampNeg, 0) hV6 rfl rfl [.int a1]) rfl rfl hl.1 rfl (lv_room (Nat.le_of_ble_eq_true rfl)) dO_tap_58 ⟨Nat.zero_le _, Nat.zero_le _⟩) hS (fun H locs hW hS => ?_)
            refine lv_if_eq (tgt := 67) hx hb dO_tap_61 (by decide) (fun c8 => ?_) (fun c8 => ?_)
            · rw [if_pos c8] at he
              refine lv_aload hx hb dO_tap_67 (lv_at hl 0 rfl) ?_
              refine fw_kp (va_runV (As := []) (rest := []) ⟨hx, hb, hml, hown, hts⟩ (c_isExit l X hI σ a2.toNatClampNeg (hV6).1 (hz _ (vi_lt (ib_in ‹¬ cs_isBelow a2 4 = 0›)))) (cwV 0 hts (tb_V m_214 m_211 m_212 m_213 m_30) rfl rfl rfl (by decide +kernel) ⟨Nat.le_of_ble_eq_true rfl, Nat.le_of_ble_eq_true rfl⟩) (fw_preV (X := X) hK hnb hW (12, a2.toNatClampNeg, 0) hV6 rfl rfl []) rfl rfl hl.1 rfl (lv_room (Nat.le_of_ble_eq_true rfl)) dO_tap_69 ⟨Nat.zero_le _, Nat.zero_le _⟩) hS (fun H locs hW hS => ?_)
              refine lv_if_ne (tgt := 94) hx hb dO_tap_72 (by decide) (fun c9 => ?_) (fun c9 => ?_)
              · rw [if_neg c9] at he
                refine lv_aload hx hb dO_tap_94 (lv_at hl 1 rfl) ?_
                refine lv_aload hx hb dO_tap_96 (lv_at hl 0 rfl) ?_
                refine lv_aload_n hx hb dO_tap_98 rfl (lv_at hl 2 rfl) ?_
                refine fw_get (X := X) (v := .int (σ (0, 0, 0) 5)) hx hb hts hin_O hown hK hW (0, 0, 0) cv0 rfl rfl 5 (by decide) (htb _ m_146 rfl) (fun _ h => h) rfl rfl dO_tap_99 ?_
                refine lv_aload_n hx hb dO_tap_102 rfl (lv_at hl 2 rfl) ?_
                refine fw_get (X := X) (v := .ref (X.2.2 (1, 0, 0))) hx hb hts hin_O hown hK hW (0, 0, 0) cv0 rfl rfl 0 (by decide) (htb _ m_141 rfl) (fun _ h => h) rfl rfl dO_tap_103 ?_
                refine fw_ki (va_runV (As := [.ref (X.2.2 (12, a2.toNatClampNeg, 0)), .int (σ (0, 0, 0) 5), .ref (X.2.2 (1, 0, 0))]) (rest := []) ⟨hx, hb, hml, hown, hts⟩ (c_draftTap l X hI σ a1.toNatClampNeg (hV5).1 a2.toNatClampNeg (hV6).1 (σ (0, 0, 0) 5) (hz _ (vi_lt (ib_in ‹¬ cs_isBelow a2 4 = 0›)))) (cwV 3 hts (tb_V m_230 m_227 m_228 m_229 m_27) rfl rfl rfl (by decide +kernel) ⟨Nat.le_of_ble_eq_true rfl, Nat.le_of_ble_eq_true rfl⟩) (fw_preV (X := X) hK hnb hW (10, a1.toNatClampNeg, 0) hV5 rfl rfl [.ref (X.2.2 (12, a2.toNatClampNeg, 0)), .int (σ (0, 0, 0) 5), .ref (X.2.2 (1, 0, 0))]) rfl rfl hl.1 rfl (lv_room (Nat.le_of_ble_eq_true rfl)) dO_tap_106 ⟨Nat.zero_le _, Nat.zero_le _⟩) hS (fun r10 σ11 H locs o12 hW hS => ?_)
                rw [o12] at he
                unfold cs_tap_s1 at he
                dsimp only at he
                have hs : ∀ v, v < 4 → 0 ≤ σ11 (12, v, 0) 1 := fun v hv => by rw [← (show _ = σ11 from congrArg Prod.snd o12), fr_draftTap _ _ _ _ (12, v, 0) (by simp)]; exact hs v hv
                refine lv_istore (lv' := [(6, .int r10), (5, .ref (X.2.2 (12, a2.toNatClampNeg, 0))), (4, .ref (X.2.2 (10, a1.toNatClampNeg, 0))), (0, .ref (X.2.2 (0, 0, 0))), (1, .int a1), (2, .int a2), (3, .int a3)]) hx hb dO_tap_109 hl (by decide) rfl (fun ls hl => ?_)
                refine lv_iload_n hx hb dO_tap_111 rfl (lv_at hl 6 rfl) ?_
                refine lv_if_eq (tgt := 134) hx hb dO_tap_112 (by decide) (fun c13 => ?_) (fun c13 => ?_)
                · rw [if_pos c13] at he
                  refine lv_aload hx hb dO_tap_134 (lv_at hl 2 rfl) ?_
                  refine lv_bipush (v := 8) hx hb dO_tap_136 (by decide) ?_
                  refine fw_kv (va_runV (As := [.int 8]) (rest := []) ⟨hx, hb, hml, hown, hts⟩ (c_writeDraft l X hI σ11 a1.toNatClampNeg (hV5).1 8 ) (cwV 1 hts (tb_V m_287 m_284 m_285 m_286 m_27) rfl rfl rfl (by decide +kernel) ⟨Nat.le_of_ble_eq_true rfl, Nat.le_of_ble_eq_true rfl⟩) (fw_preV (X := X) hK hnb hW (10, a1.toNatClampNeg, 0) hV5 rfl rfl [.int 8]) rfl rfl hl.1 rfl (lv_room (Nat.le_of_ble_eq_true rfl)) dO_tap_138 ⟨Nat.zero_le _, Nat.zero_le _⟩) hS (fun H locs hW hS => ?_)
                  obtain ⟨σ14, e15⟩ : ∃ z : fw_S, z = cs_writeDraft σ11 a1.toNatClampNeg 8 := ⟨_, rfl⟩
                  rw [← e15] at hW
                  try rw [← e15] at he
                  unfold cs_tap_s2 at he
                  have hs : ∀ v, v < 4 → 0 ≤ σ14 (12, v, 0) 1 := fun v hv => by rw [e15, fr_writeDraft _ _ _ (12, v, 0) (by simp)]; exact hs v hv
                  refine lv_aload hx hb dO_tap_141 (lv_at hl 1 rfl) ?_
                  refine lv_iload_n hx hb dO_tap_143 rfl (lv_at hl 4 rfl) ?_
                  refine lv_aload hx hb dO_tap_144 (lv_at hl 2 rfl) ?_
                  refine fw_kp (va_runV (As := []) (rest := [.int a1, .ref (X.2.2 (12, a2.toNatClampNeg, 0))]) ⟨hx, hb, hml, hown, hts⟩ (c_counter l X hI σ14 a1.toNatClampNeg (hV5).1 ) (cwV 0 hts (tb_V m_243 m_288 m_241 m_242 m_27) rfl rfl rfl (by decide +kernel) ⟨Nat.le_of_ble_eq_true rfl, Nat.le_of_ble_eq_true rfl⟩) (fw_preV (X := X) hK hnb hW (10, a1.toNatClampNeg, 0) hV5 rfl rfl []) rfl rfl hl.1 rfl (lv_room (Nat.le_of_ble_eq_true rfl)) dO_tap_146 ⟨Nat.zero_le _, Nat.zero_le _⟩) hS (fun H locs hW hS => ?_)
                  refine lv_iload hx hb dO_tap_149 (lv_at hl 0 rfl) ?_
                  refine lv_aload hx hb dO_tap_151 (lv_at hl 2 rfl) ?_
                  refine lv_iconst (v := 0) hx hb dO_tap_153 (by decide) ?_
                  refine fw_kp (va_runV (As := [.int 0]) (rest := [.int r10, .int (cs_counter σ14 a1.toNatClampNeg), .int a1, .ref (X.2.2 (12, a2.toNatClampNeg, 0))]) ⟨hx, hb, hml, hown, hts⟩ (c_read l X hI σ14 a1.toNatClampNeg (hV5).1 0 (by unfold vp_in; decide)) (cwV 1 hts (tb_V m_218 m_215 m_216 m_217 m_27) rfl rfl rfl (by decide +kernel) ⟨Nat.le_of_ble_eq_true rfl, Nat.le_of_ble_eq_true rfl⟩) (fw_preV (X := X) hK hnb hW (10, a1.toNatClampNeg, 0) hV5 rfl rfl [.int 0]) rfl rfl hl.1 rfl (lv_room (Nat.le_of_ble_eq_true rfl)) dO_tap_154 ⟨Nat.zero_le _, Nat.zero_le _⟩) hS (fun H locs hW hS => ?_)
                  refine fw_kv (va_runV (As := [.int a1, .int (cs_counter σ14 a1.toNatClampNeg), .int r10, .int (cs_read σ14 a1.toNatClampNeg 0)]) (rest := []) ⟨hx, hb, hml, hown, hts⟩ (c_keepEntry l X hI σ14 a2.toNatClampNeg (hV6).1 a1 (cs_counter σ14 a1.toNatClampNeg) r10 (cs_read σ14 a1.toNatClampNeg 0) (hs _ (vi_lt (ib_in ‹¬ cs_isBelow a2 4 = 0›)))) (cwV 4 hts (tb_V m_292 m_289 m_290 m_291 m_30) rfl rfl rfl (by decide +kernel) ⟨Nat.le_of_ble_eq_true rfl, Nat.le_of_ble_eq_true rfl⟩) (fw_preV (X := X) hK hnb hW (12, a2.toNatClampNeg, 0) hV6 rfl rfl [.int a1, .int (cs_counter σ14 a1.toNatClampNeg), .int r10, .int (cs_read σ14 a1.toNatClampNeg 0)]) rfl rfl hl.1 rfl (lv_room (Nat.le_of_ble_eq_true rfl)) dO_tap_157 ⟨Nat.zero_le _, Nat.zero_le _⟩) hS (fun H locs hW hS => ?_)
                  obtain ⟨σ16, e17⟩ : ∃ z : fw_S, z = cs_keepEntry σ14 a2.toNatClampNeg a1 (cs_counter σ14 a1.toNatClampNeg) r10 (cs_read σ14 a1.toNatClampNeg 0) := ⟨_, rfl⟩
                  rw [← e17] at hW
                  try rw [← e17] at he
                  unfold cs_tap_s3 at he
                  refine lv_iload hx hb dO_tap_160 (lv_at hl 0 rfl) ?_
                  exact fw_iret hx hb hr hlocks hK hnb hW hS he dO_tap_162
                · rw [if_neg c13] at he
                  refine lv_aload hx hb dO_tap_115 (lv_at hl 2 rfl) ?_
                  refine lv_iload_n hx hb dO_tap_117 rfl (lv_at hl 6 rfl) ?_
                  refine fw_kv (va_runV (As := [.int a3]) (rest := []) ⟨hx, hb, hml, hown, hts⟩ (c_writeDraft l X hI σ11 a1.toNatClampNeg (hV5).1 a3 ) (cwV 1 hts (tb_V m_287 m_284 m_285 m_286 m_27) rfl rfl rfl (by decide +kernel) ⟨Nat.le_of_ble_eq_true rfl, Nat.le_of_ble_eq_true rfl⟩) (fw_preV (X := X) hK hnb hW (10, a1.toNatClampNeg, 0) hV5 rfl rfl [.int a3]) rfl rfl hl.1 rfl (lv_room (Nat.le_of_ble_eq_true rfl)) dO_tap_118 ⟨Nat.zero_le _, Nat.zero_le _⟩) hS (fun H locs hW hS => ?_)
                  obtain ⟨σ18, e19⟩ : ∃ z : fw_S, z = cs_writeDraft σ11 a1.toNatClampNeg a3 := ⟨_, rfl⟩
                  rw [← e19] at hW
                  try rw [← e19] at he
                  unfold cs_tap_s4 at he
                  have hs : ∀ v, v < 4 → 0 ≤ σ18 (12, v, 0) 1 := fun v hv => by rw [e19, fr_writeDraft _ _ _ (12, v, 0) (by simp)]; exact hs v hv
                  refine lv_aload_n hx hb dO_tap_121 rfl (lv_at hl 3 rfl) ?_
                  refine lv_dup hx hb dO_tap_122 rfl ?_
                  refine fw_get (X := X) (v := .int (σ18 (0, 0, 0) 7)) hx hb hts hin_O hown hK hW (0, 0, 0) cv0 rfl rfl 7 (by decide) (htb _ m_148 rfl) (fun _ h => h) rfl rfl dO_tap_123 ?_
                  refine lv_iconst (v := 1) hx hb dO_tap_126 (by decide) ?_
                  refine lv_iadd hx hb dO_tap_127 ?_
                  refine fw_put (X := X) hx hb hts hin_O ty_O ty_O_ok nm_O hown hK hW hI hA hS (0, 0, 0) cv0 rfl rfl rfl 7 (by decide) (htb _ m_148 rfl) (fun _ h => h) rfl rfl (ty := .int) (by decide +kernel) rfl rfl dO_tap_128 (fun H locs hW hS => ?_)
                  obtain ⟨σ20, e21⟩ : ∃ z : fw_S, z = fw_st σ18 (0, 0, 0) 7 ((σ18 (0, 0, 0) 7) + 1) := ⟨_, rfl⟩
                  rw [← e21] at hW
                  try rw [← e21] at he
                  unfold cs_tap_s5 at he
                  refine lv_bipush (v := (-5)) hx hb dO_tap_131 (by decide) ?_
                  exact fw_iret hx hb hr hlocks hK hnb hW hS he dO_tap_133
              · rw [if_pos c9] at he
                refine lv_aload hx hb dO_tap_75 (lv_at hl 1 rfl) ?_
                refine lv_iconst (v := 0) hx hb dO_tap_77 (by decide) ?_
                refine fw_kp (va_runV (As := [.int 0]) (rest := []) ⟨hx, hb, hml, hown, hts⟩ (c_read l X hI σ a1.toNatClampNeg (hV5).1 0 (by unfold vp_in; decide)) (cwV 1 hts (tb_V m_218 m_215 m_216 m_217 m_27) rfl rfl rfl (by decide +kernel) ⟨Nat.le_of_ble_eq_true rfl, Nat.le_of_ble_eq_true rfl⟩) (fw_preV (X := X) hK hnb hW (10, a1.toNatClampNeg, 0) hV5 rfl rfl [.int 0]) rfl rfl hl.1 rfl (lv_room (Nat.le_of_ble_eq_true rfl)) dO_tap_78 ⟨Nat.zero_le _, Nat.zero_le _⟩) hS (fun H locs hW hS => ?_)
                refine lv_aload_n hx hb dO_tap_81 rfl (lv_at hl 2 rfl) ?_
                refine fw_get (X := X) (v := .ref (X.2.2 (1, 0, 0))) hx hb hts hin_O hown hK hW (0, 0, 0) cv0 rfl rfl 0 (by decide) (htb _ m_141 rfl) (fun _ h => h) rfl rfl dO_tap_82 ?_
                refine fw_kp (va_runV (As := []) (rest := [.int (cs_read σ a1.toNatClampNeg 0)]) ⟨hx, hb, hml, hown, hts⟩ (c_least l X hI σ  ) (cwV 0 hts (tb_V m_226 m_223 m_224 m_225 m_26) rfl rfl rfl (by decide +kernel) ⟨Nat.le_of_ble_eq_true rfl, Nat.le_of_ble_eq_true rfl⟩) (fw_preV (X := X) hK hnb hW (1, 0, 0) cv1 rfl rfl []) rfl rfl hl.1 rfl (lv_room (Nat.le_of_ble_eq_true rfl)) dO_tap_85 ⟨Nat.zero_le _, Nat.zero_le _⟩) hS (fun H locs hW hS => ?_)
                refine lv_icmp_ge (tgt := 94) hx hb dO_tap_88 (by decide) (fun c22 => ?_) (fun c22 => ?_)
                · rw [if_pos c22] at he
                  refine lv_aload hx hb dO_tap_94 (lv_at hl 1 rfl) ?_
                  refine lv_aload hx hb dO_tap_96 (lv_at hl 0 rfl) ?_
                  refine lv_aload_n hx hb dO_tap_98 rfl (lv_at hl 2 rfl) ?_
                  refine fw_get (X := X) (v := .int (σ (0, 0, 0) 5)) hx hb hts hin_O hown hK hW (0, 0, 0) cv0 rfl rfl 5 (by decide) (htb _ m_146 rfl) (fun _ h => h) rfl rfl dO_tap_99 ?_
                  refine lv_aload_n hx hb dO_tap_102 rfl (lv_at hl 2 rfl) ?_
                  refine fw_get (X := X) (v := .ref (X.2.2 (1, 0, 0))) hx hb hts hin_O hown hK hW (0, 0, 0) cv0 rfl rfl 0 (by decide) (htb _ m_141 rfl) (fun _ h => h) rfl rfl dO_tap_103 ?_
                  refine fw_ki (va_runV (As := [.ref (X.2.2 (12, a2.toNatClampNeg, 0)), .int (σ (0, 0, 0) 5), .ref (X.2.2 (1, 0, 0))]) (rest := []) ⟨hx, hb, hml, hown, hts⟩ (c_draftTap l X hI σ a1.toNatClampNeg (hV5).1 a2.toNatClampNeg (hV6).1 (σ (0, 0, 0) 5) (hz _ (vi_lt (ib_in ‹¬ cs_isBelow a2 4 = 0›)))) (cwV 3 hts (tb_V m_230 m_227 m_228 m_229 m_27) rfl rfl rfl (by decide +kernel) ⟨Nat.le_of_ble_eq_true rfl, Nat.le_of_ble_eq_true rfl⟩) (fw_preV (X := X) hK hnb hW (10, a1.toNatClampNeg, 0) hV5 rfl rfl [.ref (X.2.2 (12, a2.toNatClampNeg, 0)), .int (σ (0, 0, 0) 5), .ref (X.2.2 (1, 0, 0))]) rfl rfl hl.1 rfl (lv_room (Nat.le_of_ble_eq_true rfl)) dO_tap_106 ⟨Nat.zero_le _, Nat.zero_le _⟩) hS (fun r23 σ24 H locs o25 hW hS => ?_)
                  rw [o25] at he
                  unfold cs_tap_s6 at he
                  dsimp only at he
                  have hs : ∀ v, v < 4 → 0 ≤ σ24 (12, v, 0) 1 := fun v hv => by rw [← (show _ = σ24 from congrArg Prod.snd o25), fr_draftTap _ _ _ _ (12, v, 0) (by simp)]; exact hs v hv
                  refine lv_istore (lv' := [(6, .int r23), (5, .ref (X.2.2 (12, a2.toNatClampNeg, 0))), (4, .ref (X.2.2 (10, a1.toNatClampNeg, 0))), (0, .ref (X.2.2 (0, 0, 0))), (1, .int a1), (2, .int a2), (3, .int a3)]) hx hb dO_tap_109 hl (by decide) rfl (fun ls hl => ?_)
                  refine lv_iload_n hx hb dO_tap_111 rfl (lv_at hl 6 rfl) ?_
                  refine lv_if_eq (tgt := 134) hx hb dO_tap_112 (by decide) (fun c26 => ?_) (fun c26 => ?_)
                  · rw [if_pos c26] at he
                    refine lv_aload hx hb dO_tap_134 (lv_at hl 2 rfl) ?_
                    refine lv_bipush (v := 8) hx hb dO_tap_136 (by decide) ?_
                    refine fw_kv (va_runV (As := [.int 8]) (rest := []) ⟨hx, hb, hml, hown, hts⟩ (c_writeDraft l X hI σ24 a1.toNatClampNeg (hV5).1 8 ) (cwV 1 hts (tb_V m_287 m_284 m_285 m_286 m_27) rfl rfl rfl (by decide +kernel) ⟨Nat.le_of_ble_eq_true rfl, Nat.le_of_ble_eq_true rfl⟩) (fw_preV (X := X) hK hnb hW (10, a1.toNatClampNeg, 0) hV5 rfl rfl [.int 8]) rfl rfl hl.1 rfl (lv_room (Nat.le_of_ble_eq_true rfl)) dO_tap_138 ⟨Nat.zero_le _, Nat.zero_le _⟩) hS (fun H locs hW hS => ?_)
                    obtain ⟨σ27, e28⟩ : ∃ z : fw_S, z = cs_writeDraft σ24 a1.toNatClampNeg 8 := ⟨_, rfl⟩
                    rw [← e28] at hW
                    try rw [← e28] at he
                    unfold cs_tap_s7 at he
                    have hs : ∀ v, v < 4 → 0 ≤ σ27 (12, v, 0) 1 := fun v hv => by rw [e28, fr_writeDraft _ _ _ (12, v, 0) (by simp)]; exact hs v hv
                    refine lv_aload hx hb dO_tap_141 (lv_at hl 1 rfl) ?_
                    refine lv_iload_n hx hb dO_tap_143 rfl (lv_at hl 4 rfl) ?_
                    refine lv_aload hx hb dO_tap_144 (lv_at hl 2 rfl) ?_
                    refine fw_kp (va_runV (As := []) (rest := [.int a1, .ref (X.2.2 (12, a2.toNatClampNeg, 0))]) ⟨hx, hb, hml, hown, hts⟩ (c_counter l X hI σ27 a1.toNatClampNeg (hV5).1 ) (cwV 0 hts (tb_V m_243 m_288 m_241 m_242 m_27) rfl rfl rfl (by decide +kernel) ⟨Nat.le_of_ble_eq_true rfl, Nat.le_of_ble_eq_true rfl⟩) (fw_preV (X := X) hK hnb hW (10, a1.toNatClampNeg, 0) hV5 rfl rfl []) rfl rfl hl.1 rfl (lv_room (Nat.le_of_ble_eq_true rfl)) dO_tap_146 ⟨Nat.zero_le _, Nat.zero_le _⟩) hS (fun H locs hW hS => ?_)
                    refine lv_iload hx hb dO_tap_149 (lv_at hl 0 rfl) ?_
                    refine lv_aload hx hb dO_tap_151 (lv_at hl 2 rfl) ?_
                    refine lv_iconst (v := 0) hx hb dO_tap_153 (by decide) ?_
                    refine fw_kp (va_runV (As := [.int 0]) (rest := [.int r23, .int (cs_counter σ27 a1.toNatClampNeg), .int a1, .ref (X.2.2 (12, a2.toNatClampNeg, 0))]) ⟨hx, hb, hml, hown, hts⟩ (c_read l X hI σ27 a1.toNatClampNeg (hV5).1 0 (by unfold vp_in; decide)) (cwV 1 hts (tb_V m_218 m_215 m_216 m_217 m_27) rfl rfl rfl (by decide +kernel) ⟨Nat.le_of_ble_eq_true rfl, Nat.le_of_ble_eq_true rfl⟩) (fw_preV (X := X) hK hnb hW (10, a1.toNatClampNeg, 0) hV5 rfl rfl [.int 0]) rfl rfl hl.1 rfl (lv_room (Nat.le_of_ble_eq_true rfl)) dO_tap_154 ⟨Nat.zero_le _, Nat.zero_le _⟩) hS (fun H locs hW hS => ?_)
                    refine fw_kv (va_runV (As := [.int a1, .int (cs_counter σ27 a1.toNatClampNeg), .int r23, .int (cs_read σ27 a1.toNatClampNeg 0)]) (rest := []) ⟨hx, hb, hml, hown, hts⟩ (c_keepEntry l X hI σ27 a2.toNatClampNeg (hV6).1 a1 (cs_counter σ27 a1.toNatClampNeg) r23 (cs_read σ27 a1.toNatClampNeg 0) (hs _ (vi_lt (ib_in ‹¬ cs_isBelow a2 4 = 0›)))) (cwV 4 hts (tb_V m_292 m_289 m_290 m_291 m_30) rfl rfl rfl (by decide +kernel) ⟨Nat.le_of_ble_eq_true rfl, Nat.le_of_ble_eq_true rfl⟩) (fw_preV (X := X) hK hnb hW (12, a2.toNatClampNeg, 0) hV6 rfl rfl [.int a1, .int (cs_counter σ27 a1.toNatClampNeg), .int r23, .int (cs_read σ27 a1.toNatClampNeg 0)]) rfl rfl hl.1 rfl (lv_room (Nat.le_of_ble_eq_true rfl)) dO_tap_157 ⟨Nat.zero_le _, Nat.zero_le _⟩) hS (fun H locs hW hS => ?_)
                    obtain ⟨σ29, e30⟩ : ∃ z : fw_S, z = cs_keepEntry σ27 a2.toNatClampNeg a1 (cs_counter σ27 a1.toNatClampNeg) r23 (cs_read σ27 a1.toNatClampNeg 0) := ⟨_, rfl⟩
                    rw [← e30] at hW
                    try rw [← e30] at he
                    unfold cs_tap_s8 at he
                    refine lv_iload hx hb dO_tap_160 (lv_at hl 0 rfl) ?_
                    exact fw_iret hx hb hr hlocks hK hnb hW hS he dO_tap_162
                  · rw [if_neg c26] at he
                    refine lv_aload hx hb dO_tap_115 (lv_at hl 2 rfl) ?_
                    refine lv_iload_n hx hb dO_tap_117 rfl (lv_at hl 6 rfl) ?_
                    refine fw_kv (va_runV (As := [.int a3]) (rest := []) ⟨hx, hb, hml, hown, hts⟩ (c_writeDraft l X hI σ24 a1.toNatClampNeg (hV5).1 a3 ) (cwV 1 hts (tb_V m_287 m_284 m_285 m_286 m_27) rfl rfl rfl (by decide +kernel) ⟨Nat.le_of_ble_eq_true rfl, Nat.le_of_ble_eq_true rfl⟩) (fw_preV (X := X) hK hnb hW (10, a1.toNatClampNeg, 0) hV5 rfl rfl [.int a3]) rfl rfl hl.1 rfl (lv_room (Nat.le_of_ble_eq_true rfl)) dO_tap_118 ⟨Nat.zero_le _, Nat.zero_le _⟩) hS (fun H locs hW hS => ?_)
                    obtain ⟨σ31, e32⟩ : ∃ z : fw_S, z = cs_writeDraft σ24 a1.toNatClampNeg a3 := ⟨_, rfl⟩
                    rw [← e32] at hW
                    try rw [← e32] at he
                    unfold cs_tap_s9 at he
                    have hs : ∀ v, v < 4 → 0 ≤ σ31 (12, v, 0) 1 := fun v hv => by rw [e32, fr_writeDraft _ _ _ (12, v, 0) (by simp)]; exact hs v hv
                    refine lv_aload_n hx hb dO_tap_121 rfl (lv_at hl 3 rfl) ?_
                    refine lv_dup hx hb dO_tap_122 rfl ?_
                    refine fw_get (X := X) (v := .int (σ31 (0, 0, 0) 7)) hx hb hts hin_O hown hK hW (0, 0, 0) cv0 rfl rfl 7 (by decide) (htb _ m_148 rfl) (fun _ h => h) rfl rfl dO_tap_123 ?_
                    refine lv_iconst (v := 1) hx hb dO_tap_126 (by decide) ?_
                    refine lv_iadd hx hb dO_tap_127 ?_
                    refine fw_put (X := X) hx hb hts hin_O ty_O ty_O_ok nm_O hown hK hW hI hA hS (0, 0, 0) cv0 rfl rfl rfl 7 (by decide) (htb _ m_148 rfl) (fun _ h => h) rfl rfl (ty := .int) (by decide +kernel) rfl rfl dO_tap_128 (fun H locs hW hS => ?_)
                    obtain ⟨σ33, e34⟩ : ∃ z : fw_S, z = fw_st σ31 (0, 0, 0) 7 ((σ31 (0, 0, 0) 7) + 1) := ⟨_, rfl⟩
                    rw [← e34] at hW
                    try rw [← e34] at he
                    unfold cs_tap_s10 at he
                    refine lv_bipush (v := (-5)) hx hb dO_tap_131 (by decide) ?_
                    exact fw_iret hx hb hr hlocks hK hnb hW hS he dO_tap_133
                · rw [if_neg c22] at he
                  refine lv_bipush (v := (-3)) hx hb dO_tap_91 (by decide) ?_
                  exact fw_iret hx hb hr hlocks hK hnb hW hS he dO_tap_93
            · rw [if_neg c8] at he
              refine lv_bipush (v := (-4)) hx hb dO_tap_64 (by decide) ?_
              exact fw_iret hx hb hr hlocks hK hnb hW hS he dO_tap_66
          · rw [if_neg c7] at he
            refine lv_bipush (v := (-2)) hx hb dO_tap_52 (by decide) ?_
            exact fw_iret hx hb hr hlocks hK hnb hW hS he dO_tap_54
        · rw [if_neg c4] at he
          refine lv_iconst (v := (-1)) hx hb dO_tap_26 (by decide) ?_
          exact fw_iret hx hb hr hlocks hK hnb hW hS he dO_tap_27
def cs_topUp_s4 (z10 : Int32) (σ13 : fw_S) : Int32 × fw_S :=
  (z10, σ13)
def cs_topUp_s3 (a1 : Int32) (a2 : Int32) (σ8 : fw_S) (z10 : Int32) : Int32 × fw_S :=
  cs_topUp_s4 z10 (cs_enterTopUp σ8 a1.toNatClampNeg (cs_counter σ8 a1.toNatClampNeg) a2 z10)
def cs_topUp_s2 (a1 : Int32) (a2 : Int32) (σ8 : fw_S) : Int32 × fw_S :=
  cs_topUp_s3 a1 a2 σ8 (cs_read σ8 a1.toNatClampNeg 0)
def cs_topUp_s1 (a1 : Int32) (a2 : Int32) (σ6 : fw_S) : Int32 × fw_S :=
  cs_topUp_s2 a1 a2 (cs_writeDraft σ6 a1.toNatClampNeg 8)
def cs_topUp (σ : fw_S) (a1 : Int32) (a2 : Int32) : Int32 × fw_S :=
  if (cs_isBelow a1 4) = 0 then ((-1), σ) else if a2 < 1 then ((-1), σ) else if a2 ≤ 999 then if ((cs_read σ a1.toNatClampNeg 0) + a2) ≤ 9999 then cs_topUp_s1 a1 a2 (cs_draftTopUp σ a1.toNatClampNeg a2 (σ (0, 0, 0) 5)) else ((-1), σ) else ((-1), σ)
set_option maxHeartbeats 4000000 in
set_option maxRecDepth 100000 in
theorem c_topUp (l : Launch) (X : fw_X) (hI : fw_I cV X) (σ : fw_S) (a1 a2 : Int32)  : fw_Mi fw_cl csh cV fw_tys l yO_topUp wO_topUp (fw_rm 6) X σ [.ref (X.2.2 (0, 0, 0)), .int a1, .int a2] (cs_topUp σ a1 a2) := by
  obtain ⟨out, he⟩ : ∃ z : Int32 × fw_S, z = cs_topUp σ a1 a2 := ⟨_, rfl⟩
  rw [← he]
  refine fw_Mi_of (cc := bO_topUp) (maxL := 5) (ret := (some .int)) (by decide) rfl (Nat.le_of_ble_eq_true rfl) ?_
  intro p e s m below meth c ls hx hb hr hml hlocks hown hts hK hnb hW hl
  have hS : va_S (fw_A cV X) s.heap s.heap [] := va_S.rf
  have hA : ∀ t, cV t → fw_A cV X (X.2.2 t) := fun t h => ⟨t, h, rfl⟩
  have htb := tb_use hts
  have hl : lv_has ls 5 [(0, .ref (X.2.2 (0, 0, 0))), (1, .int a1), (2, .int a2)] := hl
  have hown : s.vm.findClass "TapOffice" = some m.cls := hown
  unfold cs_topUp at he
  refine lv_iload_n hx hb dO_topUp_0 rfl (lv_at hl 1 rfl) ?_
  refine lv_iconst (v := 4) hx hb dO_topUp_1 (by decide) ?_
  refine fw_kp (va_runS (As := [.int a1, .int 4]) (rest := []) ⟨hx, hb, hml, hown, hts⟩ (c_isBelow l X hI σ a1 4 ) (va_cwS 2 hts (tb_S m_172 m_170 m_171 m_25) rfl rfl rfl (by decide +kernel) ⟨Nat.le_of_ble_eq_true rfl, Nat.le_of_ble_eq_true rfl⟩) (fw_preS (X := X) hK hnb hW [.int a1, .int 4]) rfl rfl hl.1 rfl (lv_room (Nat.le_of_ble_eq_true rfl)) dO_topUp_2 ⟨Nat.zero_le _, Nat.zero_le _⟩) hS (fun H locs hW hS => ?_)
  refine lv_if_eq (tgt := 20) hx hb dO_topUp_5 (by decide) (fun c1 => ?_) (fun c1 => ?_)
  · rw [if_pos c1] at he
    refine lv_iconst (v := (-1)) hx hb dO_topUp_20 (by decide) ?_
    exact fw_iret hx hb hr hlocks hK hnb hW hS he dO_topUp_21
  · rw [if_neg c1] at he
    refine lv_iload_n hx hb dO_topUp_8 rfl (lv_at hl 2 rfl) ?_
    refine lv_iconst (v := 1) hx hb dO_topUp_9 (by decide) ?_
    refine lv_icmp_lt (tgt := 20) hx hb dO_topUp_10 (by decide) (fun c2 => ?_) (fun c2 => ?_)
    · rw [if_pos c2] at he
      refine lv_iconst (v := (-1)) hx hb dO_topUp_20 (by decide) ?_
      exact fw_iret hx hb hr hlocks hK hnb hW hS he dO_topUp_21
    · rw [if_neg c2] at he
      refine lv_iload_n hx hb dO_topUp_13 rfl (lv_at hl 2 rfl) ?_
      refine lv_sipush (v := 999) hx hb dO_topUp_14 (by decide) ?_
      refine lv_icmp_le (tgt := 22) hx hb dO_topUp_17 (by decide) (fun c3 => ?_) (fun c3 => ?_)
      · rw [if_pos c3] at he
        refine lv_aload_n hx hb dO_topUp_22 rfl (lv_at hl 0 rfl) ?_
        refine fw_get (X := X) (v := .ref (X.2.2 (2, 0, 0))) hx hb hts hin_O hown hK hW (0, 0, 0) cv0 rfl rfl 1 (by decide) (htb _ m_142 rfl) (fun _ h => h) rfl rfl dO_topUp_23 ?_
        refine lv_iload_n hx hb dO_topUp_26 rfl (lv_at hl 1 rfl) ?_
        refine fw_aald (X := X) hx hb hK hW (2, 0, 0) cv2 rfl 2 rfl rfl a1.toNatClampNeg rfl (10, a1.toNatClampNeg, 0) rfl (ib_in ‹¬ cs_isBelow a1 4 = 0›) dO_topUp_27 ?_
        have hV4 : cV (10, a1.toNatClampNeg, 0) := (cve10 (vi_lt (ib_in ‹¬ cs_isBelow a1 4 = 0›)))
        refine lv_astore_n (lv' := [(3, .ref (X.2.2 (10, a1.toNatClampNeg, 0))), (0, .ref (X.2.2 (0, 0, 0))), (1, .int a1), (2, .int a2)]) hx hb dO_topUp_28 rfl hl (by decide) rfl (fun ls hl => ?_)
        refine lv_aload_n hx hb dO_topUp_29 rfl (lv_at hl 0 rfl) ?_
        refine lv_iconst (v := 0) hx hb dO_topUp_30 (by decide) ?_
        refine fw_kp (va_runV (As := [.int 0]) (rest := []) ⟨hx, hb, hml, hown, hts⟩ (c_read l X hI σ a1.toNatClampNeg (hV4).1 0 (by unfold vp_in; decide)) (cwV 1 hts (tb_V m_218 m_215 m_216 m_217 m_27) rfl rfl rfl (by decide +kernel) ⟨Nat.le_of_ble_eq_true rfl, Nat.le_of_ble_eq_true rfl⟩) (fw_preV (X := X) hK hnb hW (10, a1.toNatClampNeg, 0) hV4 rfl rfl [.int 0]) rfl rfl hl.1 rfl (lv_room (Nat.le_of_ble_eq_true rfl)) dO_topUp_31 ⟨Nat.zero_le _, Nat.zero_le _⟩) hS (fun H locs hW hS => ?_)
        refine lv_iload_n hx hb dO_topUp_34 rfl (lv_at hl 3 rfl) ?_
        refine lv_iadd hx hb dO_topUp_35 ?_
        refine lv_sipush (v := 9999) hx hb dO_topUp_36 (by decide) ?_
        refine lv_icmp_le (tgt := 44) hx hb dO_topUp_39 (by decide) (fun c5 => ?_) (fun c5 => ?_)
        · rw [if_pos c5] at he
          refine lv_aload_n hx hb dO_topUp_44 rfl (lv_at hl 0 rfl) ?_
          refine lv_iload_n hx hb dO_topUp_45 rfl (lv_at hl 3 rfl) ?_
          refine lv_aload_n hx hb dO_topUp_46 rfl (lv_at hl 1 rfl) ?_
          refine fw_get (X := X) (v := .int (σ (0, 0, 0) 5)) hx hb hts hin_O hown hK hW (0, 0, 0) cv0 rfl rfl 5 (by decide) (htb _ m_146 rfl) (fun _ h => h) rfl rfl dO_topUp_47 ?_
          refine fw_kv (va_runV (As := [.int a2, .int (σ (0, 0, 0) 5)]) (rest := []) ⟨hx, hb, hml, hown, hts⟩ (c_draftTopUp l X hI σ a1.toNatClampNeg (hV4).1 a2 (σ (0, 0, 0) 5) ) (cwV 2 hts (tb_V m_301 m_298 m_299 m_300 m_27) rfl rfl rfl (by decide +kernel) ⟨Nat.le_of_ble_eq_true rfl, Nat.le_of_ble_eq_true rfl⟩) (fw_preV (X := X) hK hnb hW (10, a1.toNatClampNeg, 0) hV4 rfl rfl [.int a2, .int (σ (0, 0, 0) 5)]) rfl rfl hl.1 rfl (lv_room (Nat.le_of_ble_eq_true rfl)) dO_topUp_50 ⟨Nat.zero_le _, Nat.zero_le _⟩) hS (fun H locs hW hS => ?_)
          obtain ⟨σ6, e7⟩ : ∃ z : fw_S, z = cs_draftTopUp σ a1.toNatClampNeg a2 (σ (0, 0, 0) 5) := ⟨_, rfl⟩
          rw [← e7] at hW
          try rw [← e7] at he
          unfold cs_topUp_s1 at he
          refine lv_aload_n hx hb dO_topUp_53 rfl (lv_at hl 0 rfl) ?_
          refine lv_bipush (v := 8) hx hb dO_topUp_54 (by decide) ?_
          refine fw_kv (va_runV (As := [.int 8]) (rest := []) ⟨hx, hb, hml, hown, hts⟩ (c_writeDraft l X hI σ6 a1.toNatClampNeg (hV4).1 8 ) (cwV 1 hts (tb_V m_287 m_284 m_285 m_286 m_27) rfl rfl rfl (by decide +kernel) ⟨Nat.le_of_ble_eq_true rfl, Nat.le_of_ble_eq_true rfl⟩) (fw_preV (X := X) hK hnb hW (10, a1.toNatClampNeg, 0) hV4 rfl rfl [.int 8]) rfl rfl hl.1 rfl (lv_room (Nat.le_of_ble_eq_true rfl)) dO_topUp_56 ⟨Nat.zero_le _, Nat.zero_le _⟩) hS (fun H locs hW hS => ?_)
          obtain ⟨σ8, e9⟩ : ∃ z : fw_S, z = cs_writeDraft σ6 a1.toNatClampNeg 8 := ⟨_, rfl⟩
          rw [← e9] at hW
          try rw [← e9] at he
          unfold cs_topUp_s2 at he
          refine lv_aload_n hx hb dO_topUp_59 rfl (lv_at hl 0 rfl) ?_
          refine lv_iconst (v := 0) hx hb dO_topUp_60 (by decide) ?_
          refine fw_kp (va_runV (As := [.int 0]) (rest := []) ⟨hx, hb, hml, hown, hts⟩ (c_read l X hI σ8 a1.toNatClampNeg (hV4).1 0 (by unfold vp_in; decide)) (cwV 1 hts (tb_V m_218 m_215 m_216 m_217 m_27) rfl rfl rfl (by decide +kernel) ⟨Nat.le_of_ble_eq_true rfl, Nat.le_of_ble_eq_true rfl⟩) (fw_preV (X := X) hK hnb hW (10, a1.toNatClampNeg, 0) hV4 rfl rfl [.int 0]) rfl rfl hl.1 rfl (lv_room (Nat.le_of_ble_eq_true rfl)) dO_topUp_61 ⟨Nat.zero_le _, Nat.zero_le _⟩) hS (fun H locs hW hS => ?_)
          refine lv_topi (fun z10 e11 => ?_)
          try rw [← e11] at he
          unfold cs_topUp_s3 at he
          refine lv_istore (lv' := [(4, .int z10), (3, .ref (X.2.2 (10, a1.toNatClampNeg, 0))), (0, .ref (X.2.2 (0, 0, 0))), (1, .int a1), (2, .int a2)]) hx hb dO_topUp_64 hl (by decide) rfl (fun ls hl => ?_)
          refine lv_aload_n hx hb dO_topUp_66 rfl (lv_at hl 2 rfl) ?_
          refine fw_get (X := X) (v := .ref (X.2.2 (3, 0, 0))) hx hb hts hin_O hown hK hW (0, 0, 0) cv0 rfl rfl 2 (by decide) (htb _ m_143 rfl) (fun _ h => h) rfl rfl dO_topUp_67 ?_
          refine lv_iload_n hx hb dO_topUp_70 rfl (lv_at hl 3 rfl) ?_
          refine fw_aald (X := X) hx hb hK hW (3, 0, 0) cv3 rfl 3 rfl rfl a1.toNatClampNeg rfl (11, a1.toNatClampNeg, 0) rfl (ib_in ‹¬ cs_isBelow a1 4 = 0›) dO_topUp_71 ?_
          have hV12 : cV (11, a1.toNatClampNeg, 0) := (cve11 (vi_lt (ib_in ‹¬ cs_isBelow a1 4 = 0›)))
          refine lv_aload_n hx hb dO_topUp_72 rfl (lv_at hl 1 rfl) ?_
          refine fw_kp (va_runV (As := []) (rest := [.ref (X.2.2 (11, a1.toNatClampNeg, 0))]) ⟨hx, hb, hml, hown, hts⟩ (c_counter l X hI σ8 a1.toNatClampNeg (hV4).1 ) (cwV 0 hts (tb_V m_243 m_288 m_241 m_242 m_27) rfl rfl rfl (by decide +kernel) ⟨Nat.le_of_ble_eq_true rfl, Nat.le_of_ble_eq_true rfl⟩) (fw_preV (X := X) hK hnb hW (10, a1.toNatClampNeg, 0) hV4 rfl rfl []) rfl rfl hl.1 rfl (lv_room (Nat.le_of_ble_eq_true rfl)) dO_topUp_73 ⟨Nat.zero_le _, Nat.zero_le _⟩) hS (fun H locs hW hS => ?_)
          refine lv_iload_n hx hb dO_topUp_76 rfl (lv_at hl 4 rfl) ?_
          refine lv_iload hx hb dO_topUp_77 (lv_at hl 0 rfl) ?_
          refine fw_kv (va_runV (As := [.int (cs_counter σ8 a1.toNatClampNeg), .int a2, .int z10]) (rest := []) ⟨hx, hb, hml, hown, hts⟩ (c_enterTopUp l X hI σ8 a1.toNatClampNeg (hV12).1 (cs_counter σ8 a1.toNatClampNeg) a2 z10 ) (cwV 3 hts (tb_V m_305 m_302 m_303 m_304 m_29) rfl rfl rfl (by decide +kernel) ⟨Nat.le_of_ble_eq_true rfl, Nat.le_of_ble_eq_true rfl⟩) (fw_preV (X := X) hK hnb hW (11, a1.toNatClampNeg, 0) hV12 rfl rfl [.int (cs_counter σ8 a1.toNatClampNeg), .int a2, .int z10]) rfl rfl hl.1 rfl (lv_room (Nat.le_of_ble_eq_true rfl)) dO_topUp_79 ⟨Nat.zero_le _, Nat.zero_le _⟩) hS (fun H locs hW hS => ?_)
          obtain ⟨σ13, e14⟩ : ∃ z : fw_S, z = cs_enterTopUp σ8 a1.toNatClampNeg (cs_counter σ8 a1.toNatClampNeg) a2 z10 := ⟨_, rfl⟩
          rw [← e14] at hW
          try rw [← e14] at he
          unfold cs_topUp_s4 at he
          refine lv_iload hx hb dO_topUp_82 (lv_at hl 0 rfl) ?_
          exact fw_iret hx hb hr hlocks hK hnb hW hS he dO_topUp_84
        · rw [if_neg c5] at he
          refine lv_iconst (v := (-1)) hx hb dO_topUp_42 (by decide) ?_
          exact fw_iret hx hb hr hlocks hK hnb hW hS he dO_topUp_43
      · rw [if_neg c3] at he
        refine lv_iconst (v := (-1)) hx hb dO_topUp_20 (by decide) ?_
        exact fw_iret hx hb hr hlocks hK hnb hW hS he dO_topUp_21
def cs_receiveEntry_s4 (σ10 : fw_S) : fw_S :=
  σ10
def cs_receiveEntry_s3 (a1 : Int32) (z5 : Int32) (σ8 : fw_S) : fw_S :=
  cs_receiveEntry_s4 (fw_st σ8 (5, 0, 0) a1.toNatClampNeg ((σ8 (5, 0, 0) a1.toNatClampNeg) + z5))
def cs_receiveEntry_s2 (a1 : Int32) (a2 : Int32) (σ : fw_S) (z2 : Int32) (z5 : Int32) : fw_S :=
  cs_receiveEntry_s3 a1 z5 (cs_enterCharge σ z2.toNatClampNeg (cs_readEntry σ a1.toNatClampNeg a2 1) z5 (cs_readEntry σ a1.toNatClampNeg a2 3))
def cs_receiveEntry_s1 (a1 : Int32) (a2 : Int32) (σ : fw_S) (z2 : Int32) : fw_S :=
  if (cs_isBelow z2 4) = 0 then σ else cs_receiveEntry_s2 a1 a2 σ z2 (cs_readEntry σ a1.toNatClampNeg a2 2)
def cs_receiveEntry (σ : fw_S) (a1 : Int32) (a2 : Int32) : fw_S :=
  cs_receiveEntry_s1 a1 a2 σ (cs_readEntry σ a1.toNatClampNeg a2 0)
set_option maxHeartbeats 4000000 in
set_option maxRecDepth 100000 in
theorem c_receiveEntry (l : Launch) (X : fw_X) (hI : fw_I cV X) (σ : fw_S) (a1 a2 : Int32) (h1 : vp_in a1 4) (h2 : vp_in a2 8) : fw_Mv fw_cl csh cV fw_tys l yO_receiveEntry wO_receiveEntry (fw_rm 4) X σ [.ref (X.2.2 (0, 0, 0)), .int a1, .int a2] (cs_receiveEntry σ a1 a2) := by
  obtain ⟨out, he⟩ : ∃ z : fw_S, z = cs_receiveEntry σ a1 a2 := ⟨_, rfl⟩
  rw [← he]
  refine fw_Mv_of (cc := bO_receiveEntry) (maxL := 6) (ret := none) (by decide) rfl (Nat.le_of_ble_eq_true rfl) ?_
  intro p e s m below meth c ls hx hb hr hml hlocks hown hts hK hnb hW hl
  have hS : va_S (fw_A cV X) s.heap s.heap [] := va_S.rf
  have hA : ∀ t, cV t → fw_A cV X (X.2.2 t) := fun t h => ⟨t, h, rfl⟩
  have htb := tb_use hts
  have hl : lv_has ls 6 [(0, .ref (X.2.2 (0, 0, 0))), (1, .int a1), (2, .int a2)] := hl
  have hown : s.vm.findClass "TapOffice" = some m.cls := hown
  unfold cs_receiveEntry at he
  refine lv_aload_n hx hb dO_receiveEntry_0 rfl (lv_at hl 0 rfl) ?_
  refine fw_get (X := X) (v := .ref (X.2.2 (4, 0, 0))) hx hb hts hin_O hown hK hW (0, 0, 0) cv0 rfl rfl 3 (by decide) (htb _ m_144 rfl) (fun _ h => h) rfl rfl dO_receiveEntry_1 ?_
  refine lv_iload_n hx hb dO_receiveEntry_4 rfl (lv_at hl 1 rfl) ?_
  refine fw_aald (X := X) hx hb hK hW (4, 0, 0) cv4 rfl 4 rfl rfl a1.toNatClampNeg rfl (12, a1.toNatClampNeg, 0) rfl h1 dO_receiveEntry_5 ?_
  have hV1 : cV (12, a1.toNatClampNeg, 0) := (cve12 (vi_lt h1))
  refine lv_astore_n (lv' := [(3, .ref (X.2.2 (12, a1.toNatClampNeg, 0))), (0, .ref (X.2.2 (0, 0, 0))), (1, .int a1), (2, .int a2)]) hx hb dO_receiveEntry_6 rfl hl (by decide) rfl (fun ls hl => ?_)
  refine lv_aload_n hx hb dO_receiveEntry_7 rfl (lv_at hl 0 rfl) ?_
  refine lv_iload_n hx hb dO_receiveEntry_8 rfl (lv_at hl 3 rfl) ?_
  refine lv_iconst (v := 0) hx hb dO_receiveEntry_9 (by decide) ?_
  refine fw_kp (va_runV (As := [.int a2, .int 0]) (rest := []) ⟨hx, hb, hml, hown, hts⟩ (c_readEntry l X hI σ a1.toNatClampNeg (hV1).1 a2 0 (h2) (by unfold vp_in; decide)) (cwV 2 hts (tb_V m_326 m_323 m_324 m_325 m_30) rfl rfl rfl (by decide +kernel) ⟨Nat.le_of_ble_eq_true rfl, Nat.le_of_ble_eq_true rfl⟩) (fw_preV (X := X) hK hnb hW (12, a1.toNatClampNeg, 0) hV1 rfl rfl [.int a2, .int 0]) rfl rfl hl.1 rfl (lv_room (Nat.le_of_ble_eq_true rfl)) dO_receiveEntry_10 ⟨Nat.zero_le _, Nat.zero_le _⟩) hS (fun H locs hW hS => ?_)
  refine lv_topi (fun z2 e3 => ?_)
  try rw [← e3] at he
  unfold cs_receiveEntry_s1 at he
  refine lv_istore (lv' := [(4, .int z2), (3, .ref (X.2.2 (12, a1.toNatClampNeg, 0))), (0, .ref (X.2.2 (0, 0, 0))), (1, .int a1), (2, .int a2)]) hx hb dO_receiveEntry_13 hl (by decide) rfl (fun ls hl => ?_)
  refine lv_iload hx hb dO_receiveEntry_15 (lv_at hl 0 rfl) ?_
  refine lv_iconst (v := 4) hx hb dO_receiveEntry_17 (by decide) ?_
  refine fw_kp (va_runS (As := [.int z2, .int 4]) (rest := []) ⟨hx, hb, hml, hown, hts⟩ (c_isBelow l X hI σ z2 4 ) (va_cwS 2 hts (tb_S m_172 m_170 m_171 m_25) rfl rfl rfl (by decide +kernel) ⟨Nat.le_of_ble_eq_true rfl, Nat.le_of_ble_eq_true rfl⟩) (fw_preS (X := X) hK hnb hW [.int z2, .int 4]) rfl rfl hl.1 rfl (lv_room (Nat.le_of_ble_eq_true rfl)) dO_receiveEntry_18 ⟨Nat.zero_le _, Nat.zero_le _⟩) hS (fun H locs hW hS => ?_)
  refine lv_if_ne (tgt := 25) hx hb dO_receiveEntry_21 (by decide) (fun c4 => ?_) (fun c4 => ?_)
  · rw [if_neg c4] at he
    refine lv_aload_n hx hb dO_receiveEntry_25 rfl (lv_at hl 1 rfl) ?_
    refine lv_iload_n hx hb dO_receiveEntry_26 rfl (lv_at hl 4 rfl) ?_
    refine lv_iconst (v := 2) hx hb dO_receiveEntry_27 (by decide) ?_
    refine fw_kp (va_runV (As := [.int a2, .int 2]) (rest := []) ⟨hx, hb, hml, hown, hts⟩ (c_readEntry l X hI σ a1.toNatClampNeg (hV1).1 a2 2 (h2) (by unfold vp_in; decide)) (cwV 2 hts (tb_V m_326 m_323 m_324 m_325 m_30) rfl rfl rfl (by decide +kernel) ⟨Nat.le_of_ble_eq_true rfl, Nat.le_of_ble_eq_true rfl⟩) (fw_preV (X := X) hK hnb hW (12, a1.toNatClampNeg, 0) hV1 rfl rfl [.int a2, .int 2]) rfl rfl hl.1 rfl (lv_room (Nat.le_of_ble_eq_true rfl)) dO_receiveEntry_28 ⟨Nat.zero_le _, Nat.zero_le _⟩) hS (fun H locs hW hS => ?_)
    refine lv_topi (fun z5 e6 => ?_)
    try rw [← e6] at he
    unfold cs_receiveEntry_s2 at he
    refine lv_istore (lv' := [(5, .int z5), (4, .int z2), (3, .ref (X.2.2 (12, a1.toNatClampNeg, 0))), (0, .ref (X.2.2 (0, 0, 0))), (1, .int a1), (2, .int a2)]) hx hb dO_receiveEntry_31 hl (by decide) rfl (fun ls hl => ?_)
    refine lv_aload_n hx hb dO_receiveEntry_33 rfl (lv_at hl 3 rfl) ?_
    refine fw_get (X := X) (v := .ref (X.2.2 (3, 0, 0))) hx hb hts hin_O hown hK hW (0, 0, 0) cv0 rfl rfl 2 (by decide) (htb _ m_143 rfl) (fun _ h => h) rfl rfl dO_receiveEntry_34 ?_
    refine lv_iload hx hb dO_receiveEntry_37 (lv_at hl 1 rfl) ?_
    refine fw_aald (X := X) hx hb hK hW (3, 0, 0) cv3 rfl 3 rfl rfl z2.toNatClampNeg rfl (11, z2.toNatClampNeg, 0) rfl (ib_in ‹¬ cs_isBelow z2 4 = 0›) dO_receiveEntry_39 ?_
    have hV7 : cV (11, z2.toNatClampNeg, 0) := (cve11 (vi_lt (ib_in ‹¬ cs_isBelow z2 4 = 0›)))
    refine lv_aload_n hx hb dO_receiveEntry_40 rfl (lv_at hl 2 rfl) ?_
    refine lv_iload_n hx hb dO_receiveEntry_41 rfl (lv_at hl 5 rfl) ?_
    refine lv_iconst (v := 1) hx hb dO_receiveEntry_42 (by decide) ?_
    refine fw_kp (va_runV (As := [.int a2, .int 1]) (rest := [.ref (X.2.2 (11, z2.toNatClampNeg, 0))]) ⟨hx, hb, hml, hown, hts⟩ (c_readEntry l X hI σ a1.toNatClampNeg (hV1).1 a2 1 (h2) (by unfold vp_in; decide)) (cwV 2 hts (tb_V m_326 m_323 m_324 m_325 m_30) rfl rfl rfl (by decide +kernel) ⟨Nat.le_of_ble_eq_true rfl, Nat.le_of_ble_eq_true rfl⟩) (fw_preV (X := X) hK hnb hW (12, a1.toNatClampNeg, 0) hV1 rfl rfl [.int a2, .int 1]) rfl rfl hl.1 rfl (lv_room (Nat.le_of_ble_eq_true rfl)) dO_receiveEntry_43 ⟨Nat.zero_le _, Nat.zero_le _⟩) hS (fun H locs hW hS => ?_)
    refine lv_iload hx hb dO_receiveEntry_46 (lv_at hl 0 rfl) ?_
    refine lv_aload_n hx hb dO_receiveEntry_48 rfl (lv_at hl 2 rfl) ?_
    refine lv_iload_n hx hb dO_receiveEntry_49 rfl (lv_at hl 5 rfl) ?_
    refine lv_iconst (v := 3) hx hb dO_receiveEntry_50 (by decide) ?_
    refine fw_kp (va_runV (As := [.int a2, .int 3]) (rest := [.int z5, .int (cs_readEntry σ a1.toNatClampNeg a2 1), .ref (X.2.2 (11, z2.toNatClampNeg, 0))]) ⟨hx, hb, hml, hown, hts⟩ (c_readEntry l X hI σ a1.toNatClampNeg (hV1).1 a2 3 (h2) (by unfold vp_in; decide)) (cwV 2 hts (tb_V m_326 m_323 m_324 m_325 m_30) rfl rfl rfl (by decide +kernel) ⟨Nat.le_of_ble_eq_true rfl, Nat.le_of_ble_eq_true rfl⟩) (fw_preV (X := X) hK hnb hW (12, a1.toNatClampNeg, 0) hV1 rfl rfl [.int a2, .int 3]) rfl rfl hl.1 rfl (lv_room (Nat.le_of_ble_eq_true rfl)) dO_receiveEntry_51 ⟨Nat.zero_le _, Nat.zero_le _⟩) hS (fun H locs hW hS => ?_)
    refine fw_kv (va_runV (As := [.int (cs_readEntry σ a1.toNatClampNeg a2 1), .int z5, .int (cs_readEntry σ a1.toNatClampNeg a2 3)]) (rest := []) ⟨hx, hb, hml, hown, hts⟩ (c_enterCharge l X hI σ z2.toNatClampNeg (hV7).1 (cs_readEntry σ a1.toNatClampNeg a2 1) z5 (cs_readEntry σ a1.toNatClampNeg a2 3) ) (cwV 3 hts (tb_V m_330 m_327 m_328 m_329 m_29) rfl rfl rfl (by decide +kernel) ⟨Nat.le_of_ble_eq_true rfl, Nat.le_of_ble_eq_true rfl⟩) (fw_preV (X := X) hK hnb hW (11, z2.toNatClampNeg, 0) hV7 rfl rfl [.int (cs_readEntry σ a1.toNatClampNeg a2 1), .int z5, .int (cs_readEntry σ a1.toNatClampNeg a2 3)]) rfl rfl hl.1 rfl (lv_room (Nat.le_of_ble_eq_true rfl)) dO_receiveEntry_54 ⟨Nat.zero_le _, Nat.zero_le _⟩) hS (fun H locs hW hS => ?_)
    obtain ⟨σ8, e9⟩ : ∃ z : fw_S, z = cs_enterCharge σ z2.toNatClampNeg (cs_readEntry σ a1.toNatClampNeg a2 1) z5 (cs_readEntry σ a1.toNatClampNeg a2 3) := ⟨_, rfl⟩
    rw [← e9] at hW
    try rw [← e9] at he
    unfold cs_receiveEntry_s3 at he
    refine lv_aload_n hx hb dO_receiveEntry_57 rfl (lv_at hl 3 rfl) ?_
    refine fw_get (X := X) (v := .ref (X.2.2 (5, 0, 0))) hx hb hts hin_O hown hK hW (0, 0, 0) cv0 rfl rfl 4 (by decide) (htb _ m_145 rfl) (fun _ h => h) rfl rfl dO_receiveEntry_58 ?_
    refine lv_iload_n hx hb dO_receiveEntry_61 rfl (lv_at hl 4 rfl) ?_
    refine lv_dup2_11 hx hb dO_receiveEntry_62 rfl rfl ?_
    refine fw_iald (X := X) hx hb hK hW (5, 0, 0) cv5 rfl 0 rfl a1.toNatClampNeg rfl h1 dO_receiveEntry_63 ?_
    refine lv_iload hx hb dO_receiveEntry_64 (lv_at hl 0 rfl) ?_
    refine lv_iadd hx hb dO_receiveEntry_66 ?_
    refine fw_iast (X := X) hx hb hK hW hI hA hS (5, 0, 0) cv5 rfl 0 rfl a1.toNatClampNeg rfl h1 dO_receiveEntry_67 (fun H locs hW hS => ?_)
    obtain ⟨σ10, e11⟩ : ∃ z : fw_S, z = fw_st σ8 (5, 0, 0) a1.toNatClampNeg ((σ8 (5, 0, 0) a1.toNatClampNeg) + z5) := ⟨_, rfl⟩
    rw [← e11] at hW
    try rw [← e11] at he
    unfold cs_receiveEntry_s4 at he
    exact fw_vret hx hb hr hlocks hK hnb hW hS he dO_receiveEntry_68
  · rw [if_pos c4] at he
    exact fw_vret hx hb hr hlocks hK hnb hW hS he dO_receiveEntry_24
def cs_upload_s3 (z4 : Int32) (σ9 : fw_S) : Int32 × fw_S :=
  (z4, σ9)
def cs_upload_s2 (a1 : Int32) (z4 : Int32) (σ7 : fw_S) : Int32 × fw_S :=
  cs_upload_s3 z4 (cs_takeDenied σ7 a1.toNatClampNeg (σ7 (0, 0, 0) 6))
def cs_upload_s4 (x5 : Int32) (rec : Int32 → fw_S → Int32 × fw_S) (σ11 : fw_S) : Int32 × fw_S :=
  rec (x5 + 1) σ11
def cs_upload_lp (a1 : Int32) (z4 : Int32) : Nat → Int32 → fw_S → Int32 × fw_S
  | 0, _, τ => (0, τ)
  | n + 1, x5, τ => if z4 ≤ x5 then cs_upload_s2 a1 z4 (cs_emptyLog τ a1.toNatClampNeg) else cs_upload_s4 x5 (cs_upload_lp a1 z4 n) (cs_receiveEntry τ a1 x5)
def cs_upload_s1 (a1 : Int32) (σ : fw_S) (z4 : Int32) : Int32 × fw_S :=
  cs_upload_lp a1 z4 (8 + 1) 0 σ
def cs_upload (σ : fw_S) (a1 : Int32) (a2 : Int32) : Int32 × fw_S :=
  if (cs_isBelow a1 4) = 0 then ((-1), σ) else if a2 = 0 then cs_upload_s1 a1 σ (cs_logSize σ a1.toNatClampNeg) else (0, σ)
set_option maxHeartbeats 4000000 in
set_option maxRecDepth 100000 in
theorem c_upload_lp {p : Program} {e : Env} {s : State} {m : MethodId} {below : List Frame} {meth : Method} {c : Code} {args : Array Value} (l : Launch) (X : fw_X) (hI : fw_I cV X) (σ : fw_S) (a1 a2 : Int32) (he8 : ∀ v, v < 4 → σ (12, v, 0) 1 ≤ 8) (h1 : vp_in a1 4) (z4 : Int32) (hq : z4 ≤ 8) (hV3 : cV (12, a1.toNatClampNeg, 0)) (out : Int32 × fw_S)
    (hx : p.tables.exec = Jvm.exec) (hb : c.code = bO_upload) (hr : meth.sig.returnType = (some .int)) (hml : c.maxLocals = 6) (hlocks : meth.locks = false) (hown : s.vm.findClass "TapOffice" = some m.cls) (hts : ∀ w ∈ wO_upload, w.before args s = true) (hK : va_K X.1 fw_cl (fw_tys X.2.1) s) (hnb : va_Nw fw_nb s) :
    ∀ (n : Nat) (x5 : Int32) (j : Nat), x5 = nI j → j ≤ 8 → 8 + 1 ≤ j + n → ∀ (τ : fw_S), ∀ (H : Heap) (locs : List Loc), fw_W fw_cl csh cV X τ H → va_S (fw_A cV X) s.heap H locs → ∀ (ls : Array Slot), lv_has ls 6 [(0, .ref (X.2.2 (0, 0, 0))), (1, .int a1), (2, .int a2), (3, .ref (X.2.2 (12, a1.toNatClampNeg, 0))), (4, .int z4), (5, .int x5)] → out = cs_upload_lp a1 z4 n x5 τ → W p l e (fw_rm 5) s m args below meth c H locs 0 0 (MQ below (va_Qi (fun r u => (r, u) = out) (fun u t => fw_O fw_cl csh cV fw_tys X u t) (fw_A cV X)) args s 0 0 (fw_A cV X)) (F0 m 32 ls []) := by
  have hA : ∀ t, cV t → fw_A cV X (X.2.2 t) := fun t h => ⟨t, h, rfl⟩
  have htb := tb_use hts
  intro n
  induction n with
  | zero =>
    intro x5 j hj h1 h2
    exact absurd h2 (by omega)
  | succ n ih =>
    intro x5 j hj hj1 hj2 τ H locs hW hS ls hl he
    rw [cs_upload_lp] at he
    refine lv_iload hx hb dO_upload_32 (lv_at hl 5 rfl) ?_
    refine lv_iload hx hb dO_upload_34 (lv_at hl 4 rfl) ?_
    refine lv_icmp_ge (tgt := 52) hx hb dO_upload_36 (by decide) (fun c6 => ?_) (fun c6 => ?_)
    · rw [if_pos c6] at he
      refine lv_aload_n hx hb dO_upload_52 rfl (lv_at hl 3 rfl) ?_
      refine fw_kv (va_runV (As := []) (rest := []) ⟨hx, hb, hml, hown, hts⟩ (c_emptyLog l X hI τ a1.toNatClampNeg (hV3).1 ) (cwV 0 hts (tb_V m_334 m_331 m_332 m_333 m_30) rfl rfl rfl (by decide +kernel) ⟨Nat.le_of_ble_eq_true rfl, Nat.le_of_ble_eq_true rfl⟩) (fw_preV (X := X) hK hnb hW (12, a1.toNatClampNeg, 0) hV3 rfl rfl []) rfl rfl hl.1 rfl (lv_room (Nat.le_of_ble_eq_true rfl)) dO_upload_53 ⟨Nat.zero_le _, Nat.zero_le _⟩) hS (fun H locs hW hS => ?_)
      obtain ⟨σ7, e8⟩ : ∃ z : fw_S, z = cs_emptyLog τ a1.toNatClampNeg := ⟨_, rfl⟩
      rw [← e8] at hW
      try rw [← e8] at he
      unfold cs_upload_s2 at he
      refine lv_aload_n hx hb dO_upload_56 rfl (lv_at hl 3 rfl) ?_
      refine lv_aload_n hx hb dO_upload_57 rfl (lv_at hl 0 rfl) ?_
      refine fw_get (X := X) (v := .int (σ7 (0, 0, 0) 6)) hx hb hts hin_O hown hK hW (0, 0, 0) cv0 rfl rfl 6 (by decide) (htb _ m_147 rfl) (fun _ h => h) rfl rfl dO_upload_58 ?_
      refine fw_kv (va_runV (As := [.int (σ7 (0, 0, 0) 6)]) (rest := []) ⟨hx, hb, hml, hown, hts⟩ (c_takeDenied l X hI σ7 a1.toNatClampNeg (hV3).1 (σ7 (0, 0, 0) 6) ) (cwV 1 hts (tb_V m_338 m_335 m_336 m_337 m_30) rfl rfl rfl (by decide +kernel) ⟨Nat.le_of_ble_eq_true rfl, Nat.le_of_ble_eq_true rfl⟩) (fw_preV (X := X) hK hnb hW (12, a1.toNatClampNeg, 0) hV3 rfl rfl [.int (σ7 (0, 0, 0) 6)]) rfl rfl hl.1 rfl (lv_room (Nat.le_of_ble_eq_true rfl)) dO_upload_61 ⟨Nat.zero_le _, Nat.zero_le _⟩) hS (fun H locs hW hS => ?_)
      obtain ⟨σ9, e10⟩ : ∃ z : fw_S, z = cs_takeDenied σ7 a1.toNatClampNeg (σ7 (0, 0, 0) 6) := ⟨_, rfl⟩
      rw [← e10] at hW
      try rw [← e10] at he
      unfold cs_upload_s3 at he
      refine lv_iload hx hb dO_upload_64 (lv_at hl 4 rfl) ?_
      exact fw_iret hx hb hr hlocks hK hnb hW hS he dO_upload_66
    · rw [if_neg c6] at he
      have hlt : j < 8 := up_lt hj hj1 hq c6
      have hin : vp_in x5 8 := by rw [hj]; exact vp_in_nI hlt (by decide)
      refine lv_aload_n hx hb dO_upload_39 rfl (lv_at hl 0 rfl) ?_
      refine lv_iload_n hx hb dO_upload_40 rfl (lv_at hl 1 rfl) ?_
      refine lv_iload hx hb dO_upload_41 (lv_at hl 5 rfl) ?_
      refine fw_kv (va_runV (As := [.int a1, .int x5]) (rest := []) ⟨hx, hb, hml, hown, hts⟩ (c_receiveEntry l X hI τ a1 x5 (h1) (hin)) (cwV 2 hts (tb_V m_322 m_319 m_321 m_7 m_25) rfl rfl rfl (by decide +kernel) ⟨Nat.le_of_ble_eq_true rfl, Nat.le_of_ble_eq_true rfl⟩) (fw_preV (X := X) hK hnb hW (0, 0, 0) cv0 rfl rfl [.int a1, .int x5]) rfl rfl hl.1 rfl (lv_room (Nat.le_of_ble_eq_true rfl)) dO_upload_43 ⟨Nat.zero_le _, Nat.zero_le _⟩) hS (fun H locs hW hS => ?_)
      obtain ⟨σ11, e12⟩ : ∃ z : fw_S, z = cs_receiveEntry τ a1 x5 := ⟨_, rfl⟩
      rw [← e12] at hW
      try rw [← e12] at he
      unfold cs_upload_s4 at he
      refine lv_iinc (v := x5 + 1) (lv' := [(5, .int (x5 + 1)), (0, .ref (X.2.2 (0, 0, 0))), (1, .int a1), (2, .int a2), (3, .ref (X.2.2 (12, a1.toNatClampNeg, 0))), (4, .int z4)]) hx hb dO_upload_46 hl (k := 5) rfl (by rfl) (by decide) rfl (fun ls hl => ?_)
      refine lv_goto (tgt := 32) hx hb dO_upload_49 (by decide) ?_
      exact ih (x5 + 1) (j + 1) (by rw [hj]; exact nI_1 j) hlt (by omega) σ11 _ _ hW hS ls (lv_sub hl [1, 2, 3, 4, 5, 0] rfl) he
set_option maxHeartbeats 4000000 in
set_option maxRecDepth 100000 in
theorem c_upload (l : Launch) (X : fw_X) (hI : fw_I cV X) (σ : fw_S) (a1 a2 : Int32) (he8 : ∀ v, v < 4 → σ (12, v, 0) 1 ≤ 8) : fw_Mi fw_cl csh cV fw_tys l yO_upload wO_upload (fw_rm 5) X σ [.ref (X.2.2 (0, 0, 0)), .int a1, .int a2] (cs_upload σ a1 a2) := by
  obtain ⟨out, he⟩ : ∃ z : Int32 × fw_S, z = cs_upload σ a1 a2 := ⟨_, rfl⟩
  rw [← he]
  refine fw_Mi_of (cc := bO_upload) (maxL := 6) (ret := (some .int)) (by decide) rfl (Nat.le_of_ble_eq_true rfl) ?_
  intro p e s m below meth c ls hx hb hr hml hlocks hown hts hK hnb hW hl
  have hS : va_S (fw_A cV X) s.heap s.heap [] := va_S.rf
  have hA : ∀ t, cV t → fw_A cV X (X.2.2 t) := fun t h => ⟨t, h, rfl⟩
  have htb := tb_use hts
  have hl : lv_has ls 6 [(0, .ref (X.2.2 (0, 0, 0))), (1, .int a1), (2, .int a2)] := hl
  have hown : s.vm.findClass "TapOffice" = some m.cls := hown
  unfold cs_upload at he
  refine lv_iload_n hx hb dO_upload_0 rfl (lv_at hl 1 rfl) ?_
  refine lv_iconst (v := 4) hx hb dO_upload_1 (by decide) ?_
  refine fw_kp (va_runS (As := [.int a1, .int 4]) (rest := []) ⟨hx, hb, hml, hown, hts⟩ (c_isBelow l X hI σ a1 4 ) (va_cwS 2 hts (tb_S m_172 m_170 m_171 m_25) rfl rfl rfl (by decide +kernel) ⟨Nat.le_of_ble_eq_true rfl, Nat.le_of_ble_eq_true rfl⟩) (fw_preS (X := X) hK hnb hW [.int a1, .int 4]) rfl rfl hl.1 rfl (lv_room (Nat.le_of_ble_eq_true rfl)) dO_upload_2 ⟨Nat.zero_le _, Nat.zero_le _⟩) hS (fun H locs hW hS => ?_)
  refine lv_if_ne (tgt := 10) hx hb dO_upload_5 (by decide) (fun c1 => ?_) (fun c1 => ?_)
  · rw [if_neg c1] at he
    refine lv_iload_n hx hb dO_upload_10 rfl (lv_at hl 2 rfl) ?_
    refine lv_if_eq (tgt := 16) hx hb dO_upload_11 (by decide) (fun c2 => ?_) (fun c2 => ?_)
    · rw [if_pos c2] at he
      refine lv_aload_n hx hb dO_upload_16 rfl (lv_at hl 0 rfl) ?_
      refine fw_get (X := X) (v := .ref (X.2.2 (4, 0, 0))) hx hb hts hin_O hown hK hW (0, 0, 0) cv0 rfl rfl 3 (by decide) (htb _ m_144 rfl) (fun _ h => h) rfl rfl dO_upload_17 ?_
      refine lv_iload_n hx hb dO_upload_20 rfl (lv_at hl 1 rfl) ?_
      refine fw_aald (X := X) hx hb hK hW (4, 0, 0) cv4 rfl 4 rfl rfl a1.toNatClampNeg rfl (12, a1.toNatClampNeg, 0) rfl (ib_in ‹¬ cs_isBelow a1 4 = 0›) dO_upload_21 ?_
      have hV3 : cV (12, a1.toNatClampNeg, 0) := (cve12 (vi_lt (ib_in ‹¬ cs_isBelow a1 4 = 0›)))
      refine lv_astore_n (lv' := [(3, .ref (X.2.2 (12, a1.toNatClampNeg, 0))), (0, .ref (X.2.2 (0, 0, 0))), (1, .int a1), (2, .int a2)]) hx hb dO_upload_22 rfl hl (by decide) rfl (fun ls hl => ?_)
      refine lv_aload_n hx hb dO_upload_23 rfl (lv_at hl 0 rfl) ?_
      refine fw_kp (va_runV (As := []) (rest := []) ⟨hx, hb, hml, hown, hts⟩ (c_logSize l X hI σ a1.toNatClampNeg (hV3).1 ) (cwV 0 hts (tb_V m_318 m_315 m_316 m_317 m_30) rfl rfl rfl (by decide +kernel) ⟨Nat.le_of_ble_eq_true rfl, Nat.le_of_ble_eq_true rfl⟩) (fw_preV (X := X) hK hnb hW (12, a1.toNatClampNeg, 0) hV3 rfl rfl []) rfl rfl hl.1 rfl (lv_room (Nat.le_of_ble_eq_true rfl)) dO_upload_24 ⟨Nat.zero_le _, Nat.zero_le _⟩) hS (fun H locs hW hS => ?_)
      refine lv_topi (fun z4 e5 => ?_)
      try rw [← e5] at he
      unfold cs_upload_s1 at he
      refine lv_istore (lv' := [(4, .int z4), (3, .ref (X.2.2 (12, a1.toNatClampNeg, 0))), (0, .ref (X.2.2 (0, 0, 0))), (1, .int a1), (2, .int a2)]) hx hb dO_upload_27 hl (by decide) rfl (fun ls hl => ?_)
      refine lv_iconst (v := 0) hx hb dO_upload_29 (by decide) ?_
      refine lv_istore (lv' := [(5, .int 0), (4, .int z4), (3, .ref (X.2.2 (12, a1.toNatClampNeg, 0))), (0, .ref (X.2.2 (0, 0, 0))), (1, .int a1), (2, .int a2)]) hx hb dO_upload_30 hl (by decide) rfl (fun ls hl => ?_)
      exact c_upload_lp l X hI σ a1 a2 he8 (ib_in ‹¬ cs_isBelow a1 4 = 0›) z4 (by rw [e5]; exact he8 _ (vi_lt (ib_in ‹¬ cs_isBelow a1 4 = 0›))) hV3 out hx hb hr hml hlocks hown hts hK hnb (8 + 1) 0 0 nI_0.symm (by decide) (by decide) σ _ _ hW hS ls (lv_sub hl [3, 4, 5, 2, 1, 0] rfl) he
    · rw [if_neg c2] at he
      refine lv_iconst (v := 0) hx hb dO_upload_14 (by decide) ?_
      exact fw_iret hx hb hr hlocks hK hnb hW hS he dO_upload_15
  · rw [if_pos c1] at he
    refine lv_iconst (v := (-1)) hx hb dO_upload_8 (by decide) ?_
    exact fw_iret hx hb hr hlocks hK hnb hW hS he dO_upload_9
def cs_deny_s1 (σ3 : fw_S) : Int32 × fw_S :=
  (0, σ3)
def cs_deny_s2 (σ5 : fw_S) : Int32 × fw_S :=
  (0, σ5)
def cs_deny (σ : fw_S) (a1 : Int32) (a2 : Int32) : Int32 × fw_S :=
  if (cs_isBelow a1 4) = 0 then ((-1), σ) else if a2 = 0 then cs_deny_s1 (fw_st σ (0, 0, 0) 6 ((σ (0, 0, 0) 6) &&& ((1 <<< (a1 &&& 31)) ^^^ (-1)))) else cs_deny_s2 (fw_st σ (0, 0, 0) 6 ((σ (0, 0, 0) 6) ||| (1 <<< (a1 &&& 31))))
set_option maxHeartbeats 4000000 in
set_option maxRecDepth 100000 in
theorem c_deny (l : Launch) (X : fw_X) (hI : fw_I cV X) (σ : fw_S) (a1 a2 : Int32)  : fw_Mi fw_cl csh cV fw_tys l yO_deny wO_deny (fw_rm 1) X σ [.ref (X.2.2 (0, 0, 0)), .int a1, .int a2] (cs_deny σ a1 a2) := by
  obtain ⟨out, he⟩ : ∃ z : Int32 × fw_S, z = cs_deny σ a1 a2 := ⟨_, rfl⟩
  rw [← he]
  refine fw_Mi_of (cc := bO_deny) (maxL := 3) (ret := (some .int)) (by decide) rfl (Nat.le_of_ble_eq_true rfl) ?_
  intro p e s m below meth c ls hx hb hr hml hlocks hown hts hK hnb hW hl
  have hS : va_S (fw_A cV X) s.heap s.heap [] := va_S.rf
  have hA : ∀ t, cV t → fw_A cV X (X.2.2 t) := fun t h => ⟨t, h, rfl⟩
  have htb := tb_use hts
  have hl : lv_has ls 3 [(0, .ref (X.2.2 (0, 0, 0))), (1, .int a1), (2, .int a2)] := hl
  have hown : s.vm.findClass "TapOffice" = some m.cls := hown
  unfold cs_deny at he
  refine lv_iload_n hx hb dO_deny_0 rfl (lv_at hl 1 rfl) ?_
  refine lv_iconst (v := 4) hx hb dO_deny_1 (by decide) ?_
  refine fw_kp (va_runS (As := [.int a1, .int 4]) (rest := []) ⟨hx, hb, hml, hown, hts⟩ (c_isBelow l X hI σ a1 4 ) (va_cwS 2 hts (tb_S m_172 m_170 m_171 m_25) rfl rfl rfl (by decide +kernel) ⟨Nat.le_of_ble_eq_true rfl, Nat.le_of_ble_eq_true rfl⟩) (fw_preS (X := X) hK hnb hW [.int a1, .int 4]) rfl rfl hl.1 rfl (lv_room (Nat.le_of_ble_eq_true rfl)) dO_deny_2 ⟨Nat.zero_le _, Nat.zero_le _⟩) hS (fun H locs hW hS => ?_)
  refine lv_if_ne (tgt := 10) hx hb dO_deny_5 (by decide) (fun c1 => ?_) (fun c1 => ?_)
  · rw [if_neg c1] at he
    refine lv_aload_n hx hb dO_deny_10 rfl (lv_at hl 0 rfl) ?_
    refine lv_iload_n hx hb dO_deny_11 rfl (lv_at hl 2 rfl) ?_
    refine lv_if_eq (tgt := 26) hx hb dO_deny_12 (by decide) (fun c2 => ?_) (fun c2 => ?_)
    · rw [if_pos c2] at he
      refine lv_aload_n hx hb dO_deny_26 rfl (lv_at hl 0 rfl) ?_
      refine fw_get (X := X) (v := .int (σ (0, 0, 0) 6)) hx hb hts hin_O hown hK hW (0, 0, 0) cv0 rfl rfl 6 (by decide) (htb _ m_147 rfl) (fun _ h => h) rfl rfl dO_deny_27 ?_
      refine lv_iconst (v := 1) hx hb dO_deny_30 (by decide) ?_
      refine lv_iload_n hx hb dO_deny_31 rfl (lv_at hl 1 rfl) ?_
      refine lv_ishl hx hb dO_deny_32 ?_
      refine lv_iconst (v := (-1)) hx hb dO_deny_33 (by decide) ?_
      refine lv_ixor hx hb dO_deny_34 ?_
      refine lv_iand hx hb dO_deny_35 ?_
      refine fw_put (X := X) hx hb hts hin_O ty_O ty_O_ok nm_O hown hK hW hI hA hS (0, 0, 0) cv0 rfl rfl rfl 6 (by decide) (htb _ m_147 rfl) (fun _ h => h) rfl rfl (ty := .int) (by decide +kernel) rfl rfl dO_deny_36 (fun H locs hW hS => ?_)
      obtain ⟨σ3, e4⟩ : ∃ z : fw_S, z = fw_st σ (0, 0, 0) 6 ((σ (0, 0, 0) 6) &&& ((1 <<< (a1 &&& 31)) ^^^ (-1))) := ⟨_, rfl⟩
      rw [← e4] at hW
      try rw [← e4] at he
      unfold cs_deny_s1 at he
      refine lv_iconst (v := 0) hx hb dO_deny_39 (by decide) ?_
      exact fw_iret hx hb hr hlocks hK hnb hW hS he dO_deny_40
    · rw [if_neg c2] at he
      refine lv_aload_n hx hb dO_deny_15 rfl (lv_at hl 0 rfl) ?_
      refine fw_get (X := X) (v := .int (σ (0, 0, 0) 6)) hx hb hts hin_O hown hK hW (0, 0, 0) cv0 rfl rfl 6 (by decide) (htb _ m_147 rfl) (fun _ h => h) rfl rfl dO_deny_16 ?_
      refine lv_iconst (v := 1) hx hb dO_deny_19 (by decide) ?_
      refine lv_iload_n hx hb dO_deny_20 rfl (lv_at hl 1 rfl) ?_
      refine lv_ishl hx hb dO_deny_21 ?_
      refine lv_ior hx hb dO_deny_22 ?_
      refine lv_goto (tgt := 36) hx hb dO_deny_23 (by decide) ?_
      refine fw_put (X := X) hx hb hts hin_O ty_O ty_O_ok nm_O hown hK hW hI hA hS (0, 0, 0) cv0 rfl rfl rfl 6 (by decide) (htb _ m_147 rfl) (fun _ h => h) rfl rfl (ty := .int) (by decide +kernel) rfl rfl dO_deny_36 (fun H locs hW hS => ?_)
      obtain ⟨σ5, e6⟩ : ∃ z : fw_S, z = fw_st σ (0, 0, 0) 6 ((σ (0, 0, 0) 6) ||| (1 <<< (a1 &&& 31))) := ⟨_, rfl⟩
      rw [← e6] at hW
      try rw [← e6] at he
      unfold cs_deny_s2 at he
      refine lv_iconst (v := 0) hx hb dO_deny_39 (by decide) ?_
      exact fw_iret hx hb hr hlocks hK hnb hW hS he dO_deny_40
  · rw [if_pos c1] at he
    refine lv_iconst (v := (-1)) hx hb dO_deny_8 (by decide) ?_
    exact fw_iret hx hb hr hlocks hK hnb hW hS he dO_deny_9
def cs_word (σ : fw_S) (a1 : Int32) (a2 : Int32) (a3 : Int32) : Int32 :=
  if (cs_isBelow a1 4) = 0 then (-1) else if (cs_isBelow a2 2) = 0 then (-1) else if (cs_isBelow a3 8) = 0 then (-1) else (cs_readCopy σ a1.toNatClampNeg a2 a3)
set_option maxHeartbeats 4000000 in
set_option maxRecDepth 100000 in
theorem c_word (l : Launch) (X : fw_X) (hI : fw_I cV X) (σ : fw_S) (a1 a2 a3 : Int32)  : fw_Mi fw_cl csh cV fw_tys l yO_word wO_word (fw_rm 2) X σ [.ref (X.2.2 (0, 0, 0)), .int a1, .int a2, .int a3] ((cs_word σ a1 a2 a3, σ)) := by
  obtain ⟨out, he⟩ : ∃ z : Int32, z = cs_word σ a1 a2 a3 := ⟨_, rfl⟩
  rw [← he]
  refine fw_Mi_of (cc := bO_word) (maxL := 4) (ret := (some .int)) (by decide) rfl (Nat.le_of_ble_eq_true rfl) ?_
  intro p e s m below meth c ls hx hb hr hml hlocks hown hts hK hnb hW hl
  have hS : va_S (fw_A cV X) s.heap s.heap [] := va_S.rf
  have hA : ∀ t, cV t → fw_A cV X (X.2.2 t) := fun t h => ⟨t, h, rfl⟩
  have htb := tb_use hts
  have hl : lv_has ls 4 [(0, .ref (X.2.2 (0, 0, 0))), (1, .int a1), (2, .int a2), (3, .int a3)] := hl
  have hown : s.vm.findClass "TapOffice" = some m.cls := hown
  unfold cs_word at he
  refine lv_iload_n hx hb dO_word_0 rfl (lv_at hl 1 rfl) ?_
  refine lv_iconst (v := 4) hx hb dO_word_1 (by decide) ?_
  refine fw_kp (va_runS (As := [.int a1, .int 4]) (rest := []) ⟨hx, hb, hml, hown, hts⟩ (c_isBelow l X hI σ a1 4 ) (va_cwS 2 hts (tb_S m_172 m_170 m_171 m_25) rfl rfl rfl (by decide +kernel) ⟨Nat.le_of_ble_eq_true rfl, Nat.le_of_ble_eq_true rfl⟩) (fw_preS (X := X) hK hnb hW [.int a1, .int 4]) rfl rfl hl.1 rfl (lv_room (Nat.le_of_ble_eq_true rfl)) dO_word_2 ⟨Nat.zero_le _, Nat.zero_le _⟩) hS (fun H locs hW hS => ?_)
  refine lv_if_eq (tgt := 25) hx hb dO_word_5 (by decide) (fun c1 => ?_) (fun c1 => ?_)
  · rw [if_pos c1] at he
    refine lv_iconst (v := (-1)) hx hb dO_word_25 (by decide) ?_
    exact fw_iret hx hb hr hlocks hK hnb hW hS (by rw [he]) dO_word_26
  · rw [if_neg c1] at he
    refine lv_iload_n hx hb dO_word_8 rfl (lv_at hl 2 rfl) ?_
    refine lv_iconst (v := 2) hx hb dO_word_9 (by decide) ?_
    refine fw_kp (va_runS (As := [.int a2, .int 2]) (rest := []) ⟨hx, hb, hml, hown, hts⟩ (c_isBelow l X hI σ a2 2 ) (va_cwS 2 hts (tb_S m_172 m_170 m_171 m_25) rfl rfl rfl (by decide +kernel) ⟨Nat.le_of_ble_eq_true rfl, Nat.le_of_ble_eq_true rfl⟩) (fw_preS (X := X) hK hnb hW [.int a2, .int 2]) rfl rfl hl.1 rfl (lv_room (Nat.le_of_ble_eq_true rfl)) dO_word_10 ⟨Nat.zero_le _, Nat.zero_le _⟩) hS (fun H locs hW hS => ?_)
    refine lv_if_eq (tgt := 25) hx hb dO_word_13 (by decide) (fun c2 => ?_) (fun c2 => ?_)
    · rw [if_pos c2] at he
      refine lv_iconst (v := (-1)) hx hb dO_word_25 (by decide) ?_
      exact fw_iret hx hb hr hlocks hK hnb hW hS (by rw [he]) dO_word_26
    · rw [if_neg c2] at he
      refine lv_iload_n hx hb dO_word_16 rfl (lv_at hl 3 rfl) ?_
      refine lv_bipush (v := 8) hx hb dO_word_17 (by decide) ?_
      refine fw_kp (va_runS (As := [.int a3, .int 8]) (rest := []) ⟨hx, hb, hml, hown, hts⟩ (c_isBelow l X hI σ a3 8 ) (va_cwS 2 hts (tb_S m_172 m_170 m_171 m_25) rfl rfl rfl (by decide +kernel) ⟨Nat.le_of_ble_eq_true rfl, Nat.le_of_ble_eq_true rfl⟩) (fw_preS (X := X) hK hnb hW [.int a3, .int 8]) rfl rfl hl.1 rfl (lv_room (Nat.le_of_ble_eq_true rfl)) dO_word_19 ⟨Nat.zero_le _, Nat.zero_le _⟩) hS (fun H locs hW hS => ?_)
      refine lv_if_ne (tgt := 27) hx hb dO_word_22 (by decide) (fun c3 => ?_) (fun c3 => ?_)
      · rw [if_neg c3] at he
        refine lv_aload_n hx hb dO_word_27 rfl (lv_at hl 0 rfl) ?_
        refine fw_get (X := X) (v := .ref (X.2.2 (2, 0, 0))) hx hb hts hin_O hown hK hW (0, 0, 0) cv0 rfl rfl 1 (by decide) (htb _ m_142 rfl) (fun _ h => h) rfl rfl dO_word_28 ?_
        refine lv_iload_n hx hb dO_word_31 rfl (lv_at hl 1 rfl) ?_
        refine fw_aald (X := X) hx hb hK hW (2, 0, 0) cv2 rfl 2 rfl rfl a1.toNatClampNeg rfl (10, a1.toNatClampNeg, 0) rfl (ib_in ‹¬ cs_isBelow a1 4 = 0›) dO_word_32 ?_
        have hV4 : cV (10, a1.toNatClampNeg, 0) := (cve10 (vi_lt (ib_in ‹¬ cs_isBelow a1 4 = 0›)))
        refine lv_iload_n hx hb dO_word_33 rfl (lv_at hl 2 rfl) ?_
        refine lv_iload_n hx hb dO_word_34 rfl (lv_at hl 3 rfl) ?_
        refine fw_kp (va_runV (As := [.int a2, .int a3]) (rest := []) ⟨hx, hb, hml, hown, hts⟩ (c_readCopy l X hI σ a1.toNatClampNeg (hV4).1 a2 a3 ((ib_in ‹¬ cs_isBelow a2 2 = 0›)) ((ib_in ‹¬ cs_isBelow a3 8 = 0›))) (cwV 2 hts (tb_V m_350 m_347 m_348 m_349 m_27) rfl rfl rfl (by decide +kernel) ⟨Nat.le_of_ble_eq_true rfl, Nat.le_of_ble_eq_true rfl⟩) (fw_preV (X := X) hK hnb hW (10, a1.toNatClampNeg, 0) hV4 rfl rfl [.int a2, .int a3]) rfl rfl hl.1 rfl (lv_room (Nat.le_of_ble_eq_true rfl)) dO_word_35 ⟨Nat.zero_le _, Nat.zero_le _⟩) hS (fun H locs hW hS => ?_)
        exact fw_iret hx hb hr hlocks hK hnb hW hS (by rw [he]) dO_word_38
      · rw [if_pos c3] at he
        refine lv_iconst (v := (-1)) hx hb dO_word_25 (by decide) ?_
        exact fw_iret hx hb hr hlocks hK hnb hW hS (by rw [he]) dO_word_26
def cs_card (σ : fw_S) (a1 : Int32) (a2 : Int32) : Int32 :=
  if (cs_isBelow a1 4) = 0 then (-1) else if a2 = 0 then (cs_read σ a1.toNatClampNeg 0) else if a2 = 1 then (cs_read σ a1.toNatClampNeg 1) else if a2 = 2 then (cs_read σ a1.toNatClampNeg 2) else if a2 = 3 then (cs_read σ a1.toNatClampNeg 3) else if a2 = 4 then (cs_read σ a1.toNatClampNeg 4) else if a2 = 5 then (cs_read σ a1.toNatClampNeg 5) else if a2 = 6 then (cs_counter σ a1.toNatClampNeg) else if a2 = 7 then (cs_spentOn σ a1.toNatClampNeg ((σ (0, 0, 0) 5) / 1440)) else (-1)
set_option maxHeartbeats 4000000 in
set_option maxRecDepth 100000 in
theorem c_card (l : Launch) (X : fw_X) (hI : fw_I cV X) (σ : fw_S) (a1 a2 : Int32)  : fw_Mi fw_cl csh cV fw_tys l yO_card wO_card (fw_rm 3) X σ [.ref (X.2.2 (0, 0, 0)), .int a1, .int a2] ((cs_card σ a1 a2, σ)) := by
  obtain ⟨out, he⟩ : ∃ z : Int32, z = cs_card σ a1 a2 := ⟨_, rfl⟩
  rw [← he]
  refine fw_Mi_of (cc := bO_card) (maxL := 4) (ret := (some .int)) (by decide) rfl (Nat.le_of_ble_eq_true rfl) ?_
  intro p e s m below meth c ls hx hb hr hml hlocks hown hts hK hnb hW hl
  have hS : va_S (fw_A cV X) s.heap s.heap [] := va_S.rf
  have hA : ∀ t, cV t → fw_A cV X (X.2.2 t) := fun t h => ⟨t, h, rfl⟩
  have htb := tb_use hts
  have hl : lv_has ls 4 [(0, .ref (X.2.2 (0, 0, 0))), (1, .int a1), (2, .int a2)] := hl
  have hown : s.vm.findClass "TapOffice" = some m.cls := hown
  unfold cs_card at he
  refine lv_iload_n hx hb dO_card_0 rfl (lv_at hl 1 rfl) ?_
  refine lv_iconst (v := 4) hx hb dO_card_1 (by decide) ?_
  refine fw_kp (va_runS (As := [.int a1, .int 4]) (rest := []) ⟨hx, hb, hml, hown, hts⟩ (c_isBelow l X hI σ a1 4 ) (va_cwS 2 hts (tb_S m_172 m_170 m_171 m_25) rfl rfl rfl (by decide +kernel) ⟨Nat.le_of_ble_eq_true rfl, Nat.le_of_ble_eq_true rfl⟩) (fw_preS (X := X) hK hnb hW [.int a1, .int 4]) rfl rfl hl.1 rfl (lv_room (Nat.le_of_ble_eq_true rfl)) dO_card_2 ⟨Nat.zero_le _, Nat.zero_le _⟩) hS (fun H locs hW hS => ?_)
  refine lv_if_ne (tgt := 10) hx hb dO_card_5 (by decide) (fun c1 => ?_) (fun c1 => ?_)
  · rw [if_neg c1] at he
    refine lv_aload_n hx hb dO_card_10 rfl (lv_at hl 0 rfl) ?_
    refine fw_get (X := X) (v := .ref (X.2.2 (2, 0, 0))) hx hb hts hin_O hown hK hW (0, 0, 0) cv0 rfl rfl 1 (by decide) (htb _ m_142 rfl) (fun _ h => h) rfl rfl dO_card_11 ?_
    refine lv_iload_n hx hb dO_card_14 rfl (lv_at hl 1 rfl) ?_
    refine fw_aald (X := X) hx hb hK hW (2, 0, 0) cv2 rfl 2 rfl rfl a1.toNatClampNeg rfl (10, a1.toNatClampNeg, 0) rfl (ib_in ‹¬ cs_isBelow a1 4 = 0›) dO_card_15 ?_
    have hV2 : cV (10, a1.toNatClampNeg, 0) := (cve10 (vi_lt (ib_in ‹¬ cs_isBelow a1 4 = 0›)))
    refine lv_astore_n (lv' := [(3, .ref (X.2.2 (10, a1.toNatClampNeg, 0))), (0, .ref (X.2.2 (0, 0, 0))), (1, .int a1), (2, .int a2)]) hx hb dO_card_16 rfl hl (by decide) rfl (fun ls hl => ?_)
    refine lv_iload_n hx hb dO_card_17 rfl (lv_at hl 3 rfl) ?_
    by_cases c4 : a2 = 0
    · rw [if_pos c4] at he
      refine lv_tableIn (tgt := 64) hx hb dO_card_18 (by rw [c4]; decide) (by rw [c4]; decide) (by rw [c4]; rfl) (by decide) ?_
      refine lv_aload_n hx hb dO_card_64 rfl (lv_at hl 0 rfl) ?_
      refine lv_iconst (v := 0) hx hb dO_card_65 (by decide) ?_
      refine fw_kp (va_runV (As := [.int 0]) (rest := []) ⟨hx, hb, hml, hown, hts⟩ (c_read l X hI σ a1.toNatClampNeg (hV2).1 0 (by unfold vp_in; decide)) (cwV 1 hts (tb_V m_218 m_215 m_216 m_217 m_27) rfl rfl rfl (by decide +kernel) ⟨Nat.le_of_ble_eq_true rfl, Nat.le_of_ble_eq_true rfl⟩) (fw_preV (X := X) hK hnb hW (10, a1.toNatClampNeg, 0) hV2 rfl rfl [.int 0]) rfl rfl hl.1 rfl (lv_room (Nat.le_of_ble_eq_true rfl)) dO_card_66 ⟨Nat.zero_le _, Nat.zero_le _⟩) hS (fun H locs hW hS => ?_)
      exact fw_iret hx hb hr hlocks hK hnb hW hS (by rw [he]) dO_card_69
    · rw [if_neg c4] at he
      by_cases c5 : a2 = 1
      · rw [if_pos c5] at he
        refine lv_tableIn (tgt := 70) hx hb dO_card_18 (by rw [c5]; decide) (by rw [c5]; decide) (by rw [c5]; rfl) (by decide) ?_
        refine lv_aload_n hx hb dO_card_70 rfl (lv_at hl 0 rfl) ?_
        refine lv_iconst (v := 1) hx hb dO_card_71 (by decide) ?_
        refine fw_kp (va_runV (As := [.int 1]) (rest := []) ⟨hx, hb, hml, hown, hts⟩ (c_read l X hI σ a1.toNatClampNeg (hV2).1 1 (by unfold vp_in; decide)) (cwV 1 hts (tb_V m_218 m_215 m_216 m_217 m_27) rfl rfl rfl (by decide +kernel) ⟨Nat.le_of_ble_eq_true rfl, Nat.le_of_ble_eq_true rfl⟩) (fw_preV (X := X) hK hnb hW (10, a1.toNatClampNeg, 0) hV2 rfl rfl [.int 1]) rfl rfl hl.1 rfl (lv_room (Nat.le_of_ble_eq_true rfl)) dO_card_72 ⟨Nat.zero_le _, Nat.zero_le _⟩) hS (fun H locs hW hS => ?_)
        exact fw_iret hx hb hr hlocks hK hnb hW hS (by rw [he]) dO_card_75
      · rw [if_neg c5] at he
        by_cases c6 : a2 = 2
        · rw [if_pos c6] at he
          refine lv_tableIn (tgt := 76) hx hb dO_card_18 (by rw [c6]; decide) (by rw [c6]; decide) (by rw [c6]; rfl) (by decide) ?_
          refine lv_aload_n hx hb dO_card_76 rfl (lv_at hl 0 rfl) ?_
          refine lv_iconst (v := 2) hx hb dO_card_77 (by decide) ?_
          refine fw_kp (va_runV (As := [.int 2]) (rest := []) ⟨hx, hb, hml, hown, hts⟩ (c_read l X hI σ a1.toNatClampNeg (hV2).1 2 (by unfold vp_in; decide)) (cwV 1 hts (tb_V m_218 m_215 m_216 m_217 m_27) rfl rfl rfl (by decide +kernel) ⟨Nat.le_of_ble_eq_true rfl, Nat.le_of_ble_eq_true rfl⟩) (fw_preV (X := X) hK hnb hW (10, a1.toNatClampNeg, 0) hV2 rfl rfl [.int 2]) rfl rfl hl.1 rfl (lv_room (Nat.le_of_ble_eq_true rfl)) dO_card_78 ⟨Nat.zero_le _, Nat.zero_le _⟩) hS (fun H locs hW hS => ?_)
          exact fw_iret hx hb hr hlocks hK hnb hW hS (by rw [he]) dO_card_81
        · rw [if_neg c6] at he
          by_cases c7 : a2 = 3
          · rw [if_pos c7] at he
            refine lv_tableIn (tgt := 82) hx hb dO_card_18 (by rw [c7]; decide) (by rw [c7]; decide) (by rw [c7]; rfl) (by decide) ?_
            refine lv_aload_n hx hb dO_card_82 rfl (lv_at hl 0 rfl) ?_
            refine lv_iconst (v := 3) hx hb dO_card_83 (by decide) ?_
            refine fw_kp (va_runV (As := [.int 3]) (rest := []) ⟨hx, hb, hml, hown, hts⟩ (c_read l X hI σ a1.toNatClampNeg (hV2).1 3 (by unfold vp_in; decide)) (cwV 1 hts (tb_V m_218 m_215 m_216 m_217 m_27) rfl rfl rfl (by decide +kernel) ⟨Nat.le_of_ble_eq_true rfl, Nat.le_of_ble_eq_true rfl⟩) (fw_preV (X := X) hK hnb hW (10, a1.toNatClampNeg, 0) hV2 rfl rfl [.int 3]) rfl rfl hl.1 rfl (lv_room (Nat.le_of_ble_eq_true rfl)) dO_card_84 ⟨Nat.zero_le _, Nat.zero_le _⟩) hS (fun H locs hW hS => ?_)
            exact fw_iret hx hb hr hlocks hK hnb hW hS (by rw [he]) dO_card_87
          · rw [if_neg c7] at he
            by_cases c8 : a2 = 4
            · rw [if_pos c8] at he
              refine lv_tableIn (tgt := 88) hx hb dO_card_18 (by rw [c8]; decide) (by rw [c8]; decide) (by rw [c8]; rfl) (by decide) ?_
              refine lv_aload_n hx hb dO_card_88 rfl (lv_at hl 0 rfl) ?_
              refine lv_iconst (v := 4) hx hb dO_card_89 (by decide) ?_
              refine fw_kp (va_runV (As := [.int 4]) (rest := []) ⟨hx, hb, hml, hown, hts⟩ (c_read l X hI σ a1.toNatClampNeg (hV2).1 4 (by unfold vp_in; decide)) (cwV 1 hts (tb_V m_218 m_215 m_216 m_217 m_27) rfl rfl rfl (by decide +kernel) ⟨Nat.le_of_ble_eq_true rfl, Nat.le_of_ble_eq_true rfl⟩) (fw_preV (X := X) hK hnb hW (10, a1.toNatClampNeg, 0) hV2 rfl rfl [.int 4]) rfl rfl hl.1 rfl (lv_room (Nat.le_of_ble_eq_true rfl)) dO_card_90 ⟨Nat.zero_le _, Nat.zero_le _⟩) hS (fun H locs hW hS => ?_)
              exact fw_iret hx hb hr hlocks hK hnb hW hS (by rw [he]) dO_card_93
            · rw [if_neg c8] at he
              by_cases c9 : a2 = 5
              · rw [if_pos c9] at he
                refine lv_tableIn (tgt := 94) hx hb dO_card_18 (by rw [c9]; decide) (by rw [c9]; decide) (by rw [c9]; rfl) (by decide) ?_
                refine lv_aload_n hx hb dO_card_94 rfl (lv_at hl 0 rfl) ?_
                refine lv_iconst (v := 5) hx hb dO_card_95 (by decide) ?_
                refine fw_kp (va_runV (As := [.int 5]) (rest := []) ⟨hx, hb, hml, hown, hts⟩ (c_read l X hI σ a1.toNatClampNeg (hV2).1 5 (by unfold vp_in; decide)) (cwV 1 hts (tb_V m_218 m_215 m_216 m_217 m_27) rfl rfl rfl (by decide +kernel) ⟨Nat.le_of_ble_eq_true rfl, Nat.le_of_ble_eq_true rfl⟩) (fw_preV (X := X) hK hnb hW (10, a1.toNatClampNeg, 0) hV2 rfl rfl [.int 5]) rfl rfl hl.1 rfl (lv_room (Nat.le_of_ble_eq_true rfl)) dO_card_96 ⟨Nat.zero_le _, Nat.zero_le _⟩) hS (fun H locs hW hS => ?_)
                exact fw_iret hx hb hr hlocks hK hnb hW hS (by rw [he]) dO_card_99
              · rw [if_neg c9] at he
                by_cases c10 : a2 = 6
                · rw [if_pos c10] at he
                  refine lv_tableIn (tgt := 100) hx hb dO_card_18 (by rw [c10]; decide) (by rw [c10]; decide) (by rw [c10]; rfl) (by decide) ?_
                  refine lv_aload_n hx hb dO_card_100 rfl (lv_at hl 0 rfl) ?_
                  refine fw_kp (va_runV (As := []) (rest := []) ⟨hx, hb, hml, hown, hts⟩ (c_counter l X hI σ a1.toNatClampNeg (hV2).1 ) (cwV 0 hts (tb_V m_243 m_288 m_241 m_242 m_27) rfl rfl rfl (by decide +kernel) ⟨Nat.le_of_ble_eq_true rfl, Nat.le_of_ble_eq_true rfl⟩) (fw_preV (X := X) hK hnb hW (10, a1.toNatClampNeg, 0) hV2 rfl rfl []) rfl rfl hl.1 rfl (lv_room (Nat.le_of_ble_eq_true rfl)) dO_card_101 ⟨Nat.zero_le _, Nat.zero_le _⟩) hS (fun H locs hW hS => ?_)
                  exact fw_iret hx hb hr hlocks hK hnb hW hS (by rw [he]) dO_card_104
                · rw [if_neg c10] at he
                  by_cases c11 : a2 = 7
                  · rw [if_pos c11] at he
                    refine lv_tableIn (tgt := 105) hx hb dO_card_18 (by rw [c11]; decide) (by rw [c11]; decide) (by rw [c11]; rfl) (by decide) ?_
                    refine lv_aload_n hx hb dO_card_105 rfl (lv_at hl 0 rfl) ?_
                    refine lv_aload_n hx hb dO_card_106 rfl (lv_at hl 1 rfl) ?_
                    refine fw_get (X := X) (v := .int (σ (0, 0, 0) 5)) hx hb hts hin_O hown hK hW (0, 0, 0) cv0 rfl rfl 5 (by decide) (htb _ m_146 rfl) (fun _ h => h) rfl rfl dO_card_107 ?_
                    refine lv_sipush (v := 1440) hx hb dO_card_110 (by decide) ?_
                    refine lv_idiv hx hb dO_card_113 (by decide) ?_
                    refine fw_kp (va_runV (As := [.int ((σ (0, 0, 0) 5) / 1440)]) (rest := []) ⟨hx, hb, hml, hown, hts⟩ (c_spentOn l X hI σ a1.toNatClampNeg (hV2).1 ((σ (0, 0, 0) 5) / 1440) ) (cwV 1 hts (tb_V m_238 m_355 m_236 m_237 m_27) rfl rfl rfl (by decide +kernel) ⟨Nat.le_of_ble_eq_true rfl, Nat.le_of_ble_eq_true rfl⟩) (fw_preV (X := X) hK hnb hW (10, a1.toNatClampNeg, 0) hV2 rfl rfl [.int ((σ (0, 0, 0) 5) / 1440)]) rfl rfl hl.1 rfl (lv_room (Nat.le_of_ble_eq_true rfl)) dO_card_114 ⟨Nat.zero_le _, Nat.zero_le _⟩) hS (fun H locs hW hS => ?_)
                    exact fw_iret hx hb hr hlocks hK hnb hW hS (by rw [he]) dO_card_117
                  · rw [if_neg c11] at he
                    refine lv_tableOut (tgt := 118) hx hb dO_card_18 (sw_out8 c4 c5 c6 c7 c8 c9 c10 c11) (by decide) ?_
                    refine lv_iconst (v := (-1)) hx hb dO_card_118 (by decide) ?_
                    exact fw_iret hx hb hr hlocks hK hnb hW hS (by rw [he]) dO_card_119
  · rw [if_pos c1] at he
    refine lv_iconst (v := (-1)) hx hb dO_card_8 (by decide) ?_
    exact fw_iret hx hb hr hlocks hK hnb hW hS (by rw [he]) dO_card_9
def cs_logged (σ : fw_S) (a1 : Int32) (a2 : Int32) (a3 : Int32) : Int32 :=
  if (cs_isBelow a1 4) = 0 then (-1) else if (cs_isBelow a3 4) = 0 then (-1) else if (cs_isBelow a2 (cs_logSize σ a1.toNatClampNeg)) = 0 then (-1) else (cs_readEntry σ a1.toNatClampNeg a2 a3)
set_option maxHeartbeats 4000000 in
set_option maxRecDepth 100000 in
theorem c_logged (l : Launch) (X : fw_X) (hI : fw_I cV X) (σ : fw_S) (a1 a2 a3 : Int32) (he8 : ∀ v, v < 4 → σ (12, v, 0) 1 ≤ 8) : fw_Mi fw_cl csh cV fw_tys l yO_logged wO_logged (fw_rm 2) X σ [.ref (X.2.2 (0, 0, 0)), .int a1, .int a2, .int a3] ((cs_logged σ a1 a2 a3, σ)) := by
  obtain ⟨out, he⟩ : ∃ z : Int32, z = cs_logged σ a1 a2 a3 := ⟨_, rfl⟩
  rw [← he]
  refine fw_Mi_of (cc := bO_logged) (maxL := 5) (ret := (some .int)) (by decide) rfl (Nat.le_of_ble_eq_true rfl) ?_
  intro p e s m below meth c ls hx hb hr hml hlocks hown hts hK hnb hW hl
  have hS : va_S (fw_A cV X) s.heap s.heap [] := va_S.rf
  have hA : ∀ t, cV t → fw_A cV X (X.2.2 t) := fun t h => ⟨t, h, rfl⟩
  have htb := tb_use hts
  have hl : lv_has ls 5 [(0, .ref (X.2.2 (0, 0, 0))), (1, .int a1), (2, .int a2), (3, .int a3)] := hl
  have hown : s.vm.findClass "TapOffice" = some m.cls := hown
  unfold cs_logged at he
  refine lv_iload_n hx hb dO_logged_0 rfl (lv_at hl 1 rfl) ?_
  refine lv_iconst (v := 4) hx hb dO_logged_1 (by decide) ?_
  refine fw_kp (va_runS (As := [.int a1, .int 4]) (rest := []) ⟨hx, hb, hml, hown, hts⟩ (c_isBelow l X hI σ a1 4 ) (va_cwS 2 hts (tb_S m_172 m_170 m_171 m_25) rfl rfl rfl (by decide +kernel) ⟨Nat.le_of_ble_eq_true rfl, Nat.le_of_ble_eq_true rfl⟩) (fw_preS (X := X) hK hnb hW [.int a1, .int 4]) rfl rfl hl.1 rfl (lv_room (Nat.le_of_ble_eq_true rfl)) dO_logged_2 ⟨Nat.zero_le _, Nat.zero_le _⟩) hS (fun H locs hW hS => ?_)
  refine lv_if_eq (tgt := 16) hx hb dO_logged_5 (by decide) (fun c1 => ?_) (fun c1 => ?_)
  · rw [if_pos c1] at he
    refine lv_iconst (v := (-1)) hx hb dO_logged_16 (by decide) ?_
    exact fw_iret hx hb hr hlocks hK hnb hW hS (by rw [he]) dO_logged_17
  · rw [if_neg c1] at he
    refine lv_iload_n hx hb dO_logged_8 rfl (lv_at hl 3 rfl) ?_
    refine lv_iconst (v := 4) hx hb dO_logged_9 (by decide) ?_
    refine fw_kp (va_runS (As := [.int a3, .int 4]) (rest := []) ⟨hx, hb, hml, hown, hts⟩ (c_isBelow l X hI σ a3 4 ) (va_cwS 2 hts (tb_S m_172 m_170 m_171 m_25) rfl rfl rfl (by decide +kernel) ⟨Nat.le_of_ble_eq_true rfl, Nat.le_of_ble_eq_true rfl⟩) (fw_preS (X := X) hK hnb hW [.int a3, .int 4]) rfl rfl hl.1 rfl (lv_room (Nat.le_of_ble_eq_true rfl)) dO_logged_10 ⟨Nat.zero_le _, Nat.zero_le _⟩) hS (fun H locs hW hS => ?_)
    refine lv_if_ne (tgt := 18) hx hb dO_logged_13 (by decide) (fun c2 => ?_) (fun c2 => ?_)
    · rw [if_neg c2] at he
      refine lv_aload_n hx hb dO_logged_18 rfl (lv_at hl 0 rfl) ?_
      refine fw_get (X := X) (v := .ref (X.2.2 (4, 0, 0))) hx hb hts hin_O hown hK hW (0, 0, 0) cv0 rfl rfl 3 (by decide) (htb _ m_144 rfl) (fun _ h => h) rfl rfl dO_logged_19 ?_
      refine lv_iload_n hx hb dO_logged_22 rfl (lv_at hl 1 rfl) ?_
      refine fw_aald (X := X) hx hb hK hW (4, 0, 0) cv4 rfl 4 rfl rfl a1.toNatClampNeg rfl (12, a1.toNatClampNeg, 0) rfl (ib_in ‹¬ cs_isBelow a1 4 = 0›) dO_logged_23 ?_
      have hV3 : cV (12, a1.toNatClampNeg, 0) := (cve12 (vi_lt (ib_in ‹¬ cs_isBelow a1 4 = 0›)))
      refine lv_astore (lv' := [(4, .ref (X.2.2 (12, a1.toNatClampNeg, 0))), (0, .ref (X.2.2 (0, 0, 0))), (1, .int a1), (2, .int a2), (3, .int a3)]) hx hb dO_logged_24 hl (by decide) rfl (fun ls hl => ?_)
      refine lv_iload_n hx hb dO_logged_26 rfl (lv_at hl 3 rfl) ?_
      refine lv_aload hx hb dO_logged_27 (lv_at hl 0 rfl) ?_
      refine fw_kp (va_runV (As := []) (rest := [.int a2]) ⟨hx, hb, hml, hown, hts⟩ (c_logSize l X hI σ a1.toNatClampNeg (hV3).1 ) (cwV 0 hts (tb_V m_318 m_315 m_316 m_317 m_30) rfl rfl rfl (by decide +kernel) ⟨Nat.le_of_ble_eq_true rfl, Nat.le_of_ble_eq_true rfl⟩) (fw_preV (X := X) hK hnb hW (12, a1.toNatClampNeg, 0) hV3 rfl rfl []) rfl rfl hl.1 rfl (lv_room (Nat.le_of_ble_eq_true rfl)) dO_logged_29 ⟨Nat.zero_le _, Nat.zero_le _⟩) hS (fun H locs hW hS => ?_)
      refine fw_kp (va_runS (As := [.int a2, .int (cs_logSize σ a1.toNatClampNeg)]) (rest := []) ⟨hx, hb, hml, hown, hts⟩ (c_isBelow l X hI σ a2 (cs_logSize σ a1.toNatClampNeg) ) (va_cwS 2 hts (tb_S m_172 m_170 m_171 m_25) rfl rfl rfl (by decide +kernel) ⟨Nat.le_of_ble_eq_true rfl, Nat.le_of_ble_eq_true rfl⟩) (fw_preS (X := X) hK hnb hW [.int a2, .int (cs_logSize σ a1.toNatClampNeg)]) rfl rfl hl.1 rfl (lv_room (Nat.le_of_ble_eq_true rfl)) dO_logged_32 ⟨Nat.zero_le _, Nat.zero_le _⟩) hS (fun H locs hW hS => ?_)
      refine lv_if_eq (tgt := 48) hx hb dO_logged_35 (by decide) (fun c4 => ?_) (fun c4 => ?_)
      · rw [if_pos c4] at he
        refine lv_iconst (v := (-1)) hx hb dO_logged_48 (by decide) ?_
        exact fw_iret hx hb hr hlocks hK hnb hW hS (by rw [he]) dO_logged_49
      · rw [if_neg c4] at he
        refine lv_aload hx hb dO_logged_38 (lv_at hl 0 rfl) ?_
        refine lv_iload_n hx hb dO_logged_40 rfl (lv_at hl 3 rfl) ?_
        refine lv_iload_n hx hb dO_logged_41 rfl (lv_at hl 4 rfl) ?_
        refine fw_kp (va_runV (As := [.int a2, .int a3]) (rest := []) ⟨hx, hb, hml, hown, hts⟩ (c_readEntry l X hI σ a1.toNatClampNeg (hV3).1 a2 a3 (lg_in (he8 _ (vi_lt (ib_in ‹¬ cs_isBelow a1 4 = 0›))) ‹¬ cs_isBelow a2 (cs_logSize σ a1.toNatClampNeg) = 0›) ((ib_in ‹¬ cs_isBelow a3 4 = 0›))) (cwV 2 hts (tb_V m_326 m_323 m_324 m_325 m_30) rfl rfl rfl (by decide +kernel) ⟨Nat.le_of_ble_eq_true rfl, Nat.le_of_ble_eq_true rfl⟩) (fw_preV (X := X) hK hnb hW (12, a1.toNatClampNeg, 0) hV3 rfl rfl [.int a2, .int a3]) rfl rfl hl.1 rfl (lv_room (Nat.le_of_ble_eq_true rfl)) dO_logged_42 ⟨Nat.zero_le _, Nat.zero_le _⟩) hS (fun H locs hW hS => ?_)
        refine lv_goto (tgt := 49) hx hb dO_logged_45 (by decide) ?_
        exact fw_iret hx hb hr hlocks hK hnb hW hS (by rw [he]) dO_logged_49
    · rw [if_pos c2] at he
      refine lv_iconst (v := (-1)) hx hb dO_logged_16 (by decide) ?_
      exact fw_iret hx hb hr hlocks hK hnb hW hS (by rw [he]) dO_logged_17
def cs_office (σ : fw_S) (a1 : Int32) (a2 : Int32) : Int32 :=
  if (cs_isBelow a1 4) = 0 then (-1) else if a2 = 0 then (cs_known σ a1.toNatClampNeg) else if a2 = 1 then (cs_greatestCounter σ a1.toNatClampNeg) else if a2 = 2 then (cs_missing σ a1.toNatClampNeg) else if a2 = 3 then (cs_lostMoney σ a1.toNatClampNeg) else if a2 = 4 then (cs_allCharges σ a1.toNatClampNeg) else if a2 = 5 then (cs_allTopUps σ a1.toNatClampNeg) else (-1)
set_option maxHeartbeats 4000000 in
set_option maxRecDepth 100000 in
theorem c_office (l : Launch) (X : fw_X) (hI : fw_I cV X) (σ : fw_S) (a1 a2 : Int32)  : fw_Mi fw_cl csh cV fw_tys l yO_office wO_office (fw_rm 2) X σ [.ref (X.2.2 (0, 0, 0)), .int a1, .int a2] ((cs_office σ a1 a2, σ)) := by
  obtain ⟨out, he⟩ : ∃ z : Int32, z = cs_office σ a1 a2 := ⟨_, rfl⟩
  rw [← he]
  refine fw_Mi_of (cc := bO_office) (maxL := 4) (ret := (some .int)) (by decide) rfl (Nat.le_of_ble_eq_true rfl) ?_
  intro p e s m below meth c ls hx hb hr hml hlocks hown hts hK hnb hW hl
  have hS : va_S (fw_A cV X) s.heap s.heap [] := va_S.rf
  have hA : ∀ t, cV t → fw_A cV X (X.2.2 t) := fun t h => ⟨t, h, rfl⟩
  have htb := tb_use hts
  have hl : lv_has ls 4 [(0, .ref (X.2.2 (0, 0, 0))), (1, .int a1), (2, .int a2)] := hl
  have hown : s.vm.findClass "TapOffice" = some m.cls := hown
  unfold cs_office at he
  refine lv_iload_n hx hb dO_office_0 rfl (lv_at hl 1 rfl) ?_
  refine lv_iconst (v := 4) hx hb dO_office_1 (by decide) ?_
  refine fw_kp (va_runS (As := [.int a1, .int 4]) (rest := []) ⟨hx, hb, hml, hown, hts⟩ (c_isBelow l X hI σ a1 4 ) (va_cwS 2 hts (tb_S m_172 m_170 m_171 m_25) rfl rfl rfl (by decide +kernel) ⟨Nat.le_of_ble_eq_true rfl, Nat.le_of_ble_eq_true rfl⟩) (fw_preS (X := X) hK hnb hW [.int a1, .int 4]) rfl rfl hl.1 rfl (lv_room (Nat.le_of_ble_eq_true rfl)) dO_office_2 ⟨Nat.zero_le _, Nat.zero_le _⟩) hS (fun H locs hW hS => ?_)
  refine lv_if_ne (tgt := 10) hx hb dO_office_5 (by decide) (fun c1 => ?_) (fun c1 => ?_)
  · rw [if_neg c1] at he
    refine lv_aload_n hx hb dO_office_10 rfl (lv_at hl 0 rfl) ?_
    refine fw_get (X := X) (v := .ref (X.2.2 (3, 0, 0))) hx hb hts hin_O hown hK hW (0, 0, 0) cv0 rfl rfl 2 (by decide) (htb _ m_143 rfl) (fun _ h => h) rfl rfl dO_office_11 ?_
    refine lv_iload_n hx hb dO_office_14 rfl (lv_at hl 1 rfl) ?_
    refine fw_aald (X := X) hx hb hK hW (3, 0, 0) cv3 rfl 3 rfl rfl a1.toNatClampNeg rfl (11, a1.toNatClampNeg, 0) rfl (ib_in ‹¬ cs_isBelow a1 4 = 0›) dO_office_15 ?_
    have hV2 : cV (11, a1.toNatClampNeg, 0) := (cve11 (vi_lt (ib_in ‹¬ cs_isBelow a1 4 = 0›)))
    refine lv_astore_n (lv' := [(3, .ref (X.2.2 (11, a1.toNatClampNeg, 0))), (0, .ref (X.2.2 (0, 0, 0))), (1, .int a1), (2, .int a2)]) hx hb dO_office_16 rfl hl (by decide) rfl (fun ls hl => ?_)
    refine lv_iload_n hx hb dO_office_17 rfl (lv_at hl 3 rfl) ?_
    by_cases c4 : a2 = 0
    · rw [if_pos c4] at he
      refine lv_tableIn (tgt := 56) hx hb dO_office_18 (by rw [c4]; decide) (by rw [c4]; decide) (by rw [c4]; rfl) (by decide) ?_
      refine lv_aload_n hx hb dO_office_56 rfl (lv_at hl 0 rfl) ?_
      refine fw_kp (va_runV (As := []) (rest := []) ⟨hx, hb, hml, hown, hts⟩ (c_known l X hI σ a1.toNatClampNeg (hV2).1 ) (cwV 0 hts (tb_V m_367 m_364 m_365 m_366 m_29) rfl rfl rfl (by decide +kernel) ⟨Nat.le_of_ble_eq_true rfl, Nat.le_of_ble_eq_true rfl⟩) (fw_preV (X := X) hK hnb hW (11, a1.toNatClampNeg, 0) hV2 rfl rfl []) rfl rfl hl.1 rfl (lv_room (Nat.le_of_ble_eq_true rfl)) dO_office_57 ⟨Nat.zero_le _, Nat.zero_le _⟩) hS (fun H locs hW hS => ?_)
      exact fw_iret hx hb hr hlocks hK hnb hW hS (by rw [he]) dO_office_60
    · rw [if_neg c4] at he
      by_cases c5 : a2 = 1
      · rw [if_pos c5] at he
        refine lv_tableIn (tgt := 61) hx hb dO_office_18 (by rw [c5]; decide) (by rw [c5]; decide) (by rw [c5]; rfl) (by decide) ?_
        refine lv_aload_n hx hb dO_office_61 rfl (lv_at hl 0 rfl) ?_
        refine fw_kp (va_runV (As := []) (rest := []) ⟨hx, hb, hml, hown, hts⟩ (c_greatestCounter l X hI σ a1.toNatClampNeg (hV2).1 ) (cwV 0 hts (tb_V m_371 m_368 m_369 m_370 m_29) rfl rfl rfl (by decide +kernel) ⟨Nat.le_of_ble_eq_true rfl, Nat.le_of_ble_eq_true rfl⟩) (fw_preV (X := X) hK hnb hW (11, a1.toNatClampNeg, 0) hV2 rfl rfl []) rfl rfl hl.1 rfl (lv_room (Nat.le_of_ble_eq_true rfl)) dO_office_62 ⟨Nat.zero_le _, Nat.zero_le _⟩) hS (fun H locs hW hS => ?_)
        exact fw_iret hx hb hr hlocks hK hnb hW hS (by rw [he]) dO_office_65
      · rw [if_neg c5] at he
        by_cases c6 : a2 = 2
        · rw [if_pos c6] at he
          refine lv_tableIn (tgt := 66) hx hb dO_office_18 (by rw [c6]; decide) (by rw [c6]; decide) (by rw [c6]; rfl) (by decide) ?_
          refine lv_aload_n hx hb dO_office_66 rfl (lv_at hl 0 rfl) ?_
          refine fw_kp (va_runV (As := []) (rest := []) ⟨hx, hb, hml, hown, hts⟩ (c_missing l X hI σ a1.toNatClampNeg (hV2).1 ) (cwV 0 hts (tb_V m_375 m_372 m_373 m_374 m_29) rfl rfl rfl (by decide +kernel) ⟨Nat.le_of_ble_eq_true rfl, Nat.le_of_ble_eq_true rfl⟩) (fw_preV (X := X) hK hnb hW (11, a1.toNatClampNeg, 0) hV2 rfl rfl []) rfl rfl hl.1 rfl (lv_room (Nat.le_of_ble_eq_true rfl)) dO_office_67 ⟨Nat.zero_le _, Nat.zero_le _⟩) hS (fun H locs hW hS => ?_)
          exact fw_iret hx hb hr hlocks hK hnb hW hS (by rw [he]) dO_office_70
        · rw [if_neg c6] at he
          by_cases c7 : a2 = 3
          · rw [if_pos c7] at he
            refine lv_tableIn (tgt := 71) hx hb dO_office_18 (by rw [c7]; decide) (by rw [c7]; decide) (by rw [c7]; rfl) (by decide) ?_
            refine lv_aload_n hx hb dO_office_71 rfl (lv_at hl 0 rfl) ?_
            refine fw_kp (va_runV (As := []) (rest := []) ⟨hx, hb, hml, hown, hts⟩ (c_lostMoney l X hI σ a1.toNatClampNeg (hV2).1 ) (cwV 0 hts (tb_V m_379 m_376 m_377 m_378 m_29) rfl rfl rfl (by decide +kernel) ⟨Nat.le_of_ble_eq_true rfl, Nat.le_of_ble_eq_true rfl⟩) (fw_preV (X := X) hK hnb hW (11, a1.toNatClampNeg, 0) hV2 rfl rfl []) rfl rfl hl.1 rfl (lv_room (Nat.le_of_ble_eq_true rfl)) dO_office_72 ⟨Nat.zero_le _, Nat.zero_le _⟩) hS (fun H locs hW hS => ?_)
            exact fw_iret hx hb hr hlocks hK hnb hW hS (by rw [he]) dO_office_75
          · rw [if_neg c7] at he
            by_cases c8 : a2 = 4
            · rw [if_pos c8] at he
              refine lv_tableIn (tgt := 76) hx hb dO_office_18 (by rw [c8]; decide) (by rw [c8]; decide) (by rw [c8]; rfl) (by decide) ?_
              refine lv_aload_n hx hb dO_office_76 rfl (lv_at hl 0 rfl) ?_
              refine fw_kp (va_runV (As := []) (rest := []) ⟨hx, hb, hml, hown, hts⟩ (c_allCharges l X hI σ a1.toNatClampNeg (hV2).1 ) (cwV 0 hts (tb_V m_383 m_380 m_381 m_382 m_29) rfl rfl rfl (by decide +kernel) ⟨Nat.le_of_ble_eq_true rfl, Nat.le_of_ble_eq_true rfl⟩) (fw_preV (X := X) hK hnb hW (11, a1.toNatClampNeg, 0) hV2 rfl rfl []) rfl rfl hl.1 rfl (lv_room (Nat.le_of_ble_eq_true rfl)) dO_office_77 ⟨Nat.zero_le _, Nat.zero_le _⟩) hS (fun H locs hW hS => ?_)
              exact fw_iret hx hb hr hlocks hK hnb hW hS (by rw [he]) dO_office_80
            · rw [if_neg c8] at he
              by_cases c9 : a2 = 5
              · rw [if_pos c9] at he
                refine lv_tableIn (tgt := 81) hx hb dO_office_18 (by rw [c9]; decide) (by rw [c9]; decide) (by rw [c9]; rfl) (by decide) ?_
                refine lv_aload_n hx hb dO_office_81 rfl (lv_at hl 0 rfl) ?_
                refine fw_kp (va_runV (As := []) (rest := []) ⟨hx, hb, hml, hown, hts⟩ (c_allTopUps l X hI σ a1.toNatClampNeg (hV2).1 ) (cwV 0 hts (tb_V m_387 m_384 m_385 m_386 m_29) rfl rfl rfl (by decide +kernel) ⟨Nat.le_of_ble_eq_true rfl, Nat.le_of_ble_eq_true rfl⟩) (fw_preV (X := X) hK hnb hW (11, a1.toNatClampNeg, 0) hV2 rfl rfl []) rfl rfl hl.1 rfl (lv_room (Nat.le_of_ble_eq_true rfl)) dO_office_82 ⟨Nat.zero_le _, Nat.zero_le _⟩) hS (fun H locs hW hS => ?_)
                exact fw_iret hx hb hr hlocks hK hnb hW hS (by rw [he]) dO_office_85
              · rw [if_neg c9] at he
                refine lv_tableOut (tgt := 86) hx hb dO_office_18 (sw_out6 c4 c5 c6 c7 c8 c9) (by decide) ?_
                refine lv_iconst (v := (-1)) hx hb dO_office_86 (by decide) ?_
                exact fw_iret hx hb hr hlocks hK hnb hW hS (by rw [he]) dO_office_87
  · rw [if_pos c1] at he
    refine lv_iconst (v := (-1)) hx hb dO_office_8 (by decide) ?_
    exact fw_iret hx hb hr hlocks hK hnb hW hS (by rw [he]) dO_office_9
def cs_income (σ : fw_S) (a1 : Int32) : Int32 :=
  if (cs_isBelow a1 4) = 0 then (-1) else (σ (5, 0, 0) a1.toNatClampNeg)
set_option maxHeartbeats 4000000 in
set_option maxRecDepth 100000 in
theorem c_income (l : Launch) (X : fw_X) (hI : fw_I cV X) (σ : fw_S) (a1 : Int32)  : fw_Mi fw_cl csh cV fw_tys l yO_income wO_income (fw_rm 1) X σ [.ref (X.2.2 (0, 0, 0)), .int a1] ((cs_income σ a1, σ)) := by
  obtain ⟨out, he⟩ : ∃ z : Int32, z = cs_income σ a1 := ⟨_, rfl⟩
  rw [← he]
  refine fw_Mi_of (cc := bO_income) (maxL := 2) (ret := (some .int)) (by decide) rfl (Nat.le_of_ble_eq_true rfl) ?_
  intro p e s m below meth c ls hx hb hr hml hlocks hown hts hK hnb hW hl
  have hS : va_S (fw_A cV X) s.heap s.heap [] := va_S.rf
  have hA : ∀ t, cV t → fw_A cV X (X.2.2 t) := fun t h => ⟨t, h, rfl⟩
  have htb := tb_use hts
  have hl : lv_has ls 2 [(0, .ref (X.2.2 (0, 0, 0))), (1, .int a1)] := hl
  have hown : s.vm.findClass "TapOffice" = some m.cls := hown
  unfold cs_income at he
  refine lv_iload_n hx hb dO_income_0 rfl (lv_at hl 1 rfl) ?_
  refine lv_iconst (v := 4) hx hb dO_income_1 (by decide) ?_
  refine fw_kp (va_runS (As := [.int a1, .int 4]) (rest := []) ⟨hx, hb, hml, hown, hts⟩ (c_isBelow l X hI σ a1 4 ) (va_cwS 2 hts (tb_S m_172 m_170 m_171 m_25) rfl rfl rfl (by decide +kernel) ⟨Nat.le_of_ble_eq_true rfl, Nat.le_of_ble_eq_true rfl⟩) (fw_preS (X := X) hK hnb hW [.int a1, .int 4]) rfl rfl hl.1 rfl (lv_room (Nat.le_of_ble_eq_true rfl)) dO_income_2 ⟨Nat.zero_le _, Nat.zero_le _⟩) hS (fun H locs hW hS => ?_)
  refine lv_if_eq (tgt := 17) hx hb dO_income_5 (by decide) (fun c1 => ?_) (fun c1 => ?_)
  · rw [if_pos c1] at he
    refine lv_iconst (v := (-1)) hx hb dO_income_17 (by decide) ?_
    exact fw_iret hx hb hr hlocks hK hnb hW hS (by rw [he]) dO_income_18
  · rw [if_neg c1] at he
    refine lv_aload_n hx hb dO_income_8 rfl (lv_at hl 0 rfl) ?_
    refine fw_get (X := X) (v := .ref (X.2.2 (5, 0, 0))) hx hb hts hin_O hown hK hW (0, 0, 0) cv0 rfl rfl 4 (by decide) (htb _ m_145 rfl) (fun _ h => h) rfl rfl dO_income_9 ?_
    refine lv_iload_n hx hb dO_income_12 rfl (lv_at hl 1 rfl) ?_
    refine fw_iald (X := X) hx hb hK hW (5, 0, 0) cv5 rfl 0 rfl a1.toNatClampNeg rfl (ib_in ‹¬ cs_isBelow a1 4 = 0›) dO_income_13 ?_
    refine lv_goto (tgt := 18) hx hb dO_income_14 (by decide) ?_
    exact fw_iret hx hb hr hlocks hK hnb hW hS (by rw [he]) dO_income_18
def cs_entriesInLogs_s1 (x2 : Int32) (rec : Int32 → Int32 → Int32) (z3 : Int32) : Int32 :=
  rec (x2 + 1) z3
def cs_entriesInLogs_lp (σ : fw_S) : Nat → Int32 → Int32 → Int32
  | 0, _, _ => 0
  | n + 1, x2, x1 => if 4 ≤ x2 then x1 else cs_entriesInLogs_s1 x2 (cs_entriesInLogs_lp σ n) (x1 + (cs_logSize σ x2.toNatClampNeg))
def cs_entriesInLogs (σ : fw_S)  : Int32 :=
  cs_entriesInLogs_lp σ (4 + 1) 0 0
set_option maxHeartbeats 4000000 in
set_option maxRecDepth 100000 in
theorem c_entriesInLogs_lp {p : Program} {e : Env} {s : State} {m : MethodId} {below : List Frame} {meth : Method} {c : Code} {args : Array Value} (l : Launch) (X : fw_X) (hI : fw_I cV X) (σ : fw_S)    (out : Int32)
    (hx : p.tables.exec = Jvm.exec) (hb : c.code = bO_entriesInLogs) (hr : meth.sig.returnType = (some .int)) (hml : c.maxLocals = 3) (hlocks : meth.locks = false) (hown : s.vm.findClass "TapOffice" = some m.cls) (hts : ∀ w ∈ wO_entriesInLogs, w.before args s = true) (hK : va_K X.1 fw_cl (fw_tys X.2.1) s) (hnb : va_Nw fw_nb s) :
    ∀ (n : Nat) (x2 x1 : Int32) (j : Nat), x2 = nI j → j ≤ 4 → 4 + 1 ≤ j + n → ∀ (H : Heap) (locs : List Loc), fw_W fw_cl csh cV X σ H → va_S (fw_A cV X) s.heap H locs → ∀ (ls : Array Slot), lv_has ls 3 [(0, .ref (X.2.2 (0, 0, 0))), (1, .int x1), (2, .int x2)] → out = cs_entriesInLogs_lp σ n x2 x1 → W p l e (fw_rm 1) s m args below meth c H locs 0 0 (MQ below (va_Qi (fun r u => (r, u) = (out, σ)) (fun u t => fw_O fw_cl csh cV fw_tys X u t) (fw_A cV X)) args s 0 0 (fw_A cV X)) (F0 m 4 ls []) := by
  have hA : ∀ t, cV t → fw_A cV X (X.2.2 t) := fun t h => ⟨t, h, rfl⟩
  have htb := tb_use hts
  intro n
  induction n with
  | zero =>
    intro x2 x1 j hj h1 h2
    exact absurd h2 (by omega)
  | succ n ih =>
    intro x2 x1 j hj hj1 hj2 H locs hW hS ls hl he
    rw [cs_entriesInLogs_lp] at he
    refine lv_iload_n hx hb dO_entriesInLogs_4 rfl (lv_at hl 2 rfl) ?_
    refine lv_iconst (v := 4) hx hb dO_entriesInLogs_5 (by decide) ?_
    refine lv_icmp_ge (tgt := 27) hx hb dO_entriesInLogs_6 (by decide) (fun c1 => ?_) (fun c1 => ?_)
    · rw [if_pos c1] at he
      refine lv_iload_n hx hb dO_entriesInLogs_27 rfl (lv_at hl 1 rfl) ?_
      exact fw_iret hx hb hr hlocks hK hnb hW hS (by rw [he]) dO_entriesInLogs_28
    · rw [if_neg c1] at he
      have hlt : j < 4 := lp_lt (B := 4) hj rfl (by decide) hj1 c1
      have hin : vp_in x2 4 := by rw [hj]; exact vp_in_nI hlt (by decide)
      refine lv_iload_n hx hb dO_entriesInLogs_9 rfl (lv_at hl 1 rfl) ?_
      refine lv_aload_n hx hb dO_entriesInLogs_10 rfl (lv_at hl 0 rfl) ?_
      refine fw_get (X := X) (v := .ref (X.2.2 (4, 0, 0))) hx hb hts hin_O hown hK hW (0, 0, 0) cv0 rfl rfl 3 (by decide) (htb _ m_144 rfl) (fun _ h => h) rfl rfl dO_entriesInLogs_11 ?_
      refine lv_iload_n hx hb dO_entriesInLogs_14 rfl (lv_at hl 2 rfl) ?_
      refine fw_aald (X := X) hx hb hK hW (4, 0, 0) cv4 rfl 4 rfl rfl x2.toNatClampNeg rfl (12, x2.toNatClampNeg, 0) rfl hin dO_entriesInLogs_15 ?_
      have hV2 : cV (12, x2.toNatClampNeg, 0) := (cve12 (vi_lt hin))
      refine fw_kp (va_runV (As := []) (rest := [.int x1]) ⟨hx, hb, hml, hown, hts⟩ (c_logSize l X hI σ x2.toNatClampNeg (hV2).1 ) (cwV 0 hts (tb_V m_318 m_315 m_316 m_317 m_30) rfl rfl rfl (by decide +kernel) ⟨Nat.le_of_ble_eq_true rfl, Nat.le_of_ble_eq_true rfl⟩) (fw_preV (X := X) hK hnb hW (12, x2.toNatClampNeg, 0) hV2 rfl rfl []) rfl rfl hl.1 rfl (lv_room (Nat.le_of_ble_eq_true rfl)) dO_entriesInLogs_16 ⟨Nat.zero_le _, Nat.zero_le _⟩) hS (fun H locs hW hS => ?_)
      refine lv_iadd hx hb dO_entriesInLogs_19 ?_
      refine lv_topi (fun z3 e4 => ?_)
      try rw [← e4] at he
      unfold cs_entriesInLogs_s1 at he
      refine lv_istore_n (lv' := [(1, .int z3), (0, .ref (X.2.2 (0, 0, 0))), (2, .int x2)]) hx hb dO_entriesInLogs_20 rfl hl (by decide) rfl (fun ls hl => ?_)
      refine lv_iinc (v := x2 + 1) (lv' := [(2, .int (x2 + 1)), (1, .int z3), (0, .ref (X.2.2 (0, 0, 0)))]) hx hb dO_entriesInLogs_21 hl (k := 2) rfl (by rfl) (by decide) rfl (fun ls hl => ?_)
      refine lv_goto (tgt := 4) hx hb dO_entriesInLogs_24 (by decide) ?_
      exact ih (x2 + 1) z3 (j + 1) (by rw [hj]; exact nI_1 j) hlt (by omega) _ _ hW hS ls (lv_sub hl [2, 1, 0] rfl) he
set_option maxHeartbeats 4000000 in
set_option maxRecDepth 100000 in
theorem c_entriesInLogs (l : Launch) (X : fw_X) (hI : fw_I cV X) (σ : fw_S)  : fw_Mi fw_cl csh cV fw_tys l yO_entriesInLogs wO_entriesInLogs (fw_rm 1) X σ [.ref (X.2.2 (0, 0, 0))] ((cs_entriesInLogs σ, σ)) := by
  obtain ⟨out, he⟩ : ∃ z : Int32, z = cs_entriesInLogs σ := ⟨_, rfl⟩
  rw [← he]
  refine fw_Mi_of (cc := bO_entriesInLogs) (maxL := 3) (ret := (some .int)) (by decide) rfl (Nat.le_of_ble_eq_true rfl) ?_
  intro p e s m below meth c ls hx hb hr hml hlocks hown hts hK hnb hW hl
  have hS : va_S (fw_A cV X) s.heap s.heap [] := va_S.rf
  have hA : ∀ t, cV t → fw_A cV X (X.2.2 t) := fun t h => ⟨t, h, rfl⟩
  have htb := tb_use hts
  have hl : lv_has ls 3 [(0, .ref (X.2.2 (0, 0, 0)))] := hl
  have hown : s.vm.findClass "TapOffice" = some m.cls := hown
  unfold cs_entriesInLogs at he
  refine lv_iconst (v := 0) hx hb dO_entriesInLogs_0 (by decide) ?_
  refine lv_istore_n (lv' := [(1, .int 0), (0, .ref (X.2.2 (0, 0, 0)))]) hx hb dO_entriesInLogs_1 rfl hl (by decide) rfl (fun ls hl => ?_)
  refine lv_iconst (v := 0) hx hb dO_entriesInLogs_2 (by decide) ?_
  refine lv_istore_n (lv' := [(2, .int 0), (1, .int 0), (0, .ref (X.2.2 (0, 0, 0)))]) hx hb dO_entriesInLogs_3 rfl hl (by decide) rfl (fun ls hl => ?_)
  exact c_entriesInLogs_lp l X hI σ    out hx hb hr hml hlocks hown hts hK hnb (4 + 1) 0 0 0 nI_0.symm (by decide) (by decide) _ _ hW hS ls (lv_sub hl [2, 1, 0] rfl) he
def cs_count (σ : fw_S) (a1 : Int32) : Int32 :=
  if a1 = 0 then (σ (0, 0, 0) 5) else if a1 = 1 then (cs_entriesInLogs σ) else if a1 = 2 then (σ (0, 0, 0) 7) else if a1 = 3 then (cs_bitCount (σ (0, 0, 0) 6)) else (-1)
set_option maxHeartbeats 4000000 in
set_option maxRecDepth 100000 in
theorem c_count (l : Launch) (X : fw_X) (hI : fw_I cV X) (σ : fw_S) (a1 : Int32)  : fw_Mi fw_cl csh cV fw_tys l yO_count wO_count (fw_rm 2) X σ [.ref (X.2.2 (0, 0, 0)), .int a1] ((cs_count σ a1, σ)) := by
  obtain ⟨out, he⟩ : ∃ z : Int32, z = cs_count σ a1 := ⟨_, rfl⟩
  rw [← he]
  refine fw_Mi_of (cc := bO_count) (maxL := 2) (ret := (some .int)) (by decide) rfl (Nat.le_of_ble_eq_true rfl) ?_
  intro p e s m below meth c ls hx hb hr hml hlocks hown hts hK hnb hW hl
  have hS : va_S (fw_A cV X) s.heap s.heap [] := va_S.rf
  have hA : ∀ t, cV t → fw_A cV X (X.2.2 t) := fun t h => ⟨t, h, rfl⟩
  have htb := tb_use hts
  have hl : lv_has ls 2 [(0, .ref (X.2.2 (0, 0, 0))), (1, .int a1)] := hl
  have hown : s.vm.findClass "TapOffice" = some m.cls := hown
  unfold cs_count at he
  refine lv_iload_n hx hb dO_count_0 rfl (lv_at hl 1 rfl) ?_
  by_cases c2 : a1 = 0
  · rw [if_pos c2] at he
    refine lv_tableIn (tgt := 32) hx hb dO_count_1 (by rw [c2]; decide) (by rw [c2]; decide) (by rw [c2]; rfl) (by decide) ?_
    refine lv_aload_n hx hb dO_count_32 rfl (lv_at hl 0 rfl) ?_
    refine fw_get (X := X) (v := .int (σ (0, 0, 0) 5)) hx hb hts hin_O hown hK hW (0, 0, 0) cv0 rfl rfl 5 (by decide) (htb _ m_146 rfl) (fun _ h => h) rfl rfl dO_count_33 ?_
    exact fw_iret hx hb hr hlocks hK hnb hW hS (by rw [he]) dO_count_36
  · rw [if_neg c2] at he
    by_cases c3 : a1 = 1
    · rw [if_pos c3] at he
      refine lv_tableIn (tgt := 37) hx hb dO_count_1 (by rw [c3]; decide) (by rw [c3]; decide) (by rw [c3]; rfl) (by decide) ?_
      refine lv_aload_n hx hb dO_count_37 rfl (lv_at hl 0 rfl) ?_
      refine fw_kp (va_runV (As := []) (rest := []) ⟨hx, hb, hml, hown, hts⟩ (c_entriesInLogs l X hI σ  ) (cwV 0 hts (tb_V m_399 m_396 m_398 m_8 m_25) rfl rfl rfl (by decide +kernel) ⟨Nat.le_of_ble_eq_true rfl, Nat.le_of_ble_eq_true rfl⟩) (fw_preV (X := X) hK hnb hW (0, 0, 0) cv0 rfl rfl []) rfl rfl hl.1 rfl (lv_room (Nat.le_of_ble_eq_true rfl)) dO_count_38 ⟨Nat.zero_le _, Nat.zero_le _⟩) hS (fun H locs hW hS => ?_)
      exact fw_iret hx hb hr hlocks hK hnb hW hS (by rw [he]) dO_count_41
    · rw [if_neg c3] at he
      by_cases c4 : a1 = 2
      · rw [if_pos c4] at he
        refine lv_tableIn (tgt := 42) hx hb dO_count_1 (by rw [c4]; decide) (by rw [c4]; decide) (by rw [c4]; rfl) (by decide) ?_
        refine lv_aload_n hx hb dO_count_42 rfl (lv_at hl 0 rfl) ?_
        refine fw_get (X := X) (v := .int (σ (0, 0, 0) 7)) hx hb hts hin_O hown hK hW (0, 0, 0) cv0 rfl rfl 7 (by decide) (htb _ m_148 rfl) (fun _ h => h) rfl rfl dO_count_43 ?_
        exact fw_iret hx hb hr hlocks hK hnb hW hS (by rw [he]) dO_count_46
      · rw [if_neg c4] at he
        by_cases c5 : a1 = 3
        · rw [if_pos c5] at he
          refine lv_tableIn (tgt := 47) hx hb dO_count_1 (by rw [c5]; decide) (by rw [c5]; decide) (by rw [c5]; rfl) (by decide) ?_
          refine lv_aload_n hx hb dO_count_47 rfl (lv_at hl 0 rfl) ?_
          refine fw_get (X := X) (v := .int (σ (0, 0, 0) 6)) hx hb hts hin_O hown hK hW (0, 0, 0) cv0 rfl rfl 6 (by decide) (htb _ m_147 rfl) (fun _ h => h) rfl rfl dO_count_48 ?_
          refine fw_kp (va_runS (As := [.int (σ (0, 0, 0) 6)]) (rest := []) ⟨hx, hb, hml, hown, hts⟩ (c_bitCount l X hI σ (σ (0, 0, 0) 6) ) (va_cwS 1 hts (tb_S m_402 m_400 m_401 m_33) rfl rfl rfl (by decide +kernel) ⟨Nat.le_of_ble_eq_true rfl, Nat.le_of_ble_eq_true rfl⟩) (fw_preS (X := X) hK hnb hW [.int (σ (0, 0, 0) 6)]) rfl rfl hl.1 rfl (lv_room (Nat.le_of_ble_eq_true rfl)) dO_count_51 ⟨Nat.zero_le _, Nat.zero_le _⟩) hS (fun H locs hW hS => ?_)
          exact fw_iret hx hb hr hlocks hK hnb hW hS (by rw [he]) dO_count_54
        · rw [if_neg c5] at he
          refine lv_tableOut (tgt := 55) hx hb dO_count_1 (sw_out4 c2 c3 c4 c5) (by decide) ?_
          refine lv_iconst (v := (-1)) hx hb dO_count_55 (by decide) ?_
          exact fw_iret hx hb hr hlocks hK hnb hW hS (by rw [he]) dO_count_56
end
