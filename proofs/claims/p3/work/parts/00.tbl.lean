-- ===== PART A: goes FIRST, ahead of the names: the tables' words, and 'selects' of the private methods out of them =====
/-- a private method of a class that the tables say can be made, by its rows of tables_1 -/
def lw_okq (q : MethodName × Nat) : Prop := (q.1.cls ≠ "java/lang/invoke/MethodHandle" ∧ q.1.cls ≠ "java/lang/invoke/VarHandle") ∧ Cond.instantiable q.1.cls q.2 ∈ tables_1 ∧ Cond.privateMethod q.1 ∈ tables_1 ∧ Cond.instanceMethod q.1 ∈ tables_1
theorem tt_1 {w : Cond} (h : w ∈ tables_1_1) : w ∈ tables_1 := List.mem_append_left _ h
theorem tt_2 {w : Cond} (h : w ∈ tables_1_2) : w ∈ tables_1 := List.mem_append_right _ (List.mem_append_left _ h)
theorem tt_3 {w : Cond} (h : w ∈ tables_1_3) : w ∈ tables_1 := List.mem_append_right _ (List.mem_append_right _ (List.mem_append_left _ h))
theorem tt_4 {w : Cond} (h : w ∈ tables_1_4) : w ∈ tables_1 := List.mem_append_right _ (List.mem_append_right _ (List.mem_append_right _ (List.mem_append_left _ h)))
theorem tt_5 {w : Cond} (h : w ∈ tables_1_5) : w ∈ tables_1 := List.mem_append_right _ (List.mem_append_right _ (List.mem_append_right _ (List.mem_append_right _ (List.mem_append_left _ h))))
theorem tt_6 {w : Cond} (h : w ∈ tables_1_6) : w ∈ tables_1 := List.mem_append_right _ (List.mem_append_right _ (List.mem_append_right _ (List.mem_append_right _ (List.mem_append_right _ h))))
set_option maxRecDepth 100000 in
theorem lw_p0 : lw_okq (⟨"ToffeeWords$Valley", "startAnew", "()V"⟩, 13) := ⟨⟨by decide +kernel, by decide +kernel⟩, tt_1 (List.mem_of_getElem? (i := 28) rfl), tt_2 (List.mem_of_getElem? (i := 78) rfl), tt_2 (List.mem_of_getElem? (i := 79) rfl)⟩
set_option maxRecDepth 100000 in
theorem lw_p1 : lw_okq (⟨"ToffeeWords$Rows", "empty", "()I"⟩, 4) := ⟨⟨by decide +kernel, by decide +kernel⟩, tt_1 (List.mem_of_getElem? (i := 63) rfl), tt_2 (List.mem_of_getElem? (i := 82) rfl), tt_2 (List.mem_of_getElem? (i := 83) rfl)⟩
set_option maxRecDepth 100000 in
theorem lw_p2 : lw_okq (⟨"ToffeeWords", "refuseBad", "()I"⟩, 16) := ⟨⟨by decide +kernel, by decide +kernel⟩, tt_1 (List.mem_of_getElem? (i := 20) rfl), tt_2 (List.mem_of_getElem? (i := 93) rfl), tt_2 (List.mem_of_getElem? (i := 94) rfl)⟩
set_option maxRecDepth 100000 in
theorem lw_p3 : lw_okq (⟨"ToffeeWords", "refuseFull", "()I"⟩, 16) := ⟨⟨by decide +kernel, by decide +kernel⟩, tt_1 (List.mem_of_getElem? (i := 20) rfl), tt_2 (List.mem_of_getElem? (i := 101) rfl), tt_2 (List.mem_of_getElem? (i := 102) rfl)⟩
set_option maxRecDepth 100000 in
theorem lw_p4 : lw_okq (⟨"ToffeeWords$Valley", "addApple", "(III)I"⟩, 13) := ⟨⟨by decide +kernel, by decide +kernel⟩, tt_1 (List.mem_of_getElem? (i := 28) rfl), tt_2 (List.mem_of_getElem? (i := 105) rfl), tt_2 (List.mem_of_getElem? (i := 106) rfl)⟩
set_option maxRecDepth 100000 in
theorem lw_p5 : lw_okq (⟨"ToffeeWords$Valley", "addBiter", "(II)I"⟩, 13) := ⟨⟨by decide +kernel, by decide +kernel⟩, tt_1 (List.mem_of_getElem? (i := 28) rfl), tt_2 (List.mem_of_getElem? (i := 113) rfl), tt_2 (List.mem_of_getElem? (i := 114) rfl)⟩
set_option maxRecDepth 100000 in
theorem lw_p6 : lw_okq (⟨"ToffeeWords$Text", "addByte", "(I)I"⟩, 6) := ⟨⟨by decide +kernel, by decide +kernel⟩, tt_1 (List.mem_of_getElem? (i := 159) rfl), tt_2 (List.mem_of_getElem? (i := 121) rfl), tt_2 (List.mem_of_getElem? (i := 122) rfl)⟩
set_option maxRecDepth 100000 in
theorem lw_p7 : lw_okq (⟨"ToffeeWords$Teller", "tell", "(LToffeeWords$Valley;)I"⟩, 3) := ⟨⟨by decide +kernel, by decide +kernel⟩, tt_1 (List.mem_of_getElem? (i := 153) rfl), tt_2 (List.mem_of_getElem? (i := 133) rfl), tt_2 (List.mem_of_getElem? (i := 134) rfl)⟩
set_option maxRecDepth 100000 in
theorem lw_p8 : lw_okq (⟨"ToffeeWords$Text", "scan", "()V"⟩, 6) := ⟨⟨by decide +kernel, by decide +kernel⟩, tt_1 (List.mem_of_getElem? (i := 159) rfl), tt_2 (List.mem_of_getElem? (i := 137) rfl), tt_2 (List.mem_of_getElem? (i := 138) rfl)⟩
set_option maxRecDepth 100000 in
theorem lw_p9 : lw_okq (⟨"ToffeeWords$Text", "scanToken", "(I)I"⟩, 6) := ⟨⟨by decide +kernel, by decide +kernel⟩, tt_1 (List.mem_of_getElem? (i := 159) rfl), tt_2 (List.mem_of_getElem? (i := 141) rfl), tt_2 (List.mem_of_getElem? (i := 142) rfl)⟩
set_option maxRecDepth 100000 in
theorem lw_p10 : lw_okq (⟨"ToffeeWords$Text", "wordThere", "(II)I"⟩, 6) := ⟨⟨by decide +kernel, by decide +kernel⟩, tt_1 (List.mem_of_getElem? (i := 159) rfl), tt_2 (List.mem_of_getElem? (i := 148) rfl), tt_2 (List.mem_of_getElem? (i := 149) rfl)⟩
set_option maxRecDepth 100000 in
theorem lw_p11 : lw_okq (⟨"ToffeeWords$Text", "isThere", "(Ljava/lang/String;II)Z"⟩, 6) := ⟨⟨by decide +kernel, by decide +kernel⟩, tt_1 (List.mem_of_getElem? (i := 159) rfl), tt_2 (List.mem_of_getElem? (i := 153) rfl), tt_2 (List.mem_of_getElem? (i := 154) rfl)⟩
set_option maxRecDepth 100000 in
theorem lw_p12 : lw_okq (⟨"ToffeeWords$Text", "addToken", "(III)V"⟩, 6) := ⟨⟨by decide +kernel, by decide +kernel⟩, tt_1 (List.mem_of_getElem? (i := 159) rfl), tt_2 (List.mem_of_getElem? (i := 211) rfl), tt_2 (List.mem_of_getElem? (i := 212) rfl)⟩
set_option maxRecDepth 100000 in
theorem lw_p13 : lw_okq (⟨"ToffeeWords$Teller", "sort", "()I"⟩, 3) := ⟨⟨by decide +kernel, by decide +kernel⟩, tt_1 (List.mem_of_getElem? (i := 153) rfl), tt_2 (List.mem_of_getElem? (i := 219) rfl), tt_2 (List.mem_of_getElem? (i := 220) rfl)⟩
set_option maxRecDepth 100000 in
theorem lw_p14 : lw_okq (⟨"ToffeeWords$Teller", "fault", "()I"⟩, 3) := ⟨⟨by decide +kernel, by decide +kernel⟩, tt_1 (List.mem_of_getElem? (i := 153) rfl), tt_2 (List.mem_of_getElem? (i := 223) rfl), tt_2 (List.mem_of_getElem? (i := 224) rfl)⟩
set_option maxRecDepth 100000 in
theorem lw_p15 : lw_okq (⟨"ToffeeWords$Teller", "goOn", "()V"⟩, 3) := ⟨⟨by decide +kernel, by decide +kernel⟩, tt_1 (List.mem_of_getElem? (i := 153) rfl), tt_2 (List.mem_of_getElem? (i := 227) rfl), tt_2 (List.mem_of_getElem? (i := 228) rfl)⟩
def lw_privs_1 : List (MethodName × Nat) := [(⟨"ToffeeWords$Valley", "startAnew", "()V"⟩, 13), (⟨"ToffeeWords$Rows", "empty", "()I"⟩, 4), (⟨"ToffeeWords", "refuseBad", "()I"⟩, 16), (⟨"ToffeeWords", "refuseFull", "()I"⟩, 16), (⟨"ToffeeWords$Valley", "addApple", "(III)I"⟩, 13), (⟨"ToffeeWords$Valley", "addBiter", "(II)I"⟩, 13), (⟨"ToffeeWords$Text", "addByte", "(I)I"⟩, 6), (⟨"ToffeeWords$Teller", "tell", "(LToffeeWords$Valley;)I"⟩, 3), (⟨"ToffeeWords$Text", "scan", "()V"⟩, 6), (⟨"ToffeeWords$Text", "scanToken", "(I)I"⟩, 6), (⟨"ToffeeWords$Text", "wordThere", "(II)I"⟩, 6), (⟨"ToffeeWords$Text", "isThere", "(Ljava/lang/String;II)Z"⟩, 6), (⟨"ToffeeWords$Text", "addToken", "(III)V"⟩, 6), (⟨"ToffeeWords$Teller", "sort", "()I"⟩, 3), (⟨"ToffeeWords$Teller", "fault", "()I"⟩, 3), (⟨"ToffeeWords$Teller", "goOn", "()V"⟩, 3)]
theorem lw_r1 : ∀ q ∈ lw_privs_1, lw_okq q := List.forall_mem_cons.mpr ⟨lw_p0, List.forall_mem_cons.mpr ⟨lw_p1, List.forall_mem_cons.mpr ⟨lw_p2, List.forall_mem_cons.mpr ⟨lw_p3, List.forall_mem_cons.mpr ⟨lw_p4, List.forall_mem_cons.mpr ⟨lw_p5, List.forall_mem_cons.mpr ⟨lw_p6, List.forall_mem_cons.mpr ⟨lw_p7, List.forall_mem_cons.mpr ⟨lw_p8, List.forall_mem_cons.mpr ⟨lw_p9, List.forall_mem_cons.mpr ⟨lw_p10, List.forall_mem_cons.mpr ⟨lw_p11, List.forall_mem_cons.mpr ⟨lw_p12, List.forall_mem_cons.mpr ⟨lw_p13, List.forall_mem_cons.mpr ⟨lw_p14, List.forall_mem_cons.mpr ⟨lw_p15, fun _ h => absurd h List.not_mem_nil⟩⟩⟩⟩⟩⟩⟩⟩⟩⟩⟩⟩⟩⟩⟩⟩
set_option maxRecDepth 100000 in
theorem lw_p16 : lw_okq (⟨"ToffeeWords$Teller", "takeStop", "()Z"⟩, 3) := ⟨⟨by decide +kernel, by decide +kernel⟩, tt_1 (List.mem_of_getElem? (i := 153) rfl), tt_2 (List.mem_of_getElem? (i := 231) rfl), tt_2 (List.mem_of_getElem? (i := 232) rfl)⟩
set_option maxRecDepth 100000 in
theorem lw_p17 : lw_okq (⟨"ToffeeWords$Teller", "tellItem", "(LToffeeWords$Valley;)Z"⟩, 3) := ⟨⟨by decide +kernel, by decide +kernel⟩, tt_1 (List.mem_of_getElem? (i := 153) rfl), tt_2 (List.mem_of_getElem? (i := 235) rfl), tt_2 (List.mem_of_getElem? (i := 236) rfl)⟩
set_option maxRecDepth 100000 in
theorem lw_p18 : lw_okq (⟨"ToffeeWords$Teller", "tellDamp", "(LToffeeWords$Valley;)Z"⟩, 3) := ⟨⟨by decide +kernel, by decide +kernel⟩, tt_1 (List.mem_of_getElem? (i := 153) rfl), tt_2 (List.mem_of_getElem? (i := 239) rfl), tt_3 (List.mem_of_getElem? (i := 0) rfl)⟩
set_option maxRecDepth 100000 in
theorem lw_p19 : lw_okq (⟨"ToffeeWords$Teller", "takeNumber", "(III)Z"⟩, 3) := ⟨⟨by decide +kernel, by decide +kernel⟩, tt_1 (List.mem_of_getElem? (i := 153) rfl), tt_3 (List.mem_of_getElem? (i := 3) rfl), tt_3 (List.mem_of_getElem? (i := 4) rfl)⟩
set_option maxRecDepth 100000 in
theorem lw_p20 : lw_okq (⟨"ToffeeWords$Teller", "value", "()I"⟩, 3) := ⟨⟨by decide +kernel, by decide +kernel⟩, tt_1 (List.mem_of_getElem? (i := 153) rfl), tt_3 (List.mem_of_getElem? (i := 7) rfl), tt_3 (List.mem_of_getElem? (i := 8) rfl)⟩
set_option maxRecDepth 100000 in
theorem lw_p21 : lw_okq (⟨"ToffeeWords$Teller", "tellNewApple", "(LToffeeWords$Valley;)Z"⟩, 3) := ⟨⟨by decide +kernel, by decide +kernel⟩, tt_1 (List.mem_of_getElem? (i := 153) rfl), tt_3 (List.mem_of_getElem? (i := 12) rfl), tt_3 (List.mem_of_getElem? (i := 13) rfl)⟩
set_option maxRecDepth 100000 in
theorem lw_p22 : lw_okq (⟨"ToffeeWords$Teller", "tellNewBiter", "(LToffeeWords$Valley;)Z"⟩, 3) := ⟨⟨by decide +kernel, by decide +kernel⟩, tt_1 (List.mem_of_getElem? (i := 153) rfl), tt_3 (List.mem_of_getElem? (i := 17) rfl), tt_3 (List.mem_of_getElem? (i := 18) rfl)⟩
set_option maxRecDepth 100000 in
theorem lw_p23 : lw_okq (⟨"ToffeeWords$Teller", "tellBite", "(LToffeeWords$Valley;)Z"⟩, 3) := ⟨⟨by decide +kernel, by decide +kernel⟩, tt_1 (List.mem_of_getElem? (i := 153) rfl), tt_3 (List.mem_of_getElem? (i := 22) rfl), tt_3 (List.mem_of_getElem? (i := 23) rfl)⟩
set_option maxRecDepth 100000 in
theorem lw_p24 : lw_okq (⟨"ToffeeWords$Teller", "takeWholeApple", "(ILToffeeWords$Valley;)Z"⟩, 3) := ⟨⟨by decide +kernel, by decide +kernel⟩, tt_1 (List.mem_of_getElem? (i := 153) rfl), tt_3 (List.mem_of_getElem? (i := 26) rfl), tt_3 (List.mem_of_getElem? (i := 27) rfl)⟩
set_option maxRecDepth 100000 in
theorem lw_p25 : lw_okq (⟨"ToffeeWords$Valley", "hasApple", "(I)Z"⟩, 13) := ⟨⟨by decide +kernel, by decide +kernel⟩, tt_1 (List.mem_of_getElem? (i := 28) rfl), tt_3 (List.mem_of_getElem? (i := 30) rfl), tt_3 (List.mem_of_getElem? (i := 31) rfl)⟩
set_option maxRecDepth 100000 in
theorem lw_p26 : lw_okq (⟨"ToffeeWords$Valley", "isOut", "(I)Z"⟩, 13) := ⟨⟨by decide +kernel, by decide +kernel⟩, tt_1 (List.mem_of_getElem? (i := 28) rfl), tt_3 (List.mem_of_getElem? (i := 34) rfl), tt_3 (List.mem_of_getElem? (i := 35) rfl)⟩
set_option maxRecDepth 100000 in
theorem lw_p27 : lw_okq (⟨"ToffeeWords$Valley", "bite", "(LToffeeWords$Moment;II)I"⟩, 13) := ⟨⟨by decide +kernel, by decide +kernel⟩, tt_1 (List.mem_of_getElem? (i := 28) rfl), tt_3 (List.mem_of_getElem? (i := 38) rfl), tt_3 (List.mem_of_getElem? (i := 39) rfl)⟩
set_option maxRecDepth 100000 in
theorem lw_p28 : lw_okq (⟨"ToffeeWords$Valley", "comesOff", "(LToffeeWords$Moment;III)I"⟩, 13) := ⟨⟨by decide +kernel, by decide +kernel⟩, tt_1 (List.mem_of_getElem? (i := 28) rfl), tt_3 (List.mem_of_getElem? (i := 42) rfl), tt_3 (List.mem_of_getElem? (i := 43) rfl)⟩
set_option maxRecDepth 100000 in
theorem lw_p29 : lw_okq (⟨"ToffeeWords$Valley", "dampOn", "(I)I"⟩, 13) := ⟨⟨by decide +kernel, by decide +kernel⟩, tt_1 (List.mem_of_getElem? (i := 28) rfl), tt_3 (List.mem_of_getElem? (i := 46) rfl), tt_3 (List.mem_of_getElem? (i := 47) rfl)⟩
set_option maxRecDepth 100000 in
theorem lw_p30 : lw_okq (⟨"ToffeeWords$Teller", "tellDip", "(LToffeeWords$Valley;)Z"⟩, 3) := ⟨⟨by decide +kernel, by decide +kernel⟩, tt_1 (List.mem_of_getElem? (i := 153) rfl), tt_3 (List.mem_of_getElem? (i := 64) rfl), tt_3 (List.mem_of_getElem? (i := 65) rfl)⟩
set_option maxRecDepth 100000 in
theorem lw_p31 : lw_okq (⟨"ToffeeWords$Valley", "dip", "(II)I"⟩, 13) := ⟨⟨by decide +kernel, by decide +kernel⟩, tt_1 (List.mem_of_getElem? (i := 28) rfl), tt_3 (List.mem_of_getElem? (i := 68) rfl), tt_3 (List.mem_of_getElem? (i := 69) rfl)⟩
def lw_privs_2 : List (MethodName × Nat) := [(⟨"ToffeeWords$Teller", "takeStop", "()Z"⟩, 3), (⟨"ToffeeWords$Teller", "tellItem", "(LToffeeWords$Valley;)Z"⟩, 3), (⟨"ToffeeWords$Teller", "tellDamp", "(LToffeeWords$Valley;)Z"⟩, 3), (⟨"ToffeeWords$Teller", "takeNumber", "(III)Z"⟩, 3), (⟨"ToffeeWords$Teller", "value", "()I"⟩, 3), (⟨"ToffeeWords$Teller", "tellNewApple", "(LToffeeWords$Valley;)Z"⟩, 3), (⟨"ToffeeWords$Teller", "tellNewBiter", "(LToffeeWords$Valley;)Z"⟩, 3), (⟨"ToffeeWords$Teller", "tellBite", "(LToffeeWords$Valley;)Z"⟩, 3), (⟨"ToffeeWords$Teller", "takeWholeApple", "(ILToffeeWords$Valley;)Z"⟩, 3), (⟨"ToffeeWords$Valley", "hasApple", "(I)Z"⟩, 13), (⟨"ToffeeWords$Valley", "isOut", "(I)Z"⟩, 13), (⟨"ToffeeWords$Valley", "bite", "(LToffeeWords$Moment;II)I"⟩, 13), (⟨"ToffeeWords$Valley", "comesOff", "(LToffeeWords$Moment;III)I"⟩, 13), (⟨"ToffeeWords$Valley", "dampOn", "(I)I"⟩, 13), (⟨"ToffeeWords$Teller", "tellDip", "(LToffeeWords$Valley;)Z"⟩, 3), (⟨"ToffeeWords$Valley", "dip", "(II)I"⟩, 13)]
theorem lw_r2 : ∀ q ∈ lw_privs_2, lw_okq q := List.forall_mem_cons.mpr ⟨lw_p16, List.forall_mem_cons.mpr ⟨lw_p17, List.forall_mem_cons.mpr ⟨lw_p18, List.forall_mem_cons.mpr ⟨lw_p19, List.forall_mem_cons.mpr ⟨lw_p20, List.forall_mem_cons.mpr ⟨lw_p21, List.forall_mem_cons.mpr ⟨lw_p22, List.forall_mem_cons.mpr ⟨lw_p23, List.forall_mem_cons.mpr ⟨lw_p24, List.forall_mem_cons.mpr ⟨lw_p25, List.forall_mem_cons.mpr ⟨lw_p26, List.forall_mem_cons.mpr ⟨lw_p27, List.forall_mem_cons.mpr ⟨lw_p28, List.forall_mem_cons.mpr ⟨lw_p29, List.forall_mem_cons.mpr ⟨lw_p30, List.forall_mem_cons.mpr ⟨lw_p31, fun _ h => absurd h List.not_mem_nil⟩⟩⟩⟩⟩⟩⟩⟩⟩⟩⟩⟩⟩⟩⟩⟩
set_option maxRecDepth 100000 in
theorem lw_p32 : lw_okq (⟨"ToffeeWords$Teller", "tellDays", "(LToffeeWords$Valley;)Z"⟩, 3) := ⟨⟨by decide +kernel, by decide +kernel⟩, tt_1 (List.mem_of_getElem? (i := 153) rfl), tt_3 (List.mem_of_getElem? (i := 72) rfl), tt_3 (List.mem_of_getElem? (i := 73) rfl)⟩
set_option maxRecDepth 100000 in
theorem lw_p33 : lw_okq (⟨"ToffeeWords$Valley", "passDays", "(I)V"⟩, 13) := ⟨⟨by decide +kernel, by decide +kernel⟩, tt_1 (List.mem_of_getElem? (i := 28) rfl), tt_3 (List.mem_of_getElem? (i := 76) rfl), tt_3 (List.mem_of_getElem? (i := 77) rfl)⟩
set_option maxRecDepth 100000 in
theorem lw_p34 : lw_okq (⟨"ToffeeWords$Moment", "passDay", "(I)V"⟩, 4) := ⟨⟨by decide +kernel, by decide +kernel⟩, tt_1 (List.mem_of_getElem? (i := 34) rfl), tt_3 (List.mem_of_getElem? (i := 80) rfl), tt_3 (List.mem_of_getElem? (i := 81) rfl)⟩
set_option maxRecDepth 100000 in
theorem lw_p35 : lw_okq (⟨"ToffeeWords$Valley", "remember", "()V"⟩, 13) := ⟨⟨by decide +kernel, by decide +kernel⟩, tt_1 (List.mem_of_getElem? (i := 28) rfl), tt_3 (List.mem_of_getElem? (i := 89) rfl), tt_3 (List.mem_of_getElem? (i := 90) rfl)⟩
set_option maxRecDepth 100000 in
theorem lw_p36 : lw_okq (⟨"ToffeeWords$Valley", "forgetFirstStep", "()V"⟩, 13) := ⟨⟨by decide +kernel, by decide +kernel⟩, tt_1 (List.mem_of_getElem? (i := 28) rfl), tt_3 (List.mem_of_getElem? (i := 93) rfl), tt_3 (List.mem_of_getElem? (i := 94) rfl)⟩
set_option maxRecDepth 100000 in
theorem lw_p37 : lw_okq (⟨"ToffeeWords$Moment", "takeOver", "(LToffeeWords$Moment;)V"⟩, 4) := ⟨⟨by decide +kernel, by decide +kernel⟩, tt_1 (List.mem_of_getElem? (i := 34) rfl), tt_3 (List.mem_of_getElem? (i := 97) rfl), tt_3 (List.mem_of_getElem? (i := 98) rfl)⟩
set_option maxRecDepth 100000 in
theorem lw_p38 : lw_okq (⟨"ToffeeWords$Moment", "fates", "(II)I"⟩, 4) := ⟨⟨by decide +kernel, by decide +kernel⟩, tt_1 (List.mem_of_getElem? (i := 34) rfl), tt_3 (List.mem_of_getElem? (i := 105) rfl), tt_3 (List.mem_of_getElem? (i := 106) rfl)⟩
set_option maxRecDepth 100000 in
theorem lw_p39 : lw_okq (⟨"ToffeeWords$Valley", "hasBiter", "(I)Z"⟩, 13) := ⟨⟨by decide +kernel, by decide +kernel⟩, tt_1 (List.mem_of_getElem? (i := 28) rfl), tt_3 (List.mem_of_getElem? (i := 113) rfl), tt_3 (List.mem_of_getElem? (i := 114) rfl)⟩
set_option maxRecDepth 100000 in
theorem lw_p40 : lw_okq (⟨"ToffeeWords", "refuseNo", "()I"⟩, 16) := ⟨⟨by decide +kernel, by decide +kernel⟩, tt_1 (List.mem_of_getElem? (i := 20) rfl), tt_3 (List.mem_of_getElem? (i := 119) rfl), tt_3 (List.mem_of_getElem? (i := 120) rfl)⟩
set_option maxRecDepth 100000 in
theorem lw_p41 : lw_okq (⟨"ToffeeWords$Valley", "stepBack", "()V"⟩, 13) := ⟨⟨by decide +kernel, by decide +kernel⟩, tt_1 (List.mem_of_getElem? (i := 28) rfl), tt_3 (List.mem_of_getElem? (i := 133) rfl), tt_3 (List.mem_of_getElem? (i := 134) rfl)⟩
set_option maxRecDepth 100000 in
theorem lw_p42 : lw_okq (⟨"ToffeeWords$Valley", "tellApple", "(II)I"⟩, 13) := ⟨⟨by decide +kernel, by decide +kernel⟩, tt_1 (List.mem_of_getElem? (i := 28) rfl), tt_3 (List.mem_of_getElem? (i := 141) rfl), tt_3 (List.mem_of_getElem? (i := 142) rfl)⟩
set_option maxRecDepth 100000 in
theorem lw_p43 : lw_okq (⟨"ToffeeWords$Valley", "hardBehind", "(II)I"⟩, 13) := ⟨⟨by decide +kernel, by decide +kernel⟩, tt_1 (List.mem_of_getElem? (i := 28) rfl), tt_3 (List.mem_of_getElem? (i := 145) rfl), tt_3 (List.mem_of_getElem? (i := 146) rfl)⟩
set_option maxRecDepth 100000 in
theorem lw_p44 : lw_okq (⟨"ToffeeWords$Valley", "comesOffNow", "(II)I"⟩, 13) := ⟨⟨by decide +kernel, by decide +kernel⟩, tt_1 (List.mem_of_getElem? (i := 28) rfl), tt_3 (List.mem_of_getElem? (i := 163) rfl), tt_3 (List.mem_of_getElem? (i := 164) rfl)⟩
set_option maxRecDepth 100000 in
theorem lw_p45 : lw_okq (⟨"ToffeeWords$Valley", "takesOff", "(II)I"⟩, 13) := ⟨⟨by decide +kernel, by decide +kernel⟩, tt_1 (List.mem_of_getElem? (i := 28) rfl), tt_3 (List.mem_of_getElem? (i := 175) rfl), tt_3 (List.mem_of_getElem? (i := 176) rfl)⟩
set_option maxRecDepth 100000 in
theorem lw_p46 : lw_okq (⟨"ToffeeWords", "refuseBadAsTen", "()I"⟩, 16) := ⟨⟨by decide +kernel, by decide +kernel⟩, tt_1 (List.mem_of_getElem? (i := 20) rfl), tt_3 (List.mem_of_getElem? (i := 183) rfl), tt_3 (List.mem_of_getElem? (i := 184) rfl)⟩
set_option maxRecDepth 100000 in
theorem lw_p47 : lw_okq (⟨"ToffeeWords$Few", "bitesFor", "(LToffeeWords$Valley;I)I"⟩, 1) := ⟨⟨by decide +kernel, by decide +kernel⟩, tt_1 (List.mem_of_getElem? (i := 203) rfl), tt_3 (List.mem_of_getElem? (i := 187) rfl), tt_3 (List.mem_of_getElem? (i := 188) rfl)⟩
def lw_privs_3 : List (MethodName × Nat) := [(⟨"ToffeeWords$Teller", "tellDays", "(LToffeeWords$Valley;)Z"⟩, 3), (⟨"ToffeeWords$Valley", "passDays", "(I)V"⟩, 13), (⟨"ToffeeWords$Moment", "passDay", "(I)V"⟩, 4), (⟨"ToffeeWords$Valley", "remember", "()V"⟩, 13), (⟨"ToffeeWords$Valley", "forgetFirstStep", "()V"⟩, 13), (⟨"ToffeeWords$Moment", "takeOver", "(LToffeeWords$Moment;)V"⟩, 4), (⟨"ToffeeWords$Moment", "fates", "(II)I"⟩, 4), (⟨"ToffeeWords$Valley", "hasBiter", "(I)Z"⟩, 13), (⟨"ToffeeWords", "refuseNo", "()I"⟩, 16), (⟨"ToffeeWords$Valley", "stepBack", "()V"⟩, 13), (⟨"ToffeeWords$Valley", "tellApple", "(II)I"⟩, 13), (⟨"ToffeeWords$Valley", "hardBehind", "(II)I"⟩, 13), (⟨"ToffeeWords$Valley", "comesOffNow", "(II)I"⟩, 13), (⟨"ToffeeWords$Valley", "takesOff", "(II)I"⟩, 13), (⟨"ToffeeWords", "refuseBadAsTen", "()I"⟩, 16), (⟨"ToffeeWords$Few", "bitesFor", "(LToffeeWords$Valley;I)I"⟩, 1)]
theorem lw_r3 : ∀ q ∈ lw_privs_3, lw_okq q := List.forall_mem_cons.mpr ⟨lw_p32, List.forall_mem_cons.mpr ⟨lw_p33, List.forall_mem_cons.mpr ⟨lw_p34, List.forall_mem_cons.mpr ⟨lw_p35, List.forall_mem_cons.mpr ⟨lw_p36, List.forall_mem_cons.mpr ⟨lw_p37, List.forall_mem_cons.mpr ⟨lw_p38, List.forall_mem_cons.mpr ⟨lw_p39, List.forall_mem_cons.mpr ⟨lw_p40, List.forall_mem_cons.mpr ⟨lw_p41, List.forall_mem_cons.mpr ⟨lw_p42, List.forall_mem_cons.mpr ⟨lw_p43, List.forall_mem_cons.mpr ⟨lw_p44, List.forall_mem_cons.mpr ⟨lw_p45, List.forall_mem_cons.mpr ⟨lw_p46, List.forall_mem_cons.mpr ⟨lw_p47, fun _ h => absurd h List.not_mem_nil⟩⟩⟩⟩⟩⟩⟩⟩⟩⟩⟩⟩⟩⟩⟩⟩
set_option maxRecDepth 100000 in
theorem lw_p48 : lw_okq (⟨"ToffeeWords$Few", "biterAt", "(LToffeeWords$Valley;II)I"⟩, 1) := ⟨⟨by decide +kernel, by decide +kernel⟩, tt_1 (List.mem_of_getElem? (i := 203) rfl), tt_3 (List.mem_of_getElem? (i := 193) rfl), tt_3 (List.mem_of_getElem? (i := 194) rfl)⟩
set_option maxRecDepth 100000 in
theorem lw_p49 : lw_okq (⟨"ToffeeWords$Few", "firstOnShortestRow", "(LToffeeWords$Valley;II)I"⟩, 1) := ⟨⟨by decide +kernel, by decide +kernel⟩, tt_1 (List.mem_of_getElem? (i := 203) rfl), tt_3 (List.mem_of_getElem? (i := 197) rfl), tt_3 (List.mem_of_getElem? (i := 198) rfl)⟩
set_option maxRecDepth 100000 in
theorem lw_p50 : lw_okq (⟨"ToffeeWords$Feast", "lay", "(LToffeeWords$Valley;)V"⟩, 4) := ⟨⟨by decide +kernel, by decide +kernel⟩, tt_1 (List.mem_of_getElem? (i := 213) rfl), tt_3 (List.mem_of_getElem? (i := 205) rfl), tt_3 (List.mem_of_getElem? (i := 206) rfl)⟩
set_option maxRecDepth 100000 in
theorem lw_p51 : lw_okq (⟨"ToffeeWords$Feast", "keepIfMore", "(I)V"⟩, 4) := ⟨⟨by decide +kernel, by decide +kernel⟩, tt_1 (List.mem_of_getElem? (i := 213) rfl), tt_3 (List.mem_of_getElem? (i := 213) rfl), tt_3 (List.mem_of_getElem? (i := 214) rfl)⟩
set_option maxRecDepth 100000 in
theorem lw_p52 : lw_okq (⟨"ToffeeWords$Rows", "isFull", "()Z"⟩, 4) := ⟨⟨by decide +kernel, by decide +kernel⟩, tt_1 (List.mem_of_getElem? (i := 63) rfl), tt_3 (List.mem_of_getElem? (i := 222) rfl), tt_3 (List.mem_of_getElem? (i := 223) rfl)⟩
set_option maxRecDepth 100000 in
theorem lw_p53 : lw_okq (⟨"ToffeeWords$Rows", "add", "(IIIII)I"⟩, 4) := ⟨⟨by decide +kernel, by decide +kernel⟩, tt_1 (List.mem_of_getElem? (i := 63) rfl), tt_3 (List.mem_of_getElem? (i := 226) rfl), tt_3 (List.mem_of_getElem? (i := 227) rfl)⟩
set_option maxRecDepth 100000 in
theorem lw_p54 : lw_okq (⟨"ToffeeWords$Guess", "toffeeAhead", "(LToffeeWords$Valley;II)I"⟩, 1) := ⟨⟨by decide +kernel, by decide +kernel⟩, tt_2 (List.mem_of_getElem? (i := 15) rfl), tt_3 (List.mem_of_getElem? (i := 235) rfl), tt_3 (List.mem_of_getElem? (i := 236) rfl)⟩
set_option maxRecDepth 100000 in
theorem lw_p55 : lw_okq (⟨"ToffeeWords$Rows", "cell", "(II)I"⟩, 4) := ⟨⟨by decide +kernel, by decide +kernel⟩, tt_1 (List.mem_of_getElem? (i := 63) rfl), tt_4 (List.mem_of_getElem? (i := 2) rfl), tt_4 (List.mem_of_getElem? (i := 3) rfl)⟩
set_option maxRecDepth 100000 in
theorem lw_p56 : lw_okq (⟨"ToffeeWords$Guess", "appleKinds", "(LToffeeWords$Valley;I)I"⟩, 1) := ⟨⟨by decide +kernel, by decide +kernel⟩, tt_2 (List.mem_of_getElem? (i := 15) rfl), tt_4 (List.mem_of_getElem? (i := 28) rfl), tt_4 (List.mem_of_getElem? (i := 29) rfl)⟩
set_option maxRecDepth 100000 in
theorem lw_p57 : lw_okq (⟨"ToffeeWords$Guess", "bestLook", "(LToffeeWords$Valley;I)I"⟩, 1) := ⟨⟨by decide +kernel, by decide +kernel⟩, tt_2 (List.mem_of_getElem? (i := 15) rfl), tt_4 (List.mem_of_getElem? (i := 39) rfl), tt_4 (List.mem_of_getElem? (i := 40) rfl)⟩
set_option maxRecDepth 100000 in
theorem lw_p58 : lw_okq (⟨"ToffeeWords$Guess", "mostAlike", "(I)I"⟩, 1) := ⟨⟨by decide +kernel, by decide +kernel⟩, tt_2 (List.mem_of_getElem? (i := 15) rfl), tt_4 (List.mem_of_getElem? (i := 45) rfl), tt_4 (List.mem_of_getElem? (i := 46) rfl)⟩
set_option maxRecDepth 100000 in
theorem lw_p59 : lw_okq (⟨"ToffeeWords$Guess", "biterKinds", "(LToffeeWords$Valley;I)I"⟩, 1) := ⟨⟨by decide +kernel, by decide +kernel⟩, tt_2 (List.mem_of_getElem? (i := 15) rfl), tt_4 (List.mem_of_getElem? (i := 53) rfl), tt_4 (List.mem_of_getElem? (i := 54) rfl)⟩
set_option maxRecDepth 100000 in
theorem lw_p60 : lw_okq (⟨"ToffeeWords$Guess", "bestBite", "(LToffeeWords$Valley;I)I"⟩, 1) := ⟨⟨by decide +kernel, by decide +kernel⟩, tt_2 (List.mem_of_getElem? (i := 15) rfl), tt_4 (List.mem_of_getElem? (i := 65) rfl), tt_4 (List.mem_of_getElem? (i := 66) rfl)⟩
set_option maxRecDepth 100000 in
theorem lw_p61 : lw_okq (⟨"ToffeeWords$Pair", "weigh", "(LToffeeWords$Valley;III)V"⟩, 4) := ⟨⟨by decide +kernel, by decide +kernel⟩, tt_1 (List.mem_of_getElem? (i := 234) rfl), tt_4 (List.mem_of_getElem? (i := 74) rfl), tt_4 (List.mem_of_getElem? (i := 75) rfl)⟩
set_option maxRecDepth 100000 in
theorem lw_p62 : lw_okq (⟨"ToffeeWords$Valley", "robbedTenths", "(II)I"⟩, 13) := ⟨⟨by decide +kernel, by decide +kernel⟩, tt_1 (List.mem_of_getElem? (i := 28) rfl), tt_4 (List.mem_of_getElem? (i := 90) rfl), tt_4 (List.mem_of_getElem? (i := 91) rfl)⟩
set_option maxRecDepth 100000 in
theorem lw_p63 : lw_okq (⟨"ToffeeWords$Valley", "hardNowWith", "(II)I"⟩, 13) := ⟨⟨by decide +kernel, by decide +kernel⟩, tt_1 (List.mem_of_getElem? (i := 28) rfl), tt_4 (List.mem_of_getElem? (i := 94) rfl), tt_4 (List.mem_of_getElem? (i := 95) rfl)⟩
def lw_privs_4 : List (MethodName × Nat) := [(⟨"ToffeeWords$Few", "biterAt", "(LToffeeWords$Valley;II)I"⟩, 1), (⟨"ToffeeWords$Few", "firstOnShortestRow", "(LToffeeWords$Valley;II)I"⟩, 1), (⟨"ToffeeWords$Feast", "lay", "(LToffeeWords$Valley;)V"⟩, 4), (⟨"ToffeeWords$Feast", "keepIfMore", "(I)V"⟩, 4), (⟨"ToffeeWords$Rows", "isFull", "()Z"⟩, 4), (⟨"ToffeeWords$Rows", "add", "(IIIII)I"⟩, 4), (⟨"ToffeeWords$Guess", "toffeeAhead", "(LToffeeWords$Valley;II)I"⟩, 1), (⟨"ToffeeWords$Rows", "cell", "(II)I"⟩, 4), (⟨"ToffeeWords$Guess", "appleKinds", "(LToffeeWords$Valley;I)I"⟩, 1), (⟨"ToffeeWords$Guess", "bestLook", "(LToffeeWords$Valley;I)I"⟩, 1), (⟨"ToffeeWords$Guess", "mostAlike", "(I)I"⟩, 1), (⟨"ToffeeWords$Guess", "biterKinds", "(LToffeeWords$Valley;I)I"⟩, 1), (⟨"ToffeeWords$Guess", "bestBite", "(LToffeeWords$Valley;I)I"⟩, 1), (⟨"ToffeeWords$Pair", "weigh", "(LToffeeWords$Valley;III)V"⟩, 4), (⟨"ToffeeWords$Valley", "robbedTenths", "(II)I"⟩, 13), (⟨"ToffeeWords$Valley", "hardNowWith", "(II)I"⟩, 13)]
theorem lw_r4 : ∀ q ∈ lw_privs_4, lw_okq q := List.forall_mem_cons.mpr ⟨lw_p48, List.forall_mem_cons.mpr ⟨lw_p49, List.forall_mem_cons.mpr ⟨lw_p50, List.forall_mem_cons.mpr ⟨lw_p51, List.forall_mem_cons.mpr ⟨lw_p52, List.forall_mem_cons.mpr ⟨lw_p53, List.forall_mem_cons.mpr ⟨lw_p54, List.forall_mem_cons.mpr ⟨lw_p55, List.forall_mem_cons.mpr ⟨lw_p56, List.forall_mem_cons.mpr ⟨lw_p57, List.forall_mem_cons.mpr ⟨lw_p58, List.forall_mem_cons.mpr ⟨lw_p59, List.forall_mem_cons.mpr ⟨lw_p60, List.forall_mem_cons.mpr ⟨lw_p61, List.forall_mem_cons.mpr ⟨lw_p62, List.forall_mem_cons.mpr ⟨lw_p63, fun _ h => absurd h List.not_mem_nil⟩⟩⟩⟩⟩⟩⟩⟩⟩⟩⟩⟩⟩⟩⟩⟩
set_option maxRecDepth 100000 in
theorem lw_p64 : lw_okq (⟨"ToffeeWords$Valley", "takeOver", "(LToffeeWords$Valley;)V"⟩, 13) := ⟨⟨by decide +kernel, by decide +kernel⟩, tt_1 (List.mem_of_getElem? (i := 28) rfl), tt_4 (List.mem_of_getElem? (i := 127) rfl), tt_4 (List.mem_of_getElem? (i := 128) rfl)⟩
set_option maxRecDepth 100000 in
theorem lw_p65 : lw_okq (⟨"ToffeeWords$Rows", "takeOver", "(LToffeeWords$Rows;)V"⟩, 4) := ⟨⟨by decide +kernel, by decide +kernel⟩, tt_1 (List.mem_of_getElem? (i := 63) rfl), tt_4 (List.mem_of_getElem? (i := 132) rfl), tt_4 (List.mem_of_getElem? (i := 133) rfl)⟩
set_option maxRecDepth 100000 in
theorem lw_p66 : lw_okq (⟨"ToffeeWords$Valley", "howMany", "(I)I"⟩, 13) := ⟨⟨by decide +kernel, by decide +kernel⟩, tt_1 (List.mem_of_getElem? (i := 28) rfl), tt_4 (List.mem_of_getElem? (i := 149) rfl), tt_4 (List.mem_of_getElem? (i := 150) rfl)⟩
set_option maxRecDepth 100000 in
theorem lw_p67 : lw_okq (⟨"ToffeeWords$Moment", "toffeeOnAll", "(I)I"⟩, 4) := ⟨⟨by decide +kernel, by decide +kernel⟩, tt_1 (List.mem_of_getElem? (i := 34) rfl), tt_4 (List.mem_of_getElem? (i := 154) rfl), tt_4 (List.mem_of_getElem? (i := 155) rfl)⟩
set_option maxRecDepth 100000 in
theorem lw_p68 : lw_okq (⟨"ToffeeWords$Valley", "mixInto", "(J)J"⟩, 13) := ⟨⟨by decide +kernel, by decide +kernel⟩, tt_1 (List.mem_of_getElem? (i := 28) rfl), tt_4 (List.mem_of_getElem? (i := 164) rfl), tt_4 (List.mem_of_getElem? (i := 165) rfl)⟩
set_option maxRecDepth 100000 in
theorem lw_p69 : lw_okq (⟨"ToffeeWords$Rows", "mixRows", "(J)J"⟩, 4) := ⟨⟨by decide +kernel, by decide +kernel⟩, tt_1 (List.mem_of_getElem? (i := 63) rfl), tt_4 (List.mem_of_getElem? (i := 170) rfl), tt_4 (List.mem_of_getElem? (i := 171) rfl)⟩
set_option maxRecDepth 100000 in
theorem lw_p70 : lw_okq (⟨"ToffeeWordsModel", "many", "()I"⟩, 21) := ⟨⟨by decide +kernel, by decide +kernel⟩, tt_4 (List.mem_of_getElem? (i := 176) rfl), tt_5 (List.mem_of_getElem? (i := 13) rfl), tt_5 (List.mem_of_getElem? (i := 14) rfl)⟩
set_option maxRecDepth 100000 in
theorem lw_p71 : lw_okq (⟨"ToffeeWordsModel", "bad", "(I)I"⟩, 21) := ⟨⟨by decide +kernel, by decide +kernel⟩, tt_4 (List.mem_of_getElem? (i := 176) rfl), tt_5 (List.mem_of_getElem? (i := 29) rfl), tt_5 (List.mem_of_getElem? (i := 30) rfl)⟩
set_option maxRecDepth 100000 in
theorem lw_p72 : lw_okq (⟨"ToffeeWordsModel", "full", "()I"⟩, 21) := ⟨⟨by decide +kernel, by decide +kernel⟩, tt_4 (List.mem_of_getElem? (i := 176) rfl), tt_5 (List.mem_of_getElem? (i := 42) rfl), tt_5 (List.mem_of_getElem? (i := 43) rfl)⟩
set_option maxRecDepth 100000 in
theorem lw_p73 : lw_okq (⟨"ToffeeWordsModel", "save", "()V"⟩, 21) := ⟨⟨by decide +kernel, by decide +kernel⟩, tt_4 (List.mem_of_getElem? (i := 176) rfl), tt_5 (List.mem_of_getElem? (i := 65) rfl), tt_5 (List.mem_of_getElem? (i := 66) rfl)⟩
set_option maxRecDepth 100000 in
theorem lw_p74 : lw_okq (⟨"ToffeeWordsModel", "isBiter", "(I)Z"⟩, 21) := ⟨⟨by decide +kernel, by decide +kernel⟩, tt_4 (List.mem_of_getElem? (i := 176) rfl), tt_5 (List.mem_of_getElem? (i := 85) rfl), tt_5 (List.mem_of_getElem? (i := 86) rfl)⟩
set_option maxRecDepth 100000 in
theorem lw_p75 : lw_okq (⟨"ToffeeWordsModel", "isApple", "(I)Z"⟩, 21) := ⟨⟨by decide +kernel, by decide +kernel⟩, tt_4 (List.mem_of_getElem? (i := 176) rfl), tt_5 (List.mem_of_getElem? (i := 89) rfl), tt_5 (List.mem_of_getElem? (i := 90) rfl)⟩
set_option maxRecDepth 100000 in
theorem lw_p76 : lw_okq (⟨"ToffeeWordsModel", "no", "()I"⟩, 21) := ⟨⟨by decide +kernel, by decide +kernel⟩, tt_4 (List.mem_of_getElem? (i := 176) rfl), tt_5 (List.mem_of_getElem? (i := 93) rfl), tt_5 (List.mem_of_getElem? (i := 94) rfl)⟩
set_option maxRecDepth 100000 in
theorem lw_p77 : lw_okq (⟨"ToffeeWordsModel", "toldOf", "(II)I"⟩, 21) := ⟨⟨by decide +kernel, by decide +kernel⟩, tt_4 (List.mem_of_getElem? (i := 176) rfl), tt_5 (List.mem_of_getElem? (i := 130) rfl), tt_5 (List.mem_of_getElem? (i := 131) rfl)⟩
set_option maxRecDepth 100000 in
theorem lw_p78 : lw_okq (⟨"ToffeeWordsModel", "hardBehind", "(II)I"⟩, 21) := ⟨⟨by decide +kernel, by decide +kernel⟩, tt_4 (List.mem_of_getElem? (i := 176) rfl), tt_5 (List.mem_of_getElem? (i := 142) rfl), tt_5 (List.mem_of_getElem? (i := 143) rfl)⟩
set_option maxRecDepth 100000 in
theorem lw_p79 : lw_okq (⟨"ToffeeWordsModel", "layHand", "()V"⟩, 21) := ⟨⟨by decide +kernel, by decide +kernel⟩, tt_4 (List.mem_of_getElem? (i := 176) rfl), tt_5 (List.mem_of_getElem? (i := 146) rfl), tt_5 (List.mem_of_getElem? (i := 147) rfl)⟩
def lw_privs_5 : List (MethodName × Nat) := [(⟨"ToffeeWords$Valley", "takeOver", "(LToffeeWords$Valley;)V"⟩, 13), (⟨"ToffeeWords$Rows", "takeOver", "(LToffeeWords$Rows;)V"⟩, 4), (⟨"ToffeeWords$Valley", "howMany", "(I)I"⟩, 13), (⟨"ToffeeWords$Moment", "toffeeOnAll", "(I)I"⟩, 4), (⟨"ToffeeWords$Valley", "mixInto", "(J)J"⟩, 13), (⟨"ToffeeWords$Rows", "mixRows", "(J)J"⟩, 4), (⟨"ToffeeWordsModel", "many", "()I"⟩, 21), (⟨"ToffeeWordsModel", "bad", "(I)I"⟩, 21), (⟨"ToffeeWordsModel", "full", "()I"⟩, 21), (⟨"ToffeeWordsModel", "save", "()V"⟩, 21), (⟨"ToffeeWordsModel", "isBiter", "(I)Z"⟩, 21), (⟨"ToffeeWordsModel", "isApple", "(I)Z"⟩, 21), (⟨"ToffeeWordsModel", "no", "()I"⟩, 21), (⟨"ToffeeWordsModel", "toldOf", "(II)I"⟩, 21), (⟨"ToffeeWordsModel", "hardBehind", "(II)I"⟩, 21), (⟨"ToffeeWordsModel", "layHand", "()V"⟩, 21)]
theorem lw_r5 : ∀ q ∈ lw_privs_5, lw_okq q := List.forall_mem_cons.mpr ⟨lw_p64, List.forall_mem_cons.mpr ⟨lw_p65, List.forall_mem_cons.mpr ⟨lw_p66, List.forall_mem_cons.mpr ⟨lw_p67, List.forall_mem_cons.mpr ⟨lw_p68, List.forall_mem_cons.mpr ⟨lw_p69, List.forall_mem_cons.mpr ⟨lw_p70, List.forall_mem_cons.mpr ⟨lw_p71, List.forall_mem_cons.mpr ⟨lw_p72, List.forall_mem_cons.mpr ⟨lw_p73, List.forall_mem_cons.mpr ⟨lw_p74, List.forall_mem_cons.mpr ⟨lw_p75, List.forall_mem_cons.mpr ⟨lw_p76, List.forall_mem_cons.mpr ⟨lw_p77, List.forall_mem_cons.mpr ⟨lw_p78, List.forall_mem_cons.mpr ⟨lw_p79, fun _ h => absurd h List.not_mem_nil⟩⟩⟩⟩⟩⟩⟩⟩⟩⟩⟩⟩⟩⟩⟩⟩
set_option maxRecDepth 100000 in
theorem lw_p80 : lw_okq (⟨"ToffeeWordsModel", "layFew", "(I)V"⟩, 21) := ⟨⟨by decide +kernel, by decide +kernel⟩, tt_4 (List.mem_of_getElem? (i := 176) rfl), tt_5 (List.mem_of_getElem? (i := 166) rfl), tt_5 (List.mem_of_getElem? (i := 167) rfl)⟩
set_option maxRecDepth 100000 in
theorem lw_p81 : lw_okq (⟨"ToffeeWordsModel", "feastBy", "(I)I"⟩, 21) := ⟨⟨by decide +kernel, by decide +kernel⟩, tt_4 (List.mem_of_getElem? (i := 176) rfl), tt_5 (List.mem_of_getElem? (i := 175) rfl), tt_5 (List.mem_of_getElem? (i := 176) rfl)⟩
set_option maxRecDepth 100000 in
theorem lw_p82 : lw_okq (⟨"ToffeeWordsModel", "layFive", "(IIIIII)V"⟩, 21) := ⟨⟨by decide +kernel, by decide +kernel⟩, tt_4 (List.mem_of_getElem? (i := 176) rfl), tt_5 (List.mem_of_getElem? (i := 183) rfl), tt_5 (List.mem_of_getElem? (i := 184) rfl)⟩
set_option maxRecDepth 100000 in
theorem lw_p83 : lw_okq (⟨"ToffeeWordsModel", "isLeftOf", "(II)Z"⟩, 21) := ⟨⟨by decide +kernel, by decide +kernel⟩, tt_4 (List.mem_of_getElem? (i := 176) rfl), tt_5 (List.mem_of_getElem? (i := 192) rfl), tt_5 (List.mem_of_getElem? (i := 193) rfl)⟩
set_option maxRecDepth 100000 in
theorem lw_p84 : lw_okq (⟨"ToffeeWordsModel", "kindsOfApple", "(I)I"⟩, 21) := ⟨⟨by decide +kernel, by decide +kernel⟩, tt_4 (List.mem_of_getElem? (i := 176) rfl), tt_5 (List.mem_of_getElem? (i := 213) rfl), tt_5 (List.mem_of_getElem? (i := 214) rfl)⟩
set_option maxRecDepth 100000 in
theorem lw_p85 : lw_okq (⟨"ToffeeWordsModel", "mostAlike", "(I)I"⟩, 21) := ⟨⟨by decide +kernel, by decide +kernel⟩, tt_4 (List.mem_of_getElem? (i := 176) rfl), tt_5 (List.mem_of_getElem? (i := 221) rfl), tt_5 (List.mem_of_getElem? (i := 222) rfl)⟩
set_option maxRecDepth 100000 in
theorem lw_p86 : lw_okq (⟨"ToffeeWordsModel", "kindsOfBiter", "(I)I"⟩, 21) := ⟨⟨by decide +kernel, by decide +kernel⟩, tt_4 (List.mem_of_getElem? (i := 176) rfl), tt_5 (List.mem_of_getElem? (i := 232) rfl), tt_5 (List.mem_of_getElem? (i := 233) rfl)⟩
set_option maxRecDepth 100000 in
theorem lw_p87 : lw_okq (⟨"ToffeeWordsModel", "rests", "(IIII)Z"⟩, 21) := ⟨⟨by decide +kernel, by decide +kernel⟩, tt_4 (List.mem_of_getElem? (i := 176) rfl), tt_6 (List.mem_of_getElem? (i := 4) rfl), tt_6 (List.mem_of_getElem? (i := 5) rfl)⟩
set_option maxRecDepth 100000 in
theorem lw_p88 : lw_okq (⟨"ToffeeWordsModel", "getsBy", "(III)I"⟩, 21) := ⟨⟨by decide +kernel, by decide +kernel⟩, tt_4 (List.mem_of_getElem? (i := 176) rfl), tt_6 (List.mem_of_getElem? (i := 8) rfl), tt_6 (List.mem_of_getElem? (i := 9) rfl)⟩
set_option maxRecDepth 100000 in
theorem lw_p89 : lw_okq (⟨"ToffeeWordsModel", "fraction", "(JJ)V"⟩, 21) := ⟨⟨by decide +kernel, by decide +kernel⟩, tt_4 (List.mem_of_getElem? (i := 176) rfl), tt_6 (List.mem_of_getElem? (i := 17) rfl), tt_6 (List.mem_of_getElem? (i := 18) rfl)⟩
set_option maxRecDepth 100000 in
theorem lw_p90 : lw_okq (⟨"ToffeeWordsModel", "lookAt", "(I)V"⟩, 21) := ⟨⟨by decide +kernel, by decide +kernel⟩, tt_4 (List.mem_of_getElem? (i := 176) rfl), tt_6 (List.mem_of_getElem? (i := 45) rfl), tt_6 (List.mem_of_getElem? (i := 46) rfl)⟩
set_option maxRecDepth 100000 in
theorem lw_p91 : lw_okq (⟨"ToffeeWordsModel", "spells", "(IIIIIII)Z"⟩, 21) := ⟨⟨by decide +kernel, by decide +kernel⟩, tt_4 (List.mem_of_getElem? (i := 176) rfl), tt_6 (List.mem_of_getElem? (i := 59) rfl), tt_6 (List.mem_of_getElem? (i := 60) rfl)⟩
set_option maxRecDepth 100000 in
theorem lw_p92 : lw_okq (⟨"ToffeeWordsModel", "goBehind", "()V"⟩, 21) := ⟨⟨by decide +kernel, by decide +kernel⟩, tt_4 (List.mem_of_getElem? (i := 176) rfl), tt_6 (List.mem_of_getElem? (i := 63) rfl), tt_6 (List.mem_of_getElem? (i := 64) rfl)⟩
set_option maxRecDepth 100000 in
theorem lw_p93 : lw_okq (⟨"ToffeeWordsModel", "givesItem", "()Z"⟩, 21) := ⟨⟨by decide +kernel, by decide +kernel⟩, tt_4 (List.mem_of_getElem? (i := 176) rfl), tt_6 (List.mem_of_getElem? (i := 67) rfl), tt_6 (List.mem_of_getElem? (i := 68) rfl)⟩
set_option maxRecDepth 100000 in
theorem lw_p94 : lw_okq (⟨"ToffeeWordsModel", "givesDamp", "()Z"⟩, 21) := ⟨⟨by decide +kernel, by decide +kernel⟩, tt_4 (List.mem_of_getElem? (i := 176) rfl), tt_6 (List.mem_of_getElem? (i := 71) rfl), tt_6 (List.mem_of_getElem? (i := 72) rfl)⟩
set_option maxRecDepth 100000 in
theorem lw_p95 : lw_okq (⟨"ToffeeWordsModel", "gives", "(III)Z"⟩, 21) := ⟨⟨by decide +kernel, by decide +kernel⟩, tt_4 (List.mem_of_getElem? (i := 176) rfl), tt_6 (List.mem_of_getElem? (i := 75) rfl), tt_6 (List.mem_of_getElem? (i := 76) rfl)⟩
def lw_privs_6 : List (MethodName × Nat) := [(⟨"ToffeeWordsModel", "layFew", "(I)V"⟩, 21), (⟨"ToffeeWordsModel", "feastBy", "(I)I"⟩, 21), (⟨"ToffeeWordsModel", "layFive", "(IIIIII)V"⟩, 21), (⟨"ToffeeWordsModel", "isLeftOf", "(II)Z"⟩, 21), (⟨"ToffeeWordsModel", "kindsOfApple", "(I)I"⟩, 21), (⟨"ToffeeWordsModel", "mostAlike", "(I)I"⟩, 21), (⟨"ToffeeWordsModel", "kindsOfBiter", "(I)I"⟩, 21), (⟨"ToffeeWordsModel", "rests", "(IIII)Z"⟩, 21), (⟨"ToffeeWordsModel", "getsBy", "(III)I"⟩, 21), (⟨"ToffeeWordsModel", "fraction", "(JJ)V"⟩, 21), (⟨"ToffeeWordsModel", "lookAt", "(I)V"⟩, 21), (⟨"ToffeeWordsModel", "spells", "(IIIIIII)Z"⟩, 21), (⟨"ToffeeWordsModel", "goBehind", "()V"⟩, 21), (⟨"ToffeeWordsModel", "givesItem", "()Z"⟩, 21), (⟨"ToffeeWordsModel", "givesDamp", "()Z"⟩, 21), (⟨"ToffeeWordsModel", "gives", "(III)Z"⟩, 21)]
theorem lw_r6 : ∀ q ∈ lw_privs_6, lw_okq q := List.forall_mem_cons.mpr ⟨lw_p80, List.forall_mem_cons.mpr ⟨lw_p81, List.forall_mem_cons.mpr ⟨lw_p82, List.forall_mem_cons.mpr ⟨lw_p83, List.forall_mem_cons.mpr ⟨lw_p84, List.forall_mem_cons.mpr ⟨lw_p85, List.forall_mem_cons.mpr ⟨lw_p86, List.forall_mem_cons.mpr ⟨lw_p87, List.forall_mem_cons.mpr ⟨lw_p88, List.forall_mem_cons.mpr ⟨lw_p89, List.forall_mem_cons.mpr ⟨lw_p90, List.forall_mem_cons.mpr ⟨lw_p91, List.forall_mem_cons.mpr ⟨lw_p92, List.forall_mem_cons.mpr ⟨lw_p93, List.forall_mem_cons.mpr ⟨lw_p94, List.forall_mem_cons.mpr ⟨lw_p95, fun _ h => absurd h List.not_mem_nil⟩⟩⟩⟩⟩⟩⟩⟩⟩⟩⟩⟩⟩⟩⟩⟩
set_option maxRecDepth 100000 in
theorem lw_p96 : lw_okq (⟨"ToffeeWordsModel", "givesApple", "()Z"⟩, 21) := ⟨⟨by decide +kernel, by decide +kernel⟩, tt_4 (List.mem_of_getElem? (i := 176) rfl), tt_6 (List.mem_of_getElem? (i := 79) rfl), tt_6 (List.mem_of_getElem? (i := 80) rfl)⟩
set_option maxRecDepth 100000 in
theorem lw_p97 : lw_okq (⟨"ToffeeWordsModel", "givesBiter", "()Z"⟩, 21) := ⟨⟨by decide +kernel, by decide +kernel⟩, tt_4 (List.mem_of_getElem? (i := 176) rfl), tt_6 (List.mem_of_getElem? (i := 83) rfl), tt_6 (List.mem_of_getElem? (i := 84) rfl)⟩
set_option maxRecDepth 100000 in
theorem lw_p98 : lw_okq (⟨"ToffeeWordsModel", "givesBite", "()Z"⟩, 21) := ⟨⟨by decide +kernel, by decide +kernel⟩, tt_4 (List.mem_of_getElem? (i := 176) rfl), tt_6 (List.mem_of_getElem? (i := 87) rfl), tt_6 (List.mem_of_getElem? (i := 88) rfl)⟩
set_option maxRecDepth 100000 in
theorem lw_p99 : lw_okq (⟨"ToffeeWordsModel", "isApplesNumber", "()Z"⟩, 21) := ⟨⟨by decide +kernel, by decide +kernel⟩, tt_4 (List.mem_of_getElem? (i := 176) rfl), tt_6 (List.mem_of_getElem? (i := 91) rfl), tt_6 (List.mem_of_getElem? (i := 92) rfl)⟩
set_option maxRecDepth 100000 in
theorem lw_p100 : lw_okq (⟨"ToffeeWordsModel", "givesDip", "()Z"⟩, 21) := ⟨⟨by decide +kernel, by decide +kernel⟩, tt_4 (List.mem_of_getElem? (i := 176) rfl), tt_6 (List.mem_of_getElem? (i := 95) rfl), tt_6 (List.mem_of_getElem? (i := 96) rfl)⟩
set_option maxRecDepth 100000 in
theorem lw_p101 : lw_okq (⟨"ToffeeWordsModel", "givesDays", "()Z"⟩, 21) := ⟨⟨by decide +kernel, by decide +kernel⟩, tt_4 (List.mem_of_getElem? (i := 176) rfl), tt_6 (List.mem_of_getElem? (i := 99) rfl), tt_6 (List.mem_of_getElem? (i := 100) rfl)⟩
set_option maxRecDepth 100000 in
theorem lw_p102 : lw_okq (⟨"ToffeeWordsModel", "counted", "(I)I"⟩, 21) := ⟨⟨by decide +kernel, by decide +kernel⟩, tt_4 (List.mem_of_getElem? (i := 176) rfl), tt_6 (List.mem_of_getElem? (i := 124) rfl), tt_6 (List.mem_of_getElem? (i := 125) rfl)⟩
set_option maxRecDepth 100000 in
theorem lw_p103 : lw_okq (⟨"ToffeeWordsModel", "sums", "(JII)J"⟩, 21) := ⟨⟨by decide +kernel, by decide +kernel⟩, tt_4 (List.mem_of_getElem? (i := 176) rfl), tt_6 (List.mem_of_getElem? (i := 134) rfl), tt_6 (List.mem_of_getElem? (i := 135) rfl)⟩
def lw_privs_7 : List (MethodName × Nat) := [(⟨"ToffeeWordsModel", "givesApple", "()Z"⟩, 21), (⟨"ToffeeWordsModel", "givesBiter", "()Z"⟩, 21), (⟨"ToffeeWordsModel", "givesBite", "()Z"⟩, 21), (⟨"ToffeeWordsModel", "isApplesNumber", "()Z"⟩, 21), (⟨"ToffeeWordsModel", "givesDip", "()Z"⟩, 21), (⟨"ToffeeWordsModel", "givesDays", "()Z"⟩, 21), (⟨"ToffeeWordsModel", "counted", "(I)I"⟩, 21), (⟨"ToffeeWordsModel", "sums", "(JII)J"⟩, 21)]
theorem lw_r7 : ∀ q ∈ lw_privs_7, lw_okq q := List.forall_mem_cons.mpr ⟨lw_p96, List.forall_mem_cons.mpr ⟨lw_p97, List.forall_mem_cons.mpr ⟨lw_p98, List.forall_mem_cons.mpr ⟨lw_p99, List.forall_mem_cons.mpr ⟨lw_p100, List.forall_mem_cons.mpr ⟨lw_p101, List.forall_mem_cons.mpr ⟨lw_p102, List.forall_mem_cons.mpr ⟨lw_p103, fun _ h => absurd h List.not_mem_nil⟩⟩⟩⟩⟩⟩⟩⟩
def lw_privs : List (MethodName × Nat) := lw_privs_1 ++ (lw_privs_2 ++ (lw_privs_3 ++ (lw_privs_4 ++ (lw_privs_5 ++ (lw_privs_6 ++ (lw_privs_7))))))
def lw_tbl : List Cond := k2_sels lw_privs ++ tables_1
set_option maxRecDepth 100000 in
theorem lw_privs_ok : ∀ q ∈ lw_privs, lw_okq q := by
  show ∀ q ∈ lw_privs_1 ++ (lw_privs_2 ++ (lw_privs_3 ++ (lw_privs_4 ++ (lw_privs_5 ++ (lw_privs_6 ++ (lw_privs_7)))))), lw_okq q
  exact List.forall_mem_append.mpr ⟨lw_r1, List.forall_mem_append.mpr ⟨lw_r2, List.forall_mem_append.mpr ⟨lw_r3, List.forall_mem_append.mpr ⟨lw_r4, List.forall_mem_append.mpr ⟨lw_r5, List.forall_mem_append.mpr ⟨lw_r6, lw_r7⟩⟩⟩⟩⟩⟩
