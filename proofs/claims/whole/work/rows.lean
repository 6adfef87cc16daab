section
-- ===== PART A: goes FIRST, ahead of the names: the tables' words, and 'selects' of the private methods out of them =====
/-- a private method of a class that the tables say can be made, by its rows of tables_1 -/
def lw_okq (q : MethodName × Nat) : Prop := (q.1.cls ≠ "java/lang/invoke/MethodHandle" ∧ q.1.cls ≠ "java/lang/invoke/VarHandle") ∧ Cond.instantiable q.1.cls q.2 ∈ tables_1 ∧ Cond.privateMethod q.1 ∈ tables_1 ∧ Cond.instanceMethod q.1 ∈ tables_1
theorem lw_p0 : lw_okq (⟨"PictureCourt", "refuse", "(I)I"⟩, 13) := ⟨⟨by decide +kernel, by decide +kernel⟩, List.mem_of_getElem? (i := 13) (by decide +kernel), List.mem_of_getElem? (i := 299) (by decide +kernel), List.mem_of_getElem? (i := 300) (by decide +kernel)⟩
theorem lw_p1 : lw_okq (⟨"PictureCourt$Proofs", "add", "(III)I"⟩, 15) := ⟨⟨by decide +kernel, by decide +kernel⟩, List.mem_of_getElem? (i := 21) (by decide +kernel), List.mem_of_getElem? (i := 412) (by decide +kernel), List.mem_of_getElem? (i := 413) (by decide +kernel)⟩
theorem lw_p2 : lw_okq (⟨"PictureCourt$Proofs", "firstYear", "(I)I"⟩, 15) := ⟨⟨by decide +kernel, by decide +kernel⟩, List.mem_of_getElem? (i := 21) (by decide +kernel), List.mem_of_getElem? (i := 464) (by decide +kernel), List.mem_of_getElem? (i := 465) (by decide +kernel)⟩
theorem lw_p3 : lw_okq (⟨"PictureCourt$Proofs", "lacking", "(II)I"⟩, 15) := ⟨⟨by decide +kernel, by decide +kernel⟩, List.mem_of_getElem? (i := 21) (by decide +kernel), List.mem_of_getElem? (i := 468) (by decide +kernel), List.mem_of_getElem? (i := 469) (by decide +kernel)⟩
theorem lw_p4 : lw_okq (⟨"PictureCourt$Proofs", "lastYear", "(I)I"⟩, 15) := ⟨⟨by decide +kernel, by decide +kernel⟩, List.mem_of_getElem? (i := 21) (by decide +kernel), List.mem_of_getElem? (i := 476) (by decide +kernel), List.mem_of_getElem? (i := 477) (by decide +kernel)⟩
theorem lw_p5 : lw_okq (⟨"PictureCourt$Proofs", "isKnown", "(II)Z"⟩, 15) := ⟨⟨by decide +kernel, by decide +kernel⟩, List.mem_of_getElem? (i := 21) (by decide +kernel), List.mem_of_getElem? (i := 506) (by decide +kernel), List.mem_of_getElem? (i := 507) (by decide +kernel)⟩
theorem lw_p6 : lw_okq (⟨"PictureCourt$Known", "holds", "(II)Z"⟩, 5) := ⟨⟨by decide +kernel, by decide +kernel⟩, List.mem_of_getElem? (i := 91) (by decide +kernel), List.mem_of_getElem? (i := 545) (by decide +kernel), List.mem_of_getElem? (i := 546) (by decide +kernel)⟩
theorem lw_p7 : lw_okq (⟨"PictureCourt$Odds", "isGroupDone", "(I)Z"⟩, 10) := ⟨⟨by decide +kernel, by decide +kernel⟩, List.mem_of_getElem? (i := 116) (by decide +kernel), List.mem_of_getElem? (i := 609) (by decide +kernel), List.mem_of_getElem? (i := 610) (by decide +kernel)⟩
theorem lw_p8 : lw_okq (⟨"PictureCourt", "tellFraction", "(JJ)V"⟩, 13) := ⟨⟨by decide +kernel, by decide +kernel⟩, List.mem_of_getElem? (i := 13) (by decide +kernel), List.mem_of_getElem? (i := 626) (by decide +kernel), List.mem_of_getElem? (i := 627) (by decide +kernel)⟩
theorem lw_p9 : lw_okq (⟨"PictureCourt$Owners", "addGap", "(I)V"⟩, 5) := ⟨⟨by decide +kernel, by decide +kernel⟩, List.mem_of_getElem? (i := 156) (by decide +kernel), List.mem_of_getElem? (i := 691) (by decide +kernel), List.mem_of_getElem? (i := 692) (by decide +kernel)⟩
theorem lw_p10 : lw_okq (⟨"PictureCourt$Opinions", "areComparable", "(II)Z"⟩, 7) := ⟨⟨by decide +kernel, by decide +kernel⟩, List.mem_of_getElem? (i := 181) (by decide +kernel), List.mem_of_getElem? (i := 728) (by decide +kernel), List.mem_of_getElem? (i := 729) (by decide +kernel)⟩
theorem lw_p11 : lw_okq (⟨"PictureCourt$Opinions", "weighPair", "(II)V"⟩, 7) := ⟨⟨by decide +kernel, by decide +kernel⟩, List.mem_of_getElem? (i := 181) (by decide +kernel), List.mem_of_getElem? (i := 733) (by decide +kernel), List.mem_of_getElem? (i := 734) (by decide +kernel)⟩
theorem lw_p12 : lw_okq (⟨"PictureCourtModel", "meets", "(I)I"⟩, 47) := ⟨⟨by decide +kernel, by decide +kernel⟩, List.mem_of_getElem? (i := 826) (by decide +kernel), List.mem_of_getElem? (i := 1008) (by decide +kernel), List.mem_of_getElem? (i := 1009) (by decide +kernel)⟩
theorem lw_p13 : lw_okq (⟨"PictureCourtModel", "mayMatch", "(II)Z"⟩, 47) := ⟨⟨by decide +kernel, by decide +kernel⟩, List.mem_of_getElem? (i := 826) (by decide +kernel), List.mem_of_getElem? (i := 1028) (by decide +kernel), List.mem_of_getElem? (i := 1029) (by decide +kernel)⟩
theorem lw_p14 : lw_okq (⟨"PictureCourtModel", "placeOf", "(II)I"⟩, 47) := ⟨⟨by decide +kernel, by decide +kernel⟩, List.mem_of_getElem? (i := 826) (by decide +kernel), List.mem_of_getElem? (i := 1032) (by decide +kernel), List.mem_of_getElem? (i := 1033) (by decide +kernel)⟩
theorem lw_p15 : lw_okq (⟨"PictureCourtModel", "offAt", "(III)I"⟩, 47) := ⟨⟨by decide +kernel, by decide +kernel⟩, List.mem_of_getElem? (i := 826) (by decide +kernel), List.mem_of_getElem? (i := 1036) (by decide +kernel), List.mem_of_getElem? (i := 1037) (by decide +kernel)⟩
def lw_privs_1 : List (MethodName × Nat) := [(⟨"PictureCourt", "refuse", "(I)I"⟩, 13), (⟨"PictureCourt$Proofs", "add", "(III)I"⟩, 15), (⟨"PictureCourt$Proofs", "firstYear", "(I)I"⟩, 15), (⟨"PictureCourt$Proofs", "lacking", "(II)I"⟩, 15), (⟨"PictureCourt$Proofs", "lastYear", "(I)I"⟩, 15), (⟨"PictureCourt$Proofs", "isKnown", "(II)Z"⟩, 15), (⟨"PictureCourt$Known", "holds", "(II)Z"⟩, 5), (⟨"PictureCourt$Odds", "isGroupDone", "(I)Z"⟩, 10), (⟨"PictureCourt", "tellFraction", "(JJ)V"⟩, 13), (⟨"PictureCourt$Owners", "addGap", "(I)V"⟩, 5), (⟨"PictureCourt$Opinions", "areComparable", "(II)Z"⟩, 7), (⟨"PictureCourt$Opinions", "weighPair", "(II)V"⟩, 7), (⟨"PictureCourtModel", "meets", "(I)I"⟩, 47), (⟨"PictureCourtModel", "mayMatch", "(II)Z"⟩, 47), (⟨"PictureCourtModel", "placeOf", "(II)I"⟩, 47), (⟨"PictureCourtModel", "offAt", "(III)I"⟩, 47)]
theorem lw_r1 : ∀ q ∈ lw_privs_1, lw_okq q := List.forall_mem_cons.mpr ⟨lw_p0, List.forall_mem_cons.mpr ⟨lw_p1, List.forall_mem_cons.mpr ⟨lw_p2, List.forall_mem_cons.mpr ⟨lw_p3, List.forall_mem_cons.mpr ⟨lw_p4, List.forall_mem_cons.mpr ⟨lw_p5, List.forall_mem_cons.mpr ⟨lw_p6, List.forall_mem_cons.mpr ⟨lw_p7, List.forall_mem_cons.mpr ⟨lw_p8, List.forall_mem_cons.mpr ⟨lw_p9, List.forall_mem_cons.mpr ⟨lw_p10, List.forall_mem_cons.mpr ⟨lw_p11, List.forall_mem_cons.mpr ⟨lw_p12, List.forall_mem_cons.mpr ⟨lw_p13, List.forall_mem_cons.mpr ⟨lw_p14, List.forall_mem_cons.mpr ⟨lw_p15, fun _ h => absurd h List.not_mem_nil⟩⟩⟩⟩⟩⟩⟩⟩⟩⟩⟩⟩⟩⟩⟩⟩
theorem lw_p16 : lw_okq (⟨"PictureCourtModel", "tells", "(II)I"⟩, 47) := ⟨⟨by decide +kernel, by decide +kernel⟩, List.mem_of_getElem? (i := 826) (by decide +kernel), List.mem_of_getElem? (i := 1040) (by decide +kernel), List.mem_of_getElem? (i := 1041) (by decide +kernel)⟩
theorem lw_p17 : lw_okq (⟨"PictureCourtModel", "isSure", "(II)Z"⟩, 47) := ⟨⟨by decide +kernel, by decide +kernel⟩, List.mem_of_getElem? (i := 826) (by decide +kernel), List.mem_of_getElem? (i := 1048) (by decide +kernel), List.mem_of_getElem? (i := 1049) (by decide +kernel)⟩
theorem lw_p18 : lw_okq (⟨"PictureCourtModel", "comes", "(ZIIIIII)I"⟩, 47) := ⟨⟨by decide +kernel, by decide +kernel⟩, List.mem_of_getElem? (i := 826) (by decide +kernel), List.mem_of_getElem? (i := 1067) (by decide +kernel), List.mem_of_getElem? (i := 1068) (by decide +kernel)⟩
theorem lw_p19 : lw_okq (⟨"PictureCourtModel", "isProof", "(I)Z"⟩, 47) := ⟨⟨by decide +kernel, by decide +kernel⟩, List.mem_of_getElem? (i := 826) (by decide +kernel), List.mem_of_getElem? (i := 1087) (by decide +kernel), List.mem_of_getElem? (i := 1088) (by decide +kernel)⟩
theorem lw_p20 : lw_okq (⟨"PictureCourtModel", "toldOf", "(II)I"⟩, 47) := ⟨⟨by decide +kernel, by decide +kernel⟩, List.mem_of_getElem? (i := 826) (by decide +kernel), List.mem_of_getElem? (i := 1095) (by decide +kernel), List.mem_of_getElem? (i := 1096) (by decide +kernel)⟩
theorem lw_p21 : lw_okq (⟨"PictureCourtModel", "fromOf", "(I)I"⟩, 47) := ⟨⟨by decide +kernel, by decide +kernel⟩, List.mem_of_getElem? (i := 826) (by decide +kernel), List.mem_of_getElem? (i := 1099) (by decide +kernel), List.mem_of_getElem? (i := 1100) (by decide +kernel)⟩
theorem lw_p22 : lw_okq (⟨"PictureCourtModel", "toOf", "(I)I"⟩, 47) := ⟨⟨by decide +kernel, by decide +kernel⟩, List.mem_of_getElem? (i := 826) (by decide +kernel), List.mem_of_getElem? (i := 1106) (by decide +kernel), List.mem_of_getElem? (i := 1107) (by decide +kernel)⟩
theorem lw_p23 : lw_okq (⟨"PictureCourtModel", "isKnown", "(II)Z"⟩, 47) := ⟨⟨by decide +kernel, by decide +kernel⟩, List.mem_of_getElem? (i := 826) (by decide +kernel), List.mem_of_getElem? (i := 1121) (by decide +kernel), List.mem_of_getElem? (i := 1122) (by decide +kernel)⟩
theorem lw_p24 : lw_okq (⟨"PictureCourtModel", "bestYear", "(I)I"⟩, 47) := ⟨⟨by decide +kernel, by decide +kernel⟩, List.mem_of_getElem? (i := 826) (by decide +kernel), List.mem_of_getElem? (i := 1133) (by decide +kernel), List.mem_of_getElem? (i := 1134) (by decide +kernel)⟩
theorem lw_p25 : lw_okq (⟨"PictureCourtModel", "isTest", "(I)Z"⟩, 47) := ⟨⟨by decide +kernel, by decide +kernel⟩, List.mem_of_getElem? (i := 826) (by decide +kernel), List.mem_of_getElem? (i := 1156) (by decide +kernel), List.mem_of_getElem? (i := 1157) (by decide +kernel)⟩
theorem lw_p26 : lw_okq (⟨"PictureCourtModel", "isGroupDone", "(I)Z"⟩, 47) := ⟨⟨by decide +kernel, by decide +kernel⟩, List.mem_of_getElem? (i := 826) (by decide +kernel), List.mem_of_getElem? (i := 1164) (by decide +kernel), List.mem_of_getElem? (i := 1165) (by decide +kernel)⟩
theorem lw_p27 : lw_okq (⟨"PictureCourtModel", "allScores", "()J"⟩, 47) := ⟨⟨by decide +kernel, by decide +kernel⟩, List.mem_of_getElem? (i := 826) (by decide +kernel), List.mem_of_getElem? (i := 1172) (by decide +kernel), List.mem_of_getElem? (i := 1173) (by decide +kernel)⟩
theorem lw_p28 : lw_okq (⟨"PictureCourtModel", "scoreOf", "(I)J"⟩, 47) := ⟨⟨by decide +kernel, by decide +kernel⟩, List.mem_of_getElem? (i := 826) (by decide +kernel), List.mem_of_getElem? (i := 1176) (by decide +kernel), List.mem_of_getElem? (i := 1177) (by decide +kernel)⟩
theorem lw_p29 : lw_okq (⟨"PictureCourtModel", "fraction", "(JJI)I"⟩, 47) := ⟨⟨by decide +kernel, by decide +kernel⟩, List.mem_of_getElem? (i := 826) (by decide +kernel), List.mem_of_getElem? (i := 1180) (by decide +kernel), List.mem_of_getElem? (i := 1181) (by decide +kernel)⟩
theorem lw_p30 : lw_okq (⟨"PictureCourtModel", "isOpen", "(I)Z"⟩, 47) := ⟨⟨by decide +kernel, by decide +kernel⟩, List.mem_of_getElem? (i := 826) (by decide +kernel), List.mem_of_getElem? (i := 1192) (by decide +kernel), List.mem_of_getElem? (i := 1193) (by decide +kernel)⟩
theorem lw_p31 : lw_okq (⟨"PictureCourtModel", "gainOf", "(I)J"⟩, 47) := ⟨⟨by decide +kernel, by decide +kernel⟩, List.mem_of_getElem? (i := 826) (by decide +kernel), List.mem_of_getElem? (i := 1196) (by decide +kernel), List.mem_of_getElem? (i := 1197) (by decide +kernel)⟩
def lw_privs_2 : List (MethodName × Nat) := [(⟨"PictureCourtModel", "tells", "(II)I"⟩, 47), (⟨"PictureCourtModel", "isSure", "(II)Z"⟩, 47), (⟨"PictureCourtModel", "comes", "(ZIIIIII)I"⟩, 47), (⟨"PictureCourtModel", "isProof", "(I)Z"⟩, 47), (⟨"PictureCourtModel", "toldOf", "(II)I"⟩, 47), (⟨"PictureCourtModel", "fromOf", "(I)I"⟩, 47), (⟨"PictureCourtModel", "toOf", "(I)I"⟩, 47), (⟨"PictureCourtModel", "isKnown", "(II)Z"⟩, 47), (⟨"PictureCourtModel", "bestYear", "(I)I"⟩, 47), (⟨"PictureCourtModel", "isTest", "(I)Z"⟩, 47), (⟨"PictureCourtModel", "isGroupDone", "(I)Z"⟩, 47), (⟨"PictureCourtModel", "allScores", "()J"⟩, 47), (⟨"PictureCourtModel", "scoreOf", "(I)J"⟩, 47), (⟨"PictureCourtModel", "fraction", "(JJI)I"⟩, 47), (⟨"PictureCourtModel", "isOpen", "(I)Z"⟩, 47), (⟨"PictureCourtModel", "gainOf", "(I)J"⟩, 47)]
theorem lw_r2 : ∀ q ∈ lw_privs_2, lw_okq q := List.forall_mem_cons.mpr ⟨lw_p16, List.forall_mem_cons.mpr ⟨lw_p17, List.forall_mem_cons.mpr ⟨lw_p18, List.forall_mem_cons.mpr ⟨lw_p19, List.forall_mem_cons.mpr ⟨lw_p20, List.forall_mem_cons.mpr ⟨lw_p21, List.forall_mem_cons.mpr ⟨lw_p22, List.forall_mem_cons.mpr ⟨lw_p23, List.forall_mem_cons.mpr ⟨lw_p24, List.forall_mem_cons.mpr ⟨lw_p25, List.forall_mem_cons.mpr ⟨lw_p26, List.forall_mem_cons.mpr ⟨lw_p27, List.forall_mem_cons.mpr ⟨lw_p28, List.forall_mem_cons.mpr ⟨lw_p29, List.forall_mem_cons.mpr ⟨lw_p30, List.forall_mem_cons.mpr ⟨lw_p31, fun _ h => absurd h List.not_mem_nil⟩⟩⟩⟩⟩⟩⟩⟩⟩⟩⟩⟩⟩⟩⟩⟩
theorem lw_p32 : lw_okq (⟨"PictureCourtModel", "tellsCount", "(I)I"⟩, 47) := ⟨⟨by decide +kernel, by decide +kernel⟩, List.mem_of_getElem? (i := 826) (by decide +kernel), List.mem_of_getElem? (i := 1244) (by decide +kernel), List.mem_of_getElem? (i := 1245) (by decide +kernel)⟩
def lw_privs_3 : List (MethodName × Nat) := [(⟨"PictureCourtModel", "tellsCount", "(I)I"⟩, 47)]
theorem lw_r3 : ∀ q ∈ lw_privs_3, lw_okq q := List.forall_mem_cons.mpr ⟨lw_p32, fun _ h => absurd h List.not_mem_nil⟩
def lw_privs : List (MethodName × Nat) := lw_privs_1 ++ (lw_privs_2 ++ (lw_privs_3))
def lw_tbl : List Cond := k2_sels lw_privs ++ tables_1
theorem lw_privs_ok : ∀ q ∈ lw_privs, lw_okq q := by
  show ∀ q ∈ lw_privs_1 ++ (lw_privs_2 ++ (lw_privs_3)), lw_okq q
  exact List.forall_mem_append.mpr ⟨lw_r1, List.forall_mem_append.mpr ⟨lw_r2, lw_r3⟩⟩
end
section
/-! ===== BEGIN words of one list among another's, by their places ===== -/
theorem goodIn_r {big : List Cond} (ws : List Cond) (ps : List Nat) (hp : ws = ps.filterMap (fun i => big[i]?)) (h : ws.all goodWord = true) : GoodIn big ws := by
  intro w hw
  have h1 := List.all_eq_true.mp h w hw
  rw [hp] at hw
  obtain ⟨i, -, hi⟩ := List.mem_filterMap.mp hw
  have hm : w ∈ big := by first | exact List.mem_of_getElem? hi | exact List.getElem?_mem hi
  exact ⟨hm, good_of_word h1⟩
theorem goodIn_app {big a b : List Cond} (ha : GoodIn big a) (hb : GoodIn big b) : GoodIn big (a ++ b) := fun w h => (List.mem_append.mp h).elim (ha w) (hb w)
theorem goodIn_ca {big a b : List Cond} {c : Cond} (ha : GoodIn big (c :: a)) (hb : GoodIn big b) : GoodIn big (c :: (a ++ b)) := fun w h => (List.mem_cons.mp h).elim (fun e => ha w (List.mem_cons.mpr (Or.inl e))) (fun h => (List.mem_append.mp h).elim (fun h => ha w (List.mem_cons.mpr (Or.inr h))) (hb w))
theorem goodIn_sub {big ws : List Cond} (hm : ∀ w ∈ ws, w ∈ big) (h : ws.all goodWord = true) : GoodIn big ws := fun w hw => ⟨hm w hw, good_of_word (List.all_eq_true.mp h w hw)⟩
/-! ===== END ===== -/

/-! ===== BEGIN printed: names, fields, word lists, decode rows ===== -/
def RX0 : String := "PictureCourt$Contract"
def TX0 : u_T := fun k => match k with
  | 0 => ("PictureCourt$Contract", "lawDays", "[I", true)
  | 1 => ("PictureCourt$Contract", "limits", "[I", true)
  | 2 => ("PictureCourt$Contract", "bounds", "[I", true)
  | 3 => ("PictureCourt$Contract", "rates", "[I", true)
  | 4 => ("PictureCourt$Contract", "saleDay", "I", false)
  | 5 => ("PictureCourt$Contract", "price", "I", false)
  | 6 => ("PictureCourt$Contract", "hand", "I", false)
  | _ => ("PictureCourt$Contract", "laws", "I", false)
def tyX0 : Nat → FieldType := fun k => match k with
  | 0 => .array .int
  | 1 => .array .int
  | 2 => .array .int
  | 3 => .array .int
  | 4 => .int
  | 5 => .int
  | 6 => .int
  | _ => .int
abbrev wsX00 : List Cond := u_ws RX0 TX0 8
theorem nmX0 : ∀ a, a < 8 → ∀ b, b < 8 → a ≠ b → (TX0 a).2.1 ≠ (TX0 b).2.1 := by decide +kernel
theorem tyX0_ok : ∀ k, k < 8 → parseFieldDescriptor (TX0 k).2.2.1 = some (tyX0 k) := by decide +kernel
abbrev cX0_init : ByteArray := prog_2_method_1_code
def yX0_init : MethodName := ⟨RX0, "<init>", "()V"⟩
abbrev cX0_isFull : ByteArray := prog_2_method_2_code
def yX0_isFull : MethodName := ⟨RX0, "isFull", "()Z"⟩
abbrev cX0_addLaw : ByteArray := prog_2_method_3_code
def yX0_addLaw : MethodName := ⟨RX0, "addLaw", "(IIII)I"⟩
abbrev cX0_sell : ByteArray := prog_2_method_4_code
def yX0_sell : MethodName := ⟨RX0, "sell", "(III)V"⟩
abbrev cX0_lawInForce : ByteArray := prog_2_method_5_code
def yX0_lawInForce : MethodName := ⟨RX0, "lawInForce", "()I"⟩
abbrev cX0_isTooLate : ByteArray := prog_2_method_6_code
def yX0_isTooLate : MethodName := ⟨RX0, "isTooLate", "(II)Z"⟩
abbrev cX0_isBelow : ByteArray := prog_2_method_7_code
def yX0_isBelow : MethodName := ⟨RX0, "isBelow", "(IJJ)Z"⟩
abbrev cX0_paidBack : ByteArray := prog_2_method_8_code
def yX0_paidBack : MethodName := ⟨RX0, "paidBack", "(II)I"⟩
def RX1 : String := "PictureCourt$Known"
def TX1 : u_T := fun k => match k with
  | 0 => ("PictureCourt$Known", "numbers", "[I", true)
  | 1 => ("PictureCourt$Known", "froms", "[I", true)
  | 2 => ("PictureCourt$Known", "tos", "[I", true)
  | 3 => ("PictureCourt$Known", "weights", "[I", true)
  | _ => ("PictureCourt$Known", "size", "I", false)
def tyX1 : Nat → FieldType := fun k => match k with
  | 0 => .array .int
  | 1 => .array .int
  | 2 => .array .int
  | 3 => .array .int
  | _ => .int
abbrev wsX10 : List Cond := u_ws RX1 TX1 5
theorem nmX1 : ∀ a, a < 5 → ∀ b, b < 5 → a ≠ b → (TX1 a).2.1 ≠ (TX1 b).2.1 := by decide +kernel
theorem tyX1_ok : ∀ k, k < 5 → parseFieldDescriptor (TX1 k).2.2.1 = some (tyX1 k) := by decide +kernel
abbrev cX1_init : ByteArray := prog_3_method_1_code
def yX1_init : MethodName := ⟨RX1, "<init>", "()V"⟩
abbrev cX1_add : ByteArray := prog_3_method_2_code
def yX1_add : MethodName := ⟨RX1, "add", "(IIII)V"⟩
abbrev cX1_firstCommonYear : ByteArray := prog_3_method_3_code
def yX1_firstCommonYear : MethodName := ⟨RX1, "firstCommonYear", "()I"⟩
abbrev cX1_lastCommonYear : ByteArray := prog_3_method_4_code
def yX1_lastCommonYear : MethodName := ⟨RX1, "lastCommonYear", "()I"⟩
abbrev cX1_opponentAfter : ByteArray := prog_3_method_5_code
def yX1_opponentAfter : MethodName := ⟨RX1, "opponentAfter", "(I)I"⟩
abbrev cX1_heaviestYear : ByteArray := prog_3_method_6_code
def yX1_heaviestYear : MethodName := ⟨RX1, "heaviestYear", "()I"⟩
abbrev cX1_holds : ByteArray := prog_3_method_7_code
def yX1_holds : MethodName := ⟨RX1, "holds", "(II)Z"⟩
abbrev cX1_weightOn : ByteArray := prog_3_method_8_code
def yX1_weightOn : MethodName := ⟨RX1, "weightOn", "(I)I"⟩
abbrev cX1_weightOfAll : ByteArray := prog_3_method_9_code
def yX1_weightOfAll : MethodName := ⟨RX1, "weightOfAll", "()I"⟩
abbrev cX1_setWithout : ByteArray := prog_3_method_10_code
def yX1_setWithout : MethodName := ⟨RX1, "setWithout", "(I)I"⟩
def RX2 : String := "PictureCourt$Odds"
def TX2 : u_T := fun k => match k with
  | 0 => ("PictureCourt$Odds", "handWeights", "[I", true)
  | 1 => ("PictureCourt$Odds", "costs", "[I", true)
  | 2 => ("PictureCourt$Odds", "wounds", "[I", true)
  | 3 => ("PictureCourt$Odds", "groups", "[I", true)
  | 4 => ("PictureCourt$Odds", "oftens", "[I", true)
  | 5 => ("PictureCourt$Odds", "results", "[I", true)
  | 6 => ("PictureCourt$Odds", "counts", "[Z", true)
  | 7 => ("PictureCourt$Odds", "groupsDone", "[Z", true)
  | 8 => ("PictureCourt$Odds", "size", "I", false)
  | _ => ("PictureCourt$Odds", "finished", "I", false)
def tyX2 : Nat → FieldType := fun k => match k with
  | 0 => .array .int
  | 1 => .array .int
  | 2 => .array .int
  | 3 => .array .int
  | 4 => .array .int
  | 5 => .array .int
  | 6 => .array .boolean
  | 7 => .array .boolean
  | 8 => .int
  | _ => .int
abbrev wsX20 : List Cond := u_ws RX2 TX2 10
theorem nmX2 : ∀ a, a < 10 → ∀ b, b < 10 → a ≠ b → (TX2 a).2.1 ≠ (TX2 b).2.1 := by decide +kernel
theorem tyX2_ok : ∀ k, k < 10 → parseFieldDescriptor (TX2 k).2.2.1 = some (tyX2 k) := by decide +kernel
abbrev cX2_init : ByteArray := prog_4_method_1_code
def yX2_init : MethodName := ⟨RX2, "<init>", "()V"⟩
abbrev cX2_isFull : ByteArray := prog_4_method_2_code
def yX2_isFull : MethodName := ⟨RX2, "isFull", "()Z"⟩
abbrev cX2_has : ByteArray := prog_4_method_3_code
def yX2_has : MethodName := ⟨RX2, "has", "(I)Z"⟩
abbrev cX2_swapWeight : ByteArray := prog_4_method_4_code
def yX2_swapWeight : MethodName := ⟨RX2, "swapWeight", "(II)I"⟩
abbrev cX2_add : ByteArray := prog_4_method_5_code
def yX2_add : MethodName := ⟨RX2, "add", "(III)I"⟩
abbrev cX2_swapOften : ByteArray := prog_4_method_6_code
def yX2_swapOften : MethodName := ⟨RX2, "swapOften", "(III)I"⟩
abbrev cX2_isDone : ByteArray := prog_4_method_7_code
def yX2_isDone : MethodName := ⟨RX2, "isDone", "(I)Z"⟩
abbrev cX2_isGroupDone : ByteArray := prog_4_method_8_code
def yX2_isGroupDone : MethodName := ⟨RX2, "isGroupDone", "(I)Z"⟩
abbrev cX2_isOpen : ByteArray := prog_4_method_9_code
def yX2_isOpen : MethodName := ⟨RX2, "isOpen", "(I)Z"⟩
abbrev cX2_finish : ByteArray := prog_4_method_10_code
def yX2_finish : MethodName := ⟨RX2, "finish", "(IZ)Z"⟩
abbrev cX2_score : ByteArray := prog_4_method_11_code
def yX2_score : MethodName := ⟨RX2, "score", "(I)J"⟩
abbrev cX2_scoreOfAll : ByteArray := prog_4_method_12_code
def yX2_scoreOfAll : MethodName := ⟨RX2, "scoreOfAll", "()J"⟩
abbrev cX2_likeliest : ByteArray := prog_4_method_13_code
def yX2_likeliest : MethodName := ⟨RX2, "likeliest", "()I"⟩
abbrev cX2_gainOf : ByteArray := prog_4_method_14_code
def yX2_gainOf : MethodName := ⟨RX2, "gainOf", "(I)J"⟩
abbrev cX2_best : ByteArray := prog_4_method_15_code
def yX2_best : MethodName := ⟨RX2, "best", "(II)I"⟩
abbrev cX2_mixInto : ByteArray := prog_4_method_16_code
def yX2_mixInto : MethodName := ⟨RX2, "mixInto", "(J)J"⟩
def RX3 : String := "PictureCourt$Opinions"
def TX3 : u_T := fun k => match k with
  | 0 => ("PictureCourt$Opinions", "experts", "[I", true)
  | 1 => ("PictureCourt$Opinions", "hands", "[I", true)
  | 2 => ("PictureCourt$Opinions", "sures", "[I", true)
  | 3 => ("PictureCourt$Opinions", "knews", "[Z", true)
  | 4 => ("PictureCourt$Opinions", "size", "I", false)
  | 5 => ("PictureCourt$Opinions", "widest", "I", false)
  | _ => ("PictureCourt$Opinions", "widestExpert", "I", false)
def tyX3 : Nat → FieldType := fun k => match k with
  | 0 => .array .int
  | 1 => .array .int
  | 2 => .array .int
  | 3 => .array .boolean
  | 4 => .int
  | 5 => .int
  | _ => .int
abbrev wsX30 : List Cond := u_ws RX3 TX3 7
theorem nmX3 : ∀ a, a < 7 → ∀ b, b < 7 → a ≠ b → (TX3 a).2.1 ≠ (TX3 b).2.1 := by decide +kernel
theorem tyX3_ok : ∀ k, k < 7 → parseFieldDescriptor (TX3 k).2.2.1 = some (tyX3 k) := by decide +kernel
abbrev cX3_init : ByteArray := prog_5_method_1_code
def yX3_init : MethodName := ⟨RX3, "<init>", "()V"⟩
abbrev cX3_isFull : ByteArray := prog_5_method_2_code
def yX3_isFull : MethodName := ⟨RX3, "isFull", "()Z"⟩
abbrev cX3_add : ByteArray := prog_5_method_3_code
def yX3_add : MethodName := ⟨RX3, "add", "(IIIZ)I"⟩
abbrev cX3_howMany : ByteArray := prog_5_method_4_code
def yX3_howMany : MethodName := ⟨RX3, "howMany", "(IZ)I"⟩
abbrev cX3_sumOf : ByteArray := prog_5_method_5_code
def yX3_sumOf : MethodName := ⟨RX3, "sumOf", "(IZ)I"⟩
abbrev cX3_findSpread : ByteArray := prog_5_method_6_code
def yX3_findSpread : MethodName := ⟨RX3, "findSpread", "()V"⟩
abbrev cX3_areComparable : ByteArray := prog_5_method_7_code
def yX3_areComparable : MethodName := ⟨RX3, "areComparable", "(II)Z"⟩
abbrev cX3_weighPair : ByteArray := prog_5_method_8_code
def yX3_weighPair : MethodName := ⟨RX3, "weighPair", "(II)V"⟩
def RX4 : String := "PictureCourt$Owners"
def TX4 : u_T := fun k => match k with
  | 0 => ("PictureCourt$Owners", "froms", "[I", true)
  | 1 => ("PictureCourt$Owners", "tos", "[I", true)
  | 2 => ("PictureCourt$Owners", "size", "I", false)
  | 3 => ("PictureCourt$Owners", "gapYears", "I", false)
  | _ => ("PictureCourt$Owners", "longestGap", "I", false)
def tyX4 : Nat → FieldType := fun k => match k with
  | 0 => .array .int
  | 1 => .array .int
  | 2 => .int
  | 3 => .int
  | _ => .int
abbrev wsX40 : List Cond := u_ws RX4 TX4 5
theorem nmX4 : ∀ a, a < 5 → ∀ b, b < 5 → a ≠ b → (TX4 a).2.1 ≠ (TX4 b).2.1 := by decide +kernel
theorem tyX4_ok : ∀ k, k < 5 → parseFieldDescriptor (TX4 k).2.2.1 = some (tyX4 k) := by decide +kernel
abbrev cX4_init : ByteArray := prog_6_method_1_code
def yX4_init : MethodName := ⟨RX4, "<init>", "()V"⟩
abbrev cX4_isFull : ByteArray := prog_6_method_2_code
def yX4_isFull : MethodName := ⟨RX4, "isFull", "()Z"⟩
abbrev cX4_add : ByteArray := prog_6_method_3_code
def yX4_add : MethodName := ⟨RX4, "add", "(II)I"⟩
abbrev cX4_findGaps : ByteArray := prog_6_method_4_code
def yX4_findGaps : MethodName := ⟨RX4, "findGaps", "(II)V"⟩
abbrev cX4_addGap : ByteArray := prog_6_method_5_code
def yX4_addGap : MethodName := ⟨RX4, "addGap", "(I)V"⟩
def RX5 : String := "PictureCourt$Proofs"
def TX5 : u_T := fun k => match k with
  | 0 => ("PictureCourt$Proofs", "rows", "LPictureCourt$Rows;", true)
  | 1 => ("PictureCourt$Proofs", "paintYears", "[I", true)
  | 2 => ("PictureCourt$Proofs", "kinds", "[I", true)
  | 3 => ("PictureCourt$Proofs", "weights", "[I", true)
  | 4 => ("PictureCourt$Proofs", "toldDays", "[I", true)
  | 5 => ("PictureCourt$Proofs", "struckDays", "[I", true)
  | 6 => ("PictureCourt$Proofs", "subjects", "[I", true)
  | 7 => ("PictureCourt$Proofs", "otherRows", "[I", true)
  | 8 => ("PictureCourt$Proofs", "froms", "[I", true)
  | 9 => ("PictureCourt$Proofs", "tos", "[I", true)
  | 10 => ("PictureCourt$Proofs", "leastSap", "I", false)
  | 11 => ("PictureCourt$Proofs", "mostSap", "I", false)
  | 12 => ("PictureCourt$Proofs", "yearsToUse", "I", false)
  | 13 => ("PictureCourt$Proofs", "size", "I", false)
  | _ => ("PictureCourt$Proofs", "struck", "I", false)
def tyX5 : Nat → FieldType := fun k => match k with
  | 0 => .object "PictureCourt$Rows"
  | 1 => .array .int
  | 2 => .array .int
  | 3 => .array .int
  | 4 => .array .int
  | 5 => .array .int
  | 6 => .array .int
  | 7 => .array .int
  | 8 => .array .int
  | 9 => .array .int
  | 10 => .int
  | 11 => .int
  | 12 => .int
  | 13 => .int
  | _ => .int
abbrev wsX50 : List Cond := u_ws RX5 TX5 15
theorem nmX5 : ∀ a, a < 15 → ∀ b, b < 15 → a ≠ b → (TX5 a).2.1 ≠ (TX5 b).2.1 := by decide +kernel
theorem tyX5_ok : ∀ k, k < 15 → parseFieldDescriptor (TX5 k).2.2.1 = some (tyX5 k) := by decide +kernel
abbrev cX5_init : ByteArray := prog_7_method_1_code
def yX5_init : MethodName := ⟨RX5, "<init>", "()V"⟩
abbrev cX5_isFull : ByteArray := prog_7_method_2_code
def yX5_isFull : MethodName := ⟨RX5, "isFull", "()Z"⟩
abbrev cX5_has : ByteArray := prog_7_method_3_code
def yX5_has : MethodName := ⟨RX5, "has", "(I)Z"⟩
abbrev cX5_swapPaintYear : ByteArray := prog_7_method_4_code
def yX5_swapPaintYear : MethodName := ⟨RX5, "swapPaintYear", "(II)I"⟩
abbrev cX5_setSap : ByteArray := prog_7_method_5_code
def yX5_setSap : MethodName := ⟨RX5, "setSap", "(III)V"⟩
abbrev cX5_addYears : ByteArray := prog_7_method_6_code
def yX5_addYears : MethodName := ⟨RX5, "addYears", "(IIII)I"⟩
abbrev cX5_addPaint : ByteArray := prog_7_method_7_code
def yX5_addPaint : MethodName := ⟨RX5, "addPaint", "(III)I"⟩
abbrev cX5_addRings : ByteArray := prog_7_method_8_code
def yX5_addRings : MethodName := ⟨RX5, "addRings", "(IIII)I"⟩
abbrev cX5_addThreads : ByteArray := prog_7_method_9_code
def yX5_addThreads : MethodName := ⟨RX5, "addThreads", "(IIIIII)I"⟩
abbrev cX5_add : ByteArray := prog_7_method_10_code
def yX5_add : MethodName := ⟨RX5, "add", "(III)I"⟩
abbrev cX5_isStruck : ByteArray := prog_7_method_11_code
def yX5_isStruck : MethodName := ⟨RX5, "isStruck", "(I)Z"⟩
abbrev cX5_strikeOn : ByteArray := prog_7_method_12_code
def yX5_strikeOn : MethodName := ⟨RX5, "strikeOn", "(II)V"⟩
abbrev cX5_detail : ByteArray := prog_7_method_13_code
def yX5_detail : MethodName := ⟨RX5, "detail", "(II)I"⟩
abbrev cX5_isOfKind : ByteArray := prog_7_method_14_code
def yX5_isOfKind : MethodName := ⟨RX5, "isOfKind", "(II)Z"⟩
abbrev cX5_markAs : ByteArray := prog_7_method_15_code
def yX5_markAs : MethodName := ⟨RX5, "markAs", "(II)I"⟩
abbrev cX5_lacking : ByteArray := prog_7_method_16_code
def yX5_lacking : MethodName := ⟨RX5, "lacking", "(II)I"⟩
abbrev cX5_firstYear : ByteArray := prog_7_method_17_code
def yX5_firstYear : MethodName := ⟨RX5, "firstYear", "(I)I"⟩
abbrev cX5_lastYear : ByteArray := prog_7_method_18_code
def yX5_lastYear : MethodName := ⟨RX5, "lastYear", "(I)I"⟩
abbrev cX5_isKnown : ByteArray := prog_7_method_19_code
def yX5_isKnown : MethodName := ⟨RX5, "isKnown", "(II)Z"⟩
abbrev cX5_gather : ByteArray := prog_7_method_20_code
def yX5_gather : MethodName := ⟨RX5, "gather", "(ILPictureCourt$Known;)V"⟩
abbrev cX5_mixPaintsInto : ByteArray := prog_7_method_21_code
def yX5_mixPaintsInto : MethodName := ⟨RX5, "mixPaintsInto", "(J)J"⟩
def RX6 : String := "PictureCourt$Rows"
def TX6 : u_T := fun k => match k with
  | 0 => ("PictureCourt$Rows", "sizes", "[I", true)
  | _ => ("PictureCourt$Rows", "bytes", "[B", true)
def tyX6 : Nat → FieldType := fun k => match k with
  | 0 => .array .int
  | _ => .array .byte
abbrev wsX60 : List Cond := u_ws RX6 TX6 2
theorem nmX6 : ∀ a, a < 2 → ∀ b, b < 2 → a ≠ b → (TX6 a).2.1 ≠ (TX6 b).2.1 := by decide +kernel
theorem tyX6_ok : ∀ k, k < 2 → parseFieldDescriptor (TX6 k).2.2.1 = some (tyX6 k) := by decide +kernel
abbrev cX6_init : ByteArray := prog_8_method_1_code
def yX6_init : MethodName := ⟨RX6, "<init>", "()V"⟩
abbrev cX6_isMissing : ByteArray := prog_8_method_2_code
def yX6_isMissing : MethodName := ⟨RX6, "isMissing", "(I)Z"⟩
abbrev cX6_hasRun : ByteArray := prog_8_method_3_code
def yX6_hasRun : MethodName := ⟨RX6, "hasRun", "(III)Z"⟩
abbrev cX6_make : ByteArray := prog_8_method_4_code
def yX6_make : MethodName := ⟨RX6, "make", "(II)V"⟩
abbrev cX6_drop : ByteArray := prog_8_method_5_code
def yX6_drop : MethodName := ⟨RX6, "drop", "(I)V"⟩
abbrev cX6_swap : ByteArray := prog_8_method_6_code
def yX6_swap : MethodName := ⟨RX6, "swap", "(IIB)I"⟩
abbrev cX6_move : ByteArray := prog_8_method_7_code
def yX6_move : MethodName := ⟨RX6, "move", "(IIIII)V"⟩
abbrev cX6_canMatch : ByteArray := prog_8_method_8_code
def yX6_canMatch : MethodName := ⟨RX6, "canMatch", "(II)Z"⟩
abbrev cX6_bestPlace : ByteArray := prog_8_method_9_code
def yX6_bestPlace : MethodName := ⟨RX6, "bestPlace", "(II)I"⟩
abbrev cX6_offAt : ByteArray := prog_8_method_10_code
def yX6_offAt : MethodName := ⟨RX6, "offAt", "(III)I"⟩
abbrev cX6_isSure : ByteArray := prog_8_method_11_code
def yX6_isSure : MethodName := ⟨RX6, "isSure", "(II)Z"⟩
abbrev cX6_mixInto : ByteArray := prog_8_method_12_code
def yX6_mixInto : MethodName := ⟨RX6, "mixInto", "(J)J"⟩
def RX7 : String := "PictureCourt"
def TX7 : u_T := fun k => match k with
  | 0 => ("PictureCourt", "proofs", "LPictureCourt$Proofs;", true)
  | 1 => ("PictureCourt", "rows", "LPictureCourt$Rows;", true)
  | 2 => ("PictureCourt", "known", "LPictureCourt$Known;", true)
  | 3 => ("PictureCourt", "odds", "LPictureCourt$Odds;", true)
  | 4 => ("PictureCourt", "owners", "LPictureCourt$Owners;", true)
  | 5 => ("PictureCourt", "opinions", "LPictureCourt$Opinions;", true)
  | 6 => ("PictureCourt", "contract", "LPictureCourt$Contract;", true)
  | 7 => ("PictureCourt", "findingCounts", "[I", true)
  | 8 => ("PictureCourt", "today", "I", false)
  | 9 => ("PictureCourt", "latestFinding", "I", false)
  | 10 => ("PictureCourt", "askedNumber", "I", false)
  | 11 => ("PictureCourt", "upperNumber", "J", false)
  | _ => ("PictureCourt", "lowerNumber", "J", false)
def tyX7 : Nat → FieldType := fun k => match k with
  | 0 => .object "PictureCourt$Proofs"
  | 1 => .object "PictureCourt$Rows"
  | 2 => .object "PictureCourt$Known"
  | 3 => .object "PictureCourt$Odds"
  | 4 => .object "PictureCourt$Owners"
  | 5 => .object "PictureCourt$Opinions"
  | 6 => .object "PictureCourt$Contract"
  | 7 => .array .int
  | 8 => .int
  | 9 => .int
  | 10 => .int
  | 11 => .long
  | _ => .long
abbrev wsX70 : List Cond := u_ws RX7 TX7 13
theorem nmX7 : ∀ a, a < 13 → ∀ b, b < 13 → a ≠ b → (TX7 a).2.1 ≠ (TX7 b).2.1 := by decide +kernel
theorem tyX7_ok : ∀ k, k < 13 → parseFieldDescriptor (TX7 k).2.2.1 = some (tyX7 k) := by decide +kernel
abbrev cX7_init : ByteArray := prog_1_method_1_code
def yX7_init : MethodName := ⟨RX7, "<init>", "()V"⟩
abbrev cX7_later : ByteArray := prog_1_method_2_code
def yX7_later : MethodName := ⟨RX7, "later", "(I)I"⟩
abbrev cX7_row : ByteArray := prog_1_method_3_code
def yX7_row : MethodName := ⟨RX7, "row", "(II)I"⟩
abbrev cX7_lay : ByteArray := prog_1_method_4_code
def yX7_lay : MethodName := ⟨RX7, "lay", "(III)I"⟩
abbrev cX7_tear : ByteArray := prog_1_method_5_code
def yX7_tear : MethodName := ⟨RX7, "tear", "(I)I"⟩
abbrev cX7_copy : ByteArray := prog_1_method_6_code
def yX7_copy : MethodName := ⟨RX7, "copy", "(IIIII)I"⟩
abbrev cX7_match : ByteArray := prog_1_method_7_code
def yX7_match : MethodName := ⟨RX7, "match", "(II)I"⟩
abbrev cX7_sure : ByteArray := prog_1_method_8_code
def yX7_sure : MethodName := ⟨RX7, "sure", "(II)I"⟩
abbrev cX7_paint : ByteArray := prog_1_method_9_code
def yX7_paint : MethodName := ⟨RX7, "paint", "(II)I"⟩
abbrev cX7_sap : ByteArray := prog_1_method_10_code
def yX7_sap : MethodName := ⟨RX7, "sap", "(III)I"⟩
abbrev cX7_proof : ByteArray := prog_1_method_11_code
def yX7_proof : MethodName := ⟨RX7, "proof", "(III)I"⟩
abbrev cX7_found : ByteArray := prog_1_method_12_code
def yX7_found : MethodName := ⟨RX7, "found", "(II)I"⟩
abbrev cX7_rings : ByteArray := prog_1_method_13_code
def yX7_rings : MethodName := ⟨RX7, "rings", "(III)I"⟩
abbrev cX7_threads : ByteArray := prog_1_method_14_code
def yX7_threads : MethodName := ⟨RX7, "threads", "(IIIII)I"⟩
abbrev cX7_strike : ByteArray := prog_1_method_15_code
def yX7_strike : MethodName := ⟨RX7, "strike", "(I)I"⟩
abbrev cX7_told : ByteArray := prog_1_method_16_code
def yX7_told : MethodName := ⟨RX7, "told", "(II)I"⟩
abbrev cX7_mark : ByteArray := prog_1_method_17_code
def yX7_mark : MethodName := ⟨RX7, "mark", "(II)I"⟩
abbrev cX7_span : ByteArray := prog_1_method_18_code
def yX7_span : MethodName := ⟨RX7, "span", "(IZ)I"⟩
abbrev cX7_quarrel : ByteArray := prog_1_method_19_code
def yX7_quarrel : MethodName := ⟨RX7, "quarrel", "(I)I"⟩
abbrev cX7_leftOut : ByteArray := prog_1_method_20_code
def yX7_leftOut : MethodName := ⟨RX7, "leftOut", "(I)I"⟩
abbrev cX7_heldYear : ByteArray := prog_1_method_21_code
def yX7_heldYear : MethodName := ⟨RX7, "heldYear", "(I)I"⟩
abbrev cX7_hand : ByteArray := prog_1_method_22_code
def yX7_hand : MethodName := ⟨RX7, "hand", "(II)I"⟩
abbrev cX7_test : ByteArray := prog_1_method_23_code
def yX7_test : MethodName := ⟨RX7, "test", "(III)I"⟩
abbrev cX7_often : ByteArray := prog_1_method_24_code
def yX7_often : MethodName := ⟨RX7, "often", "(III)I"⟩
abbrev cX7_done : ByteArray := prog_1_method_25_code
def yX7_done : MethodName := ⟨RX7, "done", "(IZ)I"⟩
abbrev cX7_chance : ByteArray := prog_1_method_26_code
def yX7_chance : MethodName := ⟨RX7, "chance", "(I)I"⟩
abbrev cX7_likely : ByteArray := prog_1_method_27_code
def yX7_likely : MethodName := ⟨RX7, "likely", "()I"⟩
abbrev cX7_gain : ByteArray := prog_1_method_28_code
def yX7_gain : MethodName := ⟨RX7, "gain", "(I)I"⟩
abbrev cX7_next : ByteArray := prog_1_method_29_code
def yX7_next : MethodName := ⟨RX7, "next", "(II)I"⟩
abbrev cX7_owner : ByteArray := prog_1_method_30_code
def yX7_owner : MethodName := ⟨RX7, "owner", "(II)I"⟩
abbrev cX7_gaps : ByteArray := prog_1_method_31_code
def yX7_gaps : MethodName := ⟨RX7, "gaps", "(II)I"⟩
abbrev cX7_opinion : ByteArray := prog_1_method_32_code
def yX7_opinion : MethodName := ⟨RX7, "opinion", "(IIIZ)I"⟩
abbrev cX7_mean : ByteArray := prog_1_method_33_code
def yX7_mean : MethodName := ⟨RX7, "mean", "(IZ)I"⟩
abbrev cX7_spread : ByteArray := prog_1_method_34_code
def yX7_spread : MethodName := ⟨RX7, "spread", "()I"⟩
abbrev cX7_sold : ByteArray := prog_1_method_35_code
def yX7_sold : MethodName := ⟨RX7, "sold", "(III)I"⟩
abbrev cX7_law : ByteArray := prog_1_method_36_code
def yX7_law : MethodName := ⟨RX7, "law", "(IIII)I"⟩
abbrev cX7_claim : ByteArray := prog_1_method_37_code
def yX7_claim : MethodName := ⟨RX7, "claim", "()I"⟩
abbrev cX7_asked : ByteArray := prog_1_method_38_code
def yX7_asked : MethodName := ⟨RX7, "asked", "()I"⟩
abbrev cX7_upper : ByteArray := prog_1_method_39_code
def yX7_upper : MethodName := ⟨RX7, "upper", "()J"⟩
abbrev cX7_lower : ByteArray := prog_1_method_40_code
def yX7_lower : MethodName := ⟨RX7, "lower", "()J"⟩
abbrev cX7_count : ByteArray := prog_1_method_41_code
def yX7_count : MethodName := ⟨RX7, "count", "(I)I"⟩
abbrev cX7_finding : ByteArray := prog_1_method_42_code
def yX7_finding : MethodName := ⟨RX7, "finding", "()I"⟩
abbrev cX7_findings : ByteArray := prog_1_method_43_code
def yX7_findings : MethodName := ⟨RX7, "findings", "(I)I"⟩
abbrev cX7_digest : ByteArray := prog_1_method_44_code
def yX7_digest : MethodName := ⟨RX7, "digest", "()J"⟩
abbrev cX7_refuse : ByteArray := prog_1_method_45_code
def yX7_refuse : MethodName := ⟨RX7, "refuse", "(I)I"⟩
abbrev cX7_tellFraction : ByteArray := prog_1_method_46_code
def yX7_tellFraction : MethodName := ⟨RX7, "tellFraction", "(JJ)V"⟩
abbrev cX7_commonDivisor : ByteArray := prog_1_method_47_code
def yX7_commonDivisor : MethodName := ⟨RX7, "commonDivisor", "(JJ)J"⟩
abbrev cX7_isWithin : ByteArray := prog_1_method_48_code
def yX7_isWithin : MethodName := ⟨RX7, "isWithin", "(III)Z"⟩
abbrev cX7_isDay : ByteArray := prog_1_method_49_code
def yX7_isDay : MethodName := ⟨RX7, "isDay", "(I)Z"⟩
abbrev cX7_isYear : ByteArray := prog_1_method_50_code
def yX7_isYear : MethodName := ⟨RX7, "isYear", "(I)Z"⟩
abbrev cX7_areYears : ByteArray := prog_1_method_51_code
def yX7_areYears : MethodName := ⟨RX7, "areYears", "(II)Z"⟩
abbrev cX7_isRow : ByteArray := prog_1_method_52_code
def yX7_isRow : MethodName := ⟨RX7, "isRow", "(I)Z"⟩
abbrev cX7_areTwoRows : ByteArray := prog_1_method_53_code
def yX7_areTwoRows : MethodName := ⟨RX7, "areTwoRows", "(II)Z"⟩
abbrev cX7_isHand : ByteArray := prog_1_method_54_code
def yX7_isHand : MethodName := ⟨RX7, "isHand", "(I)Z"⟩
abbrev cX7_isProofWeight : ByteArray := prog_1_method_55_code
def yX7_isProofWeight : MethodName := ⟨RX7, "isProofWeight", "(I)Z"⟩
def RX8 : String := "PictureCourtModel"
def TX8 : u_T := fun k => match k with
  | 0 => ("PictureCourtModel", "latest", "I", false)
  | 1 => ("PictureCourtModel", "came", "[I", true)
  | 2 => ("PictureCourtModel", "asked", "I", false)
  | 3 => ("PictureCourtModel", "upper", "J", false)
  | 4 => ("PictureCourtModel", "lower", "J", false)
  | 5 => ("PictureCourtModel", "today", "I", false)
  | 6 => ("PictureCourtModel", "sizes", "[I", true)
  | 7 => ("PictureCourtModel", "rows", "[B", true)
  | 8 => ("PictureCourtModel", "copied", "[B", true)
  | 9 => ("PictureCourtModel", "paints", "[I", true)
  | 10 => ("PictureCourtModel", "sapLeast", "I", false)
  | 11 => ("PictureCourtModel", "sapMost", "I", false)
  | 12 => ("PictureCourtModel", "use", "I", false)
  | 13 => ("PictureCourtModel", "proofs", "I", false)
  | 14 => ("PictureCourtModel", "kindOf", "[I", true)
  | 15 => ("PictureCourtModel", "weightOf", "[I", true)
  | 16 => ("PictureCourtModel", "toldOn", "[I", true)
  | 17 => ("PictureCourtModel", "struckOn", "[I", true)
  | 18 => ("PictureCourtModel", "one", "[I", true)
  | 19 => ("PictureCourtModel", "two", "[I", true)
  | 20 => ("PictureCourtModel", "three", "[I", true)
  | 21 => ("PictureCourtModel", "four", "[I", true)
  | 22 => ("PictureCourtModel", "held", "[I", true)
  | 23 => ("PictureCourtModel", "hands", "[I", true)
  | 24 => ("PictureCourtModel", "tests", "I", false)
  | 25 => ("PictureCourtModel", "testCost", "[I", true)
  | 26 => ("PictureCourtModel", "testWound", "[I", true)
  | 27 => ("PictureCourtModel", "testGroup", "[I", true)
  | 28 => ("PictureCourtModel", "testOften", "[I", true)
  | 29 => ("PictureCourtModel", "testOut", "[I", true)
  | 30 => ("PictureCourtModel", "testCounts", "[Z", true)
  | 31 => ("PictureCourtModel", "owners", "I", false)
  | 32 => ("PictureCourtModel", "ownerFrom", "[I", true)
  | 33 => ("PictureCourtModel", "ownerTo", "[I", true)
  | 34 => ("PictureCourtModel", "opinions", "I", false)
  | 35 => ("PictureCourtModel", "opinionExpert", "[I", true)
  | 36 => ("PictureCourtModel", "opinionHand", "[I", true)
  | 37 => ("PictureCourtModel", "opinionSure", "[I", true)
  | 38 => ("PictureCourtModel", "opinionKnew", "[Z", true)
  | 39 => ("PictureCourtModel", "soldOn", "I", false)
  | 40 => ("PictureCourtModel", "soldFor", "I", false)
  | 41 => ("PictureCourtModel", "soldAs", "I", false)
  | 42 => ("PictureCourtModel", "laws", "I", false)
  | 43 => ("PictureCourtModel", "lawDay", "[I", true)
  | 44 => ("PictureCourtModel", "lawWithin", "[I", true)
  | 45 => ("PictureCourtModel", "lawBelow", "[I", true)
  | _ => ("PictureCourtModel", "lawRate", "[I", true)
def tyX8 : Nat → FieldType := fun k => match k with
  | 0 => .int
  | 1 => .array .int
  | 2 => .int
  | 3 => .long
  | 4 => .long
  | 5 => .int
  | 6 => .array .int
  | 7 => .array .byte
  | 8 => .array .byte
  | 9 => .array .int
  | 10 => .int
  | 11 => .int
  | 12 => .int
  | 13 => .int
  | 14 => .array .int
  | 15 => .array .int
  | 16 => .array .int
  | 17 => .array .int
  | 18 => .array .int
  | 19 => .array .int
  | 20 => .array .int
  | 21 => .array .int
  | 22 => .array .int
  | 23 => .array .int
  | 24 => .int
  | 25 => .array .int
  | 26 => .array .int
  | 27 => .array .int
  | 28 => .array .int
  | 29 => .array .int
  | 30 => .array .boolean
  | 31 => .int
  | 32 => .array .int
  | 33 => .array .int
  | 34 => .int
  | 35 => .array .int
  | 36 => .array .int
  | 37 => .array .int
  | 38 => .array .boolean
  | 39 => .int
  | 40 => .int
  | 41 => .int
  | 42 => .int
  | 43 => .array .int
  | 44 => .array .int
  | 45 => .array .int
  | _ => .array .int
abbrev wsX80 : List Cond := u_ws RX8 TX8 47
theorem nmX8 : ∀ a, a < 47 → ∀ b, b < 47 → a ≠ b → (TX8 a).2.1 ≠ (TX8 b).2.1 := by decide +kernel
theorem tyX8_ok : ∀ k, k < 47 → parseFieldDescriptor (TX8 k).2.2.1 = some (tyX8 k) := by decide +kernel
abbrev cX8_init : ByteArray := prog_10_method_1_code
def yX8_init : MethodName := ⟨RX8, "<init>", "()V"⟩
abbrev cX8_in : ByteArray := prog_10_method_2_code
def yX8_in : MethodName := ⟨RX8, "in", "(III)Z"⟩
abbrev cX8_meets : ByteArray := prog_10_method_3_code
def yX8_meets : MethodName := ⟨RX8, "meets", "(I)I"⟩
abbrev cX8_finding : ByteArray := prog_10_method_4_code
def yX8_finding : MethodName := ⟨RX8, "finding", "()I"⟩
abbrev cX8_findings : ByteArray := prog_10_method_5_code
def yX8_findings : MethodName := ⟨RX8, "findings", "(I)I"⟩
abbrev cX8_tells : ByteArray := prog_10_method_6_code
def yX8_tells : MethodName := ⟨RX8, "tells", "(II)I"⟩
abbrev cX8_asked : ByteArray := prog_10_method_7_code
def yX8_asked : MethodName := ⟨RX8, "asked", "()I"⟩
abbrev cX8_fraction : ByteArray := prog_10_method_8_code
def yX8_fraction : MethodName := ⟨RX8, "fraction", "(JJI)I"⟩
abbrev cX8_upper : ByteArray := prog_10_method_9_code
def yX8_upper : MethodName := ⟨RX8, "upper", "()J"⟩
abbrev cX8_lower : ByteArray := prog_10_method_10_code
def yX8_lower : MethodName := ⟨RX8, "lower", "()J"⟩
abbrev cX8_later : ByteArray := prog_10_method_11_code
def yX8_later : MethodName := ⟨RX8, "later", "(I)I"⟩
abbrev cX8_isDay : ByteArray := prog_10_method_12_code
def yX8_isDay : MethodName := ⟨RX8, "isDay", "(I)Z"⟩
abbrev cX8_isYear : ByteArray := prog_10_method_13_code
def yX8_isYear : MethodName := ⟨RX8, "isYear", "(I)Z"⟩
abbrev cX8_isRow : ByteArray := prog_10_method_14_code
def yX8_isRow : MethodName := ⟨RX8, "isRow", "(I)Z"⟩
abbrev cX8_row : ByteArray := prog_10_method_15_code
def yX8_row : MethodName := ⟨RX8, "row", "(II)I"⟩
abbrev cX8_lay : ByteArray := prog_10_method_16_code
def yX8_lay : MethodName := ⟨RX8, "lay", "(III)I"⟩
abbrev cX8_tear : ByteArray := prog_10_method_17_code
def yX8_tear : MethodName := ⟨RX8, "tear", "(I)I"⟩
abbrev cX8_copy : ByteArray := prog_10_method_18_code
def yX8_copy : MethodName := ⟨RX8, "copy", "(IIIII)I"⟩
abbrev cX8_offAt : ByteArray := prog_10_method_19_code
def yX8_offAt : MethodName := ⟨RX8, "offAt", "(III)I"⟩
abbrev cX8_placeOf : ByteArray := prog_10_method_20_code
def yX8_placeOf : MethodName := ⟨RX8, "placeOf", "(II)I"⟩
abbrev cX8_mayMatch : ByteArray := prog_10_method_21_code
def yX8_mayMatch : MethodName := ⟨RX8, "mayMatch", "(II)Z"⟩
abbrev cX8_match : ByteArray := prog_10_method_22_code
def yX8_match : MethodName := ⟨RX8, "match", "(II)I"⟩
abbrev cX8_isSure : ByteArray := prog_10_method_23_code
def yX8_isSure : MethodName := ⟨RX8, "isSure", "(II)Z"⟩
abbrev cX8_sure : ByteArray := prog_10_method_24_code
def yX8_sure : MethodName := ⟨RX8, "sure", "(II)I"⟩
abbrev cX8_paint : ByteArray := prog_10_method_25_code
def yX8_paint : MethodName := ⟨RX8, "paint", "(II)I"⟩
abbrev cX8_sap : ByteArray := prog_10_method_26_code
def yX8_sap : MethodName := ⟨RX8, "sap", "(III)I"⟩
abbrev cX8_comes : ByteArray := prog_10_method_27_code
def yX8_comes : MethodName := ⟨RX8, "comes", "(ZIIIIII)I"⟩
abbrev cX8_proof : ByteArray := prog_10_method_28_code
def yX8_proof : MethodName := ⟨RX8, "proof", "(III)I"⟩
abbrev cX8_found : ByteArray := prog_10_method_29_code
def yX8_found : MethodName := ⟨RX8, "found", "(II)I"⟩
abbrev cX8_rings : ByteArray := prog_10_method_30_code
def yX8_rings : MethodName := ⟨RX8, "rings", "(III)I"⟩
abbrev cX8_threads : ByteArray := prog_10_method_31_code
def yX8_threads : MethodName := ⟨RX8, "threads", "(IIIII)I"⟩
abbrev cX8_isProof : ByteArray := prog_10_method_32_code
def yX8_isProof : MethodName := ⟨RX8, "isProof", "(I)Z"⟩
abbrev cX8_strike : ByteArray := prog_10_method_33_code
def yX8_strike : MethodName := ⟨RX8, "strike", "(I)I"⟩
abbrev cX8_lack : ByteArray := prog_10_method_34_code
def yX8_lack : MethodName := ⟨RX8, "lack", "(II)I"⟩
abbrev cX8_fromOf : ByteArray := prog_10_method_35_code
def yX8_fromOf : MethodName := ⟨RX8, "fromOf", "(I)I"⟩
abbrev cX8_toOf : ByteArray := prog_10_method_36_code
def yX8_toOf : MethodName := ⟨RX8, "toOf", "(I)I"⟩
abbrev cX8_toldOf : ByteArray := prog_10_method_37_code
def yX8_toldOf : MethodName := ⟨RX8, "toldOf", "(II)I"⟩
abbrev cX8_told : ByteArray := prog_10_method_38_code
def yX8_told : MethodName := ⟨RX8, "told", "(II)I"⟩
abbrev cX8_mark : ByteArray := prog_10_method_39_code
def yX8_mark : MethodName := ⟨RX8, "mark", "(II)I"⟩
abbrev cX8_isKnown : ByteArray := prog_10_method_40_code
def yX8_isKnown : MethodName := ⟨RX8, "isKnown", "(II)Z"⟩
abbrev cX8_span : ByteArray := prog_10_method_41_code
def yX8_span : MethodName := ⟨RX8, "span", "(IZ)I"⟩
abbrev cX8_quarrel : ByteArray := prog_10_method_42_code
def yX8_quarrel : MethodName := ⟨RX8, "quarrel", "(I)I"⟩
abbrev cX8_bestYear : ByteArray := prog_10_method_43_code
def yX8_bestYear : MethodName := ⟨RX8, "bestYear", "(I)I"⟩
abbrev cX8_leftOut : ByteArray := prog_10_method_44_code
def yX8_leftOut : MethodName := ⟨RX8, "leftOut", "(I)I"⟩
abbrev cX8_heldYear : ByteArray := prog_10_method_45_code
def yX8_heldYear : MethodName := ⟨RX8, "heldYear", "(I)I"⟩
abbrev cX8_isHand : ByteArray := prog_10_method_46_code
def yX8_isHand : MethodName := ⟨RX8, "isHand", "(I)Z"⟩
abbrev cX8_isTest : ByteArray := prog_10_method_47_code
def yX8_isTest : MethodName := ⟨RX8, "isTest", "(I)Z"⟩
abbrev cX8_hand : ByteArray := prog_10_method_48_code
def yX8_hand : MethodName := ⟨RX8, "hand", "(II)I"⟩
abbrev cX8_test : ByteArray := prog_10_method_49_code
def yX8_test : MethodName := ⟨RX8, "test", "(III)I"⟩
abbrev cX8_often : ByteArray := prog_10_method_50_code
def yX8_often : MethodName := ⟨RX8, "often", "(III)I"⟩
abbrev cX8_isGroupDone : ByteArray := prog_10_method_51_code
def yX8_isGroupDone : MethodName := ⟨RX8, "isGroupDone", "(I)Z"⟩
abbrev cX8_done : ByteArray := prog_10_method_52_code
def yX8_done : MethodName := ⟨RX8, "done", "(IZ)I"⟩
abbrev cX8_scoreOf : ByteArray := prog_10_method_53_code
def yX8_scoreOf : MethodName := ⟨RX8, "scoreOf", "(I)J"⟩
abbrev cX8_allScores : ByteArray := prog_10_method_54_code
def yX8_allScores : MethodName := ⟨RX8, "allScores", "()J"⟩
abbrev cX8_chance : ByteArray := prog_10_method_55_code
def yX8_chance : MethodName := ⟨RX8, "chance", "(I)I"⟩
abbrev cX8_likely : ByteArray := prog_10_method_56_code
def yX8_likely : MethodName := ⟨RX8, "likely", "()I"⟩
abbrev cX8_gainOf : ByteArray := prog_10_method_57_code
def yX8_gainOf : MethodName := ⟨RX8, "gainOf", "(I)J"⟩
abbrev cX8_isOpen : ByteArray := prog_10_method_58_code
def yX8_isOpen : MethodName := ⟨RX8, "isOpen", "(I)Z"⟩
abbrev cX8_gain : ByteArray := prog_10_method_59_code
def yX8_gain : MethodName := ⟨RX8, "gain", "(I)I"⟩
abbrev cX8_next : ByteArray := prog_10_method_60_code
def yX8_next : MethodName := ⟨RX8, "next", "(II)I"⟩
abbrev cX8_owner : ByteArray := prog_10_method_61_code
def yX8_owner : MethodName := ⟨RX8, "owner", "(II)I"⟩
abbrev cX8_gaps : ByteArray := prog_10_method_62_code
def yX8_gaps : MethodName := ⟨RX8, "gaps", "(II)I"⟩
abbrev cX8_opinion : ByteArray := prog_10_method_63_code
def yX8_opinion : MethodName := ⟨RX8, "opinion", "(IIIZ)I"⟩
abbrev cX8_mean : ByteArray := prog_10_method_64_code
def yX8_mean : MethodName := ⟨RX8, "mean", "(IZ)I"⟩
abbrev cX8_spread : ByteArray := prog_10_method_65_code
def yX8_spread : MethodName := ⟨RX8, "spread", "()I"⟩
abbrev cX8_sold : ByteArray := prog_10_method_66_code
def yX8_sold : MethodName := ⟨RX8, "sold", "(III)I"⟩
abbrev cX8_law : ByteArray := prog_10_method_67_code
def yX8_law : MethodName := ⟨RX8, "law", "(IIII)I"⟩
abbrev cX8_claim : ByteArray := prog_10_method_68_code
def yX8_claim : MethodName := ⟨RX8, "claim", "()I"⟩
abbrev cX8_tellsCount : ByteArray := prog_10_method_69_code
def yX8_tellsCount : MethodName := ⟨RX8, "tellsCount", "(I)I"⟩
abbrev cX8_count : ByteArray := prog_10_method_70_code
def yX8_count : MethodName := ⟨RX8, "count", "(I)I"⟩
abbrev cX8_digest : ByteArray := prog_10_method_71_code
def yX8_digest : MethodName := ⟨RX8, "digest", "()J"⟩
def RJ9 : String := "java/lang/Math"
def TJ9 : u_T := fun k => match k with
  | _ => ("", "", "", false)
def tyJ9 : Nat → FieldType := fun k => match k with
  | _ => .int
abbrev wsJ90 : List Cond := u_ws RJ9 TJ9 0
theorem nmJ9 : ∀ a, a < 0 → ∀ b, b < 0 → a ≠ b → (TJ9 a).2.1 ≠ (TJ9 b).2.1 := by decide +kernel
theorem tyJ9_ok : ∀ k, k < 0 → parseFieldDescriptor (TJ9 k).2.2.1 = some (tyJ9 k) := by decide +kernel
abbrev cJ9_abs_0f7a4 : ByteArray := prog_11_method_59_code
def yJ9_abs_0f7a4 : MethodName := ⟨RJ9, "abs", "(I)I"⟩
abbrev cJ9_max_7cf53 : ByteArray := prog_11_method_65_code
def yJ9_max_7cf53 : MethodName := ⟨RJ9, "max", "(II)I"⟩
abbrev cJ9_max_f86c9 : ByteArray := prog_11_method_66_code
def yJ9_max_f86c9 : MethodName := ⟨RJ9, "max", "(JJ)J"⟩
abbrev cJ9_min_7cf53 : ByteArray := prog_11_method_69_code
def yJ9_min_7cf53 : MethodName := ⟨RJ9, "min", "(II)I"⟩
def RJ10 : String := "java/lang/System"
def TJ10 : u_T := fun k => match k with
  | _ => ("", "", "", false)
def tyJ10 : Nat → FieldType := fun k => match k with
  | _ => .int
abbrev wsJ100 : List Cond := u_ws RJ10 TJ10 0
theorem nmJ10 : ∀ a, a < 0 → ∀ b, b < 0 → a ≠ b → (TJ10 a).2.1 ≠ (TJ10 b).2.1 := by decide +kernel
theorem tyJ10_ok : ∀ k, k < 0 → parseFieldDescriptor (TJ10 k).2.2.1 = some (tyJ10 k) := by decide +kernel
def RL : String := "PictureCourtLaw"
abbrev cL_law : ByteArray := code
def yL_law : MethodName := ⟨RL, "law", "([I)Z"⟩
def wsX0_init : List Cond := .code yX0_init cX0_init 1 none :: ([.methodLink RX0 3 objectInit, .instanceMethod objectInit, .code objectInit ⟨#[0xb1]⟩ 1 none, .arrayClass .int, .fieldLink RX0 9 "PictureCourt$Contract" "lawDays" "[I", .fieldLink RX0 15 "PictureCourt$Contract" "limits" "[I", .fieldLink RX0 18 "PictureCourt$Contract" "bounds" "[I", .fieldLink RX0 21 "PictureCourt$Contract" "rates" "[I", .fieldLink RX0 24 "PictureCourt$Contract" "saleDay" "I", .fieldLink RX0 28 "PictureCourt$Contract" "price" "I", .fieldLink RX0 31 "PictureCourt$Contract" "hand" "I", .fieldLink RX0 34 "PictureCourt$Contract" "laws" "I"] ++ wsX00)
def wsX0_isFull : List Cond := .code yX0_isFull cX0_isFull 1 (some .boolean) :: ([.fieldLink RX0 34 "PictureCourt$Contract" "laws" "I"] ++ wsX00)
def wsX0_addLaw : List Cond := .code yX0_addLaw cX0_addLaw 5 (some .int) :: ([.fieldLink RX0 9 "PictureCourt$Contract" "lawDays" "[I", .fieldLink RX0 34 "PictureCourt$Contract" "laws" "I", .fieldLink RX0 15 "PictureCourt$Contract" "limits" "[I", .fieldLink RX0 18 "PictureCourt$Contract" "bounds" "[I", .fieldLink RX0 21 "PictureCourt$Contract" "rates" "[I"] ++ wsX00)
def wsX0_sell : List Cond := .code yX0_sell cX0_sell 4 none :: ([.fieldLink RX0 24 "PictureCourt$Contract" "saleDay" "I", .fieldLink RX0 28 "PictureCourt$Contract" "price" "I", .fieldLink RX0 31 "PictureCourt$Contract" "hand" "I"] ++ wsX00)
def wsX0_lawInForce : List Cond := .code yX0_lawInForce cX0_lawInForce 4 (some .int) :: ([.fieldLink RX0 34 "PictureCourt$Contract" "laws" "I", .fieldLink RX0 9 "PictureCourt$Contract" "lawDays" "[I", .fieldLink RX0 24 "PictureCourt$Contract" "saleDay" "I"] ++ wsX00)
def wsX0_isTooLate : List Cond := .code yX0_isTooLate cX0_isTooLate 3 (some .boolean) :: ([.fieldLink RX0 24 "PictureCourt$Contract" "saleDay" "I", .fieldLink RX0 15 "PictureCourt$Contract" "limits" "[I"] ++ wsX00)
def wsX0_isBelow : List Cond := .code yX0_isBelow cX0_isBelow 6 (some .boolean) :: ([.constantLong RX0 37 (100), .fieldLink RX0 18 "PictureCourt$Contract" "bounds" "[I"] ++ wsX00)
def wsX0_paidBack : List Cond := .code yX0_paidBack cX0_paidBack 5 (some .int) :: ([.fieldLink RX0 28 "PictureCourt$Contract" "price" "I", .fieldLink RX0 21 "PictureCourt$Contract" "rates" "[I", .fieldLink RX0 24 "PictureCourt$Contract" "saleDay" "I", .constantLong RX0 39 (36500)] ++ wsX00)
def wsX1_init : List Cond := .code yX1_init cX1_init 1 none :: ([.methodLink RX1 3 objectInit, .instanceMethod objectInit, .code objectInit ⟨#[0xb1]⟩ 1 none, .arrayClass .int, .fieldLink RX1 9 "PictureCourt$Known" "numbers" "[I", .fieldLink RX1 15 "PictureCourt$Known" "froms" "[I", .fieldLink RX1 18 "PictureCourt$Known" "tos" "[I", .fieldLink RX1 21 "PictureCourt$Known" "weights" "[I", .fieldLink RX1 24 "PictureCourt$Known" "size" "I"] ++ wsX10)
def wsX1_add : List Cond := .code yX1_add cX1_add 5 none :: ([.fieldLink RX1 9 "PictureCourt$Known" "numbers" "[I", .fieldLink RX1 24 "PictureCourt$Known" "size" "I", .fieldLink RX1 15 "PictureCourt$Known" "froms" "[I", .fieldLink RX1 18 "PictureCourt$Known" "tos" "[I", .fieldLink RX1 21 "PictureCourt$Known" "weights" "[I"] ++ wsX10)
def wsX1_firstCommonYear : List Cond := .code yX1_firstCommonYear cX1_firstCommonYear 3 (some .int) :: ([.fieldLink RX1 24 "PictureCourt$Known" "size" "I", .fieldLink RX1 15 "PictureCourt$Known" "froms" "[I", .methodLink RX1 28 Lib.Math.max.name, .static Lib.Math.max.name, .initialized "java/lang/Math", .code Lib.Math.max.name Lib.Math.max.code 2 (some .int)] ++ wsX10)
def wsX1_lastCommonYear : List Cond := .code yX1_lastCommonYear cX1_lastCommonYear 3 (some .int) :: ([.fieldLink RX1 24 "PictureCourt$Known" "size" "I", .fieldLink RX1 18 "PictureCourt$Known" "tos" "[I", .methodLink RX1 34 Lib.Math.min.name, .static Lib.Math.min.name, .initialized "java/lang/Math", .code Lib.Math.min.name Lib.Math.min.code 2 (some .int)] ++ wsX10)
def wsX1_opponentAfter : List Cond := .code yX1_opponentAfter cX1_opponentAfter 3 (some .int) :: ([.fieldLink RX1 24 "PictureCourt$Known" "size" "I", .fieldLink RX1 15 "PictureCourt$Known" "froms" "[I", .fieldLink RX1 18 "PictureCourt$Known" "tos" "[I"] ++ wsX10)
def wsX1_holds : List Cond := .code yX1_holds cX1_holds 3 (some .boolean) :: ([.fieldLink RX1 15 "PictureCourt$Known" "froms" "[I", .fieldLink RX1 18 "PictureCourt$Known" "tos" "[I"] ++ wsX10)
def wsX1_weightOn : List Cond := .code yX1_weightOn cX1_weightOn 4 (some .int) :: ([.fieldLink RX1 24 "PictureCourt$Known" "size" "I", .fieldLink RX1 21 "PictureCourt$Known" "weights" "[I", .methodLink RX1 41 yX1_holds, .instanceMethod yX1_holds, .selects RX1 yX1_holds yX1_holds, .initialized RX1, .code yX1_holds cX1_holds 3 (some .boolean), .fieldLink RX1 15 "PictureCourt$Known" "froms" "[I", .fieldLink RX1 18 "PictureCourt$Known" "tos" "[I"] ++ wsX10)
def wsX1_heaviestYear : List Cond := .code yX1_heaviestYear cX1_heaviestYear 5 (some .int) :: ([.fieldLink RX1 24 "PictureCourt$Known" "size" "I", .fieldLink RX1 15 "PictureCourt$Known" "froms" "[I", .methodLink RX1 37 yX1_weightOn, .instanceMethod yX1_weightOn, .selects RX1 yX1_weightOn yX1_weightOn, .initialized RX1, .code yX1_weightOn cX1_weightOn 4 (some .int), .fieldLink RX1 21 "PictureCourt$Known" "weights" "[I", .methodLink RX1 41 yX1_holds, .instanceMethod yX1_holds, .selects RX1 yX1_holds yX1_holds, .code yX1_holds cX1_holds 3 (some .boolean), .fieldLink RX1 18 "PictureCourt$Known" "tos" "[I"] ++ wsX10)
def wsX1_weightOfAll : List Cond := .code yX1_weightOfAll cX1_weightOfAll 3 (some .int) :: ([.fieldLink RX1 24 "PictureCourt$Known" "size" "I", .fieldLink RX1 21 "PictureCourt$Known" "weights" "[I"] ++ wsX10)
def wsX1_setWithout : List Cond := .code yX1_setWithout cX1_setWithout 4 (some .int) :: ([.fieldLink RX1 24 "PictureCourt$Known" "size" "I", .fieldLink RX1 9 "PictureCourt$Known" "numbers" "[I", .methodLink RX1 41 yX1_holds, .instanceMethod yX1_holds, .selects RX1 yX1_holds yX1_holds, .initialized RX1, .code yX1_holds cX1_holds 3 (some .boolean), .fieldLink RX1 15 "PictureCourt$Known" "froms" "[I", .fieldLink RX1 18 "PictureCourt$Known" "tos" "[I"] ++ wsX10)
def wsX2_init : List Cond := .code yX2_init cX2_init 2 none :: ([.methodLink RX2 3 objectInit, .instanceMethod objectInit, .code objectInit ⟨#[0xb1]⟩ 1 none, .arrayClass .int, .fieldLink RX2 9 "PictureCourt$Odds" "handWeights" "[I", .fieldLink RX2 15 "PictureCourt$Odds" "costs" "[I", .fieldLink RX2 18 "PictureCourt$Odds" "wounds" "[I", .fieldLink RX2 21 "PictureCourt$Odds" "groups" "[I", .fieldLink RX2 24 "PictureCourt$Odds" "oftens" "[I", .fieldLink RX2 27 "PictureCourt$Odds" "results" "[I", .arrayClass .boolean, .fieldLink RX2 30 "PictureCourt$Odds" "counts" "[Z", .fieldLink RX2 34 "PictureCourt$Odds" "groupsDone" "[Z", .fieldLink RX2 37 "PictureCourt$Odds" "size" "I", .fieldLink RX2 41 "PictureCourt$Odds" "finished" "I"] ++ wsX20)
def wsX2_isFull : List Cond := .code yX2_isFull cX2_isFull 1 (some .boolean) :: ([.fieldLink RX2 37 "PictureCourt$Odds" "size" "I"] ++ wsX20)
def wsX2_has : List Cond := .code yX2_has cX2_has 2 (some .boolean) :: ([.fieldLink RX2 37 "PictureCourt$Odds" "size" "I"] ++ wsX20)
def wsX2_swapWeight : List Cond := .code yX2_swapWeight cX2_swapWeight 4 (some .int) :: ([.fieldLink RX2 9 "PictureCourt$Odds" "handWeights" "[I"] ++ wsX20)
def wsX2_add : List Cond := .code yX2_add cX2_add 5 (some .int) :: ([.fieldLink RX2 15 "PictureCourt$Odds" "costs" "[I", .fieldLink RX2 37 "PictureCourt$Odds" "size" "I", .fieldLink RX2 18 "PictureCourt$Odds" "wounds" "[I", .fieldLink RX2 21 "PictureCourt$Odds" "groups" "[I", .fieldLink RX2 27 "PictureCourt$Odds" "results" "[I", .fieldLink RX2 24 "PictureCourt$Odds" "oftens" "[I"] ++ wsX20)
def wsX2_swapOften : List Cond := .code yX2_swapOften cX2_swapOften 5 (some .int) :: ([.fieldLink RX2 24 "PictureCourt$Odds" "oftens" "[I"] ++ wsX20)
def wsX2_isDone : List Cond := .code yX2_isDone cX2_isDone 2 (some .boolean) :: ([.fieldLink RX2 27 "PictureCourt$Odds" "results" "[I"] ++ wsX20)
def wsX2_isGroupDone : List Cond := .code yX2_isGroupDone cX2_isGroupDone 2 (some .boolean) :: ([.fieldLink RX2 21 "PictureCourt$Odds" "groups" "[I", .fieldLink RX2 34 "PictureCourt$Odds" "groupsDone" "[Z"] ++ wsX20)
def wsX2_isOpen : List Cond := .code yX2_isOpen cX2_isOpen 2 (some .boolean) :: ([.methodLink RX2 44 yX2_isDone, .instanceMethod yX2_isDone, .selects RX2 yX2_isDone yX2_isDone, .initialized RX2, .code yX2_isDone cX2_isDone 2 (some .boolean), .fieldLink RX2 27 "PictureCourt$Odds" "results" "[I", .methodLink RX2 48 yX2_isGroupDone, .instanceMethod yX2_isGroupDone, .selects RX2 yX2_isGroupDone yX2_isGroupDone, .code yX2_isGroupDone cX2_isGroupDone 2 (some .boolean), .fieldLink RX2 21 "PictureCourt$Odds" "groups" "[I", .fieldLink RX2 34 "PictureCourt$Odds" "groupsDone" "[Z"] ++ wsX20)
def wsX2_finish : List Cond := .code yX2_finish cX2_finish 3 (some .boolean) :: ([.fieldLink RX2 30 "PictureCourt$Odds" "counts" "[Z", .fieldLink RX2 27 "PictureCourt$Odds" "results" "[I", .fieldLink RX2 21 "PictureCourt$Odds" "groups" "[I", .fieldLink RX2 34 "PictureCourt$Odds" "groupsDone" "[Z", .fieldLink RX2 41 "PictureCourt$Odds" "finished" "I", .methodLink RX2 48 yX2_isGroupDone, .instanceMethod yX2_isGroupDone, .selects RX2 yX2_isGroupDone yX2_isGroupDone, .initialized RX2, .code yX2_isGroupDone cX2_isGroupDone 2 (some .boolean)] ++ wsX20)
def wsX2_score : List Cond := .code yX2_score cX2_score 6 (some .long) :: ([.fieldLink RX2 9 "PictureCourt$Odds" "handWeights" "[I", .fieldLink RX2 37 "PictureCourt$Odds" "size" "I", .fieldLink RX2 30 "PictureCourt$Odds" "counts" "[Z", .fieldLink RX2 24 "PictureCourt$Odds" "oftens" "[I", .fieldLink RX2 27 "PictureCourt$Odds" "results" "[I"] ++ wsX20)
def wsX2_scoreOfAll : List Cond := .code yX2_scoreOfAll cX2_scoreOfAll 4 (some .long) :: ([.methodLink RX2 51 yX2_score, .instanceMethod yX2_score, .selects RX2 yX2_score yX2_score, .initialized RX2, .code yX2_score cX2_score 6 (some .long), .fieldLink RX2 9 "PictureCourt$Odds" "handWeights" "[I", .fieldLink RX2 37 "PictureCourt$Odds" "size" "I", .fieldLink RX2 30 "PictureCourt$Odds" "counts" "[Z", .fieldLink RX2 24 "PictureCourt$Odds" "oftens" "[I", .fieldLink RX2 27 "PictureCourt$Odds" "results" "[I"] ++ wsX20)
def wsX2_likeliest : List Cond := .code yX2_likeliest cX2_likeliest 3 (some .int) :: ([.methodLink RX2 51 yX2_score, .instanceMethod yX2_score, .selects RX2 yX2_score yX2_score, .initialized RX2, .code yX2_score cX2_score 6 (some .long), .fieldLink RX2 9 "PictureCourt$Odds" "handWeights" "[I", .fieldLink RX2 37 "PictureCourt$Odds" "size" "I", .fieldLink RX2 30 "PictureCourt$Odds" "counts" "[Z", .fieldLink RX2 24 "PictureCourt$Odds" "oftens" "[I", .fieldLink RX2 27 "PictureCourt$Odds" "results" "[I"] ++ wsX20)
def wsX2_gainOf : List Cond := .code yX2_gainOf cX2_gainOf 12 (some .long) :: ([.fieldLink RX2 24 "PictureCourt$Odds" "oftens" "[I", .methodLink RX2 55 Lib.MathLoose.max_long.x, .static Lib.MathLoose.max_long.x, .initialized "java/lang/Math", .code Lib.MathLoose.max_long.x Lib.MathLoose.max_long.code 4 (some .long), .constantLong RX2 61 (16), .methodLink RX2 51 yX2_score, .instanceMethod yX2_score, .selects RX2 yX2_score yX2_score, .initialized RX2, .code yX2_score cX2_score 6 (some .long), .fieldLink RX2 9 "PictureCourt$Odds" "handWeights" "[I", .fieldLink RX2 37 "PictureCourt$Odds" "size" "I", .fieldLink RX2 30 "PictureCourt$Odds" "counts" "[Z", .fieldLink RX2 27 "PictureCourt$Odds" "results" "[I"] ++ wsX20)
def wsX2_best_r1 : List Cond := [Cond.fieldLink RX2 37 "PictureCourt$Odds" "size" "I", Cond.fieldLink RX2 15 "PictureCourt$Odds" "costs" "[I", Cond.fieldLink RX2 18 "PictureCourt$Odds" "wounds" "[I", Cond.methodLink RX2 63 yX2_isOpen, Cond.instanceMethod yX2_isOpen, Cond.selects RX2 yX2_isOpen yX2_isOpen, Cond.initialized RX2, Cond.code yX2_isOpen cX2_isOpen 2 (some .boolean), Cond.methodLink RX2 44 yX2_isDone, Cond.instanceMethod yX2_isDone, Cond.selects RX2 yX2_isDone yX2_isDone, Cond.code yX2_isDone cX2_isDone 2 (some .boolean), Cond.fieldLink RX2 27 "PictureCourt$Odds" "results" "[I", Cond.methodLink RX2 48 yX2_isGroupDone, Cond.instanceMethod yX2_isGroupDone, Cond.selects RX2 yX2_isGroupDone yX2_isGroupDone, Cond.code yX2_isGroupDone cX2_isGroupDone 2 (some .boolean), Cond.fieldLink RX2 21 "PictureCourt$Odds" "groups" "[I", Cond.fieldLink RX2 34 "PictureCourt$Odds" "groupsDone" "[Z", Cond.methodLink RX2 66 yX2_gainOf, Cond.instanceMethod yX2_gainOf, Cond.selects RX2 yX2_gainOf yX2_gainOf, Cond.code yX2_gainOf cX2_gainOf 12 (some .long), Cond.fieldLink RX2 24 "PictureCourt$Odds" "oftens" "[I"]
def wsX2_best_r2 : List Cond := [Cond.methodLink RX2 55 Lib.MathLoose.max_long.x, Cond.static Lib.MathLoose.max_long.x, Cond.initialized "java/lang/Math", Cond.code Lib.MathLoose.max_long.x Lib.MathLoose.max_long.code 4 (some .long), Cond.constantLong RX2 61 (16), Cond.methodLink RX2 51 yX2_score, Cond.instanceMethod yX2_score, Cond.selects RX2 yX2_score yX2_score, Cond.code yX2_score cX2_score 6 (some .long), Cond.fieldLink RX2 9 "PictureCourt$Odds" "handWeights" "[I", Cond.fieldLink RX2 30 "PictureCourt$Odds" "counts" "[Z"]
def wsX2_best : List Cond := .code yX2_best cX2_best 9 (some .int) :: ((wsX2_best_r1 ++ wsX2_best_r2) ++ wsX20)
def wsX2_mixInto : List Cond := .code yX2_mixInto cX2_mixInto 5 (some .long) :: ([.constantLong RX2 69 (31), .fieldLink RX2 9 "PictureCourt$Odds" "handWeights" "[I", .fieldLink RX2 37 "PictureCourt$Odds" "size" "I", .fieldLink RX2 15 "PictureCourt$Odds" "costs" "[I", .fieldLink RX2 18 "PictureCourt$Odds" "wounds" "[I", .fieldLink RX2 21 "PictureCourt$Odds" "groups" "[I", .fieldLink RX2 24 "PictureCourt$Odds" "oftens" "[I", .fieldLink RX2 27 "PictureCourt$Odds" "results" "[I"] ++ wsX20)
def wsX3_init : List Cond := .code yX3_init cX3_init 1 none :: ([.methodLink RX3 3 objectInit, .instanceMethod objectInit, .code objectInit ⟨#[0xb1]⟩ 1 none, .arrayClass .int, .fieldLink RX3 9 "PictureCourt$Opinions" "experts" "[I", .fieldLink RX3 15 "PictureCourt$Opinions" "hands" "[I", .fieldLink RX3 18 "PictureCourt$Opinions" "sures" "[I", .arrayClass .boolean, .fieldLink RX3 21 "PictureCourt$Opinions" "knews" "[Z", .fieldLink RX3 25 "PictureCourt$Opinions" "size" "I", .fieldLink RX3 29 "PictureCourt$Opinions" "widest" "I", .fieldLink RX3 32 "PictureCourt$Opinions" "widestExpert" "I"] ++ wsX30)
def wsX3_isFull : List Cond := .code yX3_isFull cX3_isFull 1 (some .boolean) :: ([.fieldLink RX3 25 "PictureCourt$Opinions" "size" "I"] ++ wsX30)
def wsX3_add : List Cond := .code yX3_add cX3_add 5 (some .int) :: ([.fieldLink RX3 9 "PictureCourt$Opinions" "experts" "[I", .fieldLink RX3 25 "PictureCourt$Opinions" "size" "I", .fieldLink RX3 15 "PictureCourt$Opinions" "hands" "[I", .fieldLink RX3 18 "PictureCourt$Opinions" "sures" "[I", .fieldLink RX3 21 "PictureCourt$Opinions" "knews" "[Z"] ++ wsX30)
def wsX3_howMany : List Cond := .code yX3_howMany cX3_howMany 5 (some .int) :: ([.fieldLink RX3 25 "PictureCourt$Opinions" "size" "I", .fieldLink RX3 15 "PictureCourt$Opinions" "hands" "[I", .fieldLink RX3 21 "PictureCourt$Opinions" "knews" "[Z"] ++ wsX30)
def wsX3_sumOf : List Cond := .code yX3_sumOf cX3_sumOf 5 (some .int) :: ([.fieldLink RX3 25 "PictureCourt$Opinions" "size" "I", .fieldLink RX3 15 "PictureCourt$Opinions" "hands" "[I", .fieldLink RX3 21 "PictureCourt$Opinions" "knews" "[Z", .fieldLink RX3 18 "PictureCourt$Opinions" "sures" "[I"] ++ wsX30)
def wsX3_areComparable : List Cond := .code yX3_areComparable cX3_areComparable 3 (some .boolean) :: ([.fieldLink RX3 21 "PictureCourt$Opinions" "knews" "[Z", .fieldLink RX3 9 "PictureCourt$Opinions" "experts" "[I", .fieldLink RX3 15 "PictureCourt$Opinions" "hands" "[I"] ++ wsX30)
def wsX3_weighPair : List Cond := .code yX3_weighPair cX3_weighPair 3 none :: ([.fieldLink RX3 29 "PictureCourt$Opinions" "widest" "I", .fieldLink RX3 32 "PictureCourt$Opinions" "widestExpert" "I"] ++ wsX30)
def wsX3_findSpread : List Cond := .code yX3_findSpread cX3_findSpread 3 none :: ([.fieldLink RX3 29 "PictureCourt$Opinions" "widest" "I", .fieldLink RX3 32 "PictureCourt$Opinions" "widestExpert" "I", .fieldLink RX3 25 "PictureCourt$Opinions" "size" "I", .fieldLink RX3 9 "PictureCourt$Opinions" "experts" "[I", .fieldLink RX3 18 "PictureCourt$Opinions" "sures" "[I", .methodLink RX3 39 Lib.Math.abs.name, .static Lib.Math.abs.name, .initialized "java/lang/Math", .code Lib.Math.abs.name Lib.Math.abs.code 1 (some .int), .methodLink RX3 35 yX3_areComparable, .instanceMethod yX3_areComparable, .selects RX3 yX3_areComparable yX3_areComparable, .initialized RX3, .code yX3_areComparable cX3_areComparable 3 (some .boolean), .fieldLink RX3 21 "PictureCourt$Opinions" "knews" "[Z", .fieldLink RX3 15 "PictureCourt$Opinions" "hands" "[I", .methodLink RX3 45 yX3_weighPair, .instanceMethod yX3_weighPair, .selects RX3 yX3_weighPair yX3_weighPair, .code yX3_weighPair cX3_weighPair 3 none] ++ wsX30)
def wsX4_init : List Cond := .code yX4_init cX4_init 1 none :: ([.methodLink RX4 3 objectInit, .instanceMethod objectInit, .code objectInit ⟨#[0xb1]⟩ 1 none, .arrayClass .int, .fieldLink RX4 9 "PictureCourt$Owners" "froms" "[I", .fieldLink RX4 15 "PictureCourt$Owners" "tos" "[I", .fieldLink RX4 18 "PictureCourt$Owners" "size" "I", .fieldLink RX4 22 "PictureCourt$Owners" "gapYears" "I", .fieldLink RX4 25 "PictureCourt$Owners" "longestGap" "I"] ++ wsX40)
def wsX4_isFull : List Cond := .code yX4_isFull cX4_isFull 1 (some .boolean) :: ([.fieldLink RX4 18 "PictureCourt$Owners" "size" "I"] ++ wsX40)
def wsX4_add : List Cond := .code yX4_add cX4_add 4 (some .int) :: ([.fieldLink RX4 18 "PictureCourt$Owners" "size" "I", .fieldLink RX4 9 "PictureCourt$Owners" "froms" "[I", .fieldLink RX4 15 "PictureCourt$Owners" "tos" "[I"] ++ wsX40)
def wsX4_addGap : List Cond := .code yX4_addGap cX4_addGap 2 none :: ([.fieldLink RX4 22 "PictureCourt$Owners" "gapYears" "I", .fieldLink RX4 25 "PictureCourt$Owners" "longestGap" "I", .methodLink RX4 38 Lib.Math.max.name, .static Lib.Math.max.name, .initialized "java/lang/Math", .code Lib.Math.max.name Lib.Math.max.code 2 (some .int)] ++ wsX40)
def wsX4_findGaps : List Cond := .code yX4_findGaps cX4_findGaps 5 none :: ([.fieldLink RX4 22 "PictureCourt$Owners" "gapYears" "I", .fieldLink RX4 25 "PictureCourt$Owners" "longestGap" "I", .fieldLink RX4 18 "PictureCourt$Owners" "size" "I", .fieldLink RX4 9 "PictureCourt$Owners" "froms" "[I", .methodLink RX4 28 Lib.Math.min.name, .static Lib.Math.min.name, .initialized "java/lang/Math", .code Lib.Math.min.name Lib.Math.min.code 2 (some .int), .fieldLink RX4 15 "PictureCourt$Owners" "tos" "[I", .methodLink RX4 38 Lib.Math.max.name, .static Lib.Math.max.name, .code Lib.Math.max.name Lib.Math.max.code 2 (some .int), .methodLink RX4 34 yX4_addGap, .instanceMethod yX4_addGap, .selects RX4 yX4_addGap yX4_addGap, .initialized RX4, .code yX4_addGap cX4_addGap 2 none] ++ wsX40)
def wsX6_init : List Cond := .code yX6_init cX6_init 2 none :: ([.methodLink RX6 3 objectInit, .instanceMethod objectInit, .code objectInit ⟨#[0xb1]⟩ 1 none, .arrayClass .int, .fieldLink RX6 9 "PictureCourt$Rows" "sizes" "[I", .arrayClass .byte, .fieldLink RX6 15 "PictureCourt$Rows" "bytes" "[B"] ++ wsX60)
def wsX5_init_r1 : List Cond := [Cond.methodLink RX5 3 objectInit, Cond.instanceMethod objectInit, Cond.code objectInit ⟨#[0xb1]⟩ 1 none, Cond.classLink RX5 9 RX6, Cond.instantiable RX6 2, Cond.initialized RX6, Cond.fieldLink RX5 12 "PictureCourt$Proofs" "rows" "LPictureCourt$Rows;", Cond.arrayClass .int, Cond.fieldLink RX5 18 "PictureCourt$Proofs" "paintYears" "[I", Cond.fieldLink RX5 22 "PictureCourt$Proofs" "kinds" "[I", Cond.fieldLink RX5 25 "PictureCourt$Proofs" "weights" "[I", Cond.fieldLink RX5 28 "PictureCourt$Proofs" "toldDays" "[I", Cond.fieldLink RX5 31 "PictureCourt$Proofs" "struckDays" "[I", Cond.fieldLink RX5 34 "PictureCourt$Proofs" "subjects" "[I", Cond.fieldLink RX5 37 "PictureCourt$Proofs" "otherRows" "[I", Cond.fieldLink RX5 40 "PictureCourt$Proofs" "froms" "[I", Cond.fieldLink RX5 43 "PictureCourt$Proofs" "tos" "[I", Cond.fieldLink RX5 46 "PictureCourt$Proofs" "leastSap" "I", Cond.fieldLink RX5 50 "PictureCourt$Proofs" "mostSap" "I", Cond.fieldLink RX5 53 "PictureCourt$Proofs" "yearsToUse" "I", Cond.fieldLink RX5 56 "PictureCourt$Proofs" "size" "I", Cond.fieldLink RX5 59 "PictureCourt$Proofs" "struck" "I", Cond.methodLink RX5 11 yX6_init, Cond.instanceMethod yX6_init]
def wsX5_init_r2 : List Cond := [Cond.code yX6_init cX6_init 2 none, Cond.methodLink RX6 3 objectInit, Cond.fieldLink RX6 9 "PictureCourt$Rows" "sizes" "[I", Cond.arrayClass .byte, Cond.fieldLink RX6 15 "PictureCourt$Rows" "bytes" "[B"]
def wsX5_init : List Cond := .code yX5_init cX5_init 2 none :: ((wsX5_init_r1 ++ wsX5_init_r2) ++ wsX60 ++ wsX50)
def wsX5_isFull : List Cond := .code yX5_isFull cX5_isFull 1 (some .boolean) :: ([.fieldLink RX5 56 "PictureCourt$Proofs" "size" "I"] ++ wsX50)
def wsX5_has : List Cond := .code yX5_has cX5_has 2 (some .boolean) :: ([.fieldLink RX5 56 "PictureCourt$Proofs" "size" "I"] ++ wsX50)
def wsX5_swapPaintYear : List Cond := .code yX5_swapPaintYear cX5_swapPaintYear 4 (some .int) :: ([.fieldLink RX5 18 "PictureCourt$Proofs" "paintYears" "[I"] ++ wsX50)
def wsX5_setSap : List Cond := .code yX5_setSap cX5_setSap 4 none :: ([.fieldLink RX5 46 "PictureCourt$Proofs" "leastSap" "I", .fieldLink RX5 50 "PictureCourt$Proofs" "mostSap" "I", .fieldLink RX5 53 "PictureCourt$Proofs" "yearsToUse" "I"] ++ wsX50)
def wsX5_add : List Cond := .code yX5_add cX5_add 4 (some .int) :: ([.fieldLink RX5 22 "PictureCourt$Proofs" "kinds" "[I", .fieldLink RX5 56 "PictureCourt$Proofs" "size" "I", .fieldLink RX5 25 "PictureCourt$Proofs" "weights" "[I", .fieldLink RX5 28 "PictureCourt$Proofs" "toldDays" "[I", .fieldLink RX5 31 "PictureCourt$Proofs" "struckDays" "[I"] ++ wsX50)
def wsX5_addYears : List Cond := .code yX5_addYears cX5_addYears 5 (some .int) :: ([.fieldLink RX5 40 "PictureCourt$Proofs" "froms" "[I", .fieldLink RX5 56 "PictureCourt$Proofs" "size" "I", .fieldLink RX5 43 "PictureCourt$Proofs" "tos" "[I", .methodLink RX5 62 yX5_add, .instanceMethod yX5_add, .selects RX5 yX5_add yX5_add, .initialized RX5, .code yX5_add cX5_add 4 (some .int), .fieldLink RX5 22 "PictureCourt$Proofs" "kinds" "[I", .fieldLink RX5 25 "PictureCourt$Proofs" "weights" "[I", .fieldLink RX5 28 "PictureCourt$Proofs" "toldDays" "[I", .fieldLink RX5 31 "PictureCourt$Proofs" "struckDays" "[I"] ++ wsX50)
def wsX5_addPaint : List Cond := .code yX5_addPaint cX5_addPaint 4 (some .int) :: ([.fieldLink RX5 34 "PictureCourt$Proofs" "subjects" "[I", .fieldLink RX5 56 "PictureCourt$Proofs" "size" "I", .methodLink RX5 62 yX5_add, .instanceMethod yX5_add, .selects RX5 yX5_add yX5_add, .initialized RX5, .code yX5_add cX5_add 4 (some .int), .fieldLink RX5 22 "PictureCourt$Proofs" "kinds" "[I", .fieldLink RX5 25 "PictureCourt$Proofs" "weights" "[I", .fieldLink RX5 28 "PictureCourt$Proofs" "toldDays" "[I", .fieldLink RX5 31 "PictureCourt$Proofs" "struckDays" "[I"] ++ wsX50)
def wsX5_addRings : List Cond := .code yX5_addRings cX5_addRings 5 (some .int) :: ([.fieldLink RX5 40 "PictureCourt$Proofs" "froms" "[I", .fieldLink RX5 56 "PictureCourt$Proofs" "size" "I", .fieldLink RX5 34 "PictureCourt$Proofs" "subjects" "[I", .methodLink RX5 62 yX5_add, .instanceMethod yX5_add, .selects RX5 yX5_add yX5_add, .initialized RX5, .code yX5_add cX5_add 4 (some .int), .fieldLink RX5 22 "PictureCourt$Proofs" "kinds" "[I", .fieldLink RX5 25 "PictureCourt$Proofs" "weights" "[I", .fieldLink RX5 28 "PictureCourt$Proofs" "toldDays" "[I", .fieldLink RX5 31 "PictureCourt$Proofs" "struckDays" "[I"] ++ wsX50)
def wsX5_addThreads : List Cond := .code yX5_addThreads cX5_addThreads 7 (some .int) :: ([.fieldLink RX5 34 "PictureCourt$Proofs" "subjects" "[I", .fieldLink RX5 56 "PictureCourt$Proofs" "size" "I", .fieldLink RX5 37 "PictureCourt$Proofs" "otherRows" "[I", .fieldLink RX5 40 "PictureCourt$Proofs" "froms" "[I", .fieldLink RX5 43 "PictureCourt$Proofs" "tos" "[I", .methodLink RX5 62 yX5_add, .instanceMethod yX5_add, .selects RX5 yX5_add yX5_add, .initialized RX5, .code yX5_add cX5_add 4 (some .int), .fieldLink RX5 22 "PictureCourt$Proofs" "kinds" "[I", .fieldLink RX5 25 "PictureCourt$Proofs" "weights" "[I", .fieldLink RX5 28 "PictureCourt$Proofs" "toldDays" "[I", .fieldLink RX5 31 "PictureCourt$Proofs" "struckDays" "[I"] ++ wsX50)
def wsX5_isStruck : List Cond := .code yX5_isStruck cX5_isStruck 2 (some .boolean) :: ([.fieldLink RX5 31 "PictureCourt$Proofs" "struckDays" "[I"] ++ wsX50)
def wsX5_strikeOn : List Cond := .code yX5_strikeOn cX5_strikeOn 3 none :: ([.fieldLink RX5 31 "PictureCourt$Proofs" "struckDays" "[I", .fieldLink RX5 59 "PictureCourt$Proofs" "struck" "I"] ++ wsX50)
def wsX5_lacking : List Cond := .code yX5_lacking cX5_lacking 3 (some .int) :: ([.fieldLink RX5 34 "PictureCourt$Proofs" "subjects" "[I", .methodLink RX5 77 Lib.Math.max.name, .static Lib.Math.max.name, .initialized "java/lang/Math", .code Lib.Math.max.name Lib.Math.max.code 2 (some .int)] ++ wsX50)
def wsX6_canMatch : List Cond := .code yX6_canMatch cX6_canMatch 3 (some .boolean) :: ([.fieldLink RX6 9 "PictureCourt$Rows" "sizes" "[I"] ++ wsX60)
def wsX6_offAt : List Cond := .code yX6_offAt cX6_offAt 8 (some .int) :: ([.fieldLink RX6 9 "PictureCourt$Rows" "sizes" "[I", .fieldLink RX6 15 "PictureCourt$Rows" "bytes" "[B", .methodLink RX6 29 Lib.Math.abs.name, .static Lib.Math.abs.name, .initialized "java/lang/Math", .code Lib.Math.abs.name Lib.Math.abs.code 1 (some .int)] ++ wsX60)
def wsX6_bestPlace : List Cond := .code yX6_bestPlace cX6_bestPlace 7 (some .int) :: ([.fieldLink RX6 9 "PictureCourt$Rows" "sizes" "[I", .methodLink RX6 25 yX6_offAt, .instanceMethod yX6_offAt, .selects RX6 yX6_offAt yX6_offAt, .initialized RX6, .code yX6_offAt cX6_offAt 8 (some .int), .fieldLink RX6 15 "PictureCourt$Rows" "bytes" "[B", .methodLink RX6 29 Lib.Math.abs.name, .static Lib.Math.abs.name, .initialized "java/lang/Math", .code Lib.Math.abs.name Lib.Math.abs.code 1 (some .int)] ++ wsX60)
def wsX6_isSure : List Cond := .code yX6_isSure cX6_isSure 6 (some .boolean) :: ([.methodLink RX6 35 yX6_canMatch, .instanceMethod yX6_canMatch, .selects RX6 yX6_canMatch yX6_canMatch, .initialized RX6, .code yX6_canMatch cX6_canMatch 3 (some .boolean), .fieldLink RX6 9 "PictureCourt$Rows" "sizes" "[I", .methodLink RX6 39 yX6_bestPlace, .instanceMethod yX6_bestPlace, .selects RX6 yX6_bestPlace yX6_bestPlace, .code yX6_bestPlace cX6_bestPlace 7 (some .int), .methodLink RX6 25 yX6_offAt, .instanceMethod yX6_offAt, .selects RX6 yX6_offAt yX6_offAt, .code yX6_offAt cX6_offAt 8 (some .int), .fieldLink RX6 15 "PictureCourt$Rows" "bytes" "[B", .methodLink RX6 29 Lib.Math.abs.name, .static Lib.Math.abs.name, .initialized "java/lang/Math", .code Lib.Math.abs.name Lib.Math.abs.code 1 (some .int)] ++ wsX60)
def wsX5_firstYear_r1 : List Cond := [Cond.fieldLink RX5 22 "PictureCourt$Proofs" "kinds" "[I", Cond.fieldLink RX5 18 "PictureCourt$Proofs" "paintYears" "[I", Cond.fieldLink RX5 34 "PictureCourt$Proofs" "subjects" "[I", Cond.fieldLink RX5 40 "PictureCourt$Proofs" "froms" "[I", Cond.fieldLink RX5 46 "PictureCourt$Proofs" "leastSap" "I", Cond.fieldLink RX5 12 "PictureCourt$Proofs" "rows" "LPictureCourt$Rows;", Cond.fieldLink RX5 37 "PictureCourt$Proofs" "otherRows" "[I", Cond.methodLink RX5 83 yX5_lacking, Cond.instanceMethod yX5_lacking, Cond.selects RX5 yX5_lacking yX5_lacking, Cond.initialized RX5, Cond.code yX5_lacking cX5_lacking 3 (some .int), Cond.methodLink RX5 77 Lib.Math.max.name, Cond.static Lib.Math.max.name, Cond.initialized "java/lang/Math", Cond.code Lib.Math.max.name Lib.Math.max.code 2 (some .int), Cond.methodLink RX5 73 yX6_isSure, Cond.instanceMethod yX6_isSure, Cond.selects RX6 yX6_isSure yX6_isSure, Cond.initialized RX6, Cond.code yX6_isSure cX6_isSure 6 (some .boolean), Cond.methodLink RX6 35 yX6_canMatch, Cond.instanceMethod yX6_canMatch, Cond.selects RX6 yX6_canMatch yX6_canMatch]
def wsX5_firstYear_r2 : List Cond := [Cond.code yX6_canMatch cX6_canMatch 3 (some .boolean), Cond.fieldLink RX6 9 "PictureCourt$Rows" "sizes" "[I", Cond.methodLink RX6 39 yX6_bestPlace, Cond.instanceMethod yX6_bestPlace, Cond.selects RX6 yX6_bestPlace yX6_bestPlace, Cond.code yX6_bestPlace cX6_bestPlace 7 (some .int), Cond.methodLink RX6 25 yX6_offAt, Cond.instanceMethod yX6_offAt, Cond.selects RX6 yX6_offAt yX6_offAt, Cond.code yX6_offAt cX6_offAt 8 (some .int), Cond.fieldLink RX6 15 "PictureCourt$Rows" "bytes" "[B", Cond.methodLink RX6 29 Lib.Math.abs.name, Cond.static Lib.Math.abs.name, Cond.code Lib.Math.abs.name Lib.Math.abs.code 1 (some .int)]
def wsX5_firstYear : List Cond := .code yX5_firstYear cX5_firstYear 2 (some .int) :: ((wsX5_firstYear_r1 ++ wsX5_firstYear_r2) ++ wsX50 ++ wsX60)
def wsX5_lastYear_r1 : List Cond := [Cond.fieldLink RX5 22 "PictureCourt$Proofs" "kinds" "[I", Cond.fieldLink RX5 40 "PictureCourt$Proofs" "froms" "[I", Cond.fieldLink RX5 50 "PictureCourt$Proofs" "mostSap" "I", Cond.fieldLink RX5 53 "PictureCourt$Proofs" "yearsToUse" "I", Cond.methodLink RX5 86 Lib.Math.min.name, Cond.static Lib.Math.min.name, Cond.initialized "java/lang/Math", Cond.code Lib.Math.min.name Lib.Math.min.code 2 (some .int), Cond.fieldLink RX5 12 "PictureCourt$Proofs" "rows" "LPictureCourt$Rows;", Cond.fieldLink RX5 34 "PictureCourt$Proofs" "subjects" "[I", Cond.fieldLink RX5 37 "PictureCourt$Proofs" "otherRows" "[I", Cond.fieldLink RX5 43 "PictureCourt$Proofs" "tos" "[I", Cond.methodLink RX5 83 yX5_lacking, Cond.instanceMethod yX5_lacking, Cond.selects RX5 yX5_lacking yX5_lacking, Cond.initialized RX5, Cond.code yX5_lacking cX5_lacking 3 (some .int), Cond.methodLink RX5 77 Lib.Math.max.name, Cond.static Lib.Math.max.name, Cond.code Lib.Math.max.name Lib.Math.max.code 2 (some .int), Cond.methodLink RX5 73 yX6_isSure, Cond.instanceMethod yX6_isSure, Cond.selects RX6 yX6_isSure yX6_isSure, Cond.initialized RX6]
def wsX5_lastYear_r2 : List Cond := [Cond.code yX6_isSure cX6_isSure 6 (some .boolean), Cond.methodLink RX6 35 yX6_canMatch, Cond.instanceMethod yX6_canMatch, Cond.selects RX6 yX6_canMatch yX6_canMatch, Cond.code yX6_canMatch cX6_canMatch 3 (some .boolean), Cond.fieldLink RX6 9 "PictureCourt$Rows" "sizes" "[I", Cond.methodLink RX6 39 yX6_bestPlace, Cond.instanceMethod yX6_bestPlace, Cond.selects RX6 yX6_bestPlace yX6_bestPlace, Cond.code yX6_bestPlace cX6_bestPlace 7 (some .int), Cond.methodLink RX6 25 yX6_offAt, Cond.instanceMethod yX6_offAt, Cond.selects RX6 yX6_offAt yX6_offAt, Cond.code yX6_offAt cX6_offAt 8 (some .int), Cond.fieldLink RX6 15 "PictureCourt$Rows" "bytes" "[B", Cond.methodLink RX6 29 Lib.Math.abs.name, Cond.static Lib.Math.abs.name, Cond.code Lib.Math.abs.name Lib.Math.abs.code 1 (some .int)]
def wsX5_lastYear : List Cond := .code yX5_lastYear cX5_lastYear 2 (some .int) :: ((wsX5_lastYear_r1 ++ wsX5_lastYear_r2) ++ wsX50 ++ wsX60)
def wsX5_detail_r1 : List Cond := [Cond.fieldLink RX5 22 "PictureCourt$Proofs" "kinds" "[I", Cond.fieldLink RX5 25 "PictureCourt$Proofs" "weights" "[I", Cond.fieldLink RX5 28 "PictureCourt$Proofs" "toldDays" "[I", Cond.fieldLink RX5 31 "PictureCourt$Proofs" "struckDays" "[I", Cond.methodLink RX5 66 yX5_firstYear, Cond.instanceMethod yX5_firstYear, Cond.selects RX5 yX5_firstYear yX5_firstYear, Cond.initialized RX5, Cond.code yX5_firstYear cX5_firstYear 2 (some .int), Cond.fieldLink RX5 18 "PictureCourt$Proofs" "paintYears" "[I", Cond.fieldLink RX5 34 "PictureCourt$Proofs" "subjects" "[I", Cond.fieldLink RX5 40 "PictureCourt$Proofs" "froms" "[I", Cond.fieldLink RX5 46 "PictureCourt$Proofs" "leastSap" "I", Cond.fieldLink RX5 12 "PictureCourt$Proofs" "rows" "LPictureCourt$Rows;", Cond.fieldLink RX5 37 "PictureCourt$Proofs" "otherRows" "[I", Cond.methodLink RX5 83 yX5_lacking, Cond.instanceMethod yX5_lacking, Cond.selects RX5 yX5_lacking yX5_lacking, Cond.code yX5_lacking cX5_lacking 3 (some .int), Cond.methodLink RX5 77 Lib.Math.max.name, Cond.static Lib.Math.max.name, Cond.initialized "java/lang/Math", Cond.code Lib.Math.max.name Lib.Math.max.code 2 (some .int), Cond.methodLink RX5 73 yX6_isSure]
def wsX5_detail_r2 : List Cond := [Cond.instanceMethod yX6_isSure, Cond.selects RX6 yX6_isSure yX6_isSure, Cond.initialized RX6, Cond.code yX6_isSure cX6_isSure 6 (some .boolean), Cond.methodLink RX6 35 yX6_canMatch, Cond.instanceMethod yX6_canMatch, Cond.selects RX6 yX6_canMatch yX6_canMatch, Cond.code yX6_canMatch cX6_canMatch 3 (some .boolean), Cond.fieldLink RX6 9 "PictureCourt$Rows" "sizes" "[I", Cond.methodLink RX6 39 yX6_bestPlace, Cond.instanceMethod yX6_bestPlace, Cond.selects RX6 yX6_bestPlace yX6_bestPlace, Cond.code yX6_bestPlace cX6_bestPlace 7 (some .int), Cond.methodLink RX6 25 yX6_offAt, Cond.instanceMethod yX6_offAt, Cond.selects RX6 yX6_offAt yX6_offAt, Cond.code yX6_offAt cX6_offAt 8 (some .int), Cond.fieldLink RX6 15 "PictureCourt$Rows" "bytes" "[B", Cond.methodLink RX6 29 Lib.Math.abs.name, Cond.static Lib.Math.abs.name, Cond.code Lib.Math.abs.name Lib.Math.abs.code 1 (some .int), Cond.methodLink RX5 70 yX5_lastYear, Cond.instanceMethod yX5_lastYear, Cond.selects RX5 yX5_lastYear yX5_lastYear]
def wsX5_detail_r3 : List Cond := [Cond.code yX5_lastYear cX5_lastYear 2 (some .int), Cond.fieldLink RX5 50 "PictureCourt$Proofs" "mostSap" "I", Cond.fieldLink RX5 53 "PictureCourt$Proofs" "yearsToUse" "I", Cond.methodLink RX5 86 Lib.Math.min.name, Cond.static Lib.Math.min.name, Cond.code Lib.Math.min.name Lib.Math.min.code 2 (some .int), Cond.fieldLink RX5 43 "PictureCourt$Proofs" "tos" "[I"]
def wsX5_detail : List Cond := .code yX5_detail cX5_detail 3 (some .int) :: ((wsX5_detail_r1 ++ (wsX5_detail_r2 ++ wsX5_detail_r3)) ++ wsX50 ++ wsX60)
def wsX5_isOfKind : List Cond := .code yX5_isOfKind cX5_isOfKind 3 (some .boolean) :: ([.fieldLink RX5 22 "PictureCourt$Proofs" "kinds" "[I"] ++ wsX50)
def wsX5_markAs_r1 : List Cond := [Cond.fieldLink RX5 34 "PictureCourt$Proofs" "subjects" "[I", Cond.fieldLink RX5 12 "PictureCourt$Proofs" "rows" "LPictureCourt$Rows;", Cond.fieldLink RX5 37 "PictureCourt$Proofs" "otherRows" "[I", Cond.methodLink RX5 73 yX6_isSure, Cond.instanceMethod yX6_isSure, Cond.selects RX6 yX6_isSure yX6_isSure, Cond.initialized RX6, Cond.code yX6_isSure cX6_isSure 6 (some .boolean), Cond.methodLink RX6 35 yX6_canMatch, Cond.instanceMethod yX6_canMatch, Cond.selects RX6 yX6_canMatch yX6_canMatch, Cond.code yX6_canMatch cX6_canMatch 3 (some .boolean), Cond.fieldLink RX6 9 "PictureCourt$Rows" "sizes" "[I", Cond.methodLink RX6 39 yX6_bestPlace, Cond.instanceMethod yX6_bestPlace, Cond.selects RX6 yX6_bestPlace yX6_bestPlace, Cond.code yX6_bestPlace cX6_bestPlace 7 (some .int), Cond.methodLink RX6 25 yX6_offAt, Cond.instanceMethod yX6_offAt, Cond.selects RX6 yX6_offAt yX6_offAt, Cond.code yX6_offAt cX6_offAt 8 (some .int), Cond.fieldLink RX6 15 "PictureCourt$Rows" "bytes" "[B", Cond.methodLink RX6 29 Lib.Math.abs.name, Cond.static Lib.Math.abs.name]
def wsX5_markAs_r2 : List Cond := [Cond.initialized "java/lang/Math", Cond.code Lib.Math.abs.name Lib.Math.abs.code 1 (some .int), Cond.methodLink RX5 70 yX5_lastYear, Cond.instanceMethod yX5_lastYear, Cond.selects RX5 yX5_lastYear yX5_lastYear, Cond.initialized RX5, Cond.code yX5_lastYear cX5_lastYear 2 (some .int), Cond.fieldLink RX5 22 "PictureCourt$Proofs" "kinds" "[I", Cond.fieldLink RX5 40 "PictureCourt$Proofs" "froms" "[I", Cond.fieldLink RX5 50 "PictureCourt$Proofs" "mostSap" "I", Cond.fieldLink RX5 53 "PictureCourt$Proofs" "yearsToUse" "I", Cond.methodLink RX5 86 Lib.Math.min.name, Cond.static Lib.Math.min.name, Cond.code Lib.Math.min.name Lib.Math.min.code 2 (some .int), Cond.fieldLink RX5 43 "PictureCourt$Proofs" "tos" "[I", Cond.methodLink RX5 83 yX5_lacking, Cond.instanceMethod yX5_lacking, Cond.selects RX5 yX5_lacking yX5_lacking, Cond.code yX5_lacking cX5_lacking 3 (some .int), Cond.methodLink RX5 77 Lib.Math.max.name, Cond.static Lib.Math.max.name, Cond.code Lib.Math.max.name Lib.Math.max.code 2 (some .int), Cond.methodLink RX5 66 yX5_firstYear, Cond.instanceMethod yX5_firstYear]
def wsX5_markAs_r3 : List Cond := [Cond.selects RX5 yX5_firstYear yX5_firstYear, Cond.code yX5_firstYear cX5_firstYear 2 (some .int), Cond.fieldLink RX5 18 "PictureCourt$Proofs" "paintYears" "[I", Cond.fieldLink RX5 46 "PictureCourt$Proofs" "leastSap" "I"]
def wsX5_markAs : List Cond := .code yX5_markAs cX5_markAs 3 (some .int) :: ((wsX5_markAs_r1 ++ (wsX5_markAs_r2 ++ wsX5_markAs_r3)) ++ wsX50 ++ wsX60)
def wsX5_isKnown : List Cond := .code yX5_isKnown cX5_isKnown 3 (some .boolean) :: ([.fieldLink RX5 28 "PictureCourt$Proofs" "toldDays" "[I", .fieldLink RX5 31 "PictureCourt$Proofs" "struckDays" "[I", .methodLink RX5 89 yX5_isStruck, .instanceMethod yX5_isStruck, .selects RX5 yX5_isStruck yX5_isStruck, .initialized RX5, .code yX5_isStruck cX5_isStruck 2 (some .boolean)] ++ wsX50)
def wsX5_gather_r1 : List Cond := [Cond.fieldLink RX5 93 "PictureCourt$Known" "size" "I", Cond.fieldLink RX5 56 "PictureCourt$Proofs" "size" "I", Cond.fieldLink RX5 25 "PictureCourt$Proofs" "weights" "[I", Cond.methodLink RX5 96 yX5_isKnown, Cond.instanceMethod yX5_isKnown, Cond.selects RX5 yX5_isKnown yX5_isKnown, Cond.initialized RX5, Cond.code yX5_isKnown cX5_isKnown 3 (some .boolean), Cond.fieldLink RX5 28 "PictureCourt$Proofs" "toldDays" "[I", Cond.fieldLink RX5 31 "PictureCourt$Proofs" "struckDays" "[I", Cond.methodLink RX5 89 yX5_isStruck, Cond.instanceMethod yX5_isStruck, Cond.selects RX5 yX5_isStruck yX5_isStruck, Cond.code yX5_isStruck cX5_isStruck 2 (some .boolean), Cond.methodLink RX5 66 yX5_firstYear, Cond.instanceMethod yX5_firstYear, Cond.selects RX5 yX5_firstYear yX5_firstYear, Cond.code yX5_firstYear cX5_firstYear 2 (some .int), Cond.fieldLink RX5 22 "PictureCourt$Proofs" "kinds" "[I", Cond.fieldLink RX5 18 "PictureCourt$Proofs" "paintYears" "[I", Cond.fieldLink RX5 34 "PictureCourt$Proofs" "subjects" "[I", Cond.fieldLink RX5 40 "PictureCourt$Proofs" "froms" "[I", Cond.fieldLink RX5 46 "PictureCourt$Proofs" "leastSap" "I", Cond.fieldLink RX5 12 "PictureCourt$Proofs" "rows" "LPictureCourt$Rows;"]
def wsX5_gather_r2 : List Cond := [Cond.fieldLink RX5 37 "PictureCourt$Proofs" "otherRows" "[I", Cond.methodLink RX5 83 yX5_lacking, Cond.instanceMethod yX5_lacking, Cond.selects RX5 yX5_lacking yX5_lacking, Cond.code yX5_lacking cX5_lacking 3 (some .int), Cond.methodLink RX5 77 Lib.Math.max.name, Cond.static Lib.Math.max.name, Cond.initialized "java/lang/Math", Cond.code Lib.Math.max.name Lib.Math.max.code 2 (some .int), Cond.methodLink RX5 73 yX6_isSure, Cond.instanceMethod yX6_isSure, Cond.selects RX6 yX6_isSure yX6_isSure, Cond.initialized RX6, Cond.code yX6_isSure cX6_isSure 6 (some .boolean), Cond.methodLink RX6 35 yX6_canMatch, Cond.instanceMethod yX6_canMatch, Cond.selects RX6 yX6_canMatch yX6_canMatch, Cond.code yX6_canMatch cX6_canMatch 3 (some .boolean), Cond.fieldLink RX6 9 "PictureCourt$Rows" "sizes" "[I", Cond.methodLink RX6 39 yX6_bestPlace, Cond.instanceMethod yX6_bestPlace, Cond.selects RX6 yX6_bestPlace yX6_bestPlace, Cond.code yX6_bestPlace cX6_bestPlace 7 (some .int), Cond.methodLink RX6 25 yX6_offAt]
def wsX5_gather_r3 : List Cond := [Cond.instanceMethod yX6_offAt, Cond.selects RX6 yX6_offAt yX6_offAt, Cond.code yX6_offAt cX6_offAt 8 (some .int), Cond.fieldLink RX6 15 "PictureCourt$Rows" "bytes" "[B", Cond.methodLink RX6 29 Lib.Math.abs.name, Cond.static Lib.Math.abs.name, Cond.code Lib.Math.abs.name Lib.Math.abs.code 1 (some .int), Cond.methodLink RX5 70 yX5_lastYear, Cond.instanceMethod yX5_lastYear, Cond.selects RX5 yX5_lastYear yX5_lastYear, Cond.code yX5_lastYear cX5_lastYear 2 (some .int), Cond.fieldLink RX5 50 "PictureCourt$Proofs" "mostSap" "I", Cond.fieldLink RX5 53 "PictureCourt$Proofs" "yearsToUse" "I", Cond.methodLink RX5 86 Lib.Math.min.name, Cond.static Lib.Math.min.name, Cond.code Lib.Math.min.name Lib.Math.min.code 2 (some .int), Cond.fieldLink RX5 43 "PictureCourt$Proofs" "tos" "[I", Cond.methodLink RX5 99 yX1_add, Cond.instanceMethod yX1_add, Cond.selects RX1 yX1_add yX1_add, Cond.initialized RX1, Cond.code yX1_add cX1_add 5 none, Cond.fieldLink RX1 9 "PictureCourt$Known" "numbers" "[I", Cond.fieldLink RX1 24 "PictureCourt$Known" "size" "I"]
def wsX5_gather_r4 : List Cond := [Cond.fieldLink RX1 15 "PictureCourt$Known" "froms" "[I", Cond.fieldLink RX1 18 "PictureCourt$Known" "tos" "[I", Cond.fieldLink RX1 21 "PictureCourt$Known" "weights" "[I"]
def wsX5_gather : List Cond := .code yX5_gather cX5_gather 4 none :: ((wsX5_gather_r1 ++ (wsX5_gather_r2 ++ (wsX5_gather_r3 ++ wsX5_gather_r4))) ++ wsX10 ++ wsX50 ++ wsX60)
def wsX5_mixPaintsInto : List Cond := .code yX5_mixPaintsInto cX5_mixPaintsInto 4 (some .long) :: ([.constantLong RX5 102 (31), .fieldLink RX5 18 "PictureCourt$Proofs" "paintYears" "[I"] ++ wsX50)
def wsX6_isMissing : List Cond := .code yX6_isMissing cX6_isMissing 2 (some .boolean) :: ([.fieldLink RX6 9 "PictureCourt$Rows" "sizes" "[I"] ++ wsX60)
def wsX6_hasRun : List Cond := .code yX6_hasRun cX6_hasRun 4 (some .boolean) :: ([.fieldLink RX6 9 "PictureCourt$Rows" "sizes" "[I"] ++ wsX60)
def wsX6_make : List Cond := .code yX6_make cX6_make 4 none :: ([.fieldLink RX6 9 "PictureCourt$Rows" "sizes" "[I", .fieldLink RX6 15 "PictureCourt$Rows" "bytes" "[B"] ++ wsX60)
def wsX6_drop : List Cond := .code yX6_drop cX6_drop 2 none :: ([.fieldLink RX6 9 "PictureCourt$Rows" "sizes" "[I"] ++ wsX60)
def wsX6_swap : List Cond := .code yX6_swap cX6_swap 5 (some .int) :: ([.fieldLink RX6 15 "PictureCourt$Rows" "bytes" "[B"] ++ wsX60)
def wsX6_move : List Cond := .code yX6_move cX6_move 6 none :: ([.fieldLink RX6 15 "PictureCourt$Rows" "bytes" "[B", .methodLink RX6 19 arraycopyName, .native arraycopyName, .static arraycopyName, .initialized "java/lang/System"] ++ wsX60)
def wsX6_mixInto : List Cond := .code yX6_mixInto cX6_mixInto 5 (some .long) :: ([.constantLong RX6 43 (31), .fieldLink RX6 9 "PictureCourt$Rows" "sizes" "[I", .fieldLink RX6 15 "PictureCourt$Rows" "bytes" "[B"] ++ wsX60)
def wsX7_init_r1 : List Cond := [Cond.methodLink RX7 1 objectInit, Cond.instanceMethod objectInit, Cond.code objectInit ⟨#[0xb1]⟩ 1 none, Cond.classLink RX7 7 RX5, Cond.instantiable RX5 15, Cond.initialized RX5, Cond.fieldLink RX7 10 "PictureCourt" "proofs" "LPictureCourt$Proofs;", Cond.fieldLink RX7 16 "PictureCourt$Proofs" "rows" "LPictureCourt$Rows;", Cond.fieldLink RX7 20 "PictureCourt" "rows" "LPictureCourt$Rows;", Cond.classLink RX7 21 RX1, Cond.instantiable RX1 5, Cond.initialized RX1, Cond.fieldLink RX7 24 "PictureCourt" "known" "LPictureCourt$Known;", Cond.classLink RX7 28 RX2, Cond.instantiable RX2 10, Cond.initialized RX2, Cond.fieldLink RX7 31 "PictureCourt" "odds" "LPictureCourt$Odds;", Cond.classLink RX7 35 RX4, Cond.instantiable RX4 5, Cond.initialized RX4, Cond.fieldLink RX7 38 "PictureCourt" "owners" "LPictureCourt$Owners;", Cond.classLink RX7 42 RX3, Cond.instantiable RX3 7, Cond.initialized RX3]
def wsX7_init_r2 : List Cond := [Cond.fieldLink RX7 45 "PictureCourt" "opinions" "LPictureCourt$Opinions;", Cond.classLink RX7 49 RX0, Cond.instantiable RX0 8, Cond.initialized RX0, Cond.fieldLink RX7 52 "PictureCourt" "contract" "LPictureCourt$Contract;", Cond.arrayClass .int, Cond.fieldLink RX7 56 "PictureCourt" "findingCounts" "[I", Cond.fieldLink RX7 60 "PictureCourt" "today" "I", Cond.fieldLink RX7 64 "PictureCourt" "latestFinding" "I", Cond.fieldLink RX7 67 "PictureCourt" "askedNumber" "I", Cond.fieldLink RX7 70 "PictureCourt" "upperNumber" "J", Cond.fieldLink RX7 74 "PictureCourt" "lowerNumber" "J", Cond.methodLink RX7 9 yX5_init, Cond.instanceMethod yX5_init, Cond.code yX5_init cX5_init 2 none, Cond.methodLink RX5 3 objectInit, Cond.classLink RX5 9 RX6, Cond.instantiable RX6 2, Cond.initialized RX6, Cond.fieldLink RX5 12 "PictureCourt$Proofs" "rows" "LPictureCourt$Rows;", Cond.fieldLink RX5 18 "PictureCourt$Proofs" "paintYears" "[I", Cond.fieldLink RX5 22 "PictureCourt$Proofs" "kinds" "[I", Cond.fieldLink RX5 25 "PictureCourt$Proofs" "weights" "[I", Cond.fieldLink RX5 28 "PictureCourt$Proofs" "toldDays" "[I"]
def wsX7_init_r3 : List Cond := [Cond.fieldLink RX5 31 "PictureCourt$Proofs" "struckDays" "[I", Cond.fieldLink RX5 34 "PictureCourt$Proofs" "subjects" "[I", Cond.fieldLink RX5 37 "PictureCourt$Proofs" "otherRows" "[I", Cond.fieldLink RX5 40 "PictureCourt$Proofs" "froms" "[I", Cond.fieldLink RX5 43 "PictureCourt$Proofs" "tos" "[I", Cond.fieldLink RX5 46 "PictureCourt$Proofs" "leastSap" "I", Cond.fieldLink RX5 50 "PictureCourt$Proofs" "mostSap" "I", Cond.fieldLink RX5 53 "PictureCourt$Proofs" "yearsToUse" "I", Cond.fieldLink RX5 56 "PictureCourt$Proofs" "size" "I", Cond.fieldLink RX5 59 "PictureCourt$Proofs" "struck" "I", Cond.methodLink RX5 11 yX6_init, Cond.instanceMethod yX6_init, Cond.code yX6_init cX6_init 2 none, Cond.methodLink RX6 3 objectInit, Cond.fieldLink RX6 9 "PictureCourt$Rows" "sizes" "[I", Cond.arrayClass .byte, Cond.fieldLink RX6 15 "PictureCourt$Rows" "bytes" "[B", Cond.instanceMethod yX1_init, Cond.code yX1_init cX1_init 1 none, Cond.methodLink RX1 3 objectInit, Cond.fieldLink RX1 9 "PictureCourt$Known" "numbers" "[I", Cond.fieldLink RX1 15 "PictureCourt$Known" "froms" "[I", Cond.fieldLink RX1 18 "PictureCourt$Known" "tos" "[I", Cond.fieldLink RX1 21 "PictureCourt$Known" "weights" "[I"]
def wsX7_init_r4 : List Cond := [Cond.fieldLink RX1 24 "PictureCourt$Known" "size" "I", Cond.methodLink RX7 30 yX2_init, Cond.instanceMethod yX2_init, Cond.code yX2_init cX2_init 2 none, Cond.methodLink RX2 3 objectInit, Cond.fieldLink RX2 9 "PictureCourt$Odds" "handWeights" "[I", Cond.fieldLink RX2 15 "PictureCourt$Odds" "costs" "[I", Cond.fieldLink RX2 18 "PictureCourt$Odds" "wounds" "[I", Cond.fieldLink RX2 21 "PictureCourt$Odds" "groups" "[I", Cond.fieldLink RX2 24 "PictureCourt$Odds" "oftens" "[I", Cond.fieldLink RX2 27 "PictureCourt$Odds" "results" "[I", Cond.arrayClass .boolean, Cond.fieldLink RX2 30 "PictureCourt$Odds" "counts" "[Z", Cond.fieldLink RX2 34 "PictureCourt$Odds" "groupsDone" "[Z", Cond.fieldLink RX2 37 "PictureCourt$Odds" "size" "I", Cond.fieldLink RX2 41 "PictureCourt$Odds" "finished" "I", Cond.instanceMethod yX4_init, Cond.code yX4_init cX4_init 1 none, Cond.methodLink RX4 3 objectInit, Cond.fieldLink RX4 9 "PictureCourt$Owners" "froms" "[I", Cond.fieldLink RX4 15 "PictureCourt$Owners" "tos" "[I", Cond.fieldLink RX4 18 "PictureCourt$Owners" "size" "I", Cond.fieldLink RX4 22 "PictureCourt$Owners" "gapYears" "I", Cond.fieldLink RX4 25 "PictureCourt$Owners" "longestGap" "I"]
def wsX7_init_r5 : List Cond := [Cond.instanceMethod yX3_init, Cond.code yX3_init cX3_init 1 none, Cond.methodLink RX3 3 objectInit, Cond.fieldLink RX3 9 "PictureCourt$Opinions" "experts" "[I", Cond.fieldLink RX3 15 "PictureCourt$Opinions" "hands" "[I", Cond.fieldLink RX3 18 "PictureCourt$Opinions" "sures" "[I", Cond.fieldLink RX3 21 "PictureCourt$Opinions" "knews" "[Z", Cond.fieldLink RX3 25 "PictureCourt$Opinions" "size" "I", Cond.fieldLink RX3 29 "PictureCourt$Opinions" "widest" "I", Cond.fieldLink RX3 32 "PictureCourt$Opinions" "widestExpert" "I", Cond.instanceMethod yX0_init, Cond.code yX0_init cX0_init 1 none, Cond.methodLink RX0 3 objectInit, Cond.fieldLink RX0 9 "PictureCourt$Contract" "lawDays" "[I", Cond.fieldLink RX0 15 "PictureCourt$Contract" "limits" "[I", Cond.fieldLink RX0 18 "PictureCourt$Contract" "bounds" "[I", Cond.fieldLink RX0 21 "PictureCourt$Contract" "rates" "[I", Cond.fieldLink RX0 24 "PictureCourt$Contract" "saleDay" "I", Cond.fieldLink RX0 28 "PictureCourt$Contract" "price" "I", Cond.fieldLink RX0 31 "PictureCourt$Contract" "hand" "I", Cond.fieldLink RX0 34 "PictureCourt$Contract" "laws" "I"]
def wsX7_init : List Cond := .code yX7_init cX7_init 1 none :: ((wsX7_init_r1 ++ (wsX7_init_r2 ++ (wsX7_init_r3 ++ (wsX7_init_r4 ++ wsX7_init_r5)))) ++ wsX50 ++ wsX70 ++ wsX10 ++ wsX20 ++ wsX40 ++ wsX30 ++ wsX00 ++ wsX60)
def wsX7_isWithin : List Cond := .code yX7_isWithin cX7_isWithin 3 (some .boolean) :: ([])
def wsX7_later : List Cond := .code yX7_later cX7_later 2 (some .int) :: ([.fieldLink RX7 60 "PictureCourt" "today" "I", .methodLink RX7 77 yX7_isWithin, .static yX7_isWithin, .initialized RX7, .code yX7_isWithin cX7_isWithin 3 (some .boolean)] ++ wsX70)
def wsX7_isRow : List Cond := .code yX7_isRow cX7_isRow 1 (some .boolean) :: ([.methodLink RX7 77 yX7_isWithin, .static yX7_isWithin, .initialized RX7, .code yX7_isWithin cX7_isWithin 3 (some .boolean)])
def wsX7_refuse : List Cond := .code yX7_refuse cX7_refuse 2 (some .int) :: ([.fieldLink RX7 64 "PictureCourt" "latestFinding" "I", .fieldLink RX7 56 "PictureCourt" "findingCounts" "[I"] ++ wsX70)
def wsX7_row : List Cond := .code yX7_row cX7_row 3 (some .int) :: ([.fieldLink RX7 20 "PictureCourt" "rows" "LPictureCourt$Rows;", .methodLink RX7 81 yX7_isRow, .static yX7_isRow, .initialized RX7, .code yX7_isRow cX7_isRow 1 (some .boolean), .methodLink RX7 77 yX7_isWithin, .static yX7_isWithin, .code yX7_isWithin cX7_isWithin 3 (some .boolean), .methodLink RX7 85 yX7_refuse, .instanceMethod yX7_refuse, .selects RX7 yX7_refuse yX7_refuse, .code yX7_refuse cX7_refuse 2 (some .int), .fieldLink RX7 64 "PictureCourt" "latestFinding" "I", .fieldLink RX7 56 "PictureCourt" "findingCounts" "[I", .methodLink RX7 89 yX6_make, .instanceMethod yX6_make, .selects RX6 yX6_make yX6_make, .initialized RX6, .code yX6_make cX6_make 4 none, .fieldLink RX6 9 "PictureCourt$Rows" "sizes" "[I", .fieldLink RX6 15 "PictureCourt$Rows" "bytes" "[B"] ++ wsX70 ++ wsX60)
def wsX7_lay_r1 : List Cond := [Cond.fieldLink RX7 20 "PictureCourt" "rows" "LPictureCourt$Rows;", Cond.methodLink RX7 81 yX7_isRow, Cond.static yX7_isRow, Cond.initialized RX7, Cond.code yX7_isRow cX7_isRow 1 (some .boolean), Cond.methodLink RX7 77 yX7_isWithin, Cond.static yX7_isWithin, Cond.code yX7_isWithin cX7_isWithin 3 (some .boolean), Cond.methodLink RX7 95 yX6_isMissing, Cond.instanceMethod yX6_isMissing, Cond.selects RX6 yX6_isMissing yX6_isMissing, Cond.initialized RX6, Cond.code yX6_isMissing cX6_isMissing 2 (some .boolean), Cond.fieldLink RX6 9 "PictureCourt$Rows" "sizes" "[I", Cond.methodLink RX7 85 yX7_refuse, Cond.instanceMethod yX7_refuse, Cond.selects RX7 yX7_refuse yX7_refuse, Cond.code yX7_refuse cX7_refuse 2 (some .int), Cond.fieldLink RX7 64 "PictureCourt" "latestFinding" "I", Cond.fieldLink RX7 56 "PictureCourt" "findingCounts" "[I", Cond.methodLink RX7 98 yX6_hasRun, Cond.instanceMethod yX6_hasRun, Cond.selects RX6 yX6_hasRun yX6_hasRun, Cond.code yX6_hasRun cX6_hasRun 4 (some .boolean)]
def wsX7_lay_r2 : List Cond := [Cond.methodLink RX7 101 yX6_swap, Cond.instanceMethod yX6_swap, Cond.selects RX6 yX6_swap yX6_swap, Cond.code yX6_swap cX6_swap 5 (some .int), Cond.fieldLink RX6 15 "PictureCourt$Rows" "bytes" "[B"]
def wsX7_lay : List Cond := .code yX7_lay cX7_lay 4 (some .int) :: ((wsX7_lay_r1 ++ wsX7_lay_r2) ++ wsX70 ++ wsX60)
def wsX7_tear : List Cond := .code yX7_tear cX7_tear 2 (some .int) :: ([.fieldLink RX7 20 "PictureCourt" "rows" "LPictureCourt$Rows;", .methodLink RX7 81 yX7_isRow, .static yX7_isRow, .initialized RX7, .code yX7_isRow cX7_isRow 1 (some .boolean), .methodLink RX7 77 yX7_isWithin, .static yX7_isWithin, .code yX7_isWithin cX7_isWithin 3 (some .boolean), .methodLink RX7 95 yX6_isMissing, .instanceMethod yX6_isMissing, .selects RX6 yX6_isMissing yX6_isMissing, .initialized RX6, .code yX6_isMissing cX6_isMissing 2 (some .boolean), .fieldLink RX6 9 "PictureCourt$Rows" "sizes" "[I", .methodLink RX7 85 yX7_refuse, .instanceMethod yX7_refuse, .selects RX7 yX7_refuse yX7_refuse, .code yX7_refuse cX7_refuse 2 (some .int), .fieldLink RX7 64 "PictureCourt" "latestFinding" "I", .fieldLink RX7 56 "PictureCourt" "findingCounts" "[I", .methodLink RX7 105 yX6_drop, .instanceMethod yX6_drop, .selects RX6 yX6_drop yX6_drop, .code yX6_drop cX6_drop 2 none] ++ wsX70 ++ wsX60)
def wsX7_copy_r1 : List Cond := [Cond.fieldLink RX7 20 "PictureCourt" "rows" "LPictureCourt$Rows;", Cond.methodLink RX7 81 yX7_isRow, Cond.static yX7_isRow, Cond.initialized RX7, Cond.code yX7_isRow cX7_isRow 1 (some .boolean), Cond.methodLink RX7 77 yX7_isWithin, Cond.static yX7_isWithin, Cond.code yX7_isWithin cX7_isWithin 3 (some .boolean), Cond.methodLink RX7 95 yX6_isMissing, Cond.instanceMethod yX6_isMissing, Cond.selects RX6 yX6_isMissing yX6_isMissing, Cond.initialized RX6, Cond.code yX6_isMissing cX6_isMissing 2 (some .boolean), Cond.fieldLink RX6 9 "PictureCourt$Rows" "sizes" "[I", Cond.methodLink RX7 85 yX7_refuse, Cond.instanceMethod yX7_refuse, Cond.selects RX7 yX7_refuse yX7_refuse, Cond.code yX7_refuse cX7_refuse 2 (some .int), Cond.fieldLink RX7 64 "PictureCourt" "latestFinding" "I", Cond.fieldLink RX7 56 "PictureCourt" "findingCounts" "[I", Cond.methodLink RX7 98 yX6_hasRun, Cond.instanceMethod yX6_hasRun, Cond.selects RX6 yX6_hasRun yX6_hasRun, Cond.code yX6_hasRun cX6_hasRun 4 (some .boolean)]
def wsX7_copy_r2 : List Cond := [Cond.methodLink RX7 109 yX6_move, Cond.instanceMethod yX6_move, Cond.selects RX6 yX6_move yX6_move, Cond.code yX6_move cX6_move 6 none, Cond.fieldLink RX6 15 "PictureCourt$Rows" "bytes" "[B", Cond.methodLink RX6 19 arraycopyName, Cond.native arraycopyName, Cond.static arraycopyName, Cond.initialized "java/lang/System"]
def wsX7_copy : List Cond := .code yX7_copy cX7_copy 6 (some .int) :: ((wsX7_copy_r1 ++ wsX7_copy_r2) ++ wsX70 ++ wsX60)
def wsX7_areTwoRows : List Cond := .code yX7_areTwoRows cX7_areTwoRows 2 (some .boolean) :: ([.methodLink RX7 81 yX7_isRow, .static yX7_isRow, .initialized RX7, .code yX7_isRow cX7_isRow 1 (some .boolean), .methodLink RX7 77 yX7_isWithin, .static yX7_isWithin, .code yX7_isWithin cX7_isWithin 3 (some .boolean)])
def wsX7_match_r1 : List Cond := [Cond.fieldLink RX7 20 "PictureCourt" "rows" "LPictureCourt$Rows;", Cond.fieldLink RX7 67 "PictureCourt" "askedNumber" "I", Cond.methodLink RX7 113 yX7_areTwoRows, Cond.static yX7_areTwoRows, Cond.initialized RX7, Cond.code yX7_areTwoRows cX7_areTwoRows 2 (some .boolean), Cond.methodLink RX7 81 yX7_isRow, Cond.static yX7_isRow, Cond.code yX7_isRow cX7_isRow 1 (some .boolean), Cond.methodLink RX7 77 yX7_isWithin, Cond.static yX7_isWithin, Cond.code yX7_isWithin cX7_isWithin 3 (some .boolean), Cond.methodLink RX7 95 yX6_isMissing, Cond.instanceMethod yX6_isMissing, Cond.selects RX6 yX6_isMissing yX6_isMissing, Cond.initialized RX6, Cond.code yX6_isMissing cX6_isMissing 2 (some .boolean), Cond.fieldLink RX6 9 "PictureCourt$Rows" "sizes" "[I", Cond.methodLink RX7 85 yX7_refuse, Cond.instanceMethod yX7_refuse, Cond.selects RX7 yX7_refuse yX7_refuse, Cond.code yX7_refuse cX7_refuse 2 (some .int), Cond.fieldLink RX7 64 "PictureCourt" "latestFinding" "I", Cond.fieldLink RX7 56 "PictureCourt" "findingCounts" "[I"]
def wsX7_match_r2 : List Cond := [Cond.methodLink RX7 117 yX6_canMatch, Cond.instanceMethod yX6_canMatch, Cond.selects RX6 yX6_canMatch yX6_canMatch, Cond.code yX6_canMatch cX6_canMatch 3 (some .boolean), Cond.methodLink RX7 120 yX6_bestPlace, Cond.instanceMethod yX6_bestPlace, Cond.selects RX6 yX6_bestPlace yX6_bestPlace, Cond.code yX6_bestPlace cX6_bestPlace 7 (some .int), Cond.methodLink RX6 25 yX6_offAt, Cond.instanceMethod yX6_offAt, Cond.selects RX6 yX6_offAt yX6_offAt, Cond.code yX6_offAt cX6_offAt 8 (some .int), Cond.fieldLink RX6 15 "PictureCourt$Rows" "bytes" "[B", Cond.methodLink RX6 29 Lib.Math.abs.name, Cond.static Lib.Math.abs.name, Cond.initialized "java/lang/Math", Cond.code Lib.Math.abs.name Lib.Math.abs.code 1 (some .int), Cond.methodLink RX7 124 yX6_offAt]
def wsX7_match : List Cond := .code yX7_match cX7_match 4 (some .int) :: ((wsX7_match_r1 ++ wsX7_match_r2) ++ wsX70 ++ wsX60)
def wsX7_sure_r1 : List Cond := [Cond.fieldLink RX7 20 "PictureCourt" "rows" "LPictureCourt$Rows;", Cond.methodLink RX7 113 yX7_areTwoRows, Cond.static yX7_areTwoRows, Cond.initialized RX7, Cond.code yX7_areTwoRows cX7_areTwoRows 2 (some .boolean), Cond.methodLink RX7 81 yX7_isRow, Cond.static yX7_isRow, Cond.code yX7_isRow cX7_isRow 1 (some .boolean), Cond.methodLink RX7 77 yX7_isWithin, Cond.static yX7_isWithin, Cond.code yX7_isWithin cX7_isWithin 3 (some .boolean), Cond.methodLink RX7 128 yX6_isSure, Cond.instanceMethod yX6_isSure, Cond.selects RX6 yX6_isSure yX6_isSure, Cond.initialized RX6, Cond.code yX6_isSure cX6_isSure 6 (some .boolean), Cond.methodLink RX6 35 yX6_canMatch, Cond.instanceMethod yX6_canMatch, Cond.selects RX6 yX6_canMatch yX6_canMatch, Cond.code yX6_canMatch cX6_canMatch 3 (some .boolean), Cond.fieldLink RX6 9 "PictureCourt$Rows" "sizes" "[I", Cond.methodLink RX6 39 yX6_bestPlace, Cond.instanceMethod yX6_bestPlace, Cond.selects RX6 yX6_bestPlace yX6_bestPlace]
def wsX7_sure_r2 : List Cond := [Cond.code yX6_bestPlace cX6_bestPlace 7 (some .int), Cond.methodLink RX6 25 yX6_offAt, Cond.instanceMethod yX6_offAt, Cond.selects RX6 yX6_offAt yX6_offAt, Cond.code yX6_offAt cX6_offAt 8 (some .int), Cond.fieldLink RX6 15 "PictureCourt$Rows" "bytes" "[B", Cond.methodLink RX6 29 Lib.Math.abs.name, Cond.static Lib.Math.abs.name, Cond.initialized "java/lang/Math", Cond.code Lib.Math.abs.name Lib.Math.abs.code 1 (some .int)]
def wsX7_sure : List Cond := .code yX7_sure cX7_sure 3 (some .int) :: ((wsX7_sure_r1 ++ wsX7_sure_r2) ++ wsX70 ++ wsX60)
def wsX7_isYear : List Cond := .code yX7_isYear cX7_isYear 1 (some .boolean) :: ([.methodLink RX7 77 yX7_isWithin, .static yX7_isWithin, .initialized RX7, .code yX7_isWithin cX7_isWithin 3 (some .boolean)])
def wsX7_paint : List Cond := .code yX7_paint cX7_paint 3 (some .int) :: ([.fieldLink RX7 10 "PictureCourt" "proofs" "LPictureCourt$Proofs;", .methodLink RX7 77 yX7_isWithin, .static yX7_isWithin, .initialized RX7, .code yX7_isWithin cX7_isWithin 3 (some .boolean), .methodLink RX7 131 yX7_isYear, .static yX7_isYear, .code yX7_isYear cX7_isYear 1 (some .boolean), .methodLink RX7 134 yX5_swapPaintYear, .instanceMethod yX5_swapPaintYear, .selects RX5 yX5_swapPaintYear yX5_swapPaintYear, .initialized RX5, .code yX5_swapPaintYear cX5_swapPaintYear 4 (some .int), .fieldLink RX5 18 "PictureCourt$Proofs" "paintYears" "[I"] ++ wsX70 ++ wsX50)
def wsX7_sap : List Cond := .code yX7_sap cX7_sap 5 (some .int) :: ([.fieldLink RX7 10 "PictureCourt" "proofs" "LPictureCourt$Proofs;", .methodLink RX7 77 yX7_isWithin, .static yX7_isWithin, .initialized RX7, .code yX7_isWithin cX7_isWithin 3 (some .boolean), .methodLink RX7 137 yX5_setSap, .instanceMethod yX5_setSap, .selects RX5 yX5_setSap yX5_setSap, .initialized RX5, .code yX5_setSap cX5_setSap 4 none, .fieldLink RX5 46 "PictureCourt$Proofs" "leastSap" "I", .fieldLink RX5 50 "PictureCourt$Proofs" "mostSap" "I", .fieldLink RX5 53 "PictureCourt$Proofs" "yearsToUse" "I"] ++ wsX70 ++ wsX50)
def wsX7_areYears : List Cond := .code yX7_areYears cX7_areYears 2 (some .boolean) :: ([.methodLink RX7 131 yX7_isYear, .static yX7_isYear, .initialized RX7, .code yX7_isYear cX7_isYear 1 (some .boolean), .methodLink RX7 77 yX7_isWithin, .static yX7_isWithin, .code yX7_isWithin cX7_isWithin 3 (some .boolean)])
def wsX7_isProofWeight : List Cond := .code yX7_isProofWeight cX7_isProofWeight 1 (some .boolean) :: ([.methodLink RX7 77 yX7_isWithin, .static yX7_isWithin, .initialized RX7, .code yX7_isWithin cX7_isWithin 3 (some .boolean)])
def wsX7_proof_r1 : List Cond := [Cond.fieldLink RX7 10 "PictureCourt" "proofs" "LPictureCourt$Proofs;", Cond.fieldLink RX7 60 "PictureCourt" "today" "I", Cond.methodLink RX7 141 yX7_areYears, Cond.static yX7_areYears, Cond.initialized RX7, Cond.code yX7_areYears cX7_areYears 2 (some .boolean), Cond.methodLink RX7 131 yX7_isYear, Cond.static yX7_isYear, Cond.code yX7_isYear cX7_isYear 1 (some .boolean), Cond.methodLink RX7 77 yX7_isWithin, Cond.static yX7_isWithin, Cond.code yX7_isWithin cX7_isWithin 3 (some .boolean), Cond.methodLink RX7 144 yX7_isProofWeight, Cond.static yX7_isProofWeight, Cond.code yX7_isProofWeight cX7_isProofWeight 1 (some .boolean), Cond.methodLink RX7 147 yX5_isFull, Cond.instanceMethod yX5_isFull, Cond.selects RX5 yX5_isFull yX5_isFull, Cond.initialized RX5, Cond.code yX5_isFull cX5_isFull 1 (some .boolean), Cond.fieldLink RX5 56 "PictureCourt$Proofs" "size" "I", Cond.methodLink RX7 151 yX5_addYears, Cond.instanceMethod yX5_addYears, Cond.selects RX5 yX5_addYears yX5_addYears]
def wsX7_proof_r2 : List Cond := [Cond.code yX5_addYears cX5_addYears 5 (some .int), Cond.fieldLink RX5 40 "PictureCourt$Proofs" "froms" "[I", Cond.fieldLink RX5 43 "PictureCourt$Proofs" "tos" "[I", Cond.methodLink RX5 62 yX5_add, Cond.instanceMethod yX5_add, Cond.selects RX5 yX5_add yX5_add, Cond.code yX5_add cX5_add 4 (some .int), Cond.fieldLink RX5 22 "PictureCourt$Proofs" "kinds" "[I", Cond.fieldLink RX5 25 "PictureCourt$Proofs" "weights" "[I", Cond.fieldLink RX5 28 "PictureCourt$Proofs" "toldDays" "[I", Cond.fieldLink RX5 31 "PictureCourt$Proofs" "struckDays" "[I"]
def wsX7_proof : List Cond := .code yX7_proof cX7_proof 4 (some .int) :: ((wsX7_proof_r1 ++ wsX7_proof_r2) ++ wsX70 ++ wsX50)
def wsX7_found_r1 : List Cond := [Cond.fieldLink RX7 10 "PictureCourt" "proofs" "LPictureCourt$Proofs;", Cond.fieldLink RX7 60 "PictureCourt" "today" "I", Cond.methodLink RX7 77 yX7_isWithin, Cond.static yX7_isWithin, Cond.initialized RX7, Cond.code yX7_isWithin cX7_isWithin 3 (some .boolean), Cond.methodLink RX7 144 yX7_isProofWeight, Cond.static yX7_isProofWeight, Cond.code yX7_isProofWeight cX7_isProofWeight 1 (some .boolean), Cond.methodLink RX7 147 yX5_isFull, Cond.instanceMethod yX5_isFull, Cond.selects RX5 yX5_isFull yX5_isFull, Cond.initialized RX5, Cond.code yX5_isFull cX5_isFull 1 (some .boolean), Cond.fieldLink RX5 56 "PictureCourt$Proofs" "size" "I", Cond.methodLink RX7 155 yX5_addPaint, Cond.instanceMethod yX5_addPaint, Cond.selects RX5 yX5_addPaint yX5_addPaint, Cond.code yX5_addPaint cX5_addPaint 4 (some .int), Cond.fieldLink RX5 34 "PictureCourt$Proofs" "subjects" "[I", Cond.methodLink RX5 62 yX5_add, Cond.instanceMethod yX5_add, Cond.selects RX5 yX5_add yX5_add, Cond.code yX5_add cX5_add 4 (some .int)]
def wsX7_found_r2 : List Cond := [Cond.fieldLink RX5 22 "PictureCourt$Proofs" "kinds" "[I", Cond.fieldLink RX5 25 "PictureCourt$Proofs" "weights" "[I", Cond.fieldLink RX5 28 "PictureCourt$Proofs" "toldDays" "[I", Cond.fieldLink RX5 31 "PictureCourt$Proofs" "struckDays" "[I"]
def wsX7_found : List Cond := .code yX7_found cX7_found 3 (some .int) :: ((wsX7_found_r1 ++ wsX7_found_r2) ++ wsX70 ++ wsX50)
def wsX7_rings_r1 : List Cond := [Cond.fieldLink RX7 10 "PictureCourt" "proofs" "LPictureCourt$Proofs;", Cond.fieldLink RX7 60 "PictureCourt" "today" "I", Cond.methodLink RX7 77 yX7_isWithin, Cond.static yX7_isWithin, Cond.initialized RX7, Cond.code yX7_isWithin cX7_isWithin 3 (some .boolean), Cond.methodLink RX7 144 yX7_isProofWeight, Cond.static yX7_isProofWeight, Cond.code yX7_isProofWeight cX7_isProofWeight 1 (some .boolean), Cond.methodLink RX7 147 yX5_isFull, Cond.instanceMethod yX5_isFull, Cond.selects RX5 yX5_isFull yX5_isFull, Cond.initialized RX5, Cond.code yX5_isFull cX5_isFull 1 (some .boolean), Cond.fieldLink RX5 56 "PictureCourt$Proofs" "size" "I", Cond.methodLink RX7 158 yX5_addRings, Cond.instanceMethod yX5_addRings, Cond.selects RX5 yX5_addRings yX5_addRings, Cond.code yX5_addRings cX5_addRings 5 (some .int), Cond.fieldLink RX5 40 "PictureCourt$Proofs" "froms" "[I", Cond.fieldLink RX5 34 "PictureCourt$Proofs" "subjects" "[I", Cond.methodLink RX5 62 yX5_add, Cond.instanceMethod yX5_add, Cond.selects RX5 yX5_add yX5_add]
def wsX7_rings_r2 : List Cond := [Cond.code yX5_add cX5_add 4 (some .int), Cond.fieldLink RX5 22 "PictureCourt$Proofs" "kinds" "[I", Cond.fieldLink RX5 25 "PictureCourt$Proofs" "weights" "[I", Cond.fieldLink RX5 28 "PictureCourt$Proofs" "toldDays" "[I", Cond.fieldLink RX5 31 "PictureCourt$Proofs" "struckDays" "[I"]
def wsX7_rings : List Cond := .code yX7_rings cX7_rings 5 (some .int) :: ((wsX7_rings_r1 ++ wsX7_rings_r2) ++ wsX70 ++ wsX50)
def wsX7_threads_r1 : List Cond := [Cond.fieldLink RX7 10 "PictureCourt" "proofs" "LPictureCourt$Proofs;", Cond.fieldLink RX7 60 "PictureCourt" "today" "I", Cond.methodLink RX7 113 yX7_areTwoRows, Cond.static yX7_areTwoRows, Cond.initialized RX7, Cond.code yX7_areTwoRows cX7_areTwoRows 2 (some .boolean), Cond.methodLink RX7 81 yX7_isRow, Cond.static yX7_isRow, Cond.code yX7_isRow cX7_isRow 1 (some .boolean), Cond.methodLink RX7 77 yX7_isWithin, Cond.static yX7_isWithin, Cond.code yX7_isWithin cX7_isWithin 3 (some .boolean), Cond.methodLink RX7 141 yX7_areYears, Cond.static yX7_areYears, Cond.code yX7_areYears cX7_areYears 2 (some .boolean), Cond.methodLink RX7 131 yX7_isYear, Cond.static yX7_isYear, Cond.code yX7_isYear cX7_isYear 1 (some .boolean), Cond.methodLink RX7 144 yX7_isProofWeight, Cond.static yX7_isProofWeight, Cond.code yX7_isProofWeight cX7_isProofWeight 1 (some .boolean), Cond.methodLink RX7 147 yX5_isFull, Cond.instanceMethod yX5_isFull, Cond.selects RX5 yX5_isFull yX5_isFull]
def wsX7_threads_r2 : List Cond := [Cond.initialized RX5, Cond.code yX5_isFull cX5_isFull 1 (some .boolean), Cond.fieldLink RX5 56 "PictureCourt$Proofs" "size" "I", Cond.methodLink RX7 161 yX5_addThreads, Cond.instanceMethod yX5_addThreads, Cond.selects RX5 yX5_addThreads yX5_addThreads, Cond.code yX5_addThreads cX5_addThreads 7 (some .int), Cond.fieldLink RX5 34 "PictureCourt$Proofs" "subjects" "[I", Cond.fieldLink RX5 37 "PictureCourt$Proofs" "otherRows" "[I", Cond.fieldLink RX5 40 "PictureCourt$Proofs" "froms" "[I", Cond.fieldLink RX5 43 "PictureCourt$Proofs" "tos" "[I", Cond.methodLink RX5 62 yX5_add, Cond.instanceMethod yX5_add, Cond.selects RX5 yX5_add yX5_add, Cond.code yX5_add cX5_add 4 (some .int), Cond.fieldLink RX5 22 "PictureCourt$Proofs" "kinds" "[I", Cond.fieldLink RX5 25 "PictureCourt$Proofs" "weights" "[I", Cond.fieldLink RX5 28 "PictureCourt$Proofs" "toldDays" "[I", Cond.fieldLink RX5 31 "PictureCourt$Proofs" "struckDays" "[I"]
def wsX7_threads : List Cond := .code yX7_threads cX7_threads 6 (some .int) :: ((wsX7_threads_r1 ++ wsX7_threads_r2) ++ wsX70 ++ wsX50)
def wsX7_strike : List Cond := .code yX7_strike cX7_strike 2 (some .int) :: ([.fieldLink RX7 10 "PictureCourt" "proofs" "LPictureCourt$Proofs;", .fieldLink RX7 60 "PictureCourt" "today" "I", .methodLink RX7 165 yX5_has, .instanceMethod yX5_has, .selects RX5 yX5_has yX5_has, .initialized RX5, .code yX5_has cX5_has 2 (some .boolean), .fieldLink RX5 56 "PictureCourt$Proofs" "size" "I", .methodLink RX7 168 yX5_isStruck, .instanceMethod yX5_isStruck, .selects RX5 yX5_isStruck yX5_isStruck, .code yX5_isStruck cX5_isStruck 2 (some .boolean), .fieldLink RX5 31 "PictureCourt$Proofs" "struckDays" "[I", .methodLink RX7 171 yX5_strikeOn, .instanceMethod yX5_strikeOn, .selects RX5 yX5_strikeOn yX5_strikeOn, .code yX5_strikeOn cX5_strikeOn 3 none, .fieldLink RX5 59 "PictureCourt$Proofs" "struck" "I"] ++ wsX70 ++ wsX50)
def wsX7_told_r1 : List Cond := [Cond.fieldLink RX7 10 "PictureCourt" "proofs" "LPictureCourt$Proofs;", Cond.methodLink RX7 165 yX5_has, Cond.instanceMethod yX5_has, Cond.selects RX5 yX5_has yX5_has, Cond.initialized RX5, Cond.code yX5_has cX5_has 2 (some .boolean), Cond.fieldLink RX5 56 "PictureCourt$Proofs" "size" "I", Cond.methodLink RX7 77 yX7_isWithin, Cond.static yX7_isWithin, Cond.initialized RX7, Cond.code yX7_isWithin cX7_isWithin 3 (some .boolean), Cond.methodLink RX7 174 yX5_detail, Cond.instanceMethod yX5_detail, Cond.selects RX5 yX5_detail yX5_detail, Cond.code yX5_detail cX5_detail 3 (some .int), Cond.fieldLink RX5 22 "PictureCourt$Proofs" "kinds" "[I", Cond.fieldLink RX5 25 "PictureCourt$Proofs" "weights" "[I", Cond.fieldLink RX5 28 "PictureCourt$Proofs" "toldDays" "[I", Cond.fieldLink RX5 31 "PictureCourt$Proofs" "struckDays" "[I", Cond.methodLink RX5 66 yX5_firstYear, Cond.instanceMethod yX5_firstYear, Cond.selects RX5 yX5_firstYear yX5_firstYear, Cond.code yX5_firstYear cX5_firstYear 2 (some .int), Cond.fieldLink RX5 18 "PictureCourt$Proofs" "paintYears" "[I"]
def wsX7_told_r2 : List Cond := [Cond.fieldLink RX5 34 "PictureCourt$Proofs" "subjects" "[I", Cond.fieldLink RX5 40 "PictureCourt$Proofs" "froms" "[I", Cond.fieldLink RX5 46 "PictureCourt$Proofs" "leastSap" "I", Cond.fieldLink RX5 12 "PictureCourt$Proofs" "rows" "LPictureCourt$Rows;", Cond.fieldLink RX5 37 "PictureCourt$Proofs" "otherRows" "[I", Cond.methodLink RX5 83 yX5_lacking, Cond.instanceMethod yX5_lacking, Cond.selects RX5 yX5_lacking yX5_lacking, Cond.code yX5_lacking cX5_lacking 3 (some .int), Cond.methodLink RX5 77 Lib.Math.max.name, Cond.static Lib.Math.max.name, Cond.initialized "java/lang/Math", Cond.code Lib.Math.max.name Lib.Math.max.code 2 (some .int), Cond.methodLink RX5 73 yX6_isSure, Cond.instanceMethod yX6_isSure, Cond.selects RX6 yX6_isSure yX6_isSure, Cond.initialized RX6, Cond.code yX6_isSure cX6_isSure 6 (some .boolean), Cond.methodLink RX6 35 yX6_canMatch, Cond.instanceMethod yX6_canMatch, Cond.selects RX6 yX6_canMatch yX6_canMatch, Cond.code yX6_canMatch cX6_canMatch 3 (some .boolean), Cond.fieldLink RX6 9 "PictureCourt$Rows" "sizes" "[I", Cond.methodLink RX6 39 yX6_bestPlace]
def wsX7_told_r3 : List Cond := [Cond.instanceMethod yX6_bestPlace, Cond.selects RX6 yX6_bestPlace yX6_bestPlace, Cond.code yX6_bestPlace cX6_bestPlace 7 (some .int), Cond.methodLink RX6 25 yX6_offAt, Cond.instanceMethod yX6_offAt, Cond.selects RX6 yX6_offAt yX6_offAt, Cond.code yX6_offAt cX6_offAt 8 (some .int), Cond.fieldLink RX6 15 "PictureCourt$Rows" "bytes" "[B", Cond.methodLink RX6 29 Lib.Math.abs.name, Cond.static Lib.Math.abs.name, Cond.code Lib.Math.abs.name Lib.Math.abs.code 1 (some .int), Cond.methodLink RX5 70 yX5_lastYear, Cond.instanceMethod yX5_lastYear, Cond.selects RX5 yX5_lastYear yX5_lastYear, Cond.code yX5_lastYear cX5_lastYear 2 (some .int), Cond.fieldLink RX5 50 "PictureCourt$Proofs" "mostSap" "I", Cond.fieldLink RX5 53 "PictureCourt$Proofs" "yearsToUse" "I", Cond.methodLink RX5 86 Lib.Math.min.name, Cond.static Lib.Math.min.name, Cond.code Lib.Math.min.name Lib.Math.min.code 2 (some .int), Cond.fieldLink RX5 43 "PictureCourt$Proofs" "tos" "[I"]
def wsX7_told : List Cond := .code yX7_told cX7_told 3 (some .int) :: ((wsX7_told_r1 ++ (wsX7_told_r2 ++ wsX7_told_r3)) ++ wsX70 ++ wsX50 ++ wsX60)
def wsX7_mark_r1 : List Cond := [Cond.fieldLink RX7 10 "PictureCourt" "proofs" "LPictureCourt$Proofs;", Cond.methodLink RX7 165 yX5_has, Cond.instanceMethod yX5_has, Cond.selects RX5 yX5_has yX5_has, Cond.initialized RX5, Cond.code yX5_has cX5_has 2 (some .boolean), Cond.fieldLink RX5 56 "PictureCourt$Proofs" "size" "I", Cond.methodLink RX7 77 yX7_isWithin, Cond.static yX7_isWithin, Cond.initialized RX7, Cond.code yX7_isWithin cX7_isWithin 3 (some .boolean), Cond.methodLink RX7 177 yX5_isOfKind, Cond.instanceMethod yX5_isOfKind, Cond.selects RX5 yX5_isOfKind yX5_isOfKind, Cond.code yX5_isOfKind cX5_isOfKind 3 (some .boolean), Cond.fieldLink RX5 22 "PictureCourt$Proofs" "kinds" "[I", Cond.methodLink RX7 85 yX7_refuse, Cond.instanceMethod yX7_refuse, Cond.selects RX7 yX7_refuse yX7_refuse, Cond.code yX7_refuse cX7_refuse 2 (some .int), Cond.fieldLink RX7 64 "PictureCourt" "latestFinding" "I", Cond.fieldLink RX7 56 "PictureCourt" "findingCounts" "[I", Cond.methodLink RX7 180 yX5_markAs, Cond.instanceMethod yX5_markAs]
def wsX7_mark_r2 : List Cond := [Cond.selects RX5 yX5_markAs yX5_markAs, Cond.code yX5_markAs cX5_markAs 3 (some .int), Cond.fieldLink RX5 34 "PictureCourt$Proofs" "subjects" "[I", Cond.fieldLink RX5 12 "PictureCourt$Proofs" "rows" "LPictureCourt$Rows;", Cond.fieldLink RX5 37 "PictureCourt$Proofs" "otherRows" "[I", Cond.methodLink RX5 73 yX6_isSure, Cond.instanceMethod yX6_isSure, Cond.selects RX6 yX6_isSure yX6_isSure, Cond.initialized RX6, Cond.code yX6_isSure cX6_isSure 6 (some .boolean), Cond.methodLink RX6 35 yX6_canMatch, Cond.instanceMethod yX6_canMatch, Cond.selects RX6 yX6_canMatch yX6_canMatch, Cond.code yX6_canMatch cX6_canMatch 3 (some .boolean), Cond.fieldLink RX6 9 "PictureCourt$Rows" "sizes" "[I", Cond.methodLink RX6 39 yX6_bestPlace, Cond.instanceMethod yX6_bestPlace, Cond.selects RX6 yX6_bestPlace yX6_bestPlace, Cond.code yX6_bestPlace cX6_bestPlace 7 (some .int), Cond.methodLink RX6 25 yX6_offAt, Cond.instanceMethod yX6_offAt, Cond.selects RX6 yX6_offAt yX6_offAt, Cond.code yX6_offAt cX6_offAt 8 (some .int), Cond.fieldLink RX6 15 "PictureCourt$Rows" "bytes" "[B"]
def wsX7_mark_r3 : List Cond := [Cond.methodLink RX6 29 Lib.Math.abs.name, Cond.static Lib.Math.abs.name, Cond.initialized "java/lang/Math", Cond.code Lib.Math.abs.name Lib.Math.abs.code 1 (some .int), Cond.methodLink RX5 70 yX5_lastYear, Cond.instanceMethod yX5_lastYear, Cond.selects RX5 yX5_lastYear yX5_lastYear, Cond.code yX5_lastYear cX5_lastYear 2 (some .int), Cond.fieldLink RX5 40 "PictureCourt$Proofs" "froms" "[I", Cond.fieldLink RX5 50 "PictureCourt$Proofs" "mostSap" "I", Cond.fieldLink RX5 53 "PictureCourt$Proofs" "yearsToUse" "I", Cond.methodLink RX5 86 Lib.Math.min.name, Cond.static Lib.Math.min.name, Cond.code Lib.Math.min.name Lib.Math.min.code 2 (some .int), Cond.fieldLink RX5 43 "PictureCourt$Proofs" "tos" "[I", Cond.methodLink RX5 83 yX5_lacking, Cond.instanceMethod yX5_lacking, Cond.selects RX5 yX5_lacking yX5_lacking, Cond.code yX5_lacking cX5_lacking 3 (some .int), Cond.methodLink RX5 77 Lib.Math.max.name, Cond.static Lib.Math.max.name, Cond.code Lib.Math.max.name Lib.Math.max.code 2 (some .int), Cond.methodLink RX5 66 yX5_firstYear, Cond.instanceMethod yX5_firstYear]
def wsX7_mark_r4 : List Cond := [Cond.selects RX5 yX5_firstYear yX5_firstYear, Cond.code yX5_firstYear cX5_firstYear 2 (some .int), Cond.fieldLink RX5 18 "PictureCourt$Proofs" "paintYears" "[I", Cond.fieldLink RX5 46 "PictureCourt$Proofs" "leastSap" "I"]
def wsX7_mark : List Cond := .code yX7_mark cX7_mark 3 (some .int) :: ((wsX7_mark_r1 ++ (wsX7_mark_r2 ++ (wsX7_mark_r3 ++ wsX7_mark_r4))) ++ wsX70 ++ wsX50 ++ wsX60)
def wsX7_isDay : List Cond := .code yX7_isDay cX7_isDay 1 (some .boolean) :: ([.methodLink RX7 77 yX7_isWithin, .static yX7_isWithin, .initialized RX7, .code yX7_isWithin cX7_isWithin 3 (some .boolean)])
def wsX7_span_r1 : List Cond := [Cond.fieldLink RX7 10 "PictureCourt" "proofs" "LPictureCourt$Proofs;", Cond.fieldLink RX7 24 "PictureCourt" "known" "LPictureCourt$Known;", Cond.methodLink RX7 183 yX7_isDay, Cond.static yX7_isDay, Cond.initialized RX7, Cond.code yX7_isDay cX7_isDay 1 (some .boolean), Cond.methodLink RX7 77 yX7_isWithin, Cond.static yX7_isWithin, Cond.code yX7_isWithin cX7_isWithin 3 (some .boolean), Cond.methodLink RX7 186 yX5_gather, Cond.instanceMethod yX5_gather, Cond.selects RX5 yX5_gather yX5_gather, Cond.initialized RX5, Cond.code yX5_gather cX5_gather 4 none, Cond.fieldLink RX5 93 "PictureCourt$Known" "size" "I", Cond.fieldLink RX5 56 "PictureCourt$Proofs" "size" "I", Cond.fieldLink RX5 25 "PictureCourt$Proofs" "weights" "[I", Cond.methodLink RX5 96 yX5_isKnown, Cond.instanceMethod yX5_isKnown, Cond.selects RX5 yX5_isKnown yX5_isKnown, Cond.code yX5_isKnown cX5_isKnown 3 (some .boolean), Cond.fieldLink RX5 28 "PictureCourt$Proofs" "toldDays" "[I", Cond.fieldLink RX5 31 "PictureCourt$Proofs" "struckDays" "[I", Cond.methodLink RX5 89 yX5_isStruck]
def wsX7_span_r2 : List Cond := [Cond.instanceMethod yX5_isStruck, Cond.selects RX5 yX5_isStruck yX5_isStruck, Cond.code yX5_isStruck cX5_isStruck 2 (some .boolean), Cond.methodLink RX5 66 yX5_firstYear, Cond.instanceMethod yX5_firstYear, Cond.selects RX5 yX5_firstYear yX5_firstYear, Cond.code yX5_firstYear cX5_firstYear 2 (some .int), Cond.fieldLink RX5 22 "PictureCourt$Proofs" "kinds" "[I", Cond.fieldLink RX5 18 "PictureCourt$Proofs" "paintYears" "[I", Cond.fieldLink RX5 34 "PictureCourt$Proofs" "subjects" "[I", Cond.fieldLink RX5 40 "PictureCourt$Proofs" "froms" "[I", Cond.fieldLink RX5 46 "PictureCourt$Proofs" "leastSap" "I", Cond.fieldLink RX5 12 "PictureCourt$Proofs" "rows" "LPictureCourt$Rows;", Cond.fieldLink RX5 37 "PictureCourt$Proofs" "otherRows" "[I", Cond.methodLink RX5 83 yX5_lacking, Cond.instanceMethod yX5_lacking, Cond.selects RX5 yX5_lacking yX5_lacking, Cond.code yX5_lacking cX5_lacking 3 (some .int), Cond.methodLink RX5 77 Lib.Math.max.name, Cond.static Lib.Math.max.name, Cond.initialized "java/lang/Math", Cond.code Lib.Math.max.name Lib.Math.max.code 2 (some .int), Cond.methodLink RX5 73 yX6_isSure, Cond.instanceMethod yX6_isSure]
def wsX7_span_r3 : List Cond := [Cond.selects RX6 yX6_isSure yX6_isSure, Cond.initialized RX6, Cond.code yX6_isSure cX6_isSure 6 (some .boolean), Cond.methodLink RX6 35 yX6_canMatch, Cond.instanceMethod yX6_canMatch, Cond.selects RX6 yX6_canMatch yX6_canMatch, Cond.code yX6_canMatch cX6_canMatch 3 (some .boolean), Cond.fieldLink RX6 9 "PictureCourt$Rows" "sizes" "[I", Cond.methodLink RX6 39 yX6_bestPlace, Cond.instanceMethod yX6_bestPlace, Cond.selects RX6 yX6_bestPlace yX6_bestPlace, Cond.code yX6_bestPlace cX6_bestPlace 7 (some .int), Cond.methodLink RX6 25 yX6_offAt, Cond.instanceMethod yX6_offAt, Cond.selects RX6 yX6_offAt yX6_offAt, Cond.code yX6_offAt cX6_offAt 8 (some .int), Cond.fieldLink RX6 15 "PictureCourt$Rows" "bytes" "[B", Cond.methodLink RX6 29 Lib.Math.abs.name, Cond.static Lib.Math.abs.name, Cond.code Lib.Math.abs.name Lib.Math.abs.code 1 (some .int), Cond.methodLink RX5 70 yX5_lastYear, Cond.instanceMethod yX5_lastYear, Cond.selects RX5 yX5_lastYear yX5_lastYear, Cond.code yX5_lastYear cX5_lastYear 2 (some .int)]
def wsX7_span_r4 : List Cond := [Cond.fieldLink RX5 50 "PictureCourt$Proofs" "mostSap" "I", Cond.fieldLink RX5 53 "PictureCourt$Proofs" "yearsToUse" "I", Cond.methodLink RX5 86 Lib.Math.min.name, Cond.static Lib.Math.min.name, Cond.code Lib.Math.min.name Lib.Math.min.code 2 (some .int), Cond.fieldLink RX5 43 "PictureCourt$Proofs" "tos" "[I", Cond.methodLink RX5 99 yX1_add, Cond.instanceMethod yX1_add, Cond.selects RX1 yX1_add yX1_add, Cond.initialized RX1, Cond.code yX1_add cX1_add 5 none, Cond.fieldLink RX1 9 "PictureCourt$Known" "numbers" "[I", Cond.fieldLink RX1 24 "PictureCourt$Known" "size" "I", Cond.fieldLink RX1 15 "PictureCourt$Known" "froms" "[I", Cond.fieldLink RX1 18 "PictureCourt$Known" "tos" "[I", Cond.fieldLink RX1 21 "PictureCourt$Known" "weights" "[I", Cond.methodLink RX7 190 yX1_firstCommonYear, Cond.instanceMethod yX1_firstCommonYear, Cond.selects RX1 yX1_firstCommonYear yX1_firstCommonYear, Cond.code yX1_firstCommonYear cX1_firstCommonYear 3 (some .int), Cond.methodLink RX1 28 Lib.Math.max.name, Cond.methodLink RX7 194 yX1_lastCommonYear, Cond.instanceMethod yX1_lastCommonYear, Cond.selects RX1 yX1_lastCommonYear yX1_lastCommonYear]
def wsX7_span_r5 : List Cond := [Cond.code yX1_lastCommonYear cX1_lastCommonYear 3 (some .int), Cond.methodLink RX1 34 Lib.Math.min.name]
def wsX7_span : List Cond := .code yX7_span cX7_span 5 (some .int) :: ((wsX7_span_r1 ++ (wsX7_span_r2 ++ (wsX7_span_r3 ++ (wsX7_span_r4 ++ wsX7_span_r5)))) ++ wsX70 ++ wsX10 ++ wsX50 ++ wsX60)
def wsX7_quarrel_r1 : List Cond := [Cond.fieldLink RX7 10 "PictureCourt" "proofs" "LPictureCourt$Proofs;", Cond.fieldLink RX7 24 "PictureCourt" "known" "LPictureCourt$Known;", Cond.fieldLink RX7 197 "PictureCourt$Known" "size" "I", Cond.fieldLink RX7 203 "PictureCourt$Known" "numbers" "[I", Cond.fieldLink RX7 67 "PictureCourt" "askedNumber" "I", Cond.methodLink RX7 183 yX7_isDay, Cond.static yX7_isDay, Cond.initialized RX7, Cond.code yX7_isDay cX7_isDay 1 (some .boolean), Cond.methodLink RX7 77 yX7_isWithin, Cond.static yX7_isWithin, Cond.code yX7_isWithin cX7_isWithin 3 (some .boolean), Cond.methodLink RX7 186 yX5_gather, Cond.instanceMethod yX5_gather, Cond.selects RX5 yX5_gather yX5_gather, Cond.initialized RX5, Cond.code yX5_gather cX5_gather 4 none, Cond.fieldLink RX5 93 "PictureCourt$Known" "size" "I", Cond.fieldLink RX5 56 "PictureCourt$Proofs" "size" "I", Cond.fieldLink RX5 25 "PictureCourt$Proofs" "weights" "[I", Cond.methodLink RX5 96 yX5_isKnown, Cond.instanceMethod yX5_isKnown, Cond.selects RX5 yX5_isKnown yX5_isKnown, Cond.code yX5_isKnown cX5_isKnown 3 (some .boolean)]
def wsX7_quarrel_r2 : List Cond := [Cond.fieldLink RX5 28 "PictureCourt$Proofs" "toldDays" "[I", Cond.fieldLink RX5 31 "PictureCourt$Proofs" "struckDays" "[I", Cond.methodLink RX5 89 yX5_isStruck, Cond.instanceMethod yX5_isStruck, Cond.selects RX5 yX5_isStruck yX5_isStruck, Cond.code yX5_isStruck cX5_isStruck 2 (some .boolean), Cond.methodLink RX5 66 yX5_firstYear, Cond.instanceMethod yX5_firstYear, Cond.selects RX5 yX5_firstYear yX5_firstYear, Cond.code yX5_firstYear cX5_firstYear 2 (some .int), Cond.fieldLink RX5 22 "PictureCourt$Proofs" "kinds" "[I", Cond.fieldLink RX5 18 "PictureCourt$Proofs" "paintYears" "[I", Cond.fieldLink RX5 34 "PictureCourt$Proofs" "subjects" "[I", Cond.fieldLink RX5 40 "PictureCourt$Proofs" "froms" "[I", Cond.fieldLink RX5 46 "PictureCourt$Proofs" "leastSap" "I", Cond.fieldLink RX5 12 "PictureCourt$Proofs" "rows" "LPictureCourt$Rows;", Cond.fieldLink RX5 37 "PictureCourt$Proofs" "otherRows" "[I", Cond.methodLink RX5 83 yX5_lacking, Cond.instanceMethod yX5_lacking, Cond.selects RX5 yX5_lacking yX5_lacking, Cond.code yX5_lacking cX5_lacking 3 (some .int), Cond.methodLink RX5 77 Lib.Math.max.name, Cond.static Lib.Math.max.name, Cond.initialized "java/lang/Math"]
def wsX7_quarrel_r3 : List Cond := [Cond.code Lib.Math.max.name Lib.Math.max.code 2 (some .int), Cond.methodLink RX5 73 yX6_isSure, Cond.instanceMethod yX6_isSure, Cond.selects RX6 yX6_isSure yX6_isSure, Cond.initialized RX6, Cond.code yX6_isSure cX6_isSure 6 (some .boolean), Cond.methodLink RX6 35 yX6_canMatch, Cond.instanceMethod yX6_canMatch, Cond.selects RX6 yX6_canMatch yX6_canMatch, Cond.code yX6_canMatch cX6_canMatch 3 (some .boolean), Cond.fieldLink RX6 9 "PictureCourt$Rows" "sizes" "[I", Cond.methodLink RX6 39 yX6_bestPlace, Cond.instanceMethod yX6_bestPlace, Cond.selects RX6 yX6_bestPlace yX6_bestPlace, Cond.code yX6_bestPlace cX6_bestPlace 7 (some .int), Cond.methodLink RX6 25 yX6_offAt, Cond.instanceMethod yX6_offAt, Cond.selects RX6 yX6_offAt yX6_offAt, Cond.code yX6_offAt cX6_offAt 8 (some .int), Cond.fieldLink RX6 15 "PictureCourt$Rows" "bytes" "[B", Cond.methodLink RX6 29 Lib.Math.abs.name, Cond.static Lib.Math.abs.name, Cond.code Lib.Math.abs.name Lib.Math.abs.code 1 (some .int), Cond.methodLink RX5 70 yX5_lastYear]
def wsX7_quarrel_r4 : List Cond := [Cond.instanceMethod yX5_lastYear, Cond.selects RX5 yX5_lastYear yX5_lastYear, Cond.code yX5_lastYear cX5_lastYear 2 (some .int), Cond.fieldLink RX5 50 "PictureCourt$Proofs" "mostSap" "I", Cond.fieldLink RX5 53 "PictureCourt$Proofs" "yearsToUse" "I", Cond.methodLink RX5 86 Lib.Math.min.name, Cond.static Lib.Math.min.name, Cond.code Lib.Math.min.name Lib.Math.min.code 2 (some .int), Cond.fieldLink RX5 43 "PictureCourt$Proofs" "tos" "[I", Cond.methodLink RX5 99 yX1_add, Cond.instanceMethod yX1_add, Cond.selects RX1 yX1_add yX1_add, Cond.initialized RX1, Cond.code yX1_add cX1_add 5 none, Cond.fieldLink RX1 9 "PictureCourt$Known" "numbers" "[I", Cond.fieldLink RX1 24 "PictureCourt$Known" "size" "I", Cond.fieldLink RX1 15 "PictureCourt$Known" "froms" "[I", Cond.fieldLink RX1 18 "PictureCourt$Known" "tos" "[I", Cond.fieldLink RX1 21 "PictureCourt$Known" "weights" "[I", Cond.methodLink RX7 200 yX1_opponentAfter, Cond.instanceMethod yX1_opponentAfter, Cond.selects RX1 yX1_opponentAfter yX1_opponentAfter, Cond.code yX1_opponentAfter cX1_opponentAfter 3 (some .int)]
def wsX7_quarrel : List Cond := .code yX7_quarrel cX7_quarrel 4 (some .int) :: ((wsX7_quarrel_r1 ++ (wsX7_quarrel_r2 ++ (wsX7_quarrel_r3 ++ wsX7_quarrel_r4))) ++ wsX70 ++ wsX10 ++ wsX50 ++ wsX60)
def wsX7_leftOut_r1 : List Cond := [Cond.fieldLink RX7 10 "PictureCourt" "proofs" "LPictureCourt$Proofs;", Cond.fieldLink RX7 24 "PictureCourt" "known" "LPictureCourt$Known;", Cond.fieldLink RX7 67 "PictureCourt" "askedNumber" "I", Cond.methodLink RX7 183 yX7_isDay, Cond.static yX7_isDay, Cond.initialized RX7, Cond.code yX7_isDay cX7_isDay 1 (some .boolean), Cond.methodLink RX7 77 yX7_isWithin, Cond.static yX7_isWithin, Cond.code yX7_isWithin cX7_isWithin 3 (some .boolean), Cond.methodLink RX7 186 yX5_gather, Cond.instanceMethod yX5_gather, Cond.selects RX5 yX5_gather yX5_gather, Cond.initialized RX5, Cond.code yX5_gather cX5_gather 4 none, Cond.fieldLink RX5 93 "PictureCourt$Known" "size" "I", Cond.fieldLink RX5 56 "PictureCourt$Proofs" "size" "I", Cond.fieldLink RX5 25 "PictureCourt$Proofs" "weights" "[I", Cond.methodLink RX5 96 yX5_isKnown, Cond.instanceMethod yX5_isKnown, Cond.selects RX5 yX5_isKnown yX5_isKnown, Cond.code yX5_isKnown cX5_isKnown 3 (some .boolean), Cond.fieldLink RX5 28 "PictureCourt$Proofs" "toldDays" "[I", Cond.fieldLink RX5 31 "PictureCourt$Proofs" "struckDays" "[I"]
def wsX7_leftOut_r2 : List Cond := [Cond.methodLink RX5 89 yX5_isStruck, Cond.instanceMethod yX5_isStruck, Cond.selects RX5 yX5_isStruck yX5_isStruck, Cond.code yX5_isStruck cX5_isStruck 2 (some .boolean), Cond.methodLink RX5 66 yX5_firstYear, Cond.instanceMethod yX5_firstYear, Cond.selects RX5 yX5_firstYear yX5_firstYear, Cond.code yX5_firstYear cX5_firstYear 2 (some .int), Cond.fieldLink RX5 22 "PictureCourt$Proofs" "kinds" "[I", Cond.fieldLink RX5 18 "PictureCourt$Proofs" "paintYears" "[I", Cond.fieldLink RX5 34 "PictureCourt$Proofs" "subjects" "[I", Cond.fieldLink RX5 40 "PictureCourt$Proofs" "froms" "[I", Cond.fieldLink RX5 46 "PictureCourt$Proofs" "leastSap" "I", Cond.fieldLink RX5 12 "PictureCourt$Proofs" "rows" "LPictureCourt$Rows;", Cond.fieldLink RX5 37 "PictureCourt$Proofs" "otherRows" "[I", Cond.methodLink RX5 83 yX5_lacking, Cond.instanceMethod yX5_lacking, Cond.selects RX5 yX5_lacking yX5_lacking, Cond.code yX5_lacking cX5_lacking 3 (some .int), Cond.methodLink RX5 77 Lib.Math.max.name, Cond.static Lib.Math.max.name, Cond.initialized "java/lang/Math", Cond.code Lib.Math.max.name Lib.Math.max.code 2 (some .int), Cond.methodLink RX5 73 yX6_isSure]
def wsX7_leftOut_r3 : List Cond := [Cond.instanceMethod yX6_isSure, Cond.selects RX6 yX6_isSure yX6_isSure, Cond.initialized RX6, Cond.code yX6_isSure cX6_isSure 6 (some .boolean), Cond.methodLink RX6 35 yX6_canMatch, Cond.instanceMethod yX6_canMatch, Cond.selects RX6 yX6_canMatch yX6_canMatch, Cond.code yX6_canMatch cX6_canMatch 3 (some .boolean), Cond.fieldLink RX6 9 "PictureCourt$Rows" "sizes" "[I", Cond.methodLink RX6 39 yX6_bestPlace, Cond.instanceMethod yX6_bestPlace, Cond.selects RX6 yX6_bestPlace yX6_bestPlace, Cond.code yX6_bestPlace cX6_bestPlace 7 (some .int), Cond.methodLink RX6 25 yX6_offAt, Cond.instanceMethod yX6_offAt, Cond.selects RX6 yX6_offAt yX6_offAt, Cond.code yX6_offAt cX6_offAt 8 (some .int), Cond.fieldLink RX6 15 "PictureCourt$Rows" "bytes" "[B", Cond.methodLink RX6 29 Lib.Math.abs.name, Cond.static Lib.Math.abs.name, Cond.code Lib.Math.abs.name Lib.Math.abs.code 1 (some .int), Cond.methodLink RX5 70 yX5_lastYear, Cond.instanceMethod yX5_lastYear, Cond.selects RX5 yX5_lastYear yX5_lastYear]
def wsX7_leftOut_r4 : List Cond := [Cond.code yX5_lastYear cX5_lastYear 2 (some .int), Cond.fieldLink RX5 50 "PictureCourt$Proofs" "mostSap" "I", Cond.fieldLink RX5 53 "PictureCourt$Proofs" "yearsToUse" "I", Cond.methodLink RX5 86 Lib.Math.min.name, Cond.static Lib.Math.min.name, Cond.code Lib.Math.min.name Lib.Math.min.code 2 (some .int), Cond.fieldLink RX5 43 "PictureCourt$Proofs" "tos" "[I", Cond.methodLink RX5 99 yX1_add, Cond.instanceMethod yX1_add, Cond.selects RX1 yX1_add yX1_add, Cond.initialized RX1, Cond.code yX1_add cX1_add 5 none, Cond.fieldLink RX1 9 "PictureCourt$Known" "numbers" "[I", Cond.fieldLink RX1 24 "PictureCourt$Known" "size" "I", Cond.fieldLink RX1 15 "PictureCourt$Known" "froms" "[I", Cond.fieldLink RX1 18 "PictureCourt$Known" "tos" "[I", Cond.fieldLink RX1 21 "PictureCourt$Known" "weights" "[I", Cond.methodLink RX7 206 yX1_heaviestYear, Cond.instanceMethod yX1_heaviestYear, Cond.selects RX1 yX1_heaviestYear yX1_heaviestYear, Cond.code yX1_heaviestYear cX1_heaviestYear 5 (some .int), Cond.methodLink RX1 37 yX1_weightOn, Cond.instanceMethod yX1_weightOn, Cond.selects RX1 yX1_weightOn yX1_weightOn]
def wsX7_leftOut_r5 : List Cond := [Cond.code yX1_weightOn cX1_weightOn 4 (some .int), Cond.methodLink RX1 41 yX1_holds, Cond.instanceMethod yX1_holds, Cond.selects RX1 yX1_holds yX1_holds, Cond.code yX1_holds cX1_holds 3 (some .boolean), Cond.methodLink RX7 209 yX1_setWithout, Cond.instanceMethod yX1_setWithout, Cond.selects RX1 yX1_setWithout yX1_setWithout, Cond.code yX1_setWithout cX1_setWithout 4 (some .int), Cond.methodLink RX7 212 yX1_weightOfAll, Cond.instanceMethod yX1_weightOfAll, Cond.selects RX1 yX1_weightOfAll yX1_weightOfAll, Cond.code yX1_weightOfAll cX1_weightOfAll 3 (some .int), Cond.methodLink RX7 215 yX1_weightOn]
def wsX7_leftOut : List Cond := .code yX7_leftOut cX7_leftOut 3 (some .int) :: ((wsX7_leftOut_r1 ++ (wsX7_leftOut_r2 ++ (wsX7_leftOut_r3 ++ (wsX7_leftOut_r4 ++ wsX7_leftOut_r5)))) ++ wsX70 ++ wsX10 ++ wsX50 ++ wsX60)
def wsX7_heldYear_r1 : List Cond := [Cond.fieldLink RX7 10 "PictureCourt" "proofs" "LPictureCourt$Proofs;", Cond.fieldLink RX7 24 "PictureCourt" "known" "LPictureCourt$Known;", Cond.methodLink RX7 183 yX7_isDay, Cond.static yX7_isDay, Cond.initialized RX7, Cond.code yX7_isDay cX7_isDay 1 (some .boolean), Cond.methodLink RX7 77 yX7_isWithin, Cond.static yX7_isWithin, Cond.code yX7_isWithin cX7_isWithin 3 (some .boolean), Cond.methodLink RX7 186 yX5_gather, Cond.instanceMethod yX5_gather, Cond.selects RX5 yX5_gather yX5_gather, Cond.initialized RX5, Cond.code yX5_gather cX5_gather 4 none, Cond.fieldLink RX5 93 "PictureCourt$Known" "size" "I", Cond.fieldLink RX5 56 "PictureCourt$Proofs" "size" "I", Cond.fieldLink RX5 25 "PictureCourt$Proofs" "weights" "[I", Cond.methodLink RX5 96 yX5_isKnown, Cond.instanceMethod yX5_isKnown, Cond.selects RX5 yX5_isKnown yX5_isKnown, Cond.code yX5_isKnown cX5_isKnown 3 (some .boolean), Cond.fieldLink RX5 28 "PictureCourt$Proofs" "toldDays" "[I", Cond.fieldLink RX5 31 "PictureCourt$Proofs" "struckDays" "[I", Cond.methodLink RX5 89 yX5_isStruck]
def wsX7_heldYear_r2 : List Cond := [Cond.instanceMethod yX5_isStruck, Cond.selects RX5 yX5_isStruck yX5_isStruck, Cond.code yX5_isStruck cX5_isStruck 2 (some .boolean), Cond.methodLink RX5 66 yX5_firstYear, Cond.instanceMethod yX5_firstYear, Cond.selects RX5 yX5_firstYear yX5_firstYear, Cond.code yX5_firstYear cX5_firstYear 2 (some .int), Cond.fieldLink RX5 22 "PictureCourt$Proofs" "kinds" "[I", Cond.fieldLink RX5 18 "PictureCourt$Proofs" "paintYears" "[I", Cond.fieldLink RX5 34 "PictureCourt$Proofs" "subjects" "[I", Cond.fieldLink RX5 40 "PictureCourt$Proofs" "froms" "[I", Cond.fieldLink RX5 46 "PictureCourt$Proofs" "leastSap" "I", Cond.fieldLink RX5 12 "PictureCourt$Proofs" "rows" "LPictureCourt$Rows;", Cond.fieldLink RX5 37 "PictureCourt$Proofs" "otherRows" "[I", Cond.methodLink RX5 83 yX5_lacking, Cond.instanceMethod yX5_lacking, Cond.selects RX5 yX5_lacking yX5_lacking, Cond.code yX5_lacking cX5_lacking 3 (some .int), Cond.methodLink RX5 77 Lib.Math.max.name, Cond.static Lib.Math.max.name, Cond.initialized "java/lang/Math", Cond.code Lib.Math.max.name Lib.Math.max.code 2 (some .int), Cond.methodLink RX5 73 yX6_isSure, Cond.instanceMethod yX6_isSure]
def wsX7_heldYear_r3 : List Cond := [Cond.selects RX6 yX6_isSure yX6_isSure, Cond.initialized RX6, Cond.code yX6_isSure cX6_isSure 6 (some .boolean), Cond.methodLink RX6 35 yX6_canMatch, Cond.instanceMethod yX6_canMatch, Cond.selects RX6 yX6_canMatch yX6_canMatch, Cond.code yX6_canMatch cX6_canMatch 3 (some .boolean), Cond.fieldLink RX6 9 "PictureCourt$Rows" "sizes" "[I", Cond.methodLink RX6 39 yX6_bestPlace, Cond.instanceMethod yX6_bestPlace, Cond.selects RX6 yX6_bestPlace yX6_bestPlace, Cond.code yX6_bestPlace cX6_bestPlace 7 (some .int), Cond.methodLink RX6 25 yX6_offAt, Cond.instanceMethod yX6_offAt, Cond.selects RX6 yX6_offAt yX6_offAt, Cond.code yX6_offAt cX6_offAt 8 (some .int), Cond.fieldLink RX6 15 "PictureCourt$Rows" "bytes" "[B", Cond.methodLink RX6 29 Lib.Math.abs.name, Cond.static Lib.Math.abs.name, Cond.code Lib.Math.abs.name Lib.Math.abs.code 1 (some .int), Cond.methodLink RX5 70 yX5_lastYear, Cond.instanceMethod yX5_lastYear, Cond.selects RX5 yX5_lastYear yX5_lastYear, Cond.code yX5_lastYear cX5_lastYear 2 (some .int)]
def wsX7_heldYear_r4 : List Cond := [Cond.fieldLink RX5 50 "PictureCourt$Proofs" "mostSap" "I", Cond.fieldLink RX5 53 "PictureCourt$Proofs" "yearsToUse" "I", Cond.methodLink RX5 86 Lib.Math.min.name, Cond.static Lib.Math.min.name, Cond.code Lib.Math.min.name Lib.Math.min.code 2 (some .int), Cond.fieldLink RX5 43 "PictureCourt$Proofs" "tos" "[I", Cond.methodLink RX5 99 yX1_add, Cond.instanceMethod yX1_add, Cond.selects RX1 yX1_add yX1_add, Cond.initialized RX1, Cond.code yX1_add cX1_add 5 none, Cond.fieldLink RX1 9 "PictureCourt$Known" "numbers" "[I", Cond.fieldLink RX1 24 "PictureCourt$Known" "size" "I", Cond.fieldLink RX1 15 "PictureCourt$Known" "froms" "[I", Cond.fieldLink RX1 18 "PictureCourt$Known" "tos" "[I", Cond.fieldLink RX1 21 "PictureCourt$Known" "weights" "[I", Cond.methodLink RX7 206 yX1_heaviestYear, Cond.instanceMethod yX1_heaviestYear, Cond.selects RX1 yX1_heaviestYear yX1_heaviestYear, Cond.code yX1_heaviestYear cX1_heaviestYear 5 (some .int), Cond.methodLink RX1 37 yX1_weightOn, Cond.instanceMethod yX1_weightOn, Cond.selects RX1 yX1_weightOn yX1_weightOn, Cond.code yX1_weightOn cX1_weightOn 4 (some .int)]
def wsX7_heldYear_r5 : List Cond := [Cond.methodLink RX1 41 yX1_holds, Cond.instanceMethod yX1_holds, Cond.selects RX1 yX1_holds yX1_holds, Cond.code yX1_holds cX1_holds 3 (some .boolean)]
def wsX7_heldYear : List Cond := .code yX7_heldYear cX7_heldYear 2 (some .int) :: ((wsX7_heldYear_r1 ++ (wsX7_heldYear_r2 ++ (wsX7_heldYear_r3 ++ (wsX7_heldYear_r4 ++ wsX7_heldYear_r5)))) ++ wsX70 ++ wsX10 ++ wsX50 ++ wsX60)
def wsX7_isHand : List Cond := .code yX7_isHand cX7_isHand 1 (some .boolean) :: ([.methodLink RX7 77 yX7_isWithin, .static yX7_isWithin, .initialized RX7, .code yX7_isWithin cX7_isWithin 3 (some .boolean)])
def wsX7_hand : List Cond := .code yX7_hand cX7_hand 3 (some .int) :: ([.fieldLink RX7 31 "PictureCourt" "odds" "LPictureCourt$Odds;", .methodLink RX7 218 yX7_isHand, .static yX7_isHand, .initialized RX7, .code yX7_isHand cX7_isHand 1 (some .boolean), .methodLink RX7 77 yX7_isWithin, .static yX7_isWithin, .code yX7_isWithin cX7_isWithin 3 (some .boolean), .methodLink RX7 221 yX2_swapWeight, .instanceMethod yX2_swapWeight, .selects RX2 yX2_swapWeight yX2_swapWeight, .initialized RX2, .code yX2_swapWeight cX2_swapWeight 4 (some .int), .fieldLink RX2 9 "PictureCourt$Odds" "handWeights" "[I"] ++ wsX70 ++ wsX20)
def wsX7_test : List Cond := .code yX7_test cX7_test 5 (some .int) :: ([.fieldLink RX7 31 "PictureCourt" "odds" "LPictureCourt$Odds;", .methodLink RX7 77 yX7_isWithin, .static yX7_isWithin, .initialized RX7, .code yX7_isWithin cX7_isWithin 3 (some .boolean), .methodLink RX7 224 yX2_isFull, .instanceMethod yX2_isFull, .selects RX2 yX2_isFull yX2_isFull, .initialized RX2, .code yX2_isFull cX2_isFull 1 (some .boolean), .fieldLink RX2 37 "PictureCourt$Odds" "size" "I", .methodLink RX7 225 yX2_add, .instanceMethod yX2_add, .selects RX2 yX2_add yX2_add, .code yX2_add cX2_add 5 (some .int), .fieldLink RX2 15 "PictureCourt$Odds" "costs" "[I", .fieldLink RX2 18 "PictureCourt$Odds" "wounds" "[I", .fieldLink RX2 21 "PictureCourt$Odds" "groups" "[I", .fieldLink RX2 27 "PictureCourt$Odds" "results" "[I", .fieldLink RX2 24 "PictureCourt$Odds" "oftens" "[I"] ++ wsX70 ++ wsX20)
def wsX7_often : List Cond := .code yX7_often cX7_often 4 (some .int) :: ([.fieldLink RX7 31 "PictureCourt" "odds" "LPictureCourt$Odds;", .methodLink RX7 228 yX2_has, .instanceMethod yX2_has, .selects RX2 yX2_has yX2_has, .initialized RX2, .code yX2_has cX2_has 2 (some .boolean), .fieldLink RX2 37 "PictureCourt$Odds" "size" "I", .methodLink RX7 218 yX7_isHand, .static yX7_isHand, .initialized RX7, .code yX7_isHand cX7_isHand 1 (some .boolean), .methodLink RX7 77 yX7_isWithin, .static yX7_isWithin, .code yX7_isWithin cX7_isWithin 3 (some .boolean), .methodLink RX7 229 yX2_isDone, .instanceMethod yX2_isDone, .selects RX2 yX2_isDone yX2_isDone, .code yX2_isDone cX2_isDone 2 (some .boolean), .fieldLink RX2 27 "PictureCourt$Odds" "results" "[I", .methodLink RX7 232 yX2_swapOften, .instanceMethod yX2_swapOften, .selects RX2 yX2_swapOften yX2_swapOften, .code yX2_swapOften cX2_swapOften 5 (some .int), .fieldLink RX2 24 "PictureCourt$Odds" "oftens" "[I"] ++ wsX70 ++ wsX20)
def wsX7_done : List Cond := .code yX7_done cX7_done 3 (some .int) :: ([.fieldLink RX7 31 "PictureCourt" "odds" "LPictureCourt$Odds;", .methodLink RX7 228 yX2_has, .instanceMethod yX2_has, .selects RX2 yX2_has yX2_has, .initialized RX2, .code yX2_has cX2_has 2 (some .boolean), .fieldLink RX2 37 "PictureCourt$Odds" "size" "I", .methodLink RX7 229 yX2_isDone, .instanceMethod yX2_isDone, .selects RX2 yX2_isDone yX2_isDone, .code yX2_isDone cX2_isDone 2 (some .boolean), .fieldLink RX2 27 "PictureCourt$Odds" "results" "[I", .methodLink RX7 235 yX2_finish, .instanceMethod yX2_finish, .selects RX2 yX2_finish yX2_finish, .code yX2_finish cX2_finish 3 (some .boolean), .fieldLink RX2 30 "PictureCourt$Odds" "counts" "[Z", .fieldLink RX2 21 "PictureCourt$Odds" "groups" "[I", .fieldLink RX2 34 "PictureCourt$Odds" "groupsDone" "[Z", .fieldLink RX2 41 "PictureCourt$Odds" "finished" "I", .methodLink RX2 48 yX2_isGroupDone, .instanceMethod yX2_isGroupDone, .selects RX2 yX2_isGroupDone yX2_isGroupDone, .code yX2_isGroupDone cX2_isGroupDone 2 (some .boolean)] ++ wsX70 ++ wsX20)
def wsX7_commonDivisor : List Cond := .code yX7_commonDivisor cX7_commonDivisor 7 (some .long) :: ([])
def wsX7_tellFraction : List Cond := .code yX7_tellFraction cX7_tellFraction 7 none :: ([.methodLink RX7 353 Lib.MathLoose.max_long.x, .static Lib.MathLoose.max_long.x, .initialized "java/lang/Math", .code Lib.MathLoose.max_long.x Lib.MathLoose.max_long.code 4 (some .long), .fieldLink RX7 70 "PictureCourt" "upperNumber" "J", .fieldLink RX7 74 "PictureCourt" "lowerNumber" "J", .methodLink RX7 349 yX7_commonDivisor, .static yX7_commonDivisor, .initialized RX7, .code yX7_commonDivisor cX7_commonDivisor 7 (some .long)] ++ wsX70)
def wsX7_chance_r1 : List Cond := [Cond.fieldLink RX7 31 "PictureCourt" "odds" "LPictureCourt$Odds;", Cond.methodLink RX7 218 yX7_isHand, Cond.static yX7_isHand, Cond.initialized RX7, Cond.code yX7_isHand cX7_isHand 1 (some .boolean), Cond.methodLink RX7 77 yX7_isWithin, Cond.static yX7_isWithin, Cond.code yX7_isWithin cX7_isWithin 3 (some .boolean), Cond.methodLink RX7 239 yX2_scoreOfAll, Cond.instanceMethod yX2_scoreOfAll, Cond.selects RX2 yX2_scoreOfAll yX2_scoreOfAll, Cond.initialized RX2, Cond.code yX2_scoreOfAll cX2_scoreOfAll 4 (some .long), Cond.methodLink RX2 51 yX2_score, Cond.instanceMethod yX2_score, Cond.selects RX2 yX2_score yX2_score, Cond.code yX2_score cX2_score 6 (some .long), Cond.fieldLink RX2 9 "PictureCourt$Odds" "handWeights" "[I", Cond.fieldLink RX2 37 "PictureCourt$Odds" "size" "I", Cond.fieldLink RX2 30 "PictureCourt$Odds" "counts" "[Z", Cond.fieldLink RX2 24 "PictureCourt$Odds" "oftens" "[I", Cond.fieldLink RX2 27 "PictureCourt$Odds" "results" "[I", Cond.methodLink RX7 85 yX7_refuse, Cond.instanceMethod yX7_refuse]
def wsX7_chance_r2 : List Cond := [Cond.selects RX7 yX7_refuse yX7_refuse, Cond.code yX7_refuse cX7_refuse 2 (some .int), Cond.fieldLink RX7 64 "PictureCourt" "latestFinding" "I", Cond.fieldLink RX7 56 "PictureCourt" "findingCounts" "[I", Cond.methodLink RX7 243 yX2_score, Cond.methodLink RX7 247 yX7_tellFraction, Cond.instanceMethod yX7_tellFraction, Cond.selects RX7 yX7_tellFraction yX7_tellFraction, Cond.code yX7_tellFraction cX7_tellFraction 7 none, Cond.methodLink RX7 353 Lib.MathLoose.max_long.x, Cond.static Lib.MathLoose.max_long.x, Cond.initialized "java/lang/Math", Cond.code Lib.MathLoose.max_long.x Lib.MathLoose.max_long.code 4 (some .long), Cond.fieldLink RX7 70 "PictureCourt" "upperNumber" "J", Cond.fieldLink RX7 74 "PictureCourt" "lowerNumber" "J", Cond.methodLink RX7 349 yX7_commonDivisor, Cond.static yX7_commonDivisor, Cond.code yX7_commonDivisor cX7_commonDivisor 7 (some .long)]
def wsX7_chance : List Cond := .code yX7_chance cX7_chance 4 (some .int) :: ((wsX7_chance_r1 ++ wsX7_chance_r2) ++ wsX70 ++ wsX20)
def wsX7_likely_r1 : List Cond := [Cond.fieldLink RX7 31 "PictureCourt" "odds" "LPictureCourt$Odds;", Cond.methodLink RX7 239 yX2_scoreOfAll, Cond.instanceMethod yX2_scoreOfAll, Cond.selects RX2 yX2_scoreOfAll yX2_scoreOfAll, Cond.initialized RX2, Cond.code yX2_scoreOfAll cX2_scoreOfAll 4 (some .long), Cond.methodLink RX2 51 yX2_score, Cond.instanceMethod yX2_score, Cond.selects RX2 yX2_score yX2_score, Cond.code yX2_score cX2_score 6 (some .long), Cond.fieldLink RX2 9 "PictureCourt$Odds" "handWeights" "[I", Cond.fieldLink RX2 37 "PictureCourt$Odds" "size" "I", Cond.fieldLink RX2 30 "PictureCourt$Odds" "counts" "[Z", Cond.fieldLink RX2 24 "PictureCourt$Odds" "oftens" "[I", Cond.fieldLink RX2 27 "PictureCourt$Odds" "results" "[I", Cond.methodLink RX7 85 yX7_refuse, Cond.instanceMethod yX7_refuse, Cond.selects RX7 yX7_refuse yX7_refuse, Cond.initialized RX7, Cond.code yX7_refuse cX7_refuse 2 (some .int), Cond.fieldLink RX7 64 "PictureCourt" "latestFinding" "I", Cond.fieldLink RX7 56 "PictureCourt" "findingCounts" "[I", Cond.methodLink RX7 251 yX2_likeliest, Cond.instanceMethod yX2_likeliest]
def wsX7_likely_r2 : List Cond := [Cond.selects RX2 yX2_likeliest yX2_likeliest, Cond.code yX2_likeliest cX2_likeliest 3 (some .int)]
def wsX7_likely : List Cond := .code yX7_likely cX7_likely 1 (some .int) :: ((wsX7_likely_r1 ++ wsX7_likely_r2) ++ wsX70 ++ wsX20)
def wsX7_gain_r1 : List Cond := [Cond.fieldLink RX7 31 "PictureCourt" "odds" "LPictureCourt$Odds;", Cond.constantLong RX7 260 (16), Cond.methodLink RX7 228 yX2_has, Cond.instanceMethod yX2_has, Cond.selects RX2 yX2_has yX2_has, Cond.initialized RX2, Cond.code yX2_has cX2_has 2 (some .boolean), Cond.fieldLink RX2 37 "PictureCourt$Odds" "size" "I", Cond.methodLink RX7 254 yX2_isOpen, Cond.instanceMethod yX2_isOpen, Cond.selects RX2 yX2_isOpen yX2_isOpen, Cond.code yX2_isOpen cX2_isOpen 2 (some .boolean), Cond.methodLink RX2 44 yX2_isDone, Cond.instanceMethod yX2_isDone, Cond.selects RX2 yX2_isDone yX2_isDone, Cond.code yX2_isDone cX2_isDone 2 (some .boolean), Cond.fieldLink RX2 27 "PictureCourt$Odds" "results" "[I", Cond.methodLink RX2 48 yX2_isGroupDone, Cond.instanceMethod yX2_isGroupDone, Cond.selects RX2 yX2_isGroupDone yX2_isGroupDone, Cond.code yX2_isGroupDone cX2_isGroupDone 2 (some .boolean), Cond.fieldLink RX2 21 "PictureCourt$Odds" "groups" "[I", Cond.fieldLink RX2 34 "PictureCourt$Odds" "groupsDone" "[Z", Cond.methodLink RX7 239 yX2_scoreOfAll]
def wsX7_gain_r2 : List Cond := [Cond.instanceMethod yX2_scoreOfAll, Cond.selects RX2 yX2_scoreOfAll yX2_scoreOfAll, Cond.code yX2_scoreOfAll cX2_scoreOfAll 4 (some .long), Cond.methodLink RX2 51 yX2_score, Cond.instanceMethod yX2_score, Cond.selects RX2 yX2_score yX2_score, Cond.code yX2_score cX2_score 6 (some .long), Cond.fieldLink RX2 9 "PictureCourt$Odds" "handWeights" "[I", Cond.fieldLink RX2 30 "PictureCourt$Odds" "counts" "[Z", Cond.fieldLink RX2 24 "PictureCourt$Odds" "oftens" "[I", Cond.methodLink RX7 85 yX7_refuse, Cond.instanceMethod yX7_refuse, Cond.selects RX7 yX7_refuse yX7_refuse, Cond.initialized RX7, Cond.code yX7_refuse cX7_refuse 2 (some .int), Cond.fieldLink RX7 64 "PictureCourt" "latestFinding" "I", Cond.fieldLink RX7 56 "PictureCourt" "findingCounts" "[I", Cond.methodLink RX7 257 yX2_gainOf, Cond.instanceMethod yX2_gainOf, Cond.selects RX2 yX2_gainOf yX2_gainOf, Cond.code yX2_gainOf cX2_gainOf 12 (some .long), Cond.methodLink RX2 55 Lib.MathLoose.max_long.x, Cond.static Lib.MathLoose.max_long.x, Cond.initialized "java/lang/Math"]
def wsX7_gain_r3 : List Cond := [Cond.code Lib.MathLoose.max_long.x Lib.MathLoose.max_long.code 4 (some .long), Cond.constantLong RX2 61 (16), Cond.methodLink RX7 247 yX7_tellFraction, Cond.instanceMethod yX7_tellFraction, Cond.selects RX7 yX7_tellFraction yX7_tellFraction, Cond.code yX7_tellFraction cX7_tellFraction 7 none, Cond.methodLink RX7 353 Lib.MathLoose.max_long.x, Cond.fieldLink RX7 70 "PictureCourt" "upperNumber" "J", Cond.fieldLink RX7 74 "PictureCourt" "lowerNumber" "J", Cond.methodLink RX7 349 yX7_commonDivisor, Cond.static yX7_commonDivisor, Cond.code yX7_commonDivisor cX7_commonDivisor 7 (some .long)]
def wsX7_gain : List Cond := .code yX7_gain cX7_gain 4 (some .int) :: ((wsX7_gain_r1 ++ (wsX7_gain_r2 ++ wsX7_gain_r3)) ++ wsX70 ++ wsX20)
def wsX7_next_r1 : List Cond := [Cond.fieldLink RX7 31 "PictureCourt" "odds" "LPictureCourt$Odds;", Cond.methodLink RX7 239 yX2_scoreOfAll, Cond.instanceMethod yX2_scoreOfAll, Cond.selects RX2 yX2_scoreOfAll yX2_scoreOfAll, Cond.initialized RX2, Cond.code yX2_scoreOfAll cX2_scoreOfAll 4 (some .long), Cond.methodLink RX2 51 yX2_score, Cond.instanceMethod yX2_score, Cond.selects RX2 yX2_score yX2_score, Cond.code yX2_score cX2_score 6 (some .long), Cond.fieldLink RX2 9 "PictureCourt$Odds" "handWeights" "[I", Cond.fieldLink RX2 37 "PictureCourt$Odds" "size" "I", Cond.fieldLink RX2 30 "PictureCourt$Odds" "counts" "[Z", Cond.fieldLink RX2 24 "PictureCourt$Odds" "oftens" "[I", Cond.fieldLink RX2 27 "PictureCourt$Odds" "results" "[I", Cond.methodLink RX7 85 yX7_refuse, Cond.instanceMethod yX7_refuse, Cond.selects RX7 yX7_refuse yX7_refuse, Cond.initialized RX7, Cond.code yX7_refuse cX7_refuse 2 (some .int), Cond.fieldLink RX7 64 "PictureCourt" "latestFinding" "I", Cond.fieldLink RX7 56 "PictureCourt" "findingCounts" "[I", Cond.methodLink RX7 262 yX2_best, Cond.instanceMethod yX2_best]
def wsX7_next_r2 : List Cond := [Cond.selects RX2 yX2_best yX2_best, Cond.code yX2_best cX2_best 9 (some .int), Cond.fieldLink RX2 15 "PictureCourt$Odds" "costs" "[I", Cond.fieldLink RX2 18 "PictureCourt$Odds" "wounds" "[I", Cond.methodLink RX2 63 yX2_isOpen, Cond.instanceMethod yX2_isOpen, Cond.selects RX2 yX2_isOpen yX2_isOpen, Cond.code yX2_isOpen cX2_isOpen 2 (some .boolean), Cond.methodLink RX2 44 yX2_isDone, Cond.instanceMethod yX2_isDone, Cond.selects RX2 yX2_isDone yX2_isDone, Cond.code yX2_isDone cX2_isDone 2 (some .boolean), Cond.methodLink RX2 48 yX2_isGroupDone, Cond.instanceMethod yX2_isGroupDone, Cond.selects RX2 yX2_isGroupDone yX2_isGroupDone, Cond.code yX2_isGroupDone cX2_isGroupDone 2 (some .boolean), Cond.fieldLink RX2 21 "PictureCourt$Odds" "groups" "[I", Cond.fieldLink RX2 34 "PictureCourt$Odds" "groupsDone" "[Z", Cond.methodLink RX2 66 yX2_gainOf, Cond.instanceMethod yX2_gainOf, Cond.selects RX2 yX2_gainOf yX2_gainOf, Cond.code yX2_gainOf cX2_gainOf 12 (some .long), Cond.methodLink RX2 55 Lib.MathLoose.max_long.x, Cond.static Lib.MathLoose.max_long.x]
def wsX7_next_r3 : List Cond := [Cond.initialized "java/lang/Math", Cond.code Lib.MathLoose.max_long.x Lib.MathLoose.max_long.code 4 (some .long), Cond.constantLong RX2 61 (16)]
def wsX7_next : List Cond := .code yX7_next cX7_next 3 (some .int) :: ((wsX7_next_r1 ++ (wsX7_next_r2 ++ wsX7_next_r3)) ++ wsX70 ++ wsX20)
def wsX7_owner : List Cond := .code yX7_owner cX7_owner 3 (some .int) :: ([.fieldLink RX7 38 "PictureCourt" "owners" "LPictureCourt$Owners;", .methodLink RX7 141 yX7_areYears, .static yX7_areYears, .initialized RX7, .code yX7_areYears cX7_areYears 2 (some .boolean), .methodLink RX7 131 yX7_isYear, .static yX7_isYear, .code yX7_isYear cX7_isYear 1 (some .boolean), .methodLink RX7 77 yX7_isWithin, .static yX7_isWithin, .code yX7_isWithin cX7_isWithin 3 (some .boolean), .methodLink RX7 265 yX4_isFull, .instanceMethod yX4_isFull, .selects RX4 yX4_isFull yX4_isFull, .initialized RX4, .code yX4_isFull cX4_isFull 1 (some .boolean), .fieldLink RX4 18 "PictureCourt$Owners" "size" "I", .methodLink RX7 266 yX4_add, .instanceMethod yX4_add, .selects RX4 yX4_add yX4_add, .code yX4_add cX4_add 4 (some .int), .fieldLink RX4 9 "PictureCourt$Owners" "froms" "[I", .fieldLink RX4 15 "PictureCourt$Owners" "tos" "[I"] ++ wsX70 ++ wsX40)
def wsX7_gaps_r1 : List Cond := [Cond.fieldLink RX7 38 "PictureCourt" "owners" "LPictureCourt$Owners;", Cond.fieldLink RX7 271 "PictureCourt$Owners" "longestGap" "I", Cond.fieldLink RX7 67 "PictureCourt" "askedNumber" "I", Cond.fieldLink RX7 274 "PictureCourt$Owners" "gapYears" "I", Cond.methodLink RX7 141 yX7_areYears, Cond.static yX7_areYears, Cond.initialized RX7, Cond.code yX7_areYears cX7_areYears 2 (some .boolean), Cond.methodLink RX7 131 yX7_isYear, Cond.static yX7_isYear, Cond.code yX7_isYear cX7_isYear 1 (some .boolean), Cond.methodLink RX7 77 yX7_isWithin, Cond.static yX7_isWithin, Cond.code yX7_isWithin cX7_isWithin 3 (some .boolean), Cond.methodLink RX7 268 yX4_findGaps, Cond.instanceMethod yX4_findGaps, Cond.selects RX4 yX4_findGaps yX4_findGaps, Cond.initialized RX4, Cond.code yX4_findGaps cX4_findGaps 5 none, Cond.fieldLink RX4 22 "PictureCourt$Owners" "gapYears" "I", Cond.fieldLink RX4 25 "PictureCourt$Owners" "longestGap" "I", Cond.fieldLink RX4 18 "PictureCourt$Owners" "size" "I", Cond.fieldLink RX4 9 "PictureCourt$Owners" "froms" "[I", Cond.methodLink RX4 28 Lib.Math.min.name]
def wsX7_gaps_r2 : List Cond := [Cond.static Lib.Math.min.name, Cond.initialized "java/lang/Math", Cond.code Lib.Math.min.name Lib.Math.min.code 2 (some .int), Cond.fieldLink RX4 15 "PictureCourt$Owners" "tos" "[I", Cond.methodLink RX4 38 Lib.Math.max.name, Cond.static Lib.Math.max.name, Cond.code Lib.Math.max.name Lib.Math.max.code 2 (some .int), Cond.methodLink RX4 34 yX4_addGap, Cond.instanceMethod yX4_addGap, Cond.selects RX4 yX4_addGap yX4_addGap, Cond.code yX4_addGap cX4_addGap 2 none]
def wsX7_gaps : List Cond := .code yX7_gaps cX7_gaps 3 (some .int) :: ((wsX7_gaps_r1 ++ wsX7_gaps_r2) ++ wsX70 ++ wsX40)
def wsX7_opinion : List Cond := .code yX7_opinion cX7_opinion 5 (some .int) :: ([.fieldLink RX7 45 "PictureCourt" "opinions" "LPictureCourt$Opinions;", .methodLink RX7 77 yX7_isWithin, .static yX7_isWithin, .initialized RX7, .code yX7_isWithin cX7_isWithin 3 (some .boolean), .methodLink RX7 218 yX7_isHand, .static yX7_isHand, .code yX7_isHand cX7_isHand 1 (some .boolean), .methodLink RX7 277 yX3_isFull, .instanceMethod yX3_isFull, .selects RX3 yX3_isFull yX3_isFull, .initialized RX3, .code yX3_isFull cX3_isFull 1 (some .boolean), .fieldLink RX3 25 "PictureCourt$Opinions" "size" "I", .methodLink RX7 278 yX3_add, .instanceMethod yX3_add, .selects RX3 yX3_add yX3_add, .code yX3_add cX3_add 5 (some .int), .fieldLink RX3 9 "PictureCourt$Opinions" "experts" "[I", .fieldLink RX3 15 "PictureCourt$Opinions" "hands" "[I", .fieldLink RX3 18 "PictureCourt$Opinions" "sures" "[I", .fieldLink RX3 21 "PictureCourt$Opinions" "knews" "[Z"] ++ wsX70 ++ wsX30)
def wsX7_mean_r1 : List Cond := [Cond.fieldLink RX7 45 "PictureCourt" "opinions" "LPictureCourt$Opinions;", Cond.methodLink RX7 218 yX7_isHand, Cond.static yX7_isHand, Cond.initialized RX7, Cond.code yX7_isHand cX7_isHand 1 (some .boolean), Cond.methodLink RX7 77 yX7_isWithin, Cond.static yX7_isWithin, Cond.code yX7_isWithin cX7_isWithin 3 (some .boolean), Cond.methodLink RX7 281 yX3_howMany, Cond.instanceMethod yX3_howMany, Cond.selects RX3 yX3_howMany yX3_howMany, Cond.initialized RX3, Cond.code yX3_howMany cX3_howMany 5 (some .int), Cond.fieldLink RX3 25 "PictureCourt$Opinions" "size" "I", Cond.fieldLink RX3 15 "PictureCourt$Opinions" "hands" "[I", Cond.fieldLink RX3 21 "PictureCourt$Opinions" "knews" "[Z", Cond.methodLink RX7 85 yX7_refuse, Cond.instanceMethod yX7_refuse, Cond.selects RX7 yX7_refuse yX7_refuse, Cond.code yX7_refuse cX7_refuse 2 (some .int), Cond.fieldLink RX7 64 "PictureCourt" "latestFinding" "I", Cond.fieldLink RX7 56 "PictureCourt" "findingCounts" "[I", Cond.methodLink RX7 285 yX3_sumOf, Cond.instanceMethod yX3_sumOf]
def wsX7_mean_r2 : List Cond := [Cond.selects RX3 yX3_sumOf yX3_sumOf, Cond.code yX3_sumOf cX3_sumOf 5 (some .int), Cond.fieldLink RX3 18 "PictureCourt$Opinions" "sures" "[I"]
def wsX7_mean : List Cond := .code yX7_mean cX7_mean 4 (some .int) :: ((wsX7_mean_r1 ++ wsX7_mean_r2) ++ wsX70 ++ wsX30)
def wsX7_spread_r1 : List Cond := [Cond.fieldLink RX7 45 "PictureCourt" "opinions" "LPictureCourt$Opinions;", Cond.fieldLink RX7 291 "PictureCourt$Opinions" "widest" "I", Cond.fieldLink RX7 294 "PictureCourt$Opinions" "widestExpert" "I", Cond.fieldLink RX7 67 "PictureCourt" "askedNumber" "I", Cond.methodLink RX7 288 yX3_findSpread, Cond.instanceMethod yX3_findSpread, Cond.selects RX3 yX3_findSpread yX3_findSpread, Cond.initialized RX3, Cond.code yX3_findSpread cX3_findSpread 3 none, Cond.fieldLink RX3 29 "PictureCourt$Opinions" "widest" "I", Cond.fieldLink RX3 32 "PictureCourt$Opinions" "widestExpert" "I", Cond.fieldLink RX3 25 "PictureCourt$Opinions" "size" "I", Cond.fieldLink RX3 9 "PictureCourt$Opinions" "experts" "[I", Cond.fieldLink RX3 18 "PictureCourt$Opinions" "sures" "[I", Cond.methodLink RX3 39 Lib.Math.abs.name, Cond.static Lib.Math.abs.name, Cond.initialized "java/lang/Math", Cond.code Lib.Math.abs.name Lib.Math.abs.code 1 (some .int), Cond.methodLink RX3 35 yX3_areComparable, Cond.instanceMethod yX3_areComparable, Cond.selects RX3 yX3_areComparable yX3_areComparable, Cond.code yX3_areComparable cX3_areComparable 3 (some .boolean), Cond.fieldLink RX3 21 "PictureCourt$Opinions" "knews" "[Z", Cond.fieldLink RX3 15 "PictureCourt$Opinions" "hands" "[I"]
def wsX7_spread_r2 : List Cond := [Cond.methodLink RX3 45 yX3_weighPair, Cond.instanceMethod yX3_weighPair, Cond.selects RX3 yX3_weighPair yX3_weighPair, Cond.code yX3_weighPair cX3_weighPair 3 none]
def wsX7_spread : List Cond := .code yX7_spread cX7_spread 1 (some .int) :: ((wsX7_spread_r1 ++ wsX7_spread_r2) ++ wsX70 ++ wsX30)
def wsX7_sold : List Cond := .code yX7_sold cX7_sold 4 (some .int) :: ([.fieldLink RX7 60 "PictureCourt" "today" "I", .constant RX7 297 (1000000), .fieldLink RX7 52 "PictureCourt" "contract" "LPictureCourt$Contract;", .methodLink RX7 77 yX7_isWithin, .static yX7_isWithin, .initialized RX7, .code yX7_isWithin cX7_isWithin 3 (some .boolean), .methodLink RX7 218 yX7_isHand, .static yX7_isHand, .code yX7_isHand cX7_isHand 1 (some .boolean), .methodLink RX7 298 yX0_sell, .instanceMethod yX0_sell, .selects RX0 yX0_sell yX0_sell, .initialized RX0, .code yX0_sell cX0_sell 4 none, .fieldLink RX0 24 "PictureCourt$Contract" "saleDay" "I", .fieldLink RX0 28 "PictureCourt$Contract" "price" "I", .fieldLink RX0 31 "PictureCourt$Contract" "hand" "I"] ++ wsX70 ++ wsX00)
def wsX7_law : List Cond := .code yX7_law cX7_law 6 (some .int) :: ([.fieldLink RX7 52 "PictureCourt" "contract" "LPictureCourt$Contract;", .methodLink RX7 183 yX7_isDay, .static yX7_isDay, .initialized RX7, .code yX7_isDay cX7_isDay 1 (some .boolean), .methodLink RX7 77 yX7_isWithin, .static yX7_isWithin, .code yX7_isWithin cX7_isWithin 3 (some .boolean), .methodLink RX7 301 yX0_isFull, .instanceMethod yX0_isFull, .selects RX0 yX0_isFull yX0_isFull, .initialized RX0, .code yX0_isFull cX0_isFull 1 (some .boolean), .fieldLink RX0 34 "PictureCourt$Contract" "laws" "I", .methodLink RX7 302 yX0_addLaw, .instanceMethod yX0_addLaw, .selects RX0 yX0_addLaw yX0_addLaw, .code yX0_addLaw cX0_addLaw 5 (some .int), .fieldLink RX0 9 "PictureCourt$Contract" "lawDays" "[I", .fieldLink RX0 15 "PictureCourt$Contract" "limits" "[I", .fieldLink RX0 18 "PictureCourt$Contract" "bounds" "[I", .fieldLink RX0 21 "PictureCourt$Contract" "rates" "[I"] ++ wsX70 ++ wsX00)
def wsX7_claim_r1 : List Cond := [Cond.fieldLink RX7 52 "PictureCourt" "contract" "LPictureCourt$Contract;", Cond.fieldLink RX7 31 "PictureCourt" "odds" "LPictureCourt$Odds;", Cond.fieldLink RX7 60 "PictureCourt" "today" "I", Cond.fieldLink RX7 311 "PictureCourt$Contract" "hand" "I", Cond.fieldLink RX7 67 "PictureCourt" "askedNumber" "I", Cond.methodLink RX7 305 yX0_lawInForce, Cond.instanceMethod yX0_lawInForce, Cond.selects RX0 yX0_lawInForce yX0_lawInForce, Cond.initialized RX0, Cond.code yX0_lawInForce cX0_lawInForce 4 (some .int), Cond.fieldLink RX0 34 "PictureCourt$Contract" "laws" "I", Cond.fieldLink RX0 9 "PictureCourt$Contract" "lawDays" "[I", Cond.fieldLink RX0 24 "PictureCourt$Contract" "saleDay" "I", Cond.methodLink RX7 239 yX2_scoreOfAll, Cond.instanceMethod yX2_scoreOfAll, Cond.selects RX2 yX2_scoreOfAll yX2_scoreOfAll, Cond.initialized RX2, Cond.code yX2_scoreOfAll cX2_scoreOfAll 4 (some .long), Cond.methodLink RX2 51 yX2_score, Cond.instanceMethod yX2_score, Cond.selects RX2 yX2_score yX2_score, Cond.code yX2_score cX2_score 6 (some .long), Cond.fieldLink RX2 9 "PictureCourt$Odds" "handWeights" "[I", Cond.fieldLink RX2 37 "PictureCourt$Odds" "size" "I"]
def wsX7_claim_r2 : List Cond := [Cond.fieldLink RX2 30 "PictureCourt$Odds" "counts" "[Z", Cond.fieldLink RX2 24 "PictureCourt$Odds" "oftens" "[I", Cond.fieldLink RX2 27 "PictureCourt$Odds" "results" "[I", Cond.methodLink RX7 85 yX7_refuse, Cond.instanceMethod yX7_refuse, Cond.selects RX7 yX7_refuse yX7_refuse, Cond.initialized RX7, Cond.code yX7_refuse cX7_refuse 2 (some .int), Cond.fieldLink RX7 64 "PictureCourt" "latestFinding" "I", Cond.fieldLink RX7 56 "PictureCourt" "findingCounts" "[I", Cond.methodLink RX7 308 yX0_isTooLate, Cond.instanceMethod yX0_isTooLate, Cond.selects RX0 yX0_isTooLate yX0_isTooLate, Cond.code yX0_isTooLate cX0_isTooLate 3 (some .boolean), Cond.fieldLink RX0 15 "PictureCourt$Contract" "limits" "[I", Cond.methodLink RX7 243 yX2_score, Cond.methodLink RX7 314 yX0_isBelow, Cond.instanceMethod yX0_isBelow, Cond.selects RX0 yX0_isBelow yX0_isBelow, Cond.code yX0_isBelow cX0_isBelow 6 (some .boolean), Cond.constantLong RX0 37 (100), Cond.fieldLink RX0 18 "PictureCourt$Contract" "bounds" "[I", Cond.methodLink RX7 318 yX0_paidBack, Cond.instanceMethod yX0_paidBack]
def wsX7_claim_r3 : List Cond := [Cond.selects RX0 yX0_paidBack yX0_paidBack, Cond.code yX0_paidBack cX0_paidBack 5 (some .int), Cond.fieldLink RX0 28 "PictureCourt$Contract" "price" "I", Cond.fieldLink RX0 21 "PictureCourt$Contract" "rates" "[I", Cond.constantLong RX0 39 (36500)]
def wsX7_claim : List Cond := .code yX7_claim cX7_claim 4 (some .int) :: ((wsX7_claim_r1 ++ (wsX7_claim_r2 ++ wsX7_claim_r3)) ++ wsX70 ++ wsX00 ++ wsX20)
def wsX7_asked : List Cond := .code yX7_asked cX7_asked 1 (some .int) :: ([.fieldLink RX7 67 "PictureCourt" "askedNumber" "I"] ++ wsX70)
def wsX7_upper : List Cond := .code yX7_upper cX7_upper 1 (some .long) :: ([.fieldLink RX7 70 "PictureCourt" "upperNumber" "J"] ++ wsX70)
def wsX7_lower : List Cond := .code yX7_lower cX7_lower 1 (some .long) :: ([.fieldLink RX7 74 "PictureCourt" "lowerNumber" "J"] ++ wsX70)
def wsX7_count : List Cond := .code yX7_count cX7_count 2 (some .int) :: ([.fieldLink RX7 60 "PictureCourt" "today" "I", .fieldLink RX7 10 "PictureCourt" "proofs" "LPictureCourt$Proofs;", .fieldLink RX7 321 "PictureCourt$Proofs" "size" "I", .fieldLink RX7 322 "PictureCourt$Proofs" "struck" "I", .fieldLink RX7 31 "PictureCourt" "odds" "LPictureCourt$Odds;", .fieldLink RX7 325 "PictureCourt$Odds" "size" "I", .fieldLink RX7 326 "PictureCourt$Odds" "finished" "I", .fieldLink RX7 38 "PictureCourt" "owners" "LPictureCourt$Owners;", .fieldLink RX7 329 "PictureCourt$Owners" "size" "I", .fieldLink RX7 45 "PictureCourt" "opinions" "LPictureCourt$Opinions;", .fieldLink RX7 330 "PictureCourt$Opinions" "size" "I", .fieldLink RX7 52 "PictureCourt" "contract" "LPictureCourt$Contract;", .fieldLink RX7 331 "PictureCourt$Contract" "laws" "I"] ++ wsX70 ++ wsX50 ++ wsX20 ++ wsX40 ++ wsX30 ++ wsX00)
def wsX7_finding : List Cond := .code yX7_finding cX7_finding 1 (some .int) :: ([.fieldLink RX7 64 "PictureCourt" "latestFinding" "I"] ++ wsX70)
def wsX7_findings : List Cond := .code yX7_findings cX7_findings 2 (some .int) :: ([.fieldLink RX7 56 "PictureCourt" "findingCounts" "[I", .methodLink RX7 77 yX7_isWithin, .static yX7_isWithin, .initialized RX7, .code yX7_isWithin cX7_isWithin 3 (some .boolean)] ++ wsX70)
def wsX7_digest_r1 : List Cond := [Cond.constantLong RX7 334 (17), Cond.constantLong RX7 336 (31), Cond.fieldLink RX7 10 "PictureCourt" "proofs" "LPictureCourt$Proofs;", Cond.fieldLink RX7 321 "PictureCourt$Proofs" "size" "I", Cond.fieldLink RX7 31 "PictureCourt" "odds" "LPictureCourt$Odds;", Cond.fieldLink RX7 20 "PictureCourt" "rows" "LPictureCourt$Rows;", Cond.methodLink RX7 338 yX7_count, Cond.instanceMethod yX7_count, Cond.selects RX7 yX7_count yX7_count, Cond.initialized RX7, Cond.code yX7_count cX7_count 2 (some .int), Cond.fieldLink RX7 60 "PictureCourt" "today" "I", Cond.fieldLink RX7 322 "PictureCourt$Proofs" "struck" "I", Cond.fieldLink RX7 325 "PictureCourt$Odds" "size" "I", Cond.fieldLink RX7 326 "PictureCourt$Odds" "finished" "I", Cond.fieldLink RX7 38 "PictureCourt" "owners" "LPictureCourt$Owners;", Cond.fieldLink RX7 329 "PictureCourt$Owners" "size" "I", Cond.fieldLink RX7 45 "PictureCourt" "opinions" "LPictureCourt$Opinions;", Cond.fieldLink RX7 330 "PictureCourt$Opinions" "size" "I", Cond.fieldLink RX7 52 "PictureCourt" "contract" "LPictureCourt$Contract;", Cond.fieldLink RX7 331 "PictureCourt$Contract" "laws" "I", Cond.methodLink RX7 174 yX5_detail, Cond.instanceMethod yX5_detail, Cond.selects RX5 yX5_detail yX5_detail]
def wsX7_digest_r2 : List Cond := [Cond.initialized RX5, Cond.code yX5_detail cX5_detail 3 (some .int), Cond.fieldLink RX5 22 "PictureCourt$Proofs" "kinds" "[I", Cond.fieldLink RX5 25 "PictureCourt$Proofs" "weights" "[I", Cond.fieldLink RX5 28 "PictureCourt$Proofs" "toldDays" "[I", Cond.fieldLink RX5 31 "PictureCourt$Proofs" "struckDays" "[I", Cond.methodLink RX5 66 yX5_firstYear, Cond.instanceMethod yX5_firstYear, Cond.selects RX5 yX5_firstYear yX5_firstYear, Cond.code yX5_firstYear cX5_firstYear 2 (some .int), Cond.fieldLink RX5 18 "PictureCourt$Proofs" "paintYears" "[I", Cond.fieldLink RX5 34 "PictureCourt$Proofs" "subjects" "[I", Cond.fieldLink RX5 40 "PictureCourt$Proofs" "froms" "[I", Cond.fieldLink RX5 46 "PictureCourt$Proofs" "leastSap" "I", Cond.fieldLink RX5 12 "PictureCourt$Proofs" "rows" "LPictureCourt$Rows;", Cond.fieldLink RX5 37 "PictureCourt$Proofs" "otherRows" "[I", Cond.methodLink RX5 83 yX5_lacking, Cond.instanceMethod yX5_lacking, Cond.selects RX5 yX5_lacking yX5_lacking, Cond.code yX5_lacking cX5_lacking 3 (some .int), Cond.methodLink RX5 77 Lib.Math.max.name, Cond.static Lib.Math.max.name, Cond.initialized "java/lang/Math", Cond.code Lib.Math.max.name Lib.Math.max.code 2 (some .int)]
def wsX7_digest_r3 : List Cond := [Cond.methodLink RX5 73 yX6_isSure, Cond.instanceMethod yX6_isSure, Cond.selects RX6 yX6_isSure yX6_isSure, Cond.initialized RX6, Cond.code yX6_isSure cX6_isSure 6 (some .boolean), Cond.methodLink RX6 35 yX6_canMatch, Cond.instanceMethod yX6_canMatch, Cond.selects RX6 yX6_canMatch yX6_canMatch, Cond.code yX6_canMatch cX6_canMatch 3 (some .boolean), Cond.fieldLink RX6 9 "PictureCourt$Rows" "sizes" "[I", Cond.methodLink RX6 39 yX6_bestPlace, Cond.instanceMethod yX6_bestPlace, Cond.selects RX6 yX6_bestPlace yX6_bestPlace, Cond.code yX6_bestPlace cX6_bestPlace 7 (some .int), Cond.methodLink RX6 25 yX6_offAt, Cond.instanceMethod yX6_offAt, Cond.selects RX6 yX6_offAt yX6_offAt, Cond.code yX6_offAt cX6_offAt 8 (some .int), Cond.fieldLink RX6 15 "PictureCourt$Rows" "bytes" "[B", Cond.methodLink RX6 29 Lib.Math.abs.name, Cond.static Lib.Math.abs.name, Cond.code Lib.Math.abs.name Lib.Math.abs.code 1 (some .int), Cond.methodLink RX5 70 yX5_lastYear, Cond.instanceMethod yX5_lastYear]
def wsX7_digest_r4 : List Cond := [Cond.selects RX5 yX5_lastYear yX5_lastYear, Cond.code yX5_lastYear cX5_lastYear 2 (some .int), Cond.fieldLink RX5 50 "PictureCourt$Proofs" "mostSap" "I", Cond.fieldLink RX5 53 "PictureCourt$Proofs" "yearsToUse" "I", Cond.methodLink RX5 86 Lib.Math.min.name, Cond.static Lib.Math.min.name, Cond.code Lib.Math.min.name Lib.Math.min.code 2 (some .int), Cond.fieldLink RX5 43 "PictureCourt$Proofs" "tos" "[I", Cond.methodLink RX7 341 yX2_mixInto, Cond.instanceMethod yX2_mixInto, Cond.selects RX2 yX2_mixInto yX2_mixInto, Cond.initialized RX2, Cond.code yX2_mixInto cX2_mixInto 5 (some .long), Cond.constantLong RX2 69 (31), Cond.fieldLink RX2 9 "PictureCourt$Odds" "handWeights" "[I", Cond.fieldLink RX2 37 "PictureCourt$Odds" "size" "I", Cond.fieldLink RX2 15 "PictureCourt$Odds" "costs" "[I", Cond.fieldLink RX2 18 "PictureCourt$Odds" "wounds" "[I", Cond.fieldLink RX2 21 "PictureCourt$Odds" "groups" "[I", Cond.fieldLink RX2 24 "PictureCourt$Odds" "oftens" "[I", Cond.fieldLink RX2 27 "PictureCourt$Odds" "results" "[I", Cond.methodLink RX7 345 yX5_mixPaintsInto, Cond.instanceMethod yX5_mixPaintsInto, Cond.selects RX5 yX5_mixPaintsInto yX5_mixPaintsInto]
def wsX7_digest_r5 : List Cond := [Cond.code yX5_mixPaintsInto cX5_mixPaintsInto 4 (some .long), Cond.constantLong RX5 102 (31), Cond.methodLink RX7 348 yX6_mixInto, Cond.instanceMethod yX6_mixInto, Cond.selects RX6 yX6_mixInto yX6_mixInto, Cond.code yX6_mixInto cX6_mixInto 5 (some .long), Cond.constantLong RX6 43 (31)]
def wsX7_digest : List Cond := .code yX7_digest cX7_digest 5 (some .long) :: ((wsX7_digest_r1 ++ (wsX7_digest_r2 ++ (wsX7_digest_r3 ++ (wsX7_digest_r4 ++ wsX7_digest_r5)))) ++ wsX70 ++ wsX50 ++ wsX20 ++ wsX40 ++ wsX30 ++ wsX00 ++ wsX60)
def wsX8_init_r1 : List Cond := [Cond.methodLink RX8 1 objectInit, Cond.instanceMethod objectInit, Cond.code objectInit ⟨#[0xb1]⟩ 1 none, Cond.arrayClass .int, Cond.fieldLink RX8 7 "PictureCourtModel" "came" "[I", Cond.fieldLink RX8 13 "PictureCourtModel" "sizes" "[I", Cond.arrayClass .byte, Cond.fieldLink RX8 16 "PictureCourtModel" "rows" "[B", Cond.fieldLink RX8 20 "PictureCourtModel" "copied" "[B", Cond.fieldLink RX8 23 "PictureCourtModel" "paints" "[I", Cond.fieldLink RX8 26 "PictureCourtModel" "kindOf" "[I", Cond.fieldLink RX8 29 "PictureCourtModel" "weightOf" "[I", Cond.fieldLink RX8 32 "PictureCourtModel" "toldOn" "[I", Cond.fieldLink RX8 35 "PictureCourtModel" "struckOn" "[I", Cond.fieldLink RX8 38 "PictureCourtModel" "one" "[I", Cond.fieldLink RX8 41 "PictureCourtModel" "two" "[I", Cond.fieldLink RX8 44 "PictureCourtModel" "three" "[I", Cond.fieldLink RX8 47 "PictureCourtModel" "four" "[I", Cond.fieldLink RX8 50 "PictureCourtModel" "held" "[I", Cond.fieldLink RX8 53 "PictureCourtModel" "hands" "[I", Cond.fieldLink RX8 56 "PictureCourtModel" "testCost" "[I", Cond.fieldLink RX8 59 "PictureCourtModel" "testWound" "[I", Cond.fieldLink RX8 62 "PictureCourtModel" "testGroup" "[I", Cond.fieldLink RX8 65 "PictureCourtModel" "testOften" "[I"]
def wsX8_init_r2 : List Cond := [Cond.fieldLink RX8 68 "PictureCourtModel" "testOut" "[I", Cond.arrayClass .boolean, Cond.fieldLink RX8 71 "PictureCourtModel" "testCounts" "[Z", Cond.fieldLink RX8 75 "PictureCourtModel" "ownerFrom" "[I", Cond.fieldLink RX8 78 "PictureCourtModel" "ownerTo" "[I", Cond.fieldLink RX8 81 "PictureCourtModel" "opinionExpert" "[I", Cond.fieldLink RX8 84 "PictureCourtModel" "opinionHand" "[I", Cond.fieldLink RX8 87 "PictureCourtModel" "opinionSure" "[I", Cond.fieldLink RX8 90 "PictureCourtModel" "opinionKnew" "[Z", Cond.fieldLink RX8 93 "PictureCourtModel" "lawDay" "[I", Cond.fieldLink RX8 96 "PictureCourtModel" "lawWithin" "[I", Cond.fieldLink RX8 99 "PictureCourtModel" "lawBelow" "[I", Cond.fieldLink RX8 102 "PictureCourtModel" "lawRate" "[I", Cond.fieldLink RX8 105 "PictureCourtModel" "lower" "J", Cond.fieldLink RX8 109 "PictureCourtModel" "sapLeast" "I", Cond.fieldLink RX8 113 "PictureCourtModel" "sapMost" "I", Cond.fieldLink RX8 116 "PictureCourtModel" "use" "I", Cond.fieldLink RX8 119 "PictureCourtModel" "soldOn" "I"]
def wsX8_init : List Cond := .code yX8_init cX8_init 2 none :: ((wsX8_init_r1 ++ wsX8_init_r2) ++ wsX80)
def wsX8_in : List Cond := .code yX8_in cX8_in 3 (some .boolean) :: ([])
def wsX8_meets : List Cond := .code yX8_meets cX8_meets 2 (some .int) :: ([.fieldLink RX8 122 "PictureCourtModel" "latest" "I", .fieldLink RX8 7 "PictureCourtModel" "came" "[I"] ++ wsX80)
def wsX8_finding : List Cond := .code yX8_finding cX8_finding 1 (some .int) :: ([.fieldLink RX8 122 "PictureCourtModel" "latest" "I"] ++ wsX80)
def wsX8_findings : List Cond := .code yX8_findings cX8_findings 2 (some .int) :: ([.fieldLink RX8 7 "PictureCourtModel" "came" "[I", .methodLink RX8 125 yX8_in, .static yX8_in, .initialized RX8, .code yX8_in cX8_in 3 (some .boolean)] ++ wsX80)
def wsX8_tells : List Cond := .code yX8_tells cX8_tells 3 (some .int) :: ([.fieldLink RX8 129 "PictureCourtModel" "asked" "I"] ++ wsX80)
def wsX8_asked : List Cond := .code yX8_asked cX8_asked 1 (some .int) :: ([.fieldLink RX8 129 "PictureCourtModel" "asked" "I"] ++ wsX80)
def wsX8_fraction : List Cond := .code yX8_fraction cX8_fraction 12 (some .int) :: ([.fieldLink RX8 132 "PictureCourtModel" "upper" "J", .fieldLink RX8 105 "PictureCourtModel" "lower" "J"] ++ wsX80)
def wsX8_upper : List Cond := .code yX8_upper cX8_upper 1 (some .long) :: ([.fieldLink RX8 132 "PictureCourtModel" "upper" "J"] ++ wsX80)
def wsX8_lower : List Cond := .code yX8_lower cX8_lower 1 (some .long) :: ([.fieldLink RX8 105 "PictureCourtModel" "lower" "J"] ++ wsX80)
def wsX8_later : List Cond := .code yX8_later cX8_later 2 (some .int) :: ([.fieldLink RX8 135 "PictureCourtModel" "today" "I"] ++ wsX80)
def wsX8_isDay : List Cond := .code yX8_isDay cX8_isDay 1 (some .boolean) :: ([.methodLink RX8 125 yX8_in, .static yX8_in, .initialized RX8, .code yX8_in cX8_in 3 (some .boolean)])
def wsX8_isYear : List Cond := .code yX8_isYear cX8_isYear 1 (some .boolean) :: ([.methodLink RX8 125 yX8_in, .static yX8_in, .initialized RX8, .code yX8_in cX8_in 3 (some .boolean)])
def wsX8_isRow : List Cond := .code yX8_isRow cX8_isRow 1 (some .boolean) :: ([.methodLink RX8 125 yX8_in, .static yX8_in, .initialized RX8, .code yX8_in cX8_in 3 (some .boolean)])
def wsX8_row : List Cond := .code yX8_row cX8_row 4 (some .int) :: ([.fieldLink RX8 13 "PictureCourtModel" "sizes" "[I", .fieldLink RX8 16 "PictureCourtModel" "rows" "[B", .methodLink RX8 138 yX8_isRow, .static yX8_isRow, .initialized RX8, .code yX8_isRow cX8_isRow 1 (some .boolean), .methodLink RX8 125 yX8_in, .static yX8_in, .code yX8_in cX8_in 3 (some .boolean), .methodLink RX8 142 yX8_meets, .instanceMethod yX8_meets, .selects RX8 yX8_meets yX8_meets, .code yX8_meets cX8_meets 2 (some .int), .fieldLink RX8 122 "PictureCourtModel" "latest" "I", .fieldLink RX8 7 "PictureCourtModel" "came" "[I"] ++ wsX80)
def wsX8_lay : List Cond := .code yX8_lay cX8_lay 5 (some .int) :: ([.fieldLink RX8 13 "PictureCourtModel" "sizes" "[I", .fieldLink RX8 16 "PictureCourtModel" "rows" "[B", .methodLink RX8 138 yX8_isRow, .static yX8_isRow, .initialized RX8, .code yX8_isRow cX8_isRow 1 (some .boolean), .methodLink RX8 125 yX8_in, .static yX8_in, .code yX8_in cX8_in 3 (some .boolean), .methodLink RX8 142 yX8_meets, .instanceMethod yX8_meets, .selects RX8 yX8_meets yX8_meets, .code yX8_meets cX8_meets 2 (some .int), .fieldLink RX8 122 "PictureCourtModel" "latest" "I", .fieldLink RX8 7 "PictureCourtModel" "came" "[I"] ++ wsX80)
def wsX8_tear : List Cond := .code yX8_tear cX8_tear 2 (some .int) :: ([.fieldLink RX8 13 "PictureCourtModel" "sizes" "[I", .methodLink RX8 138 yX8_isRow, .static yX8_isRow, .initialized RX8, .code yX8_isRow cX8_isRow 1 (some .boolean), .methodLink RX8 125 yX8_in, .static yX8_in, .code yX8_in cX8_in 3 (some .boolean), .methodLink RX8 142 yX8_meets, .instanceMethod yX8_meets, .selects RX8 yX8_meets yX8_meets, .code yX8_meets cX8_meets 2 (some .int), .fieldLink RX8 122 "PictureCourtModel" "latest" "I", .fieldLink RX8 7 "PictureCourtModel" "came" "[I"] ++ wsX80)
def wsX8_copy : List Cond := .code yX8_copy cX8_copy 7 (some .int) :: ([.fieldLink RX8 13 "PictureCourtModel" "sizes" "[I", .fieldLink RX8 20 "PictureCourtModel" "copied" "[B", .fieldLink RX8 16 "PictureCourtModel" "rows" "[B", .methodLink RX8 138 yX8_isRow, .static yX8_isRow, .initialized RX8, .code yX8_isRow cX8_isRow 1 (some .boolean), .methodLink RX8 125 yX8_in, .static yX8_in, .code yX8_in cX8_in 3 (some .boolean), .methodLink RX8 142 yX8_meets, .instanceMethod yX8_meets, .selects RX8 yX8_meets yX8_meets, .code yX8_meets cX8_meets 2 (some .int), .fieldLink RX8 122 "PictureCourtModel" "latest" "I", .fieldLink RX8 7 "PictureCourtModel" "came" "[I"] ++ wsX80)
def wsX8_offAt : List Cond := .code yX8_offAt cX8_offAt 7 (some .int) :: ([.fieldLink RX8 13 "PictureCourtModel" "sizes" "[I", .fieldLink RX8 16 "PictureCourtModel" "rows" "[B"] ++ wsX80)
def wsX8_placeOf : List Cond := .code yX8_placeOf cX8_placeOf 5 (some .int) :: ([.fieldLink RX8 13 "PictureCourtModel" "sizes" "[I", .methodLink RX8 146 yX8_offAt, .instanceMethod yX8_offAt, .selects RX8 yX8_offAt yX8_offAt, .initialized RX8, .code yX8_offAt cX8_offAt 7 (some .int), .fieldLink RX8 16 "PictureCourtModel" "rows" "[B"] ++ wsX80)
def wsX8_mayMatch : List Cond := .code yX8_mayMatch cX8_mayMatch 3 (some .boolean) :: ([.fieldLink RX8 13 "PictureCourtModel" "sizes" "[I"] ++ wsX80)
def wsX8_match_r1 : List Cond := [Cond.fieldLink RX8 13 "PictureCourtModel" "sizes" "[I", Cond.methodLink RX8 138 yX8_isRow, Cond.static yX8_isRow, Cond.initialized RX8, Cond.code yX8_isRow cX8_isRow 1 (some .boolean), Cond.methodLink RX8 125 yX8_in, Cond.static yX8_in, Cond.code yX8_in cX8_in 3 (some .boolean), Cond.methodLink RX8 142 yX8_meets, Cond.instanceMethod yX8_meets, Cond.selects RX8 yX8_meets yX8_meets, Cond.code yX8_meets cX8_meets 2 (some .int), Cond.fieldLink RX8 122 "PictureCourtModel" "latest" "I", Cond.fieldLink RX8 7 "PictureCourtModel" "came" "[I", Cond.methodLink RX8 150 yX8_mayMatch, Cond.instanceMethod yX8_mayMatch, Cond.selects RX8 yX8_mayMatch yX8_mayMatch, Cond.code yX8_mayMatch cX8_mayMatch 3 (some .boolean), Cond.methodLink RX8 154 yX8_placeOf, Cond.instanceMethod yX8_placeOf, Cond.selects RX8 yX8_placeOf yX8_placeOf, Cond.code yX8_placeOf cX8_placeOf 5 (some .int), Cond.methodLink RX8 146 yX8_offAt, Cond.instanceMethod yX8_offAt]
def wsX8_match_r2 : List Cond := [Cond.selects RX8 yX8_offAt yX8_offAt, Cond.code yX8_offAt cX8_offAt 7 (some .int), Cond.fieldLink RX8 16 "PictureCourtModel" "rows" "[B", Cond.methodLink RX8 158 yX8_tells, Cond.instanceMethod yX8_tells, Cond.selects RX8 yX8_tells yX8_tells, Cond.code yX8_tells cX8_tells 3 (some .int), Cond.fieldLink RX8 129 "PictureCourtModel" "asked" "I"]
def wsX8_match : List Cond := .code yX8_match cX8_match 4 (some .int) :: ((wsX8_match_r1 ++ wsX8_match_r2) ++ wsX80)
def wsX8_isSure : List Cond := .code yX8_isSure cX8_isSure 6 (some .boolean) :: ([.methodLink RX8 150 yX8_mayMatch, .instanceMethod yX8_mayMatch, .selects RX8 yX8_mayMatch yX8_mayMatch, .initialized RX8, .code yX8_mayMatch cX8_mayMatch 3 (some .boolean), .fieldLink RX8 13 "PictureCourtModel" "sizes" "[I", .methodLink RX8 154 yX8_placeOf, .instanceMethod yX8_placeOf, .selects RX8 yX8_placeOf yX8_placeOf, .code yX8_placeOf cX8_placeOf 5 (some .int), .methodLink RX8 146 yX8_offAt, .instanceMethod yX8_offAt, .selects RX8 yX8_offAt yX8_offAt, .code yX8_offAt cX8_offAt 7 (some .int), .fieldLink RX8 16 "PictureCourtModel" "rows" "[B"] ++ wsX80)
def wsX8_sure_r1 : List Cond := [Cond.methodLink RX8 138 yX8_isRow, Cond.static yX8_isRow, Cond.initialized RX8, Cond.code yX8_isRow cX8_isRow 1 (some .boolean), Cond.methodLink RX8 125 yX8_in, Cond.static yX8_in, Cond.code yX8_in cX8_in 3 (some .boolean), Cond.methodLink RX8 161 yX8_isSure, Cond.instanceMethod yX8_isSure, Cond.selects RX8 yX8_isSure yX8_isSure, Cond.code yX8_isSure cX8_isSure 6 (some .boolean), Cond.methodLink RX8 150 yX8_mayMatch, Cond.instanceMethod yX8_mayMatch, Cond.selects RX8 yX8_mayMatch yX8_mayMatch, Cond.code yX8_mayMatch cX8_mayMatch 3 (some .boolean), Cond.fieldLink RX8 13 "PictureCourtModel" "sizes" "[I", Cond.methodLink RX8 154 yX8_placeOf, Cond.instanceMethod yX8_placeOf, Cond.selects RX8 yX8_placeOf yX8_placeOf, Cond.code yX8_placeOf cX8_placeOf 5 (some .int), Cond.methodLink RX8 146 yX8_offAt, Cond.instanceMethod yX8_offAt, Cond.selects RX8 yX8_offAt yX8_offAt, Cond.code yX8_offAt cX8_offAt 7 (some .int)]
def wsX8_sure_r2 : List Cond := [Cond.fieldLink RX8 16 "PictureCourtModel" "rows" "[B"]
def wsX8_sure : List Cond := .code yX8_sure cX8_sure 3 (some .int) :: ((wsX8_sure_r1 ++ wsX8_sure_r2) ++ wsX80)
def wsX8_paint : List Cond := .code yX8_paint cX8_paint 4 (some .int) :: ([.fieldLink RX8 23 "PictureCourtModel" "paints" "[I", .methodLink RX8 125 yX8_in, .static yX8_in, .initialized RX8, .code yX8_in cX8_in 3 (some .boolean), .methodLink RX8 164 yX8_isYear, .static yX8_isYear, .code yX8_isYear cX8_isYear 1 (some .boolean)] ++ wsX80)
def wsX8_sap : List Cond := .code yX8_sap cX8_sap 4 (some .int) :: ([.fieldLink RX8 109 "PictureCourtModel" "sapLeast" "I", .fieldLink RX8 113 "PictureCourtModel" "sapMost" "I", .fieldLink RX8 116 "PictureCourtModel" "use" "I", .methodLink RX8 125 yX8_in, .static yX8_in, .initialized RX8, .code yX8_in cX8_in 3 (some .boolean)] ++ wsX80)
def wsX8_comes : List Cond := .code yX8_comes cX8_comes 8 (some .int) :: ([.fieldLink RX8 167 "PictureCourtModel" "proofs" "I", .fieldLink RX8 26 "PictureCourtModel" "kindOf" "[I", .fieldLink RX8 29 "PictureCourtModel" "weightOf" "[I", .fieldLink RX8 32 "PictureCourtModel" "toldOn" "[I", .fieldLink RX8 135 "PictureCourtModel" "today" "I", .fieldLink RX8 35 "PictureCourtModel" "struckOn" "[I", .fieldLink RX8 38 "PictureCourtModel" "one" "[I", .fieldLink RX8 41 "PictureCourtModel" "two" "[I", .fieldLink RX8 44 "PictureCourtModel" "three" "[I", .fieldLink RX8 47 "PictureCourtModel" "four" "[I", .methodLink RX8 125 yX8_in, .static yX8_in, .initialized RX8, .code yX8_in cX8_in 3 (some .boolean)] ++ wsX80)
def wsX8_proof : List Cond := .code yX8_proof cX8_proof 4 (some .int) :: ([.methodLink RX8 164 yX8_isYear, .static yX8_isYear, .initialized RX8, .code yX8_isYear cX8_isYear 1 (some .boolean), .methodLink RX8 125 yX8_in, .static yX8_in, .code yX8_in cX8_in 3 (some .boolean), .methodLink RX8 170 yX8_comes, .instanceMethod yX8_comes, .selects RX8 yX8_comes yX8_comes, .code yX8_comes cX8_comes 8 (some .int), .fieldLink RX8 167 "PictureCourtModel" "proofs" "I", .fieldLink RX8 26 "PictureCourtModel" "kindOf" "[I", .fieldLink RX8 29 "PictureCourtModel" "weightOf" "[I", .fieldLink RX8 32 "PictureCourtModel" "toldOn" "[I", .fieldLink RX8 135 "PictureCourtModel" "today" "I", .fieldLink RX8 35 "PictureCourtModel" "struckOn" "[I", .fieldLink RX8 38 "PictureCourtModel" "one" "[I", .fieldLink RX8 41 "PictureCourtModel" "two" "[I", .fieldLink RX8 44 "PictureCourtModel" "three" "[I", .fieldLink RX8 47 "PictureCourtModel" "four" "[I"] ++ wsX80)
def wsX8_found : List Cond := .code yX8_found cX8_found 3 (some .int) :: ([.methodLink RX8 125 yX8_in, .static yX8_in, .initialized RX8, .code yX8_in cX8_in 3 (some .boolean), .methodLink RX8 170 yX8_comes, .instanceMethod yX8_comes, .selects RX8 yX8_comes yX8_comes, .code yX8_comes cX8_comes 8 (some .int), .fieldLink RX8 167 "PictureCourtModel" "proofs" "I", .fieldLink RX8 26 "PictureCourtModel" "kindOf" "[I", .fieldLink RX8 29 "PictureCourtModel" "weightOf" "[I", .fieldLink RX8 32 "PictureCourtModel" "toldOn" "[I", .fieldLink RX8 135 "PictureCourtModel" "today" "I", .fieldLink RX8 35 "PictureCourtModel" "struckOn" "[I", .fieldLink RX8 38 "PictureCourtModel" "one" "[I", .fieldLink RX8 41 "PictureCourtModel" "two" "[I", .fieldLink RX8 44 "PictureCourtModel" "three" "[I", .fieldLink RX8 47 "PictureCourtModel" "four" "[I"] ++ wsX80)
def wsX8_rings : List Cond := .code yX8_rings cX8_rings 4 (some .int) :: ([.methodLink RX8 125 yX8_in, .static yX8_in, .initialized RX8, .code yX8_in cX8_in 3 (some .boolean), .methodLink RX8 170 yX8_comes, .instanceMethod yX8_comes, .selects RX8 yX8_comes yX8_comes, .code yX8_comes cX8_comes 8 (some .int), .fieldLink RX8 167 "PictureCourtModel" "proofs" "I", .fieldLink RX8 26 "PictureCourtModel" "kindOf" "[I", .fieldLink RX8 29 "PictureCourtModel" "weightOf" "[I", .fieldLink RX8 32 "PictureCourtModel" "toldOn" "[I", .fieldLink RX8 135 "PictureCourtModel" "today" "I", .fieldLink RX8 35 "PictureCourtModel" "struckOn" "[I", .fieldLink RX8 38 "PictureCourtModel" "one" "[I", .fieldLink RX8 41 "PictureCourtModel" "two" "[I", .fieldLink RX8 44 "PictureCourtModel" "three" "[I", .fieldLink RX8 47 "PictureCourtModel" "four" "[I"] ++ wsX80)
def wsX8_threads : List Cond := .code yX8_threads cX8_threads 6 (some .int) :: ([.methodLink RX8 138 yX8_isRow, .static yX8_isRow, .initialized RX8, .code yX8_isRow cX8_isRow 1 (some .boolean), .methodLink RX8 125 yX8_in, .static yX8_in, .code yX8_in cX8_in 3 (some .boolean), .methodLink RX8 164 yX8_isYear, .static yX8_isYear, .code yX8_isYear cX8_isYear 1 (some .boolean), .methodLink RX8 170 yX8_comes, .instanceMethod yX8_comes, .selects RX8 yX8_comes yX8_comes, .code yX8_comes cX8_comes 8 (some .int), .fieldLink RX8 167 "PictureCourtModel" "proofs" "I", .fieldLink RX8 26 "PictureCourtModel" "kindOf" "[I", .fieldLink RX8 29 "PictureCourtModel" "weightOf" "[I", .fieldLink RX8 32 "PictureCourtModel" "toldOn" "[I", .fieldLink RX8 135 "PictureCourtModel" "today" "I", .fieldLink RX8 35 "PictureCourtModel" "struckOn" "[I", .fieldLink RX8 38 "PictureCourtModel" "one" "[I", .fieldLink RX8 41 "PictureCourtModel" "two" "[I", .fieldLink RX8 44 "PictureCourtModel" "three" "[I", .fieldLink RX8 47 "PictureCourtModel" "four" "[I"] ++ wsX80)
def wsX8_isProof : List Cond := .code yX8_isProof cX8_isProof 2 (some .boolean) :: ([.fieldLink RX8 167 "PictureCourtModel" "proofs" "I", .methodLink RX8 125 yX8_in, .static yX8_in, .initialized RX8, .code yX8_in cX8_in 3 (some .boolean)] ++ wsX80)
def wsX8_strike : List Cond := .code yX8_strike cX8_strike 2 (some .int) :: ([.fieldLink RX8 35 "PictureCourtModel" "struckOn" "[I", .fieldLink RX8 135 "PictureCourtModel" "today" "I", .methodLink RX8 174 yX8_isProof, .instanceMethod yX8_isProof, .selects RX8 yX8_isProof yX8_isProof, .initialized RX8, .code yX8_isProof cX8_isProof 2 (some .boolean), .fieldLink RX8 167 "PictureCourtModel" "proofs" "I", .methodLink RX8 125 yX8_in, .static yX8_in, .code yX8_in cX8_in 3 (some .boolean)] ++ wsX80)
def wsX8_lack : List Cond := .code yX8_lack cX8_lack 2 (some .int) :: ([])
def wsX8_fromOf_r1 : List Cond := [Cond.fieldLink RX8 26 "PictureCourtModel" "kindOf" "[I", Cond.fieldLink RX8 23 "PictureCourtModel" "paints" "[I", Cond.fieldLink RX8 38 "PictureCourtModel" "one" "[I", Cond.fieldLink RX8 109 "PictureCourtModel" "sapLeast" "I", Cond.fieldLink RX8 41 "PictureCourtModel" "two" "[I", Cond.fieldLink RX8 44 "PictureCourtModel" "three" "[I", Cond.fieldLink RX8 47 "PictureCourtModel" "four" "[I", Cond.methodLink RX8 177 yX8_lack, Cond.static yX8_lack, Cond.initialized RX8, Cond.code yX8_lack cX8_lack 2 (some .int), Cond.methodLink RX8 161 yX8_isSure, Cond.instanceMethod yX8_isSure, Cond.selects RX8 yX8_isSure yX8_isSure, Cond.code yX8_isSure cX8_isSure 6 (some .boolean), Cond.methodLink RX8 150 yX8_mayMatch, Cond.instanceMethod yX8_mayMatch, Cond.selects RX8 yX8_mayMatch yX8_mayMatch, Cond.code yX8_mayMatch cX8_mayMatch 3 (some .boolean), Cond.fieldLink RX8 13 "PictureCourtModel" "sizes" "[I", Cond.methodLink RX8 154 yX8_placeOf, Cond.instanceMethod yX8_placeOf, Cond.selects RX8 yX8_placeOf yX8_placeOf, Cond.code yX8_placeOf cX8_placeOf 5 (some .int)]
def wsX8_fromOf_r2 : List Cond := [Cond.methodLink RX8 146 yX8_offAt, Cond.instanceMethod yX8_offAt, Cond.selects RX8 yX8_offAt yX8_offAt, Cond.code yX8_offAt cX8_offAt 7 (some .int), Cond.fieldLink RX8 16 "PictureCourtModel" "rows" "[B"]
def wsX8_fromOf : List Cond := .code yX8_fromOf cX8_fromOf 2 (some .int) :: ((wsX8_fromOf_r1 ++ wsX8_fromOf_r2) ++ wsX80)
def wsX8_toOf_r1 : List Cond := [Cond.fieldLink RX8 26 "PictureCourtModel" "kindOf" "[I", Cond.fieldLink RX8 38 "PictureCourtModel" "one" "[I", Cond.fieldLink RX8 113 "PictureCourtModel" "sapMost" "I", Cond.fieldLink RX8 41 "PictureCourtModel" "two" "[I", Cond.fieldLink RX8 116 "PictureCourtModel" "use" "I", Cond.fieldLink RX8 44 "PictureCourtModel" "three" "[I", Cond.fieldLink RX8 47 "PictureCourtModel" "four" "[I", Cond.methodLink RX8 177 yX8_lack, Cond.static yX8_lack, Cond.initialized RX8, Cond.code yX8_lack cX8_lack 2 (some .int), Cond.methodLink RX8 161 yX8_isSure, Cond.instanceMethod yX8_isSure, Cond.selects RX8 yX8_isSure yX8_isSure, Cond.code yX8_isSure cX8_isSure 6 (some .boolean), Cond.methodLink RX8 150 yX8_mayMatch, Cond.instanceMethod yX8_mayMatch, Cond.selects RX8 yX8_mayMatch yX8_mayMatch, Cond.code yX8_mayMatch cX8_mayMatch 3 (some .boolean), Cond.fieldLink RX8 13 "PictureCourtModel" "sizes" "[I", Cond.methodLink RX8 154 yX8_placeOf, Cond.instanceMethod yX8_placeOf, Cond.selects RX8 yX8_placeOf yX8_placeOf, Cond.code yX8_placeOf cX8_placeOf 5 (some .int)]
def wsX8_toOf_r2 : List Cond := [Cond.methodLink RX8 146 yX8_offAt, Cond.instanceMethod yX8_offAt, Cond.selects RX8 yX8_offAt yX8_offAt, Cond.code yX8_offAt cX8_offAt 7 (some .int), Cond.fieldLink RX8 16 "PictureCourtModel" "rows" "[B"]
def wsX8_toOf : List Cond := .code yX8_toOf cX8_toOf 3 (some .int) :: ((wsX8_toOf_r1 ++ wsX8_toOf_r2) ++ wsX80)
def wsX8_toldOf_r1 : List Cond := [Cond.fieldLink RX8 26 "PictureCourtModel" "kindOf" "[I", Cond.fieldLink RX8 29 "PictureCourtModel" "weightOf" "[I", Cond.fieldLink RX8 32 "PictureCourtModel" "toldOn" "[I", Cond.fieldLink RX8 35 "PictureCourtModel" "struckOn" "[I", Cond.methodLink RX8 180 yX8_fromOf, Cond.instanceMethod yX8_fromOf, Cond.selects RX8 yX8_fromOf yX8_fromOf, Cond.initialized RX8, Cond.code yX8_fromOf cX8_fromOf 2 (some .int), Cond.fieldLink RX8 23 "PictureCourtModel" "paints" "[I", Cond.fieldLink RX8 38 "PictureCourtModel" "one" "[I", Cond.fieldLink RX8 109 "PictureCourtModel" "sapLeast" "I", Cond.fieldLink RX8 41 "PictureCourtModel" "two" "[I", Cond.fieldLink RX8 44 "PictureCourtModel" "three" "[I", Cond.fieldLink RX8 47 "PictureCourtModel" "four" "[I", Cond.methodLink RX8 177 yX8_lack, Cond.static yX8_lack, Cond.code yX8_lack cX8_lack 2 (some .int), Cond.methodLink RX8 161 yX8_isSure, Cond.instanceMethod yX8_isSure, Cond.selects RX8 yX8_isSure yX8_isSure, Cond.code yX8_isSure cX8_isSure 6 (some .boolean), Cond.methodLink RX8 150 yX8_mayMatch, Cond.instanceMethod yX8_mayMatch]
def wsX8_toldOf_r2 : List Cond := [Cond.selects RX8 yX8_mayMatch yX8_mayMatch, Cond.code yX8_mayMatch cX8_mayMatch 3 (some .boolean), Cond.fieldLink RX8 13 "PictureCourtModel" "sizes" "[I", Cond.methodLink RX8 154 yX8_placeOf, Cond.instanceMethod yX8_placeOf, Cond.selects RX8 yX8_placeOf yX8_placeOf, Cond.code yX8_placeOf cX8_placeOf 5 (some .int), Cond.methodLink RX8 146 yX8_offAt, Cond.instanceMethod yX8_offAt, Cond.selects RX8 yX8_offAt yX8_offAt, Cond.code yX8_offAt cX8_offAt 7 (some .int), Cond.fieldLink RX8 16 "PictureCourtModel" "rows" "[B", Cond.methodLink RX8 183 yX8_toOf, Cond.instanceMethod yX8_toOf, Cond.selects RX8 yX8_toOf yX8_toOf, Cond.code yX8_toOf cX8_toOf 3 (some .int), Cond.fieldLink RX8 113 "PictureCourtModel" "sapMost" "I", Cond.fieldLink RX8 116 "PictureCourtModel" "use" "I"]
def wsX8_toldOf : List Cond := .code yX8_toldOf cX8_toldOf 3 (some .int) :: ((wsX8_toldOf_r1 ++ wsX8_toldOf_r2) ++ wsX80)
def wsX8_told_r1 : List Cond := [Cond.methodLink RX8 174 yX8_isProof, Cond.instanceMethod yX8_isProof, Cond.selects RX8 yX8_isProof yX8_isProof, Cond.initialized RX8, Cond.code yX8_isProof cX8_isProof 2 (some .boolean), Cond.fieldLink RX8 167 "PictureCourtModel" "proofs" "I", Cond.methodLink RX8 125 yX8_in, Cond.static yX8_in, Cond.code yX8_in cX8_in 3 (some .boolean), Cond.methodLink RX8 186 yX8_toldOf, Cond.instanceMethod yX8_toldOf, Cond.selects RX8 yX8_toldOf yX8_toldOf, Cond.code yX8_toldOf cX8_toldOf 3 (some .int), Cond.fieldLink RX8 26 "PictureCourtModel" "kindOf" "[I", Cond.fieldLink RX8 29 "PictureCourtModel" "weightOf" "[I", Cond.fieldLink RX8 32 "PictureCourtModel" "toldOn" "[I", Cond.fieldLink RX8 35 "PictureCourtModel" "struckOn" "[I", Cond.methodLink RX8 180 yX8_fromOf, Cond.instanceMethod yX8_fromOf, Cond.selects RX8 yX8_fromOf yX8_fromOf, Cond.code yX8_fromOf cX8_fromOf 2 (some .int), Cond.fieldLink RX8 23 "PictureCourtModel" "paints" "[I", Cond.fieldLink RX8 38 "PictureCourtModel" "one" "[I", Cond.fieldLink RX8 109 "PictureCourtModel" "sapLeast" "I"]
def wsX8_told_r2 : List Cond := [Cond.fieldLink RX8 41 "PictureCourtModel" "two" "[I", Cond.fieldLink RX8 44 "PictureCourtModel" "three" "[I", Cond.fieldLink RX8 47 "PictureCourtModel" "four" "[I", Cond.methodLink RX8 177 yX8_lack, Cond.static yX8_lack, Cond.code yX8_lack cX8_lack 2 (some .int), Cond.methodLink RX8 161 yX8_isSure, Cond.instanceMethod yX8_isSure, Cond.selects RX8 yX8_isSure yX8_isSure, Cond.code yX8_isSure cX8_isSure 6 (some .boolean), Cond.methodLink RX8 150 yX8_mayMatch, Cond.instanceMethod yX8_mayMatch, Cond.selects RX8 yX8_mayMatch yX8_mayMatch, Cond.code yX8_mayMatch cX8_mayMatch 3 (some .boolean), Cond.fieldLink RX8 13 "PictureCourtModel" "sizes" "[I", Cond.methodLink RX8 154 yX8_placeOf, Cond.instanceMethod yX8_placeOf, Cond.selects RX8 yX8_placeOf yX8_placeOf, Cond.code yX8_placeOf cX8_placeOf 5 (some .int), Cond.methodLink RX8 146 yX8_offAt, Cond.instanceMethod yX8_offAt, Cond.selects RX8 yX8_offAt yX8_offAt, Cond.code yX8_offAt cX8_offAt 7 (some .int), Cond.fieldLink RX8 16 "PictureCourtModel" "rows" "[B"]
def wsX8_told_r3 : List Cond := [Cond.methodLink RX8 183 yX8_toOf, Cond.instanceMethod yX8_toOf, Cond.selects RX8 yX8_toOf yX8_toOf, Cond.code yX8_toOf cX8_toOf 3 (some .int), Cond.fieldLink RX8 113 "PictureCourtModel" "sapMost" "I", Cond.fieldLink RX8 116 "PictureCourtModel" "use" "I"]
def wsX8_told : List Cond := .code yX8_told cX8_told 3 (some .int) :: ((wsX8_told_r1 ++ (wsX8_told_r2 ++ wsX8_told_r3)) ++ wsX80)
def wsX8_mark_r1 : List Cond := [Cond.fieldLink RX8 26 "PictureCourtModel" "kindOf" "[I", Cond.fieldLink RX8 38 "PictureCourtModel" "one" "[I", Cond.fieldLink RX8 41 "PictureCourtModel" "two" "[I", Cond.fieldLink RX8 44 "PictureCourtModel" "three" "[I", Cond.fieldLink RX8 47 "PictureCourtModel" "four" "[I", Cond.methodLink RX8 174 yX8_isProof, Cond.instanceMethod yX8_isProof, Cond.selects RX8 yX8_isProof yX8_isProof, Cond.initialized RX8, Cond.code yX8_isProof cX8_isProof 2 (some .boolean), Cond.fieldLink RX8 167 "PictureCourtModel" "proofs" "I", Cond.methodLink RX8 125 yX8_in, Cond.static yX8_in, Cond.code yX8_in cX8_in 3 (some .boolean), Cond.methodLink RX8 183 yX8_toOf, Cond.instanceMethod yX8_toOf, Cond.selects RX8 yX8_toOf yX8_toOf, Cond.code yX8_toOf cX8_toOf 3 (some .int), Cond.fieldLink RX8 113 "PictureCourtModel" "sapMost" "I", Cond.fieldLink RX8 116 "PictureCourtModel" "use" "I", Cond.methodLink RX8 177 yX8_lack, Cond.static yX8_lack, Cond.code yX8_lack cX8_lack 2 (some .int), Cond.methodLink RX8 161 yX8_isSure]
def wsX8_mark_r2 : List Cond := [Cond.instanceMethod yX8_isSure, Cond.selects RX8 yX8_isSure yX8_isSure, Cond.code yX8_isSure cX8_isSure 6 (some .boolean), Cond.methodLink RX8 150 yX8_mayMatch, Cond.instanceMethod yX8_mayMatch, Cond.selects RX8 yX8_mayMatch yX8_mayMatch, Cond.code yX8_mayMatch cX8_mayMatch 3 (some .boolean), Cond.fieldLink RX8 13 "PictureCourtModel" "sizes" "[I", Cond.methodLink RX8 154 yX8_placeOf, Cond.instanceMethod yX8_placeOf, Cond.selects RX8 yX8_placeOf yX8_placeOf, Cond.code yX8_placeOf cX8_placeOf 5 (some .int), Cond.methodLink RX8 146 yX8_offAt, Cond.instanceMethod yX8_offAt, Cond.selects RX8 yX8_offAt yX8_offAt, Cond.code yX8_offAt cX8_offAt 7 (some .int), Cond.fieldLink RX8 16 "PictureCourtModel" "rows" "[B", Cond.methodLink RX8 180 yX8_fromOf, Cond.instanceMethod yX8_fromOf, Cond.selects RX8 yX8_fromOf yX8_fromOf, Cond.code yX8_fromOf cX8_fromOf 2 (some .int), Cond.fieldLink RX8 23 "PictureCourtModel" "paints" "[I", Cond.fieldLink RX8 109 "PictureCourtModel" "sapLeast" "I", Cond.methodLink RX8 142 yX8_meets]
def wsX8_mark_r3 : List Cond := [Cond.instanceMethod yX8_meets, Cond.selects RX8 yX8_meets yX8_meets, Cond.code yX8_meets cX8_meets 2 (some .int), Cond.fieldLink RX8 122 "PictureCourtModel" "latest" "I", Cond.fieldLink RX8 7 "PictureCourtModel" "came" "[I"]
def wsX8_mark : List Cond := .code yX8_mark cX8_mark 3 (some .int) :: ((wsX8_mark_r1 ++ (wsX8_mark_r2 ++ wsX8_mark_r3)) ++ wsX80)
def wsX8_isKnown : List Cond := .code yX8_isKnown cX8_isKnown 3 (some .boolean) :: ([.fieldLink RX8 32 "PictureCourtModel" "toldOn" "[I", .fieldLink RX8 35 "PictureCourtModel" "struckOn" "[I"] ++ wsX80)
def wsX8_span_r1 : List Cond := [Cond.fieldLink RX8 167 "PictureCourtModel" "proofs" "I", Cond.methodLink RX8 189 yX8_isDay, Cond.static yX8_isDay, Cond.initialized RX8, Cond.code yX8_isDay cX8_isDay 1 (some .boolean), Cond.methodLink RX8 125 yX8_in, Cond.static yX8_in, Cond.code yX8_in cX8_in 3 (some .boolean), Cond.methodLink RX8 192 yX8_isKnown, Cond.instanceMethod yX8_isKnown, Cond.selects RX8 yX8_isKnown yX8_isKnown, Cond.code yX8_isKnown cX8_isKnown 3 (some .boolean), Cond.fieldLink RX8 32 "PictureCourtModel" "toldOn" "[I", Cond.fieldLink RX8 35 "PictureCourtModel" "struckOn" "[I", Cond.methodLink RX8 180 yX8_fromOf, Cond.instanceMethod yX8_fromOf, Cond.selects RX8 yX8_fromOf yX8_fromOf, Cond.code yX8_fromOf cX8_fromOf 2 (some .int), Cond.fieldLink RX8 26 "PictureCourtModel" "kindOf" "[I", Cond.fieldLink RX8 23 "PictureCourtModel" "paints" "[I", Cond.fieldLink RX8 38 "PictureCourtModel" "one" "[I", Cond.fieldLink RX8 109 "PictureCourtModel" "sapLeast" "I", Cond.fieldLink RX8 41 "PictureCourtModel" "two" "[I", Cond.fieldLink RX8 44 "PictureCourtModel" "three" "[I"]
def wsX8_span_r2 : List Cond := [Cond.fieldLink RX8 47 "PictureCourtModel" "four" "[I", Cond.methodLink RX8 177 yX8_lack, Cond.static yX8_lack, Cond.code yX8_lack cX8_lack 2 (some .int), Cond.methodLink RX8 161 yX8_isSure, Cond.instanceMethod yX8_isSure, Cond.selects RX8 yX8_isSure yX8_isSure, Cond.code yX8_isSure cX8_isSure 6 (some .boolean), Cond.methodLink RX8 150 yX8_mayMatch, Cond.instanceMethod yX8_mayMatch, Cond.selects RX8 yX8_mayMatch yX8_mayMatch, Cond.code yX8_mayMatch cX8_mayMatch 3 (some .boolean), Cond.fieldLink RX8 13 "PictureCourtModel" "sizes" "[I", Cond.methodLink RX8 154 yX8_placeOf, Cond.instanceMethod yX8_placeOf, Cond.selects RX8 yX8_placeOf yX8_placeOf, Cond.code yX8_placeOf cX8_placeOf 5 (some .int), Cond.methodLink RX8 146 yX8_offAt, Cond.instanceMethod yX8_offAt, Cond.selects RX8 yX8_offAt yX8_offAt, Cond.code yX8_offAt cX8_offAt 7 (some .int), Cond.fieldLink RX8 16 "PictureCourtModel" "rows" "[B", Cond.methodLink RX8 183 yX8_toOf, Cond.instanceMethod yX8_toOf]
def wsX8_span_r3 : List Cond := [Cond.selects RX8 yX8_toOf yX8_toOf, Cond.code yX8_toOf cX8_toOf 3 (some .int), Cond.fieldLink RX8 113 "PictureCourtModel" "sapMost" "I", Cond.fieldLink RX8 116 "PictureCourtModel" "use" "I"]
def wsX8_span : List Cond := .code yX8_span cX8_span 6 (some .int) :: ((wsX8_span_r1 ++ (wsX8_span_r2 ++ wsX8_span_r3)) ++ wsX80)
def wsX8_quarrel_r1 : List Cond := [Cond.fieldLink RX8 167 "PictureCourtModel" "proofs" "I", Cond.methodLink RX8 189 yX8_isDay, Cond.static yX8_isDay, Cond.initialized RX8, Cond.code yX8_isDay cX8_isDay 1 (some .boolean), Cond.methodLink RX8 125 yX8_in, Cond.static yX8_in, Cond.code yX8_in cX8_in 3 (some .boolean), Cond.methodLink RX8 192 yX8_isKnown, Cond.instanceMethod yX8_isKnown, Cond.selects RX8 yX8_isKnown yX8_isKnown, Cond.code yX8_isKnown cX8_isKnown 3 (some .boolean), Cond.fieldLink RX8 32 "PictureCourtModel" "toldOn" "[I", Cond.fieldLink RX8 35 "PictureCourtModel" "struckOn" "[I", Cond.methodLink RX8 183 yX8_toOf, Cond.instanceMethod yX8_toOf, Cond.selects RX8 yX8_toOf yX8_toOf, Cond.code yX8_toOf cX8_toOf 3 (some .int), Cond.fieldLink RX8 26 "PictureCourtModel" "kindOf" "[I", Cond.fieldLink RX8 38 "PictureCourtModel" "one" "[I", Cond.fieldLink RX8 113 "PictureCourtModel" "sapMost" "I", Cond.fieldLink RX8 41 "PictureCourtModel" "two" "[I", Cond.fieldLink RX8 116 "PictureCourtModel" "use" "I", Cond.fieldLink RX8 44 "PictureCourtModel" "three" "[I"]
def wsX8_quarrel_r2 : List Cond := [Cond.fieldLink RX8 47 "PictureCourtModel" "four" "[I", Cond.methodLink RX8 177 yX8_lack, Cond.static yX8_lack, Cond.code yX8_lack cX8_lack 2 (some .int), Cond.methodLink RX8 161 yX8_isSure, Cond.instanceMethod yX8_isSure, Cond.selects RX8 yX8_isSure yX8_isSure, Cond.code yX8_isSure cX8_isSure 6 (some .boolean), Cond.methodLink RX8 150 yX8_mayMatch, Cond.instanceMethod yX8_mayMatch, Cond.selects RX8 yX8_mayMatch yX8_mayMatch, Cond.code yX8_mayMatch cX8_mayMatch 3 (some .boolean), Cond.fieldLink RX8 13 "PictureCourtModel" "sizes" "[I", Cond.methodLink RX8 154 yX8_placeOf, Cond.instanceMethod yX8_placeOf, Cond.selects RX8 yX8_placeOf yX8_placeOf, Cond.code yX8_placeOf cX8_placeOf 5 (some .int), Cond.methodLink RX8 146 yX8_offAt, Cond.instanceMethod yX8_offAt, Cond.selects RX8 yX8_offAt yX8_offAt, Cond.code yX8_offAt cX8_offAt 7 (some .int), Cond.fieldLink RX8 16 "PictureCourtModel" "rows" "[B", Cond.methodLink RX8 180 yX8_fromOf, Cond.instanceMethod yX8_fromOf]
def wsX8_quarrel_r3 : List Cond := [Cond.selects RX8 yX8_fromOf yX8_fromOf, Cond.code yX8_fromOf cX8_fromOf 2 (some .int), Cond.fieldLink RX8 23 "PictureCourtModel" "paints" "[I", Cond.fieldLink RX8 109 "PictureCourtModel" "sapLeast" "I", Cond.methodLink RX8 158 yX8_tells, Cond.instanceMethod yX8_tells, Cond.selects RX8 yX8_tells yX8_tells, Cond.code yX8_tells cX8_tells 3 (some .int), Cond.fieldLink RX8 129 "PictureCourtModel" "asked" "I"]
def wsX8_quarrel : List Cond := .code yX8_quarrel cX8_quarrel 4 (some .int) :: ((wsX8_quarrel_r1 ++ (wsX8_quarrel_r2 ++ wsX8_quarrel_r3)) ++ wsX80)
def wsX8_bestYear_r1 : List Cond := [Cond.fieldLink RX8 50 "PictureCourtModel" "held" "[I", Cond.fieldLink RX8 167 "PictureCourtModel" "proofs" "I", Cond.fieldLink RX8 29 "PictureCourtModel" "weightOf" "[I", Cond.methodLink RX8 192 yX8_isKnown, Cond.instanceMethod yX8_isKnown, Cond.selects RX8 yX8_isKnown yX8_isKnown, Cond.initialized RX8, Cond.code yX8_isKnown cX8_isKnown 3 (some .boolean), Cond.fieldLink RX8 32 "PictureCourtModel" "toldOn" "[I", Cond.fieldLink RX8 35 "PictureCourtModel" "struckOn" "[I", Cond.methodLink RX8 180 yX8_fromOf, Cond.instanceMethod yX8_fromOf, Cond.selects RX8 yX8_fromOf yX8_fromOf, Cond.code yX8_fromOf cX8_fromOf 2 (some .int), Cond.fieldLink RX8 26 "PictureCourtModel" "kindOf" "[I", Cond.fieldLink RX8 23 "PictureCourtModel" "paints" "[I", Cond.fieldLink RX8 38 "PictureCourtModel" "one" "[I", Cond.fieldLink RX8 109 "PictureCourtModel" "sapLeast" "I", Cond.fieldLink RX8 41 "PictureCourtModel" "two" "[I", Cond.fieldLink RX8 44 "PictureCourtModel" "three" "[I", Cond.fieldLink RX8 47 "PictureCourtModel" "four" "[I", Cond.methodLink RX8 177 yX8_lack, Cond.static yX8_lack, Cond.code yX8_lack cX8_lack 2 (some .int)]
def wsX8_bestYear_r2 : List Cond := [Cond.methodLink RX8 161 yX8_isSure, Cond.instanceMethod yX8_isSure, Cond.selects RX8 yX8_isSure yX8_isSure, Cond.code yX8_isSure cX8_isSure 6 (some .boolean), Cond.methodLink RX8 150 yX8_mayMatch, Cond.instanceMethod yX8_mayMatch, Cond.selects RX8 yX8_mayMatch yX8_mayMatch, Cond.code yX8_mayMatch cX8_mayMatch 3 (some .boolean), Cond.fieldLink RX8 13 "PictureCourtModel" "sizes" "[I", Cond.methodLink RX8 154 yX8_placeOf, Cond.instanceMethod yX8_placeOf, Cond.selects RX8 yX8_placeOf yX8_placeOf, Cond.code yX8_placeOf cX8_placeOf 5 (some .int), Cond.methodLink RX8 146 yX8_offAt, Cond.instanceMethod yX8_offAt, Cond.selects RX8 yX8_offAt yX8_offAt, Cond.code yX8_offAt cX8_offAt 7 (some .int), Cond.fieldLink RX8 16 "PictureCourtModel" "rows" "[B", Cond.methodLink RX8 183 yX8_toOf, Cond.instanceMethod yX8_toOf, Cond.selects RX8 yX8_toOf yX8_toOf, Cond.code yX8_toOf cX8_toOf 3 (some .int), Cond.fieldLink RX8 113 "PictureCourtModel" "sapMost" "I", Cond.fieldLink RX8 116 "PictureCourtModel" "use" "I"]
def wsX8_bestYear : List Cond := .code yX8_bestYear cX8_bestYear 4 (some .int) :: ((wsX8_bestYear_r1 ++ wsX8_bestYear_r2) ++ wsX80)
def wsX8_leftOut_r1 : List Cond := [Cond.fieldLink RX8 167 "PictureCourtModel" "proofs" "I", Cond.fieldLink RX8 29 "PictureCourtModel" "weightOf" "[I", Cond.methodLink RX8 189 yX8_isDay, Cond.static yX8_isDay, Cond.initialized RX8, Cond.code yX8_isDay cX8_isDay 1 (some .boolean), Cond.methodLink RX8 125 yX8_in, Cond.static yX8_in, Cond.code yX8_in cX8_in 3 (some .boolean), Cond.methodLink RX8 195 yX8_bestYear, Cond.instanceMethod yX8_bestYear, Cond.selects RX8 yX8_bestYear yX8_bestYear, Cond.code yX8_bestYear cX8_bestYear 4 (some .int), Cond.fieldLink RX8 50 "PictureCourtModel" "held" "[I", Cond.methodLink RX8 192 yX8_isKnown, Cond.instanceMethod yX8_isKnown, Cond.selects RX8 yX8_isKnown yX8_isKnown, Cond.code yX8_isKnown cX8_isKnown 3 (some .boolean), Cond.fieldLink RX8 32 "PictureCourtModel" "toldOn" "[I", Cond.fieldLink RX8 35 "PictureCourtModel" "struckOn" "[I", Cond.methodLink RX8 180 yX8_fromOf, Cond.instanceMethod yX8_fromOf, Cond.selects RX8 yX8_fromOf yX8_fromOf, Cond.code yX8_fromOf cX8_fromOf 2 (some .int)]
def wsX8_leftOut_r2 : List Cond := [Cond.fieldLink RX8 26 "PictureCourtModel" "kindOf" "[I", Cond.fieldLink RX8 23 "PictureCourtModel" "paints" "[I", Cond.fieldLink RX8 38 "PictureCourtModel" "one" "[I", Cond.fieldLink RX8 109 "PictureCourtModel" "sapLeast" "I", Cond.fieldLink RX8 41 "PictureCourtModel" "two" "[I", Cond.fieldLink RX8 44 "PictureCourtModel" "three" "[I", Cond.fieldLink RX8 47 "PictureCourtModel" "four" "[I", Cond.methodLink RX8 177 yX8_lack, Cond.static yX8_lack, Cond.code yX8_lack cX8_lack 2 (some .int), Cond.methodLink RX8 161 yX8_isSure, Cond.instanceMethod yX8_isSure, Cond.selects RX8 yX8_isSure yX8_isSure, Cond.code yX8_isSure cX8_isSure 6 (some .boolean), Cond.methodLink RX8 150 yX8_mayMatch, Cond.instanceMethod yX8_mayMatch, Cond.selects RX8 yX8_mayMatch yX8_mayMatch, Cond.code yX8_mayMatch cX8_mayMatch 3 (some .boolean), Cond.fieldLink RX8 13 "PictureCourtModel" "sizes" "[I", Cond.methodLink RX8 154 yX8_placeOf, Cond.instanceMethod yX8_placeOf, Cond.selects RX8 yX8_placeOf yX8_placeOf, Cond.code yX8_placeOf cX8_placeOf 5 (some .int), Cond.methodLink RX8 146 yX8_offAt]
def wsX8_leftOut_r3 : List Cond := [Cond.instanceMethod yX8_offAt, Cond.selects RX8 yX8_offAt yX8_offAt, Cond.code yX8_offAt cX8_offAt 7 (some .int), Cond.fieldLink RX8 16 "PictureCourtModel" "rows" "[B", Cond.methodLink RX8 183 yX8_toOf, Cond.instanceMethod yX8_toOf, Cond.selects RX8 yX8_toOf yX8_toOf, Cond.code yX8_toOf cX8_toOf 3 (some .int), Cond.fieldLink RX8 113 "PictureCourtModel" "sapMost" "I", Cond.fieldLink RX8 116 "PictureCourtModel" "use" "I", Cond.methodLink RX8 158 yX8_tells, Cond.instanceMethod yX8_tells, Cond.selects RX8 yX8_tells yX8_tells, Cond.code yX8_tells cX8_tells 3 (some .int), Cond.fieldLink RX8 129 "PictureCourtModel" "asked" "I"]
def wsX8_leftOut : List Cond := .code yX8_leftOut cX8_leftOut 6 (some .int) :: ((wsX8_leftOut_r1 ++ (wsX8_leftOut_r2 ++ wsX8_leftOut_r3)) ++ wsX80)
def wsX8_heldYear_r1 : List Cond := [Cond.methodLink RX8 189 yX8_isDay, Cond.static yX8_isDay, Cond.initialized RX8, Cond.code yX8_isDay cX8_isDay 1 (some .boolean), Cond.methodLink RX8 125 yX8_in, Cond.static yX8_in, Cond.code yX8_in cX8_in 3 (some .boolean), Cond.methodLink RX8 195 yX8_bestYear, Cond.instanceMethod yX8_bestYear, Cond.selects RX8 yX8_bestYear yX8_bestYear, Cond.code yX8_bestYear cX8_bestYear 4 (some .int), Cond.fieldLink RX8 50 "PictureCourtModel" "held" "[I", Cond.fieldLink RX8 167 "PictureCourtModel" "proofs" "I", Cond.fieldLink RX8 29 "PictureCourtModel" "weightOf" "[I", Cond.methodLink RX8 192 yX8_isKnown, Cond.instanceMethod yX8_isKnown, Cond.selects RX8 yX8_isKnown yX8_isKnown, Cond.code yX8_isKnown cX8_isKnown 3 (some .boolean), Cond.fieldLink RX8 32 "PictureCourtModel" "toldOn" "[I", Cond.fieldLink RX8 35 "PictureCourtModel" "struckOn" "[I", Cond.methodLink RX8 180 yX8_fromOf, Cond.instanceMethod yX8_fromOf, Cond.selects RX8 yX8_fromOf yX8_fromOf, Cond.code yX8_fromOf cX8_fromOf 2 (some .int)]
def wsX8_heldYear_r2 : List Cond := [Cond.fieldLink RX8 26 "PictureCourtModel" "kindOf" "[I", Cond.fieldLink RX8 23 "PictureCourtModel" "paints" "[I", Cond.fieldLink RX8 38 "PictureCourtModel" "one" "[I", Cond.fieldLink RX8 109 "PictureCourtModel" "sapLeast" "I", Cond.fieldLink RX8 41 "PictureCourtModel" "two" "[I", Cond.fieldLink RX8 44 "PictureCourtModel" "three" "[I", Cond.fieldLink RX8 47 "PictureCourtModel" "four" "[I", Cond.methodLink RX8 177 yX8_lack, Cond.static yX8_lack, Cond.code yX8_lack cX8_lack 2 (some .int), Cond.methodLink RX8 161 yX8_isSure, Cond.instanceMethod yX8_isSure, Cond.selects RX8 yX8_isSure yX8_isSure, Cond.code yX8_isSure cX8_isSure 6 (some .boolean), Cond.methodLink RX8 150 yX8_mayMatch, Cond.instanceMethod yX8_mayMatch, Cond.selects RX8 yX8_mayMatch yX8_mayMatch, Cond.code yX8_mayMatch cX8_mayMatch 3 (some .boolean), Cond.fieldLink RX8 13 "PictureCourtModel" "sizes" "[I", Cond.methodLink RX8 154 yX8_placeOf, Cond.instanceMethod yX8_placeOf, Cond.selects RX8 yX8_placeOf yX8_placeOf, Cond.code yX8_placeOf cX8_placeOf 5 (some .int), Cond.methodLink RX8 146 yX8_offAt]
def wsX8_heldYear_r3 : List Cond := [Cond.instanceMethod yX8_offAt, Cond.selects RX8 yX8_offAt yX8_offAt, Cond.code yX8_offAt cX8_offAt 7 (some .int), Cond.fieldLink RX8 16 "PictureCourtModel" "rows" "[B", Cond.methodLink RX8 183 yX8_toOf, Cond.instanceMethod yX8_toOf, Cond.selects RX8 yX8_toOf yX8_toOf, Cond.code yX8_toOf cX8_toOf 3 (some .int), Cond.fieldLink RX8 113 "PictureCourtModel" "sapMost" "I", Cond.fieldLink RX8 116 "PictureCourtModel" "use" "I"]
def wsX8_heldYear : List Cond := .code yX8_heldYear cX8_heldYear 2 (some .int) :: ((wsX8_heldYear_r1 ++ (wsX8_heldYear_r2 ++ wsX8_heldYear_r3)) ++ wsX80)
def wsX8_isHand : List Cond := .code yX8_isHand cX8_isHand 1 (some .boolean) :: ([.methodLink RX8 125 yX8_in, .static yX8_in, .initialized RX8, .code yX8_in cX8_in 3 (some .boolean)])
def wsX8_isTest : List Cond := .code yX8_isTest cX8_isTest 2 (some .boolean) :: ([.fieldLink RX8 198 "PictureCourtModel" "tests" "I", .methodLink RX8 125 yX8_in, .static yX8_in, .initialized RX8, .code yX8_in cX8_in 3 (some .boolean)] ++ wsX80)
def wsX8_hand : List Cond := .code yX8_hand cX8_hand 4 (some .int) :: ([.fieldLink RX8 53 "PictureCourtModel" "hands" "[I", .methodLink RX8 201 yX8_isHand, .static yX8_isHand, .initialized RX8, .code yX8_isHand cX8_isHand 1 (some .boolean), .methodLink RX8 125 yX8_in, .static yX8_in, .code yX8_in cX8_in 3 (some .boolean)] ++ wsX80)
def wsX8_test : List Cond := .code yX8_test cX8_test 5 (some .int) :: ([.fieldLink RX8 198 "PictureCourtModel" "tests" "I", .fieldLink RX8 56 "PictureCourtModel" "testCost" "[I", .fieldLink RX8 59 "PictureCourtModel" "testWound" "[I", .fieldLink RX8 62 "PictureCourtModel" "testGroup" "[I", .fieldLink RX8 68 "PictureCourtModel" "testOut" "[I", .fieldLink RX8 71 "PictureCourtModel" "testCounts" "[Z", .fieldLink RX8 65 "PictureCourtModel" "testOften" "[I", .methodLink RX8 125 yX8_in, .static yX8_in, .initialized RX8, .code yX8_in cX8_in 3 (some .boolean)] ++ wsX80)
def wsX8_often : List Cond := .code yX8_often cX8_often 5 (some .int) :: ([.fieldLink RX8 68 "PictureCourtModel" "testOut" "[I", .fieldLink RX8 65 "PictureCourtModel" "testOften" "[I", .methodLink RX8 204 yX8_isTest, .instanceMethod yX8_isTest, .selects RX8 yX8_isTest yX8_isTest, .initialized RX8, .code yX8_isTest cX8_isTest 2 (some .boolean), .fieldLink RX8 198 "PictureCourtModel" "tests" "I", .methodLink RX8 125 yX8_in, .static yX8_in, .code yX8_in cX8_in 3 (some .boolean), .methodLink RX8 201 yX8_isHand, .static yX8_isHand, .code yX8_isHand cX8_isHand 1 (some .boolean)] ++ wsX80)
def wsX8_isGroupDone : List Cond := .code yX8_isGroupDone cX8_isGroupDone 4 (some .boolean) :: ([.fieldLink RX8 198 "PictureCourtModel" "tests" "I", .fieldLink RX8 62 "PictureCourtModel" "testGroup" "[I", .fieldLink RX8 68 "PictureCourtModel" "testOut" "[I"] ++ wsX80)
def wsX8_done : List Cond := .code yX8_done cX8_done 3 (some .int) :: ([.fieldLink RX8 68 "PictureCourtModel" "testOut" "[I", .fieldLink RX8 71 "PictureCourtModel" "testCounts" "[Z", .methodLink RX8 204 yX8_isTest, .instanceMethod yX8_isTest, .selects RX8 yX8_isTest yX8_isTest, .initialized RX8, .code yX8_isTest cX8_isTest 2 (some .boolean), .fieldLink RX8 198 "PictureCourtModel" "tests" "I", .methodLink RX8 125 yX8_in, .static yX8_in, .code yX8_in cX8_in 3 (some .boolean), .methodLink RX8 207 yX8_isGroupDone, .instanceMethod yX8_isGroupDone, .selects RX8 yX8_isGroupDone yX8_isGroupDone, .code yX8_isGroupDone cX8_isGroupDone 4 (some .boolean), .fieldLink RX8 62 "PictureCourtModel" "testGroup" "[I"] ++ wsX80)
def wsX8_scoreOf : List Cond := .code yX8_scoreOf cX8_scoreOf 6 (some .long) :: ([.fieldLink RX8 53 "PictureCourtModel" "hands" "[I", .fieldLink RX8 198 "PictureCourtModel" "tests" "I", .fieldLink RX8 65 "PictureCourtModel" "testOften" "[I", .fieldLink RX8 71 "PictureCourtModel" "testCounts" "[Z", .fieldLink RX8 68 "PictureCourtModel" "testOut" "[I"] ++ wsX80)
def wsX8_allScores : List Cond := .code yX8_allScores cX8_allScores 1 (some .long) :: ([.methodLink RX8 210 yX8_scoreOf, .instanceMethod yX8_scoreOf, .selects RX8 yX8_scoreOf yX8_scoreOf, .initialized RX8, .code yX8_scoreOf cX8_scoreOf 6 (some .long), .fieldLink RX8 53 "PictureCourtModel" "hands" "[I", .fieldLink RX8 198 "PictureCourtModel" "tests" "I", .fieldLink RX8 65 "PictureCourtModel" "testOften" "[I", .fieldLink RX8 71 "PictureCourtModel" "testCounts" "[Z", .fieldLink RX8 68 "PictureCourtModel" "testOut" "[I"] ++ wsX80)
def wsX8_chance_r1 : List Cond := [Cond.methodLink RX8 201 yX8_isHand, Cond.static yX8_isHand, Cond.initialized RX8, Cond.code yX8_isHand cX8_isHand 1 (some .boolean), Cond.methodLink RX8 125 yX8_in, Cond.static yX8_in, Cond.code yX8_in cX8_in 3 (some .boolean), Cond.methodLink RX8 214 yX8_allScores, Cond.instanceMethod yX8_allScores, Cond.selects RX8 yX8_allScores yX8_allScores, Cond.code yX8_allScores cX8_allScores 1 (some .long), Cond.methodLink RX8 210 yX8_scoreOf, Cond.instanceMethod yX8_scoreOf, Cond.selects RX8 yX8_scoreOf yX8_scoreOf, Cond.code yX8_scoreOf cX8_scoreOf 6 (some .long), Cond.fieldLink RX8 53 "PictureCourtModel" "hands" "[I", Cond.fieldLink RX8 198 "PictureCourtModel" "tests" "I", Cond.fieldLink RX8 65 "PictureCourtModel" "testOften" "[I", Cond.fieldLink RX8 71 "PictureCourtModel" "testCounts" "[Z", Cond.fieldLink RX8 68 "PictureCourtModel" "testOut" "[I", Cond.methodLink RX8 142 yX8_meets, Cond.instanceMethod yX8_meets, Cond.selects RX8 yX8_meets yX8_meets, Cond.code yX8_meets cX8_meets 2 (some .int)]
def wsX8_chance_r2 : List Cond := [Cond.fieldLink RX8 122 "PictureCourtModel" "latest" "I", Cond.fieldLink RX8 7 "PictureCourtModel" "came" "[I", Cond.methodLink RX8 218 yX8_fraction, Cond.instanceMethod yX8_fraction, Cond.selects RX8 yX8_fraction yX8_fraction, Cond.code yX8_fraction cX8_fraction 12 (some .int), Cond.fieldLink RX8 132 "PictureCourtModel" "upper" "J", Cond.fieldLink RX8 105 "PictureCourtModel" "lower" "J"]
def wsX8_chance : List Cond := .code yX8_chance cX8_chance 2 (some .int) :: ((wsX8_chance_r1 ++ wsX8_chance_r2) ++ wsX80)
def wsX8_likely : List Cond := .code yX8_likely cX8_likely 3 (some .int) :: ([.methodLink RX8 214 yX8_allScores, .instanceMethod yX8_allScores, .selects RX8 yX8_allScores yX8_allScores, .initialized RX8, .code yX8_allScores cX8_allScores 1 (some .long), .methodLink RX8 210 yX8_scoreOf, .instanceMethod yX8_scoreOf, .selects RX8 yX8_scoreOf yX8_scoreOf, .code yX8_scoreOf cX8_scoreOf 6 (some .long), .fieldLink RX8 53 "PictureCourtModel" "hands" "[I", .fieldLink RX8 198 "PictureCourtModel" "tests" "I", .fieldLink RX8 65 "PictureCourtModel" "testOften" "[I", .fieldLink RX8 71 "PictureCourtModel" "testCounts" "[Z", .fieldLink RX8 68 "PictureCourtModel" "testOut" "[I", .methodLink RX8 142 yX8_meets, .instanceMethod yX8_meets, .selects RX8 yX8_meets yX8_meets, .code yX8_meets cX8_meets 2 (some .int), .fieldLink RX8 122 "PictureCourtModel" "latest" "I", .fieldLink RX8 7 "PictureCourtModel" "came" "[I"] ++ wsX80)
def wsX8_gainOf : List Cond := .code yX8_gainOf cX8_gainOf 12 (some .long) :: ([.fieldLink RX8 65 "PictureCourtModel" "testOften" "[I", .constantLong RX8 222 (16), .methodLink RX8 210 yX8_scoreOf, .instanceMethod yX8_scoreOf, .selects RX8 yX8_scoreOf yX8_scoreOf, .initialized RX8, .code yX8_scoreOf cX8_scoreOf 6 (some .long), .fieldLink RX8 53 "PictureCourtModel" "hands" "[I", .fieldLink RX8 198 "PictureCourtModel" "tests" "I", .fieldLink RX8 71 "PictureCourtModel" "testCounts" "[Z", .fieldLink RX8 68 "PictureCourtModel" "testOut" "[I"] ++ wsX80)
def wsX8_isOpen : List Cond := .code yX8_isOpen cX8_isOpen 2 (some .boolean) :: ([.fieldLink RX8 68 "PictureCourtModel" "testOut" "[I", .methodLink RX8 207 yX8_isGroupDone, .instanceMethod yX8_isGroupDone, .selects RX8 yX8_isGroupDone yX8_isGroupDone, .initialized RX8, .code yX8_isGroupDone cX8_isGroupDone 4 (some .boolean), .fieldLink RX8 198 "PictureCourtModel" "tests" "I", .fieldLink RX8 62 "PictureCourtModel" "testGroup" "[I"] ++ wsX80)
def wsX8_gain_r1 : List Cond := [Cond.constantLong RX8 222 (16), Cond.methodLink RX8 204 yX8_isTest, Cond.instanceMethod yX8_isTest, Cond.selects RX8 yX8_isTest yX8_isTest, Cond.initialized RX8, Cond.code yX8_isTest cX8_isTest 2 (some .boolean), Cond.fieldLink RX8 198 "PictureCourtModel" "tests" "I", Cond.methodLink RX8 125 yX8_in, Cond.static yX8_in, Cond.code yX8_in cX8_in 3 (some .boolean), Cond.methodLink RX8 224 yX8_isOpen, Cond.instanceMethod yX8_isOpen, Cond.selects RX8 yX8_isOpen yX8_isOpen, Cond.code yX8_isOpen cX8_isOpen 2 (some .boolean), Cond.fieldLink RX8 68 "PictureCourtModel" "testOut" "[I", Cond.methodLink RX8 207 yX8_isGroupDone, Cond.instanceMethod yX8_isGroupDone, Cond.selects RX8 yX8_isGroupDone yX8_isGroupDone, Cond.code yX8_isGroupDone cX8_isGroupDone 4 (some .boolean), Cond.fieldLink RX8 62 "PictureCourtModel" "testGroup" "[I", Cond.methodLink RX8 214 yX8_allScores, Cond.instanceMethod yX8_allScores, Cond.selects RX8 yX8_allScores yX8_allScores, Cond.code yX8_allScores cX8_allScores 1 (some .long)]
def wsX8_gain_r2 : List Cond := [Cond.methodLink RX8 210 yX8_scoreOf, Cond.instanceMethod yX8_scoreOf, Cond.selects RX8 yX8_scoreOf yX8_scoreOf, Cond.code yX8_scoreOf cX8_scoreOf 6 (some .long), Cond.fieldLink RX8 53 "PictureCourtModel" "hands" "[I", Cond.fieldLink RX8 65 "PictureCourtModel" "testOften" "[I", Cond.fieldLink RX8 71 "PictureCourtModel" "testCounts" "[Z", Cond.methodLink RX8 142 yX8_meets, Cond.instanceMethod yX8_meets, Cond.selects RX8 yX8_meets yX8_meets, Cond.code yX8_meets cX8_meets 2 (some .int), Cond.fieldLink RX8 122 "PictureCourtModel" "latest" "I", Cond.fieldLink RX8 7 "PictureCourtModel" "came" "[I", Cond.methodLink RX8 227 yX8_gainOf, Cond.instanceMethod yX8_gainOf, Cond.selects RX8 yX8_gainOf yX8_gainOf, Cond.code yX8_gainOf cX8_gainOf 12 (some .long), Cond.methodLink RX8 218 yX8_fraction, Cond.instanceMethod yX8_fraction, Cond.selects RX8 yX8_fraction yX8_fraction, Cond.code yX8_fraction cX8_fraction 12 (some .int), Cond.fieldLink RX8 132 "PictureCourtModel" "upper" "J", Cond.fieldLink RX8 105 "PictureCourtModel" "lower" "J"]
def wsX8_gain : List Cond := .code yX8_gain cX8_gain 2 (some .int) :: ((wsX8_gain_r1 ++ wsX8_gain_r2) ++ wsX80)
def wsX8_next_r1 : List Cond := [Cond.fieldLink RX8 198 "PictureCourtModel" "tests" "I", Cond.fieldLink RX8 56 "PictureCourtModel" "testCost" "[I", Cond.fieldLink RX8 59 "PictureCourtModel" "testWound" "[I", Cond.methodLink RX8 214 yX8_allScores, Cond.instanceMethod yX8_allScores, Cond.selects RX8 yX8_allScores yX8_allScores, Cond.initialized RX8, Cond.code yX8_allScores cX8_allScores 1 (some .long), Cond.methodLink RX8 210 yX8_scoreOf, Cond.instanceMethod yX8_scoreOf, Cond.selects RX8 yX8_scoreOf yX8_scoreOf, Cond.code yX8_scoreOf cX8_scoreOf 6 (some .long), Cond.fieldLink RX8 53 "PictureCourtModel" "hands" "[I", Cond.fieldLink RX8 65 "PictureCourtModel" "testOften" "[I", Cond.fieldLink RX8 71 "PictureCourtModel" "testCounts" "[Z", Cond.fieldLink RX8 68 "PictureCourtModel" "testOut" "[I", Cond.methodLink RX8 142 yX8_meets, Cond.instanceMethod yX8_meets, Cond.selects RX8 yX8_meets yX8_meets, Cond.code yX8_meets cX8_meets 2 (some .int), Cond.fieldLink RX8 122 "PictureCourtModel" "latest" "I", Cond.fieldLink RX8 7 "PictureCourtModel" "came" "[I", Cond.methodLink RX8 224 yX8_isOpen, Cond.instanceMethod yX8_isOpen]
def wsX8_next_r2 : List Cond := [Cond.selects RX8 yX8_isOpen yX8_isOpen, Cond.code yX8_isOpen cX8_isOpen 2 (some .boolean), Cond.methodLink RX8 207 yX8_isGroupDone, Cond.instanceMethod yX8_isGroupDone, Cond.selects RX8 yX8_isGroupDone yX8_isGroupDone, Cond.code yX8_isGroupDone cX8_isGroupDone 4 (some .boolean), Cond.fieldLink RX8 62 "PictureCourtModel" "testGroup" "[I", Cond.methodLink RX8 227 yX8_gainOf, Cond.instanceMethod yX8_gainOf, Cond.selects RX8 yX8_gainOf yX8_gainOf, Cond.code yX8_gainOf cX8_gainOf 12 (some .long), Cond.constantLong RX8 222 (16)]
def wsX8_next : List Cond := .code yX8_next cX8_next 6 (some .int) :: ((wsX8_next_r1 ++ wsX8_next_r2) ++ wsX80)
def wsX8_owner : List Cond := .code yX8_owner cX8_owner 3 (some .int) :: ([.fieldLink RX8 230 "PictureCourtModel" "owners" "I", .fieldLink RX8 75 "PictureCourtModel" "ownerFrom" "[I", .fieldLink RX8 78 "PictureCourtModel" "ownerTo" "[I", .methodLink RX8 164 yX8_isYear, .static yX8_isYear, .initialized RX8, .code yX8_isYear cX8_isYear 1 (some .boolean), .methodLink RX8 125 yX8_in, .static yX8_in, .code yX8_in cX8_in 3 (some .boolean)] ++ wsX80)
def wsX8_gaps : List Cond := .code yX8_gaps cX8_gaps 9 (some .int) :: ([.fieldLink RX8 230 "PictureCourtModel" "owners" "I", .fieldLink RX8 75 "PictureCourtModel" "ownerFrom" "[I", .fieldLink RX8 78 "PictureCourtModel" "ownerTo" "[I", .methodLink RX8 164 yX8_isYear, .static yX8_isYear, .initialized RX8, .code yX8_isYear cX8_isYear 1 (some .boolean), .methodLink RX8 125 yX8_in, .static yX8_in, .code yX8_in cX8_in 3 (some .boolean), .methodLink RX8 158 yX8_tells, .instanceMethod yX8_tells, .selects RX8 yX8_tells yX8_tells, .code yX8_tells cX8_tells 3 (some .int), .fieldLink RX8 129 "PictureCourtModel" "asked" "I"] ++ wsX80)
def wsX8_opinion : List Cond := .code yX8_opinion cX8_opinion 5 (some .int) :: ([.fieldLink RX8 233 "PictureCourtModel" "opinions" "I", .fieldLink RX8 81 "PictureCourtModel" "opinionExpert" "[I", .fieldLink RX8 84 "PictureCourtModel" "opinionHand" "[I", .fieldLink RX8 87 "PictureCourtModel" "opinionSure" "[I", .fieldLink RX8 90 "PictureCourtModel" "opinionKnew" "[Z", .methodLink RX8 125 yX8_in, .static yX8_in, .initialized RX8, .code yX8_in cX8_in 3 (some .boolean), .methodLink RX8 201 yX8_isHand, .static yX8_isHand, .code yX8_isHand cX8_isHand 1 (some .boolean)] ++ wsX80)
def wsX8_mean : List Cond := .code yX8_mean cX8_mean 7 (some .int) :: ([.fieldLink RX8 233 "PictureCourtModel" "opinions" "I", .fieldLink RX8 84 "PictureCourtModel" "opinionHand" "[I", .fieldLink RX8 90 "PictureCourtModel" "opinionKnew" "[Z", .fieldLink RX8 87 "PictureCourtModel" "opinionSure" "[I", .methodLink RX8 201 yX8_isHand, .static yX8_isHand, .initialized RX8, .code yX8_isHand cX8_isHand 1 (some .boolean), .methodLink RX8 125 yX8_in, .static yX8_in, .code yX8_in cX8_in 3 (some .boolean), .methodLink RX8 142 yX8_meets, .instanceMethod yX8_meets, .selects RX8 yX8_meets yX8_meets, .code yX8_meets cX8_meets 2 (some .int), .fieldLink RX8 122 "PictureCourtModel" "latest" "I", .fieldLink RX8 7 "PictureCourtModel" "came" "[I"] ++ wsX80)
def wsX8_spread : List Cond := .code yX8_spread cX8_spread 7 (some .int) :: ([.fieldLink RX8 233 "PictureCourtModel" "opinions" "I", .fieldLink RX8 81 "PictureCourtModel" "opinionExpert" "[I", .fieldLink RX8 84 "PictureCourtModel" "opinionHand" "[I", .fieldLink RX8 90 "PictureCourtModel" "opinionKnew" "[Z", .fieldLink RX8 87 "PictureCourtModel" "opinionSure" "[I", .methodLink RX8 158 yX8_tells, .instanceMethod yX8_tells, .selects RX8 yX8_tells yX8_tells, .initialized RX8, .code yX8_tells cX8_tells 3 (some .int), .fieldLink RX8 129 "PictureCourtModel" "asked" "I"] ++ wsX80)
def wsX8_sold : List Cond := .code yX8_sold cX8_sold 4 (some .int) :: ([.fieldLink RX8 135 "PictureCourtModel" "today" "I", .constant RX8 236 (1000000), .fieldLink RX8 119 "PictureCourtModel" "soldOn" "I", .fieldLink RX8 237 "PictureCourtModel" "soldFor" "I", .fieldLink RX8 240 "PictureCourtModel" "soldAs" "I", .methodLink RX8 125 yX8_in, .static yX8_in, .initialized RX8, .code yX8_in cX8_in 3 (some .boolean), .methodLink RX8 201 yX8_isHand, .static yX8_isHand, .code yX8_isHand cX8_isHand 1 (some .boolean)] ++ wsX80)
def wsX8_law : List Cond := .code yX8_law cX8_law 5 (some .int) :: ([.fieldLink RX8 243 "PictureCourtModel" "laws" "I", .fieldLink RX8 93 "PictureCourtModel" "lawDay" "[I", .fieldLink RX8 96 "PictureCourtModel" "lawWithin" "[I", .fieldLink RX8 99 "PictureCourtModel" "lawBelow" "[I", .fieldLink RX8 102 "PictureCourtModel" "lawRate" "[I", .methodLink RX8 189 yX8_isDay, .static yX8_isDay, .initialized RX8, .code yX8_isDay cX8_isDay 1 (some .boolean), .methodLink RX8 125 yX8_in, .static yX8_in, .code yX8_in cX8_in 3 (some .boolean)] ++ wsX80)
def wsX8_claim_r1 : List Cond := [Cond.fieldLink RX8 243 "PictureCourtModel" "laws" "I", Cond.fieldLink RX8 119 "PictureCourtModel" "soldOn" "I", Cond.fieldLink RX8 93 "PictureCourtModel" "lawDay" "[I", Cond.fieldLink RX8 135 "PictureCourtModel" "today" "I", Cond.fieldLink RX8 96 "PictureCourtModel" "lawWithin" "[I", Cond.fieldLink RX8 240 "PictureCourtModel" "soldAs" "I", Cond.constantLong RX8 246 (100), Cond.fieldLink RX8 99 "PictureCourtModel" "lawBelow" "[I", Cond.fieldLink RX8 237 "PictureCourtModel" "soldFor" "I", Cond.fieldLink RX8 102 "PictureCourtModel" "lawRate" "[I", Cond.constantLong RX8 248 (36500), Cond.methodLink RX8 214 yX8_allScores, Cond.instanceMethod yX8_allScores, Cond.selects RX8 yX8_allScores yX8_allScores, Cond.initialized RX8, Cond.code yX8_allScores cX8_allScores 1 (some .long), Cond.methodLink RX8 210 yX8_scoreOf, Cond.instanceMethod yX8_scoreOf, Cond.selects RX8 yX8_scoreOf yX8_scoreOf, Cond.code yX8_scoreOf cX8_scoreOf 6 (some .long), Cond.fieldLink RX8 53 "PictureCourtModel" "hands" "[I", Cond.fieldLink RX8 198 "PictureCourtModel" "tests" "I", Cond.fieldLink RX8 65 "PictureCourtModel" "testOften" "[I", Cond.fieldLink RX8 71 "PictureCourtModel" "testCounts" "[Z"]
def wsX8_claim_r2 : List Cond := [Cond.fieldLink RX8 68 "PictureCourtModel" "testOut" "[I", Cond.methodLink RX8 142 yX8_meets, Cond.instanceMethod yX8_meets, Cond.selects RX8 yX8_meets yX8_meets, Cond.code yX8_meets cX8_meets 2 (some .int), Cond.fieldLink RX8 122 "PictureCourtModel" "latest" "I", Cond.fieldLink RX8 7 "PictureCourtModel" "came" "[I", Cond.methodLink RX8 158 yX8_tells, Cond.instanceMethod yX8_tells, Cond.selects RX8 yX8_tells yX8_tells, Cond.code yX8_tells cX8_tells 3 (some .int), Cond.fieldLink RX8 129 "PictureCourtModel" "asked" "I"]
def wsX8_claim : List Cond := .code yX8_claim cX8_claim 5 (some .int) :: ((wsX8_claim_r1 ++ wsX8_claim_r2) ++ wsX80)
def wsX8_tellsCount : List Cond := .code yX8_tellsCount cX8_tellsCount 4 (some .int) :: ([.fieldLink RX8 135 "PictureCourtModel" "today" "I", .fieldLink RX8 167 "PictureCourtModel" "proofs" "I", .fieldLink RX8 35 "PictureCourtModel" "struckOn" "[I", .fieldLink RX8 198 "PictureCourtModel" "tests" "I", .fieldLink RX8 68 "PictureCourtModel" "testOut" "[I", .fieldLink RX8 230 "PictureCourtModel" "owners" "I", .fieldLink RX8 233 "PictureCourtModel" "opinions" "I", .fieldLink RX8 243 "PictureCourtModel" "laws" "I"] ++ wsX80)
def wsX8_count : List Cond := .code yX8_count cX8_count 2 (some .int) :: ([.methodLink RX8 125 yX8_in, .static yX8_in, .initialized RX8, .code yX8_in cX8_in 3 (some .boolean), .methodLink RX8 250 yX8_tellsCount, .instanceMethod yX8_tellsCount, .selects RX8 yX8_tellsCount yX8_tellsCount, .code yX8_tellsCount cX8_tellsCount 4 (some .int), .fieldLink RX8 135 "PictureCourtModel" "today" "I", .fieldLink RX8 167 "PictureCourtModel" "proofs" "I", .fieldLink RX8 35 "PictureCourtModel" "struckOn" "[I", .fieldLink RX8 198 "PictureCourtModel" "tests" "I", .fieldLink RX8 68 "PictureCourtModel" "testOut" "[I", .fieldLink RX8 230 "PictureCourtModel" "owners" "I", .fieldLink RX8 233 "PictureCourtModel" "opinions" "I", .fieldLink RX8 243 "PictureCourtModel" "laws" "I"] ++ wsX80)
def wsX8_digest_r1 : List Cond := [Cond.constantLong RX8 253 (17), Cond.constantLong RX8 255 (31), Cond.fieldLink RX8 167 "PictureCourtModel" "proofs" "I", Cond.fieldLink RX8 53 "PictureCourtModel" "hands" "[I", Cond.fieldLink RX8 198 "PictureCourtModel" "tests" "I", Cond.fieldLink RX8 56 "PictureCourtModel" "testCost" "[I", Cond.fieldLink RX8 59 "PictureCourtModel" "testWound" "[I", Cond.fieldLink RX8 62 "PictureCourtModel" "testGroup" "[I", Cond.fieldLink RX8 65 "PictureCourtModel" "testOften" "[I", Cond.fieldLink RX8 68 "PictureCourtModel" "testOut" "[I", Cond.fieldLink RX8 23 "PictureCourtModel" "paints" "[I", Cond.fieldLink RX8 13 "PictureCourtModel" "sizes" "[I", Cond.fieldLink RX8 16 "PictureCourtModel" "rows" "[B", Cond.methodLink RX8 250 yX8_tellsCount, Cond.instanceMethod yX8_tellsCount, Cond.selects RX8 yX8_tellsCount yX8_tellsCount, Cond.initialized RX8, Cond.code yX8_tellsCount cX8_tellsCount 4 (some .int), Cond.fieldLink RX8 135 "PictureCourtModel" "today" "I", Cond.fieldLink RX8 35 "PictureCourtModel" "struckOn" "[I", Cond.fieldLink RX8 230 "PictureCourtModel" "owners" "I", Cond.fieldLink RX8 233 "PictureCourtModel" "opinions" "I", Cond.fieldLink RX8 243 "PictureCourtModel" "laws" "I", Cond.methodLink RX8 186 yX8_toldOf]
def wsX8_digest_r2 : List Cond := [Cond.instanceMethod yX8_toldOf, Cond.selects RX8 yX8_toldOf yX8_toldOf, Cond.code yX8_toldOf cX8_toldOf 3 (some .int), Cond.fieldLink RX8 26 "PictureCourtModel" "kindOf" "[I", Cond.fieldLink RX8 29 "PictureCourtModel" "weightOf" "[I", Cond.fieldLink RX8 32 "PictureCourtModel" "toldOn" "[I", Cond.methodLink RX8 180 yX8_fromOf, Cond.instanceMethod yX8_fromOf, Cond.selects RX8 yX8_fromOf yX8_fromOf, Cond.code yX8_fromOf cX8_fromOf 2 (some .int), Cond.fieldLink RX8 38 "PictureCourtModel" "one" "[I", Cond.fieldLink RX8 109 "PictureCourtModel" "sapLeast" "I", Cond.fieldLink RX8 41 "PictureCourtModel" "two" "[I", Cond.fieldLink RX8 44 "PictureCourtModel" "three" "[I", Cond.fieldLink RX8 47 "PictureCourtModel" "four" "[I", Cond.methodLink RX8 177 yX8_lack, Cond.static yX8_lack, Cond.code yX8_lack cX8_lack 2 (some .int), Cond.methodLink RX8 161 yX8_isSure, Cond.instanceMethod yX8_isSure, Cond.selects RX8 yX8_isSure yX8_isSure, Cond.code yX8_isSure cX8_isSure 6 (some .boolean), Cond.methodLink RX8 150 yX8_mayMatch, Cond.instanceMethod yX8_mayMatch]
def wsX8_digest_r3 : List Cond := [Cond.selects RX8 yX8_mayMatch yX8_mayMatch, Cond.code yX8_mayMatch cX8_mayMatch 3 (some .boolean), Cond.methodLink RX8 154 yX8_placeOf, Cond.instanceMethod yX8_placeOf, Cond.selects RX8 yX8_placeOf yX8_placeOf, Cond.code yX8_placeOf cX8_placeOf 5 (some .int), Cond.methodLink RX8 146 yX8_offAt, Cond.instanceMethod yX8_offAt, Cond.selects RX8 yX8_offAt yX8_offAt, Cond.code yX8_offAt cX8_offAt 7 (some .int), Cond.methodLink RX8 183 yX8_toOf, Cond.instanceMethod yX8_toOf, Cond.selects RX8 yX8_toOf yX8_toOf, Cond.code yX8_toOf cX8_toOf 3 (some .int), Cond.fieldLink RX8 113 "PictureCourtModel" "sapMost" "I", Cond.fieldLink RX8 116 "PictureCourtModel" "use" "I"]
def wsX8_digest : List Cond := .code yX8_digest cX8_digest 5 (some .long) :: ((wsX8_digest_r1 ++ (wsX8_digest_r2 ++ wsX8_digest_r3)) ++ wsX80)
def wsJ9_abs_0f7a4 : List Cond := .code yJ9_abs_0f7a4 cJ9_abs_0f7a4 1 (some .int) :: ([])
def wsJ9_max_7cf53 : List Cond := .code yJ9_max_7cf53 cJ9_max_7cf53 2 (some .int) :: ([])
def wsJ9_max_f86c9 : List Cond := .code yJ9_max_f86c9 cJ9_max_f86c9 4 (some .long) :: ([])
def wsJ9_min_7cf53 : List Cond := .code yJ9_min_7cf53 cJ9_min_7cf53 2 (some .int) :: ([])
abbrev vwCl : List vw_C := [(RX0, TX0, 8), (RX1, TX1, 5), (RX2, TX2, 10), (RX3, TX3, 7), (RX4, TX4, 5), (RX5, TX5, 15), (RX6, TX6, 2), (RX7, TX7, 13), (RX8, TX8, 47)]
end
section
theorem dX0_init_0 : decode cX0_init 0 = .ok (.aload_n 0, 1) := by decide +kernel
theorem dX0_init_1 : decode cX0_init 1 = .ok (.invokespecial 3, 3) := by decide +kernel
theorem dX0_init_4 : decode cX0_init 4 = .ok (.aload_n 0, 1) := by decide +kernel
theorem dX0_init_5 : decode cX0_init 5 = .ok (.bipush 8, 2) := by decide +kernel
theorem dX0_init_7 : decode cX0_init 7 = .ok (.newarray .int, 2) := by decide +kernel
theorem dX0_init_9 : decode cX0_init 9 = .ok (.putfield 9, 3) := by decide +kernel
theorem dX0_init_12 : decode cX0_init 12 = .ok (.aload_n 0, 1) := by decide +kernel
theorem dX0_init_13 : decode cX0_init 13 = .ok (.bipush 8, 2) := by decide +kernel
theorem dX0_init_15 : decode cX0_init 15 = .ok (.newarray .int, 2) := by decide +kernel
theorem dX0_init_17 : decode cX0_init 17 = .ok (.putfield 15, 3) := by decide +kernel
theorem dX0_init_20 : decode cX0_init 20 = .ok (.aload_n 0, 1) := by decide +kernel
theorem dX0_init_21 : decode cX0_init 21 = .ok (.bipush 8, 2) := by decide +kernel
theorem dX0_init_23 : decode cX0_init 23 = .ok (.newarray .int, 2) := by decide +kernel
theorem dX0_init_25 : decode cX0_init 25 = .ok (.putfield 18, 3) := by decide +kernel
theorem dX0_init_28 : decode cX0_init 28 = .ok (.aload_n 0, 1) := by decide +kernel
theorem dX0_init_29 : decode cX0_init 29 = .ok (.bipush 8, 2) := by decide +kernel
theorem dX0_init_31 : decode cX0_init 31 = .ok (.newarray .int, 2) := by decide +kernel
theorem dX0_init_33 : decode cX0_init 33 = .ok (.putfield 21, 3) := by decide +kernel
theorem dX0_init_36 : decode cX0_init 36 = .ok (.aload_n 0, 1) := by decide +kernel
theorem dX0_init_37 : decode cX0_init 37 = .ok (.bipush (-9), 2) := by decide +kernel
theorem dX0_init_39 : decode cX0_init 39 = .ok (.putfield 24, 3) := by decide +kernel
theorem dX0_init_42 : decode cX0_init 42 = .ok (.aload_n 0, 1) := by decide +kernel
theorem dX0_init_43 : decode cX0_init 43 = .ok (.iconst 0, 1) := by decide +kernel
theorem dX0_init_44 : decode cX0_init 44 = .ok (.putfield 28, 3) := by decide +kernel
theorem dX0_init_47 : decode cX0_init 47 = .ok (.aload_n 0, 1) := by decide +kernel
theorem dX0_init_48 : decode cX0_init 48 = .ok (.iconst 0, 1) := by decide +kernel
theorem dX0_init_49 : decode cX0_init 49 = .ok (.putfield 31, 3) := by decide +kernel
theorem dX0_init_52 : decode cX0_init 52 = .ok (.aload_n 0, 1) := by decide +kernel
theorem dX0_init_53 : decode cX0_init 53 = .ok (.iconst 0, 1) := by decide +kernel
theorem dX0_init_54 : decode cX0_init 54 = .ok (.putfield 34, 3) := by decide +kernel
theorem dX0_init_57 : decode cX0_init 57 = .ok (.return_, 1) := by decide +kernel
theorem dX0_isFull_0 : decode cX0_isFull 0 = .ok (.aload_n 0, 1) := by decide +kernel
theorem dX0_isFull_1 : decode cX0_isFull 1 = .ok (.getfield 34, 3) := by decide +kernel
theorem dX0_isFull_4 : decode cX0_isFull 4 = .ok (.bipush 8, 2) := by decide +kernel
theorem dX0_isFull_6 : decode cX0_isFull 6 = .ok (.if_icmp .lt 7, 3) := by decide +kernel
theorem dX0_isFull_9 : decode cX0_isFull 9 = .ok (.iconst 1, 1) := by decide +kernel
theorem dX0_isFull_10 : decode cX0_isFull 10 = .ok (.goto 4, 3) := by decide +kernel
theorem dX0_isFull_13 : decode cX0_isFull 13 = .ok (.iconst 0, 1) := by decide +kernel
theorem dX0_isFull_14 : decode cX0_isFull 14 = .ok (.ireturn, 1) := by decide +kernel
theorem dX0_addLaw_0 : decode cX0_addLaw 0 = .ok (.aload_n 0, 1) := by decide +kernel
theorem dX0_addLaw_1 : decode cX0_addLaw 1 = .ok (.getfield 9, 3) := by decide +kernel
theorem dX0_addLaw_4 : decode cX0_addLaw 4 = .ok (.aload_n 0, 1) := by decide +kernel
theorem dX0_addLaw_5 : decode cX0_addLaw 5 = .ok (.getfield 34, 3) := by decide +kernel
theorem dX0_addLaw_8 : decode cX0_addLaw 8 = .ok (.iload_n 1, 1) := by decide +kernel
theorem dX0_addLaw_9 : decode cX0_addLaw 9 = .ok (.iastore, 1) := by decide +kernel
theorem dX0_addLaw_10 : decode cX0_addLaw 10 = .ok (.aload_n 0, 1) := by decide +kernel
theorem dX0_addLaw_11 : decode cX0_addLaw 11 = .ok (.getfield 15, 3) := by decide +kernel
theorem dX0_addLaw_14 : decode cX0_addLaw 14 = .ok (.aload_n 0, 1) := by decide +kernel
theorem dX0_addLaw_15 : decode cX0_addLaw 15 = .ok (.getfield 34, 3) := by decide +kernel
theorem dX0_addLaw_18 : decode cX0_addLaw 18 = .ok (.iload_n 2, 1) := by decide +kernel
theorem dX0_addLaw_19 : decode cX0_addLaw 19 = .ok (.iastore, 1) := by decide +kernel
theorem dX0_addLaw_20 : decode cX0_addLaw 20 = .ok (.aload_n 0, 1) := by decide +kernel
theorem dX0_addLaw_21 : decode cX0_addLaw 21 = .ok (.getfield 18, 3) := by decide +kernel
theorem dX0_addLaw_24 : decode cX0_addLaw 24 = .ok (.aload_n 0, 1) := by decide +kernel
theorem dX0_addLaw_25 : decode cX0_addLaw 25 = .ok (.getfield 34, 3) := by decide +kernel
theorem dX0_addLaw_28 : decode cX0_addLaw 28 = .ok (.iload_n 3, 1) := by decide +kernel
theorem dX0_addLaw_29 : decode cX0_addLaw 29 = .ok (.iastore, 1) := by decide +kernel
theorem dX0_addLaw_30 : decode cX0_addLaw 30 = .ok (.aload_n 0, 1) := by decide +kernel
theorem dX0_addLaw_31 : decode cX0_addLaw 31 = .ok (.getfield 21, 3) := by decide +kernel
theorem dX0_addLaw_34 : decode cX0_addLaw 34 = .ok (.aload_n 0, 1) := by decide +kernel
theorem dX0_addLaw_35 : decode cX0_addLaw 35 = .ok (.getfield 34, 3) := by decide +kernel
theorem dX0_addLaw_38 : decode cX0_addLaw 38 = .ok (.iload 4, 2) := by decide +kernel
theorem dX0_addLaw_40 : decode cX0_addLaw 40 = .ok (.iastore, 1) := by decide +kernel
theorem dX0_addLaw_41 : decode cX0_addLaw 41 = .ok (.aload_n 0, 1) := by decide +kernel
theorem dX0_addLaw_42 : decode cX0_addLaw 42 = .ok (.dup, 1) := by decide +kernel
theorem dX0_addLaw_43 : decode cX0_addLaw 43 = .ok (.getfield 34, 3) := by decide +kernel
theorem dX0_addLaw_46 : decode cX0_addLaw 46 = .ok (.iconst 1, 1) := by decide +kernel
theorem dX0_addLaw_47 : decode cX0_addLaw 47 = .ok (.iadd, 1) := by decide +kernel
theorem dX0_addLaw_48 : decode cX0_addLaw 48 = .ok (.putfield 34, 3) := by decide +kernel
theorem dX0_addLaw_51 : decode cX0_addLaw 51 = .ok (.aload_n 0, 1) := by decide +kernel
theorem dX0_addLaw_52 : decode cX0_addLaw 52 = .ok (.getfield 34, 3) := by decide +kernel
theorem dX0_addLaw_55 : decode cX0_addLaw 55 = .ok (.iconst 1, 1) := by decide +kernel
theorem dX0_addLaw_56 : decode cX0_addLaw 56 = .ok (.isub, 1) := by decide +kernel
theorem dX0_addLaw_57 : decode cX0_addLaw 57 = .ok (.ireturn, 1) := by decide +kernel
theorem dX0_sell_0 : decode cX0_sell 0 = .ok (.aload_n 0, 1) := by decide +kernel
theorem dX0_sell_1 : decode cX0_sell 1 = .ok (.iload_n 1, 1) := by decide +kernel
theorem dX0_sell_2 : decode cX0_sell 2 = .ok (.putfield 24, 3) := by decide +kernel
theorem dX0_sell_5 : decode cX0_sell 5 = .ok (.aload_n 0, 1) := by decide +kernel
theorem dX0_sell_6 : decode cX0_sell 6 = .ok (.iload_n 2, 1) := by decide +kernel
theorem dX0_sell_7 : decode cX0_sell 7 = .ok (.putfield 28, 3) := by decide +kernel
theorem dX0_sell_10 : decode cX0_sell 10 = .ok (.aload_n 0, 1) := by decide +kernel
theorem dX0_sell_11 : decode cX0_sell 11 = .ok (.iload_n 3, 1) := by decide +kernel
theorem dX0_sell_12 : decode cX0_sell 12 = .ok (.putfield 31, 3) := by decide +kernel
theorem dX0_sell_15 : decode cX0_sell 15 = .ok (.return_, 1) := by decide +kernel
theorem dX0_lawInForce_0 : decode cX0_lawInForce 0 = .ok (.bipush (-9), 2) := by decide +kernel
theorem dX0_lawInForce_2 : decode cX0_lawInForce 2 = .ok (.istore_n 1, 1) := by decide +kernel
theorem dX0_lawInForce_3 : decode cX0_lawInForce 3 = .ok (.iconst 0, 1) := by decide +kernel
theorem dX0_lawInForce_4 : decode cX0_lawInForce 4 = .ok (.istore_n 2, 1) := by decide +kernel
theorem dX0_lawInForce_5 : decode cX0_lawInForce 5 = .ok (.iload_n 2, 1) := by decide +kernel
theorem dX0_lawInForce_6 : decode cX0_lawInForce 6 = .ok (.aload_n 0, 1) := by decide +kernel
theorem dX0_lawInForce_7 : decode cX0_lawInForce 7 = .ok (.getfield 34, 3) := by decide +kernel
theorem dX0_lawInForce_10 : decode cX0_lawInForce 10 = .ok (.if_icmp .ge 55, 3) := by decide +kernel
theorem dX0_lawInForce_13 : decode cX0_lawInForce 13 = .ok (.iload_n 1, 1) := by decide +kernel
theorem dX0_lawInForce_14 : decode cX0_lawInForce 14 = .ok (.bipush (-9), 2) := by decide +kernel
theorem dX0_lawInForce_16 : decode cX0_lawInForce 16 = .ok (.if_icmp .eq 18, 3) := by decide +kernel
theorem dX0_lawInForce_19 : decode cX0_lawInForce 19 = .ok (.aload_n 0, 1) := by decide +kernel
theorem dX0_lawInForce_20 : decode cX0_lawInForce 20 = .ok (.getfield 9, 3) := by decide +kernel
theorem dX0_lawInForce_23 : decode cX0_lawInForce 23 = .ok (.iload_n 2, 1) := by decide +kernel
theorem dX0_lawInForce_24 : decode cX0_lawInForce 24 = .ok (.iaload, 1) := by decide +kernel
theorem dX0_lawInForce_25 : decode cX0_lawInForce 25 = .ok (.aload_n 0, 1) := by decide +kernel
theorem dX0_lawInForce_26 : decode cX0_lawInForce 26 = .ok (.getfield 9, 3) := by decide +kernel
theorem dX0_lawInForce_29 : decode cX0_lawInForce 29 = .ok (.iload_n 1, 1) := by decide +kernel
theorem dX0_lawInForce_30 : decode cX0_lawInForce 30 = .ok (.iaload, 1) := by decide +kernel
theorem dX0_lawInForce_31 : decode cX0_lawInForce 31 = .ok (.if_icmp .lt 7, 3) := by decide +kernel
theorem dX0_lawInForce_34 : decode cX0_lawInForce 34 = .ok (.iconst 1, 1) := by decide +kernel
theorem dX0_lawInForce_35 : decode cX0_lawInForce 35 = .ok (.goto 4, 3) := by decide +kernel
theorem dX0_lawInForce_38 : decode cX0_lawInForce 38 = .ok (.iconst 0, 1) := by decide +kernel
theorem dX0_lawInForce_39 : decode cX0_lawInForce 39 = .ok (.istore_n 3, 1) := by decide +kernel
theorem dX0_lawInForce_40 : decode cX0_lawInForce 40 = .ok (.aload_n 0, 1) := by decide +kernel
theorem dX0_lawInForce_41 : decode cX0_lawInForce 41 = .ok (.getfield 9, 3) := by decide +kernel
theorem dX0_lawInForce_44 : decode cX0_lawInForce 44 = .ok (.iload_n 2, 1) := by decide +kernel
theorem dX0_lawInForce_45 : decode cX0_lawInForce 45 = .ok (.iaload, 1) := by decide +kernel
theorem dX0_lawInForce_46 : decode cX0_lawInForce 46 = .ok (.aload_n 0, 1) := by decide +kernel
theorem dX0_lawInForce_47 : decode cX0_lawInForce 47 = .ok (.getfield 24, 3) := by decide +kernel
theorem dX0_lawInForce_50 : decode cX0_lawInForce 50 = .ok (.if_icmp .gt 9, 3) := by decide +kernel
theorem dX0_lawInForce_53 : decode cX0_lawInForce 53 = .ok (.iload_n 3, 1) := by decide +kernel
theorem dX0_lawInForce_54 : decode cX0_lawInForce 54 = .ok (.ifCond .eq 5, 3) := by decide +kernel
theorem dX0_lawInForce_57 : decode cX0_lawInForce 57 = .ok (.iload_n 2, 1) := by decide +kernel
theorem dX0_lawInForce_58 : decode cX0_lawInForce 58 = .ok (.istore_n 1, 1) := by decide +kernel
theorem dX0_lawInForce_59 : decode cX0_lawInForce 59 = .ok (.iinc 2 1, 3) := by decide +kernel
theorem dX0_lawInForce_62 : decode cX0_lawInForce 62 = .ok (.goto (-57), 3) := by decide +kernel
theorem dX0_lawInForce_65 : decode cX0_lawInForce 65 = .ok (.iload_n 1, 1) := by decide +kernel
theorem dX0_lawInForce_66 : decode cX0_lawInForce 66 = .ok (.ireturn, 1) := by decide +kernel
theorem dX0_isTooLate_0 : decode cX0_isTooLate 0 = .ok (.iload_n 2, 1) := by decide +kernel
theorem dX0_isTooLate_1 : decode cX0_isTooLate 1 = .ok (.aload_n 0, 1) := by decide +kernel
theorem dX0_isTooLate_2 : decode cX0_isTooLate 2 = .ok (.getfield 24, 3) := by decide +kernel
theorem dX0_isTooLate_5 : decode cX0_isTooLate 5 = .ok (.isub, 1) := by decide +kernel
theorem dX0_isTooLate_6 : decode cX0_isTooLate 6 = .ok (.aload_n 0, 1) := by decide +kernel
theorem dX0_isTooLate_7 : decode cX0_isTooLate 7 = .ok (.getfield 15, 3) := by decide +kernel
theorem dX0_isTooLate_10 : decode cX0_isTooLate 10 = .ok (.iload_n 1, 1) := by decide +kernel
theorem dX0_isTooLate_11 : decode cX0_isTooLate 11 = .ok (.iaload, 1) := by decide +kernel
theorem dX0_isTooLate_12 : decode cX0_isTooLate 12 = .ok (.if_icmp .le 7, 3) := by decide +kernel
theorem dX0_isTooLate_15 : decode cX0_isTooLate 15 = .ok (.iconst 1, 1) := by decide +kernel
theorem dX0_isTooLate_16 : decode cX0_isTooLate 16 = .ok (.goto 4, 3) := by decide +kernel
theorem dX0_isTooLate_19 : decode cX0_isTooLate 19 = .ok (.iconst 0, 1) := by decide +kernel
theorem dX0_isTooLate_20 : decode cX0_isTooLate 20 = .ok (.ireturn, 1) := by decide +kernel
theorem dX0_isBelow_0 : decode cX0_isBelow 0 = .ok (.ldc2_w 37, 3) := by decide +kernel
theorem dX0_isBelow_3 : decode cX0_isBelow 3 = .ok (.lload_n 2, 1) := by decide +kernel
theorem dX0_isBelow_4 : decode cX0_isBelow 4 = .ok (.lmul, 1) := by decide +kernel
theorem dX0_isBelow_5 : decode cX0_isBelow 5 = .ok (.aload_n 0, 1) := by decide +kernel
theorem dX0_isBelow_6 : decode cX0_isBelow 6 = .ok (.getfield 18, 3) := by decide +kernel
theorem dX0_isBelow_9 : decode cX0_isBelow 9 = .ok (.iload_n 1, 1) := by decide +kernel
theorem dX0_isBelow_10 : decode cX0_isBelow 10 = .ok (.iaload, 1) := by decide +kernel
theorem dX0_isBelow_11 : decode cX0_isBelow 11 = .ok (.i2l, 1) := by decide +kernel
theorem dX0_isBelow_12 : decode cX0_isBelow 12 = .ok (.lload 4, 2) := by decide +kernel
theorem dX0_isBelow_14 : decode cX0_isBelow 14 = .ok (.lmul, 1) := by decide +kernel
theorem dX0_isBelow_15 : decode cX0_isBelow 15 = .ok (.lcmp, 1) := by decide +kernel
theorem dX0_isBelow_16 : decode cX0_isBelow 16 = .ok (.ifCond .ge 7, 3) := by decide +kernel
theorem dX0_isBelow_19 : decode cX0_isBelow 19 = .ok (.iconst 1, 1) := by decide +kernel
theorem dX0_isBelow_20 : decode cX0_isBelow 20 = .ok (.goto 4, 3) := by decide +kernel
theorem dX0_isBelow_23 : decode cX0_isBelow 23 = .ok (.iconst 0, 1) := by decide +kernel
theorem dX0_isBelow_24 : decode cX0_isBelow 24 = .ok (.ireturn, 1) := by decide +kernel
theorem dX0_paidBack_0 : decode cX0_paidBack 0 = .ok (.aload_n 0, 1) := by decide +kernel
theorem dX0_paidBack_1 : decode cX0_paidBack 1 = .ok (.getfield 28, 3) := by decide +kernel
theorem dX0_paidBack_4 : decode cX0_paidBack 4 = .ok (.i2l, 1) := by decide +kernel
theorem dX0_paidBack_5 : decode cX0_paidBack 5 = .ok (.aload_n 0, 1) := by decide +kernel
theorem dX0_paidBack_6 : decode cX0_paidBack 6 = .ok (.getfield 21, 3) := by decide +kernel
theorem dX0_paidBack_9 : decode cX0_paidBack 9 = .ok (.iload_n 1, 1) := by decide +kernel
theorem dX0_paidBack_10 : decode cX0_paidBack 10 = .ok (.iaload, 1) := by decide +kernel
theorem dX0_paidBack_11 : decode cX0_paidBack 11 = .ok (.i2l, 1) := by decide +kernel
theorem dX0_paidBack_12 : decode cX0_paidBack 12 = .ok (.lmul, 1) := by decide +kernel
theorem dX0_paidBack_13 : decode cX0_paidBack 13 = .ok (.iload_n 2, 1) := by decide +kernel
theorem dX0_paidBack_14 : decode cX0_paidBack 14 = .ok (.aload_n 0, 1) := by decide +kernel
theorem dX0_paidBack_15 : decode cX0_paidBack 15 = .ok (.getfield 24, 3) := by decide +kernel
theorem dX0_paidBack_18 : decode cX0_paidBack 18 = .ok (.isub, 1) := by decide +kernel
theorem dX0_paidBack_19 : decode cX0_paidBack 19 = .ok (.i2l, 1) := by decide +kernel
theorem dX0_paidBack_20 : decode cX0_paidBack 20 = .ok (.lmul, 1) := by decide +kernel
theorem dX0_paidBack_21 : decode cX0_paidBack 21 = .ok (.ldc2_w 39, 3) := by decide +kernel
theorem dX0_paidBack_24 : decode cX0_paidBack 24 = .ok (.ldiv, 1) := by decide +kernel
theorem dX0_paidBack_25 : decode cX0_paidBack 25 = .ok (.lstore_n 3, 1) := by decide +kernel
theorem dX0_paidBack_26 : decode cX0_paidBack 26 = .ok (.aload_n 0, 1) := by decide +kernel
theorem dX0_paidBack_27 : decode cX0_paidBack 27 = .ok (.getfield 28, 3) := by decide +kernel
theorem dX0_paidBack_30 : decode cX0_paidBack 30 = .ok (.i2l, 1) := by decide +kernel
theorem dX0_paidBack_31 : decode cX0_paidBack 31 = .ok (.lload_n 3, 1) := by decide +kernel
theorem dX0_paidBack_32 : decode cX0_paidBack 32 = .ok (.ladd, 1) := by decide +kernel
theorem dX0_paidBack_33 : decode cX0_paidBack 33 = .ok (.l2i, 1) := by decide +kernel
theorem dX0_paidBack_34 : decode cX0_paidBack 34 = .ok (.ireturn, 1) := by decide +kernel
end
section
theorem dX1_init_0 : decode cX1_init 0 = .ok (.aload_n 0, 1) := by decide +kernel
theorem dX1_init_1 : decode cX1_init 1 = .ok (.invokespecial 3, 3) := by decide +kernel
theorem dX1_init_4 : decode cX1_init 4 = .ok (.aload_n 0, 1) := by decide +kernel
theorem dX1_init_5 : decode cX1_init 5 = .ok (.bipush 24, 2) := by decide +kernel
theorem dX1_init_7 : decode cX1_init 7 = .ok (.newarray .int, 2) := by decide +kernel
theorem dX1_init_9 : decode cX1_init 9 = .ok (.putfield 9, 3) := by decide +kernel
theorem dX1_init_12 : decode cX1_init 12 = .ok (.aload_n 0, 1) := by decide +kernel
theorem dX1_init_13 : decode cX1_init 13 = .ok (.bipush 24, 2) := by decide +kernel
theorem dX1_init_15 : decode cX1_init 15 = .ok (.newarray .int, 2) := by decide +kernel
theorem dX1_init_17 : decode cX1_init 17 = .ok (.putfield 15, 3) := by decide +kernel
theorem dX1_init_20 : decode cX1_init 20 = .ok (.aload_n 0, 1) := by decide +kernel
theorem dX1_init_21 : decode cX1_init 21 = .ok (.bipush 24, 2) := by decide +kernel
theorem dX1_init_23 : decode cX1_init 23 = .ok (.newarray .int, 2) := by decide +kernel
theorem dX1_init_25 : decode cX1_init 25 = .ok (.putfield 18, 3) := by decide +kernel
theorem dX1_init_28 : decode cX1_init 28 = .ok (.aload_n 0, 1) := by decide +kernel
theorem dX1_init_29 : decode cX1_init 29 = .ok (.bipush 24, 2) := by decide +kernel
theorem dX1_init_31 : decode cX1_init 31 = .ok (.newarray .int, 2) := by decide +kernel
theorem dX1_init_33 : decode cX1_init 33 = .ok (.putfield 21, 3) := by decide +kernel
theorem dX1_init_36 : decode cX1_init 36 = .ok (.aload_n 0, 1) := by decide +kernel
theorem dX1_init_37 : decode cX1_init 37 = .ok (.iconst 0, 1) := by decide +kernel
theorem dX1_init_38 : decode cX1_init 38 = .ok (.putfield 24, 3) := by decide +kernel
theorem dX1_init_41 : decode cX1_init 41 = .ok (.return_, 1) := by decide +kernel
theorem dX1_add_0 : decode cX1_add 0 = .ok (.aload_n 0, 1) := by decide +kernel
theorem dX1_add_1 : decode cX1_add 1 = .ok (.getfield 9, 3) := by decide +kernel
theorem dX1_add_4 : decode cX1_add 4 = .ok (.aload_n 0, 1) := by decide +kernel
theorem dX1_add_5 : decode cX1_add 5 = .ok (.getfield 24, 3) := by decide +kernel
theorem dX1_add_8 : decode cX1_add 8 = .ok (.iload_n 1, 1) := by decide +kernel
theorem dX1_add_9 : decode cX1_add 9 = .ok (.iastore, 1) := by decide +kernel
theorem dX1_add_10 : decode cX1_add 10 = .ok (.aload_n 0, 1) := by decide +kernel
theorem dX1_add_11 : decode cX1_add 11 = .ok (.getfield 15, 3) := by decide +kernel
theorem dX1_add_14 : decode cX1_add 14 = .ok (.aload_n 0, 1) := by decide +kernel
theorem dX1_add_15 : decode cX1_add 15 = .ok (.getfield 24, 3) := by decide +kernel
theorem dX1_add_18 : decode cX1_add 18 = .ok (.iload_n 2, 1) := by decide +kernel
theorem dX1_add_19 : decode cX1_add 19 = .ok (.iastore, 1) := by decide +kernel
theorem dX1_add_20 : decode cX1_add 20 = .ok (.aload_n 0, 1) := by decide +kernel
theorem dX1_add_21 : decode cX1_add 21 = .ok (.getfield 18, 3) := by decide +kernel
theorem dX1_add_24 : decode cX1_add 24 = .ok (.aload_n 0, 1) := by decide +kernel
theorem dX1_add_25 : decode cX1_add 25 = .ok (.getfield 24, 3) := by decide +kernel
theorem dX1_add_28 : decode cX1_add 28 = .ok (.iload_n 3, 1) := by decide +kernel
theorem dX1_add_29 : decode cX1_add 29 = .ok (.iastore, 1) := by decide +kernel
theorem dX1_add_30 : decode cX1_add 30 = .ok (.aload_n 0, 1) := by decide +kernel
theorem dX1_add_31 : decode cX1_add 31 = .ok (.getfield 21, 3) := by decide +kernel
theorem dX1_add_34 : decode cX1_add 34 = .ok (.aload_n 0, 1) := by decide +kernel
theorem dX1_add_35 : decode cX1_add 35 = .ok (.getfield 24, 3) := by decide +kernel
theorem dX1_add_38 : decode cX1_add 38 = .ok (.iload 4, 2) := by decide +kernel
theorem dX1_add_40 : decode cX1_add 40 = .ok (.iastore, 1) := by decide +kernel
theorem dX1_add_41 : decode cX1_add 41 = .ok (.aload_n 0, 1) := by decide +kernel
theorem dX1_add_42 : decode cX1_add 42 = .ok (.dup, 1) := by decide +kernel
theorem dX1_add_43 : decode cX1_add 43 = .ok (.getfield 24, 3) := by decide +kernel
theorem dX1_add_46 : decode cX1_add 46 = .ok (.iconst 1, 1) := by decide +kernel
theorem dX1_add_47 : decode cX1_add 47 = .ok (.iadd, 1) := by decide +kernel
theorem dX1_add_48 : decode cX1_add 48 = .ok (.putfield 24, 3) := by decide +kernel
theorem dX1_add_51 : decode cX1_add 51 = .ok (.return_, 1) := by decide +kernel
theorem dX1_firstCommonYear_0 : decode cX1_firstCommonYear 0 = .ok (.sipush 1000, 3) := by decide +kernel
theorem dX1_firstCommonYear_3 : decode cX1_firstCommonYear 3 = .ok (.istore_n 1, 1) := by decide +kernel
theorem dX1_firstCommonYear_4 : decode cX1_firstCommonYear 4 = .ok (.iconst 0, 1) := by decide +kernel
theorem dX1_firstCommonYear_5 : decode cX1_firstCommonYear 5 = .ok (.istore_n 2, 1) := by decide +kernel
theorem dX1_firstCommonYear_6 : decode cX1_firstCommonYear 6 = .ok (.iload_n 2, 1) := by decide +kernel
theorem dX1_firstCommonYear_7 : decode cX1_firstCommonYear 7 = .ok (.aload_n 0, 1) := by decide +kernel
theorem dX1_firstCommonYear_8 : decode cX1_firstCommonYear 8 = .ok (.getfield 24, 3) := by decide +kernel
theorem dX1_firstCommonYear_11 : decode cX1_firstCommonYear 11 = .ok (.if_icmp .ge 20, 3) := by decide +kernel
theorem dX1_firstCommonYear_14 : decode cX1_firstCommonYear 14 = .ok (.iload_n 1, 1) := by decide +kernel
theorem dX1_firstCommonYear_15 : decode cX1_firstCommonYear 15 = .ok (.aload_n 0, 1) := by decide +kernel
theorem dX1_firstCommonYear_16 : decode cX1_firstCommonYear 16 = .ok (.getfield 15, 3) := by decide +kernel
theorem dX1_firstCommonYear_19 : decode cX1_firstCommonYear 19 = .ok (.iload_n 2, 1) := by decide +kernel
theorem dX1_firstCommonYear_20 : decode cX1_firstCommonYear 20 = .ok (.iaload, 1) := by decide +kernel
theorem dX1_firstCommonYear_21 : decode cX1_firstCommonYear 21 = .ok (.invokestatic 28, 3) := by decide +kernel
theorem dX1_firstCommonYear_24 : decode cX1_firstCommonYear 24 = .ok (.istore_n 1, 1) := by decide +kernel
theorem dX1_firstCommonYear_25 : decode cX1_firstCommonYear 25 = .ok (.iinc 2 1, 3) := by decide +kernel
theorem dX1_firstCommonYear_28 : decode cX1_firstCommonYear 28 = .ok (.goto (-22), 3) := by decide +kernel
theorem dX1_firstCommonYear_31 : decode cX1_firstCommonYear 31 = .ok (.iload_n 1, 1) := by decide +kernel
theorem dX1_firstCommonYear_32 : decode cX1_firstCommonYear 32 = .ok (.ireturn, 1) := by decide +kernel
theorem dX1_lastCommonYear_0 : decode cX1_lastCommonYear 0 = .ok (.sipush 2100, 3) := by decide +kernel
theorem dX1_lastCommonYear_3 : decode cX1_lastCommonYear 3 = .ok (.istore_n 1, 1) := by decide +kernel
theorem dX1_lastCommonYear_4 : decode cX1_lastCommonYear 4 = .ok (.iconst 0, 1) := by decide +kernel
theorem dX1_lastCommonYear_5 : decode cX1_lastCommonYear 5 = .ok (.istore_n 2, 1) := by decide +kernel
theorem dX1_lastCommonYear_6 : decode cX1_lastCommonYear 6 = .ok (.iload_n 2, 1) := by decide +kernel
theorem dX1_lastCommonYear_7 : decode cX1_lastCommonYear 7 = .ok (.aload_n 0, 1) := by decide +kernel
theorem dX1_lastCommonYear_8 : decode cX1_lastCommonYear 8 = .ok (.getfield 24, 3) := by decide +kernel
theorem dX1_lastCommonYear_11 : decode cX1_lastCommonYear 11 = .ok (.if_icmp .ge 20, 3) := by decide +kernel
theorem dX1_lastCommonYear_14 : decode cX1_lastCommonYear 14 = .ok (.iload_n 1, 1) := by decide +kernel
theorem dX1_lastCommonYear_15 : decode cX1_lastCommonYear 15 = .ok (.aload_n 0, 1) := by decide +kernel
theorem dX1_lastCommonYear_16 : decode cX1_lastCommonYear 16 = .ok (.getfield 18, 3) := by decide +kernel
theorem dX1_lastCommonYear_19 : decode cX1_lastCommonYear 19 = .ok (.iload_n 2, 1) := by decide +kernel
theorem dX1_lastCommonYear_20 : decode cX1_lastCommonYear 20 = .ok (.iaload, 1) := by decide +kernel
theorem dX1_lastCommonYear_21 : decode cX1_lastCommonYear 21 = .ok (.invokestatic 34, 3) := by decide +kernel
theorem dX1_lastCommonYear_24 : decode cX1_lastCommonYear 24 = .ok (.istore_n 1, 1) := by decide +kernel
theorem dX1_lastCommonYear_25 : decode cX1_lastCommonYear 25 = .ok (.iinc 2 1, 3) := by decide +kernel
theorem dX1_lastCommonYear_28 : decode cX1_lastCommonYear 28 = .ok (.goto (-22), 3) := by decide +kernel
theorem dX1_lastCommonYear_31 : decode cX1_lastCommonYear 31 = .ok (.iload_n 1, 1) := by decide +kernel
theorem dX1_lastCommonYear_32 : decode cX1_lastCommonYear 32 = .ok (.ireturn, 1) := by decide +kernel
theorem dX1_opponentAfter_0 : decode cX1_opponentAfter 0 = .ok (.iload_n 1, 1) := by decide +kernel
theorem dX1_opponentAfter_1 : decode cX1_opponentAfter 1 = .ok (.iconst 1, 1) := by decide +kernel
theorem dX1_opponentAfter_2 : decode cX1_opponentAfter 2 = .ok (.iadd, 1) := by decide +kernel
theorem dX1_opponentAfter_3 : decode cX1_opponentAfter 3 = .ok (.istore_n 2, 1) := by decide +kernel
theorem dX1_opponentAfter_4 : decode cX1_opponentAfter 4 = .ok (.iload_n 2, 1) := by decide +kernel
theorem dX1_opponentAfter_5 : decode cX1_opponentAfter 5 = .ok (.aload_n 0, 1) := by decide +kernel
theorem dX1_opponentAfter_6 : decode cX1_opponentAfter 6 = .ok (.getfield 24, 3) := by decide +kernel
theorem dX1_opponentAfter_9 : decode cX1_opponentAfter 9 = .ok (.if_icmp .ge 41, 3) := by decide +kernel
theorem dX1_opponentAfter_12 : decode cX1_opponentAfter 12 = .ok (.aload_n 0, 1) := by decide +kernel
theorem dX1_opponentAfter_13 : decode cX1_opponentAfter 13 = .ok (.getfield 15, 3) := by decide +kernel
theorem dX1_opponentAfter_16 : decode cX1_opponentAfter 16 = .ok (.iload_n 2, 1) := by decide +kernel
theorem dX1_opponentAfter_17 : decode cX1_opponentAfter 17 = .ok (.iaload, 1) := by decide +kernel
theorem dX1_opponentAfter_18 : decode cX1_opponentAfter 18 = .ok (.aload_n 0, 1) := by decide +kernel
theorem dX1_opponentAfter_19 : decode cX1_opponentAfter 19 = .ok (.getfield 18, 3) := by decide +kernel
theorem dX1_opponentAfter_22 : decode cX1_opponentAfter 22 = .ok (.iload_n 1, 1) := by decide +kernel
theorem dX1_opponentAfter_23 : decode cX1_opponentAfter 23 = .ok (.iaload, 1) := by decide +kernel
theorem dX1_opponentAfter_24 : decode cX1_opponentAfter 24 = .ok (.if_icmp .gt 18, 3) := by decide +kernel
theorem dX1_opponentAfter_27 : decode cX1_opponentAfter 27 = .ok (.aload_n 0, 1) := by decide +kernel
theorem dX1_opponentAfter_28 : decode cX1_opponentAfter 28 = .ok (.getfield 15, 3) := by decide +kernel
theorem dX1_opponentAfter_31 : decode cX1_opponentAfter 31 = .ok (.iload_n 1, 1) := by decide +kernel
theorem dX1_opponentAfter_32 : decode cX1_opponentAfter 32 = .ok (.iaload, 1) := by decide +kernel
theorem dX1_opponentAfter_33 : decode cX1_opponentAfter 33 = .ok (.aload_n 0, 1) := by decide +kernel
theorem dX1_opponentAfter_34 : decode cX1_opponentAfter 34 = .ok (.getfield 18, 3) := by decide +kernel
theorem dX1_opponentAfter_37 : decode cX1_opponentAfter 37 = .ok (.iload_n 2, 1) := by decide +kernel
theorem dX1_opponentAfter_38 : decode cX1_opponentAfter 38 = .ok (.iaload, 1) := by decide +kernel
theorem dX1_opponentAfter_39 : decode cX1_opponentAfter 39 = .ok (.if_icmp .le 5, 3) := by decide +kernel
theorem dX1_opponentAfter_42 : decode cX1_opponentAfter 42 = .ok (.iload_n 2, 1) := by decide +kernel
theorem dX1_opponentAfter_43 : decode cX1_opponentAfter 43 = .ok (.ireturn, 1) := by decide +kernel
theorem dX1_opponentAfter_44 : decode cX1_opponentAfter 44 = .ok (.iinc 2 1, 3) := by decide +kernel
theorem dX1_opponentAfter_47 : decode cX1_opponentAfter 47 = .ok (.goto (-43), 3) := by decide +kernel
theorem dX1_opponentAfter_50 : decode cX1_opponentAfter 50 = .ok (.bipush (-9), 2) := by decide +kernel
theorem dX1_opponentAfter_52 : decode cX1_opponentAfter 52 = .ok (.ireturn, 1) := by decide +kernel
set_option maxRecDepth 20000 in
theorem ggX1_heaviestYear_X1_weightOn : GoodIn wsX1_heaviestYear wsX1_weightOn := goodIn_r _ [7, 1, 8, 9, 10, 11, 6, 12, 2, 13, 14, 15, 16, 17, 18] (by decide +kernel) (by decide +kernel)
set_option maxRecDepth 20000 in
theorem gX1_heaviestYear_X1_weightOn : GoodIn wsX1_heaviestYear (wsV RX1 37 RX1 yX1_weightOn wsX1_weightOn) := goodIn_app (goodIn_of _ (by decide +kernel)) ggX1_heaviestYear_X1_weightOn
theorem dX1_heaviestYear_0 : decode cX1_heaviestYear 0 = .ok (.sipush 1000, 3) := by decide +kernel
theorem dX1_heaviestYear_3 : decode cX1_heaviestYear 3 = .ok (.istore_n 1, 1) := by decide +kernel
theorem dX1_heaviestYear_4 : decode cX1_heaviestYear 4 = .ok (.aload_n 0, 1) := by decide +kernel
theorem dX1_heaviestYear_5 : decode cX1_heaviestYear 5 = .ok (.sipush 1000, 3) := by decide +kernel
theorem dX1_heaviestYear_8 : decode cX1_heaviestYear 8 = .ok (.invokevirtual 37, 3) := by decide +kernel
theorem dX1_heaviestYear_11 : decode cX1_heaviestYear 11 = .ok (.istore_n 2, 1) := by decide +kernel
theorem dX1_heaviestYear_12 : decode cX1_heaviestYear 12 = .ok (.iconst 0, 1) := by decide +kernel
theorem dX1_heaviestYear_13 : decode cX1_heaviestYear 13 = .ok (.istore_n 3, 1) := by decide +kernel
theorem dX1_heaviestYear_14 : decode cX1_heaviestYear 14 = .ok (.iload_n 3, 1) := by decide +kernel
theorem dX1_heaviestYear_15 : decode cX1_heaviestYear 15 = .ok (.aload_n 0, 1) := by decide +kernel
theorem dX1_heaviestYear_16 : decode cX1_heaviestYear 16 = .ok (.getfield 24, 3) := by decide +kernel
theorem dX1_heaviestYear_19 : decode cX1_heaviestYear 19 = .ok (.if_icmp .ge 53, 3) := by decide +kernel
theorem dX1_heaviestYear_22 : decode cX1_heaviestYear 22 = .ok (.aload_n 0, 1) := by decide +kernel
theorem dX1_heaviestYear_23 : decode cX1_heaviestYear 23 = .ok (.aload_n 0, 1) := by decide +kernel
theorem dX1_heaviestYear_24 : decode cX1_heaviestYear 24 = .ok (.getfield 15, 3) := by decide +kernel
theorem dX1_heaviestYear_27 : decode cX1_heaviestYear 27 = .ok (.iload_n 3, 1) := by decide +kernel
theorem dX1_heaviestYear_28 : decode cX1_heaviestYear 28 = .ok (.iaload, 1) := by decide +kernel
theorem dX1_heaviestYear_29 : decode cX1_heaviestYear 29 = .ok (.invokevirtual 37, 3) := by decide +kernel
theorem dX1_heaviestYear_32 : decode cX1_heaviestYear 32 = .ok (.istore 4, 2) := by decide +kernel
theorem dX1_heaviestYear_34 : decode cX1_heaviestYear 34 = .ok (.iload 4, 2) := by decide +kernel
theorem dX1_heaviestYear_36 : decode cX1_heaviestYear 36 = .ok (.iload_n 2, 1) := by decide +kernel
theorem dX1_heaviestYear_37 : decode cX1_heaviestYear 37 = .ok (.if_icmp .gt 19, 3) := by decide +kernel
theorem dX1_heaviestYear_40 : decode cX1_heaviestYear 40 = .ok (.iload 4, 2) := by decide +kernel
theorem dX1_heaviestYear_42 : decode cX1_heaviestYear 42 = .ok (.iload_n 2, 1) := by decide +kernel
theorem dX1_heaviestYear_43 : decode cX1_heaviestYear 43 = .ok (.if_icmp .ne 23, 3) := by decide +kernel
theorem dX1_heaviestYear_46 : decode cX1_heaviestYear 46 = .ok (.aload_n 0, 1) := by decide +kernel
theorem dX1_heaviestYear_47 : decode cX1_heaviestYear 47 = .ok (.getfield 15, 3) := by decide +kernel
theorem dX1_heaviestYear_50 : decode cX1_heaviestYear 50 = .ok (.iload_n 3, 1) := by decide +kernel
theorem dX1_heaviestYear_51 : decode cX1_heaviestYear 51 = .ok (.iaload, 1) := by decide +kernel
theorem dX1_heaviestYear_52 : decode cX1_heaviestYear 52 = .ok (.iload_n 1, 1) := by decide +kernel
theorem dX1_heaviestYear_53 : decode cX1_heaviestYear 53 = .ok (.if_icmp .ge 13, 3) := by decide +kernel
theorem dX1_heaviestYear_56 : decode cX1_heaviestYear 56 = .ok (.aload_n 0, 1) := by decide +kernel
theorem dX1_heaviestYear_57 : decode cX1_heaviestYear 57 = .ok (.getfield 15, 3) := by decide +kernel
theorem dX1_heaviestYear_60 : decode cX1_heaviestYear 60 = .ok (.iload_n 3, 1) := by decide +kernel
theorem dX1_heaviestYear_61 : decode cX1_heaviestYear 61 = .ok (.iaload, 1) := by decide +kernel
theorem dX1_heaviestYear_62 : decode cX1_heaviestYear 62 = .ok (.istore_n 1, 1) := by decide +kernel
theorem dX1_heaviestYear_63 : decode cX1_heaviestYear 63 = .ok (.iload 4, 2) := by decide +kernel
theorem dX1_heaviestYear_65 : decode cX1_heaviestYear 65 = .ok (.istore_n 2, 1) := by decide +kernel
theorem dX1_heaviestYear_66 : decode cX1_heaviestYear 66 = .ok (.iinc 3 1, 3) := by decide +kernel
theorem dX1_heaviestYear_69 : decode cX1_heaviestYear 69 = .ok (.goto (-55), 3) := by decide +kernel
theorem dX1_heaviestYear_72 : decode cX1_heaviestYear 72 = .ok (.iload_n 1, 1) := by decide +kernel
theorem dX1_heaviestYear_73 : decode cX1_heaviestYear 73 = .ok (.ireturn, 1) := by decide +kernel
theorem dX1_holds_0 : decode cX1_holds 0 = .ok (.aload_n 0, 1) := by decide +kernel
theorem dX1_holds_1 : decode cX1_holds 1 = .ok (.getfield 15, 3) := by decide +kernel
theorem dX1_holds_4 : decode cX1_holds 4 = .ok (.iload_n 1, 1) := by decide +kernel
theorem dX1_holds_5 : decode cX1_holds 5 = .ok (.iaload, 1) := by decide +kernel
theorem dX1_holds_6 : decode cX1_holds 6 = .ok (.iload_n 2, 1) := by decide +kernel
theorem dX1_holds_7 : decode cX1_holds 7 = .ok (.if_icmp .gt 17, 3) := by decide +kernel
theorem dX1_holds_10 : decode cX1_holds 10 = .ok (.iload_n 2, 1) := by decide +kernel
theorem dX1_holds_11 : decode cX1_holds 11 = .ok (.aload_n 0, 1) := by decide +kernel
theorem dX1_holds_12 : decode cX1_holds 12 = .ok (.getfield 18, 3) := by decide +kernel
theorem dX1_holds_15 : decode cX1_holds 15 = .ok (.iload_n 1, 1) := by decide +kernel
theorem dX1_holds_16 : decode cX1_holds 16 = .ok (.iaload, 1) := by decide +kernel
theorem dX1_holds_17 : decode cX1_holds 17 = .ok (.if_icmp .gt 7, 3) := by decide +kernel
theorem dX1_holds_20 : decode cX1_holds 20 = .ok (.iconst 1, 1) := by decide +kernel
theorem dX1_holds_21 : decode cX1_holds 21 = .ok (.goto 4, 3) := by decide +kernel
theorem dX1_holds_24 : decode cX1_holds 24 = .ok (.iconst 0, 1) := by decide +kernel
theorem dX1_holds_25 : decode cX1_holds 25 = .ok (.ireturn, 1) := by decide +kernel
set_option maxRecDepth 20000 in
theorem ggX1_weightOn_X1_holds : GoodIn wsX1_weightOn wsX1_holds := goodIn_r _ [7, 8, 9, 10, 11, 12, 13, 14] (by decide +kernel) (by decide +kernel)
set_option maxRecDepth 20000 in
theorem gX1_weightOn_X1_holds : GoodIn wsX1_weightOn (wsV RX1 41 RX1 yX1_holds wsX1_holds) := goodIn_app (goodIn_of _ (by decide +kernel)) ggX1_weightOn_X1_holds
theorem dX1_weightOn_0 : decode cX1_weightOn 0 = .ok (.iconst 0, 1) := by decide +kernel
theorem dX1_weightOn_1 : decode cX1_weightOn 1 = .ok (.istore_n 2, 1) := by decide +kernel
theorem dX1_weightOn_2 : decode cX1_weightOn 2 = .ok (.iconst 0, 1) := by decide +kernel
theorem dX1_weightOn_3 : decode cX1_weightOn 3 = .ok (.istore_n 3, 1) := by decide +kernel
theorem dX1_weightOn_4 : decode cX1_weightOn 4 = .ok (.iload_n 3, 1) := by decide +kernel
theorem dX1_weightOn_5 : decode cX1_weightOn 5 = .ok (.aload_n 0, 1) := by decide +kernel
theorem dX1_weightOn_6 : decode cX1_weightOn 6 = .ok (.getfield 24, 3) := by decide +kernel
theorem dX1_weightOn_9 : decode cX1_weightOn 9 = .ok (.if_icmp .ge 27, 3) := by decide +kernel
theorem dX1_weightOn_12 : decode cX1_weightOn 12 = .ok (.aload_n 0, 1) := by decide +kernel
theorem dX1_weightOn_13 : decode cX1_weightOn 13 = .ok (.iload_n 3, 1) := by decide +kernel
theorem dX1_weightOn_14 : decode cX1_weightOn 14 = .ok (.iload_n 1, 1) := by decide +kernel
theorem dX1_weightOn_15 : decode cX1_weightOn 15 = .ok (.invokevirtual 41, 3) := by decide +kernel
theorem dX1_weightOn_18 : decode cX1_weightOn 18 = .ok (.ifCond .eq 12, 3) := by decide +kernel
theorem dX1_weightOn_21 : decode cX1_weightOn 21 = .ok (.iload_n 2, 1) := by decide +kernel
theorem dX1_weightOn_22 : decode cX1_weightOn 22 = .ok (.aload_n 0, 1) := by decide +kernel
theorem dX1_weightOn_23 : decode cX1_weightOn 23 = .ok (.getfield 21, 3) := by decide +kernel
theorem dX1_weightOn_26 : decode cX1_weightOn 26 = .ok (.iload_n 3, 1) := by decide +kernel
theorem dX1_weightOn_27 : decode cX1_weightOn 27 = .ok (.iaload, 1) := by decide +kernel
theorem dX1_weightOn_28 : decode cX1_weightOn 28 = .ok (.iadd, 1) := by decide +kernel
theorem dX1_weightOn_29 : decode cX1_weightOn 29 = .ok (.istore_n 2, 1) := by decide +kernel
theorem dX1_weightOn_30 : decode cX1_weightOn 30 = .ok (.iinc 3 1, 3) := by decide +kernel
theorem dX1_weightOn_33 : decode cX1_weightOn 33 = .ok (.goto (-29), 3) := by decide +kernel
theorem dX1_weightOn_36 : decode cX1_weightOn 36 = .ok (.iload_n 2, 1) := by decide +kernel
theorem dX1_weightOn_37 : decode cX1_weightOn 37 = .ok (.ireturn, 1) := by decide +kernel
theorem dX1_weightOfAll_0 : decode cX1_weightOfAll 0 = .ok (.iconst 0, 1) := by decide +kernel
theorem dX1_weightOfAll_1 : decode cX1_weightOfAll 1 = .ok (.istore_n 1, 1) := by decide +kernel
theorem dX1_weightOfAll_2 : decode cX1_weightOfAll 2 = .ok (.iconst 0, 1) := by decide +kernel
theorem dX1_weightOfAll_3 : decode cX1_weightOfAll 3 = .ok (.istore_n 2, 1) := by decide +kernel
theorem dX1_weightOfAll_4 : decode cX1_weightOfAll 4 = .ok (.iload_n 2, 1) := by decide +kernel
theorem dX1_weightOfAll_5 : decode cX1_weightOfAll 5 = .ok (.aload_n 0, 1) := by decide +kernel
theorem dX1_weightOfAll_6 : decode cX1_weightOfAll 6 = .ok (.getfield 24, 3) := by decide +kernel
theorem dX1_weightOfAll_9 : decode cX1_weightOfAll 9 = .ok (.if_icmp .ge 18, 3) := by decide +kernel
theorem dX1_weightOfAll_12 : decode cX1_weightOfAll 12 = .ok (.iload_n 1, 1) := by decide +kernel
theorem dX1_weightOfAll_13 : decode cX1_weightOfAll 13 = .ok (.aload_n 0, 1) := by decide +kernel
theorem dX1_weightOfAll_14 : decode cX1_weightOfAll 14 = .ok (.getfield 21, 3) := by decide +kernel
theorem dX1_weightOfAll_17 : decode cX1_weightOfAll 17 = .ok (.iload_n 2, 1) := by decide +kernel
theorem dX1_weightOfAll_18 : decode cX1_weightOfAll 18 = .ok (.iaload, 1) := by decide +kernel
theorem dX1_weightOfAll_19 : decode cX1_weightOfAll 19 = .ok (.iadd, 1) := by decide +kernel
theorem dX1_weightOfAll_20 : decode cX1_weightOfAll 20 = .ok (.istore_n 1, 1) := by decide +kernel
theorem dX1_weightOfAll_21 : decode cX1_weightOfAll 21 = .ok (.iinc 2 1, 3) := by decide +kernel
theorem dX1_weightOfAll_24 : decode cX1_weightOfAll 24 = .ok (.goto (-20), 3) := by decide +kernel
theorem dX1_weightOfAll_27 : decode cX1_weightOfAll 27 = .ok (.iload_n 1, 1) := by decide +kernel
theorem dX1_weightOfAll_28 : decode cX1_weightOfAll 28 = .ok (.ireturn, 1) := by decide +kernel
set_option maxRecDepth 20000 in
theorem ggX1_setWithout_X1_holds : GoodIn wsX1_setWithout wsX1_holds := goodIn_r _ [7, 8, 9, 10, 11, 12, 13, 14] (by decide +kernel) (by decide +kernel)
set_option maxRecDepth 20000 in
theorem gX1_setWithout_X1_holds : GoodIn wsX1_setWithout (wsV RX1 41 RX1 yX1_holds wsX1_holds) := goodIn_app (goodIn_of _ (by decide +kernel)) ggX1_setWithout_X1_holds
theorem dX1_setWithout_0 : decode cX1_setWithout 0 = .ok (.iconst 0, 1) := by decide +kernel
theorem dX1_setWithout_1 : decode cX1_setWithout 1 = .ok (.istore_n 2, 1) := by decide +kernel
theorem dX1_setWithout_2 : decode cX1_setWithout 2 = .ok (.iconst 0, 1) := by decide +kernel
theorem dX1_setWithout_3 : decode cX1_setWithout 3 = .ok (.istore_n 3, 1) := by decide +kernel
theorem dX1_setWithout_4 : decode cX1_setWithout 4 = .ok (.iload_n 3, 1) := by decide +kernel
theorem dX1_setWithout_5 : decode cX1_setWithout 5 = .ok (.aload_n 0, 1) := by decide +kernel
theorem dX1_setWithout_6 : decode cX1_setWithout 6 = .ok (.getfield 24, 3) := by decide +kernel
theorem dX1_setWithout_9 : decode cX1_setWithout 9 = .ok (.if_icmp .ge 29, 3) := by decide +kernel
theorem dX1_setWithout_12 : decode cX1_setWithout 12 = .ok (.aload_n 0, 1) := by decide +kernel
theorem dX1_setWithout_13 : decode cX1_setWithout 13 = .ok (.iload_n 3, 1) := by decide +kernel
theorem dX1_setWithout_14 : decode cX1_setWithout 14 = .ok (.iload_n 1, 1) := by decide +kernel
theorem dX1_setWithout_15 : decode cX1_setWithout 15 = .ok (.invokevirtual 41, 3) := by decide +kernel
theorem dX1_setWithout_18 : decode cX1_setWithout 18 = .ok (.ifCond .ne 14, 3) := by decide +kernel
theorem dX1_setWithout_21 : decode cX1_setWithout 21 = .ok (.iload_n 2, 1) := by decide +kernel
theorem dX1_setWithout_22 : decode cX1_setWithout 22 = .ok (.iconst 1, 1) := by decide +kernel
theorem dX1_setWithout_23 : decode cX1_setWithout 23 = .ok (.aload_n 0, 1) := by decide +kernel
theorem dX1_setWithout_24 : decode cX1_setWithout 24 = .ok (.getfield 9, 3) := by decide +kernel
theorem dX1_setWithout_27 : decode cX1_setWithout 27 = .ok (.iload_n 3, 1) := by decide +kernel
theorem dX1_setWithout_28 : decode cX1_setWithout 28 = .ok (.iaload, 1) := by decide +kernel
theorem dX1_setWithout_29 : decode cX1_setWithout 29 = .ok (.ishl, 1) := by decide +kernel
theorem dX1_setWithout_30 : decode cX1_setWithout 30 = .ok (.ior, 1) := by decide +kernel
theorem dX1_setWithout_31 : decode cX1_setWithout 31 = .ok (.istore_n 2, 1) := by decide +kernel
theorem dX1_setWithout_32 : decode cX1_setWithout 32 = .ok (.iinc 3 1, 3) := by decide +kernel
theorem dX1_setWithout_35 : decode cX1_setWithout 35 = .ok (.goto (-31), 3) := by decide +kernel
theorem dX1_setWithout_38 : decode cX1_setWithout 38 = .ok (.iload_n 2, 1) := by decide +kernel
theorem dX1_setWithout_39 : decode cX1_setWithout 39 = .ok (.ireturn, 1) := by decide +kernel
end
section
theorem dX2_init_0 : decode cX2_init 0 = .ok (.aload_n 0, 1) := by decide +kernel
theorem dX2_init_1 : decode cX2_init 1 = .ok (.invokespecial 3, 3) := by decide +kernel
theorem dX2_init_4 : decode cX2_init 4 = .ok (.aload_n 0, 1) := by decide +kernel
theorem dX2_init_5 : decode cX2_init 5 = .ok (.iconst 4, 1) := by decide +kernel
theorem dX2_init_6 : decode cX2_init 6 = .ok (.newarray .int, 2) := by decide +kernel
theorem dX2_init_8 : decode cX2_init 8 = .ok (.putfield 9, 3) := by decide +kernel
theorem dX2_init_11 : decode cX2_init 11 = .ok (.aload_n 0, 1) := by decide +kernel
theorem dX2_init_12 : decode cX2_init 12 = .ok (.bipush 10, 2) := by decide +kernel
theorem dX2_init_14 : decode cX2_init 14 = .ok (.newarray .int, 2) := by decide +kernel
theorem dX2_init_16 : decode cX2_init 16 = .ok (.putfield 15, 3) := by decide +kernel
theorem dX2_init_19 : decode cX2_init 19 = .ok (.aload_n 0, 1) := by decide +kernel
theorem dX2_init_20 : decode cX2_init 20 = .ok (.bipush 10, 2) := by decide +kernel
theorem dX2_init_22 : decode cX2_init 22 = .ok (.newarray .int, 2) := by decide +kernel
theorem dX2_init_24 : decode cX2_init 24 = .ok (.putfield 18, 3) := by decide +kernel
theorem dX2_init_27 : decode cX2_init 27 = .ok (.aload_n 0, 1) := by decide +kernel
theorem dX2_init_28 : decode cX2_init 28 = .ok (.bipush 10, 2) := by decide +kernel
theorem dX2_init_30 : decode cX2_init 30 = .ok (.newarray .int, 2) := by decide +kernel
theorem dX2_init_32 : decode cX2_init 32 = .ok (.putfield 21, 3) := by decide +kernel
theorem dX2_init_35 : decode cX2_init 35 = .ok (.aload_n 0, 1) := by decide +kernel
theorem dX2_init_36 : decode cX2_init 36 = .ok (.bipush 40, 2) := by decide +kernel
theorem dX2_init_38 : decode cX2_init 38 = .ok (.newarray .int, 2) := by decide +kernel
theorem dX2_init_40 : decode cX2_init 40 = .ok (.putfield 24, 3) := by decide +kernel
theorem dX2_init_43 : decode cX2_init 43 = .ok (.aload_n 0, 1) := by decide +kernel
theorem dX2_init_44 : decode cX2_init 44 = .ok (.bipush 10, 2) := by decide +kernel
theorem dX2_init_46 : decode cX2_init 46 = .ok (.newarray .int, 2) := by decide +kernel
theorem dX2_init_48 : decode cX2_init 48 = .ok (.putfield 27, 3) := by decide +kernel
theorem dX2_init_51 : decode cX2_init 51 = .ok (.aload_n 0, 1) := by decide +kernel
theorem dX2_init_52 : decode cX2_init 52 = .ok (.bipush 10, 2) := by decide +kernel
theorem dX2_init_54 : decode cX2_init 54 = .ok (.newarray .boolean, 2) := by decide +kernel
theorem dX2_init_56 : decode cX2_init 56 = .ok (.putfield 30, 3) := by decide +kernel
theorem dX2_init_59 : decode cX2_init 59 = .ok (.aload_n 0, 1) := by decide +kernel
theorem dX2_init_60 : decode cX2_init 60 = .ok (.iconst 4, 1) := by decide +kernel
theorem dX2_init_61 : decode cX2_init 61 = .ok (.newarray .boolean, 2) := by decide +kernel
theorem dX2_init_63 : decode cX2_init 63 = .ok (.putfield 34, 3) := by decide +kernel
theorem dX2_init_66 : decode cX2_init 66 = .ok (.aload_n 0, 1) := by decide +kernel
theorem dX2_init_67 : decode cX2_init 67 = .ok (.iconst 0, 1) := by decide +kernel
theorem dX2_init_68 : decode cX2_init 68 = .ok (.putfield 37, 3) := by decide +kernel
theorem dX2_init_71 : decode cX2_init 71 = .ok (.aload_n 0, 1) := by decide +kernel
theorem dX2_init_72 : decode cX2_init 72 = .ok (.iconst 0, 1) := by decide +kernel
theorem dX2_init_73 : decode cX2_init 73 = .ok (.putfield 41, 3) := by decide +kernel
theorem dX2_init_76 : decode cX2_init 76 = .ok (.iconst 0, 1) := by decide +kernel
theorem dX2_init_77 : decode cX2_init 77 = .ok (.istore_n 1, 1) := by decide +kernel
theorem dX2_init_78 : decode cX2_init 78 = .ok (.iload_n 1, 1) := by decide +kernel
theorem dX2_init_79 : decode cX2_init 79 = .ok (.iconst 4, 1) := by decide +kernel
theorem dX2_init_80 : decode cX2_init 80 = .ok (.if_icmp .ge 16, 3) := by decide +kernel
theorem dX2_init_83 : decode cX2_init 83 = .ok (.aload_n 0, 1) := by decide +kernel
theorem dX2_init_84 : decode cX2_init 84 = .ok (.getfield 9, 3) := by decide +kernel
theorem dX2_init_87 : decode cX2_init 87 = .ok (.iload_n 1, 1) := by decide +kernel
theorem dX2_init_88 : decode cX2_init 88 = .ok (.iconst 1, 1) := by decide +kernel
theorem dX2_init_89 : decode cX2_init 89 = .ok (.iastore, 1) := by decide +kernel
theorem dX2_init_90 : decode cX2_init 90 = .ok (.iinc 1 1, 3) := by decide +kernel
theorem dX2_init_93 : decode cX2_init 93 = .ok (.goto (-15), 3) := by decide +kernel
theorem dX2_init_96 : decode cX2_init 96 = .ok (.return_, 1) := by decide +kernel
theorem dX2_isFull_0 : decode cX2_isFull 0 = .ok (.aload_n 0, 1) := by decide +kernel
theorem dX2_isFull_1 : decode cX2_isFull 1 = .ok (.getfield 37, 3) := by decide +kernel
theorem dX2_isFull_4 : decode cX2_isFull 4 = .ok (.bipush 10, 2) := by decide +kernel
theorem dX2_isFull_6 : decode cX2_isFull 6 = .ok (.if_icmp .lt 7, 3) := by decide +kernel
theorem dX2_isFull_9 : decode cX2_isFull 9 = .ok (.iconst 1, 1) := by decide +kernel
theorem dX2_isFull_10 : decode cX2_isFull 10 = .ok (.goto 4, 3) := by decide +kernel
theorem dX2_isFull_13 : decode cX2_isFull 13 = .ok (.iconst 0, 1) := by decide +kernel
theorem dX2_isFull_14 : decode cX2_isFull 14 = .ok (.ireturn, 1) := by decide +kernel
theorem dX2_has_0 : decode cX2_has 0 = .ok (.iload_n 1, 1) := by decide +kernel
theorem dX2_has_1 : decode cX2_has 1 = .ok (.ifCond .lt 15, 3) := by decide +kernel
theorem dX2_has_4 : decode cX2_has 4 = .ok (.iload_n 1, 1) := by decide +kernel
theorem dX2_has_5 : decode cX2_has 5 = .ok (.aload_n 0, 1) := by decide +kernel
theorem dX2_has_6 : decode cX2_has 6 = .ok (.getfield 37, 3) := by decide +kernel
theorem dX2_has_9 : decode cX2_has 9 = .ok (.if_icmp .ge 7, 3) := by decide +kernel
theorem dX2_has_12 : decode cX2_has 12 = .ok (.iconst 1, 1) := by decide +kernel
theorem dX2_has_13 : decode cX2_has 13 = .ok (.goto 4, 3) := by decide +kernel
theorem dX2_has_16 : decode cX2_has 16 = .ok (.iconst 0, 1) := by decide +kernel
theorem dX2_has_17 : decode cX2_has 17 = .ok (.ireturn, 1) := by decide +kernel
theorem dX2_swapWeight_0 : decode cX2_swapWeight 0 = .ok (.aload_n 0, 1) := by decide +kernel
theorem dX2_swapWeight_1 : decode cX2_swapWeight 1 = .ok (.getfield 9, 3) := by decide +kernel
theorem dX2_swapWeight_4 : decode cX2_swapWeight 4 = .ok (.iload_n 1, 1) := by decide +kernel
theorem dX2_swapWeight_5 : decode cX2_swapWeight 5 = .ok (.iaload, 1) := by decide +kernel
theorem dX2_swapWeight_6 : decode cX2_swapWeight 6 = .ok (.istore_n 3, 1) := by decide +kernel
theorem dX2_swapWeight_7 : decode cX2_swapWeight 7 = .ok (.aload_n 0, 1) := by decide +kernel
theorem dX2_swapWeight_8 : decode cX2_swapWeight 8 = .ok (.getfield 9, 3) := by decide +kernel
theorem dX2_swapWeight_11 : decode cX2_swapWeight 11 = .ok (.iload_n 1, 1) := by decide +kernel
theorem dX2_swapWeight_12 : decode cX2_swapWeight 12 = .ok (.iload_n 2, 1) := by decide +kernel
theorem dX2_swapWeight_13 : decode cX2_swapWeight 13 = .ok (.iastore, 1) := by decide +kernel
theorem dX2_swapWeight_14 : decode cX2_swapWeight 14 = .ok (.iload_n 3, 1) := by decide +kernel
theorem dX2_swapWeight_15 : decode cX2_swapWeight 15 = .ok (.ireturn, 1) := by decide +kernel
theorem dX2_add_0 : decode cX2_add 0 = .ok (.aload_n 0, 1) := by decide +kernel
theorem dX2_add_1 : decode cX2_add 1 = .ok (.getfield 15, 3) := by decide +kernel
theorem dX2_add_4 : decode cX2_add 4 = .ok (.aload_n 0, 1) := by decide +kernel
theorem dX2_add_5 : decode cX2_add 5 = .ok (.getfield 37, 3) := by decide +kernel
theorem dX2_add_8 : decode cX2_add 8 = .ok (.iload_n 1, 1) := by decide +kernel
theorem dX2_add_9 : decode cX2_add 9 = .ok (.iastore, 1) := by decide +kernel
theorem dX2_add_10 : decode cX2_add 10 = .ok (.aload_n 0, 1) := by decide +kernel
theorem dX2_add_11 : decode cX2_add 11 = .ok (.getfield 18, 3) := by decide +kernel
theorem dX2_add_14 : decode cX2_add 14 = .ok (.aload_n 0, 1) := by decide +kernel
theorem dX2_add_15 : decode cX2_add 15 = .ok (.getfield 37, 3) := by decide +kernel
theorem dX2_add_18 : decode cX2_add 18 = .ok (.iload_n 2, 1) := by decide +kernel
theorem dX2_add_19 : decode cX2_add 19 = .ok (.iastore, 1) := by decide +kernel
theorem dX2_add_20 : decode cX2_add 20 = .ok (.aload_n 0, 1) := by decide +kernel
theorem dX2_add_21 : decode cX2_add 21 = .ok (.getfield 21, 3) := by decide +kernel
theorem dX2_add_24 : decode cX2_add 24 = .ok (.aload_n 0, 1) := by decide +kernel
theorem dX2_add_25 : decode cX2_add 25 = .ok (.getfield 37, 3) := by decide +kernel
theorem dX2_add_28 : decode cX2_add 28 = .ok (.iload_n 3, 1) := by decide +kernel
theorem dX2_add_29 : decode cX2_add 29 = .ok (.iastore, 1) := by decide +kernel
theorem dX2_add_30 : decode cX2_add 30 = .ok (.aload_n 0, 1) := by decide +kernel
theorem dX2_add_31 : decode cX2_add 31 = .ok (.getfield 27, 3) := by decide +kernel
theorem dX2_add_34 : decode cX2_add 34 = .ok (.aload_n 0, 1) := by decide +kernel
theorem dX2_add_35 : decode cX2_add 35 = .ok (.getfield 37, 3) := by decide +kernel
theorem dX2_add_38 : decode cX2_add 38 = .ok (.bipush (-9), 2) := by decide +kernel
theorem dX2_add_40 : decode cX2_add 40 = .ok (.iastore, 1) := by decide +kernel
theorem dX2_add_41 : decode cX2_add 41 = .ok (.iconst 0, 1) := by decide +kernel
theorem dX2_add_42 : decode cX2_add 42 = .ok (.istore 4, 2) := by decide +kernel
theorem dX2_add_44 : decode cX2_add 44 = .ok (.iload 4, 2) := by decide +kernel
theorem dX2_add_46 : decode cX2_add 46 = .ok (.iconst 4, 1) := by decide +kernel
theorem dX2_add_47 : decode cX2_add 47 = .ok (.if_icmp .ge 25, 3) := by decide +kernel
theorem dX2_add_50 : decode cX2_add 50 = .ok (.aload_n 0, 1) := by decide +kernel
theorem dX2_add_51 : decode cX2_add 51 = .ok (.getfield 24, 3) := by decide +kernel
theorem dX2_add_54 : decode cX2_add 54 = .ok (.aload_n 0, 1) := by decide +kernel
theorem dX2_add_55 : decode cX2_add 55 = .ok (.getfield 37, 3) := by decide +kernel
theorem dX2_add_58 : decode cX2_add 58 = .ok (.iconst 4, 1) := by decide +kernel
theorem dX2_add_59 : decode cX2_add 59 = .ok (.imul, 1) := by decide +kernel
theorem dX2_add_60 : decode cX2_add 60 = .ok (.iload 4, 2) := by decide +kernel
theorem dX2_add_62 : decode cX2_add 62 = .ok (.iadd, 1) := by decide +kernel
theorem dX2_add_63 : decode cX2_add 63 = .ok (.bipush 8, 2) := by decide +kernel
theorem dX2_add_65 : decode cX2_add 65 = .ok (.iastore, 1) := by decide +kernel
theorem dX2_add_66 : decode cX2_add 66 = .ok (.iinc 4 1, 3) := by decide +kernel
theorem dX2_add_69 : decode cX2_add 69 = .ok (.goto (-25), 3) := by decide +kernel
theorem dX2_add_72 : decode cX2_add 72 = .ok (.aload_n 0, 1) := by decide +kernel
theorem dX2_add_73 : decode cX2_add 73 = .ok (.dup, 1) := by decide +kernel
theorem dX2_add_74 : decode cX2_add 74 = .ok (.getfield 37, 3) := by decide +kernel
theorem dX2_add_77 : decode cX2_add 77 = .ok (.iconst 1, 1) := by decide +kernel
theorem dX2_add_78 : decode cX2_add 78 = .ok (.iadd, 1) := by decide +kernel
theorem dX2_add_79 : decode cX2_add 79 = .ok (.putfield 37, 3) := by decide +kernel
theorem dX2_add_82 : decode cX2_add 82 = .ok (.aload_n 0, 1) := by decide +kernel
theorem dX2_add_83 : decode cX2_add 83 = .ok (.getfield 37, 3) := by decide +kernel
theorem dX2_add_86 : decode cX2_add 86 = .ok (.iconst 1, 1) := by decide +kernel
theorem dX2_add_87 : decode cX2_add 87 = .ok (.isub, 1) := by decide +kernel
theorem dX2_add_88 : decode cX2_add 88 = .ok (.ireturn, 1) := by decide +kernel
theorem dX2_swapOften_0 : decode cX2_swapOften 0 = .ok (.aload_n 0, 1) := by decide +kernel
theorem dX2_swapOften_1 : decode cX2_swapOften 1 = .ok (.getfield 24, 3) := by decide +kernel
theorem dX2_swapOften_4 : decode cX2_swapOften 4 = .ok (.iload_n 1, 1) := by decide +kernel
theorem dX2_swapOften_5 : decode cX2_swapOften 5 = .ok (.iconst 4, 1) := by decide +kernel
theorem dX2_swapOften_6 : decode cX2_swapOften 6 = .ok (.imul, 1) := by decide +kernel
theorem dX2_swapOften_7 : decode cX2_swapOften 7 = .ok (.iload_n 2, 1) := by decide +kernel
theorem dX2_swapOften_8 : decode cX2_swapOften 8 = .ok (.iadd, 1) := by decide +kernel
theorem dX2_swapOften_9 : decode cX2_swapOften 9 = .ok (.iaload, 1) := by decide +kernel
theorem dX2_swapOften_10 : decode cX2_swapOften 10 = .ok (.istore 4, 2) := by decide +kernel
theorem dX2_swapOften_12 : decode cX2_swapOften 12 = .ok (.aload_n 0, 1) := by decide +kernel
theorem dX2_swapOften_13 : decode cX2_swapOften 13 = .ok (.getfield 24, 3) := by decide +kernel
theorem dX2_swapOften_16 : decode cX2_swapOften 16 = .ok (.iload_n 1, 1) := by decide +kernel
theorem dX2_swapOften_17 : decode cX2_swapOften 17 = .ok (.iconst 4, 1) := by decide +kernel
theorem dX2_swapOften_18 : decode cX2_swapOften 18 = .ok (.imul, 1) := by decide +kernel
theorem dX2_swapOften_19 : decode cX2_swapOften 19 = .ok (.iload_n 2, 1) := by decide +kernel
theorem dX2_swapOften_20 : decode cX2_swapOften 20 = .ok (.iadd, 1) := by decide +kernel
theorem dX2_swapOften_21 : decode cX2_swapOften 21 = .ok (.iload_n 3, 1) := by decide +kernel
theorem dX2_swapOften_22 : decode cX2_swapOften 22 = .ok (.iastore, 1) := by decide +kernel
theorem dX2_swapOften_23 : decode cX2_swapOften 23 = .ok (.iload 4, 2) := by decide +kernel
theorem dX2_swapOften_25 : decode cX2_swapOften 25 = .ok (.ireturn, 1) := by decide +kernel
theorem dX2_isDone_0 : decode cX2_isDone 0 = .ok (.aload_n 0, 1) := by decide +kernel
theorem dX2_isDone_1 : decode cX2_isDone 1 = .ok (.getfield 27, 3) := by decide +kernel
theorem dX2_isDone_4 : decode cX2_isDone 4 = .ok (.iload_n 1, 1) := by decide +kernel
theorem dX2_isDone_5 : decode cX2_isDone 5 = .ok (.iaload, 1) := by decide +kernel
theorem dX2_isDone_6 : decode cX2_isDone 6 = .ok (.bipush (-9), 2) := by decide +kernel
theorem dX2_isDone_8 : decode cX2_isDone 8 = .ok (.if_icmp .eq 7, 3) := by decide +kernel
theorem dX2_isDone_11 : decode cX2_isDone 11 = .ok (.iconst 1, 1) := by decide +kernel
theorem dX2_isDone_12 : decode cX2_isDone 12 = .ok (.goto 4, 3) := by decide +kernel
theorem dX2_isDone_15 : decode cX2_isDone 15 = .ok (.iconst 0, 1) := by decide +kernel
theorem dX2_isDone_16 : decode cX2_isDone 16 = .ok (.ireturn, 1) := by decide +kernel
theorem dX2_isGroupDone_0 : decode cX2_isGroupDone 0 = .ok (.aload_n 0, 1) := by decide +kernel
theorem dX2_isGroupDone_1 : decode cX2_isGroupDone 1 = .ok (.getfield 21, 3) := by decide +kernel
theorem dX2_isGroupDone_4 : decode cX2_isGroupDone 4 = .ok (.iload_n 1, 1) := by decide +kernel
theorem dX2_isGroupDone_5 : decode cX2_isGroupDone 5 = .ok (.iaload, 1) := by decide +kernel
theorem dX2_isGroupDone_6 : decode cX2_isGroupDone 6 = .ok (.bipush (-9), 2) := by decide +kernel
theorem dX2_isGroupDone_8 : decode cX2_isGroupDone 8 = .ok (.if_icmp .eq 21, 3) := by decide +kernel
theorem dX2_isGroupDone_11 : decode cX2_isGroupDone 11 = .ok (.aload_n 0, 1) := by decide +kernel
theorem dX2_isGroupDone_12 : decode cX2_isGroupDone 12 = .ok (.getfield 34, 3) := by decide +kernel
theorem dX2_isGroupDone_15 : decode cX2_isGroupDone 15 = .ok (.aload_n 0, 1) := by decide +kernel
theorem dX2_isGroupDone_16 : decode cX2_isGroupDone 16 = .ok (.getfield 21, 3) := by decide +kernel
theorem dX2_isGroupDone_19 : decode cX2_isGroupDone 19 = .ok (.iload_n 1, 1) := by decide +kernel
theorem dX2_isGroupDone_20 : decode cX2_isGroupDone 20 = .ok (.iaload, 1) := by decide +kernel
theorem dX2_isGroupDone_21 : decode cX2_isGroupDone 21 = .ok (.baload, 1) := by decide +kernel
theorem dX2_isGroupDone_22 : decode cX2_isGroupDone 22 = .ok (.ifCond .eq 7, 3) := by decide +kernel
theorem dX2_isGroupDone_25 : decode cX2_isGroupDone 25 = .ok (.iconst 1, 1) := by decide +kernel
theorem dX2_isGroupDone_26 : decode cX2_isGroupDone 26 = .ok (.goto 4, 3) := by decide +kernel
theorem dX2_isGroupDone_29 : decode cX2_isGroupDone 29 = .ok (.iconst 0, 1) := by decide +kernel
theorem dX2_isGroupDone_30 : decode cX2_isGroupDone 30 = .ok (.ireturn, 1) := by decide +kernel
set_option maxRecDepth 20000 in
theorem ggX2_isOpen_X2_isDone : GoodIn wsX2_isOpen wsX2_isDone := goodIn_r _ [5, 6, 13, 14, 15, 16, 17, 18, 19, 20, 21, 22] (by decide +kernel) (by decide +kernel)
set_option maxRecDepth 20000 in
theorem gX2_isOpen_X2_isDone : GoodIn wsX2_isOpen (wsV RX2 44 RX2 yX2_isDone wsX2_isDone) := goodIn_app (goodIn_of _ (by decide +kernel)) ggX2_isOpen_X2_isDone
set_option maxRecDepth 20000 in
theorem ggX2_isOpen_X2_isGroupDone : GoodIn wsX2_isOpen wsX2_isGroupDone := goodIn_r _ [10, 11, 12, 13, 14, 15, 16, 17, 18, 19, 20, 21, 22] (by decide +kernel) (by decide +kernel)
set_option maxRecDepth 20000 in
theorem gX2_isOpen_X2_isGroupDone : GoodIn wsX2_isOpen (wsV RX2 48 RX2 yX2_isGroupDone wsX2_isGroupDone) := goodIn_app (goodIn_of _ (by decide +kernel)) ggX2_isOpen_X2_isGroupDone
theorem dX2_isOpen_0 : decode cX2_isOpen 0 = .ok (.aload_n 0, 1) := by decide +kernel
theorem dX2_isOpen_1 : decode cX2_isOpen 1 = .ok (.iload_n 1, 1) := by decide +kernel
theorem dX2_isOpen_2 : decode cX2_isOpen 2 = .ok (.invokevirtual 44, 3) := by decide +kernel
theorem dX2_isOpen_5 : decode cX2_isOpen 5 = .ok (.ifCond .ne 15, 3) := by decide +kernel
theorem dX2_isOpen_8 : decode cX2_isOpen 8 = .ok (.aload_n 0, 1) := by decide +kernel
theorem dX2_isOpen_9 : decode cX2_isOpen 9 = .ok (.iload_n 1, 1) := by decide +kernel
theorem dX2_isOpen_10 : decode cX2_isOpen 10 = .ok (.invokevirtual 48, 3) := by decide +kernel
theorem dX2_isOpen_13 : decode cX2_isOpen 13 = .ok (.ifCond .ne 7, 3) := by decide +kernel
theorem dX2_isOpen_16 : decode cX2_isOpen 16 = .ok (.iconst 1, 1) := by decide +kernel
theorem dX2_isOpen_17 : decode cX2_isOpen 17 = .ok (.goto 4, 3) := by decide +kernel
theorem dX2_isOpen_20 : decode cX2_isOpen 20 = .ok (.iconst 0, 1) := by decide +kernel
theorem dX2_isOpen_21 : decode cX2_isOpen 21 = .ok (.ireturn, 1) := by decide +kernel
set_option maxRecDepth 20000 in
theorem ggX2_finish_X2_isGroupDone : GoodIn wsX2_finish wsX2_isGroupDone := goodIn_r _ [10, 3, 4, 11, 12, 13, 14, 15, 16, 17, 18, 19, 20] (by decide +kernel) (by decide +kernel)
set_option maxRecDepth 20000 in
theorem gX2_finish_X2_isGroupDone : GoodIn wsX2_finish (wsV RX2 48 RX2 yX2_isGroupDone wsX2_isGroupDone) := goodIn_app (goodIn_of _ (by decide +kernel)) ggX2_finish_X2_isGroupDone
theorem dX2_finish_0 : decode cX2_finish 0 = .ok (.aload_n 0, 1) := by decide +kernel
theorem dX2_finish_1 : decode cX2_finish 1 = .ok (.getfield 30, 3) := by decide +kernel
theorem dX2_finish_4 : decode cX2_finish 4 = .ok (.iload_n 1, 1) := by decide +kernel
theorem dX2_finish_5 : decode cX2_finish 5 = .ok (.aload_n 0, 1) := by decide +kernel
theorem dX2_finish_6 : decode cX2_finish 6 = .ok (.iload_n 1, 1) := by decide +kernel
theorem dX2_finish_7 : decode cX2_finish 7 = .ok (.invokevirtual 48, 3) := by decide +kernel
theorem dX2_finish_10 : decode cX2_finish 10 = .ok (.ifCond .ne 7, 3) := by decide +kernel
theorem dX2_finish_13 : decode cX2_finish 13 = .ok (.iconst 1, 1) := by decide +kernel
theorem dX2_finish_14 : decode cX2_finish 14 = .ok (.goto 4, 3) := by decide +kernel
theorem dX2_finish_17 : decode cX2_finish 17 = .ok (.iconst 0, 1) := by decide +kernel
theorem dX2_finish_18 : decode cX2_finish 18 = .ok (.bastore, 1) := by decide +kernel
theorem dX2_finish_19 : decode cX2_finish 19 = .ok (.aload_n 0, 1) := by decide +kernel
theorem dX2_finish_20 : decode cX2_finish 20 = .ok (.getfield 27, 3) := by decide +kernel
theorem dX2_finish_23 : decode cX2_finish 23 = .ok (.iload_n 1, 1) := by decide +kernel
theorem dX2_finish_24 : decode cX2_finish 24 = .ok (.iload_n 2, 1) := by decide +kernel
theorem dX2_finish_25 : decode cX2_finish 25 = .ok (.ifCond .eq 7, 3) := by decide +kernel
theorem dX2_finish_28 : decode cX2_finish 28 = .ok (.iconst 1, 1) := by decide +kernel
theorem dX2_finish_29 : decode cX2_finish 29 = .ok (.goto 4, 3) := by decide +kernel
theorem dX2_finish_32 : decode cX2_finish 32 = .ok (.iconst 0, 1) := by decide +kernel
theorem dX2_finish_33 : decode cX2_finish 33 = .ok (.iastore, 1) := by decide +kernel
theorem dX2_finish_34 : decode cX2_finish 34 = .ok (.aload_n 0, 1) := by decide +kernel
theorem dX2_finish_35 : decode cX2_finish 35 = .ok (.getfield 21, 3) := by decide +kernel
theorem dX2_finish_38 : decode cX2_finish 38 = .ok (.iload_n 1, 1) := by decide +kernel
theorem dX2_finish_39 : decode cX2_finish 39 = .ok (.iaload, 1) := by decide +kernel
theorem dX2_finish_40 : decode cX2_finish 40 = .ok (.bipush (-9), 2) := by decide +kernel
theorem dX2_finish_42 : decode cX2_finish 42 = .ok (.if_icmp .eq 15, 3) := by decide +kernel
theorem dX2_finish_45 : decode cX2_finish 45 = .ok (.aload_n 0, 1) := by decide +kernel
theorem dX2_finish_46 : decode cX2_finish 46 = .ok (.getfield 34, 3) := by decide +kernel
theorem dX2_finish_49 : decode cX2_finish 49 = .ok (.aload_n 0, 1) := by decide +kernel
theorem dX2_finish_50 : decode cX2_finish 50 = .ok (.getfield 21, 3) := by decide +kernel
theorem dX2_finish_53 : decode cX2_finish 53 = .ok (.iload_n 1, 1) := by decide +kernel
theorem dX2_finish_54 : decode cX2_finish 54 = .ok (.iaload, 1) := by decide +kernel
theorem dX2_finish_55 : decode cX2_finish 55 = .ok (.iconst 1, 1) := by decide +kernel
theorem dX2_finish_56 : decode cX2_finish 56 = .ok (.bastore, 1) := by decide +kernel
theorem dX2_finish_57 : decode cX2_finish 57 = .ok (.aload_n 0, 1) := by decide +kernel
theorem dX2_finish_58 : decode cX2_finish 58 = .ok (.dup, 1) := by decide +kernel
theorem dX2_finish_59 : decode cX2_finish 59 = .ok (.getfield 41, 3) := by decide +kernel
theorem dX2_finish_62 : decode cX2_finish 62 = .ok (.iconst 1, 1) := by decide +kernel
theorem dX2_finish_63 : decode cX2_finish 63 = .ok (.iadd, 1) := by decide +kernel
theorem dX2_finish_64 : decode cX2_finish 64 = .ok (.putfield 41, 3) := by decide +kernel
theorem dX2_finish_67 : decode cX2_finish 67 = .ok (.aload_n 0, 1) := by decide +kernel
theorem dX2_finish_68 : decode cX2_finish 68 = .ok (.getfield 30, 3) := by decide +kernel
theorem dX2_finish_71 : decode cX2_finish 71 = .ok (.iload_n 1, 1) := by decide +kernel
theorem dX2_finish_72 : decode cX2_finish 72 = .ok (.baload, 1) := by decide +kernel
theorem dX2_finish_73 : decode cX2_finish 73 = .ok (.ireturn, 1) := by decide +kernel
theorem dX2_score_0 : decode cX2_score 0 = .ok (.aload_n 0, 1) := by decide +kernel
theorem dX2_score_1 : decode cX2_score 1 = .ok (.getfield 9, 3) := by decide +kernel
theorem dX2_score_4 : decode cX2_score 4 = .ok (.iload_n 1, 1) := by decide +kernel
theorem dX2_score_5 : decode cX2_score 5 = .ok (.iaload, 1) := by decide +kernel
theorem dX2_score_6 : decode cX2_score 6 = .ok (.i2l, 1) := by decide +kernel
theorem dX2_score_7 : decode cX2_score 7 = .ok (.lstore_n 2, 1) := by decide +kernel
theorem dX2_score_8 : decode cX2_score 8 = .ok (.iconst 0, 1) := by decide +kernel
theorem dX2_score_9 : decode cX2_score 9 = .ok (.istore 4, 2) := by decide +kernel
theorem dX2_score_11 : decode cX2_score 11 = .ok (.iload 4, 2) := by decide +kernel
theorem dX2_score_13 : decode cX2_score 13 = .ok (.aload_n 0, 1) := by decide +kernel
theorem dX2_score_14 : decode cX2_score 14 = .ok (.getfield 37, 3) := by decide +kernel
theorem dX2_score_17 : decode cX2_score 17 = .ok (.if_icmp .ge 58, 3) := by decide +kernel
theorem dX2_score_20 : decode cX2_score 20 = .ok (.aload_n 0, 1) := by decide +kernel
theorem dX2_score_21 : decode cX2_score 21 = .ok (.getfield 30, 3) := by decide +kernel
theorem dX2_score_24 : decode cX2_score 24 = .ok (.iload 4, 2) := by decide +kernel
theorem dX2_score_26 : decode cX2_score 26 = .ok (.baload, 1) := by decide +kernel
theorem dX2_score_27 : decode cX2_score 27 = .ok (.ifCond .eq 42, 3) := by decide +kernel
theorem dX2_score_30 : decode cX2_score 30 = .ok (.aload_n 0, 1) := by decide +kernel
theorem dX2_score_31 : decode cX2_score 31 = .ok (.getfield 24, 3) := by decide +kernel
theorem dX2_score_34 : decode cX2_score 34 = .ok (.iload 4, 2) := by decide +kernel
theorem dX2_score_36 : decode cX2_score 36 = .ok (.iconst 4, 1) := by decide +kernel
theorem dX2_score_37 : decode cX2_score 37 = .ok (.imul, 1) := by decide +kernel
theorem dX2_score_38 : decode cX2_score 38 = .ok (.iload_n 1, 1) := by decide +kernel
theorem dX2_score_39 : decode cX2_score 39 = .ok (.iadd, 1) := by decide +kernel
theorem dX2_score_40 : decode cX2_score 40 = .ok (.iaload, 1) := by decide +kernel
theorem dX2_score_41 : decode cX2_score 41 = .ok (.istore 5, 2) := by decide +kernel
theorem dX2_score_43 : decode cX2_score 43 = .ok (.lload_n 2, 1) := by decide +kernel
theorem dX2_score_44 : decode cX2_score 44 = .ok (.aload_n 0, 1) := by decide +kernel
theorem dX2_score_45 : decode cX2_score 45 = .ok (.getfield 27, 3) := by decide +kernel
theorem dX2_score_48 : decode cX2_score 48 = .ok (.iload 4, 2) := by decide +kernel
theorem dX2_score_50 : decode cX2_score 50 = .ok (.iaload, 1) := by decide +kernel
theorem dX2_score_51 : decode cX2_score 51 = .ok (.iconst 1, 1) := by decide +kernel
theorem dX2_score_52 : decode cX2_score 52 = .ok (.if_icmp .ne 9, 3) := by decide +kernel
theorem dX2_score_55 : decode cX2_score 55 = .ok (.iload 5, 2) := by decide +kernel
theorem dX2_score_57 : decode cX2_score 57 = .ok (.i2l, 1) := by decide +kernel
theorem dX2_score_58 : decode cX2_score 58 = .ok (.goto 9, 3) := by decide +kernel
theorem dX2_score_61 : decode cX2_score 61 = .ok (.bipush 16, 2) := by decide +kernel
theorem dX2_score_63 : decode cX2_score 63 = .ok (.iload 5, 2) := by decide +kernel
theorem dX2_score_65 : decode cX2_score 65 = .ok (.isub, 1) := by decide +kernel
theorem dX2_score_66 : decode cX2_score 66 = .ok (.i2l, 1) := by decide +kernel
theorem dX2_score_67 : decode cX2_score 67 = .ok (.lmul, 1) := by decide +kernel
theorem dX2_score_68 : decode cX2_score 68 = .ok (.lstore_n 2, 1) := by decide +kernel
theorem dX2_score_69 : decode cX2_score 69 = .ok (.iinc 4 1, 3) := by decide +kernel
theorem dX2_score_72 : decode cX2_score 72 = .ok (.goto (-61), 3) := by decide +kernel
theorem dX2_score_75 : decode cX2_score 75 = .ok (.lload_n 2, 1) := by decide +kernel
theorem dX2_score_76 : decode cX2_score 76 = .ok (.lreturn, 1) := by decide +kernel
set_option maxRecDepth 20000 in
theorem ggX2_scoreOfAll_X2_score : GoodIn wsX2_scoreOfAll wsX2_score := goodIn_r _ [5, 6, 7, 8, 9, 10, 11, 12, 13, 14, 15, 16, 17, 18, 19, 20] (by decide +kernel) (by decide +kernel)
set_option maxRecDepth 20000 in
theorem gX2_scoreOfAll_X2_score : GoodIn wsX2_scoreOfAll (wsV RX2 51 RX2 yX2_score wsX2_score) := goodIn_app (goodIn_of _ (by decide +kernel)) ggX2_scoreOfAll_X2_score
theorem dX2_scoreOfAll_0 : decode cX2_scoreOfAll 0 = .ok (.lconst 0, 1) := by decide +kernel
theorem dX2_scoreOfAll_1 : decode cX2_scoreOfAll 1 = .ok (.lstore_n 1, 1) := by decide +kernel
theorem dX2_scoreOfAll_2 : decode cX2_scoreOfAll 2 = .ok (.iconst 0, 1) := by decide +kernel
theorem dX2_scoreOfAll_3 : decode cX2_scoreOfAll 3 = .ok (.istore_n 3, 1) := by decide +kernel
theorem dX2_scoreOfAll_4 : decode cX2_scoreOfAll 4 = .ok (.iload_n 3, 1) := by decide +kernel
theorem dX2_scoreOfAll_5 : decode cX2_scoreOfAll 5 = .ok (.iconst 4, 1) := by decide +kernel
theorem dX2_scoreOfAll_6 : decode cX2_scoreOfAll 6 = .ok (.if_icmp .ge 17, 3) := by decide +kernel
theorem dX2_scoreOfAll_9 : decode cX2_scoreOfAll 9 = .ok (.lload_n 1, 1) := by decide +kernel
theorem dX2_scoreOfAll_10 : decode cX2_scoreOfAll 10 = .ok (.aload_n 0, 1) := by decide +kernel
theorem dX2_scoreOfAll_11 : decode cX2_scoreOfAll 11 = .ok (.iload_n 3, 1) := by decide +kernel
theorem dX2_scoreOfAll_12 : decode cX2_scoreOfAll 12 = .ok (.invokevirtual 51, 3) := by decide +kernel
theorem dX2_scoreOfAll_15 : decode cX2_scoreOfAll 15 = .ok (.ladd, 1) := by decide +kernel
theorem dX2_scoreOfAll_16 : decode cX2_scoreOfAll 16 = .ok (.lstore_n 1, 1) := by decide +kernel
theorem dX2_scoreOfAll_17 : decode cX2_scoreOfAll 17 = .ok (.iinc 3 1, 3) := by decide +kernel
theorem dX2_scoreOfAll_20 : decode cX2_scoreOfAll 20 = .ok (.goto (-16), 3) := by decide +kernel
theorem dX2_scoreOfAll_23 : decode cX2_scoreOfAll 23 = .ok (.lload_n 1, 1) := by decide +kernel
theorem dX2_scoreOfAll_24 : decode cX2_scoreOfAll 24 = .ok (.lreturn, 1) := by decide +kernel
set_option maxRecDepth 20000 in
theorem ggX2_likeliest_X2_score : GoodIn wsX2_likeliest wsX2_score := goodIn_r _ [5, 6, 7, 8, 9, 10, 11, 12, 13, 14, 15, 16, 17, 18, 19, 20] (by decide +kernel) (by decide +kernel)
set_option maxRecDepth 20000 in
theorem gX2_likeliest_X2_score : GoodIn wsX2_likeliest (wsV RX2 51 RX2 yX2_score wsX2_score) := goodIn_app (goodIn_of _ (by decide +kernel)) ggX2_likeliest_X2_score
theorem dX2_likeliest_0 : decode cX2_likeliest 0 = .ok (.iconst 0, 1) := by decide +kernel
theorem dX2_likeliest_1 : decode cX2_likeliest 1 = .ok (.istore_n 1, 1) := by decide +kernel
theorem dX2_likeliest_2 : decode cX2_likeliest 2 = .ok (.iconst 1, 1) := by decide +kernel
theorem dX2_likeliest_3 : decode cX2_likeliest 3 = .ok (.istore_n 2, 1) := by decide +kernel
theorem dX2_likeliest_4 : decode cX2_likeliest 4 = .ok (.iload_n 2, 1) := by decide +kernel
theorem dX2_likeliest_5 : decode cX2_likeliest 5 = .ok (.iconst 4, 1) := by decide +kernel
theorem dX2_likeliest_6 : decode cX2_likeliest 6 = .ok (.if_icmp .ge 25, 3) := by decide +kernel
theorem dX2_likeliest_9 : decode cX2_likeliest 9 = .ok (.aload_n 0, 1) := by decide +kernel
theorem dX2_likeliest_10 : decode cX2_likeliest 10 = .ok (.iload_n 2, 1) := by decide +kernel
theorem dX2_likeliest_11 : decode cX2_likeliest 11 = .ok (.invokevirtual 51, 3) := by decide +kernel
theorem dX2_likeliest_14 : decode cX2_likeliest 14 = .ok (.aload_n 0, 1) := by decide +kernel
theorem dX2_likeliest_15 : decode cX2_likeliest 15 = .ok (.iload_n 1, 1) := by decide +kernel
theorem dX2_likeliest_16 : decode cX2_likeliest 16 = .ok (.invokevirtual 51, 3) := by decide +kernel
theorem dX2_likeliest_19 : decode cX2_likeliest 19 = .ok (.lcmp, 1) := by decide +kernel
theorem dX2_likeliest_20 : decode cX2_likeliest 20 = .ok (.ifCond .le 5, 3) := by decide +kernel
theorem dX2_likeliest_23 : decode cX2_likeliest 23 = .ok (.iload_n 2, 1) := by decide +kernel
theorem dX2_likeliest_24 : decode cX2_likeliest 24 = .ok (.istore_n 1, 1) := by decide +kernel
theorem dX2_likeliest_25 : decode cX2_likeliest 25 = .ok (.iinc 2 1, 3) := by decide +kernel
theorem dX2_likeliest_28 : decode cX2_likeliest 28 = .ok (.goto (-24), 3) := by decide +kernel
theorem dX2_likeliest_31 : decode cX2_likeliest 31 = .ok (.iload_n 1, 1) := by decide +kernel
theorem dX2_likeliest_32 : decode cX2_likeliest 32 = .ok (.ireturn, 1) := by decide +kernel
set_option maxRecDepth 20000 in
theorem ggX2_gainOf_X2_score : GoodIn wsX2_gainOf wsX2_score := goodIn_r _ [11, 12, 13, 14, 1, 15, 16, 17, 18, 19, 20, 21, 22, 23, 24, 25] (by decide +kernel) (by decide +kernel)
set_option maxRecDepth 20000 in
theorem gX2_gainOf_X2_score : GoodIn wsX2_gainOf (wsV RX2 51 RX2 yX2_score wsX2_score) := goodIn_app (goodIn_of _ (by decide +kernel)) ggX2_gainOf_X2_score
theorem dX2_gainOf_0 : decode cX2_gainOf 0 = .ok (.lconst 0, 1) := by decide +kernel
theorem dX2_gainOf_1 : decode cX2_gainOf 1 = .ok (.lstore_n 2, 1) := by decide +kernel
theorem dX2_gainOf_2 : decode cX2_gainOf 2 = .ok (.lconst 0, 1) := by decide +kernel
theorem dX2_gainOf_3 : decode cX2_gainOf 3 = .ok (.lstore 4, 2) := by decide +kernel
theorem dX2_gainOf_5 : decode cX2_gainOf 5 = .ok (.lconst 0, 1) := by decide +kernel
theorem dX2_gainOf_6 : decode cX2_gainOf 6 = .ok (.lstore 6, 2) := by decide +kernel
theorem dX2_gainOf_8 : decode cX2_gainOf 8 = .ok (.iconst 0, 1) := by decide +kernel
theorem dX2_gainOf_9 : decode cX2_gainOf 9 = .ok (.istore 8, 2) := by decide +kernel
theorem dX2_gainOf_11 : decode cX2_gainOf 11 = .ok (.iload 8, 2) := by decide +kernel
theorem dX2_gainOf_13 : decode cX2_gainOf 13 = .ok (.iconst 4, 1) := by decide +kernel
theorem dX2_gainOf_14 : decode cX2_gainOf 14 = .ok (.if_icmp .ge 70, 3) := by decide +kernel
theorem dX2_gainOf_17 : decode cX2_gainOf 17 = .ok (.aload_n 0, 1) := by decide +kernel
theorem dX2_gainOf_18 : decode cX2_gainOf 18 = .ok (.iload 8, 2) := by decide +kernel
theorem dX2_gainOf_20 : decode cX2_gainOf 20 = .ok (.invokevirtual 51, 3) := by decide +kernel
theorem dX2_gainOf_23 : decode cX2_gainOf 23 = .ok (.lstore 9, 2) := by decide +kernel
theorem dX2_gainOf_25 : decode cX2_gainOf 25 = .ok (.aload_n 0, 1) := by decide +kernel
theorem dX2_gainOf_26 : decode cX2_gainOf 26 = .ok (.getfield 24, 3) := by decide +kernel
theorem dX2_gainOf_29 : decode cX2_gainOf 29 = .ok (.iload_n 1, 1) := by decide +kernel
theorem dX2_gainOf_30 : decode cX2_gainOf 30 = .ok (.iconst 4, 1) := by decide +kernel
theorem dX2_gainOf_31 : decode cX2_gainOf 31 = .ok (.imul, 1) := by decide +kernel
theorem dX2_gainOf_32 : decode cX2_gainOf 32 = .ok (.iload 8, 2) := by decide +kernel
theorem dX2_gainOf_34 : decode cX2_gainOf 34 = .ok (.iadd, 1) := by decide +kernel
theorem dX2_gainOf_35 : decode cX2_gainOf 35 = .ok (.iaload, 1) := by decide +kernel
theorem dX2_gainOf_36 : decode cX2_gainOf 36 = .ok (.istore 11, 2) := by decide +kernel
theorem dX2_gainOf_38 : decode cX2_gainOf 38 = .ok (.lload_n 2, 1) := by decide +kernel
theorem dX2_gainOf_39 : decode cX2_gainOf 39 = .ok (.lload 9, 2) := by decide +kernel
theorem dX2_gainOf_41 : decode cX2_gainOf 41 = .ok (.iload 11, 2) := by decide +kernel
theorem dX2_gainOf_43 : decode cX2_gainOf 43 = .ok (.i2l, 1) := by decide +kernel
theorem dX2_gainOf_44 : decode cX2_gainOf 44 = .ok (.lmul, 1) := by decide +kernel
theorem dX2_gainOf_45 : decode cX2_gainOf 45 = .ok (.invokestatic 55, 3) := by decide +kernel
theorem dX2_gainOf_48 : decode cX2_gainOf 48 = .ok (.lstore_n 2, 1) := by decide +kernel
theorem dX2_gainOf_49 : decode cX2_gainOf 49 = .ok (.lload 4, 2) := by decide +kernel
theorem dX2_gainOf_51 : decode cX2_gainOf 51 = .ok (.lload 9, 2) := by decide +kernel
theorem dX2_gainOf_53 : decode cX2_gainOf 53 = .ok (.bipush 16, 2) := by decide +kernel
theorem dX2_gainOf_55 : decode cX2_gainOf 55 = .ok (.iload 11, 2) := by decide +kernel
theorem dX2_gainOf_57 : decode cX2_gainOf 57 = .ok (.isub, 1) := by decide +kernel
theorem dX2_gainOf_58 : decode cX2_gainOf 58 = .ok (.i2l, 1) := by decide +kernel
theorem dX2_gainOf_59 : decode cX2_gainOf 59 = .ok (.lmul, 1) := by decide +kernel
theorem dX2_gainOf_60 : decode cX2_gainOf 60 = .ok (.invokestatic 55, 3) := by decide +kernel
theorem dX2_gainOf_63 : decode cX2_gainOf 63 = .ok (.lstore 4, 2) := by decide +kernel
theorem dX2_gainOf_65 : decode cX2_gainOf 65 = .ok (.lload 6, 2) := by decide +kernel
theorem dX2_gainOf_67 : decode cX2_gainOf 67 = .ok (.lload 9, 2) := by decide +kernel
theorem dX2_gainOf_69 : decode cX2_gainOf 69 = .ok (.ldc2_w 61, 3) := by decide +kernel
theorem dX2_gainOf_72 : decode cX2_gainOf 72 = .ok (.lmul, 1) := by decide +kernel
theorem dX2_gainOf_73 : decode cX2_gainOf 73 = .ok (.invokestatic 55, 3) := by decide +kernel
theorem dX2_gainOf_76 : decode cX2_gainOf 76 = .ok (.lstore 6, 2) := by decide +kernel
theorem dX2_gainOf_78 : decode cX2_gainOf 78 = .ok (.iinc 8 1, 3) := by decide +kernel
theorem dX2_gainOf_81 : decode cX2_gainOf 81 = .ok (.goto (-70), 3) := by decide +kernel
theorem dX2_gainOf_84 : decode cX2_gainOf 84 = .ok (.lload_n 2, 1) := by decide +kernel
theorem dX2_gainOf_85 : decode cX2_gainOf 85 = .ok (.lload 4, 2) := by decide +kernel
theorem dX2_gainOf_87 : decode cX2_gainOf 87 = .ok (.ladd, 1) := by decide +kernel
theorem dX2_gainOf_88 : decode cX2_gainOf 88 = .ok (.lload 6, 2) := by decide +kernel
theorem dX2_gainOf_90 : decode cX2_gainOf 90 = .ok (.lsub, 1) := by decide +kernel
theorem dX2_gainOf_91 : decode cX2_gainOf 91 = .ok (.lreturn, 1) := by decide +kernel
set_option maxRecDepth 20000 in
theorem ggX2_best_X2_isOpen : GoodIn wsX2_best wsX2_isOpen := goodIn_r _ [8, 9, 10, 11, 7, 12, 13, 14, 15, 16, 17, 18, 19, 36, 37, 38, 39, 40, 41, 42, 43, 44, 45] (by decide +kernel) (by decide +kernel)
set_option maxRecDepth 20000 in
theorem gX2_best_X2_isOpen : GoodIn wsX2_best (wsV RX2 63 RX2 yX2_isOpen wsX2_isOpen) := goodIn_app (goodIn_of _ (by decide +kernel)) ggX2_best_X2_isOpen
set_option maxRecDepth 20000 in
theorem ggX2_best_X2_gainOf : GoodIn wsX2_best wsX2_gainOf := goodIn_r _ [23, 24, 25, 26, 27, 28, 29, 30, 31, 32, 7, 33, 34, 1, 35, 13, 36, 37, 38, 39, 40, 41, 42, 43, 44, 45] (by decide +kernel) (by decide +kernel)
set_option maxRecDepth 20000 in
theorem gX2_best_X2_gainOf : GoodIn wsX2_best (wsV RX2 66 RX2 yX2_gainOf wsX2_gainOf) := goodIn_app (goodIn_of _ (by decide +kernel)) ggX2_best_X2_gainOf
theorem dX2_best_0 : decode cX2_best 0 = .ok (.bipush (-9), 2) := by decide +kernel
theorem dX2_best_2 : decode cX2_best 2 = .ok (.istore_n 3, 1) := by decide +kernel
theorem dX2_best_3 : decode cX2_best 3 = .ok (.lconst 0, 1) := by decide +kernel
theorem dX2_best_4 : decode cX2_best 4 = .ok (.lstore 4, 2) := by decide +kernel
theorem dX2_best_6 : decode cX2_best 6 = .ok (.iconst 0, 1) := by decide +kernel
theorem dX2_best_7 : decode cX2_best 7 = .ok (.istore 6, 2) := by decide +kernel
theorem dX2_best_9 : decode cX2_best 9 = .ok (.iload 6, 2) := by decide +kernel
theorem dX2_best_11 : decode cX2_best 11 = .ok (.aload_n 0, 1) := by decide +kernel
theorem dX2_best_12 : decode cX2_best 12 = .ok (.getfield 37, 3) := by decide +kernel
theorem dX2_best_15 : decode cX2_best 15 = .ok (.if_icmp .ge 93, 3) := by decide +kernel
theorem dX2_best_18 : decode cX2_best 18 = .ok (.aload_n 0, 1) := by decide +kernel
theorem dX2_best_19 : decode cX2_best 19 = .ok (.iload 6, 2) := by decide +kernel
theorem dX2_best_21 : decode cX2_best 21 = .ok (.invokevirtual 63, 3) := by decide +kernel
theorem dX2_best_24 : decode cX2_best 24 = .ok (.ifCond .eq 78, 3) := by decide +kernel
theorem dX2_best_27 : decode cX2_best 27 = .ok (.aload_n 0, 1) := by decide +kernel
theorem dX2_best_28 : decode cX2_best 28 = .ok (.getfield 15, 3) := by decide +kernel
theorem dX2_best_31 : decode cX2_best 31 = .ok (.iload 6, 2) := by decide +kernel
theorem dX2_best_33 : decode cX2_best 33 = .ok (.iaload, 1) := by decide +kernel
theorem dX2_best_34 : decode cX2_best 34 = .ok (.iload_n 1, 1) := by decide +kernel
theorem dX2_best_35 : decode cX2_best 35 = .ok (.if_icmp .gt 67, 3) := by decide +kernel
theorem dX2_best_38 : decode cX2_best 38 = .ok (.aload_n 0, 1) := by decide +kernel
theorem dX2_best_39 : decode cX2_best 39 = .ok (.getfield 18, 3) := by decide +kernel
theorem dX2_best_42 : decode cX2_best 42 = .ok (.iload 6, 2) := by decide +kernel
theorem dX2_best_44 : decode cX2_best 44 = .ok (.iaload, 1) := by decide +kernel
theorem dX2_best_45 : decode cX2_best 45 = .ok (.iload_n 2, 1) := by decide +kernel
theorem dX2_best_46 : decode cX2_best 46 = .ok (.if_icmp .gt 56, 3) := by decide +kernel
theorem dX2_best_49 : decode cX2_best 49 = .ok (.aload_n 0, 1) := by decide +kernel
theorem dX2_best_50 : decode cX2_best 50 = .ok (.iload 6, 2) := by decide +kernel
theorem dX2_best_52 : decode cX2_best 52 = .ok (.invokevirtual 66, 3) := by decide +kernel
theorem dX2_best_55 : decode cX2_best 55 = .ok (.lstore 7, 2) := by decide +kernel
theorem dX2_best_57 : decode cX2_best 57 = .ok (.iload_n 3, 1) := by decide +kernel
theorem dX2_best_58 : decode cX2_best 58 = .ok (.bipush (-9), 2) := by decide +kernel
theorem dX2_best_60 : decode cX2_best 60 = .ok (.if_icmp .eq 35, 3) := by decide +kernel
theorem dX2_best_63 : decode cX2_best 63 = .ok (.lload 7, 2) := by decide +kernel
theorem dX2_best_65 : decode cX2_best 65 = .ok (.lload 4, 2) := by decide +kernel
theorem dX2_best_67 : decode cX2_best 67 = .ok (.lcmp, 1) := by decide +kernel
theorem dX2_best_68 : decode cX2_best 68 = .ok (.ifCond .gt 27, 3) := by decide +kernel
theorem dX2_best_71 : decode cX2_best 71 = .ok (.lload 7, 2) := by decide +kernel
theorem dX2_best_73 : decode cX2_best 73 = .ok (.lload 4, 2) := by decide +kernel
theorem dX2_best_75 : decode cX2_best 75 = .ok (.lcmp, 1) := by decide +kernel
theorem dX2_best_76 : decode cX2_best 76 = .ok (.ifCond .ne 26, 3) := by decide +kernel
theorem dX2_best_79 : decode cX2_best 79 = .ok (.aload_n 0, 1) := by decide +kernel
theorem dX2_best_80 : decode cX2_best 80 = .ok (.getfield 15, 3) := by decide +kernel
theorem dX2_best_83 : decode cX2_best 83 = .ok (.iload 6, 2) := by decide +kernel
theorem dX2_best_85 : decode cX2_best 85 = .ok (.iaload, 1) := by decide +kernel
theorem dX2_best_86 : decode cX2_best 86 = .ok (.aload_n 0, 1) := by decide +kernel
theorem dX2_best_87 : decode cX2_best 87 = .ok (.getfield 15, 3) := by decide +kernel
theorem dX2_best_90 : decode cX2_best 90 = .ok (.iload_n 3, 1) := by decide +kernel
theorem dX2_best_91 : decode cX2_best 91 = .ok (.iaload, 1) := by decide +kernel
theorem dX2_best_92 : decode cX2_best 92 = .ok (.if_icmp .ge 10, 3) := by decide +kernel
theorem dX2_best_95 : decode cX2_best 95 = .ok (.iload 6, 2) := by decide +kernel
theorem dX2_best_97 : decode cX2_best 97 = .ok (.istore_n 3, 1) := by decide +kernel
theorem dX2_best_98 : decode cX2_best 98 = .ok (.lload 7, 2) := by decide +kernel
theorem dX2_best_100 : decode cX2_best 100 = .ok (.lstore 4, 2) := by decide +kernel
theorem dX2_best_102 : decode cX2_best 102 = .ok (.iinc 6 1, 3) := by decide +kernel
theorem dX2_best_105 : decode cX2_best 105 = .ok (.goto (-96), 3) := by decide +kernel
theorem dX2_best_108 : decode cX2_best 108 = .ok (.iload_n 3, 1) := by decide +kernel
theorem dX2_best_109 : decode cX2_best 109 = .ok (.ireturn, 1) := by decide +kernel
theorem dX2_mixInto_0 : decode cX2_mixInto 0 = .ok (.iconst 0, 1) := by decide +kernel
theorem dX2_mixInto_1 : decode cX2_mixInto 1 = .ok (.istore_n 3, 1) := by decide +kernel
theorem dX2_mixInto_2 : decode cX2_mixInto 2 = .ok (.iload_n 3, 1) := by decide +kernel
theorem dX2_mixInto_3 : decode cX2_mixInto 3 = .ok (.iconst 4, 1) := by decide +kernel
theorem dX2_mixInto_4 : decode cX2_mixInto 4 = .ok (.if_icmp .ge 23, 3) := by decide +kernel
theorem dX2_mixInto_7 : decode cX2_mixInto 7 = .ok (.ldc2_w 69, 3) := by decide +kernel
theorem dX2_mixInto_10 : decode cX2_mixInto 10 = .ok (.lload_n 1, 1) := by decide +kernel
theorem dX2_mixInto_11 : decode cX2_mixInto 11 = .ok (.lmul, 1) := by decide +kernel
theorem dX2_mixInto_12 : decode cX2_mixInto 12 = .ok (.aload_n 0, 1) := by decide +kernel
theorem dX2_mixInto_13 : decode cX2_mixInto 13 = .ok (.getfield 9, 3) := by decide +kernel
theorem dX2_mixInto_16 : decode cX2_mixInto 16 = .ok (.iload_n 3, 1) := by decide +kernel
theorem dX2_mixInto_17 : decode cX2_mixInto 17 = .ok (.iaload, 1) := by decide +kernel
theorem dX2_mixInto_18 : decode cX2_mixInto 18 = .ok (.i2l, 1) := by decide +kernel
theorem dX2_mixInto_19 : decode cX2_mixInto 19 = .ok (.ladd, 1) := by decide +kernel
theorem dX2_mixInto_20 : decode cX2_mixInto 20 = .ok (.lstore_n 1, 1) := by decide +kernel
theorem dX2_mixInto_21 : decode cX2_mixInto 21 = .ok (.iinc 3 1, 3) := by decide +kernel
theorem dX2_mixInto_24 : decode cX2_mixInto 24 = .ok (.goto (-22), 3) := by decide +kernel
theorem dX2_mixInto_27 : decode cX2_mixInto 27 = .ok (.iconst 0, 1) := by decide +kernel
theorem dX2_mixInto_28 : decode cX2_mixInto 28 = .ok (.istore_n 3, 1) := by decide +kernel
theorem dX2_mixInto_29 : decode cX2_mixInto 29 = .ok (.iload_n 3, 1) := by decide +kernel
theorem dX2_mixInto_30 : decode cX2_mixInto 30 = .ok (.aload_n 0, 1) := by decide +kernel
theorem dX2_mixInto_31 : decode cX2_mixInto 31 = .ok (.getfield 37, 3) := by decide +kernel
theorem dX2_mixInto_34 : decode cX2_mixInto 34 = .ok (.if_icmp .ge 99, 3) := by decide +kernel
theorem dX2_mixInto_37 : decode cX2_mixInto 37 = .ok (.ldc2_w 69, 3) := by decide +kernel
theorem dX2_mixInto_40 : decode cX2_mixInto 40 = .ok (.lload_n 1, 1) := by decide +kernel
theorem dX2_mixInto_41 : decode cX2_mixInto 41 = .ok (.lmul, 1) := by decide +kernel
theorem dX2_mixInto_42 : decode cX2_mixInto 42 = .ok (.aload_n 0, 1) := by decide +kernel
theorem dX2_mixInto_43 : decode cX2_mixInto 43 = .ok (.getfield 15, 3) := by decide +kernel
theorem dX2_mixInto_46 : decode cX2_mixInto 46 = .ok (.iload_n 3, 1) := by decide +kernel
theorem dX2_mixInto_47 : decode cX2_mixInto 47 = .ok (.iaload, 1) := by decide +kernel
theorem dX2_mixInto_48 : decode cX2_mixInto 48 = .ok (.i2l, 1) := by decide +kernel
theorem dX2_mixInto_49 : decode cX2_mixInto 49 = .ok (.ladd, 1) := by decide +kernel
theorem dX2_mixInto_50 : decode cX2_mixInto 50 = .ok (.lstore_n 1, 1) := by decide +kernel
theorem dX2_mixInto_51 : decode cX2_mixInto 51 = .ok (.ldc2_w 69, 3) := by decide +kernel
theorem dX2_mixInto_54 : decode cX2_mixInto 54 = .ok (.lload_n 1, 1) := by decide +kernel
theorem dX2_mixInto_55 : decode cX2_mixInto 55 = .ok (.lmul, 1) := by decide +kernel
theorem dX2_mixInto_56 : decode cX2_mixInto 56 = .ok (.aload_n 0, 1) := by decide +kernel
theorem dX2_mixInto_57 : decode cX2_mixInto 57 = .ok (.getfield 18, 3) := by decide +kernel
theorem dX2_mixInto_60 : decode cX2_mixInto 60 = .ok (.iload_n 3, 1) := by decide +kernel
theorem dX2_mixInto_61 : decode cX2_mixInto 61 = .ok (.iaload, 1) := by decide +kernel
theorem dX2_mixInto_62 : decode cX2_mixInto 62 = .ok (.i2l, 1) := by decide +kernel
theorem dX2_mixInto_63 : decode cX2_mixInto 63 = .ok (.ladd, 1) := by decide +kernel
theorem dX2_mixInto_64 : decode cX2_mixInto 64 = .ok (.lstore_n 1, 1) := by decide +kernel
theorem dX2_mixInto_65 : decode cX2_mixInto 65 = .ok (.ldc2_w 69, 3) := by decide +kernel
theorem dX2_mixInto_68 : decode cX2_mixInto 68 = .ok (.lload_n 1, 1) := by decide +kernel
theorem dX2_mixInto_69 : decode cX2_mixInto 69 = .ok (.lmul, 1) := by decide +kernel
theorem dX2_mixInto_70 : decode cX2_mixInto 70 = .ok (.aload_n 0, 1) := by decide +kernel
theorem dX2_mixInto_71 : decode cX2_mixInto 71 = .ok (.getfield 21, 3) := by decide +kernel
theorem dX2_mixInto_74 : decode cX2_mixInto 74 = .ok (.iload_n 3, 1) := by decide +kernel
theorem dX2_mixInto_75 : decode cX2_mixInto 75 = .ok (.iaload, 1) := by decide +kernel
theorem dX2_mixInto_76 : decode cX2_mixInto 76 = .ok (.i2l, 1) := by decide +kernel
theorem dX2_mixInto_77 : decode cX2_mixInto 77 = .ok (.ladd, 1) := by decide +kernel
theorem dX2_mixInto_78 : decode cX2_mixInto 78 = .ok (.lstore_n 1, 1) := by decide +kernel
theorem dX2_mixInto_79 : decode cX2_mixInto 79 = .ok (.iconst 0, 1) := by decide +kernel
theorem dX2_mixInto_80 : decode cX2_mixInto 80 = .ok (.istore 4, 2) := by decide +kernel
theorem dX2_mixInto_82 : decode cX2_mixInto 82 = .ok (.iload 4, 2) := by decide +kernel
theorem dX2_mixInto_84 : decode cX2_mixInto 84 = .ok (.iconst 4, 1) := by decide +kernel
theorem dX2_mixInto_85 : decode cX2_mixInto 85 = .ok (.if_icmp .ge 28, 3) := by decide +kernel
theorem dX2_mixInto_88 : decode cX2_mixInto 88 = .ok (.ldc2_w 69, 3) := by decide +kernel
theorem dX2_mixInto_91 : decode cX2_mixInto 91 = .ok (.lload_n 1, 1) := by decide +kernel
theorem dX2_mixInto_92 : decode cX2_mixInto 92 = .ok (.lmul, 1) := by decide +kernel
theorem dX2_mixInto_93 : decode cX2_mixInto 93 = .ok (.aload_n 0, 1) := by decide +kernel
theorem dX2_mixInto_94 : decode cX2_mixInto 94 = .ok (.getfield 24, 3) := by decide +kernel
theorem dX2_mixInto_97 : decode cX2_mixInto 97 = .ok (.iload_n 3, 1) := by decide +kernel
theorem dX2_mixInto_98 : decode cX2_mixInto 98 = .ok (.iconst 4, 1) := by decide +kernel
theorem dX2_mixInto_99 : decode cX2_mixInto 99 = .ok (.imul, 1) := by decide +kernel
theorem dX2_mixInto_100 : decode cX2_mixInto 100 = .ok (.iload 4, 2) := by decide +kernel
theorem dX2_mixInto_102 : decode cX2_mixInto 102 = .ok (.iadd, 1) := by decide +kernel
theorem dX2_mixInto_103 : decode cX2_mixInto 103 = .ok (.iaload, 1) := by decide +kernel
theorem dX2_mixInto_104 : decode cX2_mixInto 104 = .ok (.i2l, 1) := by decide +kernel
theorem dX2_mixInto_105 : decode cX2_mixInto 105 = .ok (.ladd, 1) := by decide +kernel
theorem dX2_mixInto_106 : decode cX2_mixInto 106 = .ok (.lstore_n 1, 1) := by decide +kernel
theorem dX2_mixInto_107 : decode cX2_mixInto 107 = .ok (.iinc 4 1, 3) := by decide +kernel
theorem dX2_mixInto_110 : decode cX2_mixInto 110 = .ok (.goto (-28), 3) := by decide +kernel
theorem dX2_mixInto_113 : decode cX2_mixInto 113 = .ok (.ldc2_w 69, 3) := by decide +kernel
theorem dX2_mixInto_116 : decode cX2_mixInto 116 = .ok (.lload_n 1, 1) := by decide +kernel
theorem dX2_mixInto_117 : decode cX2_mixInto 117 = .ok (.lmul, 1) := by decide +kernel
theorem dX2_mixInto_118 : decode cX2_mixInto 118 = .ok (.aload_n 0, 1) := by decide +kernel
theorem dX2_mixInto_119 : decode cX2_mixInto 119 = .ok (.getfield 27, 3) := by decide +kernel
theorem dX2_mixInto_122 : decode cX2_mixInto 122 = .ok (.iload_n 3, 1) := by decide +kernel
theorem dX2_mixInto_123 : decode cX2_mixInto 123 = .ok (.iaload, 1) := by decide +kernel
theorem dX2_mixInto_124 : decode cX2_mixInto 124 = .ok (.i2l, 1) := by decide +kernel
theorem dX2_mixInto_125 : decode cX2_mixInto 125 = .ok (.ladd, 1) := by decide +kernel
theorem dX2_mixInto_126 : decode cX2_mixInto 126 = .ok (.lstore_n 1, 1) := by decide +kernel
theorem dX2_mixInto_127 : decode cX2_mixInto 127 = .ok (.iinc 3 1, 3) := by decide +kernel
theorem dX2_mixInto_130 : decode cX2_mixInto 130 = .ok (.goto (-101), 3) := by decide +kernel
theorem dX2_mixInto_133 : decode cX2_mixInto 133 = .ok (.lload_n 1, 1) := by decide +kernel
theorem dX2_mixInto_134 : decode cX2_mixInto 134 = .ok (.lreturn, 1) := by decide +kernel
end
section
theorem dX3_init_0 : decode cX3_init 0 = .ok (.aload_n 0, 1) := by decide +kernel
theorem dX3_init_1 : decode cX3_init 1 = .ok (.invokespecial 3, 3) := by decide +kernel
theorem dX3_init_4 : decode cX3_init 4 = .ok (.aload_n 0, 1) := by decide +kernel
theorem dX3_init_5 : decode cX3_init 5 = .ok (.bipush 30, 2) := by decide +kernel
theorem dX3_init_7 : decode cX3_init 7 = .ok (.newarray .int, 2) := by decide +kernel
theorem dX3_init_9 : decode cX3_init 9 = .ok (.putfield 9, 3) := by decide +kernel
theorem dX3_init_12 : decode cX3_init 12 = .ok (.aload_n 0, 1) := by decide +kernel
theorem dX3_init_13 : decode cX3_init 13 = .ok (.bipush 30, 2) := by decide +kernel
theorem dX3_init_15 : decode cX3_init 15 = .ok (.newarray .int, 2) := by decide +kernel
theorem dX3_init_17 : decode cX3_init 17 = .ok (.putfield 15, 3) := by decide +kernel
theorem dX3_init_20 : decode cX3_init 20 = .ok (.aload_n 0, 1) := by decide +kernel
theorem dX3_init_21 : decode cX3_init 21 = .ok (.bipush 30, 2) := by decide +kernel
theorem dX3_init_23 : decode cX3_init 23 = .ok (.newarray .int, 2) := by decide +kernel
theorem dX3_init_25 : decode cX3_init 25 = .ok (.putfield 18, 3) := by decide +kernel
theorem dX3_init_28 : decode cX3_init 28 = .ok (.aload_n 0, 1) := by decide +kernel
theorem dX3_init_29 : decode cX3_init 29 = .ok (.bipush 30, 2) := by decide +kernel
theorem dX3_init_31 : decode cX3_init 31 = .ok (.newarray .boolean, 2) := by decide +kernel
theorem dX3_init_33 : decode cX3_init 33 = .ok (.putfield 21, 3) := by decide +kernel
theorem dX3_init_36 : decode cX3_init 36 = .ok (.aload_n 0, 1) := by decide +kernel
theorem dX3_init_37 : decode cX3_init 37 = .ok (.iconst 0, 1) := by decide +kernel
theorem dX3_init_38 : decode cX3_init 38 = .ok (.putfield 25, 3) := by decide +kernel
theorem dX3_init_41 : decode cX3_init 41 = .ok (.aload_n 0, 1) := by decide +kernel
theorem dX3_init_42 : decode cX3_init 42 = .ok (.bipush (-9), 2) := by decide +kernel
theorem dX3_init_44 : decode cX3_init 44 = .ok (.putfield 29, 3) := by decide +kernel
theorem dX3_init_47 : decode cX3_init 47 = .ok (.aload_n 0, 1) := by decide +kernel
theorem dX3_init_48 : decode cX3_init 48 = .ok (.bipush (-9), 2) := by decide +kernel
theorem dX3_init_50 : decode cX3_init 50 = .ok (.putfield 32, 3) := by decide +kernel
theorem dX3_init_53 : decode cX3_init 53 = .ok (.return_, 1) := by decide +kernel
theorem dX3_isFull_0 : decode cX3_isFull 0 = .ok (.aload_n 0, 1) := by decide +kernel
theorem dX3_isFull_1 : decode cX3_isFull 1 = .ok (.getfield 25, 3) := by decide +kernel
theorem dX3_isFull_4 : decode cX3_isFull 4 = .ok (.bipush 30, 2) := by decide +kernel
theorem dX3_isFull_6 : decode cX3_isFull 6 = .ok (.if_icmp .lt 7, 3) := by decide +kernel
theorem dX3_isFull_9 : decode cX3_isFull 9 = .ok (.iconst 1, 1) := by decide +kernel
theorem dX3_isFull_10 : decode cX3_isFull 10 = .ok (.goto 4, 3) := by decide +kernel
theorem dX3_isFull_13 : decode cX3_isFull 13 = .ok (.iconst 0, 1) := by decide +kernel
theorem dX3_isFull_14 : decode cX3_isFull 14 = .ok (.ireturn, 1) := by decide +kernel
theorem dX3_add_0 : decode cX3_add 0 = .ok (.aload_n 0, 1) := by decide +kernel
theorem dX3_add_1 : decode cX3_add 1 = .ok (.getfield 9, 3) := by decide +kernel
theorem dX3_add_4 : decode cX3_add 4 = .ok (.aload_n 0, 1) := by decide +kernel
theorem dX3_add_5 : decode cX3_add 5 = .ok (.getfield 25, 3) := by decide +kernel
theorem dX3_add_8 : decode cX3_add 8 = .ok (.iload_n 1, 1) := by decide +kernel
theorem dX3_add_9 : decode cX3_add 9 = .ok (.iastore, 1) := by decide +kernel
theorem dX3_add_10 : decode cX3_add 10 = .ok (.aload_n 0, 1) := by decide +kernel
theorem dX3_add_11 : decode cX3_add 11 = .ok (.getfield 15, 3) := by decide +kernel
theorem dX3_add_14 : decode cX3_add 14 = .ok (.aload_n 0, 1) := by decide +kernel
theorem dX3_add_15 : decode cX3_add 15 = .ok (.getfield 25, 3) := by decide +kernel
theorem dX3_add_18 : decode cX3_add 18 = .ok (.iload_n 2, 1) := by decide +kernel
theorem dX3_add_19 : decode cX3_add 19 = .ok (.iastore, 1) := by decide +kernel
theorem dX3_add_20 : decode cX3_add 20 = .ok (.aload_n 0, 1) := by decide +kernel
theorem dX3_add_21 : decode cX3_add 21 = .ok (.getfield 18, 3) := by decide +kernel
theorem dX3_add_24 : decode cX3_add 24 = .ok (.aload_n 0, 1) := by decide +kernel
theorem dX3_add_25 : decode cX3_add 25 = .ok (.getfield 25, 3) := by decide +kernel
theorem dX3_add_28 : decode cX3_add 28 = .ok (.iload_n 3, 1) := by decide +kernel
theorem dX3_add_29 : decode cX3_add 29 = .ok (.iastore, 1) := by decide +kernel
theorem dX3_add_30 : decode cX3_add 30 = .ok (.aload_n 0, 1) := by decide +kernel
theorem dX3_add_31 : decode cX3_add 31 = .ok (.getfield 21, 3) := by decide +kernel
theorem dX3_add_34 : decode cX3_add 34 = .ok (.aload_n 0, 1) := by decide +kernel
theorem dX3_add_35 : decode cX3_add 35 = .ok (.getfield 25, 3) := by decide +kernel
theorem dX3_add_38 : decode cX3_add 38 = .ok (.iload 4, 2) := by decide +kernel
theorem dX3_add_40 : decode cX3_add 40 = .ok (.bastore, 1) := by decide +kernel
theorem dX3_add_41 : decode cX3_add 41 = .ok (.aload_n 0, 1) := by decide +kernel
theorem dX3_add_42 : decode cX3_add 42 = .ok (.dup, 1) := by decide +kernel
theorem dX3_add_43 : decode cX3_add 43 = .ok (.getfield 25, 3) := by decide +kernel
theorem dX3_add_46 : decode cX3_add 46 = .ok (.iconst 1, 1) := by decide +kernel
theorem dX3_add_47 : decode cX3_add 47 = .ok (.iadd, 1) := by decide +kernel
theorem dX3_add_48 : decode cX3_add 48 = .ok (.putfield 25, 3) := by decide +kernel
theorem dX3_add_51 : decode cX3_add 51 = .ok (.aload_n 0, 1) := by decide +kernel
theorem dX3_add_52 : decode cX3_add 52 = .ok (.getfield 25, 3) := by decide +kernel
theorem dX3_add_55 : decode cX3_add 55 = .ok (.ireturn, 1) := by decide +kernel
theorem dX3_howMany_0 : decode cX3_howMany 0 = .ok (.iconst 0, 1) := by decide +kernel
theorem dX3_howMany_1 : decode cX3_howMany 1 = .ok (.istore_n 3, 1) := by decide +kernel
theorem dX3_howMany_2 : decode cX3_howMany 2 = .ok (.iconst 0, 1) := by decide +kernel
theorem dX3_howMany_3 : decode cX3_howMany 3 = .ok (.istore 4, 2) := by decide +kernel
theorem dX3_howMany_5 : decode cX3_howMany 5 = .ok (.iload 4, 2) := by decide +kernel
theorem dX3_howMany_7 : decode cX3_howMany 7 = .ok (.aload_n 0, 1) := by decide +kernel
theorem dX3_howMany_8 : decode cX3_howMany 8 = .ok (.getfield 25, 3) := by decide +kernel
theorem dX3_howMany_11 : decode cX3_howMany 11 = .ok (.if_icmp .ge 34, 3) := by decide +kernel
theorem dX3_howMany_14 : decode cX3_howMany 14 = .ok (.aload_n 0, 1) := by decide +kernel
theorem dX3_howMany_15 : decode cX3_howMany 15 = .ok (.getfield 15, 3) := by decide +kernel
theorem dX3_howMany_18 : decode cX3_howMany 18 = .ok (.iload 4, 2) := by decide +kernel
theorem dX3_howMany_20 : decode cX3_howMany 20 = .ok (.iaload, 1) := by decide +kernel
theorem dX3_howMany_21 : decode cX3_howMany 21 = .ok (.iload_n 1, 1) := by decide +kernel
theorem dX3_howMany_22 : decode cX3_howMany 22 = .ok (.if_icmp .ne 17, 3) := by decide +kernel
theorem dX3_howMany_25 : decode cX3_howMany 25 = .ok (.aload_n 0, 1) := by decide +kernel
theorem dX3_howMany_26 : decode cX3_howMany 26 = .ok (.getfield 21, 3) := by decide +kernel
theorem dX3_howMany_29 : decode cX3_howMany 29 = .ok (.iload 4, 2) := by decide +kernel
theorem dX3_howMany_31 : decode cX3_howMany 31 = .ok (.baload, 1) := by decide +kernel
theorem dX3_howMany_32 : decode cX3_howMany 32 = .ok (.iload_n 2, 1) := by decide +kernel
theorem dX3_howMany_33 : decode cX3_howMany 33 = .ok (.if_icmp .ne 6, 3) := by decide +kernel
theorem dX3_howMany_36 : decode cX3_howMany 36 = .ok (.iinc 3 1, 3) := by decide +kernel
theorem dX3_howMany_39 : decode cX3_howMany 39 = .ok (.iinc 4 1, 3) := by decide +kernel
theorem dX3_howMany_42 : decode cX3_howMany 42 = .ok (.goto (-37), 3) := by decide +kernel
theorem dX3_howMany_45 : decode cX3_howMany 45 = .ok (.iload_n 3, 1) := by decide +kernel
theorem dX3_howMany_46 : decode cX3_howMany 46 = .ok (.ireturn, 1) := by decide +kernel
theorem dX3_sumOf_0 : decode cX3_sumOf 0 = .ok (.iconst 0, 1) := by decide +kernel
theorem dX3_sumOf_1 : decode cX3_sumOf 1 = .ok (.istore_n 3, 1) := by decide +kernel
theorem dX3_sumOf_2 : decode cX3_sumOf 2 = .ok (.iconst 0, 1) := by decide +kernel
theorem dX3_sumOf_3 : decode cX3_sumOf 3 = .ok (.istore 4, 2) := by decide +kernel
theorem dX3_sumOf_5 : decode cX3_sumOf 5 = .ok (.iload 4, 2) := by decide +kernel
theorem dX3_sumOf_7 : decode cX3_sumOf 7 = .ok (.aload_n 0, 1) := by decide +kernel
theorem dX3_sumOf_8 : decode cX3_sumOf 8 = .ok (.getfield 25, 3) := by decide +kernel
theorem dX3_sumOf_11 : decode cX3_sumOf 11 = .ok (.if_icmp .ge 41, 3) := by decide +kernel
theorem dX3_sumOf_14 : decode cX3_sumOf 14 = .ok (.aload_n 0, 1) := by decide +kernel
theorem dX3_sumOf_15 : decode cX3_sumOf 15 = .ok (.getfield 15, 3) := by decide +kernel
theorem dX3_sumOf_18 : decode cX3_sumOf 18 = .ok (.iload 4, 2) := by decide +kernel
theorem dX3_sumOf_20 : decode cX3_sumOf 20 = .ok (.iaload, 1) := by decide +kernel
theorem dX3_sumOf_21 : decode cX3_sumOf 21 = .ok (.iload_n 1, 1) := by decide +kernel
theorem dX3_sumOf_22 : decode cX3_sumOf 22 = .ok (.if_icmp .ne 24, 3) := by decide +kernel
theorem dX3_sumOf_25 : decode cX3_sumOf 25 = .ok (.aload_n 0, 1) := by decide +kernel
theorem dX3_sumOf_26 : decode cX3_sumOf 26 = .ok (.getfield 21, 3) := by decide +kernel
theorem dX3_sumOf_29 : decode cX3_sumOf 29 = .ok (.iload 4, 2) := by decide +kernel
theorem dX3_sumOf_31 : decode cX3_sumOf 31 = .ok (.baload, 1) := by decide +kernel
theorem dX3_sumOf_32 : decode cX3_sumOf 32 = .ok (.iload_n 2, 1) := by decide +kernel
theorem dX3_sumOf_33 : decode cX3_sumOf 33 = .ok (.if_icmp .ne 13, 3) := by decide +kernel
theorem dX3_sumOf_36 : decode cX3_sumOf 36 = .ok (.iload_n 3, 1) := by decide +kernel
theorem dX3_sumOf_37 : decode cX3_sumOf 37 = .ok (.aload_n 0, 1) := by decide +kernel
theorem dX3_sumOf_38 : decode cX3_sumOf 38 = .ok (.getfield 18, 3) := by decide +kernel
theorem dX3_sumOf_41 : decode cX3_sumOf 41 = .ok (.iload 4, 2) := by decide +kernel
theorem dX3_sumOf_43 : decode cX3_sumOf 43 = .ok (.iaload, 1) := by decide +kernel
theorem dX3_sumOf_44 : decode cX3_sumOf 44 = .ok (.iadd, 1) := by decide +kernel
theorem dX3_sumOf_45 : decode cX3_sumOf 45 = .ok (.istore_n 3, 1) := by decide +kernel
theorem dX3_sumOf_46 : decode cX3_sumOf 46 = .ok (.iinc 4 1, 3) := by decide +kernel
theorem dX3_sumOf_49 : decode cX3_sumOf 49 = .ok (.goto (-44), 3) := by decide +kernel
theorem dX3_sumOf_52 : decode cX3_sumOf 52 = .ok (.iload_n 3, 1) := by decide +kernel
theorem dX3_sumOf_53 : decode cX3_sumOf 53 = .ok (.ireturn, 1) := by decide +kernel
set_option maxRecDepth 20000 in
theorem ggX3_findSpread_X3_areComparable : GoodIn wsX3_findSpread wsX3_areComparable := goodIn_r _ [14, 15, 4, 16, 21, 22, 23, 24, 25, 26, 27] (by decide +kernel) (by decide +kernel)
set_option maxRecDepth 20000 in
theorem gX3_findSpread_X3_areComparable : GoodIn wsX3_findSpread (wsV RX3 35 RX3 yX3_areComparable wsX3_areComparable) := goodIn_app (goodIn_of _ (by decide +kernel)) ggX3_findSpread_X3_areComparable
set_option maxRecDepth 20000 in
theorem ggX3_findSpread_X3_weighPair : GoodIn wsX3_findSpread wsX3_weighPair := goodIn_r _ [20, 1, 2, 21, 22, 23, 24, 25, 26, 27] (by decide +kernel) (by decide +kernel)
set_option maxRecDepth 20000 in
theorem gX3_findSpread_X3_weighPair : GoodIn wsX3_findSpread (wsV RX3 45 RX3 yX3_weighPair wsX3_weighPair) := goodIn_app (goodIn_of _ (by decide +kernel)) ggX3_findSpread_X3_weighPair
theorem dX3_findSpread_0 : decode cX3_findSpread 0 = .ok (.aload_n 0, 1) := by decide +kernel
theorem dX3_findSpread_1 : decode cX3_findSpread 1 = .ok (.bipush (-9), 2) := by decide +kernel
theorem dX3_findSpread_3 : decode cX3_findSpread 3 = .ok (.putfield 29, 3) := by decide +kernel
theorem dX3_findSpread_6 : decode cX3_findSpread 6 = .ok (.aload_n 0, 1) := by decide +kernel
theorem dX3_findSpread_7 : decode cX3_findSpread 7 = .ok (.bipush (-9), 2) := by decide +kernel
theorem dX3_findSpread_9 : decode cX3_findSpread 9 = .ok (.putfield 32, 3) := by decide +kernel
theorem dX3_findSpread_12 : decode cX3_findSpread 12 = .ok (.iconst 0, 1) := by decide +kernel
theorem dX3_findSpread_13 : decode cX3_findSpread 13 = .ok (.istore_n 1, 1) := by decide +kernel
theorem dX3_findSpread_14 : decode cX3_findSpread 14 = .ok (.iload_n 1, 1) := by decide +kernel
theorem dX3_findSpread_15 : decode cX3_findSpread 15 = .ok (.aload_n 0, 1) := by decide +kernel
theorem dX3_findSpread_16 : decode cX3_findSpread 16 = .ok (.getfield 25, 3) := by decide +kernel
theorem dX3_findSpread_19 : decode cX3_findSpread 19 = .ok (.if_icmp .ge 62, 3) := by decide +kernel
theorem dX3_findSpread_22 : decode cX3_findSpread 22 = .ok (.iload_n 1, 1) := by decide +kernel
theorem dX3_findSpread_23 : decode cX3_findSpread 23 = .ok (.iconst 1, 1) := by decide +kernel
theorem dX3_findSpread_24 : decode cX3_findSpread 24 = .ok (.iadd, 1) := by decide +kernel
theorem dX3_findSpread_25 : decode cX3_findSpread 25 = .ok (.istore_n 2, 1) := by decide +kernel
theorem dX3_findSpread_26 : decode cX3_findSpread 26 = .ok (.iload_n 2, 1) := by decide +kernel
theorem dX3_findSpread_27 : decode cX3_findSpread 27 = .ok (.aload_n 0, 1) := by decide +kernel
theorem dX3_findSpread_28 : decode cX3_findSpread 28 = .ok (.getfield 25, 3) := by decide +kernel
theorem dX3_findSpread_31 : decode cX3_findSpread 31 = .ok (.if_icmp .ge 44, 3) := by decide +kernel
theorem dX3_findSpread_34 : decode cX3_findSpread 34 = .ok (.aload_n 0, 1) := by decide +kernel
theorem dX3_findSpread_35 : decode cX3_findSpread 35 = .ok (.iload_n 1, 1) := by decide +kernel
theorem dX3_findSpread_36 : decode cX3_findSpread 36 = .ok (.iload_n 2, 1) := by decide +kernel
theorem dX3_findSpread_37 : decode cX3_findSpread 37 = .ok (.invokevirtual 35, 3) := by decide +kernel
theorem dX3_findSpread_40 : decode cX3_findSpread 40 = .ok (.ifCond .eq 29, 3) := by decide +kernel
theorem dX3_findSpread_43 : decode cX3_findSpread 43 = .ok (.aload_n 0, 1) := by decide +kernel
theorem dX3_findSpread_44 : decode cX3_findSpread 44 = .ok (.aload_n 0, 1) := by decide +kernel
theorem dX3_findSpread_45 : decode cX3_findSpread 45 = .ok (.getfield 9, 3) := by decide +kernel
theorem dX3_findSpread_48 : decode cX3_findSpread 48 = .ok (.iload_n 1, 1) := by decide +kernel
theorem dX3_findSpread_49 : decode cX3_findSpread 49 = .ok (.iaload, 1) := by decide +kernel
theorem dX3_findSpread_50 : decode cX3_findSpread 50 = .ok (.aload_n 0, 1) := by decide +kernel
theorem dX3_findSpread_51 : decode cX3_findSpread 51 = .ok (.getfield 18, 3) := by decide +kernel
theorem dX3_findSpread_54 : decode cX3_findSpread 54 = .ok (.iload_n 1, 1) := by decide +kernel
theorem dX3_findSpread_55 : decode cX3_findSpread 55 = .ok (.iaload, 1) := by decide +kernel
theorem dX3_findSpread_56 : decode cX3_findSpread 56 = .ok (.aload_n 0, 1) := by decide +kernel
theorem dX3_findSpread_57 : decode cX3_findSpread 57 = .ok (.getfield 18, 3) := by decide +kernel
theorem dX3_findSpread_60 : decode cX3_findSpread 60 = .ok (.iload_n 2, 1) := by decide +kernel
theorem dX3_findSpread_61 : decode cX3_findSpread 61 = .ok (.iaload, 1) := by decide +kernel
theorem dX3_findSpread_62 : decode cX3_findSpread 62 = .ok (.isub, 1) := by decide +kernel
theorem dX3_findSpread_63 : decode cX3_findSpread 63 = .ok (.invokestatic 39, 3) := by decide +kernel
theorem dX3_findSpread_66 : decode cX3_findSpread 66 = .ok (.invokevirtual 45, 3) := by decide +kernel
theorem dX3_findSpread_69 : decode cX3_findSpread 69 = .ok (.iinc 2 1, 3) := by decide +kernel
theorem dX3_findSpread_72 : decode cX3_findSpread 72 = .ok (.goto (-46), 3) := by decide +kernel
theorem dX3_findSpread_75 : decode cX3_findSpread 75 = .ok (.iinc 1 1, 3) := by decide +kernel
theorem dX3_findSpread_78 : decode cX3_findSpread 78 = .ok (.goto (-64), 3) := by decide +kernel
theorem dX3_findSpread_81 : decode cX3_findSpread 81 = .ok (.return_, 1) := by decide +kernel
theorem dX3_areComparable_0 : decode cX3_areComparable 0 = .ok (.aload_n 0, 1) := by decide +kernel
theorem dX3_areComparable_1 : decode cX3_areComparable 1 = .ok (.getfield 21, 3) := by decide +kernel
theorem dX3_areComparable_4 : decode cX3_areComparable 4 = .ok (.iload_n 1, 1) := by decide +kernel
theorem dX3_areComparable_5 : decode cX3_areComparable 5 = .ok (.baload, 1) := by decide +kernel
theorem dX3_areComparable_6 : decode cX3_areComparable 6 = .ok (.ifCond .ne 46, 3) := by decide +kernel
theorem dX3_areComparable_9 : decode cX3_areComparable 9 = .ok (.aload_n 0, 1) := by decide +kernel
theorem dX3_areComparable_10 : decode cX3_areComparable 10 = .ok (.getfield 21, 3) := by decide +kernel
theorem dX3_areComparable_13 : decode cX3_areComparable 13 = .ok (.iload_n 2, 1) := by decide +kernel
theorem dX3_areComparable_14 : decode cX3_areComparable 14 = .ok (.baload, 1) := by decide +kernel
theorem dX3_areComparable_15 : decode cX3_areComparable 15 = .ok (.ifCond .ne 37, 3) := by decide +kernel
theorem dX3_areComparable_18 : decode cX3_areComparable 18 = .ok (.aload_n 0, 1) := by decide +kernel
theorem dX3_areComparable_19 : decode cX3_areComparable 19 = .ok (.getfield 9, 3) := by decide +kernel
theorem dX3_areComparable_22 : decode cX3_areComparable 22 = .ok (.iload_n 1, 1) := by decide +kernel
theorem dX3_areComparable_23 : decode cX3_areComparable 23 = .ok (.iaload, 1) := by decide +kernel
theorem dX3_areComparable_24 : decode cX3_areComparable 24 = .ok (.aload_n 0, 1) := by decide +kernel
theorem dX3_areComparable_25 : decode cX3_areComparable 25 = .ok (.getfield 9, 3) := by decide +kernel
theorem dX3_areComparable_28 : decode cX3_areComparable 28 = .ok (.iload_n 2, 1) := by decide +kernel
theorem dX3_areComparable_29 : decode cX3_areComparable 29 = .ok (.iaload, 1) := by decide +kernel
theorem dX3_areComparable_30 : decode cX3_areComparable 30 = .ok (.if_icmp .ne 22, 3) := by decide +kernel
theorem dX3_areComparable_33 : decode cX3_areComparable 33 = .ok (.aload_n 0, 1) := by decide +kernel
theorem dX3_areComparable_34 : decode cX3_areComparable 34 = .ok (.getfield 15, 3) := by decide +kernel
theorem dX3_areComparable_37 : decode cX3_areComparable 37 = .ok (.iload_n 1, 1) := by decide +kernel
theorem dX3_areComparable_38 : decode cX3_areComparable 38 = .ok (.iaload, 1) := by decide +kernel
theorem dX3_areComparable_39 : decode cX3_areComparable 39 = .ok (.aload_n 0, 1) := by decide +kernel
theorem dX3_areComparable_40 : decode cX3_areComparable 40 = .ok (.getfield 15, 3) := by decide +kernel
theorem dX3_areComparable_43 : decode cX3_areComparable 43 = .ok (.iload_n 2, 1) := by decide +kernel
theorem dX3_areComparable_44 : decode cX3_areComparable 44 = .ok (.iaload, 1) := by decide +kernel
theorem dX3_areComparable_45 : decode cX3_areComparable 45 = .ok (.if_icmp .ne 7, 3) := by decide +kernel
theorem dX3_areComparable_48 : decode cX3_areComparable 48 = .ok (.iconst 1, 1) := by decide +kernel
theorem dX3_areComparable_49 : decode cX3_areComparable 49 = .ok (.goto 4, 3) := by decide +kernel
theorem dX3_areComparable_52 : decode cX3_areComparable 52 = .ok (.iconst 0, 1) := by decide +kernel
theorem dX3_areComparable_53 : decode cX3_areComparable 53 = .ok (.ireturn, 1) := by decide +kernel
theorem dX3_weighPair_0 : decode cX3_weighPair 0 = .ok (.iload_n 2, 1) := by decide +kernel
theorem dX3_weighPair_1 : decode cX3_weighPair 1 = .ok (.aload_n 0, 1) := by decide +kernel
theorem dX3_weighPair_2 : decode cX3_weighPair 2 = .ok (.getfield 29, 3) := by decide +kernel
theorem dX3_weighPair_5 : decode cX3_weighPair 5 = .ok (.if_icmp .gt 19, 3) := by decide +kernel
theorem dX3_weighPair_8 : decode cX3_weighPair 8 = .ok (.iload_n 2, 1) := by decide +kernel
theorem dX3_weighPair_9 : decode cX3_weighPair 9 = .ok (.aload_n 0, 1) := by decide +kernel
theorem dX3_weighPair_10 : decode cX3_weighPair 10 = .ok (.getfield 29, 3) := by decide +kernel
theorem dX3_weighPair_13 : decode cX3_weighPair 13 = .ok (.if_icmp .ne 21, 3) := by decide +kernel
theorem dX3_weighPair_16 : decode cX3_weighPair 16 = .ok (.iload_n 1, 1) := by decide +kernel
theorem dX3_weighPair_17 : decode cX3_weighPair 17 = .ok (.aload_n 0, 1) := by decide +kernel
theorem dX3_weighPair_18 : decode cX3_weighPair 18 = .ok (.getfield 32, 3) := by decide +kernel
theorem dX3_weighPair_21 : decode cX3_weighPair 21 = .ok (.if_icmp .ge 13, 3) := by decide +kernel
theorem dX3_weighPair_24 : decode cX3_weighPair 24 = .ok (.aload_n 0, 1) := by decide +kernel
theorem dX3_weighPair_25 : decode cX3_weighPair 25 = .ok (.iload_n 2, 1) := by decide +kernel
theorem dX3_weighPair_26 : decode cX3_weighPair 26 = .ok (.putfield 29, 3) := by decide +kernel
theorem dX3_weighPair_29 : decode cX3_weighPair 29 = .ok (.aload_n 0, 1) := by decide +kernel
theorem dX3_weighPair_30 : decode cX3_weighPair 30 = .ok (.iload_n 1, 1) := by decide +kernel
theorem dX3_weighPair_31 : decode cX3_weighPair 31 = .ok (.putfield 32, 3) := by decide +kernel
theorem dX3_weighPair_34 : decode cX3_weighPair 34 = .ok (.return_, 1) := by decide +kernel
end
section
theorem dX4_init_0 : decode cX4_init 0 = .ok (.aload_n 0, 1) := by decide +kernel
theorem dX4_init_1 : decode cX4_init 1 = .ok (.invokespecial 3, 3) := by decide +kernel
theorem dX4_init_4 : decode cX4_init 4 = .ok (.aload_n 0, 1) := by decide +kernel
theorem dX4_init_5 : decode cX4_init 5 = .ok (.bipush 20, 2) := by decide +kernel
theorem dX4_init_7 : decode cX4_init 7 = .ok (.newarray .int, 2) := by decide +kernel
theorem dX4_init_9 : decode cX4_init 9 = .ok (.putfield 9, 3) := by decide +kernel
theorem dX4_init_12 : decode cX4_init 12 = .ok (.aload_n 0, 1) := by decide +kernel
theorem dX4_init_13 : decode cX4_init 13 = .ok (.bipush 20, 2) := by decide +kernel
theorem dX4_init_15 : decode cX4_init 15 = .ok (.newarray .int, 2) := by decide +kernel
theorem dX4_init_17 : decode cX4_init 17 = .ok (.putfield 15, 3) := by decide +kernel
theorem dX4_init_20 : decode cX4_init 20 = .ok (.aload_n 0, 1) := by decide +kernel
theorem dX4_init_21 : decode cX4_init 21 = .ok (.iconst 0, 1) := by decide +kernel
theorem dX4_init_22 : decode cX4_init 22 = .ok (.putfield 18, 3) := by decide +kernel
theorem dX4_init_25 : decode cX4_init 25 = .ok (.aload_n 0, 1) := by decide +kernel
theorem dX4_init_26 : decode cX4_init 26 = .ok (.iconst 0, 1) := by decide +kernel
theorem dX4_init_27 : decode cX4_init 27 = .ok (.putfield 22, 3) := by decide +kernel
theorem dX4_init_30 : decode cX4_init 30 = .ok (.aload_n 0, 1) := by decide +kernel
theorem dX4_init_31 : decode cX4_init 31 = .ok (.iconst 0, 1) := by decide +kernel
theorem dX4_init_32 : decode cX4_init 32 = .ok (.putfield 25, 3) := by decide +kernel
theorem dX4_init_35 : decode cX4_init 35 = .ok (.return_, 1) := by decide +kernel
theorem dX4_isFull_0 : decode cX4_isFull 0 = .ok (.aload_n 0, 1) := by decide +kernel
theorem dX4_isFull_1 : decode cX4_isFull 1 = .ok (.getfield 18, 3) := by decide +kernel
theorem dX4_isFull_4 : decode cX4_isFull 4 = .ok (.bipush 20, 2) := by decide +kernel
theorem dX4_isFull_6 : decode cX4_isFull 6 = .ok (.if_icmp .lt 7, 3) := by decide +kernel
theorem dX4_isFull_9 : decode cX4_isFull 9 = .ok (.iconst 1, 1) := by decide +kernel
theorem dX4_isFull_10 : decode cX4_isFull 10 = .ok (.goto 4, 3) := by decide +kernel
theorem dX4_isFull_13 : decode cX4_isFull 13 = .ok (.iconst 0, 1) := by decide +kernel
theorem dX4_isFull_14 : decode cX4_isFull 14 = .ok (.ireturn, 1) := by decide +kernel
theorem dX4_add_0 : decode cX4_add 0 = .ok (.aload_n 0, 1) := by decide +kernel
theorem dX4_add_1 : decode cX4_add 1 = .ok (.getfield 18, 3) := by decide +kernel
theorem dX4_add_4 : decode cX4_add 4 = .ok (.istore_n 3, 1) := by decide +kernel
theorem dX4_add_5 : decode cX4_add 5 = .ok (.iload_n 3, 1) := by decide +kernel
theorem dX4_add_6 : decode cX4_add 6 = .ok (.ifCond .le 49, 3) := by decide +kernel
theorem dX4_add_9 : decode cX4_add 9 = .ok (.aload_n 0, 1) := by decide +kernel
theorem dX4_add_10 : decode cX4_add 10 = .ok (.getfield 9, 3) := by decide +kernel
theorem dX4_add_13 : decode cX4_add 13 = .ok (.iload_n 3, 1) := by decide +kernel
theorem dX4_add_14 : decode cX4_add 14 = .ok (.iconst 1, 1) := by decide +kernel
theorem dX4_add_15 : decode cX4_add 15 = .ok (.isub, 1) := by decide +kernel
theorem dX4_add_16 : decode cX4_add 16 = .ok (.iaload, 1) := by decide +kernel
theorem dX4_add_17 : decode cX4_add 17 = .ok (.iload_n 1, 1) := by decide +kernel
theorem dX4_add_18 : decode cX4_add 18 = .ok (.if_icmp .le 37, 3) := by decide +kernel
theorem dX4_add_21 : decode cX4_add 21 = .ok (.aload_n 0, 1) := by decide +kernel
theorem dX4_add_22 : decode cX4_add 22 = .ok (.getfield 9, 3) := by decide +kernel
theorem dX4_add_25 : decode cX4_add 25 = .ok (.iload_n 3, 1) := by decide +kernel
theorem dX4_add_26 : decode cX4_add 26 = .ok (.aload_n 0, 1) := by decide +kernel
theorem dX4_add_27 : decode cX4_add 27 = .ok (.getfield 9, 3) := by decide +kernel
theorem dX4_add_30 : decode cX4_add 30 = .ok (.iload_n 3, 1) := by decide +kernel
theorem dX4_add_31 : decode cX4_add 31 = .ok (.iconst 1, 1) := by decide +kernel
theorem dX4_add_32 : decode cX4_add 32 = .ok (.isub, 1) := by decide +kernel
theorem dX4_add_33 : decode cX4_add 33 = .ok (.iaload, 1) := by decide +kernel
theorem dX4_add_34 : decode cX4_add 34 = .ok (.iastore, 1) := by decide +kernel
theorem dX4_add_35 : decode cX4_add 35 = .ok (.aload_n 0, 1) := by decide +kernel
theorem dX4_add_36 : decode cX4_add 36 = .ok (.getfield 15, 3) := by decide +kernel
theorem dX4_add_39 : decode cX4_add 39 = .ok (.iload_n 3, 1) := by decide +kernel
theorem dX4_add_40 : decode cX4_add 40 = .ok (.aload_n 0, 1) := by decide +kernel
theorem dX4_add_41 : decode cX4_add 41 = .ok (.getfield 15, 3) := by decide +kernel
theorem dX4_add_44 : decode cX4_add 44 = .ok (.iload_n 3, 1) := by decide +kernel
theorem dX4_add_45 : decode cX4_add 45 = .ok (.iconst 1, 1) := by decide +kernel
theorem dX4_add_46 : decode cX4_add 46 = .ok (.isub, 1) := by decide +kernel
theorem dX4_add_47 : decode cX4_add 47 = .ok (.iaload, 1) := by decide +kernel
theorem dX4_add_48 : decode cX4_add 48 = .ok (.iastore, 1) := by decide +kernel
theorem dX4_add_49 : decode cX4_add 49 = .ok (.iinc 3 (-1), 3) := by decide +kernel
theorem dX4_add_52 : decode cX4_add 52 = .ok (.goto (-47), 3) := by decide +kernel
theorem dX4_add_55 : decode cX4_add 55 = .ok (.aload_n 0, 1) := by decide +kernel
theorem dX4_add_56 : decode cX4_add 56 = .ok (.getfield 9, 3) := by decide +kernel
theorem dX4_add_59 : decode cX4_add 59 = .ok (.iload_n 3, 1) := by decide +kernel
theorem dX4_add_60 : decode cX4_add 60 = .ok (.iload_n 1, 1) := by decide +kernel
theorem dX4_add_61 : decode cX4_add 61 = .ok (.iastore, 1) := by decide +kernel
theorem dX4_add_62 : decode cX4_add 62 = .ok (.aload_n 0, 1) := by decide +kernel
theorem dX4_add_63 : decode cX4_add 63 = .ok (.getfield 15, 3) := by decide +kernel
theorem dX4_add_66 : decode cX4_add 66 = .ok (.iload_n 3, 1) := by decide +kernel
theorem dX4_add_67 : decode cX4_add 67 = .ok (.iload_n 2, 1) := by decide +kernel
theorem dX4_add_68 : decode cX4_add 68 = .ok (.iastore, 1) := by decide +kernel
theorem dX4_add_69 : decode cX4_add 69 = .ok (.aload_n 0, 1) := by decide +kernel
theorem dX4_add_70 : decode cX4_add 70 = .ok (.dup, 1) := by decide +kernel
theorem dX4_add_71 : decode cX4_add 71 = .ok (.getfield 18, 3) := by decide +kernel
theorem dX4_add_74 : decode cX4_add 74 = .ok (.iconst 1, 1) := by decide +kernel
theorem dX4_add_75 : decode cX4_add 75 = .ok (.iadd, 1) := by decide +kernel
theorem dX4_add_76 : decode cX4_add 76 = .ok (.putfield 18, 3) := by decide +kernel
theorem dX4_add_79 : decode cX4_add 79 = .ok (.aload_n 0, 1) := by decide +kernel
theorem dX4_add_80 : decode cX4_add 80 = .ok (.getfield 18, 3) := by decide +kernel
theorem dX4_add_83 : decode cX4_add 83 = .ok (.ireturn, 1) := by decide +kernel
set_option maxRecDepth 20000 in
theorem ggX4_findGaps_X4_addGap : GoodIn wsX4_findGaps wsX4_addGap := goodIn_r _ [17, 1, 2, 10, 11, 7, 12, 18, 19, 20, 21, 22] (by decide +kernel) (by decide +kernel)
set_option maxRecDepth 20000 in
theorem gX4_findGaps_X4_addGap : GoodIn wsX4_findGaps (wsV RX4 34 RX4 yX4_addGap wsX4_addGap) := goodIn_app (goodIn_of _ (by decide +kernel)) ggX4_findGaps_X4_addGap
theorem dX4_findGaps_0 : decode cX4_findGaps 0 = .ok (.aload_n 0, 1) := by decide +kernel
theorem dX4_findGaps_1 : decode cX4_findGaps 1 = .ok (.iconst 0, 1) := by decide +kernel
theorem dX4_findGaps_2 : decode cX4_findGaps 2 = .ok (.putfield 22, 3) := by decide +kernel
theorem dX4_findGaps_5 : decode cX4_findGaps 5 = .ok (.aload_n 0, 1) := by decide +kernel
theorem dX4_findGaps_6 : decode cX4_findGaps 6 = .ok (.iconst 0, 1) := by decide +kernel
theorem dX4_findGaps_7 : decode cX4_findGaps 7 = .ok (.putfield 25, 3) := by decide +kernel
theorem dX4_findGaps_10 : decode cX4_findGaps 10 = .ok (.iload_n 1, 1) := by decide +kernel
theorem dX4_findGaps_11 : decode cX4_findGaps 11 = .ok (.istore_n 3, 1) := by decide +kernel
theorem dX4_findGaps_12 : decode cX4_findGaps 12 = .ok (.iconst 0, 1) := by decide +kernel
theorem dX4_findGaps_13 : decode cX4_findGaps 13 = .ok (.istore 4, 2) := by decide +kernel
theorem dX4_findGaps_15 : decode cX4_findGaps 15 = .ok (.iload 4, 2) := by decide +kernel
theorem dX4_findGaps_17 : decode cX4_findGaps 17 = .ok (.aload_n 0, 1) := by decide +kernel
theorem dX4_findGaps_18 : decode cX4_findGaps 18 = .ok (.getfield 18, 3) := by decide +kernel
theorem dX4_findGaps_21 : decode cX4_findGaps 21 = .ok (.if_icmp .ge 42, 3) := by decide +kernel
theorem dX4_findGaps_24 : decode cX4_findGaps 24 = .ok (.aload_n 0, 1) := by decide +kernel
theorem dX4_findGaps_25 : decode cX4_findGaps 25 = .ok (.aload_n 0, 1) := by decide +kernel
theorem dX4_findGaps_26 : decode cX4_findGaps 26 = .ok (.getfield 9, 3) := by decide +kernel
theorem dX4_findGaps_29 : decode cX4_findGaps 29 = .ok (.iload 4, 2) := by decide +kernel
theorem dX4_findGaps_31 : decode cX4_findGaps 31 = .ok (.iaload, 1) := by decide +kernel
theorem dX4_findGaps_32 : decode cX4_findGaps 32 = .ok (.iload_n 2, 1) := by decide +kernel
theorem dX4_findGaps_33 : decode cX4_findGaps 33 = .ok (.iconst 1, 1) := by decide +kernel
theorem dX4_findGaps_34 : decode cX4_findGaps 34 = .ok (.iadd, 1) := by decide +kernel
theorem dX4_findGaps_35 : decode cX4_findGaps 35 = .ok (.invokestatic 28, 3) := by decide +kernel
theorem dX4_findGaps_38 : decode cX4_findGaps 38 = .ok (.iload_n 3, 1) := by decide +kernel
theorem dX4_findGaps_39 : decode cX4_findGaps 39 = .ok (.isub, 1) := by decide +kernel
theorem dX4_findGaps_40 : decode cX4_findGaps 40 = .ok (.invokevirtual 34, 3) := by decide +kernel
theorem dX4_findGaps_43 : decode cX4_findGaps 43 = .ok (.iload_n 3, 1) := by decide +kernel
theorem dX4_findGaps_44 : decode cX4_findGaps 44 = .ok (.aload_n 0, 1) := by decide +kernel
theorem dX4_findGaps_45 : decode cX4_findGaps 45 = .ok (.getfield 15, 3) := by decide +kernel
theorem dX4_findGaps_48 : decode cX4_findGaps 48 = .ok (.iload 4, 2) := by decide +kernel
theorem dX4_findGaps_50 : decode cX4_findGaps 50 = .ok (.iaload, 1) := by decide +kernel
theorem dX4_findGaps_51 : decode cX4_findGaps 51 = .ok (.iconst 1, 1) := by decide +kernel
theorem dX4_findGaps_52 : decode cX4_findGaps 52 = .ok (.iadd, 1) := by decide +kernel
theorem dX4_findGaps_53 : decode cX4_findGaps 53 = .ok (.invokestatic 38, 3) := by decide +kernel
theorem dX4_findGaps_56 : decode cX4_findGaps 56 = .ok (.istore_n 3, 1) := by decide +kernel
theorem dX4_findGaps_57 : decode cX4_findGaps 57 = .ok (.iinc 4 1, 3) := by decide +kernel
theorem dX4_findGaps_60 : decode cX4_findGaps 60 = .ok (.goto (-45), 3) := by decide +kernel
theorem dX4_findGaps_63 : decode cX4_findGaps 63 = .ok (.aload_n 0, 1) := by decide +kernel
theorem dX4_findGaps_64 : decode cX4_findGaps 64 = .ok (.iload_n 2, 1) := by decide +kernel
theorem dX4_findGaps_65 : decode cX4_findGaps 65 = .ok (.iconst 1, 1) := by decide +kernel
theorem dX4_findGaps_66 : decode cX4_findGaps 66 = .ok (.iadd, 1) := by decide +kernel
theorem dX4_findGaps_67 : decode cX4_findGaps 67 = .ok (.iload_n 3, 1) := by decide +kernel
theorem dX4_findGaps_68 : decode cX4_findGaps 68 = .ok (.isub, 1) := by decide +kernel
theorem dX4_findGaps_69 : decode cX4_findGaps 69 = .ok (.invokevirtual 34, 3) := by decide +kernel
theorem dX4_findGaps_72 : decode cX4_findGaps 72 = .ok (.return_, 1) := by decide +kernel
theorem dX4_addGap_0 : decode cX4_addGap 0 = .ok (.iload_n 1, 1) := by decide +kernel
theorem dX4_addGap_1 : decode cX4_addGap 1 = .ok (.ifCond .le 25, 3) := by decide +kernel
theorem dX4_addGap_4 : decode cX4_addGap 4 = .ok (.aload_n 0, 1) := by decide +kernel
theorem dX4_addGap_5 : decode cX4_addGap 5 = .ok (.dup, 1) := by decide +kernel
theorem dX4_addGap_6 : decode cX4_addGap 6 = .ok (.getfield 22, 3) := by decide +kernel
theorem dX4_addGap_9 : decode cX4_addGap 9 = .ok (.iload_n 1, 1) := by decide +kernel
theorem dX4_addGap_10 : decode cX4_addGap 10 = .ok (.iadd, 1) := by decide +kernel
theorem dX4_addGap_11 : decode cX4_addGap 11 = .ok (.putfield 22, 3) := by decide +kernel
theorem dX4_addGap_14 : decode cX4_addGap 14 = .ok (.aload_n 0, 1) := by decide +kernel
theorem dX4_addGap_15 : decode cX4_addGap 15 = .ok (.aload_n 0, 1) := by decide +kernel
theorem dX4_addGap_16 : decode cX4_addGap 16 = .ok (.getfield 25, 3) := by decide +kernel
theorem dX4_addGap_19 : decode cX4_addGap 19 = .ok (.iload_n 1, 1) := by decide +kernel
theorem dX4_addGap_20 : decode cX4_addGap 20 = .ok (.invokestatic 38, 3) := by decide +kernel
theorem dX4_addGap_23 : decode cX4_addGap 23 = .ok (.putfield 25, 3) := by decide +kernel
theorem dX4_addGap_26 : decode cX4_addGap 26 = .ok (.return_, 1) := by decide +kernel
end
section
set_option maxRecDepth 20000 in
theorem ggX5_init_X6_init : GoodIn wsX5_init wsX6_init := goodIn_r _ [25, 26, 2, 3, 8, 27, 28, 29, 30, 31] (by decide +kernel) (by decide +kernel)
set_option maxRecDepth 20000 in
theorem gX5_init_X6_init : GoodIn wsX5_init (wsX6_init) := ggX5_init_X6_init
theorem dX5_init_0 : decode cX5_init 0 = .ok (.aload_n 0, 1) := by decide +kernel
theorem dX5_init_1 : decode cX5_init 1 = .ok (.invokespecial 3, 3) := by decide +kernel
theorem dX5_init_4 : decode cX5_init 4 = .ok (.aload_n 0, 1) := by decide +kernel
theorem dX5_init_5 : decode cX5_init 5 = .ok (.new 9, 3) := by decide +kernel
theorem dX5_init_8 : decode cX5_init 8 = .ok (.dup, 1) := by decide +kernel
theorem dX5_init_9 : decode cX5_init 9 = .ok (.invokespecial 11, 3) := by decide +kernel
theorem dX5_init_12 : decode cX5_init 12 = .ok (.putfield 12, 3) := by decide +kernel
theorem dX5_init_15 : decode cX5_init 15 = .ok (.aload_n 0, 1) := by decide +kernel
theorem dX5_init_16 : decode cX5_init 16 = .ok (.bipush 10, 2) := by decide +kernel
theorem dX5_init_18 : decode cX5_init 18 = .ok (.newarray .int, 2) := by decide +kernel
theorem dX5_init_20 : decode cX5_init 20 = .ok (.putfield 18, 3) := by decide +kernel
theorem dX5_init_23 : decode cX5_init 23 = .ok (.aload_n 0, 1) := by decide +kernel
theorem dX5_init_24 : decode cX5_init 24 = .ok (.bipush 24, 2) := by decide +kernel
theorem dX5_init_26 : decode cX5_init 26 = .ok (.newarray .int, 2) := by decide +kernel
theorem dX5_init_28 : decode cX5_init 28 = .ok (.putfield 22, 3) := by decide +kernel
theorem dX5_init_31 : decode cX5_init 31 = .ok (.aload_n 0, 1) := by decide +kernel
theorem dX5_init_32 : decode cX5_init 32 = .ok (.bipush 24, 2) := by decide +kernel
theorem dX5_init_34 : decode cX5_init 34 = .ok (.newarray .int, 2) := by decide +kernel
theorem dX5_init_36 : decode cX5_init 36 = .ok (.putfield 25, 3) := by decide +kernel
theorem dX5_init_39 : decode cX5_init 39 = .ok (.aload_n 0, 1) := by decide +kernel
theorem dX5_init_40 : decode cX5_init 40 = .ok (.bipush 24, 2) := by decide +kernel
theorem dX5_init_42 : decode cX5_init 42 = .ok (.newarray .int, 2) := by decide +kernel
theorem dX5_init_44 : decode cX5_init 44 = .ok (.putfield 28, 3) := by decide +kernel
theorem dX5_init_47 : decode cX5_init 47 = .ok (.aload_n 0, 1) := by decide +kernel
theorem dX5_init_48 : decode cX5_init 48 = .ok (.bipush 24, 2) := by decide +kernel
theorem dX5_init_50 : decode cX5_init 50 = .ok (.newarray .int, 2) := by decide +kernel
theorem dX5_init_52 : decode cX5_init 52 = .ok (.putfield 31, 3) := by decide +kernel
theorem dX5_init_55 : decode cX5_init 55 = .ok (.aload_n 0, 1) := by decide +kernel
theorem dX5_init_56 : decode cX5_init 56 = .ok (.bipush 24, 2) := by decide +kernel
theorem dX5_init_58 : decode cX5_init 58 = .ok (.newarray .int, 2) := by decide +kernel
theorem dX5_init_60 : decode cX5_init 60 = .ok (.putfield 34, 3) := by decide +kernel
theorem dX5_init_63 : decode cX5_init 63 = .ok (.aload_n 0, 1) := by decide +kernel
theorem dX5_init_64 : decode cX5_init 64 = .ok (.bipush 24, 2) := by decide +kernel
theorem dX5_init_66 : decode cX5_init 66 = .ok (.newarray .int, 2) := by decide +kernel
theorem dX5_init_68 : decode cX5_init 68 = .ok (.putfield 37, 3) := by decide +kernel
theorem dX5_init_71 : decode cX5_init 71 = .ok (.aload_n 0, 1) := by decide +kernel
theorem dX5_init_72 : decode cX5_init 72 = .ok (.bipush 24, 2) := by decide +kernel
theorem dX5_init_74 : decode cX5_init 74 = .ok (.newarray .int, 2) := by decide +kernel
theorem dX5_init_76 : decode cX5_init 76 = .ok (.putfield 40, 3) := by decide +kernel
theorem dX5_init_79 : decode cX5_init 79 = .ok (.aload_n 0, 1) := by decide +kernel
theorem dX5_init_80 : decode cX5_init 80 = .ok (.bipush 24, 2) := by decide +kernel
theorem dX5_init_82 : decode cX5_init 82 = .ok (.newarray .int, 2) := by decide +kernel
theorem dX5_init_84 : decode cX5_init 84 = .ok (.putfield 43, 3) := by decide +kernel
theorem dX5_init_87 : decode cX5_init 87 = .ok (.aload_n 0, 1) := by decide +kernel
theorem dX5_init_88 : decode cX5_init 88 = .ok (.bipush 8, 2) := by decide +kernel
theorem dX5_init_90 : decode cX5_init 90 = .ok (.putfield 46, 3) := by decide +kernel
theorem dX5_init_93 : decode cX5_init 93 = .ok (.aload_n 0, 1) := by decide +kernel
theorem dX5_init_94 : decode cX5_init 94 = .ok (.bipush 24, 2) := by decide +kernel
theorem dX5_init_96 : decode cX5_init 96 = .ok (.putfield 50, 3) := by decide +kernel
theorem dX5_init_99 : decode cX5_init 99 = .ok (.aload_n 0, 1) := by decide +kernel
theorem dX5_init_100 : decode cX5_init 100 = .ok (.bipush 10, 2) := by decide +kernel
theorem dX5_init_102 : decode cX5_init 102 = .ok (.putfield 53, 3) := by decide +kernel
theorem dX5_init_105 : decode cX5_init 105 = .ok (.aload_n 0, 1) := by decide +kernel
theorem dX5_init_106 : decode cX5_init 106 = .ok (.iconst 0, 1) := by decide +kernel
theorem dX5_init_107 : decode cX5_init 107 = .ok (.putfield 56, 3) := by decide +kernel
theorem dX5_init_110 : decode cX5_init 110 = .ok (.aload_n 0, 1) := by decide +kernel
theorem dX5_init_111 : decode cX5_init 111 = .ok (.iconst 0, 1) := by decide +kernel
theorem dX5_init_112 : decode cX5_init 112 = .ok (.putfield 59, 3) := by decide +kernel
theorem dX5_init_115 : decode cX5_init 115 = .ok (.iconst 0, 1) := by decide +kernel
theorem dX5_init_116 : decode cX5_init 116 = .ok (.istore_n 1, 1) := by decide +kernel
theorem dX5_init_117 : decode cX5_init 117 = .ok (.iload_n 1, 1) := by decide +kernel
theorem dX5_init_118 : decode cX5_init 118 = .ok (.bipush 10, 2) := by decide +kernel
theorem dX5_init_120 : decode cX5_init 120 = .ok (.if_icmp .ge 18, 3) := by decide +kernel
theorem dX5_init_123 : decode cX5_init 123 = .ok (.aload_n 0, 1) := by decide +kernel
theorem dX5_init_124 : decode cX5_init 124 = .ok (.getfield 18, 3) := by decide +kernel
theorem dX5_init_127 : decode cX5_init 127 = .ok (.iload_n 1, 1) := by decide +kernel
theorem dX5_init_128 : decode cX5_init 128 = .ok (.sipush 1000, 3) := by decide +kernel
theorem dX5_init_131 : decode cX5_init 131 = .ok (.iastore, 1) := by decide +kernel
theorem dX5_init_132 : decode cX5_init 132 = .ok (.iinc 1 1, 3) := by decide +kernel
theorem dX5_init_135 : decode cX5_init 135 = .ok (.goto (-18), 3) := by decide +kernel
theorem dX5_init_138 : decode cX5_init 138 = .ok (.return_, 1) := by decide +kernel
theorem dX5_isFull_0 : decode cX5_isFull 0 = .ok (.aload_n 0, 1) := by decide +kernel
theorem dX5_isFull_1 : decode cX5_isFull 1 = .ok (.getfield 56, 3) := by decide +kernel
theorem dX5_isFull_4 : decode cX5_isFull 4 = .ok (.bipush 24, 2) := by decide +kernel
theorem dX5_isFull_6 : decode cX5_isFull 6 = .ok (.if_icmp .lt 7, 3) := by decide +kernel
theorem dX5_isFull_9 : decode cX5_isFull 9 = .ok (.iconst 1, 1) := by decide +kernel
theorem dX5_isFull_10 : decode cX5_isFull 10 = .ok (.goto 4, 3) := by decide +kernel
theorem dX5_isFull_13 : decode cX5_isFull 13 = .ok (.iconst 0, 1) := by decide +kernel
theorem dX5_isFull_14 : decode cX5_isFull 14 = .ok (.ireturn, 1) := by decide +kernel
theorem dX5_has_0 : decode cX5_has 0 = .ok (.iload_n 1, 1) := by decide +kernel
theorem dX5_has_1 : decode cX5_has 1 = .ok (.ifCond .lt 15, 3) := by decide +kernel
theorem dX5_has_4 : decode cX5_has 4 = .ok (.iload_n 1, 1) := by decide +kernel
theorem dX5_has_5 : decode cX5_has 5 = .ok (.aload_n 0, 1) := by decide +kernel
theorem dX5_has_6 : decode cX5_has 6 = .ok (.getfield 56, 3) := by decide +kernel
theorem dX5_has_9 : decode cX5_has 9 = .ok (.if_icmp .ge 7, 3) := by decide +kernel
theorem dX5_has_12 : decode cX5_has 12 = .ok (.iconst 1, 1) := by decide +kernel
theorem dX5_has_13 : decode cX5_has 13 = .ok (.goto 4, 3) := by decide +kernel
theorem dX5_has_16 : decode cX5_has 16 = .ok (.iconst 0, 1) := by decide +kernel
theorem dX5_has_17 : decode cX5_has 17 = .ok (.ireturn, 1) := by decide +kernel
theorem dX5_swapPaintYear_0 : decode cX5_swapPaintYear 0 = .ok (.aload_n 0, 1) := by decide +kernel
theorem dX5_swapPaintYear_1 : decode cX5_swapPaintYear 1 = .ok (.getfield 18, 3) := by decide +kernel
theorem dX5_swapPaintYear_4 : decode cX5_swapPaintYear 4 = .ok (.iload_n 1, 1) := by decide +kernel
theorem dX5_swapPaintYear_5 : decode cX5_swapPaintYear 5 = .ok (.iaload, 1) := by decide +kernel
theorem dX5_swapPaintYear_6 : decode cX5_swapPaintYear 6 = .ok (.istore_n 3, 1) := by decide +kernel
theorem dX5_swapPaintYear_7 : decode cX5_swapPaintYear 7 = .ok (.aload_n 0, 1) := by decide +kernel
theorem dX5_swapPaintYear_8 : decode cX5_swapPaintYear 8 = .ok (.getfield 18, 3) := by decide +kernel
theorem dX5_swapPaintYear_11 : decode cX5_swapPaintYear 11 = .ok (.iload_n 1, 1) := by decide +kernel
theorem dX5_swapPaintYear_12 : decode cX5_swapPaintYear 12 = .ok (.iload_n 2, 1) := by decide +kernel
theorem dX5_swapPaintYear_13 : decode cX5_swapPaintYear 13 = .ok (.iastore, 1) := by decide +kernel
theorem dX5_swapPaintYear_14 : decode cX5_swapPaintYear 14 = .ok (.iload_n 3, 1) := by decide +kernel
theorem dX5_swapPaintYear_15 : decode cX5_swapPaintYear 15 = .ok (.ireturn, 1) := by decide +kernel
theorem dX5_setSap_0 : decode cX5_setSap 0 = .ok (.aload_n 0, 1) := by decide +kernel
theorem dX5_setSap_1 : decode cX5_setSap 1 = .ok (.iload_n 1, 1) := by decide +kernel
theorem dX5_setSap_2 : decode cX5_setSap 2 = .ok (.putfield 46, 3) := by decide +kernel
theorem dX5_setSap_5 : decode cX5_setSap 5 = .ok (.aload_n 0, 1) := by decide +kernel
theorem dX5_setSap_6 : decode cX5_setSap 6 = .ok (.iload_n 2, 1) := by decide +kernel
theorem dX5_setSap_7 : decode cX5_setSap 7 = .ok (.putfield 50, 3) := by decide +kernel
theorem dX5_setSap_10 : decode cX5_setSap 10 = .ok (.aload_n 0, 1) := by decide +kernel
theorem dX5_setSap_11 : decode cX5_setSap 11 = .ok (.iload_n 3, 1) := by decide +kernel
theorem dX5_setSap_12 : decode cX5_setSap 12 = .ok (.putfield 53, 3) := by decide +kernel
theorem dX5_setSap_15 : decode cX5_setSap 15 = .ok (.return_, 1) := by decide +kernel
set_option maxRecDepth 20000 in
theorem ggX5_addYears_X5_add : GoodIn wsX5_addYears wsX5_add := goodIn_r _ [8, 9, 2, 10, 11, 12, 13, 14, 15, 16, 17, 18, 19, 20, 21, 22, 23, 24, 25, 26, 27] (by decide +kernel) (by decide +kernel)
set_option maxRecDepth 20000 in
theorem gX5_addYears_X5_add : GoodIn wsX5_addYears (wsV RX5 62 RX5 yX5_add wsX5_add) := goodIn_app (goodIn_of _ (by decide +kernel)) ggX5_addYears_X5_add
theorem dX5_addYears_0 : decode cX5_addYears 0 = .ok (.aload_n 0, 1) := by decide +kernel
theorem dX5_addYears_1 : decode cX5_addYears 1 = .ok (.getfield 40, 3) := by decide +kernel
theorem dX5_addYears_4 : decode cX5_addYears 4 = .ok (.aload_n 0, 1) := by decide +kernel
theorem dX5_addYears_5 : decode cX5_addYears 5 = .ok (.getfield 56, 3) := by decide +kernel
theorem dX5_addYears_8 : decode cX5_addYears 8 = .ok (.iload_n 1, 1) := by decide +kernel
theorem dX5_addYears_9 : decode cX5_addYears 9 = .ok (.iastore, 1) := by decide +kernel
theorem dX5_addYears_10 : decode cX5_addYears 10 = .ok (.aload_n 0, 1) := by decide +kernel
theorem dX5_addYears_11 : decode cX5_addYears 11 = .ok (.getfield 43, 3) := by decide +kernel
theorem dX5_addYears_14 : decode cX5_addYears 14 = .ok (.aload_n 0, 1) := by decide +kernel
theorem dX5_addYears_15 : decode cX5_addYears 15 = .ok (.getfield 56, 3) := by decide +kernel
theorem dX5_addYears_18 : decode cX5_addYears 18 = .ok (.iload_n 2, 1) := by decide +kernel
theorem dX5_addYears_19 : decode cX5_addYears 19 = .ok (.iastore, 1) := by decide +kernel
theorem dX5_addYears_20 : decode cX5_addYears 20 = .ok (.aload_n 0, 1) := by decide +kernel
theorem dX5_addYears_21 : decode cX5_addYears 21 = .ok (.iconst 0, 1) := by decide +kernel
theorem dX5_addYears_22 : decode cX5_addYears 22 = .ok (.iload_n 3, 1) := by decide +kernel
theorem dX5_addYears_23 : decode cX5_addYears 23 = .ok (.iload 4, 2) := by decide +kernel
theorem dX5_addYears_25 : decode cX5_addYears 25 = .ok (.invokevirtual 62, 3) := by decide +kernel
theorem dX5_addYears_28 : decode cX5_addYears 28 = .ok (.ireturn, 1) := by decide +kernel
set_option maxRecDepth 20000 in
theorem ggX5_addPaint_X5_add : GoodIn wsX5_addPaint wsX5_add := goodIn_r _ [7, 8, 2, 9, 10, 11, 12, 13, 14, 15, 16, 17, 18, 19, 20, 21, 22, 23, 24, 25, 26] (by decide +kernel) (by decide +kernel)
set_option maxRecDepth 20000 in
theorem gX5_addPaint_X5_add : GoodIn wsX5_addPaint (wsV RX5 62 RX5 yX5_add wsX5_add) := goodIn_app (goodIn_of _ (by decide +kernel)) ggX5_addPaint_X5_add
theorem dX5_addPaint_0 : decode cX5_addPaint 0 = .ok (.aload_n 0, 1) := by decide +kernel
theorem dX5_addPaint_1 : decode cX5_addPaint 1 = .ok (.getfield 34, 3) := by decide +kernel
theorem dX5_addPaint_4 : decode cX5_addPaint 4 = .ok (.aload_n 0, 1) := by decide +kernel
theorem dX5_addPaint_5 : decode cX5_addPaint 5 = .ok (.getfield 56, 3) := by decide +kernel
theorem dX5_addPaint_8 : decode cX5_addPaint 8 = .ok (.iload_n 1, 1) := by decide +kernel
theorem dX5_addPaint_9 : decode cX5_addPaint 9 = .ok (.iastore, 1) := by decide +kernel
theorem dX5_addPaint_10 : decode cX5_addPaint 10 = .ok (.aload_n 0, 1) := by decide +kernel
theorem dX5_addPaint_11 : decode cX5_addPaint 11 = .ok (.iconst 1, 1) := by decide +kernel
theorem dX5_addPaint_12 : decode cX5_addPaint 12 = .ok (.iload_n 2, 1) := by decide +kernel
theorem dX5_addPaint_13 : decode cX5_addPaint 13 = .ok (.iload_n 3, 1) := by decide +kernel
theorem dX5_addPaint_14 : decode cX5_addPaint 14 = .ok (.invokevirtual 62, 3) := by decide +kernel
theorem dX5_addPaint_17 : decode cX5_addPaint 17 = .ok (.ireturn, 1) := by decide +kernel
set_option maxRecDepth 20000 in
theorem ggX5_addRings_X5_add : GoodIn wsX5_addRings wsX5_add := goodIn_r _ [8, 9, 2, 10, 11, 12, 13, 14, 15, 16, 17, 18, 19, 20, 21, 22, 23, 24, 25, 26, 27] (by decide +kernel) (by decide +kernel)
set_option maxRecDepth 20000 in
theorem gX5_addRings_X5_add : GoodIn wsX5_addRings (wsV RX5 62 RX5 yX5_add wsX5_add) := goodIn_app (goodIn_of _ (by decide +kernel)) ggX5_addRings_X5_add
theorem dX5_addRings_0 : decode cX5_addRings 0 = .ok (.aload_n 0, 1) := by decide +kernel
theorem dX5_addRings_1 : decode cX5_addRings 1 = .ok (.getfield 40, 3) := by decide +kernel
theorem dX5_addRings_4 : decode cX5_addRings 4 = .ok (.aload_n 0, 1) := by decide +kernel
theorem dX5_addRings_5 : decode cX5_addRings 5 = .ok (.getfield 56, 3) := by decide +kernel
theorem dX5_addRings_8 : decode cX5_addRings 8 = .ok (.iload_n 1, 1) := by decide +kernel
theorem dX5_addRings_9 : decode cX5_addRings 9 = .ok (.iastore, 1) := by decide +kernel
theorem dX5_addRings_10 : decode cX5_addRings 10 = .ok (.aload_n 0, 1) := by decide +kernel
theorem dX5_addRings_11 : decode cX5_addRings 11 = .ok (.getfield 34, 3) := by decide +kernel
theorem dX5_addRings_14 : decode cX5_addRings 14 = .ok (.aload_n 0, 1) := by decide +kernel
theorem dX5_addRings_15 : decode cX5_addRings 15 = .ok (.getfield 56, 3) := by decide +kernel
theorem dX5_addRings_18 : decode cX5_addRings 18 = .ok (.iload_n 2, 1) := by decide +kernel
theorem dX5_addRings_19 : decode cX5_addRings 19 = .ok (.iastore, 1) := by decide +kernel
theorem dX5_addRings_20 : decode cX5_addRings 20 = .ok (.aload_n 0, 1) := by decide +kernel
theorem dX5_addRings_21 : decode cX5_addRings 21 = .ok (.iconst 2, 1) := by decide +kernel
theorem dX5_addRings_22 : decode cX5_addRings 22 = .ok (.iload_n 3, 1) := by decide +kernel
theorem dX5_addRings_23 : decode cX5_addRings 23 = .ok (.iload 4, 2) := by decide +kernel
theorem dX5_addRings_25 : decode cX5_addRings 25 = .ok (.invokevirtual 62, 3) := by decide +kernel
theorem dX5_addRings_28 : decode cX5_addRings 28 = .ok (.ireturn, 1) := by decide +kernel
set_option maxRecDepth 20000 in
theorem ggX5_addThreads_X5_add : GoodIn wsX5_addThreads wsX5_add := goodIn_r _ [10, 11, 2, 12, 13, 14, 15, 16, 17, 18, 19, 20, 21, 22, 23, 24, 25, 26, 27, 28, 29] (by decide +kernel) (by decide +kernel)
set_option maxRecDepth 20000 in
theorem gX5_addThreads_X5_add : GoodIn wsX5_addThreads (wsV RX5 62 RX5 yX5_add wsX5_add) := goodIn_app (goodIn_of _ (by decide +kernel)) ggX5_addThreads_X5_add
theorem dX5_addThreads_0 : decode cX5_addThreads 0 = .ok (.aload_n 0, 1) := by decide +kernel
theorem dX5_addThreads_1 : decode cX5_addThreads 1 = .ok (.getfield 34, 3) := by decide +kernel
theorem dX5_addThreads_4 : decode cX5_addThreads 4 = .ok (.aload_n 0, 1) := by decide +kernel
theorem dX5_addThreads_5 : decode cX5_addThreads 5 = .ok (.getfield 56, 3) := by decide +kernel
theorem dX5_addThreads_8 : decode cX5_addThreads 8 = .ok (.iload_n 1, 1) := by decide +kernel
theorem dX5_addThreads_9 : decode cX5_addThreads 9 = .ok (.iastore, 1) := by decide +kernel
theorem dX5_addThreads_10 : decode cX5_addThreads 10 = .ok (.aload_n 0, 1) := by decide +kernel
theorem dX5_addThreads_11 : decode cX5_addThreads 11 = .ok (.getfield 37, 3) := by decide +kernel
theorem dX5_addThreads_14 : decode cX5_addThreads 14 = .ok (.aload_n 0, 1) := by decide +kernel
theorem dX5_addThreads_15 : decode cX5_addThreads 15 = .ok (.getfield 56, 3) := by decide +kernel
theorem dX5_addThreads_18 : decode cX5_addThreads 18 = .ok (.iload_n 2, 1) := by decide +kernel
theorem dX5_addThreads_19 : decode cX5_addThreads 19 = .ok (.iastore, 1) := by decide +kernel
theorem dX5_addThreads_20 : decode cX5_addThreads 20 = .ok (.aload_n 0, 1) := by decide +kernel
theorem dX5_addThreads_21 : decode cX5_addThreads 21 = .ok (.getfield 40, 3) := by decide +kernel
theorem dX5_addThreads_24 : decode cX5_addThreads 24 = .ok (.aload_n 0, 1) := by decide +kernel
theorem dX5_addThreads_25 : decode cX5_addThreads 25 = .ok (.getfield 56, 3) := by decide +kernel
theorem dX5_addThreads_28 : decode cX5_addThreads 28 = .ok (.iload_n 3, 1) := by decide +kernel
theorem dX5_addThreads_29 : decode cX5_addThreads 29 = .ok (.iastore, 1) := by decide +kernel
theorem dX5_addThreads_30 : decode cX5_addThreads 30 = .ok (.aload_n 0, 1) := by decide +kernel
theorem dX5_addThreads_31 : decode cX5_addThreads 31 = .ok (.getfield 43, 3) := by decide +kernel
theorem dX5_addThreads_34 : decode cX5_addThreads 34 = .ok (.aload_n 0, 1) := by decide +kernel
theorem dX5_addThreads_35 : decode cX5_addThreads 35 = .ok (.getfield 56, 3) := by decide +kernel
theorem dX5_addThreads_38 : decode cX5_addThreads 38 = .ok (.iload 4, 2) := by decide +kernel
theorem dX5_addThreads_40 : decode cX5_addThreads 40 = .ok (.iastore, 1) := by decide +kernel
theorem dX5_addThreads_41 : decode cX5_addThreads 41 = .ok (.aload_n 0, 1) := by decide +kernel
theorem dX5_addThreads_42 : decode cX5_addThreads 42 = .ok (.iconst 3, 1) := by decide +kernel
theorem dX5_addThreads_43 : decode cX5_addThreads 43 = .ok (.iload 5, 2) := by decide +kernel
theorem dX5_addThreads_45 : decode cX5_addThreads 45 = .ok (.iload 6, 2) := by decide +kernel
theorem dX5_addThreads_47 : decode cX5_addThreads 47 = .ok (.invokevirtual 62, 3) := by decide +kernel
theorem dX5_addThreads_50 : decode cX5_addThreads 50 = .ok (.ireturn, 1) := by decide +kernel
theorem dX5_add_0 : decode cX5_add 0 = .ok (.aload_n 0, 1) := by decide +kernel
theorem dX5_add_1 : decode cX5_add 1 = .ok (.getfield 22, 3) := by decide +kernel
theorem dX5_add_4 : decode cX5_add 4 = .ok (.aload_n 0, 1) := by decide +kernel
theorem dX5_add_5 : decode cX5_add 5 = .ok (.getfield 56, 3) := by decide +kernel
theorem dX5_add_8 : decode cX5_add 8 = .ok (.iload_n 1, 1) := by decide +kernel
theorem dX5_add_9 : decode cX5_add 9 = .ok (.iastore, 1) := by decide +kernel
theorem dX5_add_10 : decode cX5_add 10 = .ok (.aload_n 0, 1) := by decide +kernel
theorem dX5_add_11 : decode cX5_add 11 = .ok (.getfield 25, 3) := by decide +kernel
theorem dX5_add_14 : decode cX5_add 14 = .ok (.aload_n 0, 1) := by decide +kernel
theorem dX5_add_15 : decode cX5_add 15 = .ok (.getfield 56, 3) := by decide +kernel
theorem dX5_add_18 : decode cX5_add 18 = .ok (.iload_n 2, 1) := by decide +kernel
theorem dX5_add_19 : decode cX5_add 19 = .ok (.iastore, 1) := by decide +kernel
theorem dX5_add_20 : decode cX5_add 20 = .ok (.aload_n 0, 1) := by decide +kernel
theorem dX5_add_21 : decode cX5_add 21 = .ok (.getfield 28, 3) := by decide +kernel
theorem dX5_add_24 : decode cX5_add 24 = .ok (.aload_n 0, 1) := by decide +kernel
theorem dX5_add_25 : decode cX5_add 25 = .ok (.getfield 56, 3) := by decide +kernel
theorem dX5_add_28 : decode cX5_add 28 = .ok (.iload_n 3, 1) := by decide +kernel
theorem dX5_add_29 : decode cX5_add 29 = .ok (.iastore, 1) := by decide +kernel
theorem dX5_add_30 : decode cX5_add 30 = .ok (.aload_n 0, 1) := by decide +kernel
theorem dX5_add_31 : decode cX5_add 31 = .ok (.getfield 31, 3) := by decide +kernel
theorem dX5_add_34 : decode cX5_add 34 = .ok (.aload_n 0, 1) := by decide +kernel
theorem dX5_add_35 : decode cX5_add 35 = .ok (.getfield 56, 3) := by decide +kernel
theorem dX5_add_38 : decode cX5_add 38 = .ok (.bipush (-9), 2) := by decide +kernel
theorem dX5_add_40 : decode cX5_add 40 = .ok (.iastore, 1) := by decide +kernel
theorem dX5_add_41 : decode cX5_add 41 = .ok (.aload_n 0, 1) := by decide +kernel
theorem dX5_add_42 : decode cX5_add 42 = .ok (.dup, 1) := by decide +kernel
theorem dX5_add_43 : decode cX5_add 43 = .ok (.getfield 56, 3) := by decide +kernel
theorem dX5_add_46 : decode cX5_add 46 = .ok (.iconst 1, 1) := by decide +kernel
theorem dX5_add_47 : decode cX5_add 47 = .ok (.iadd, 1) := by decide +kernel
theorem dX5_add_48 : decode cX5_add 48 = .ok (.putfield 56, 3) := by decide +kernel
theorem dX5_add_51 : decode cX5_add 51 = .ok (.aload_n 0, 1) := by decide +kernel
theorem dX5_add_52 : decode cX5_add 52 = .ok (.getfield 56, 3) := by decide +kernel
theorem dX5_add_55 : decode cX5_add 55 = .ok (.iconst 1, 1) := by decide +kernel
theorem dX5_add_56 : decode cX5_add 56 = .ok (.isub, 1) := by decide +kernel
theorem dX5_add_57 : decode cX5_add 57 = .ok (.ireturn, 1) := by decide +kernel
theorem dX5_isStruck_0 : decode cX5_isStruck 0 = .ok (.aload_n 0, 1) := by decide +kernel
theorem dX5_isStruck_1 : decode cX5_isStruck 1 = .ok (.getfield 31, 3) := by decide +kernel
theorem dX5_isStruck_4 : decode cX5_isStruck 4 = .ok (.iload_n 1, 1) := by decide +kernel
theorem dX5_isStruck_5 : decode cX5_isStruck 5 = .ok (.iaload, 1) := by decide +kernel
theorem dX5_isStruck_6 : decode cX5_isStruck 6 = .ok (.bipush (-9), 2) := by decide +kernel
theorem dX5_isStruck_8 : decode cX5_isStruck 8 = .ok (.if_icmp .eq 7, 3) := by decide +kernel
theorem dX5_isStruck_11 : decode cX5_isStruck 11 = .ok (.iconst 1, 1) := by decide +kernel
theorem dX5_isStruck_12 : decode cX5_isStruck 12 = .ok (.goto 4, 3) := by decide +kernel
theorem dX5_isStruck_15 : decode cX5_isStruck 15 = .ok (.iconst 0, 1) := by decide +kernel
theorem dX5_isStruck_16 : decode cX5_isStruck 16 = .ok (.ireturn, 1) := by decide +kernel
theorem dX5_strikeOn_0 : decode cX5_strikeOn 0 = .ok (.aload_n 0, 1) := by decide +kernel
theorem dX5_strikeOn_1 : decode cX5_strikeOn 1 = .ok (.getfield 31, 3) := by decide +kernel
theorem dX5_strikeOn_4 : decode cX5_strikeOn 4 = .ok (.iload_n 1, 1) := by decide +kernel
theorem dX5_strikeOn_5 : decode cX5_strikeOn 5 = .ok (.iload_n 2, 1) := by decide +kernel
theorem dX5_strikeOn_6 : decode cX5_strikeOn 6 = .ok (.iastore, 1) := by decide +kernel
theorem dX5_strikeOn_7 : decode cX5_strikeOn 7 = .ok (.aload_n 0, 1) := by decide +kernel
theorem dX5_strikeOn_8 : decode cX5_strikeOn 8 = .ok (.dup, 1) := by decide +kernel
theorem dX5_strikeOn_9 : decode cX5_strikeOn 9 = .ok (.getfield 59, 3) := by decide +kernel
theorem dX5_strikeOn_12 : decode cX5_strikeOn 12 = .ok (.iconst 1, 1) := by decide +kernel
theorem dX5_strikeOn_13 : decode cX5_strikeOn 13 = .ok (.iadd, 1) := by decide +kernel
theorem dX5_strikeOn_14 : decode cX5_strikeOn 14 = .ok (.putfield 59, 3) := by decide +kernel
theorem dX5_strikeOn_17 : decode cX5_strikeOn 17 = .ok (.return_, 1) := by decide +kernel
set_option maxRecDepth 20000 in
theorem ggX5_detail_X5_firstYear : GoodIn wsX5_detail wsX5_firstYear := goodIn_r _ [9, 1, 10, 11, 12, 13, 14, 15, 16, 17, 18, 8, 19, 20, 21, 22, 23, 24, 25, 26, 27, 28, 29, 30, 31, 32, 33, 34, 35, 36, 37, 38, 39, 40, 41, 42, 43, 44, 45, 56, 57, 58, 59, 60, 61, 62, 63, 64, 65, 66, 67, 68, 69, 70, 71, 72] (by decide +kernel) (by decide +kernel)
set_option maxRecDepth 20000 in
theorem gX5_detail_X5_firstYear : GoodIn wsX5_detail (wsV RX5 66 RX5 yX5_firstYear wsX5_firstYear) := goodIn_app (goodIn_of _ (by decide +kernel)) ggX5_detail_X5_firstYear
set_option maxRecDepth 20000 in
theorem ggX5_detail_X5_lastYear : GoodIn wsX5_detail wsX5_lastYear := goodIn_r _ [49, 1, 12, 50, 51, 52, 53, 22, 54, 14, 11, 15, 55, 16, 17, 18, 8, 19, 20, 21, 23, 24, 25, 26, 27, 28, 29, 30, 31, 32, 33, 34, 35, 36, 37, 38, 39, 40, 41, 42, 43, 44, 45, 56, 57, 58, 59, 60, 61, 62, 63, 64, 65, 66, 67, 68, 69, 70, 71, 72] (by decide +kernel) (by decide +kernel)
set_option maxRecDepth 20000 in
theorem gX5_detail_X5_lastYear : GoodIn wsX5_detail (wsV RX5 70 RX5 yX5_lastYear wsX5_lastYear) := goodIn_app (goodIn_of _ (by decide +kernel)) ggX5_detail_X5_lastYear
theorem dX5_detail_0 : decode cX5_detail 0 = .ok (.iload_n 2, 1) := by decide +kernel
theorem dX5_detail_1 : decode cX5_detail 1 = .ok (.tableswitch 69 0 4 #[35, 42, 49, 56, 63], 35) := by decide +kernel
theorem dX5_detail_36 : decode cX5_detail 36 = .ok (.aload_n 0, 1) := by decide +kernel
theorem dX5_detail_37 : decode cX5_detail 37 = .ok (.getfield 22, 3) := by decide +kernel
theorem dX5_detail_40 : decode cX5_detail 40 = .ok (.iload_n 1, 1) := by decide +kernel
theorem dX5_detail_41 : decode cX5_detail 41 = .ok (.iaload, 1) := by decide +kernel
theorem dX5_detail_42 : decode cX5_detail 42 = .ok (.ireturn, 1) := by decide +kernel
theorem dX5_detail_43 : decode cX5_detail 43 = .ok (.aload_n 0, 1) := by decide +kernel
theorem dX5_detail_44 : decode cX5_detail 44 = .ok (.getfield 25, 3) := by decide +kernel
theorem dX5_detail_47 : decode cX5_detail 47 = .ok (.iload_n 1, 1) := by decide +kernel
theorem dX5_detail_48 : decode cX5_detail 48 = .ok (.iaload, 1) := by decide +kernel
theorem dX5_detail_49 : decode cX5_detail 49 = .ok (.ireturn, 1) := by decide +kernel
theorem dX5_detail_50 : decode cX5_detail 50 = .ok (.aload_n 0, 1) := by decide +kernel
theorem dX5_detail_51 : decode cX5_detail 51 = .ok (.getfield 28, 3) := by decide +kernel
theorem dX5_detail_54 : decode cX5_detail 54 = .ok (.iload_n 1, 1) := by decide +kernel
theorem dX5_detail_55 : decode cX5_detail 55 = .ok (.iaload, 1) := by decide +kernel
theorem dX5_detail_56 : decode cX5_detail 56 = .ok (.ireturn, 1) := by decide +kernel
theorem dX5_detail_57 : decode cX5_detail 57 = .ok (.aload_n 0, 1) := by decide +kernel
theorem dX5_detail_58 : decode cX5_detail 58 = .ok (.getfield 31, 3) := by decide +kernel
theorem dX5_detail_61 : decode cX5_detail 61 = .ok (.iload_n 1, 1) := by decide +kernel
theorem dX5_detail_62 : decode cX5_detail 62 = .ok (.iaload, 1) := by decide +kernel
theorem dX5_detail_63 : decode cX5_detail 63 = .ok (.ireturn, 1) := by decide +kernel
theorem dX5_detail_64 : decode cX5_detail 64 = .ok (.aload_n 0, 1) := by decide +kernel
theorem dX5_detail_65 : decode cX5_detail 65 = .ok (.iload_n 1, 1) := by decide +kernel
theorem dX5_detail_66 : decode cX5_detail 66 = .ok (.invokevirtual 66, 3) := by decide +kernel
theorem dX5_detail_69 : decode cX5_detail 69 = .ok (.ireturn, 1) := by decide +kernel
theorem dX5_detail_70 : decode cX5_detail 70 = .ok (.aload_n 0, 1) := by decide +kernel
theorem dX5_detail_71 : decode cX5_detail 71 = .ok (.iload_n 1, 1) := by decide +kernel
theorem dX5_detail_72 : decode cX5_detail 72 = .ok (.invokevirtual 70, 3) := by decide +kernel
theorem dX5_detail_75 : decode cX5_detail 75 = .ok (.ireturn, 1) := by decide +kernel
theorem dX5_isOfKind_0 : decode cX5_isOfKind 0 = .ok (.iload_n 2, 1) := by decide +kernel
theorem dX5_isOfKind_1 : decode cX5_isOfKind 1 = .ok (.ifCond .eq 13, 3) := by decide +kernel
theorem dX5_isOfKind_4 : decode cX5_isOfKind 4 = .ok (.iload_n 2, 1) := by decide +kernel
theorem dX5_isOfKind_5 : decode cX5_isOfKind 5 = .ok (.aload_n 0, 1) := by decide +kernel
theorem dX5_isOfKind_6 : decode cX5_isOfKind 6 = .ok (.getfield 22, 3) := by decide +kernel
theorem dX5_isOfKind_9 : decode cX5_isOfKind 9 = .ok (.iload_n 1, 1) := by decide +kernel
theorem dX5_isOfKind_10 : decode cX5_isOfKind 10 = .ok (.iaload, 1) := by decide +kernel
theorem dX5_isOfKind_11 : decode cX5_isOfKind 11 = .ok (.if_icmp .ne 7, 3) := by decide +kernel
theorem dX5_isOfKind_14 : decode cX5_isOfKind 14 = .ok (.iconst 1, 1) := by decide +kernel
theorem dX5_isOfKind_15 : decode cX5_isOfKind 15 = .ok (.goto 4, 3) := by decide +kernel
theorem dX5_isOfKind_18 : decode cX5_isOfKind 18 = .ok (.iconst 0, 1) := by decide +kernel
theorem dX5_isOfKind_19 : decode cX5_isOfKind 19 = .ok (.ireturn, 1) := by decide +kernel
set_option maxRecDepth 20000 in
theorem ggX5_markAs_X6_isSure : GoodIn wsX5_markAs wsX6_isSure := goodIn_r _ [8, 9, 10, 11, 7, 12, 13, 14, 15, 16, 17, 18, 19, 20, 21, 22, 23, 24, 25, 26, 68, 69] (by decide +kernel) (by decide +kernel)
set_option maxRecDepth 20000 in
theorem gX5_markAs_X6_isSure : GoodIn wsX5_markAs (wsV RX5 73 RX6 yX6_isSure wsX6_isSure) := goodIn_app (goodIn_of _ (by decide +kernel)) ggX5_markAs_X6_isSure
set_option maxRecDepth 20000 in
theorem ggX5_markAs_X5_lastYear : GoodIn wsX5_markAs wsX5_lastYear := goodIn_r _ [31, 32, 33, 34, 35, 36, 37, 25, 38, 2, 1, 3, 39, 40, 41, 42, 30, 43, 44, 45, 46, 4, 5, 6, 7, 8, 9, 10, 11, 12, 13, 14, 15, 16, 17, 18, 19, 20, 21, 22, 23, 24, 26, 53, 54, 55, 56, 57, 58, 59, 60, 61, 62, 63, 64, 65, 66, 67, 68, 69] (by decide +kernel) (by decide +kernel)
set_option maxRecDepth 20000 in
theorem gX5_markAs_X5_lastYear : GoodIn wsX5_markAs (wsV RX5 70 RX5 yX5_lastYear wsX5_lastYear) := goodIn_app (goodIn_of _ (by decide +kernel)) ggX5_markAs_X5_lastYear
set_option maxRecDepth 20000 in
theorem ggX5_markAs_X5_firstYear : GoodIn wsX5_markAs wsX5_firstYear := goodIn_r _ [50, 32, 51, 1, 33, 52, 2, 3, 40, 41, 42, 30, 43, 44, 45, 25, 46, 4, 5, 6, 7, 8, 9, 10, 11, 12, 13, 14, 15, 16, 17, 18, 19, 20, 21, 22, 23, 24, 26, 53, 54, 55, 56, 57, 58, 59, 60, 61, 62, 63, 64, 65, 66, 67, 68, 69] (by decide +kernel) (by decide +kernel)
set_option maxRecDepth 20000 in
theorem gX5_markAs_X5_firstYear : GoodIn wsX5_markAs (wsV RX5 66 RX5 yX5_firstYear wsX5_firstYear) := goodIn_app (goodIn_of _ (by decide +kernel)) ggX5_markAs_X5_firstYear
theorem dX5_markAs_0 : decode cX5_markAs 0 = .ok (.iload_n 2, 1) := by decide +kernel
theorem dX5_markAs_1 : decode cX5_markAs 1 = .ok (.tableswitch 62 1 3 #[27, 27, 34], 27) := by decide +kernel
theorem dX5_markAs_28 : decode cX5_markAs 28 = .ok (.aload_n 0, 1) := by decide +kernel
theorem dX5_markAs_29 : decode cX5_markAs 29 = .ok (.getfield 34, 3) := by decide +kernel
theorem dX5_markAs_32 : decode cX5_markAs 32 = .ok (.iload_n 1, 1) := by decide +kernel
theorem dX5_markAs_33 : decode cX5_markAs 33 = .ok (.iaload, 1) := by decide +kernel
theorem dX5_markAs_34 : decode cX5_markAs 34 = .ok (.ireturn, 1) := by decide +kernel
theorem dX5_markAs_35 : decode cX5_markAs 35 = .ok (.aload_n 0, 1) := by decide +kernel
theorem dX5_markAs_36 : decode cX5_markAs 36 = .ok (.getfield 12, 3) := by decide +kernel
theorem dX5_markAs_39 : decode cX5_markAs 39 = .ok (.aload_n 0, 1) := by decide +kernel
theorem dX5_markAs_40 : decode cX5_markAs 40 = .ok (.getfield 34, 3) := by decide +kernel
theorem dX5_markAs_43 : decode cX5_markAs 43 = .ok (.iload_n 1, 1) := by decide +kernel
theorem dX5_markAs_44 : decode cX5_markAs 44 = .ok (.iaload, 1) := by decide +kernel
theorem dX5_markAs_45 : decode cX5_markAs 45 = .ok (.aload_n 0, 1) := by decide +kernel
theorem dX5_markAs_46 : decode cX5_markAs 46 = .ok (.getfield 37, 3) := by decide +kernel
theorem dX5_markAs_49 : decode cX5_markAs 49 = .ok (.iload_n 1, 1) := by decide +kernel
theorem dX5_markAs_50 : decode cX5_markAs 50 = .ok (.iaload, 1) := by decide +kernel
theorem dX5_markAs_51 : decode cX5_markAs 51 = .ok (.invokevirtual 73, 3) := by decide +kernel
theorem dX5_markAs_54 : decode cX5_markAs 54 = .ok (.ifCond .eq 7, 3) := by decide +kernel
theorem dX5_markAs_57 : decode cX5_markAs 57 = .ok (.iconst 1, 1) := by decide +kernel
theorem dX5_markAs_58 : decode cX5_markAs 58 = .ok (.goto 4, 3) := by decide +kernel
theorem dX5_markAs_61 : decode cX5_markAs 61 = .ok (.iconst 0, 1) := by decide +kernel
theorem dX5_markAs_62 : decode cX5_markAs 62 = .ok (.ireturn, 1) := by decide +kernel
theorem dX5_markAs_63 : decode cX5_markAs 63 = .ok (.aload_n 0, 1) := by decide +kernel
theorem dX5_markAs_64 : decode cX5_markAs 64 = .ok (.iload_n 1, 1) := by decide +kernel
theorem dX5_markAs_65 : decode cX5_markAs 65 = .ok (.invokevirtual 70, 3) := by decide +kernel
theorem dX5_markAs_68 : decode cX5_markAs 68 = .ok (.aload_n 0, 1) := by decide +kernel
theorem dX5_markAs_69 : decode cX5_markAs 69 = .ok (.iload_n 1, 1) := by decide +kernel
theorem dX5_markAs_70 : decode cX5_markAs 70 = .ok (.invokevirtual 66, 3) := by decide +kernel
theorem dX5_markAs_73 : decode cX5_markAs 73 = .ok (.isub, 1) := by decide +kernel
theorem dX5_markAs_74 : decode cX5_markAs 74 = .ok (.iconst 1, 1) := by decide +kernel
theorem dX5_markAs_75 : decode cX5_markAs 75 = .ok (.iadd, 1) := by decide +kernel
theorem dX5_markAs_76 : decode cX5_markAs 76 = .ok (.ireturn, 1) := by decide +kernel
theorem dX5_lacking_0 : decode cX5_lacking 0 = .ok (.iconst 0, 1) := by decide +kernel
theorem dX5_lacking_1 : decode cX5_lacking 1 = .ok (.iload_n 2, 1) := by decide +kernel
theorem dX5_lacking_2 : decode cX5_lacking 2 = .ok (.aload_n 0, 1) := by decide +kernel
theorem dX5_lacking_3 : decode cX5_lacking 3 = .ok (.getfield 34, 3) := by decide +kernel
theorem dX5_lacking_6 : decode cX5_lacking 6 = .ok (.iload_n 1, 1) := by decide +kernel
theorem dX5_lacking_7 : decode cX5_lacking 7 = .ok (.iaload, 1) := by decide +kernel
theorem dX5_lacking_8 : decode cX5_lacking 8 = .ok (.isub, 1) := by decide +kernel
theorem dX5_lacking_9 : decode cX5_lacking 9 = .ok (.invokestatic 77, 3) := by decide +kernel
theorem dX5_lacking_12 : decode cX5_lacking 12 = .ok (.ireturn, 1) := by decide +kernel
set_option maxRecDepth 20000 in
theorem ggX5_firstYear_X5_lacking : GoodIn wsX5_firstYear wsX5_lacking := goodIn_r _ [12, 3, 13, 14, 15, 16, 39, 40, 41, 42, 43, 44, 45, 46, 47, 48, 49, 50, 51, 52, 53] (by decide +kernel) (by decide +kernel)
set_option maxRecDepth 20000 in
theorem gX5_firstYear_X5_lacking : GoodIn wsX5_firstYear (wsV RX5 83 RX5 yX5_lacking wsX5_lacking) := goodIn_app (goodIn_of _ (by decide +kernel)) ggX5_firstYear_X5_lacking
set_option maxRecDepth 20000 in
theorem ggX5_firstYear_X6_isSure : GoodIn wsX5_firstYear wsX6_isSure := goodIn_r _ [21, 22, 23, 24, 20, 25, 26, 27, 28, 29, 30, 31, 32, 33, 34, 35, 36, 37, 15, 38, 54, 55] (by decide +kernel) (by decide +kernel)
set_option maxRecDepth 20000 in
theorem gX5_firstYear_X6_isSure : GoodIn wsX5_firstYear (wsV RX5 73 RX6 yX6_isSure wsX6_isSure) := goodIn_app (goodIn_of _ (by decide +kernel)) ggX5_firstYear_X6_isSure
theorem dX5_firstYear_0 : decode cX5_firstYear 0 = .ok (.aload_n 0, 1) := by decide +kernel
theorem dX5_firstYear_1 : decode cX5_firstYear 1 = .ok (.getfield 22, 3) := by decide +kernel
theorem dX5_firstYear_4 : decode cX5_firstYear 4 = .ok (.iload_n 1, 1) := by decide +kernel
theorem dX5_firstYear_5 : decode cX5_firstYear 5 = .ok (.iaload, 1) := by decide +kernel
theorem dX5_firstYear_6 : decode cX5_firstYear 6 = .ok (.tableswitch 90 1 3 #[26, 38, 55], 26) := by decide +kernel
theorem dX5_firstYear_32 : decode cX5_firstYear 32 = .ok (.aload_n 0, 1) := by decide +kernel
theorem dX5_firstYear_33 : decode cX5_firstYear 33 = .ok (.getfield 18, 3) := by decide +kernel
theorem dX5_firstYear_36 : decode cX5_firstYear 36 = .ok (.aload_n 0, 1) := by decide +kernel
theorem dX5_firstYear_37 : decode cX5_firstYear 37 = .ok (.getfield 34, 3) := by decide +kernel
theorem dX5_firstYear_40 : decode cX5_firstYear 40 = .ok (.iload_n 1, 1) := by decide +kernel
theorem dX5_firstYear_41 : decode cX5_firstYear 41 = .ok (.iaload, 1) := by decide +kernel
theorem dX5_firstYear_42 : decode cX5_firstYear 42 = .ok (.iaload, 1) := by decide +kernel
theorem dX5_firstYear_43 : decode cX5_firstYear 43 = .ok (.ireturn, 1) := by decide +kernel
theorem dX5_firstYear_44 : decode cX5_firstYear 44 = .ok (.aload_n 0, 1) := by decide +kernel
theorem dX5_firstYear_45 : decode cX5_firstYear 45 = .ok (.getfield 40, 3) := by decide +kernel
theorem dX5_firstYear_48 : decode cX5_firstYear 48 = .ok (.iload_n 1, 1) := by decide +kernel
theorem dX5_firstYear_49 : decode cX5_firstYear 49 = .ok (.iaload, 1) := by decide +kernel
theorem dX5_firstYear_50 : decode cX5_firstYear 50 = .ok (.aload_n 0, 1) := by decide +kernel
theorem dX5_firstYear_51 : decode cX5_firstYear 51 = .ok (.iload_n 1, 1) := by decide +kernel
theorem dX5_firstYear_52 : decode cX5_firstYear 52 = .ok (.aload_n 0, 1) := by decide +kernel
theorem dX5_firstYear_53 : decode cX5_firstYear 53 = .ok (.getfield 46, 3) := by decide +kernel
theorem dX5_firstYear_56 : decode cX5_firstYear 56 = .ok (.invokevirtual 83, 3) := by decide +kernel
theorem dX5_firstYear_59 : decode cX5_firstYear 59 = .ok (.iadd, 1) := by decide +kernel
theorem dX5_firstYear_60 : decode cX5_firstYear 60 = .ok (.ireturn, 1) := by decide +kernel
theorem dX5_firstYear_61 : decode cX5_firstYear 61 = .ok (.aload_n 0, 1) := by decide +kernel
theorem dX5_firstYear_62 : decode cX5_firstYear 62 = .ok (.getfield 12, 3) := by decide +kernel
theorem dX5_firstYear_65 : decode cX5_firstYear 65 = .ok (.aload_n 0, 1) := by decide +kernel
theorem dX5_firstYear_66 : decode cX5_firstYear 66 = .ok (.getfield 34, 3) := by decide +kernel
theorem dX5_firstYear_69 : decode cX5_firstYear 69 = .ok (.iload_n 1, 1) := by decide +kernel
theorem dX5_firstYear_70 : decode cX5_firstYear 70 = .ok (.iaload, 1) := by decide +kernel
theorem dX5_firstYear_71 : decode cX5_firstYear 71 = .ok (.aload_n 0, 1) := by decide +kernel
theorem dX5_firstYear_72 : decode cX5_firstYear 72 = .ok (.getfield 37, 3) := by decide +kernel
theorem dX5_firstYear_75 : decode cX5_firstYear 75 = .ok (.iload_n 1, 1) := by decide +kernel
theorem dX5_firstYear_76 : decode cX5_firstYear 76 = .ok (.iaload, 1) := by decide +kernel
theorem dX5_firstYear_77 : decode cX5_firstYear 77 = .ok (.invokevirtual 73, 3) := by decide +kernel
theorem dX5_firstYear_80 : decode cX5_firstYear 80 = .ok (.ifCond .eq 12, 3) := by decide +kernel
theorem dX5_firstYear_83 : decode cX5_firstYear 83 = .ok (.aload_n 0, 1) := by decide +kernel
theorem dX5_firstYear_84 : decode cX5_firstYear 84 = .ok (.getfield 40, 3) := by decide +kernel
theorem dX5_firstYear_87 : decode cX5_firstYear 87 = .ok (.iload_n 1, 1) := by decide +kernel
theorem dX5_firstYear_88 : decode cX5_firstYear 88 = .ok (.iaload, 1) := by decide +kernel
theorem dX5_firstYear_89 : decode cX5_firstYear 89 = .ok (.goto 6, 3) := by decide +kernel
theorem dX5_firstYear_92 : decode cX5_firstYear 92 = .ok (.sipush 1000, 3) := by decide +kernel
theorem dX5_firstYear_95 : decode cX5_firstYear 95 = .ok (.ireturn, 1) := by decide +kernel
theorem dX5_firstYear_96 : decode cX5_firstYear 96 = .ok (.aload_n 0, 1) := by decide +kernel
theorem dX5_firstYear_97 : decode cX5_firstYear 97 = .ok (.getfield 40, 3) := by decide +kernel
theorem dX5_firstYear_100 : decode cX5_firstYear 100 = .ok (.iload_n 1, 1) := by decide +kernel
theorem dX5_firstYear_101 : decode cX5_firstYear 101 = .ok (.iaload, 1) := by decide +kernel
theorem dX5_firstYear_102 : decode cX5_firstYear 102 = .ok (.ireturn, 1) := by decide +kernel
set_option maxRecDepth 20000 in
theorem ggX5_lastYear_X5_lacking : GoodIn wsX5_lastYear wsX5_lacking := goodIn_r _ [17, 10, 18, 19, 7, 20, 43, 44, 45, 46, 47, 48, 49, 50, 51, 52, 53, 54, 55, 56, 57] (by decide +kernel) (by decide +kernel)
set_option maxRecDepth 20000 in
theorem gX5_lastYear_X5_lacking : GoodIn wsX5_lastYear (wsV RX5 83 RX5 yX5_lacking wsX5_lacking) := goodIn_app (goodIn_of _ (by decide +kernel)) ggX5_lastYear_X5_lacking
set_option maxRecDepth 20000 in
theorem ggX5_lastYear_X6_isSure : GoodIn wsX5_lastYear wsX6_isSure := goodIn_r _ [25, 26, 27, 28, 24, 29, 30, 31, 32, 33, 34, 35, 36, 37, 38, 39, 40, 41, 7, 42, 58, 59] (by decide +kernel) (by decide +kernel)
set_option maxRecDepth 20000 in
theorem gX5_lastYear_X6_isSure : GoodIn wsX5_lastYear (wsV RX5 73 RX6 yX6_isSure wsX6_isSure) := goodIn_app (goodIn_of _ (by decide +kernel)) ggX5_lastYear_X6_isSure
theorem dX5_lastYear_0 : decode cX5_lastYear 0 = .ok (.aload_n 0, 1) := by decide +kernel
theorem dX5_lastYear_1 : decode cX5_lastYear 1 = .ok (.getfield 22, 3) := by decide +kernel
theorem dX5_lastYear_4 : decode cX5_lastYear 4 = .ok (.iload_n 1, 1) := by decide +kernel
theorem dX5_lastYear_5 : decode cX5_lastYear 5 = .ok (.iaload, 1) := by decide +kernel
theorem dX5_lastYear_6 : decode cX5_lastYear 6 = .ok (.tableswitch 93 1 3 #[26, 30, 58], 26) := by decide +kernel
theorem dX5_lastYear_32 : decode cX5_lastYear 32 = .ok (.sipush 2100, 3) := by decide +kernel
theorem dX5_lastYear_35 : decode cX5_lastYear 35 = .ok (.ireturn, 1) := by decide +kernel
theorem dX5_lastYear_36 : decode cX5_lastYear 36 = .ok (.sipush 2100, 3) := by decide +kernel
theorem dX5_lastYear_39 : decode cX5_lastYear 39 = .ok (.aload_n 0, 1) := by decide +kernel
theorem dX5_lastYear_40 : decode cX5_lastYear 40 = .ok (.getfield 40, 3) := by decide +kernel
theorem dX5_lastYear_43 : decode cX5_lastYear 43 = .ok (.iload_n 1, 1) := by decide +kernel
theorem dX5_lastYear_44 : decode cX5_lastYear 44 = .ok (.iaload, 1) := by decide +kernel
theorem dX5_lastYear_45 : decode cX5_lastYear 45 = .ok (.aload_n 0, 1) := by decide +kernel
theorem dX5_lastYear_46 : decode cX5_lastYear 46 = .ok (.iload_n 1, 1) := by decide +kernel
theorem dX5_lastYear_47 : decode cX5_lastYear 47 = .ok (.aload_n 0, 1) := by decide +kernel
theorem dX5_lastYear_48 : decode cX5_lastYear 48 = .ok (.getfield 50, 3) := by decide +kernel
theorem dX5_lastYear_51 : decode cX5_lastYear 51 = .ok (.invokevirtual 83, 3) := by decide +kernel
theorem dX5_lastYear_54 : decode cX5_lastYear 54 = .ok (.iadd, 1) := by decide +kernel
theorem dX5_lastYear_55 : decode cX5_lastYear 55 = .ok (.aload_n 0, 1) := by decide +kernel
theorem dX5_lastYear_56 : decode cX5_lastYear 56 = .ok (.getfield 53, 3) := by decide +kernel
theorem dX5_lastYear_59 : decode cX5_lastYear 59 = .ok (.iadd, 1) := by decide +kernel
theorem dX5_lastYear_60 : decode cX5_lastYear 60 = .ok (.invokestatic 86, 3) := by decide +kernel
theorem dX5_lastYear_63 : decode cX5_lastYear 63 = .ok (.ireturn, 1) := by decide +kernel
theorem dX5_lastYear_64 : decode cX5_lastYear 64 = .ok (.aload_n 0, 1) := by decide +kernel
theorem dX5_lastYear_65 : decode cX5_lastYear 65 = .ok (.getfield 12, 3) := by decide +kernel
theorem dX5_lastYear_68 : decode cX5_lastYear 68 = .ok (.aload_n 0, 1) := by decide +kernel
theorem dX5_lastYear_69 : decode cX5_lastYear 69 = .ok (.getfield 34, 3) := by decide +kernel
theorem dX5_lastYear_72 : decode cX5_lastYear 72 = .ok (.iload_n 1, 1) := by decide +kernel
theorem dX5_lastYear_73 : decode cX5_lastYear 73 = .ok (.iaload, 1) := by decide +kernel
theorem dX5_lastYear_74 : decode cX5_lastYear 74 = .ok (.aload_n 0, 1) := by decide +kernel
theorem dX5_lastYear_75 : decode cX5_lastYear 75 = .ok (.getfield 37, 3) := by decide +kernel
theorem dX5_lastYear_78 : decode cX5_lastYear 78 = .ok (.iload_n 1, 1) := by decide +kernel
theorem dX5_lastYear_79 : decode cX5_lastYear 79 = .ok (.iaload, 1) := by decide +kernel
theorem dX5_lastYear_80 : decode cX5_lastYear 80 = .ok (.invokevirtual 73, 3) := by decide +kernel
theorem dX5_lastYear_83 : decode cX5_lastYear 83 = .ok (.ifCond .eq 12, 3) := by decide +kernel
theorem dX5_lastYear_86 : decode cX5_lastYear 86 = .ok (.aload_n 0, 1) := by decide +kernel
theorem dX5_lastYear_87 : decode cX5_lastYear 87 = .ok (.getfield 43, 3) := by decide +kernel
theorem dX5_lastYear_90 : decode cX5_lastYear 90 = .ok (.iload_n 1, 1) := by decide +kernel
theorem dX5_lastYear_91 : decode cX5_lastYear 91 = .ok (.iaload, 1) := by decide +kernel
theorem dX5_lastYear_92 : decode cX5_lastYear 92 = .ok (.goto 6, 3) := by decide +kernel
theorem dX5_lastYear_95 : decode cX5_lastYear 95 = .ok (.sipush 2100, 3) := by decide +kernel
theorem dX5_lastYear_98 : decode cX5_lastYear 98 = .ok (.ireturn, 1) := by decide +kernel
theorem dX5_lastYear_99 : decode cX5_lastYear 99 = .ok (.aload_n 0, 1) := by decide +kernel
theorem dX5_lastYear_100 : decode cX5_lastYear 100 = .ok (.getfield 43, 3) := by decide +kernel
theorem dX5_lastYear_103 : decode cX5_lastYear 103 = .ok (.iload_n 1, 1) := by decide +kernel
theorem dX5_lastYear_104 : decode cX5_lastYear 104 = .ok (.iaload, 1) := by decide +kernel
theorem dX5_lastYear_105 : decode cX5_lastYear 105 = .ok (.ireturn, 1) := by decide +kernel
set_option maxRecDepth 20000 in
theorem ggX5_isKnown_X5_isStruck : GoodIn wsX5_isKnown wsX5_isStruck := goodIn_r _ [7, 2, 8, 9, 10, 11, 12, 13, 14, 15, 16, 17, 18, 19, 20, 21, 22] (by decide +kernel) (by decide +kernel)
set_option maxRecDepth 20000 in
theorem gX5_isKnown_X5_isStruck : GoodIn wsX5_isKnown (wsV RX5 89 RX5 yX5_isStruck wsX5_isStruck) := goodIn_app (goodIn_of _ (by decide +kernel)) ggX5_isKnown_X5_isStruck
theorem dX5_isKnown_0 : decode cX5_isKnown 0 = .ok (.aload_n 0, 1) := by decide +kernel
theorem dX5_isKnown_1 : decode cX5_isKnown 1 = .ok (.getfield 28, 3) := by decide +kernel
theorem dX5_isKnown_4 : decode cX5_isKnown 4 = .ok (.iload_n 1, 1) := by decide +kernel
theorem dX5_isKnown_5 : decode cX5_isKnown 5 = .ok (.iaload, 1) := by decide +kernel
theorem dX5_isKnown_6 : decode cX5_isKnown 6 = .ok (.iload_n 2, 1) := by decide +kernel
theorem dX5_isKnown_7 : decode cX5_isKnown 7 = .ok (.if_icmp .gt 25, 3) := by decide +kernel
theorem dX5_isKnown_10 : decode cX5_isKnown 10 = .ok (.aload_n 0, 1) := by decide +kernel
theorem dX5_isKnown_11 : decode cX5_isKnown 11 = .ok (.iload_n 1, 1) := by decide +kernel
theorem dX5_isKnown_12 : decode cX5_isKnown 12 = .ok (.invokevirtual 89, 3) := by decide +kernel
theorem dX5_isKnown_15 : decode cX5_isKnown 15 = .ok (.ifCond .eq 13, 3) := by decide +kernel
theorem dX5_isKnown_18 : decode cX5_isKnown 18 = .ok (.iload_n 2, 1) := by decide +kernel
theorem dX5_isKnown_19 : decode cX5_isKnown 19 = .ok (.aload_n 0, 1) := by decide +kernel
theorem dX5_isKnown_20 : decode cX5_isKnown 20 = .ok (.getfield 31, 3) := by decide +kernel
theorem dX5_isKnown_23 : decode cX5_isKnown 23 = .ok (.iload_n 1, 1) := by decide +kernel
theorem dX5_isKnown_24 : decode cX5_isKnown 24 = .ok (.iaload, 1) := by decide +kernel
theorem dX5_isKnown_25 : decode cX5_isKnown 25 = .ok (.if_icmp .ge 7, 3) := by decide +kernel
theorem dX5_isKnown_28 : decode cX5_isKnown 28 = .ok (.iconst 1, 1) := by decide +kernel
theorem dX5_isKnown_29 : decode cX5_isKnown 29 = .ok (.goto 4, 3) := by decide +kernel
theorem dX5_isKnown_32 : decode cX5_isKnown 32 = .ok (.iconst 0, 1) := by decide +kernel
theorem dX5_isKnown_33 : decode cX5_isKnown 33 = .ok (.ireturn, 1) := by decide +kernel
set_option maxRecDepth 20000 in
theorem ggX5_gather_X5_isKnown : GoodIn wsX5_gather wsX5_isKnown := goodIn_r _ [8, 9, 10, 11, 12, 13, 7, 14, 81, 82, 83, 84, 85, 86, 87, 88, 89, 90, 91, 92, 93, 94, 95] (by decide +kernel) (by decide +kernel)
set_option maxRecDepth 20000 in
theorem gX5_gather_X5_isKnown : GoodIn wsX5_gather (wsV RX5 96 RX5 yX5_isKnown wsX5_isKnown) := goodIn_app (goodIn_of _ (by decide +kernel)) ggX5_gather_X5_isKnown
set_option maxRecDepth 20000 in
theorem ggX5_gather_X5_firstYear : GoodIn wsX5_gather wsX5_firstYear := goodIn_r _ [18, 19, 20, 21, 22, 23, 24, 25, 26, 27, 28, 7, 29, 30, 31, 32, 33, 34, 35, 36, 37, 38, 39, 40, 41, 42, 43, 44, 45, 46, 47, 48, 49, 50, 51, 52, 53, 54, 55, 81, 82, 83, 84, 85, 86, 87, 88, 89, 90, 91, 92, 93, 94, 95, 96, 97] (by decide +kernel) (by decide +kernel)
set_option maxRecDepth 20000 in
theorem gX5_gather_X5_firstYear : GoodIn wsX5_gather (wsV RX5 66 RX5 yX5_firstYear wsX5_firstYear) := goodIn_app (goodIn_of _ (by decide +kernel)) ggX5_gather_X5_firstYear
set_option maxRecDepth 20000 in
theorem ggX5_gather_X5_lastYear : GoodIn wsX5_gather wsX5_lastYear := goodIn_r _ [59, 19, 22, 60, 61, 62, 63, 32, 64, 24, 21, 25, 65, 26, 27, 28, 7, 29, 30, 31, 33, 34, 35, 36, 37, 38, 39, 40, 41, 42, 43, 44, 45, 46, 47, 48, 49, 50, 51, 52, 53, 54, 55, 81, 82, 83, 84, 85, 86, 87, 88, 89, 90, 91, 92, 93, 94, 95, 96, 97] (by decide +kernel) (by decide +kernel)
set_option maxRecDepth 20000 in
theorem gX5_gather_X5_lastYear : GoodIn wsX5_gather (wsV RX5 70 RX5 yX5_lastYear wsX5_lastYear) := goodIn_app (goodIn_of _ (by decide +kernel)) ggX5_gather_X5_lastYear
set_option maxRecDepth 20000 in
theorem ggX5_gather_X1_add : GoodIn wsX5_gather wsX1_add := goodIn_r _ [70, 71, 72, 73, 74, 75, 76, 77, 78, 79, 80] (by decide +kernel) (by decide +kernel)
set_option maxRecDepth 20000 in
theorem gX5_gather_X1_add : GoodIn wsX5_gather (wsV RX5 99 RX1 yX1_add wsX1_add) := goodIn_app (goodIn_of _ (by decide +kernel)) ggX5_gather_X1_add
theorem dX5_gather_0 : decode cX5_gather 0 = .ok (.aload_n 2, 1) := by decide +kernel
theorem dX5_gather_1 : decode cX5_gather 1 = .ok (.iconst 0, 1) := by decide +kernel
theorem dX5_gather_2 : decode cX5_gather 2 = .ok (.putfield 93, 3) := by decide +kernel
theorem dX5_gather_5 : decode cX5_gather 5 = .ok (.iconst 0, 1) := by decide +kernel
theorem dX5_gather_6 : decode cX5_gather 6 = .ok (.istore_n 3, 1) := by decide +kernel
theorem dX5_gather_7 : decode cX5_gather 7 = .ok (.iload_n 3, 1) := by decide +kernel
theorem dX5_gather_8 : decode cX5_gather 8 = .ok (.aload_n 0, 1) := by decide +kernel
theorem dX5_gather_9 : decode cX5_gather 9 = .ok (.getfield 56, 3) := by decide +kernel
theorem dX5_gather_12 : decode cX5_gather 12 = .ok (.if_icmp .ge 39, 3) := by decide +kernel
theorem dX5_gather_15 : decode cX5_gather 15 = .ok (.aload_n 0, 1) := by decide +kernel
theorem dX5_gather_16 : decode cX5_gather 16 = .ok (.iload_n 3, 1) := by decide +kernel
theorem dX5_gather_17 : decode cX5_gather 17 = .ok (.iload_n 1, 1) := by decide +kernel
theorem dX5_gather_18 : decode cX5_gather 18 = .ok (.invokevirtual 96, 3) := by decide +kernel
theorem dX5_gather_21 : decode cX5_gather 21 = .ok (.ifCond .eq 24, 3) := by decide +kernel
theorem dX5_gather_24 : decode cX5_gather 24 = .ok (.aload_n 2, 1) := by decide +kernel
theorem dX5_gather_25 : decode cX5_gather 25 = .ok (.iload_n 3, 1) := by decide +kernel
theorem dX5_gather_26 : decode cX5_gather 26 = .ok (.aload_n 0, 1) := by decide +kernel
theorem dX5_gather_27 : decode cX5_gather 27 = .ok (.iload_n 3, 1) := by decide +kernel
theorem dX5_gather_28 : decode cX5_gather 28 = .ok (.invokevirtual 66, 3) := by decide +kernel
theorem dX5_gather_31 : decode cX5_gather 31 = .ok (.aload_n 0, 1) := by decide +kernel
theorem dX5_gather_32 : decode cX5_gather 32 = .ok (.iload_n 3, 1) := by decide +kernel
theorem dX5_gather_33 : decode cX5_gather 33 = .ok (.invokevirtual 70, 3) := by decide +kernel
theorem dX5_gather_36 : decode cX5_gather 36 = .ok (.aload_n 0, 1) := by decide +kernel
theorem dX5_gather_37 : decode cX5_gather 37 = .ok (.getfield 25, 3) := by decide +kernel
theorem dX5_gather_40 : decode cX5_gather 40 = .ok (.iload_n 3, 1) := by decide +kernel
theorem dX5_gather_41 : decode cX5_gather 41 = .ok (.iaload, 1) := by decide +kernel
theorem dX5_gather_42 : decode cX5_gather 42 = .ok (.invokevirtual 99, 3) := by decide +kernel
theorem dX5_gather_45 : decode cX5_gather 45 = .ok (.iinc 3 1, 3) := by decide +kernel
theorem dX5_gather_48 : decode cX5_gather 48 = .ok (.goto (-41), 3) := by decide +kernel
theorem dX5_gather_51 : decode cX5_gather 51 = .ok (.return_, 1) := by decide +kernel
theorem dX5_mixPaintsInto_0 : decode cX5_mixPaintsInto 0 = .ok (.iconst 0, 1) := by decide +kernel
theorem dX5_mixPaintsInto_1 : decode cX5_mixPaintsInto 1 = .ok (.istore_n 3, 1) := by decide +kernel
theorem dX5_mixPaintsInto_2 : decode cX5_mixPaintsInto 2 = .ok (.iload_n 3, 1) := by decide +kernel
theorem dX5_mixPaintsInto_3 : decode cX5_mixPaintsInto 3 = .ok (.bipush 10, 2) := by decide +kernel
theorem dX5_mixPaintsInto_5 : decode cX5_mixPaintsInto 5 = .ok (.if_icmp .ge 23, 3) := by decide +kernel
theorem dX5_mixPaintsInto_8 : decode cX5_mixPaintsInto 8 = .ok (.ldc2_w 102, 3) := by decide +kernel
theorem dX5_mixPaintsInto_11 : decode cX5_mixPaintsInto 11 = .ok (.lload_n 1, 1) := by decide +kernel
theorem dX5_mixPaintsInto_12 : decode cX5_mixPaintsInto 12 = .ok (.lmul, 1) := by decide +kernel
theorem dX5_mixPaintsInto_13 : decode cX5_mixPaintsInto 13 = .ok (.aload_n 0, 1) := by decide +kernel
theorem dX5_mixPaintsInto_14 : decode cX5_mixPaintsInto 14 = .ok (.getfield 18, 3) := by decide +kernel
theorem dX5_mixPaintsInto_17 : decode cX5_mixPaintsInto 17 = .ok (.iload_n 3, 1) := by decide +kernel
theorem dX5_mixPaintsInto_18 : decode cX5_mixPaintsInto 18 = .ok (.iaload, 1) := by decide +kernel
theorem dX5_mixPaintsInto_19 : decode cX5_mixPaintsInto 19 = .ok (.i2l, 1) := by decide +kernel
theorem dX5_mixPaintsInto_20 : decode cX5_mixPaintsInto 20 = .ok (.ladd, 1) := by decide +kernel
theorem dX5_mixPaintsInto_21 : decode cX5_mixPaintsInto 21 = .ok (.lstore_n 1, 1) := by decide +kernel
theorem dX5_mixPaintsInto_22 : decode cX5_mixPaintsInto 22 = .ok (.iinc 3 1, 3) := by decide +kernel
theorem dX5_mixPaintsInto_25 : decode cX5_mixPaintsInto 25 = .ok (.goto (-23), 3) := by decide +kernel
theorem dX5_mixPaintsInto_28 : decode cX5_mixPaintsInto 28 = .ok (.lload_n 1, 1) := by decide +kernel
theorem dX5_mixPaintsInto_29 : decode cX5_mixPaintsInto 29 = .ok (.lreturn, 1) := by decide +kernel
end
section
theorem dX6_init_0 : decode cX6_init 0 = .ok (.aload_n 0, 1) := by decide +kernel
theorem dX6_init_1 : decode cX6_init 1 = .ok (.invokespecial 3, 3) := by decide +kernel
theorem dX6_init_4 : decode cX6_init 4 = .ok (.aload_n 0, 1) := by decide +kernel
theorem dX6_init_5 : decode cX6_init 5 = .ok (.bipush 6, 2) := by decide +kernel
theorem dX6_init_7 : decode cX6_init 7 = .ok (.newarray .int, 2) := by decide +kernel
theorem dX6_init_9 : decode cX6_init 9 = .ok (.putfield 9, 3) := by decide +kernel
theorem dX6_init_12 : decode cX6_init 12 = .ok (.aload_n 0, 1) := by decide +kernel
theorem dX6_init_13 : decode cX6_init 13 = .ok (.sipush 240, 3) := by decide +kernel
theorem dX6_init_16 : decode cX6_init 16 = .ok (.newarray .byte, 2) := by decide +kernel
theorem dX6_init_18 : decode cX6_init 18 = .ok (.putfield 15, 3) := by decide +kernel
theorem dX6_init_21 : decode cX6_init 21 = .ok (.iconst 0, 1) := by decide +kernel
theorem dX6_init_22 : decode cX6_init 22 = .ok (.istore_n 1, 1) := by decide +kernel
theorem dX6_init_23 : decode cX6_init 23 = .ok (.iload_n 1, 1) := by decide +kernel
theorem dX6_init_24 : decode cX6_init 24 = .ok (.bipush 6, 2) := by decide +kernel
theorem dX6_init_26 : decode cX6_init 26 = .ok (.if_icmp .ge 16, 3) := by decide +kernel
theorem dX6_init_29 : decode cX6_init 29 = .ok (.aload_n 0, 1) := by decide +kernel
theorem dX6_init_30 : decode cX6_init 30 = .ok (.getfield 9, 3) := by decide +kernel
theorem dX6_init_33 : decode cX6_init 33 = .ok (.iload_n 1, 1) := by decide +kernel
theorem dX6_init_34 : decode cX6_init 34 = .ok (.iconst (-1), 1) := by decide +kernel
theorem dX6_init_35 : decode cX6_init 35 = .ok (.iastore, 1) := by decide +kernel
theorem dX6_init_36 : decode cX6_init 36 = .ok (.iinc 1 1, 3) := by decide +kernel
theorem dX6_init_39 : decode cX6_init 39 = .ok (.goto (-16), 3) := by decide +kernel
theorem dX6_init_42 : decode cX6_init 42 = .ok (.return_, 1) := by decide +kernel
theorem dX6_isMissing_0 : decode cX6_isMissing 0 = .ok (.aload_n 0, 1) := by decide +kernel
theorem dX6_isMissing_1 : decode cX6_isMissing 1 = .ok (.getfield 9, 3) := by decide +kernel
theorem dX6_isMissing_4 : decode cX6_isMissing 4 = .ok (.iload_n 1, 1) := by decide +kernel
theorem dX6_isMissing_5 : decode cX6_isMissing 5 = .ok (.iaload, 1) := by decide +kernel
theorem dX6_isMissing_6 : decode cX6_isMissing 6 = .ok (.iconst (-1), 1) := by decide +kernel
theorem dX6_isMissing_7 : decode cX6_isMissing 7 = .ok (.if_icmp .ne 7, 3) := by decide +kernel
theorem dX6_isMissing_10 : decode cX6_isMissing 10 = .ok (.iconst 1, 1) := by decide +kernel
theorem dX6_isMissing_11 : decode cX6_isMissing 11 = .ok (.goto 4, 3) := by decide +kernel
theorem dX6_isMissing_14 : decode cX6_isMissing 14 = .ok (.iconst 0, 1) := by decide +kernel
theorem dX6_isMissing_15 : decode cX6_isMissing 15 = .ok (.ireturn, 1) := by decide +kernel
theorem dX6_hasRun_0 : decode cX6_hasRun 0 = .ok (.iload_n 2, 1) := by decide +kernel
theorem dX6_hasRun_1 : decode cX6_hasRun 1 = .ok (.ifCond .lt 33, 3) := by decide +kernel
theorem dX6_hasRun_4 : decode cX6_hasRun 4 = .ok (.iload_n 2, 1) := by decide +kernel
theorem dX6_hasRun_5 : decode cX6_hasRun 5 = .ok (.aload_n 0, 1) := by decide +kernel
theorem dX6_hasRun_6 : decode cX6_hasRun 6 = .ok (.getfield 9, 3) := by decide +kernel
theorem dX6_hasRun_9 : decode cX6_hasRun 9 = .ok (.iload_n 1, 1) := by decide +kernel
theorem dX6_hasRun_10 : decode cX6_hasRun 10 = .ok (.iaload, 1) := by decide +kernel
theorem dX6_hasRun_11 : decode cX6_hasRun 11 = .ok (.if_icmp .gt 23, 3) := by decide +kernel
theorem dX6_hasRun_14 : decode cX6_hasRun 14 = .ok (.iload_n 3, 1) := by decide +kernel
theorem dX6_hasRun_15 : decode cX6_hasRun 15 = .ok (.ifCond .lt 19, 3) := by decide +kernel
theorem dX6_hasRun_18 : decode cX6_hasRun 18 = .ok (.iload_n 3, 1) := by decide +kernel
theorem dX6_hasRun_19 : decode cX6_hasRun 19 = .ok (.aload_n 0, 1) := by decide +kernel
theorem dX6_hasRun_20 : decode cX6_hasRun 20 = .ok (.getfield 9, 3) := by decide +kernel
theorem dX6_hasRun_23 : decode cX6_hasRun 23 = .ok (.iload_n 1, 1) := by decide +kernel
theorem dX6_hasRun_24 : decode cX6_hasRun 24 = .ok (.iaload, 1) := by decide +kernel
theorem dX6_hasRun_25 : decode cX6_hasRun 25 = .ok (.iload_n 2, 1) := by decide +kernel
theorem dX6_hasRun_26 : decode cX6_hasRun 26 = .ok (.isub, 1) := by decide +kernel
theorem dX6_hasRun_27 : decode cX6_hasRun 27 = .ok (.if_icmp .gt 7, 3) := by decide +kernel
theorem dX6_hasRun_30 : decode cX6_hasRun 30 = .ok (.iconst 1, 1) := by decide +kernel
theorem dX6_hasRun_31 : decode cX6_hasRun 31 = .ok (.goto 4, 3) := by decide +kernel
theorem dX6_hasRun_34 : decode cX6_hasRun 34 = .ok (.iconst 0, 1) := by decide +kernel
theorem dX6_hasRun_35 : decode cX6_hasRun 35 = .ok (.ireturn, 1) := by decide +kernel
theorem dX6_make_0 : decode cX6_make 0 = .ok (.aload_n 0, 1) := by decide +kernel
theorem dX6_make_1 : decode cX6_make 1 = .ok (.getfield 9, 3) := by decide +kernel
theorem dX6_make_4 : decode cX6_make 4 = .ok (.iload_n 1, 1) := by decide +kernel
theorem dX6_make_5 : decode cX6_make 5 = .ok (.iload_n 2, 1) := by decide +kernel
theorem dX6_make_6 : decode cX6_make 6 = .ok (.iastore, 1) := by decide +kernel
theorem dX6_make_7 : decode cX6_make 7 = .ok (.iconst 0, 1) := by decide +kernel
theorem dX6_make_8 : decode cX6_make 8 = .ok (.istore_n 3, 1) := by decide +kernel
theorem dX6_make_9 : decode cX6_make 9 = .ok (.iload_n 3, 1) := by decide +kernel
theorem dX6_make_10 : decode cX6_make 10 = .ok (.iload_n 2, 1) := by decide +kernel
theorem dX6_make_11 : decode cX6_make 11 = .ok (.if_icmp .ge 21, 3) := by decide +kernel
theorem dX6_make_14 : decode cX6_make 14 = .ok (.aload_n 0, 1) := by decide +kernel
theorem dX6_make_15 : decode cX6_make 15 = .ok (.getfield 15, 3) := by decide +kernel
theorem dX6_make_18 : decode cX6_make 18 = .ok (.iload_n 1, 1) := by decide +kernel
theorem dX6_make_19 : decode cX6_make 19 = .ok (.bipush 40, 2) := by decide +kernel
theorem dX6_make_21 : decode cX6_make 21 = .ok (.imul, 1) := by decide +kernel
theorem dX6_make_22 : decode cX6_make 22 = .ok (.iload_n 3, 1) := by decide +kernel
theorem dX6_make_23 : decode cX6_make 23 = .ok (.iadd, 1) := by decide +kernel
theorem dX6_make_24 : decode cX6_make 24 = .ok (.iconst 0, 1) := by decide +kernel
theorem dX6_make_25 : decode cX6_make 25 = .ok (.bastore, 1) := by decide +kernel
theorem dX6_make_26 : decode cX6_make 26 = .ok (.iinc 3 1, 3) := by decide +kernel
theorem dX6_make_29 : decode cX6_make 29 = .ok (.goto (-20), 3) := by decide +kernel
theorem dX6_make_32 : decode cX6_make 32 = .ok (.return_, 1) := by decide +kernel
theorem dX6_drop_0 : decode cX6_drop 0 = .ok (.aload_n 0, 1) := by decide +kernel
theorem dX6_drop_1 : decode cX6_drop 1 = .ok (.getfield 9, 3) := by decide +kernel
theorem dX6_drop_4 : decode cX6_drop 4 = .ok (.iload_n 1, 1) := by decide +kernel
theorem dX6_drop_5 : decode cX6_drop 5 = .ok (.iconst (-1), 1) := by decide +kernel
theorem dX6_drop_6 : decode cX6_drop 6 = .ok (.iastore, 1) := by decide +kernel
theorem dX6_drop_7 : decode cX6_drop 7 = .ok (.return_, 1) := by decide +kernel
theorem dX6_swap_0 : decode cX6_swap 0 = .ok (.aload_n 0, 1) := by decide +kernel
theorem dX6_swap_1 : decode cX6_swap 1 = .ok (.getfield 15, 3) := by decide +kernel
theorem dX6_swap_4 : decode cX6_swap 4 = .ok (.iload_n 1, 1) := by decide +kernel
theorem dX6_swap_5 : decode cX6_swap 5 = .ok (.bipush 40, 2) := by decide +kernel
theorem dX6_swap_7 : decode cX6_swap 7 = .ok (.imul, 1) := by decide +kernel
theorem dX6_swap_8 : decode cX6_swap 8 = .ok (.iload_n 2, 1) := by decide +kernel
theorem dX6_swap_9 : decode cX6_swap 9 = .ok (.iadd, 1) := by decide +kernel
theorem dX6_swap_10 : decode cX6_swap 10 = .ok (.baload, 1) := by decide +kernel
theorem dX6_swap_11 : decode cX6_swap 11 = .ok (.istore 4, 2) := by decide +kernel
theorem dX6_swap_13 : decode cX6_swap 13 = .ok (.aload_n 0, 1) := by decide +kernel
theorem dX6_swap_14 : decode cX6_swap 14 = .ok (.getfield 15, 3) := by decide +kernel
theorem dX6_swap_17 : decode cX6_swap 17 = .ok (.iload_n 1, 1) := by decide +kernel
theorem dX6_swap_18 : decode cX6_swap 18 = .ok (.bipush 40, 2) := by decide +kernel
theorem dX6_swap_20 : decode cX6_swap 20 = .ok (.imul, 1) := by decide +kernel
theorem dX6_swap_21 : decode cX6_swap 21 = .ok (.iload_n 2, 1) := by decide +kernel
theorem dX6_swap_22 : decode cX6_swap 22 = .ok (.iadd, 1) := by decide +kernel
theorem dX6_swap_23 : decode cX6_swap 23 = .ok (.iload_n 3, 1) := by decide +kernel
theorem dX6_swap_24 : decode cX6_swap 24 = .ok (.bastore, 1) := by decide +kernel
theorem dX6_swap_25 : decode cX6_swap 25 = .ok (.iload 4, 2) := by decide +kernel
theorem dX6_swap_27 : decode cX6_swap 27 = .ok (.ireturn, 1) := by decide +kernel
theorem dX6_move_0 : decode cX6_move 0 = .ok (.aload_n 0, 1) := by decide +kernel
theorem dX6_move_1 : decode cX6_move 1 = .ok (.getfield 15, 3) := by decide +kernel
theorem dX6_move_4 : decode cX6_move 4 = .ok (.iload_n 1, 1) := by decide +kernel
theorem dX6_move_5 : decode cX6_move 5 = .ok (.bipush 40, 2) := by decide +kernel
theorem dX6_move_7 : decode cX6_move 7 = .ok (.imul, 1) := by decide +kernel
theorem dX6_move_8 : decode cX6_move 8 = .ok (.iload_n 2, 1) := by decide +kernel
theorem dX6_move_9 : decode cX6_move 9 = .ok (.iadd, 1) := by decide +kernel
theorem dX6_move_10 : decode cX6_move 10 = .ok (.aload_n 0, 1) := by decide +kernel
theorem dX6_move_11 : decode cX6_move 11 = .ok (.getfield 15, 3) := by decide +kernel
theorem dX6_move_14 : decode cX6_move 14 = .ok (.iload_n 3, 1) := by decide +kernel
theorem dX6_move_15 : decode cX6_move 15 = .ok (.bipush 40, 2) := by decide +kernel
theorem dX6_move_17 : decode cX6_move 17 = .ok (.imul, 1) := by decide +kernel
theorem dX6_move_18 : decode cX6_move 18 = .ok (.iload 4, 2) := by decide +kernel
theorem dX6_move_20 : decode cX6_move 20 = .ok (.iadd, 1) := by decide +kernel
theorem dX6_move_21 : decode cX6_move 21 = .ok (.iload 5, 2) := by decide +kernel
theorem dX6_move_23 : decode cX6_move 23 = .ok (.invokestatic 19, 3) := by decide +kernel
theorem dX6_move_26 : decode cX6_move 26 = .ok (.return_, 1) := by decide +kernel
theorem dX6_canMatch_0 : decode cX6_canMatch 0 = .ok (.aload_n 0, 1) := by decide +kernel
theorem dX6_canMatch_1 : decode cX6_canMatch 1 = .ok (.getfield 9, 3) := by decide +kernel
theorem dX6_canMatch_4 : decode cX6_canMatch 4 = .ok (.iload_n 1, 1) := by decide +kernel
theorem dX6_canMatch_5 : decode cX6_canMatch 5 = .ok (.iaload, 1) := by decide +kernel
theorem dX6_canMatch_6 : decode cX6_canMatch 6 = .ok (.ifCond .le 22, 3) := by decide +kernel
theorem dX6_canMatch_9 : decode cX6_canMatch 9 = .ok (.aload_n 0, 1) := by decide +kernel
theorem dX6_canMatch_10 : decode cX6_canMatch 10 = .ok (.getfield 9, 3) := by decide +kernel
theorem dX6_canMatch_13 : decode cX6_canMatch 13 = .ok (.iload_n 2, 1) := by decide +kernel
theorem dX6_canMatch_14 : decode cX6_canMatch 14 = .ok (.iaload, 1) := by decide +kernel
theorem dX6_canMatch_15 : decode cX6_canMatch 15 = .ok (.aload_n 0, 1) := by decide +kernel
theorem dX6_canMatch_16 : decode cX6_canMatch 16 = .ok (.getfield 9, 3) := by decide +kernel
theorem dX6_canMatch_19 : decode cX6_canMatch 19 = .ok (.iload_n 1, 1) := by decide +kernel
theorem dX6_canMatch_20 : decode cX6_canMatch 20 = .ok (.iaload, 1) := by decide +kernel
theorem dX6_canMatch_21 : decode cX6_canMatch 21 = .ok (.if_icmp .lt 7, 3) := by decide +kernel
theorem dX6_canMatch_24 : decode cX6_canMatch 24 = .ok (.iconst 1, 1) := by decide +kernel
theorem dX6_canMatch_25 : decode cX6_canMatch 25 = .ok (.goto 4, 3) := by decide +kernel
theorem dX6_canMatch_28 : decode cX6_canMatch 28 = .ok (.iconst 0, 1) := by decide +kernel
theorem dX6_canMatch_29 : decode cX6_canMatch 29 = .ok (.ireturn, 1) := by decide +kernel
set_option maxRecDepth 20000 in
theorem ggX6_bestPlace_X6_offAt : GoodIn wsX6_bestPlace wsX6_offAt := goodIn_r _ [6, 1, 7, 8, 9, 10, 11, 12, 13] (by decide +kernel) (by decide +kernel)
set_option maxRecDepth 20000 in
theorem gX6_bestPlace_X6_offAt : GoodIn wsX6_bestPlace (wsV RX6 25 RX6 yX6_offAt wsX6_offAt) := goodIn_app (goodIn_of _ (by decide +kernel)) ggX6_bestPlace_X6_offAt
theorem dX6_bestPlace_0 : decode cX6_bestPlace 0 = .ok (.iconst 0, 1) := by decide +kernel
theorem dX6_bestPlace_1 : decode cX6_bestPlace 1 = .ok (.istore_n 3, 1) := by decide +kernel
theorem dX6_bestPlace_2 : decode cX6_bestPlace 2 = .ok (.aload_n 0, 1) := by decide +kernel
theorem dX6_bestPlace_3 : decode cX6_bestPlace 3 = .ok (.iload_n 1, 1) := by decide +kernel
theorem dX6_bestPlace_4 : decode cX6_bestPlace 4 = .ok (.iload_n 2, 1) := by decide +kernel
theorem dX6_bestPlace_5 : decode cX6_bestPlace 5 = .ok (.iconst 0, 1) := by decide +kernel
theorem dX6_bestPlace_6 : decode cX6_bestPlace 6 = .ok (.invokevirtual 25, 3) := by decide +kernel
theorem dX6_bestPlace_9 : decode cX6_bestPlace 9 = .ok (.istore 4, 2) := by decide +kernel
theorem dX6_bestPlace_11 : decode cX6_bestPlace 11 = .ok (.iconst 1, 1) := by decide +kernel
theorem dX6_bestPlace_12 : decode cX6_bestPlace 12 = .ok (.istore 5, 2) := by decide +kernel
theorem dX6_bestPlace_14 : decode cX6_bestPlace 14 = .ok (.iload 5, 2) := by decide +kernel
theorem dX6_bestPlace_16 : decode cX6_bestPlace 16 = .ok (.aload_n 0, 1) := by decide +kernel
theorem dX6_bestPlace_17 : decode cX6_bestPlace 17 = .ok (.getfield 9, 3) := by decide +kernel
theorem dX6_bestPlace_20 : decode cX6_bestPlace 20 = .ok (.iload_n 2, 1) := by decide +kernel
theorem dX6_bestPlace_21 : decode cX6_bestPlace 21 = .ok (.iaload, 1) := by decide +kernel
theorem dX6_bestPlace_22 : decode cX6_bestPlace 22 = .ok (.aload_n 0, 1) := by decide +kernel
theorem dX6_bestPlace_23 : decode cX6_bestPlace 23 = .ok (.getfield 9, 3) := by decide +kernel
theorem dX6_bestPlace_26 : decode cX6_bestPlace 26 = .ok (.iload_n 1, 1) := by decide +kernel
theorem dX6_bestPlace_27 : decode cX6_bestPlace 27 = .ok (.iaload, 1) := by decide +kernel
theorem dX6_bestPlace_28 : decode cX6_bestPlace 28 = .ok (.isub, 1) := by decide +kernel
theorem dX6_bestPlace_29 : decode cX6_bestPlace 29 = .ok (.if_icmp .gt 33, 3) := by decide +kernel
theorem dX6_bestPlace_32 : decode cX6_bestPlace 32 = .ok (.aload_n 0, 1) := by decide +kernel
theorem dX6_bestPlace_33 : decode cX6_bestPlace 33 = .ok (.iload_n 1, 1) := by decide +kernel
theorem dX6_bestPlace_34 : decode cX6_bestPlace 34 = .ok (.iload_n 2, 1) := by decide +kernel
theorem dX6_bestPlace_35 : decode cX6_bestPlace 35 = .ok (.iload 5, 2) := by decide +kernel
theorem dX6_bestPlace_37 : decode cX6_bestPlace 37 = .ok (.invokevirtual 25, 3) := by decide +kernel
theorem dX6_bestPlace_40 : decode cX6_bestPlace 40 = .ok (.istore 6, 2) := by decide +kernel
theorem dX6_bestPlace_42 : decode cX6_bestPlace 42 = .ok (.iload 6, 2) := by decide +kernel
theorem dX6_bestPlace_44 : decode cX6_bestPlace 44 = .ok (.iload 4, 2) := by decide +kernel
theorem dX6_bestPlace_46 : decode cX6_bestPlace 46 = .ok (.if_icmp .ge 10, 3) := by decide +kernel
theorem dX6_bestPlace_49 : decode cX6_bestPlace 49 = .ok (.iload 5, 2) := by decide +kernel
theorem dX6_bestPlace_51 : decode cX6_bestPlace 51 = .ok (.istore_n 3, 1) := by decide +kernel
theorem dX6_bestPlace_52 : decode cX6_bestPlace 52 = .ok (.iload 6, 2) := by decide +kernel
theorem dX6_bestPlace_54 : decode cX6_bestPlace 54 = .ok (.istore 4, 2) := by decide +kernel
theorem dX6_bestPlace_56 : decode cX6_bestPlace 56 = .ok (.iinc 5 1, 3) := by decide +kernel
theorem dX6_bestPlace_59 : decode cX6_bestPlace 59 = .ok (.goto (-45), 3) := by decide +kernel
theorem dX6_bestPlace_62 : decode cX6_bestPlace 62 = .ok (.iload_n 3, 1) := by decide +kernel
theorem dX6_bestPlace_63 : decode cX6_bestPlace 63 = .ok (.ireturn, 1) := by decide +kernel
theorem dX6_offAt_0 : decode cX6_offAt 0 = .ok (.iload_n 1, 1) := by decide +kernel
theorem dX6_offAt_1 : decode cX6_offAt 1 = .ok (.bipush 40, 2) := by decide +kernel
theorem dX6_offAt_3 : decode cX6_offAt 3 = .ok (.imul, 1) := by decide +kernel
theorem dX6_offAt_4 : decode cX6_offAt 4 = .ok (.istore 4, 2) := by decide +kernel
theorem dX6_offAt_6 : decode cX6_offAt 6 = .ok (.iload_n 2, 1) := by decide +kernel
theorem dX6_offAt_7 : decode cX6_offAt 7 = .ok (.bipush 40, 2) := by decide +kernel
theorem dX6_offAt_9 : decode cX6_offAt 9 = .ok (.imul, 1) := by decide +kernel
theorem dX6_offAt_10 : decode cX6_offAt 10 = .ok (.iload_n 3, 1) := by decide +kernel
theorem dX6_offAt_11 : decode cX6_offAt 11 = .ok (.iadd, 1) := by decide +kernel
theorem dX6_offAt_12 : decode cX6_offAt 12 = .ok (.istore 5, 2) := by decide +kernel
theorem dX6_offAt_14 : decode cX6_offAt 14 = .ok (.iconst 0, 1) := by decide +kernel
theorem dX6_offAt_15 : decode cX6_offAt 15 = .ok (.istore 6, 2) := by decide +kernel
theorem dX6_offAt_17 : decode cX6_offAt 17 = .ok (.iconst 0, 1) := by decide +kernel
theorem dX6_offAt_18 : decode cX6_offAt 18 = .ok (.istore 7, 2) := by decide +kernel
theorem dX6_offAt_20 : decode cX6_offAt 20 = .ok (.iload 7, 2) := by decide +kernel
theorem dX6_offAt_22 : decode cX6_offAt 22 = .ok (.aload_n 0, 1) := by decide +kernel
theorem dX6_offAt_23 : decode cX6_offAt 23 = .ok (.getfield 9, 3) := by decide +kernel
theorem dX6_offAt_26 : decode cX6_offAt 26 = .ok (.iload_n 1, 1) := by decide +kernel
theorem dX6_offAt_27 : decode cX6_offAt 27 = .ok (.iaload, 1) := by decide +kernel
theorem dX6_offAt_28 : decode cX6_offAt 28 = .ok (.if_icmp .ge 38, 3) := by decide +kernel
theorem dX6_offAt_31 : decode cX6_offAt 31 = .ok (.iload 6, 2) := by decide +kernel
theorem dX6_offAt_33 : decode cX6_offAt 33 = .ok (.aload_n 0, 1) := by decide +kernel
theorem dX6_offAt_34 : decode cX6_offAt 34 = .ok (.getfield 15, 3) := by decide +kernel
theorem dX6_offAt_37 : decode cX6_offAt 37 = .ok (.iload 4, 2) := by decide +kernel
theorem dX6_offAt_39 : decode cX6_offAt 39 = .ok (.iload 7, 2) := by decide +kernel
theorem dX6_offAt_41 : decode cX6_offAt 41 = .ok (.iadd, 1) := by decide +kernel
theorem dX6_offAt_42 : decode cX6_offAt 42 = .ok (.baload, 1) := by decide +kernel
theorem dX6_offAt_43 : decode cX6_offAt 43 = .ok (.aload_n 0, 1) := by decide +kernel
theorem dX6_offAt_44 : decode cX6_offAt 44 = .ok (.getfield 15, 3) := by decide +kernel
theorem dX6_offAt_47 : decode cX6_offAt 47 = .ok (.iload 5, 2) := by decide +kernel
theorem dX6_offAt_49 : decode cX6_offAt 49 = .ok (.iload 7, 2) := by decide +kernel
theorem dX6_offAt_51 : decode cX6_offAt 51 = .ok (.iadd, 1) := by decide +kernel
theorem dX6_offAt_52 : decode cX6_offAt 52 = .ok (.baload, 1) := by decide +kernel
theorem dX6_offAt_53 : decode cX6_offAt 53 = .ok (.isub, 1) := by decide +kernel
theorem dX6_offAt_54 : decode cX6_offAt 54 = .ok (.invokestatic 29, 3) := by decide +kernel
theorem dX6_offAt_57 : decode cX6_offAt 57 = .ok (.iadd, 1) := by decide +kernel
theorem dX6_offAt_58 : decode cX6_offAt 58 = .ok (.istore 6, 2) := by decide +kernel
theorem dX6_offAt_60 : decode cX6_offAt 60 = .ok (.iinc 7 1, 3) := by decide +kernel
theorem dX6_offAt_63 : decode cX6_offAt 63 = .ok (.goto (-43), 3) := by decide +kernel
theorem dX6_offAt_66 : decode cX6_offAt 66 = .ok (.iload 6, 2) := by decide +kernel
theorem dX6_offAt_68 : decode cX6_offAt 68 = .ok (.ireturn, 1) := by decide +kernel
set_option maxRecDepth 20000 in
theorem ggX6_isSure_X6_canMatch : GoodIn wsX6_isSure wsX6_canMatch := goodIn_r _ [5, 6, 20, 21] (by decide +kernel) (by decide +kernel)
set_option maxRecDepth 20000 in
theorem gX6_isSure_X6_canMatch : GoodIn wsX6_isSure (wsV RX6 35 RX6 yX6_canMatch wsX6_canMatch) := goodIn_app (goodIn_of _ (by decide +kernel)) ggX6_isSure_X6_canMatch
set_option maxRecDepth 20000 in
theorem ggX6_isSure_X6_bestPlace : GoodIn wsX6_isSure wsX6_bestPlace := goodIn_r _ [10, 6, 11, 12, 13, 4, 14, 15, 16, 17, 18, 19, 20, 21] (by decide +kernel) (by decide +kernel)
set_option maxRecDepth 20000 in
theorem gX6_isSure_X6_bestPlace : GoodIn wsX6_isSure (wsV RX6 39 RX6 yX6_bestPlace wsX6_bestPlace) := goodIn_app (goodIn_of _ (by decide +kernel)) ggX6_isSure_X6_bestPlace
set_option maxRecDepth 20000 in
theorem ggX6_isSure_X6_offAt : GoodIn wsX6_isSure wsX6_offAt := goodIn_r _ [14, 6, 15, 16, 17, 18, 19, 20, 21] (by decide +kernel) (by decide +kernel)
set_option maxRecDepth 20000 in
theorem gX6_isSure_X6_offAt : GoodIn wsX6_isSure (wsV RX6 25 RX6 yX6_offAt wsX6_offAt) := goodIn_app (goodIn_of _ (by decide +kernel)) ggX6_isSure_X6_offAt
theorem dX6_isSure_0 : decode cX6_isSure 0 = .ok (.aload_n 0, 1) := by decide +kernel
theorem dX6_isSure_1 : decode cX6_isSure 1 = .ok (.iload_n 1, 1) := by decide +kernel
theorem dX6_isSure_2 : decode cX6_isSure 2 = .ok (.iload_n 2, 1) := by decide +kernel
theorem dX6_isSure_3 : decode cX6_isSure 3 = .ok (.invokevirtual 35, 3) := by decide +kernel
theorem dX6_isSure_6 : decode cX6_isSure 6 = .ok (.ifCond .ne 5, 3) := by decide +kernel
theorem dX6_isSure_9 : decode cX6_isSure 9 = .ok (.iconst 0, 1) := by decide +kernel
theorem dX6_isSure_10 : decode cX6_isSure 10 = .ok (.ireturn, 1) := by decide +kernel
theorem dX6_isSure_11 : decode cX6_isSure 11 = .ok (.aload_n 0, 1) := by decide +kernel
theorem dX6_isSure_12 : decode cX6_isSure 12 = .ok (.iload_n 1, 1) := by decide +kernel
theorem dX6_isSure_13 : decode cX6_isSure 13 = .ok (.iload_n 2, 1) := by decide +kernel
theorem dX6_isSure_14 : decode cX6_isSure 14 = .ok (.aload_n 0, 1) := by decide +kernel
theorem dX6_isSure_15 : decode cX6_isSure 15 = .ok (.iload_n 1, 1) := by decide +kernel
theorem dX6_isSure_16 : decode cX6_isSure 16 = .ok (.iload_n 2, 1) := by decide +kernel
theorem dX6_isSure_17 : decode cX6_isSure 17 = .ok (.invokevirtual 39, 3) := by decide +kernel
theorem dX6_isSure_20 : decode cX6_isSure 20 = .ok (.invokevirtual 25, 3) := by decide +kernel
theorem dX6_isSure_23 : decode cX6_isSure 23 = .ok (.istore_n 3, 1) := by decide +kernel
theorem dX6_isSure_24 : decode cX6_isSure 24 = .ok (.iconst 0, 1) := by decide +kernel
theorem dX6_isSure_25 : decode cX6_isSure 25 = .ok (.istore 4, 2) := by decide +kernel
theorem dX6_isSure_27 : decode cX6_isSure 27 = .ok (.iload 4, 2) := by decide +kernel
theorem dX6_isSure_29 : decode cX6_isSure 29 = .ok (.bipush 6, 2) := by decide +kernel
theorem dX6_isSure_31 : decode cX6_isSure 31 = .ok (.if_icmp .ge 63, 3) := by decide +kernel
theorem dX6_isSure_34 : decode cX6_isSure 34 = .ok (.iload 4, 2) := by decide +kernel
theorem dX6_isSure_36 : decode cX6_isSure 36 = .ok (.iload_n 1, 1) := by decide +kernel
theorem dX6_isSure_37 : decode cX6_isSure 37 = .ok (.if_icmp .eq 23, 3) := by decide +kernel
theorem dX6_isSure_40 : decode cX6_isSure 40 = .ok (.iload 4, 2) := by decide +kernel
theorem dX6_isSure_42 : decode cX6_isSure 42 = .ok (.iload_n 2, 1) := by decide +kernel
theorem dX6_isSure_43 : decode cX6_isSure 43 = .ok (.if_icmp .eq 17, 3) := by decide +kernel
theorem dX6_isSure_46 : decode cX6_isSure 46 = .ok (.aload_n 0, 1) := by decide +kernel
theorem dX6_isSure_47 : decode cX6_isSure 47 = .ok (.iload_n 1, 1) := by decide +kernel
theorem dX6_isSure_48 : decode cX6_isSure 48 = .ok (.iload 4, 2) := by decide +kernel
theorem dX6_isSure_50 : decode cX6_isSure 50 = .ok (.invokevirtual 35, 3) := by decide +kernel
theorem dX6_isSure_53 : decode cX6_isSure 53 = .ok (.ifCond .eq 7, 3) := by decide +kernel
theorem dX6_isSure_56 : decode cX6_isSure 56 = .ok (.iconst 1, 1) := by decide +kernel
theorem dX6_isSure_57 : decode cX6_isSure 57 = .ok (.goto 4, 3) := by decide +kernel
theorem dX6_isSure_60 : decode cX6_isSure 60 = .ok (.iconst 0, 1) := by decide +kernel
theorem dX6_isSure_61 : decode cX6_isSure 61 = .ok (.istore 5, 2) := by decide +kernel
theorem dX6_isSure_63 : decode cX6_isSure 63 = .ok (.iload 5, 2) := by decide +kernel
theorem dX6_isSure_65 : decode cX6_isSure 65 = .ok (.ifCond .eq 23, 3) := by decide +kernel
theorem dX6_isSure_68 : decode cX6_isSure 68 = .ok (.aload_n 0, 1) := by decide +kernel
theorem dX6_isSure_69 : decode cX6_isSure 69 = .ok (.iload_n 1, 1) := by decide +kernel
theorem dX6_isSure_70 : decode cX6_isSure 70 = .ok (.iload 4, 2) := by decide +kernel
theorem dX6_isSure_72 : decode cX6_isSure 72 = .ok (.aload_n 0, 1) := by decide +kernel
theorem dX6_isSure_73 : decode cX6_isSure 73 = .ok (.iload_n 1, 1) := by decide +kernel
theorem dX6_isSure_74 : decode cX6_isSure 74 = .ok (.iload 4, 2) := by decide +kernel
theorem dX6_isSure_76 : decode cX6_isSure 76 = .ok (.invokevirtual 39, 3) := by decide +kernel
theorem dX6_isSure_79 : decode cX6_isSure 79 = .ok (.invokevirtual 25, 3) := by decide +kernel
theorem dX6_isSure_82 : decode cX6_isSure 82 = .ok (.iload_n 3, 1) := by decide +kernel
theorem dX6_isSure_83 : decode cX6_isSure 83 = .ok (.if_icmp .gt 5, 3) := by decide +kernel
theorem dX6_isSure_86 : decode cX6_isSure 86 = .ok (.iconst 0, 1) := by decide +kernel
theorem dX6_isSure_87 : decode cX6_isSure 87 = .ok (.ireturn, 1) := by decide +kernel
theorem dX6_isSure_88 : decode cX6_isSure 88 = .ok (.iinc 4 1, 3) := by decide +kernel
theorem dX6_isSure_91 : decode cX6_isSure 91 = .ok (.goto (-64), 3) := by decide +kernel
theorem dX6_isSure_94 : decode cX6_isSure 94 = .ok (.iconst 1, 1) := by decide +kernel
theorem dX6_isSure_95 : decode cX6_isSure 95 = .ok (.ireturn, 1) := by decide +kernel
theorem dX6_mixInto_0 : decode cX6_mixInto 0 = .ok (.iconst 0, 1) := by decide +kernel
theorem dX6_mixInto_1 : decode cX6_mixInto 1 = .ok (.istore_n 3, 1) := by decide +kernel
theorem dX6_mixInto_2 : decode cX6_mixInto 2 = .ok (.iload_n 3, 1) := by decide +kernel
theorem dX6_mixInto_3 : decode cX6_mixInto 3 = .ok (.bipush 6, 2) := by decide +kernel
theorem dX6_mixInto_5 : decode cX6_mixInto 5 = .ok (.if_icmp .ge 63, 3) := by decide +kernel
theorem dX6_mixInto_8 : decode cX6_mixInto 8 = .ok (.ldc2_w 43, 3) := by decide +kernel
theorem dX6_mixInto_11 : decode cX6_mixInto 11 = .ok (.lload_n 1, 1) := by decide +kernel
theorem dX6_mixInto_12 : decode cX6_mixInto 12 = .ok (.lmul, 1) := by decide +kernel
theorem dX6_mixInto_13 : decode cX6_mixInto 13 = .ok (.aload_n 0, 1) := by decide +kernel
theorem dX6_mixInto_14 : decode cX6_mixInto 14 = .ok (.getfield 9, 3) := by decide +kernel
theorem dX6_mixInto_17 : decode cX6_mixInto 17 = .ok (.iload_n 3, 1) := by decide +kernel
theorem dX6_mixInto_18 : decode cX6_mixInto 18 = .ok (.iaload, 1) := by decide +kernel
theorem dX6_mixInto_19 : decode cX6_mixInto 19 = .ok (.i2l, 1) := by decide +kernel
theorem dX6_mixInto_20 : decode cX6_mixInto 20 = .ok (.ladd, 1) := by decide +kernel
theorem dX6_mixInto_21 : decode cX6_mixInto 21 = .ok (.lstore_n 1, 1) := by decide +kernel
theorem dX6_mixInto_22 : decode cX6_mixInto 22 = .ok (.iconst 0, 1) := by decide +kernel
theorem dX6_mixInto_23 : decode cX6_mixInto 23 = .ok (.istore 4, 2) := by decide +kernel
theorem dX6_mixInto_25 : decode cX6_mixInto 25 = .ok (.iload 4, 2) := by decide +kernel
theorem dX6_mixInto_27 : decode cX6_mixInto 27 = .ok (.aload_n 0, 1) := by decide +kernel
theorem dX6_mixInto_28 : decode cX6_mixInto 28 = .ok (.getfield 9, 3) := by decide +kernel
theorem dX6_mixInto_31 : decode cX6_mixInto 31 = .ok (.iload_n 3, 1) := by decide +kernel
theorem dX6_mixInto_32 : decode cX6_mixInto 32 = .ok (.iaload, 1) := by decide +kernel
theorem dX6_mixInto_33 : decode cX6_mixInto 33 = .ok (.if_icmp .ge 29, 3) := by decide +kernel
theorem dX6_mixInto_36 : decode cX6_mixInto 36 = .ok (.ldc2_w 43, 3) := by decide +kernel
theorem dX6_mixInto_39 : decode cX6_mixInto 39 = .ok (.lload_n 1, 1) := by decide +kernel
theorem dX6_mixInto_40 : decode cX6_mixInto 40 = .ok (.lmul, 1) := by decide +kernel
theorem dX6_mixInto_41 : decode cX6_mixInto 41 = .ok (.aload_n 0, 1) := by decide +kernel
theorem dX6_mixInto_42 : decode cX6_mixInto 42 = .ok (.getfield 15, 3) := by decide +kernel
theorem dX6_mixInto_45 : decode cX6_mixInto 45 = .ok (.iload_n 3, 1) := by decide +kernel
theorem dX6_mixInto_46 : decode cX6_mixInto 46 = .ok (.bipush 40, 2) := by decide +kernel
theorem dX6_mixInto_48 : decode cX6_mixInto 48 = .ok (.imul, 1) := by decide +kernel
theorem dX6_mixInto_49 : decode cX6_mixInto 49 = .ok (.iload 4, 2) := by decide +kernel
theorem dX6_mixInto_51 : decode cX6_mixInto 51 = .ok (.iadd, 1) := by decide +kernel
theorem dX6_mixInto_52 : decode cX6_mixInto 52 = .ok (.baload, 1) := by decide +kernel
theorem dX6_mixInto_53 : decode cX6_mixInto 53 = .ok (.i2l, 1) := by decide +kernel
theorem dX6_mixInto_54 : decode cX6_mixInto 54 = .ok (.ladd, 1) := by decide +kernel
theorem dX6_mixInto_55 : decode cX6_mixInto 55 = .ok (.lstore_n 1, 1) := by decide +kernel
theorem dX6_mixInto_56 : decode cX6_mixInto 56 = .ok (.iinc 4 1, 3) := by decide +kernel
theorem dX6_mixInto_59 : decode cX6_mixInto 59 = .ok (.goto (-34), 3) := by decide +kernel
theorem dX6_mixInto_62 : decode cX6_mixInto 62 = .ok (.iinc 3 1, 3) := by decide +kernel
theorem dX6_mixInto_65 : decode cX6_mixInto 65 = .ok (.goto (-63), 3) := by decide +kernel
theorem dX6_mixInto_68 : decode cX6_mixInto 68 = .ok (.lload_n 1, 1) := by decide +kernel
theorem dX6_mixInto_69 : decode cX6_mixInto 69 = .ok (.lreturn, 1) := by decide +kernel
end
section
set_option maxRecDepth 20000 in
theorem ggX7_init_X5_init : GoodIn wsX7_init wsX5_init := goodIn_r _ [39, 40, 2, 3, 41, 42, 43, 44, 30, 45, 46, 47, 48, 49, 50, 51, 52, 53, 54, 55, 56, 57, 58, 59, 60, 61, 62, 63, 64, 65, 181, 182, 118, 119, 120, 121, 122, 123, 124, 125, 126, 127, 128, 129, 130, 131, 132] (by decide +kernel) (by decide +kernel)
set_option maxRecDepth 20000 in
theorem gX7_init_X5_init : GoodIn wsX7_init (wsX5_init) := ggX7_init_X5_init
set_option maxRecDepth 20000 in
theorem ggX7_init_X1_init : GoodIn wsX7_init wsX1_init := goodIn_r _ [67, 68, 2, 3, 30, 69, 70, 71, 72, 73, 146, 147, 148, 149, 150] (by decide +kernel) (by decide +kernel)
set_option maxRecDepth 20000 in
theorem gX7_init_X1_init_n23 : GoodIn wsX7_init (wsX1_init) := ggX7_init_X1_init
set_option maxRecDepth 20000 in
theorem ggX7_init_X2_init : GoodIn wsX7_init wsX2_init := goodIn_r _ [76, 77, 2, 3, 30, 78, 79, 80, 81, 82, 83, 84, 85, 86, 87, 88, 151, 152, 153, 154, 155, 156, 157, 158, 159, 160] (by decide +kernel) (by decide +kernel)
set_option maxRecDepth 20000 in
theorem gX7_init_X2_init : GoodIn wsX7_init (wsX2_init) := ggX7_init_X2_init
set_option maxRecDepth 20000 in
theorem ggX7_init_X4_init : GoodIn wsX7_init wsX4_init := goodIn_r _ [90, 91, 2, 3, 30, 92, 93, 94, 95, 96, 161, 162, 163, 164, 165] (by decide +kernel) (by decide +kernel)
set_option maxRecDepth 20000 in
theorem gX7_init_X4_init_n37 : GoodIn wsX7_init (wsX4_init) := ggX7_init_X4_init
set_option maxRecDepth 20000 in
theorem ggX7_init_X3_init : GoodIn wsX7_init wsX3_init := goodIn_r _ [98, 99, 2, 3, 30, 100, 101, 102, 84, 103, 104, 105, 106, 166, 167, 168, 169, 170, 171, 172] (by decide +kernel) (by decide +kernel)
set_option maxRecDepth 20000 in
theorem gX7_init_X3_init_n44 : GoodIn wsX7_init (wsX3_init) := ggX7_init_X3_init
set_option maxRecDepth 20000 in
theorem ggX7_init_X0_init : GoodIn wsX7_init wsX0_init := goodIn_r _ [108, 109, 2, 3, 30, 110, 111, 112, 113, 114, 115, 116, 117, 173, 174, 175, 176, 177, 178, 179, 180] (by decide +kernel) (by decide +kernel)
set_option maxRecDepth 20000 in
theorem gX7_init_X0_init_n51 : GoodIn wsX7_init (wsX0_init) := ggX7_init_X0_init
theorem dX7_init_0 : decode cX7_init 0 = .ok (.aload_n 0, 1) := by decide +kernel
theorem dX7_init_1 : decode cX7_init 1 = .ok (.invokespecial 1, 3) := by decide +kernel
theorem dX7_init_4 : decode cX7_init 4 = .ok (.aload_n 0, 1) := by decide +kernel
theorem dX7_init_5 : decode cX7_init 5 = .ok (.new 7, 3) := by decide +kernel
theorem dX7_init_8 : decode cX7_init 8 = .ok (.dup, 1) := by decide +kernel
theorem dX7_init_9 : decode cX7_init 9 = .ok (.invokespecial 9, 3) := by decide +kernel
theorem dX7_init_12 : decode cX7_init 12 = .ok (.putfield 10, 3) := by decide +kernel
theorem dX7_init_15 : decode cX7_init 15 = .ok (.aload_n 0, 1) := by decide +kernel
theorem dX7_init_16 : decode cX7_init 16 = .ok (.aload_n 0, 1) := by decide +kernel
theorem dX7_init_17 : decode cX7_init 17 = .ok (.getfield 10, 3) := by decide +kernel
theorem dX7_init_20 : decode cX7_init 20 = .ok (.getfield 16, 3) := by decide +kernel
theorem dX7_init_23 : decode cX7_init 23 = .ok (.putfield 20, 3) := by decide +kernel
theorem dX7_init_26 : decode cX7_init 26 = .ok (.aload_n 0, 1) := by decide +kernel
theorem dX7_init_27 : decode cX7_init 27 = .ok (.new 21, 3) := by decide +kernel
theorem dX7_init_30 : decode cX7_init 30 = .ok (.dup, 1) := by decide +kernel
theorem dX7_init_31 : decode cX7_init 31 = .ok (.invokespecial 23, 3) := by decide +kernel
theorem dX7_init_34 : decode cX7_init 34 = .ok (.putfield 24, 3) := by decide +kernel
theorem dX7_init_37 : decode cX7_init 37 = .ok (.aload_n 0, 1) := by decide +kernel
theorem dX7_init_38 : decode cX7_init 38 = .ok (.new 28, 3) := by decide +kernel
theorem dX7_init_41 : decode cX7_init 41 = .ok (.dup, 1) := by decide +kernel
theorem dX7_init_42 : decode cX7_init 42 = .ok (.invokespecial 30, 3) := by decide +kernel
theorem dX7_init_45 : decode cX7_init 45 = .ok (.putfield 31, 3) := by decide +kernel
theorem dX7_init_48 : decode cX7_init 48 = .ok (.aload_n 0, 1) := by decide +kernel
theorem dX7_init_49 : decode cX7_init 49 = .ok (.new 35, 3) := by decide +kernel
theorem dX7_init_52 : decode cX7_init 52 = .ok (.dup, 1) := by decide +kernel
theorem dX7_init_53 : decode cX7_init 53 = .ok (.invokespecial 37, 3) := by decide +kernel
theorem dX7_init_56 : decode cX7_init 56 = .ok (.putfield 38, 3) := by decide +kernel
theorem dX7_init_59 : decode cX7_init 59 = .ok (.aload_n 0, 1) := by decide +kernel
theorem dX7_init_60 : decode cX7_init 60 = .ok (.new 42, 3) := by decide +kernel
theorem dX7_init_63 : decode cX7_init 63 = .ok (.dup, 1) := by decide +kernel
theorem dX7_init_64 : decode cX7_init 64 = .ok (.invokespecial 44, 3) := by decide +kernel
theorem dX7_init_67 : decode cX7_init 67 = .ok (.putfield 45, 3) := by decide +kernel
theorem dX7_init_70 : decode cX7_init 70 = .ok (.aload_n 0, 1) := by decide +kernel
theorem dX7_init_71 : decode cX7_init 71 = .ok (.new 49, 3) := by decide +kernel
theorem dX7_init_74 : decode cX7_init 74 = .ok (.dup, 1) := by decide +kernel
theorem dX7_init_75 : decode cX7_init 75 = .ok (.invokespecial 51, 3) := by decide +kernel
theorem dX7_init_78 : decode cX7_init 78 = .ok (.putfield 52, 3) := by decide +kernel
theorem dX7_init_81 : decode cX7_init 81 = .ok (.aload_n 0, 1) := by decide +kernel
theorem dX7_init_82 : decode cX7_init 82 = .ok (.bipush 6, 2) := by decide +kernel
theorem dX7_init_84 : decode cX7_init 84 = .ok (.newarray .int, 2) := by decide +kernel
theorem dX7_init_86 : decode cX7_init 86 = .ok (.putfield 56, 3) := by decide +kernel
theorem dX7_init_89 : decode cX7_init 89 = .ok (.aload_n 0, 1) := by decide +kernel
theorem dX7_init_90 : decode cX7_init 90 = .ok (.iconst 0, 1) := by decide +kernel
theorem dX7_init_91 : decode cX7_init 91 = .ok (.putfield 60, 3) := by decide +kernel
theorem dX7_init_94 : decode cX7_init 94 = .ok (.aload_n 0, 1) := by decide +kernel
theorem dX7_init_95 : decode cX7_init 95 = .ok (.iconst 0, 1) := by decide +kernel
theorem dX7_init_96 : decode cX7_init 96 = .ok (.putfield 64, 3) := by decide +kernel
theorem dX7_init_99 : decode cX7_init 99 = .ok (.aload_n 0, 1) := by decide +kernel
theorem dX7_init_100 : decode cX7_init 100 = .ok (.iconst 0, 1) := by decide +kernel
theorem dX7_init_101 : decode cX7_init 101 = .ok (.putfield 67, 3) := by decide +kernel
theorem dX7_init_104 : decode cX7_init 104 = .ok (.aload_n 0, 1) := by decide +kernel
theorem dX7_init_105 : decode cX7_init 105 = .ok (.lconst 0, 1) := by decide +kernel
theorem dX7_init_106 : decode cX7_init 106 = .ok (.putfield 70, 3) := by decide +kernel
theorem dX7_init_109 : decode cX7_init 109 = .ok (.aload_n 0, 1) := by decide +kernel
theorem dX7_init_110 : decode cX7_init 110 = .ok (.lconst 1, 1) := by decide +kernel
theorem dX7_init_111 : decode cX7_init 111 = .ok (.putfield 74, 3) := by decide +kernel
theorem dX7_init_114 : decode cX7_init 114 = .ok (.return_, 1) := by decide +kernel
set_option maxRecDepth 20000 in
theorem ggX7_later_X7_isWithin : GoodIn wsX7_later wsX7_isWithin := goodIn_r _ [5] (by decide +kernel) (by decide +kernel)
set_option maxRecDepth 20000 in
theorem gX7_later_X7_isWithin : GoodIn wsX7_later (va_wsS RX7 77 yX7_isWithin wsX7_isWithin) := goodIn_app (goodIn_of _ (by decide +kernel)) ggX7_later_X7_isWithin
theorem dX7_later_0 : decode cX7_later 0 = .ok (.iload_n 1, 1) := by decide +kernel
theorem dX7_later_1 : decode cX7_later 1 = .ok (.iconst 0, 1) := by decide +kernel
theorem dX7_later_2 : decode cX7_later 2 = .ok (.sipush 30000, 3) := by decide +kernel
theorem dX7_later_5 : decode cX7_later 5 = .ok (.aload_n 0, 1) := by decide +kernel
theorem dX7_later_6 : decode cX7_later 6 = .ok (.getfield 60, 3) := by decide +kernel
theorem dX7_later_9 : decode cX7_later 9 = .ok (.isub, 1) := by decide +kernel
theorem dX7_later_10 : decode cX7_later 10 = .ok (.invokestatic 77, 3) := by decide +kernel
theorem dX7_later_13 : decode cX7_later 13 = .ok (.ifCond .ne 5, 3) := by decide +kernel
theorem dX7_later_16 : decode cX7_later 16 = .ok (.iconst (-1), 1) := by decide +kernel
theorem dX7_later_17 : decode cX7_later 17 = .ok (.ireturn, 1) := by decide +kernel
theorem dX7_later_18 : decode cX7_later 18 = .ok (.aload_n 0, 1) := by decide +kernel
theorem dX7_later_19 : decode cX7_later 19 = .ok (.dup, 1) := by decide +kernel
theorem dX7_later_20 : decode cX7_later 20 = .ok (.getfield 60, 3) := by decide +kernel
theorem dX7_later_23 : decode cX7_later 23 = .ok (.iload_n 1, 1) := by decide +kernel
theorem dX7_later_24 : decode cX7_later 24 = .ok (.iadd, 1) := by decide +kernel
theorem dX7_later_25 : decode cX7_later 25 = .ok (.putfield 60, 3) := by decide +kernel
theorem dX7_later_28 : decode cX7_later 28 = .ok (.aload_n 0, 1) := by decide +kernel
theorem dX7_later_29 : decode cX7_later 29 = .ok (.getfield 60, 3) := by decide +kernel
theorem dX7_later_32 : decode cX7_later 32 = .ok (.ireturn, 1) := by decide +kernel
set_option maxRecDepth 20000 in
theorem ggX7_row_X7_isRow : GoodIn wsX7_row wsX7_isRow := goodIn_r _ [5, 6, 7, 4, 8] (by decide +kernel) (by decide +kernel)
set_option maxRecDepth 20000 in
theorem gX7_row_X7_isRow : GoodIn wsX7_row (va_wsS RX7 81 yX7_isRow wsX7_isRow) := goodIn_app (goodIn_of _ (by decide +kernel)) ggX7_row_X7_isRow
set_option maxRecDepth 20000 in
theorem ggX7_row_X7_refuse : GoodIn wsX7_row wsX7_refuse := goodIn_r _ [12, 13, 14, 22, 23, 24, 25, 26, 27, 28, 29, 30, 31, 32, 33, 34] (by decide +kernel) (by decide +kernel)
set_option maxRecDepth 20000 in
theorem gX7_row_X7_refuse : GoodIn wsX7_row (wsV RX7 85 RX7 yX7_refuse wsX7_refuse) := goodIn_app (goodIn_of _ (by decide +kernel)) ggX7_row_X7_refuse
set_option maxRecDepth 20000 in
theorem ggX7_row_X6_make : GoodIn wsX7_row wsX6_make := goodIn_r _ [19, 20, 21, 35, 36] (by decide +kernel) (by decide +kernel)
set_option maxRecDepth 20000 in
theorem gX7_row_X6_make : GoodIn wsX7_row (wsV RX7 89 RX6 yX6_make wsX6_make) := goodIn_app (goodIn_of _ (by decide +kernel)) ggX7_row_X6_make
theorem dX7_row_0 : decode cX7_row 0 = .ok (.iload_n 1, 1) := by decide +kernel
theorem dX7_row_1 : decode cX7_row 1 = .ok (.invokestatic 81, 3) := by decide +kernel
theorem dX7_row_4 : decode cX7_row 4 = .ok (.ifCond .eq 9, 3) := by decide +kernel
theorem dX7_row_7 : decode cX7_row 7 = .ok (.iload_n 2, 1) := by decide +kernel
theorem dX7_row_8 : decode cX7_row 8 = .ok (.bipush 40, 2) := by decide +kernel
theorem dX7_row_10 : decode cX7_row 10 = .ok (.if_icmp .le 5, 3) := by decide +kernel
theorem dX7_row_13 : decode cX7_row 13 = .ok (.iconst (-1), 1) := by decide +kernel
theorem dX7_row_14 : decode cX7_row 14 = .ok (.ireturn, 1) := by decide +kernel
theorem dX7_row_15 : decode cX7_row 15 = .ok (.iload_n 2, 1) := by decide +kernel
theorem dX7_row_16 : decode cX7_row 16 = .ok (.ifCond .ge 9, 3) := by decide +kernel
theorem dX7_row_19 : decode cX7_row 19 = .ok (.aload_n 0, 1) := by decide +kernel
theorem dX7_row_20 : decode cX7_row 20 = .ok (.iconst 5, 1) := by decide +kernel
theorem dX7_row_21 : decode cX7_row 21 = .ok (.invokevirtual 85, 3) := by decide +kernel
theorem dX7_row_24 : decode cX7_row 24 = .ok (.ireturn, 1) := by decide +kernel
theorem dX7_row_25 : decode cX7_row 25 = .ok (.aload_n 0, 1) := by decide +kernel
theorem dX7_row_26 : decode cX7_row 26 = .ok (.getfield 20, 3) := by decide +kernel
theorem dX7_row_29 : decode cX7_row 29 = .ok (.iload_n 1, 1) := by decide +kernel
theorem dX7_row_30 : decode cX7_row 30 = .ok (.iload_n 2, 1) := by decide +kernel
theorem dX7_row_31 : decode cX7_row 31 = .ok (.invokevirtual 89, 3) := by decide +kernel
theorem dX7_row_34 : decode cX7_row 34 = .ok (.iload_n 2, 1) := by decide +kernel
theorem dX7_row_35 : decode cX7_row 35 = .ok (.ireturn, 1) := by decide +kernel
set_option maxRecDepth 20000 in
theorem ggX7_lay_X7_isRow : GoodIn wsX7_lay wsX7_isRow := goodIn_r _ [5, 6, 7, 4, 8] (by decide +kernel) (by decide +kernel)
set_option maxRecDepth 20000 in
theorem gX7_lay_X7_isRow : GoodIn wsX7_lay (va_wsS RX7 81 yX7_isRow wsX7_isRow) := goodIn_app (goodIn_of _ (by decide +kernel)) ggX7_lay_X7_isRow
set_option maxRecDepth 20000 in
theorem ggX7_lay_X6_isMissing : GoodIn wsX7_lay wsX6_isMissing := goodIn_r _ [13, 14, 43, 44] (by decide +kernel) (by decide +kernel)
set_option maxRecDepth 20000 in
theorem gX7_lay_X6_isMissing : GoodIn wsX7_lay (wsV RX7 95 RX6 yX6_isMissing wsX6_isMissing) := goodIn_app (goodIn_of _ (by decide +kernel)) ggX7_lay_X6_isMissing
set_option maxRecDepth 20000 in
theorem ggX7_lay_X7_refuse : GoodIn wsX7_lay wsX7_refuse := goodIn_r _ [18, 19, 20, 30, 31, 32, 33, 34, 35, 36, 37, 38, 39, 40, 41, 42] (by decide +kernel) (by decide +kernel)
set_option maxRecDepth 20000 in
theorem gX7_lay_X7_refuse : GoodIn wsX7_lay (wsV RX7 85 RX7 yX7_refuse wsX7_refuse) := goodIn_app (goodIn_of _ (by decide +kernel)) ggX7_lay_X7_refuse
set_option maxRecDepth 20000 in
theorem ggX7_lay_X6_hasRun : GoodIn wsX7_lay wsX6_hasRun := goodIn_r _ [24, 14, 43, 44] (by decide +kernel) (by decide +kernel)
set_option maxRecDepth 20000 in
theorem gX7_lay_X6_hasRun : GoodIn wsX7_lay (wsV RX7 98 RX6 yX6_hasRun wsX6_hasRun) := goodIn_app (goodIn_of _ (by decide +kernel)) ggX7_lay_X6_hasRun
set_option maxRecDepth 20000 in
theorem ggX7_lay_X6_swap : GoodIn wsX7_lay wsX6_swap := goodIn_r _ [28, 29, 43, 44] (by decide +kernel) (by decide +kernel)
set_option maxRecDepth 20000 in
theorem gX7_lay_X6_swap : GoodIn wsX7_lay (wsV RX7 101 RX6 yX6_swap wsX6_swap) := goodIn_app (goodIn_of _ (by decide +kernel)) ggX7_lay_X6_swap
theorem dX7_lay_0 : decode cX7_lay 0 = .ok (.iload_n 1, 1) := by decide +kernel
theorem dX7_lay_1 : decode cX7_lay 1 = .ok (.invokestatic 81, 3) := by decide +kernel
theorem dX7_lay_4 : decode cX7_lay 4 = .ok (.ifCond .ne 5, 3) := by decide +kernel
theorem dX7_lay_7 : decode cX7_lay 7 = .ok (.iconst (-1), 1) := by decide +kernel
theorem dX7_lay_8 : decode cX7_lay 8 = .ok (.ireturn, 1) := by decide +kernel
theorem dX7_lay_9 : decode cX7_lay 9 = .ok (.aload_n 0, 1) := by decide +kernel
theorem dX7_lay_10 : decode cX7_lay 10 = .ok (.getfield 20, 3) := by decide +kernel
theorem dX7_lay_13 : decode cX7_lay 13 = .ok (.iload_n 1, 1) := by decide +kernel
theorem dX7_lay_14 : decode cX7_lay 14 = .ok (.invokevirtual 95, 3) := by decide +kernel
theorem dX7_lay_17 : decode cX7_lay 17 = .ok (.ifCond .eq 9, 3) := by decide +kernel
theorem dX7_lay_20 : decode cX7_lay 20 = .ok (.aload_n 0, 1) := by decide +kernel
theorem dX7_lay_21 : decode cX7_lay 21 = .ok (.iconst 1, 1) := by decide +kernel
theorem dX7_lay_22 : decode cX7_lay 22 = .ok (.invokevirtual 85, 3) := by decide +kernel
theorem dX7_lay_25 : decode cX7_lay 25 = .ok (.ireturn, 1) := by decide +kernel
theorem dX7_lay_26 : decode cX7_lay 26 = .ok (.aload_n 0, 1) := by decide +kernel
theorem dX7_lay_27 : decode cX7_lay 27 = .ok (.getfield 20, 3) := by decide +kernel
theorem dX7_lay_30 : decode cX7_lay 30 = .ok (.iload_n 1, 1) := by decide +kernel
theorem dX7_lay_31 : decode cX7_lay 31 = .ok (.iload_n 2, 1) := by decide +kernel
theorem dX7_lay_32 : decode cX7_lay 32 = .ok (.iconst 1, 1) := by decide +kernel
theorem dX7_lay_33 : decode cX7_lay 33 = .ok (.invokevirtual 98, 3) := by decide +kernel
theorem dX7_lay_36 : decode cX7_lay 36 = .ok (.ifCond .ne 9, 3) := by decide +kernel
theorem dX7_lay_39 : decode cX7_lay 39 = .ok (.aload_n 0, 1) := by decide +kernel
theorem dX7_lay_40 : decode cX7_lay 40 = .ok (.iconst 2, 1) := by decide +kernel
theorem dX7_lay_41 : decode cX7_lay 41 = .ok (.invokevirtual 85, 3) := by decide +kernel
theorem dX7_lay_44 : decode cX7_lay 44 = .ok (.ireturn, 1) := by decide +kernel
theorem dX7_lay_45 : decode cX7_lay 45 = .ok (.aload_n 0, 1) := by decide +kernel
theorem dX7_lay_46 : decode cX7_lay 46 = .ok (.getfield 20, 3) := by decide +kernel
theorem dX7_lay_49 : decode cX7_lay 49 = .ok (.iload_n 1, 1) := by decide +kernel
theorem dX7_lay_50 : decode cX7_lay 50 = .ok (.iload_n 2, 1) := by decide +kernel
theorem dX7_lay_51 : decode cX7_lay 51 = .ok (.iload_n 3, 1) := by decide +kernel
theorem dX7_lay_52 : decode cX7_lay 52 = .ok (.i2b, 1) := by decide +kernel
theorem dX7_lay_53 : decode cX7_lay 53 = .ok (.invokevirtual 101, 3) := by decide +kernel
theorem dX7_lay_56 : decode cX7_lay 56 = .ok (.sipush 1000, 3) := by decide +kernel
theorem dX7_lay_59 : decode cX7_lay 59 = .ok (.iadd, 1) := by decide +kernel
theorem dX7_lay_60 : decode cX7_lay 60 = .ok (.ireturn, 1) := by decide +kernel
set_option maxRecDepth 20000 in
theorem ggX7_tear_X7_isRow : GoodIn wsX7_tear wsX7_isRow := goodIn_r _ [5, 6, 7, 4, 8] (by decide +kernel) (by decide +kernel)
set_option maxRecDepth 20000 in
theorem gX7_tear_X7_isRow : GoodIn wsX7_tear (va_wsS RX7 81 yX7_isRow wsX7_isRow) := goodIn_app (goodIn_of _ (by decide +kernel)) ggX7_tear_X7_isRow
set_option maxRecDepth 20000 in
theorem ggX7_tear_X6_isMissing : GoodIn wsX7_tear wsX6_isMissing := goodIn_r _ [13, 14, 38, 39] (by decide +kernel) (by decide +kernel)
set_option maxRecDepth 20000 in
theorem gX7_tear_X6_isMissing : GoodIn wsX7_tear (wsV RX7 95 RX6 yX6_isMissing wsX6_isMissing) := goodIn_app (goodIn_of _ (by decide +kernel)) ggX7_tear_X6_isMissing
set_option maxRecDepth 20000 in
theorem ggX7_tear_X7_refuse : GoodIn wsX7_tear wsX7_refuse := goodIn_r _ [18, 19, 20, 25, 26, 27, 28, 29, 30, 31, 32, 33, 34, 35, 36, 37] (by decide +kernel) (by decide +kernel)
set_option maxRecDepth 20000 in
theorem gX7_tear_X7_refuse : GoodIn wsX7_tear (wsV RX7 85 RX7 yX7_refuse wsX7_refuse) := goodIn_app (goodIn_of _ (by decide +kernel)) ggX7_tear_X7_refuse
set_option maxRecDepth 20000 in
theorem ggX7_tear_X6_drop : GoodIn wsX7_tear wsX6_drop := goodIn_r _ [24, 14, 38, 39] (by decide +kernel) (by decide +kernel)
set_option maxRecDepth 20000 in
theorem gX7_tear_X6_drop : GoodIn wsX7_tear (wsV RX7 105 RX6 yX6_drop wsX6_drop) := goodIn_app (goodIn_of _ (by decide +kernel)) ggX7_tear_X6_drop
theorem dX7_tear_0 : decode cX7_tear 0 = .ok (.iload_n 1, 1) := by decide +kernel
theorem dX7_tear_1 : decode cX7_tear 1 = .ok (.invokestatic 81, 3) := by decide +kernel
theorem dX7_tear_4 : decode cX7_tear 4 = .ok (.ifCond .ne 5, 3) := by decide +kernel
theorem dX7_tear_7 : decode cX7_tear 7 = .ok (.iconst (-1), 1) := by decide +kernel
theorem dX7_tear_8 : decode cX7_tear 8 = .ok (.ireturn, 1) := by decide +kernel
theorem dX7_tear_9 : decode cX7_tear 9 = .ok (.aload_n 0, 1) := by decide +kernel
theorem dX7_tear_10 : decode cX7_tear 10 = .ok (.getfield 20, 3) := by decide +kernel
theorem dX7_tear_13 : decode cX7_tear 13 = .ok (.iload_n 1, 1) := by decide +kernel
theorem dX7_tear_14 : decode cX7_tear 14 = .ok (.invokevirtual 95, 3) := by decide +kernel
theorem dX7_tear_17 : decode cX7_tear 17 = .ok (.ifCond .eq 9, 3) := by decide +kernel
theorem dX7_tear_20 : decode cX7_tear 20 = .ok (.aload_n 0, 1) := by decide +kernel
theorem dX7_tear_21 : decode cX7_tear 21 = .ok (.iconst 1, 1) := by decide +kernel
theorem dX7_tear_22 : decode cX7_tear 22 = .ok (.invokevirtual 85, 3) := by decide +kernel
theorem dX7_tear_25 : decode cX7_tear 25 = .ok (.ireturn, 1) := by decide +kernel
theorem dX7_tear_26 : decode cX7_tear 26 = .ok (.aload_n 0, 1) := by decide +kernel
theorem dX7_tear_27 : decode cX7_tear 27 = .ok (.getfield 20, 3) := by decide +kernel
theorem dX7_tear_30 : decode cX7_tear 30 = .ok (.iload_n 1, 1) := by decide +kernel
theorem dX7_tear_31 : decode cX7_tear 31 = .ok (.invokevirtual 105, 3) := by decide +kernel
theorem dX7_tear_34 : decode cX7_tear 34 = .ok (.iconst 1, 1) := by decide +kernel
theorem dX7_tear_35 : decode cX7_tear 35 = .ok (.ireturn, 1) := by decide +kernel
set_option maxRecDepth 20000 in
theorem ggX7_copy_X7_isRow : GoodIn wsX7_copy wsX7_isRow := goodIn_r _ [5, 6, 7, 4, 8] (by decide +kernel) (by decide +kernel)
set_option maxRecDepth 20000 in
theorem gX7_copy_X7_isRow : GoodIn wsX7_copy (va_wsS RX7 81 yX7_isRow wsX7_isRow) := goodIn_app (goodIn_of _ (by decide +kernel)) ggX7_copy_X7_isRow
set_option maxRecDepth 20000 in
theorem ggX7_copy_X6_isMissing : GoodIn wsX7_copy wsX6_isMissing := goodIn_r _ [13, 14, 47, 48] (by decide +kernel) (by decide +kernel)
set_option maxRecDepth 20000 in
theorem gX7_copy_X6_isMissing : GoodIn wsX7_copy (wsV RX7 95 RX6 yX6_isMissing wsX6_isMissing) := goodIn_app (goodIn_of _ (by decide +kernel)) ggX7_copy_X6_isMissing
set_option maxRecDepth 20000 in
theorem ggX7_copy_X7_refuse : GoodIn wsX7_copy wsX7_refuse := goodIn_r _ [18, 19, 20, 34, 35, 36, 37, 38, 39, 40, 41, 42, 43, 44, 45, 46] (by decide +kernel) (by decide +kernel)
set_option maxRecDepth 20000 in
theorem gX7_copy_X7_refuse : GoodIn wsX7_copy (wsV RX7 85 RX7 yX7_refuse wsX7_refuse) := goodIn_app (goodIn_of _ (by decide +kernel)) ggX7_copy_X7_refuse
set_option maxRecDepth 20000 in
theorem ggX7_copy_X6_hasRun : GoodIn wsX7_copy wsX6_hasRun := goodIn_r _ [24, 14, 47, 48] (by decide +kernel) (by decide +kernel)
set_option maxRecDepth 20000 in
theorem gX7_copy_X6_hasRun : GoodIn wsX7_copy (wsV RX7 98 RX6 yX6_hasRun wsX6_hasRun) := goodIn_app (goodIn_of _ (by decide +kernel)) ggX7_copy_X6_hasRun
set_option maxRecDepth 20000 in
theorem ggX7_copy_X6_move : GoodIn wsX7_copy wsX6_move := goodIn_r _ [28, 29, 30, 31, 32, 33, 47, 48] (by decide +kernel) (by decide +kernel)
set_option maxRecDepth 20000 in
theorem gX7_copy_X6_move : GoodIn wsX7_copy (wsV RX7 109 RX6 yX6_move wsX6_move) := goodIn_app (goodIn_of _ (by decide +kernel)) ggX7_copy_X6_move
theorem dX7_copy_0 : decode cX7_copy 0 = .ok (.iload_n 1, 1) := by decide +kernel
theorem dX7_copy_1 : decode cX7_copy 1 = .ok (.invokestatic 81, 3) := by decide +kernel
theorem dX7_copy_4 : decode cX7_copy 4 = .ok (.ifCond .eq 10, 3) := by decide +kernel
theorem dX7_copy_7 : decode cX7_copy 7 = .ok (.iload_n 3, 1) := by decide +kernel
theorem dX7_copy_8 : decode cX7_copy 8 = .ok (.invokestatic 81, 3) := by decide +kernel
theorem dX7_copy_11 : decode cX7_copy 11 = .ok (.ifCond .ne 5, 3) := by decide +kernel
theorem dX7_copy_14 : decode cX7_copy 14 = .ok (.iconst (-1), 1) := by decide +kernel
theorem dX7_copy_15 : decode cX7_copy 15 = .ok (.ireturn, 1) := by decide +kernel
theorem dX7_copy_16 : decode cX7_copy 16 = .ok (.aload_n 0, 1) := by decide +kernel
theorem dX7_copy_17 : decode cX7_copy 17 = .ok (.getfield 20, 3) := by decide +kernel
theorem dX7_copy_20 : decode cX7_copy 20 = .ok (.iload_n 1, 1) := by decide +kernel
theorem dX7_copy_21 : decode cX7_copy 21 = .ok (.invokevirtual 95, 3) := by decide +kernel
theorem dX7_copy_24 : decode cX7_copy 24 = .ok (.ifCond .ne 14, 3) := by decide +kernel
theorem dX7_copy_27 : decode cX7_copy 27 = .ok (.aload_n 0, 1) := by decide +kernel
theorem dX7_copy_28 : decode cX7_copy 28 = .ok (.getfield 20, 3) := by decide +kernel
theorem dX7_copy_31 : decode cX7_copy 31 = .ok (.iload_n 3, 1) := by decide +kernel
theorem dX7_copy_32 : decode cX7_copy 32 = .ok (.invokevirtual 95, 3) := by decide +kernel
theorem dX7_copy_35 : decode cX7_copy 35 = .ok (.ifCond .eq 9, 3) := by decide +kernel
theorem dX7_copy_38 : decode cX7_copy 38 = .ok (.aload_n 0, 1) := by decide +kernel
theorem dX7_copy_39 : decode cX7_copy 39 = .ok (.iconst 1, 1) := by decide +kernel
theorem dX7_copy_40 : decode cX7_copy 40 = .ok (.invokevirtual 85, 3) := by decide +kernel
theorem dX7_copy_43 : decode cX7_copy 43 = .ok (.ireturn, 1) := by decide +kernel
theorem dX7_copy_44 : decode cX7_copy 44 = .ok (.aload_n 0, 1) := by decide +kernel
theorem dX7_copy_45 : decode cX7_copy 45 = .ok (.getfield 20, 3) := by decide +kernel
theorem dX7_copy_48 : decode cX7_copy 48 = .ok (.iload_n 1, 1) := by decide +kernel
theorem dX7_copy_49 : decode cX7_copy 49 = .ok (.iload_n 2, 1) := by decide +kernel
theorem dX7_copy_50 : decode cX7_copy 50 = .ok (.iload 5, 2) := by decide +kernel
theorem dX7_copy_52 : decode cX7_copy 52 = .ok (.invokevirtual 98, 3) := by decide +kernel
theorem dX7_copy_55 : decode cX7_copy 55 = .ok (.ifCond .eq 18, 3) := by decide +kernel
theorem dX7_copy_58 : decode cX7_copy 58 = .ok (.aload_n 0, 1) := by decide +kernel
theorem dX7_copy_59 : decode cX7_copy 59 = .ok (.getfield 20, 3) := by decide +kernel
theorem dX7_copy_62 : decode cX7_copy 62 = .ok (.iload_n 3, 1) := by decide +kernel
theorem dX7_copy_63 : decode cX7_copy 63 = .ok (.iload 4, 2) := by decide +kernel
theorem dX7_copy_65 : decode cX7_copy 65 = .ok (.iload 5, 2) := by decide +kernel
theorem dX7_copy_67 : decode cX7_copy 67 = .ok (.invokevirtual 98, 3) := by decide +kernel
theorem dX7_copy_70 : decode cX7_copy 70 = .ok (.ifCond .ne 9, 3) := by decide +kernel
theorem dX7_copy_73 : decode cX7_copy 73 = .ok (.aload_n 0, 1) := by decide +kernel
theorem dX7_copy_74 : decode cX7_copy 74 = .ok (.iconst 2, 1) := by decide +kernel
theorem dX7_copy_75 : decode cX7_copy 75 = .ok (.invokevirtual 85, 3) := by decide +kernel
theorem dX7_copy_78 : decode cX7_copy 78 = .ok (.ireturn, 1) := by decide +kernel
theorem dX7_copy_79 : decode cX7_copy 79 = .ok (.aload_n 0, 1) := by decide +kernel
theorem dX7_copy_80 : decode cX7_copy 80 = .ok (.getfield 20, 3) := by decide +kernel
theorem dX7_copy_83 : decode cX7_copy 83 = .ok (.iload_n 1, 1) := by decide +kernel
theorem dX7_copy_84 : decode cX7_copy 84 = .ok (.iload_n 2, 1) := by decide +kernel
theorem dX7_copy_85 : decode cX7_copy 85 = .ok (.iload_n 3, 1) := by decide +kernel
theorem dX7_copy_86 : decode cX7_copy 86 = .ok (.iload 4, 2) := by decide +kernel
theorem dX7_copy_88 : decode cX7_copy 88 = .ok (.iload 5, 2) := by decide +kernel
theorem dX7_copy_90 : decode cX7_copy 90 = .ok (.invokevirtual 109, 3) := by decide +kernel
theorem dX7_copy_93 : decode cX7_copy 93 = .ok (.iconst 1, 1) := by decide +kernel
theorem dX7_copy_94 : decode cX7_copy 94 = .ok (.ireturn, 1) := by decide +kernel
set_option maxRecDepth 20000 in
theorem ggX7_match_X7_areTwoRows : GoodIn wsX7_match wsX7_areTwoRows := goodIn_r _ [6, 7, 8, 5, 9, 10, 11, 12] (by decide +kernel) (by decide +kernel)
set_option maxRecDepth 20000 in
theorem gX7_match_X7_areTwoRows : GoodIn wsX7_match (va_wsS RX7 113 yX7_areTwoRows wsX7_areTwoRows) := goodIn_app (goodIn_of _ (by decide +kernel)) ggX7_match_X7_areTwoRows
set_option maxRecDepth 20000 in
theorem ggX7_match_X6_isMissing : GoodIn wsX7_match wsX6_isMissing := goodIn_r _ [17, 18, 56, 57] (by decide +kernel) (by decide +kernel)
set_option maxRecDepth 20000 in
theorem gX7_match_X6_isMissing : GoodIn wsX7_match (wsV RX7 95 RX6 yX6_isMissing wsX6_isMissing) := goodIn_app (goodIn_of _ (by decide +kernel)) ggX7_match_X6_isMissing
set_option maxRecDepth 20000 in
theorem ggX7_match_X7_refuse : GoodIn wsX7_match wsX7_refuse := goodIn_r _ [22, 23, 24, 43, 44, 45, 46, 47, 48, 49, 50, 51, 52, 53, 54, 55] (by decide +kernel) (by decide +kernel)
set_option maxRecDepth 20000 in
theorem gX7_match_X7_refuse : GoodIn wsX7_match (wsV RX7 85 RX7 yX7_refuse wsX7_refuse) := goodIn_app (goodIn_of _ (by decide +kernel)) ggX7_match_X7_refuse
set_option maxRecDepth 20000 in
theorem ggX7_match_X6_canMatch : GoodIn wsX7_match wsX6_canMatch := goodIn_r _ [28, 18, 56, 57] (by decide +kernel) (by decide +kernel)
set_option maxRecDepth 20000 in
theorem gX7_match_X6_canMatch : GoodIn wsX7_match (wsV RX7 117 RX6 yX6_canMatch wsX6_canMatch) := goodIn_app (goodIn_of _ (by decide +kernel)) ggX7_match_X6_canMatch
set_option maxRecDepth 20000 in
theorem ggX7_match_X6_bestPlace : GoodIn wsX7_match wsX6_bestPlace := goodIn_r _ [32, 18, 33, 34, 35, 16, 36, 37, 38, 39, 40, 41, 56, 57] (by decide +kernel) (by decide +kernel)
set_option maxRecDepth 20000 in
theorem gX7_match_X6_bestPlace : GoodIn wsX7_match (wsV RX7 120 RX6 yX6_bestPlace wsX6_bestPlace) := goodIn_app (goodIn_of _ (by decide +kernel)) ggX7_match_X6_bestPlace
set_option maxRecDepth 20000 in
theorem ggX7_match_X6_offAt : GoodIn wsX7_match wsX6_offAt := goodIn_r _ [36, 18, 37, 38, 39, 40, 41, 56, 57] (by decide +kernel) (by decide +kernel)
set_option maxRecDepth 20000 in
theorem gX7_match_X6_offAt : GoodIn wsX7_match (wsV RX7 124 RX6 yX6_offAt wsX6_offAt) := goodIn_app (goodIn_of _ (by decide +kernel)) ggX7_match_X6_offAt
theorem dX7_match_0 : decode cX7_match 0 = .ok (.iload_n 1, 1) := by decide +kernel
theorem dX7_match_1 : decode cX7_match 1 = .ok (.iload_n 2, 1) := by decide +kernel
theorem dX7_match_2 : decode cX7_match 2 = .ok (.invokestatic 113, 3) := by decide +kernel
theorem dX7_match_5 : decode cX7_match 5 = .ok (.ifCond .ne 5, 3) := by decide +kernel
theorem dX7_match_8 : decode cX7_match 8 = .ok (.iconst (-1), 1) := by decide +kernel
theorem dX7_match_9 : decode cX7_match 9 = .ok (.ireturn, 1) := by decide +kernel
theorem dX7_match_10 : decode cX7_match 10 = .ok (.aload_n 0, 1) := by decide +kernel
theorem dX7_match_11 : decode cX7_match 11 = .ok (.getfield 20, 3) := by decide +kernel
theorem dX7_match_14 : decode cX7_match 14 = .ok (.iload_n 1, 1) := by decide +kernel
theorem dX7_match_15 : decode cX7_match 15 = .ok (.invokevirtual 95, 3) := by decide +kernel
theorem dX7_match_18 : decode cX7_match 18 = .ok (.ifCond .ne 14, 3) := by decide +kernel
theorem dX7_match_21 : decode cX7_match 21 = .ok (.aload_n 0, 1) := by decide +kernel
theorem dX7_match_22 : decode cX7_match 22 = .ok (.getfield 20, 3) := by decide +kernel
theorem dX7_match_25 : decode cX7_match 25 = .ok (.iload_n 2, 1) := by decide +kernel
theorem dX7_match_26 : decode cX7_match 26 = .ok (.invokevirtual 95, 3) := by decide +kernel
theorem dX7_match_29 : decode cX7_match 29 = .ok (.ifCond .eq 9, 3) := by decide +kernel
theorem dX7_match_32 : decode cX7_match 32 = .ok (.aload_n 0, 1) := by decide +kernel
theorem dX7_match_33 : decode cX7_match 33 = .ok (.iconst 1, 1) := by decide +kernel
theorem dX7_match_34 : decode cX7_match 34 = .ok (.invokevirtual 85, 3) := by decide +kernel
theorem dX7_match_37 : decode cX7_match 37 = .ok (.ireturn, 1) := by decide +kernel
theorem dX7_match_38 : decode cX7_match 38 = .ok (.aload_n 0, 1) := by decide +kernel
theorem dX7_match_39 : decode cX7_match 39 = .ok (.getfield 20, 3) := by decide +kernel
theorem dX7_match_42 : decode cX7_match 42 = .ok (.iload_n 1, 1) := by decide +kernel
theorem dX7_match_43 : decode cX7_match 43 = .ok (.iload_n 2, 1) := by decide +kernel
theorem dX7_match_44 : decode cX7_match 44 = .ok (.invokevirtual 117, 3) := by decide +kernel
theorem dX7_match_47 : decode cX7_match 47 = .ok (.ifCond .ne 9, 3) := by decide +kernel
theorem dX7_match_50 : decode cX7_match 50 = .ok (.aload_n 0, 1) := by decide +kernel
theorem dX7_match_51 : decode cX7_match 51 = .ok (.iconst 5, 1) := by decide +kernel
theorem dX7_match_52 : decode cX7_match 52 = .ok (.invokevirtual 85, 3) := by decide +kernel
theorem dX7_match_55 : decode cX7_match 55 = .ok (.ireturn, 1) := by decide +kernel
theorem dX7_match_56 : decode cX7_match 56 = .ok (.aload_n 0, 1) := by decide +kernel
theorem dX7_match_57 : decode cX7_match 57 = .ok (.getfield 20, 3) := by decide +kernel
theorem dX7_match_60 : decode cX7_match 60 = .ok (.iload_n 1, 1) := by decide +kernel
theorem dX7_match_61 : decode cX7_match 61 = .ok (.iload_n 2, 1) := by decide +kernel
theorem dX7_match_62 : decode cX7_match 62 = .ok (.invokevirtual 120, 3) := by decide +kernel
theorem dX7_match_65 : decode cX7_match 65 = .ok (.istore_n 3, 1) := by decide +kernel
theorem dX7_match_66 : decode cX7_match 66 = .ok (.aload_n 0, 1) := by decide +kernel
theorem dX7_match_67 : decode cX7_match 67 = .ok (.aload_n 0, 1) := by decide +kernel
theorem dX7_match_68 : decode cX7_match 68 = .ok (.getfield 20, 3) := by decide +kernel
theorem dX7_match_71 : decode cX7_match 71 = .ok (.iload_n 1, 1) := by decide +kernel
theorem dX7_match_72 : decode cX7_match 72 = .ok (.iload_n 2, 1) := by decide +kernel
theorem dX7_match_73 : decode cX7_match 73 = .ok (.iload_n 3, 1) := by decide +kernel
theorem dX7_match_74 : decode cX7_match 74 = .ok (.invokevirtual 124, 3) := by decide +kernel
theorem dX7_match_77 : decode cX7_match 77 = .ok (.putfield 67, 3) := by decide +kernel
theorem dX7_match_80 : decode cX7_match 80 = .ok (.iload_n 3, 1) := by decide +kernel
theorem dX7_match_81 : decode cX7_match 81 = .ok (.ireturn, 1) := by decide +kernel
set_option maxRecDepth 20000 in
theorem ggX7_sure_X7_areTwoRows : GoodIn wsX7_sure wsX7_areTwoRows := goodIn_r _ [5, 6, 7, 4, 8, 9, 10, 11] (by decide +kernel) (by decide +kernel)
set_option maxRecDepth 20000 in
theorem gX7_sure_X7_areTwoRows : GoodIn wsX7_sure (va_wsS RX7 113 yX7_areTwoRows wsX7_areTwoRows) := goodIn_app (goodIn_of _ (by decide +kernel)) ggX7_sure_X7_areTwoRows
set_option maxRecDepth 20000 in
theorem ggX7_sure_X6_isSure : GoodIn wsX7_sure wsX6_isSure := goodIn_r _ [16, 17, 18, 19, 15, 20, 21, 22, 23, 24, 25, 26, 27, 28, 29, 30, 31, 32, 33, 34, 48, 49] (by decide +kernel) (by decide +kernel)
set_option maxRecDepth 20000 in
theorem gX7_sure_X6_isSure : GoodIn wsX7_sure (wsV RX7 128 RX6 yX6_isSure wsX6_isSure) := goodIn_app (goodIn_of _ (by decide +kernel)) ggX7_sure_X6_isSure
theorem dX7_sure_0 : decode cX7_sure 0 = .ok (.iload_n 1, 1) := by decide +kernel
theorem dX7_sure_1 : decode cX7_sure 1 = .ok (.iload_n 2, 1) := by decide +kernel
theorem dX7_sure_2 : decode cX7_sure 2 = .ok (.invokestatic 113, 3) := by decide +kernel
theorem dX7_sure_5 : decode cX7_sure 5 = .ok (.ifCond .ne 5, 3) := by decide +kernel
theorem dX7_sure_8 : decode cX7_sure 8 = .ok (.iconst (-1), 1) := by decide +kernel
theorem dX7_sure_9 : decode cX7_sure 9 = .ok (.ireturn, 1) := by decide +kernel
theorem dX7_sure_10 : decode cX7_sure 10 = .ok (.aload_n 0, 1) := by decide +kernel
theorem dX7_sure_11 : decode cX7_sure 11 = .ok (.getfield 20, 3) := by decide +kernel
theorem dX7_sure_14 : decode cX7_sure 14 = .ok (.iload_n 1, 1) := by decide +kernel
theorem dX7_sure_15 : decode cX7_sure 15 = .ok (.iload_n 2, 1) := by decide +kernel
theorem dX7_sure_16 : decode cX7_sure 16 = .ok (.invokevirtual 128, 3) := by decide +kernel
theorem dX7_sure_19 : decode cX7_sure 19 = .ok (.ifCond .eq 7, 3) := by decide +kernel
theorem dX7_sure_22 : decode cX7_sure 22 = .ok (.iconst 1, 1) := by decide +kernel
theorem dX7_sure_23 : decode cX7_sure 23 = .ok (.goto 4, 3) := by decide +kernel
theorem dX7_sure_26 : decode cX7_sure 26 = .ok (.iconst 0, 1) := by decide +kernel
theorem dX7_sure_27 : decode cX7_sure 27 = .ok (.ireturn, 1) := by decide +kernel
set_option maxRecDepth 20000 in
theorem ggX7_paint_X7_isWithin : GoodIn wsX7_paint wsX7_isWithin := goodIn_r _ [5] (by decide +kernel) (by decide +kernel)
set_option maxRecDepth 20000 in
theorem gX7_paint_X7_isWithin : GoodIn wsX7_paint (va_wsS RX7 77 yX7_isWithin wsX7_isWithin) := goodIn_app (goodIn_of _ (by decide +kernel)) ggX7_paint_X7_isWithin
set_option maxRecDepth 20000 in
theorem ggX7_paint_X7_isYear : GoodIn wsX7_paint wsX7_isYear := goodIn_r _ [8, 2, 3, 4, 5] (by decide +kernel) (by decide +kernel)
set_option maxRecDepth 20000 in
theorem gX7_paint_X7_isYear : GoodIn wsX7_paint (va_wsS RX7 131 yX7_isYear wsX7_isYear) := goodIn_app (goodIn_of _ (by decide +kernel)) ggX7_paint_X7_isYear
set_option maxRecDepth 20000 in
theorem ggX7_paint_X5_swapPaintYear : GoodIn wsX7_paint wsX5_swapPaintYear := goodIn_r _ [13, 14, 28, 29, 30, 31, 32, 33, 34, 35, 36, 37, 38, 39, 40, 41, 42] (by decide +kernel) (by decide +kernel)
set_option maxRecDepth 20000 in
theorem gX7_paint_X5_swapPaintYear : GoodIn wsX7_paint (wsV RX7 134 RX5 yX5_swapPaintYear wsX5_swapPaintYear) := goodIn_app (goodIn_of _ (by decide +kernel)) ggX7_paint_X5_swapPaintYear
theorem dX7_paint_0 : decode cX7_paint 0 = .ok (.iload_n 1, 1) := by decide +kernel
theorem dX7_paint_1 : decode cX7_paint 1 = .ok (.iconst 0, 1) := by decide +kernel
theorem dX7_paint_2 : decode cX7_paint 2 = .ok (.bipush 9, 2) := by decide +kernel
theorem dX7_paint_4 : decode cX7_paint 4 = .ok (.invokestatic 77, 3) := by decide +kernel
theorem dX7_paint_7 : decode cX7_paint 7 = .ok (.ifCond .eq 10, 3) := by decide +kernel
theorem dX7_paint_10 : decode cX7_paint 10 = .ok (.iload_n 2, 1) := by decide +kernel
theorem dX7_paint_11 : decode cX7_paint 11 = .ok (.invokestatic 131, 3) := by decide +kernel
theorem dX7_paint_14 : decode cX7_paint 14 = .ok (.ifCond .ne 5, 3) := by decide +kernel
theorem dX7_paint_17 : decode cX7_paint 17 = .ok (.iconst (-1), 1) := by decide +kernel
theorem dX7_paint_18 : decode cX7_paint 18 = .ok (.ireturn, 1) := by decide +kernel
theorem dX7_paint_19 : decode cX7_paint 19 = .ok (.aload_n 0, 1) := by decide +kernel
theorem dX7_paint_20 : decode cX7_paint 20 = .ok (.getfield 10, 3) := by decide +kernel
theorem dX7_paint_23 : decode cX7_paint 23 = .ok (.iload_n 1, 1) := by decide +kernel
theorem dX7_paint_24 : decode cX7_paint 24 = .ok (.iload_n 2, 1) := by decide +kernel
theorem dX7_paint_25 : decode cX7_paint 25 = .ok (.invokevirtual 134, 3) := by decide +kernel
theorem dX7_paint_28 : decode cX7_paint 28 = .ok (.ireturn, 1) := by decide +kernel
set_option maxRecDepth 20000 in
theorem ggX7_sap_X7_isWithin : GoodIn wsX7_sap wsX7_isWithin := goodIn_r _ [5] (by decide +kernel) (by decide +kernel)
set_option maxRecDepth 20000 in
theorem gX7_sap_X7_isWithin : GoodIn wsX7_sap (va_wsS RX7 77 yX7_isWithin wsX7_isWithin) := goodIn_app (goodIn_of _ (by decide +kernel)) ggX7_sap_X7_isWithin
set_option maxRecDepth 20000 in
theorem ggX7_sap_X5_setSap : GoodIn wsX7_sap wsX5_setSap := goodIn_r _ [10, 11, 12, 13, 27, 28, 29, 30, 31, 32, 33, 34, 35, 36, 37, 38, 39, 40, 41] (by decide +kernel) (by decide +kernel)
set_option maxRecDepth 20000 in
theorem gX7_sap_X5_setSap : GoodIn wsX7_sap (wsV RX7 137 RX5 yX5_setSap wsX5_setSap) := goodIn_app (goodIn_of _ (by decide +kernel)) ggX7_sap_X5_setSap
theorem dX7_sap_0 : decode cX7_sap 0 = .ok (.iload_n 1, 1) := by decide +kernel
theorem dX7_sap_1 : decode cX7_sap 1 = .ok (.iconst 0, 1) := by decide +kernel
theorem dX7_sap_2 : decode cX7_sap 2 = .ok (.bipush 60, 2) := by decide +kernel
theorem dX7_sap_4 : decode cX7_sap 4 = .ok (.invokestatic 77, 3) := by decide +kernel
theorem dX7_sap_7 : decode cX7_sap 7 = .ok (.ifCond .eq 17, 3) := by decide +kernel
theorem dX7_sap_10 : decode cX7_sap 10 = .ok (.iload_n 2, 1) := by decide +kernel
theorem dX7_sap_11 : decode cX7_sap 11 = .ok (.iload_n 1, 1) := by decide +kernel
theorem dX7_sap_12 : decode cX7_sap 12 = .ok (.bipush 60, 2) := by decide +kernel
theorem dX7_sap_14 : decode cX7_sap 14 = .ok (.invokestatic 77, 3) := by decide +kernel
theorem dX7_sap_17 : decode cX7_sap 17 = .ok (.ifCond .eq 7, 3) := by decide +kernel
theorem dX7_sap_20 : decode cX7_sap 20 = .ok (.iconst 1, 1) := by decide +kernel
theorem dX7_sap_21 : decode cX7_sap 21 = .ok (.goto 4, 3) := by decide +kernel
theorem dX7_sap_24 : decode cX7_sap 24 = .ok (.iconst 0, 1) := by decide +kernel
theorem dX7_sap_25 : decode cX7_sap 25 = .ok (.istore 4, 2) := by decide +kernel
theorem dX7_sap_27 : decode cX7_sap 27 = .ok (.iload 4, 2) := by decide +kernel
theorem dX7_sap_29 : decode cX7_sap 29 = .ok (.ifCond .eq 13, 3) := by decide +kernel
theorem dX7_sap_32 : decode cX7_sap 32 = .ok (.iload_n 3, 1) := by decide +kernel
theorem dX7_sap_33 : decode cX7_sap 33 = .ok (.iconst 0, 1) := by decide +kernel
theorem dX7_sap_34 : decode cX7_sap 34 = .ok (.bipush 60, 2) := by decide +kernel
theorem dX7_sap_36 : decode cX7_sap 36 = .ok (.invokestatic 77, 3) := by decide +kernel
theorem dX7_sap_39 : decode cX7_sap 39 = .ok (.ifCond .ne 5, 3) := by decide +kernel
theorem dX7_sap_42 : decode cX7_sap 42 = .ok (.iconst (-1), 1) := by decide +kernel
theorem dX7_sap_43 : decode cX7_sap 43 = .ok (.ireturn, 1) := by decide +kernel
theorem dX7_sap_44 : decode cX7_sap 44 = .ok (.aload_n 0, 1) := by decide +kernel
theorem dX7_sap_45 : decode cX7_sap 45 = .ok (.getfield 10, 3) := by decide +kernel
theorem dX7_sap_48 : decode cX7_sap 48 = .ok (.iload_n 1, 1) := by decide +kernel
theorem dX7_sap_49 : decode cX7_sap 49 = .ok (.iload_n 2, 1) := by decide +kernel
theorem dX7_sap_50 : decode cX7_sap 50 = .ok (.iload_n 3, 1) := by decide +kernel
theorem dX7_sap_51 : decode cX7_sap 51 = .ok (.invokevirtual 137, 3) := by decide +kernel
theorem dX7_sap_54 : decode cX7_sap 54 = .ok (.iconst 1, 1) := by decide +kernel
theorem dX7_sap_55 : decode cX7_sap 55 = .ok (.ireturn, 1) := by decide +kernel
set_option maxRecDepth 20000 in
theorem ggX7_proof_X7_areYears : GoodIn wsX7_proof wsX7_areYears := goodIn_r _ [6, 7, 8, 5, 9, 10, 11, 12] (by decide +kernel) (by decide +kernel)
set_option maxRecDepth 20000 in
theorem gX7_proof_X7_areYears : GoodIn wsX7_proof (va_wsS RX7 141 yX7_areYears wsX7_areYears) := goodIn_app (goodIn_of _ (by decide +kernel)) ggX7_proof_X7_areYears
set_option maxRecDepth 20000 in
theorem ggX7_proof_X7_isProofWeight : GoodIn wsX7_proof wsX7_isProofWeight := goodIn_r _ [15, 10, 11, 5, 12] (by decide +kernel) (by decide +kernel)
set_option maxRecDepth 20000 in
theorem gX7_proof_X7_isProofWeight : GoodIn wsX7_proof (va_wsS RX7 144 yX7_isProofWeight wsX7_isProofWeight) := goodIn_app (goodIn_of _ (by decide +kernel)) ggX7_proof_X7_isProofWeight
set_option maxRecDepth 20000 in
theorem ggX7_proof_X5_isFull : GoodIn wsX7_proof wsX5_isFull := goodIn_r _ [20, 21, 49, 50, 51, 52, 53, 54, 55, 56, 57, 58, 59, 60, 61, 62, 63] (by decide +kernel) (by decide +kernel)
set_option maxRecDepth 20000 in
theorem gX7_proof_X5_isFull : GoodIn wsX7_proof (wsV RX7 147 RX5 yX5_isFull wsX5_isFull) := goodIn_app (goodIn_of _ (by decide +kernel)) ggX7_proof_X5_isFull
set_option maxRecDepth 20000 in
theorem ggX7_proof_X5_addYears : GoodIn wsX7_proof wsX5_addYears := goodIn_r _ [25, 26, 21, 27, 28, 29, 30, 19, 31, 32, 33, 34, 35, 49, 50, 51, 52, 53, 54, 55, 56, 57, 58, 59, 60, 61, 62, 63] (by decide +kernel) (by decide +kernel)
set_option maxRecDepth 20000 in
theorem gX7_proof_X5_addYears : GoodIn wsX7_proof (wsV RX7 151 RX5 yX5_addYears wsX5_addYears) := goodIn_app (goodIn_of _ (by decide +kernel)) ggX7_proof_X5_addYears
theorem dX7_proof_0 : decode cX7_proof 0 = .ok (.iload_n 1, 1) := by decide +kernel
theorem dX7_proof_1 : decode cX7_proof 1 = .ok (.iload_n 2, 1) := by decide +kernel
theorem dX7_proof_2 : decode cX7_proof 2 = .ok (.invokestatic 141, 3) := by decide +kernel
theorem dX7_proof_5 : decode cX7_proof 5 = .ok (.ifCond .eq 10, 3) := by decide +kernel
theorem dX7_proof_8 : decode cX7_proof 8 = .ok (.iload_n 3, 1) := by decide +kernel
theorem dX7_proof_9 : decode cX7_proof 9 = .ok (.invokestatic 144, 3) := by decide +kernel
theorem dX7_proof_12 : decode cX7_proof 12 = .ok (.ifCond .ne 5, 3) := by decide +kernel
theorem dX7_proof_15 : decode cX7_proof 15 = .ok (.iconst (-1), 1) := by decide +kernel
theorem dX7_proof_16 : decode cX7_proof 16 = .ok (.ireturn, 1) := by decide +kernel
theorem dX7_proof_17 : decode cX7_proof 17 = .ok (.aload_n 0, 1) := by decide +kernel
theorem dX7_proof_18 : decode cX7_proof 18 = .ok (.getfield 10, 3) := by decide +kernel
theorem dX7_proof_21 : decode cX7_proof 21 = .ok (.invokevirtual 147, 3) := by decide +kernel
theorem dX7_proof_24 : decode cX7_proof 24 = .ok (.ifCond .eq 6, 3) := by decide +kernel
theorem dX7_proof_27 : decode cX7_proof 27 = .ok (.bipush (-2), 2) := by decide +kernel
theorem dX7_proof_29 : decode cX7_proof 29 = .ok (.ireturn, 1) := by decide +kernel
theorem dX7_proof_30 : decode cX7_proof 30 = .ok (.aload_n 0, 1) := by decide +kernel
theorem dX7_proof_31 : decode cX7_proof 31 = .ok (.getfield 10, 3) := by decide +kernel
theorem dX7_proof_34 : decode cX7_proof 34 = .ok (.iload_n 1, 1) := by decide +kernel
theorem dX7_proof_35 : decode cX7_proof 35 = .ok (.iload_n 2, 1) := by decide +kernel
theorem dX7_proof_36 : decode cX7_proof 36 = .ok (.iload_n 3, 1) := by decide +kernel
theorem dX7_proof_37 : decode cX7_proof 37 = .ok (.aload_n 0, 1) := by decide +kernel
theorem dX7_proof_38 : decode cX7_proof 38 = .ok (.getfield 60, 3) := by decide +kernel
theorem dX7_proof_41 : decode cX7_proof 41 = .ok (.invokevirtual 151, 3) := by decide +kernel
theorem dX7_proof_44 : decode cX7_proof 44 = .ok (.ireturn, 1) := by decide +kernel
set_option maxRecDepth 20000 in
theorem ggX7_found_X7_isWithin : GoodIn wsX7_found wsX7_isWithin := goodIn_r _ [6] (by decide +kernel) (by decide +kernel)
set_option maxRecDepth 20000 in
theorem gX7_found_X7_isWithin : GoodIn wsX7_found (va_wsS RX7 77 yX7_isWithin wsX7_isWithin) := goodIn_app (goodIn_of _ (by decide +kernel)) ggX7_found_X7_isWithin
set_option maxRecDepth 20000 in
theorem ggX7_found_X7_isProofWeight : GoodIn wsX7_found wsX7_isProofWeight := goodIn_r _ [9, 3, 4, 5, 6] (by decide +kernel) (by decide +kernel)
set_option maxRecDepth 20000 in
theorem gX7_found_X7_isProofWeight : GoodIn wsX7_found (va_wsS RX7 144 yX7_isProofWeight wsX7_isProofWeight) := goodIn_app (goodIn_of _ (by decide +kernel)) ggX7_found_X7_isProofWeight
set_option maxRecDepth 20000 in
theorem ggX7_found_X5_isFull : GoodIn wsX7_found wsX5_isFull := goodIn_r _ [14, 15, 42, 43, 44, 45, 46, 47, 48, 49, 50, 51, 52, 53, 54, 55, 56] (by decide +kernel) (by decide +kernel)
set_option maxRecDepth 20000 in
theorem gX7_found_X5_isFull : GoodIn wsX7_found (wsV RX7 147 RX5 yX5_isFull wsX5_isFull) := goodIn_app (goodIn_of _ (by decide +kernel)) ggX7_found_X5_isFull
set_option maxRecDepth 20000 in
theorem ggX7_found_X5_addPaint : GoodIn wsX7_found wsX5_addPaint := goodIn_r _ [19, 20, 15, 21, 22, 23, 13, 24, 25, 26, 27, 28, 42, 43, 44, 45, 46, 47, 48, 49, 50, 51, 52, 53, 54, 55, 56] (by decide +kernel) (by decide +kernel)
set_option maxRecDepth 20000 in
theorem gX7_found_X5_addPaint : GoodIn wsX7_found (wsV RX7 155 RX5 yX5_addPaint wsX5_addPaint) := goodIn_app (goodIn_of _ (by decide +kernel)) ggX7_found_X5_addPaint
theorem dX7_found_0 : decode cX7_found 0 = .ok (.iload_n 1, 1) := by decide +kernel
theorem dX7_found_1 : decode cX7_found 1 = .ok (.iconst 0, 1) := by decide +kernel
theorem dX7_found_2 : decode cX7_found 2 = .ok (.bipush 9, 2) := by decide +kernel
theorem dX7_found_4 : decode cX7_found 4 = .ok (.invokestatic 77, 3) := by decide +kernel
theorem dX7_found_7 : decode cX7_found 7 = .ok (.ifCond .eq 10, 3) := by decide +kernel
theorem dX7_found_10 : decode cX7_found 10 = .ok (.iload_n 2, 1) := by decide +kernel
theorem dX7_found_11 : decode cX7_found 11 = .ok (.invokestatic 144, 3) := by decide +kernel
theorem dX7_found_14 : decode cX7_found 14 = .ok (.ifCond .ne 5, 3) := by decide +kernel
theorem dX7_found_17 : decode cX7_found 17 = .ok (.iconst (-1), 1) := by decide +kernel
theorem dX7_found_18 : decode cX7_found 18 = .ok (.ireturn, 1) := by decide +kernel
theorem dX7_found_19 : decode cX7_found 19 = .ok (.aload_n 0, 1) := by decide +kernel
theorem dX7_found_20 : decode cX7_found 20 = .ok (.getfield 10, 3) := by decide +kernel
theorem dX7_found_23 : decode cX7_found 23 = .ok (.invokevirtual 147, 3) := by decide +kernel
theorem dX7_found_26 : decode cX7_found 26 = .ok (.ifCond .eq 6, 3) := by decide +kernel
theorem dX7_found_29 : decode cX7_found 29 = .ok (.bipush (-2), 2) := by decide +kernel
theorem dX7_found_31 : decode cX7_found 31 = .ok (.ireturn, 1) := by decide +kernel
theorem dX7_found_32 : decode cX7_found 32 = .ok (.aload_n 0, 1) := by decide +kernel
theorem dX7_found_33 : decode cX7_found 33 = .ok (.getfield 10, 3) := by decide +kernel
theorem dX7_found_36 : decode cX7_found 36 = .ok (.iload_n 1, 1) := by decide +kernel
theorem dX7_found_37 : decode cX7_found 37 = .ok (.iload_n 2, 1) := by decide +kernel
theorem dX7_found_38 : decode cX7_found 38 = .ok (.aload_n 0, 1) := by decide +kernel
theorem dX7_found_39 : decode cX7_found 39 = .ok (.getfield 60, 3) := by decide +kernel
theorem dX7_found_42 : decode cX7_found 42 = .ok (.invokevirtual 155, 3) := by decide +kernel
theorem dX7_found_45 : decode cX7_found 45 = .ok (.ireturn, 1) := by decide +kernel
set_option maxRecDepth 20000 in
theorem ggX7_rings_X7_isWithin : GoodIn wsX7_rings wsX7_isWithin := goodIn_r _ [6] (by decide +kernel) (by decide +kernel)
set_option maxRecDepth 20000 in
theorem gX7_rings_X7_isWithin : GoodIn wsX7_rings (va_wsS RX7 77 yX7_isWithin wsX7_isWithin) := goodIn_app (goodIn_of _ (by decide +kernel)) ggX7_rings_X7_isWithin
set_option maxRecDepth 20000 in
theorem ggX7_rings_X7_isProofWeight : GoodIn wsX7_rings wsX7_isProofWeight := goodIn_r _ [9, 3, 4, 5, 6] (by decide +kernel) (by decide +kernel)
set_option maxRecDepth 20000 in
theorem gX7_rings_X7_isProofWeight : GoodIn wsX7_rings (va_wsS RX7 144 yX7_isProofWeight wsX7_isProofWeight) := goodIn_app (goodIn_of _ (by decide +kernel)) ggX7_rings_X7_isProofWeight
set_option maxRecDepth 20000 in
theorem ggX7_rings_X5_isFull : GoodIn wsX7_rings wsX5_isFull := goodIn_r _ [14, 15, 43, 44, 45, 46, 47, 48, 49, 50, 51, 52, 53, 54, 55, 56, 57] (by decide +kernel) (by decide +kernel)
set_option maxRecDepth 20000 in
theorem gX7_rings_X5_isFull : GoodIn wsX7_rings (wsV RX7 147 RX5 yX5_isFull wsX5_isFull) := goodIn_app (goodIn_of _ (by decide +kernel)) ggX7_rings_X5_isFull
set_option maxRecDepth 20000 in
theorem ggX7_rings_X5_addRings : GoodIn wsX7_rings wsX5_addRings := goodIn_r _ [19, 20, 15, 21, 22, 23, 24, 13, 25, 26, 27, 28, 29, 43, 44, 45, 46, 47, 48, 49, 50, 51, 52, 53, 54, 55, 56, 57] (by decide +kernel) (by decide +kernel)
set_option maxRecDepth 20000 in
theorem gX7_rings_X5_addRings : GoodIn wsX7_rings (wsV RX7 158 RX5 yX5_addRings wsX5_addRings) := goodIn_app (goodIn_of _ (by decide +kernel)) ggX7_rings_X5_addRings
theorem dX7_rings_0 : decode cX7_rings 0 = .ok (.iload_n 1, 1) := by decide +kernel
theorem dX7_rings_1 : decode cX7_rings 1 = .ok (.sipush 1000, 3) := by decide +kernel
theorem dX7_rings_4 : decode cX7_rings 4 = .ok (.sipush 2000, 3) := by decide +kernel
theorem dX7_rings_7 : decode cX7_rings 7 = .ok (.invokestatic 77, 3) := by decide +kernel
theorem dX7_rings_10 : decode cX7_rings 10 = .ok (.ifCond .eq 17, 3) := by decide +kernel
theorem dX7_rings_13 : decode cX7_rings 13 = .ok (.iload_n 2, 1) := by decide +kernel
theorem dX7_rings_14 : decode cX7_rings 14 = .ok (.iconst 0, 1) := by decide +kernel
theorem dX7_rings_15 : decode cX7_rings 15 = .ok (.bipush 30, 2) := by decide +kernel
theorem dX7_rings_17 : decode cX7_rings 17 = .ok (.invokestatic 77, 3) := by decide +kernel
theorem dX7_rings_20 : decode cX7_rings 20 = .ok (.ifCond .eq 7, 3) := by decide +kernel
theorem dX7_rings_23 : decode cX7_rings 23 = .ok (.iconst 1, 1) := by decide +kernel
theorem dX7_rings_24 : decode cX7_rings 24 = .ok (.goto 4, 3) := by decide +kernel
theorem dX7_rings_27 : decode cX7_rings 27 = .ok (.iconst 0, 1) := by decide +kernel
theorem dX7_rings_28 : decode cX7_rings 28 = .ok (.istore 4, 2) := by decide +kernel
theorem dX7_rings_30 : decode cX7_rings 30 = .ok (.iload 4, 2) := by decide +kernel
theorem dX7_rings_32 : decode cX7_rings 32 = .ok (.ifCond .eq 10, 3) := by decide +kernel
theorem dX7_rings_35 : decode cX7_rings 35 = .ok (.iload_n 3, 1) := by decide +kernel
theorem dX7_rings_36 : decode cX7_rings 36 = .ok (.invokestatic 144, 3) := by decide +kernel
theorem dX7_rings_39 : decode cX7_rings 39 = .ok (.ifCond .ne 5, 3) := by decide +kernel
theorem dX7_rings_42 : decode cX7_rings 42 = .ok (.iconst (-1), 1) := by decide +kernel
theorem dX7_rings_43 : decode cX7_rings 43 = .ok (.ireturn, 1) := by decide +kernel
theorem dX7_rings_44 : decode cX7_rings 44 = .ok (.aload_n 0, 1) := by decide +kernel
theorem dX7_rings_45 : decode cX7_rings 45 = .ok (.getfield 10, 3) := by decide +kernel
theorem dX7_rings_48 : decode cX7_rings 48 = .ok (.invokevirtual 147, 3) := by decide +kernel
theorem dX7_rings_51 : decode cX7_rings 51 = .ok (.ifCond .eq 6, 3) := by decide +kernel
theorem dX7_rings_54 : decode cX7_rings 54 = .ok (.bipush (-2), 2) := by decide +kernel
theorem dX7_rings_56 : decode cX7_rings 56 = .ok (.ireturn, 1) := by decide +kernel
theorem dX7_rings_57 : decode cX7_rings 57 = .ok (.aload_n 0, 1) := by decide +kernel
theorem dX7_rings_58 : decode cX7_rings 58 = .ok (.getfield 10, 3) := by decide +kernel
theorem dX7_rings_61 : decode cX7_rings 61 = .ok (.iload_n 1, 1) := by decide +kernel
theorem dX7_rings_62 : decode cX7_rings 62 = .ok (.iload_n 2, 1) := by decide +kernel
theorem dX7_rings_63 : decode cX7_rings 63 = .ok (.iload_n 3, 1) := by decide +kernel
theorem dX7_rings_64 : decode cX7_rings 64 = .ok (.aload_n 0, 1) := by decide +kernel
theorem dX7_rings_65 : decode cX7_rings 65 = .ok (.getfield 60, 3) := by decide +kernel
theorem dX7_rings_68 : decode cX7_rings 68 = .ok (.invokevirtual 158, 3) := by decide +kernel
theorem dX7_rings_71 : decode cX7_rings 71 = .ok (.ireturn, 1) := by decide +kernel
set_option maxRecDepth 20000 in
theorem ggX7_threads_X7_areTwoRows : GoodIn wsX7_threads wsX7_areTwoRows := goodIn_r _ [6, 7, 8, 5, 9, 10, 11, 12] (by decide +kernel) (by decide +kernel)
set_option maxRecDepth 20000 in
theorem gX7_threads_X7_areTwoRows : GoodIn wsX7_threads (va_wsS RX7 113 yX7_areTwoRows wsX7_areTwoRows) := goodIn_app (goodIn_of _ (by decide +kernel)) ggX7_threads_X7_areTwoRows
set_option maxRecDepth 20000 in
theorem ggX7_threads_X7_areYears : GoodIn wsX7_threads wsX7_areYears := goodIn_r _ [15, 16, 17, 5, 18, 10, 11, 12] (by decide +kernel) (by decide +kernel)
set_option maxRecDepth 20000 in
theorem gX7_threads_X7_areYears : GoodIn wsX7_threads (va_wsS RX7 141 yX7_areYears wsX7_areYears) := goodIn_app (goodIn_of _ (by decide +kernel)) ggX7_threads_X7_areYears
set_option maxRecDepth 20000 in
theorem ggX7_threads_X7_isProofWeight : GoodIn wsX7_threads wsX7_isProofWeight := goodIn_r _ [21, 10, 11, 5, 12] (by decide +kernel) (by decide +kernel)
set_option maxRecDepth 20000 in
theorem gX7_threads_X7_isProofWeight : GoodIn wsX7_threads (va_wsS RX7 144 yX7_isProofWeight wsX7_isProofWeight) := goodIn_app (goodIn_of _ (by decide +kernel)) ggX7_threads_X7_isProofWeight
set_option maxRecDepth 20000 in
theorem ggX7_threads_X5_isFull : GoodIn wsX7_threads wsX5_isFull := goodIn_r _ [26, 27, 57, 58, 59, 60, 61, 62, 63, 64, 65, 66, 67, 68, 69, 70, 71] (by decide +kernel) (by decide +kernel)
set_option maxRecDepth 20000 in
theorem gX7_threads_X5_isFull : GoodIn wsX7_threads (wsV RX7 147 RX5 yX5_isFull wsX5_isFull) := goodIn_app (goodIn_of _ (by decide +kernel)) ggX7_threads_X5_isFull
set_option maxRecDepth 20000 in
theorem ggX7_threads_X5_addThreads : GoodIn wsX7_threads wsX5_addThreads := goodIn_r _ [31, 32, 27, 33, 34, 35, 36, 37, 38, 25, 39, 40, 41, 42, 43, 57, 58, 59, 60, 61, 62, 63, 64, 65, 66, 67, 68, 69, 70, 71] (by decide +kernel) (by decide +kernel)
set_option maxRecDepth 20000 in
theorem gX7_threads_X5_addThreads : GoodIn wsX7_threads (wsV RX7 161 RX5 yX5_addThreads wsX5_addThreads) := goodIn_app (goodIn_of _ (by decide +kernel)) ggX7_threads_X5_addThreads
theorem dX7_threads_0 : decode cX7_threads 0 = .ok (.iload_n 1, 1) := by decide +kernel
theorem dX7_threads_1 : decode cX7_threads 1 = .ok (.iload_n 2, 1) := by decide +kernel
theorem dX7_threads_2 : decode cX7_threads 2 = .ok (.invokestatic 113, 3) := by decide +kernel
theorem dX7_threads_5 : decode cX7_threads 5 = .ok (.ifCond .eq 20, 3) := by decide +kernel
theorem dX7_threads_8 : decode cX7_threads 8 = .ok (.iload_n 3, 1) := by decide +kernel
theorem dX7_threads_9 : decode cX7_threads 9 = .ok (.iload 4, 2) := by decide +kernel
theorem dX7_threads_11 : decode cX7_threads 11 = .ok (.invokestatic 141, 3) := by decide +kernel
theorem dX7_threads_14 : decode cX7_threads 14 = .ok (.ifCond .eq 11, 3) := by decide +kernel
theorem dX7_threads_17 : decode cX7_threads 17 = .ok (.iload 5, 2) := by decide +kernel
theorem dX7_threads_19 : decode cX7_threads 19 = .ok (.invokestatic 144, 3) := by decide +kernel
theorem dX7_threads_22 : decode cX7_threads 22 = .ok (.ifCond .ne 5, 3) := by decide +kernel
theorem dX7_threads_25 : decode cX7_threads 25 = .ok (.iconst (-1), 1) := by decide +kernel
theorem dX7_threads_26 : decode cX7_threads 26 = .ok (.ireturn, 1) := by decide +kernel
theorem dX7_threads_27 : decode cX7_threads 27 = .ok (.aload_n 0, 1) := by decide +kernel
theorem dX7_threads_28 : decode cX7_threads 28 = .ok (.getfield 10, 3) := by decide +kernel
theorem dX7_threads_31 : decode cX7_threads 31 = .ok (.invokevirtual 147, 3) := by decide +kernel
theorem dX7_threads_34 : decode cX7_threads 34 = .ok (.ifCond .eq 6, 3) := by decide +kernel
theorem dX7_threads_37 : decode cX7_threads 37 = .ok (.bipush (-2), 2) := by decide +kernel
theorem dX7_threads_39 : decode cX7_threads 39 = .ok (.ireturn, 1) := by decide +kernel
theorem dX7_threads_40 : decode cX7_threads 40 = .ok (.aload_n 0, 1) := by decide +kernel
theorem dX7_threads_41 : decode cX7_threads 41 = .ok (.getfield 10, 3) := by decide +kernel
theorem dX7_threads_44 : decode cX7_threads 44 = .ok (.iload_n 1, 1) := by decide +kernel
theorem dX7_threads_45 : decode cX7_threads 45 = .ok (.iload_n 2, 1) := by decide +kernel
theorem dX7_threads_46 : decode cX7_threads 46 = .ok (.iload_n 3, 1) := by decide +kernel
theorem dX7_threads_47 : decode cX7_threads 47 = .ok (.iload 4, 2) := by decide +kernel
theorem dX7_threads_49 : decode cX7_threads 49 = .ok (.iload 5, 2) := by decide +kernel
theorem dX7_threads_51 : decode cX7_threads 51 = .ok (.aload_n 0, 1) := by decide +kernel
theorem dX7_threads_52 : decode cX7_threads 52 = .ok (.getfield 60, 3) := by decide +kernel
theorem dX7_threads_55 : decode cX7_threads 55 = .ok (.invokevirtual 161, 3) := by decide +kernel
theorem dX7_threads_58 : decode cX7_threads 58 = .ok (.ireturn, 1) := by decide +kernel
set_option maxRecDepth 20000 in
theorem ggX7_strike_X5_has : GoodIn wsX7_strike wsX5_has := goodIn_r _ [7, 8, 32, 33, 34, 35, 36, 37, 38, 39, 40, 41, 42, 43, 44, 45, 46] (by decide +kernel) (by decide +kernel)
set_option maxRecDepth 20000 in
theorem gX7_strike_X5_has : GoodIn wsX7_strike (wsV RX7 165 RX5 yX5_has wsX5_has) := goodIn_app (goodIn_of _ (by decide +kernel)) ggX7_strike_X5_has
set_option maxRecDepth 20000 in
theorem ggX7_strike_X5_isStruck : GoodIn wsX7_strike wsX5_isStruck := goodIn_r _ [12, 13, 32, 33, 34, 35, 36, 37, 38, 39, 40, 41, 42, 43, 44, 45, 46] (by decide +kernel) (by decide +kernel)
set_option maxRecDepth 20000 in
theorem gX7_strike_X5_isStruck : GoodIn wsX7_strike (wsV RX7 168 RX5 yX5_isStruck wsX5_isStruck) := goodIn_app (goodIn_of _ (by decide +kernel)) ggX7_strike_X5_isStruck
set_option maxRecDepth 20000 in
theorem ggX7_strike_X5_strikeOn : GoodIn wsX7_strike wsX5_strikeOn := goodIn_r _ [17, 13, 18, 32, 33, 34, 35, 36, 37, 38, 39, 40, 41, 42, 43, 44, 45, 46] (by decide +kernel) (by decide +kernel)
set_option maxRecDepth 20000 in
theorem gX7_strike_X5_strikeOn : GoodIn wsX7_strike (wsV RX7 171 RX5 yX5_strikeOn wsX5_strikeOn) := goodIn_app (goodIn_of _ (by decide +kernel)) ggX7_strike_X5_strikeOn
theorem dX7_strike_0 : decode cX7_strike 0 = .ok (.aload_n 0, 1) := by decide +kernel
theorem dX7_strike_1 : decode cX7_strike 1 = .ok (.getfield 10, 3) := by decide +kernel
theorem dX7_strike_4 : decode cX7_strike 4 = .ok (.iload_n 1, 1) := by decide +kernel
theorem dX7_strike_5 : decode cX7_strike 5 = .ok (.invokevirtual 165, 3) := by decide +kernel
theorem dX7_strike_8 : decode cX7_strike 8 = .ok (.ifCond .ne 5, 3) := by decide +kernel
theorem dX7_strike_11 : decode cX7_strike 11 = .ok (.iconst (-1), 1) := by decide +kernel
theorem dX7_strike_12 : decode cX7_strike 12 = .ok (.ireturn, 1) := by decide +kernel
theorem dX7_strike_13 : decode cX7_strike 13 = .ok (.aload_n 0, 1) := by decide +kernel
theorem dX7_strike_14 : decode cX7_strike 14 = .ok (.getfield 10, 3) := by decide +kernel
theorem dX7_strike_17 : decode cX7_strike 17 = .ok (.iload_n 1, 1) := by decide +kernel
theorem dX7_strike_18 : decode cX7_strike 18 = .ok (.invokevirtual 168, 3) := by decide +kernel
theorem dX7_strike_21 : decode cX7_strike 21 = .ok (.ifCond .eq 6, 3) := by decide +kernel
theorem dX7_strike_24 : decode cX7_strike 24 = .ok (.bipush (-4), 2) := by decide +kernel
theorem dX7_strike_26 : decode cX7_strike 26 = .ok (.ireturn, 1) := by decide +kernel
theorem dX7_strike_27 : decode cX7_strike 27 = .ok (.aload_n 0, 1) := by decide +kernel
theorem dX7_strike_28 : decode cX7_strike 28 = .ok (.getfield 10, 3) := by decide +kernel
theorem dX7_strike_31 : decode cX7_strike 31 = .ok (.iload_n 1, 1) := by decide +kernel
theorem dX7_strike_32 : decode cX7_strike 32 = .ok (.aload_n 0, 1) := by decide +kernel
theorem dX7_strike_33 : decode cX7_strike 33 = .ok (.getfield 60, 3) := by decide +kernel
theorem dX7_strike_36 : decode cX7_strike 36 = .ok (.invokevirtual 171, 3) := by decide +kernel
theorem dX7_strike_39 : decode cX7_strike 39 = .ok (.iconst 1, 1) := by decide +kernel
theorem dX7_strike_40 : decode cX7_strike 40 = .ok (.ireturn, 1) := by decide +kernel
set_option maxRecDepth 20000 in
theorem ggX7_told_X5_has : GoodIn wsX7_told wsX5_has := goodIn_r _ [6, 7, 83, 84, 85, 86, 87, 88, 89, 90, 91, 92, 93, 94, 95, 96, 97] (by decide +kernel) (by decide +kernel)
set_option maxRecDepth 20000 in
theorem gX7_told_X5_has : GoodIn wsX7_told (wsV RX7 165 RX5 yX5_has wsX5_has) := goodIn_app (goodIn_of _ (by decide +kernel)) ggX7_told_X5_has
set_option maxRecDepth 20000 in
theorem ggX7_told_X7_isWithin : GoodIn wsX7_told wsX7_isWithin := goodIn_r _ [11] (by decide +kernel) (by decide +kernel)
set_option maxRecDepth 20000 in
theorem gX7_told_X7_isWithin : GoodIn wsX7_told (va_wsS RX7 77 yX7_isWithin wsX7_isWithin) := goodIn_app (goodIn_of _ (by decide +kernel)) ggX7_told_X7_isWithin
set_option maxRecDepth 20000 in
theorem ggX7_told_X5_detail : GoodIn wsX7_told wsX5_detail := goodIn_r _ [15, 16, 17, 18, 19, 20, 21, 22, 5, 23, 24, 25, 26, 27, 28, 29, 30, 31, 32, 33, 34, 35, 36, 37, 38, 39, 40, 41, 42, 43, 44, 45, 46, 47, 48, 49, 50, 51, 52, 53, 54, 55, 56, 57, 58, 59, 60, 61, 62, 63, 64, 65, 66, 67, 68, 69, 83, 84, 85, 86, 87, 88, 89, 90, 91, 92, 93, 94, 95, 96, 97, 98, 99] (by decide +kernel) (by decide +kernel)
set_option maxRecDepth 20000 in
theorem gX7_told_X5_detail : GoodIn wsX7_told (wsV RX7 174 RX5 yX5_detail wsX5_detail) := goodIn_app (goodIn_of _ (by decide +kernel)) ggX7_told_X5_detail
theorem dX7_told_0 : decode cX7_told 0 = .ok (.aload_n 0, 1) := by decide +kernel
theorem dX7_told_1 : decode cX7_told 1 = .ok (.getfield 10, 3) := by decide +kernel
theorem dX7_told_4 : decode cX7_told 4 = .ok (.iload_n 1, 1) := by decide +kernel
theorem dX7_told_5 : decode cX7_told 5 = .ok (.invokevirtual 165, 3) := by decide +kernel
theorem dX7_told_8 : decode cX7_told 8 = .ok (.ifCond .eq 12, 3) := by decide +kernel
theorem dX7_told_11 : decode cX7_told 11 = .ok (.iload_n 2, 1) := by decide +kernel
theorem dX7_told_12 : decode cX7_told 12 = .ok (.iconst 0, 1) := by decide +kernel
theorem dX7_told_13 : decode cX7_told 13 = .ok (.iconst 5, 1) := by decide +kernel
theorem dX7_told_14 : decode cX7_told 14 = .ok (.invokestatic 77, 3) := by decide +kernel
theorem dX7_told_17 : decode cX7_told 17 = .ok (.ifCond .ne 5, 3) := by decide +kernel
theorem dX7_told_20 : decode cX7_told 20 = .ok (.iconst (-1), 1) := by decide +kernel
theorem dX7_told_21 : decode cX7_told 21 = .ok (.ireturn, 1) := by decide +kernel
theorem dX7_told_22 : decode cX7_told 22 = .ok (.aload_n 0, 1) := by decide +kernel
theorem dX7_told_23 : decode cX7_told 23 = .ok (.getfield 10, 3) := by decide +kernel
theorem dX7_told_26 : decode cX7_told 26 = .ok (.iload_n 1, 1) := by decide +kernel
theorem dX7_told_27 : decode cX7_told 27 = .ok (.iload_n 2, 1) := by decide +kernel
theorem dX7_told_28 : decode cX7_told 28 = .ok (.invokevirtual 174, 3) := by decide +kernel
theorem dX7_told_31 : decode cX7_told 31 = .ok (.ireturn, 1) := by decide +kernel
set_option maxRecDepth 20000 in
theorem ggX7_mark_X5_has : GoodIn wsX7_mark wsX5_has := goodIn_r _ [6, 7, 90, 91, 92, 93, 94, 95, 96, 97, 98, 99, 100, 101, 102, 103, 104] (by decide +kernel) (by decide +kernel)
set_option maxRecDepth 20000 in
theorem gX7_mark_X5_has : GoodIn wsX7_mark (wsV RX7 165 RX5 yX5_has wsX5_has) := goodIn_app (goodIn_of _ (by decide +kernel)) ggX7_mark_X5_has
set_option maxRecDepth 20000 in
theorem ggX7_mark_X7_isWithin : GoodIn wsX7_mark wsX7_isWithin := goodIn_r _ [11] (by decide +kernel) (by decide +kernel)
set_option maxRecDepth 20000 in
theorem gX7_mark_X7_isWithin : GoodIn wsX7_mark (va_wsS RX7 77 yX7_isWithin wsX7_isWithin) := goodIn_app (goodIn_of _ (by decide +kernel)) ggX7_mark_X7_isWithin
set_option maxRecDepth 20000 in
theorem ggX7_mark_X5_isOfKind : GoodIn wsX7_mark wsX5_isOfKind := goodIn_r _ [15, 16, 90, 91, 92, 93, 94, 95, 96, 97, 98, 99, 100, 101, 102, 103, 104] (by decide +kernel) (by decide +kernel)
set_option maxRecDepth 20000 in
theorem gX7_mark_X5_isOfKind : GoodIn wsX7_mark (wsV RX7 177 RX5 yX5_isOfKind wsX5_isOfKind) := goodIn_app (goodIn_of _ (by decide +kernel)) ggX7_mark_X5_isOfKind
set_option maxRecDepth 20000 in
theorem ggX7_mark_X7_refuse : GoodIn wsX7_mark wsX7_refuse := goodIn_r _ [20, 21, 22, 77, 78, 79, 80, 81, 82, 83, 84, 85, 86, 87, 88, 89] (by decide +kernel) (by decide +kernel)
set_option maxRecDepth 20000 in
theorem gX7_mark_X7_refuse : GoodIn wsX7_mark (wsV RX7 85 RX7 yX7_refuse wsX7_refuse) := goodIn_app (goodIn_of _ (by decide +kernel)) ggX7_mark_X7_refuse
set_option maxRecDepth 20000 in
theorem ggX7_mark_X5_markAs : GoodIn wsX7_mark wsX5_markAs := goodIn_r _ [26, 27, 28, 29, 30, 31, 32, 33, 34, 35, 36, 37, 38, 39, 40, 41, 42, 43, 44, 45, 46, 47, 48, 49, 50, 51, 52, 53, 54, 55, 5, 56, 16, 57, 58, 59, 60, 61, 62, 63, 64, 65, 66, 67, 68, 69, 70, 71, 72, 73, 74, 75, 76, 90, 91, 92, 93, 94, 95, 96, 97, 98, 99, 100, 101, 102, 103, 104, 105, 106] (by decide +kernel) (by decide +kernel)
set_option maxRecDepth 20000 in
theorem gX7_mark_X5_markAs : GoodIn wsX7_mark (wsV RX7 180 RX5 yX5_markAs wsX5_markAs) := goodIn_app (goodIn_of _ (by decide +kernel)) ggX7_mark_X5_markAs
theorem dX7_mark_0 : decode cX7_mark 0 = .ok (.aload_n 0, 1) := by decide +kernel
theorem dX7_mark_1 : decode cX7_mark 1 = .ok (.getfield 10, 3) := by decide +kernel
theorem dX7_mark_4 : decode cX7_mark 4 = .ok (.iload_n 1, 1) := by decide +kernel
theorem dX7_mark_5 : decode cX7_mark 5 = .ok (.invokevirtual 165, 3) := by decide +kernel
theorem dX7_mark_8 : decode cX7_mark 8 = .ok (.ifCond .eq 12, 3) := by decide +kernel
theorem dX7_mark_11 : decode cX7_mark 11 = .ok (.iload_n 2, 1) := by decide +kernel
theorem dX7_mark_12 : decode cX7_mark 12 = .ok (.iconst 0, 1) := by decide +kernel
theorem dX7_mark_13 : decode cX7_mark 13 = .ok (.iconst 3, 1) := by decide +kernel
theorem dX7_mark_14 : decode cX7_mark 14 = .ok (.invokestatic 77, 3) := by decide +kernel
theorem dX7_mark_17 : decode cX7_mark 17 = .ok (.ifCond .ne 5, 3) := by decide +kernel
theorem dX7_mark_20 : decode cX7_mark 20 = .ok (.iconst (-1), 1) := by decide +kernel
theorem dX7_mark_21 : decode cX7_mark 21 = .ok (.ireturn, 1) := by decide +kernel
theorem dX7_mark_22 : decode cX7_mark 22 = .ok (.aload_n 0, 1) := by decide +kernel
theorem dX7_mark_23 : decode cX7_mark 23 = .ok (.getfield 10, 3) := by decide +kernel
theorem dX7_mark_26 : decode cX7_mark 26 = .ok (.iload_n 1, 1) := by decide +kernel
theorem dX7_mark_27 : decode cX7_mark 27 = .ok (.iload_n 2, 1) := by decide +kernel
theorem dX7_mark_28 : decode cX7_mark 28 = .ok (.invokevirtual 177, 3) := by decide +kernel
theorem dX7_mark_31 : decode cX7_mark 31 = .ok (.ifCond .ne 9, 3) := by decide +kernel
theorem dX7_mark_34 : decode cX7_mark 34 = .ok (.aload_n 0, 1) := by decide +kernel
theorem dX7_mark_35 : decode cX7_mark 35 = .ok (.iconst 3, 1) := by decide +kernel
theorem dX7_mark_36 : decode cX7_mark 36 = .ok (.invokevirtual 85, 3) := by decide +kernel
theorem dX7_mark_39 : decode cX7_mark 39 = .ok (.ireturn, 1) := by decide +kernel
theorem dX7_mark_40 : decode cX7_mark 40 = .ok (.aload_n 0, 1) := by decide +kernel
theorem dX7_mark_41 : decode cX7_mark 41 = .ok (.getfield 10, 3) := by decide +kernel
theorem dX7_mark_44 : decode cX7_mark 44 = .ok (.iload_n 1, 1) := by decide +kernel
theorem dX7_mark_45 : decode cX7_mark 45 = .ok (.iload_n 2, 1) := by decide +kernel
theorem dX7_mark_46 : decode cX7_mark 46 = .ok (.invokevirtual 180, 3) := by decide +kernel
theorem dX7_mark_49 : decode cX7_mark 49 = .ok (.ireturn, 1) := by decide +kernel
set_option maxRecDepth 20000 in
theorem ggX7_span_X7_isDay : GoodIn wsX7_span wsX7_isDay := goodIn_r _ [6, 7, 8, 5, 9] (by decide +kernel) (by decide +kernel)
set_option maxRecDepth 20000 in
theorem gX7_span_X7_isDay : GoodIn wsX7_span (va_wsS RX7 183 yX7_isDay wsX7_isDay) := goodIn_app (goodIn_of _ (by decide +kernel)) ggX7_span_X7_isDay
set_option maxRecDepth 20000 in
theorem ggX7_span_X5_gather : GoodIn wsX7_span wsX5_gather := goodIn_r _ [14, 15, 16, 17, 18, 19, 20, 13, 21, 22, 23, 24, 25, 26, 27, 28, 29, 30, 31, 32, 33, 34, 35, 36, 37, 38, 39, 40, 41, 42, 43, 44, 45, 46, 47, 48, 49, 50, 51, 52, 53, 54, 55, 56, 57, 58, 59, 60, 61, 62, 63, 64, 65, 66, 67, 68, 69, 70, 71, 72, 73, 74, 75, 76, 77, 78, 79, 80, 81, 82, 83, 84, 85, 86, 87, 88, 112, 113, 114, 115, 116, 117, 118, 119, 120, 121, 122, 123, 124, 125, 126, 127, 128, 129, 130, 131, 132, 133] (by decide +kernel) (by decide +kernel)
set_option maxRecDepth 20000 in
theorem gX7_span_X5_gather : GoodIn wsX7_span (wsV RX7 186 RX5 yX5_gather wsX5_gather) := goodIn_app (goodIn_of _ (by decide +kernel)) ggX7_span_X5_gather
set_option maxRecDepth 20000 in
theorem ggX7_span_X1_firstCommonYear : GoodIn wsX7_span wsX1_firstCommonYear := goodIn_r _ [92, 85, 86, 93, 44, 45, 46, 112, 113, 114, 115, 116] (by decide +kernel) (by decide +kernel)
set_option maxRecDepth 20000 in
theorem gX7_span_X1_firstCommonYear : GoodIn wsX7_span (wsV RX7 190 RX1 yX1_firstCommonYear wsX1_firstCommonYear) := goodIn_app (goodIn_of _ (by decide +kernel)) ggX7_span_X1_firstCommonYear
set_option maxRecDepth 20000 in
theorem ggX7_span_X1_lastCommonYear : GoodIn wsX7_span wsX1_lastCommonYear := goodIn_r _ [97, 85, 87, 98, 76, 45, 77, 112, 113, 114, 115, 116] (by decide +kernel) (by decide +kernel)
set_option maxRecDepth 20000 in
theorem gX7_span_X1_lastCommonYear : GoodIn wsX7_span (wsV RX7 194 RX1 yX1_lastCommonYear wsX1_lastCommonYear) := goodIn_app (goodIn_of _ (by decide +kernel)) ggX7_span_X1_lastCommonYear
theorem dX7_span_0 : decode cX7_span 0 = .ok (.iload_n 1, 1) := by decide +kernel
theorem dX7_span_1 : decode cX7_span 1 = .ok (.invokestatic 183, 3) := by decide +kernel
theorem dX7_span_4 : decode cX7_span 4 = .ok (.ifCond .ne 5, 3) := by decide +kernel
theorem dX7_span_7 : decode cX7_span 7 = .ok (.iconst (-1), 1) := by decide +kernel
theorem dX7_span_8 : decode cX7_span 8 = .ok (.ireturn, 1) := by decide +kernel
theorem dX7_span_9 : decode cX7_span 9 = .ok (.aload_n 0, 1) := by decide +kernel
theorem dX7_span_10 : decode cX7_span 10 = .ok (.getfield 10, 3) := by decide +kernel
theorem dX7_span_13 : decode cX7_span 13 = .ok (.iload_n 1, 1) := by decide +kernel
theorem dX7_span_14 : decode cX7_span 14 = .ok (.aload_n 0, 1) := by decide +kernel
theorem dX7_span_15 : decode cX7_span 15 = .ok (.getfield 24, 3) := by decide +kernel
theorem dX7_span_18 : decode cX7_span 18 = .ok (.invokevirtual 186, 3) := by decide +kernel
theorem dX7_span_21 : decode cX7_span 21 = .ok (.aload_n 0, 1) := by decide +kernel
theorem dX7_span_22 : decode cX7_span 22 = .ok (.getfield 24, 3) := by decide +kernel
theorem dX7_span_25 : decode cX7_span 25 = .ok (.invokevirtual 190, 3) := by decide +kernel
theorem dX7_span_28 : decode cX7_span 28 = .ok (.istore_n 3, 1) := by decide +kernel
theorem dX7_span_29 : decode cX7_span 29 = .ok (.aload_n 0, 1) := by decide +kernel
theorem dX7_span_30 : decode cX7_span 30 = .ok (.getfield 24, 3) := by decide +kernel
theorem dX7_span_33 : decode cX7_span 33 = .ok (.invokevirtual 194, 3) := by decide +kernel
theorem dX7_span_36 : decode cX7_span 36 = .ok (.istore 4, 2) := by decide +kernel
theorem dX7_span_38 : decode cX7_span 38 = .ok (.iload_n 3, 1) := by decide +kernel
theorem dX7_span_39 : decode cX7_span 39 = .ok (.iload 4, 2) := by decide +kernel
theorem dX7_span_41 : decode cX7_span 41 = .ok (.if_icmp .le 6, 3) := by decide +kernel
theorem dX7_span_44 : decode cX7_span 44 = .ok (.bipush (-9), 2) := by decide +kernel
theorem dX7_span_46 : decode cX7_span 46 = .ok (.ireturn, 1) := by decide +kernel
theorem dX7_span_47 : decode cX7_span 47 = .ok (.iload_n 2, 1) := by decide +kernel
theorem dX7_span_48 : decode cX7_span 48 = .ok (.ifCond .eq 8, 3) := by decide +kernel
theorem dX7_span_51 : decode cX7_span 51 = .ok (.iload 4, 2) := by decide +kernel
theorem dX7_span_53 : decode cX7_span 53 = .ok (.goto 4, 3) := by decide +kernel
theorem dX7_span_56 : decode cX7_span 56 = .ok (.iload_n 3, 1) := by decide +kernel
theorem dX7_span_57 : decode cX7_span 57 = .ok (.ireturn, 1) := by decide +kernel
set_option maxRecDepth 20000 in
theorem ggX7_quarrel_X7_isDay : GoodIn wsX7_quarrel wsX7_isDay := goodIn_r _ [9, 10, 11, 8, 12] (by decide +kernel) (by decide +kernel)
set_option maxRecDepth 20000 in
theorem gX7_quarrel_X7_isDay : GoodIn wsX7_quarrel (va_wsS RX7 183 yX7_isDay wsX7_isDay) := goodIn_app (goodIn_of _ (by decide +kernel)) ggX7_quarrel_X7_isDay
set_option maxRecDepth 20000 in
theorem ggX7_quarrel_X5_gather : GoodIn wsX7_quarrel wsX5_gather := goodIn_r _ [17, 18, 19, 20, 21, 22, 23, 16, 24, 25, 26, 27, 28, 29, 30, 31, 32, 33, 34, 35, 36, 37, 38, 39, 40, 41, 42, 43, 44, 45, 46, 47, 48, 49, 50, 51, 52, 53, 54, 55, 56, 57, 58, 59, 60, 61, 62, 63, 64, 65, 66, 67, 68, 69, 70, 71, 72, 73, 74, 75, 76, 77, 78, 79, 80, 81, 82, 83, 84, 85, 86, 87, 88, 89, 90, 91, 109, 110, 111, 112, 113, 114, 115, 116, 117, 118, 119, 120, 121, 122, 123, 124, 125, 126, 127, 128, 129, 130] (by decide +kernel) (by decide +kernel)
set_option maxRecDepth 20000 in
theorem gX7_quarrel_X5_gather : GoodIn wsX7_quarrel (wsV RX7 186 RX5 yX5_gather wsX5_gather) := goodIn_app (goodIn_of _ (by decide +kernel)) ggX7_quarrel_X5_gather
set_option maxRecDepth 20000 in
theorem ggX7_quarrel_X1_opponentAfter : GoodIn wsX7_quarrel wsX1_opponentAfter := goodIn_r _ [95, 88, 89, 90, 109, 110, 111, 112, 113] (by decide +kernel) (by decide +kernel)
set_option maxRecDepth 20000 in
theorem gX7_quarrel_X1_opponentAfter : GoodIn wsX7_quarrel (wsV RX7 200 RX1 yX1_opponentAfter wsX1_opponentAfter) := goodIn_app (goodIn_of _ (by decide +kernel)) ggX7_quarrel_X1_opponentAfter
theorem dX7_quarrel_0 : decode cX7_quarrel 0 = .ok (.iload_n 1, 1) := by decide +kernel
theorem dX7_quarrel_1 : decode cX7_quarrel 1 = .ok (.invokestatic 183, 3) := by decide +kernel
theorem dX7_quarrel_4 : decode cX7_quarrel 4 = .ok (.ifCond .ne 5, 3) := by decide +kernel
theorem dX7_quarrel_7 : decode cX7_quarrel 7 = .ok (.iconst (-1), 1) := by decide +kernel
theorem dX7_quarrel_8 : decode cX7_quarrel 8 = .ok (.ireturn, 1) := by decide +kernel
theorem dX7_quarrel_9 : decode cX7_quarrel 9 = .ok (.aload_n 0, 1) := by decide +kernel
theorem dX7_quarrel_10 : decode cX7_quarrel 10 = .ok (.getfield 10, 3) := by decide +kernel
theorem dX7_quarrel_13 : decode cX7_quarrel 13 = .ok (.iload_n 1, 1) := by decide +kernel
theorem dX7_quarrel_14 : decode cX7_quarrel 14 = .ok (.aload_n 0, 1) := by decide +kernel
theorem dX7_quarrel_15 : decode cX7_quarrel 15 = .ok (.getfield 24, 3) := by decide +kernel
theorem dX7_quarrel_18 : decode cX7_quarrel 18 = .ok (.invokevirtual 186, 3) := by decide +kernel
theorem dX7_quarrel_21 : decode cX7_quarrel 21 = .ok (.iconst 0, 1) := by decide +kernel
theorem dX7_quarrel_22 : decode cX7_quarrel 22 = .ok (.istore_n 2, 1) := by decide +kernel
theorem dX7_quarrel_23 : decode cX7_quarrel 23 = .ok (.iload_n 2, 1) := by decide +kernel
theorem dX7_quarrel_24 : decode cX7_quarrel 24 = .ok (.aload_n 0, 1) := by decide +kernel
theorem dX7_quarrel_25 : decode cX7_quarrel 25 = .ok (.getfield 24, 3) := by decide +kernel
theorem dX7_quarrel_28 : decode cX7_quarrel 28 = .ok (.getfield 197, 3) := by decide +kernel
theorem dX7_quarrel_31 : decode cX7_quarrel 31 = .ok (.if_icmp .ge 47, 3) := by decide +kernel
theorem dX7_quarrel_34 : decode cX7_quarrel 34 = .ok (.aload_n 0, 1) := by decide +kernel
theorem dX7_quarrel_35 : decode cX7_quarrel 35 = .ok (.getfield 24, 3) := by decide +kernel
theorem dX7_quarrel_38 : decode cX7_quarrel 38 = .ok (.iload_n 2, 1) := by decide +kernel
theorem dX7_quarrel_39 : decode cX7_quarrel 39 = .ok (.invokevirtual 200, 3) := by decide +kernel
theorem dX7_quarrel_42 : decode cX7_quarrel 42 = .ok (.istore_n 3, 1) := by decide +kernel
theorem dX7_quarrel_43 : decode cX7_quarrel 43 = .ok (.iload_n 3, 1) := by decide +kernel
theorem dX7_quarrel_44 : decode cX7_quarrel 44 = .ok (.bipush (-9), 2) := by decide +kernel
theorem dX7_quarrel_46 : decode cX7_quarrel 46 = .ok (.if_icmp .eq 26, 3) := by decide +kernel
theorem dX7_quarrel_49 : decode cX7_quarrel 49 = .ok (.aload_n 0, 1) := by decide +kernel
theorem dX7_quarrel_50 : decode cX7_quarrel 50 = .ok (.aload_n 0, 1) := by decide +kernel
theorem dX7_quarrel_51 : decode cX7_quarrel 51 = .ok (.getfield 24, 3) := by decide +kernel
theorem dX7_quarrel_54 : decode cX7_quarrel 54 = .ok (.getfield 203, 3) := by decide +kernel
theorem dX7_quarrel_57 : decode cX7_quarrel 57 = .ok (.iload_n 3, 1) := by decide +kernel
theorem dX7_quarrel_58 : decode cX7_quarrel 58 = .ok (.iaload, 1) := by decide +kernel
theorem dX7_quarrel_59 : decode cX7_quarrel 59 = .ok (.putfield 67, 3) := by decide +kernel
theorem dX7_quarrel_62 : decode cX7_quarrel 62 = .ok (.aload_n 0, 1) := by decide +kernel
theorem dX7_quarrel_63 : decode cX7_quarrel 63 = .ok (.getfield 24, 3) := by decide +kernel
theorem dX7_quarrel_66 : decode cX7_quarrel 66 = .ok (.getfield 203, 3) := by decide +kernel
theorem dX7_quarrel_69 : decode cX7_quarrel 69 = .ok (.iload_n 2, 1) := by decide +kernel
theorem dX7_quarrel_70 : decode cX7_quarrel 70 = .ok (.iaload, 1) := by decide +kernel
theorem dX7_quarrel_71 : decode cX7_quarrel 71 = .ok (.ireturn, 1) := by decide +kernel
theorem dX7_quarrel_72 : decode cX7_quarrel 72 = .ok (.iinc 2 1, 3) := by decide +kernel
theorem dX7_quarrel_75 : decode cX7_quarrel 75 = .ok (.goto (-52), 3) := by decide +kernel
theorem dX7_quarrel_78 : decode cX7_quarrel 78 = .ok (.bipush (-9), 2) := by decide +kernel
theorem dX7_quarrel_80 : decode cX7_quarrel 80 = .ok (.ireturn, 1) := by decide +kernel
set_option maxRecDepth 20000 in
theorem ggX7_leftOut_X7_isDay : GoodIn wsX7_leftOut wsX7_isDay := goodIn_r _ [7, 8, 9, 6, 10] (by decide +kernel) (by decide +kernel)
set_option maxRecDepth 20000 in
theorem gX7_leftOut_X7_isDay : GoodIn wsX7_leftOut (va_wsS RX7 183 yX7_isDay wsX7_isDay) := goodIn_app (goodIn_of _ (by decide +kernel)) ggX7_leftOut_X7_isDay
set_option maxRecDepth 20000 in
theorem ggX7_leftOut_X5_gather : GoodIn wsX7_leftOut wsX5_gather := goodIn_r _ [15, 16, 17, 18, 19, 20, 21, 14, 22, 23, 24, 25, 26, 27, 28, 29, 30, 31, 32, 33, 34, 35, 36, 37, 38, 39, 40, 41, 42, 43, 44, 45, 46, 47, 48, 49, 50, 51, 52, 53, 54, 55, 56, 57, 58, 59, 60, 61, 62, 63, 64, 65, 66, 67, 68, 69, 70, 71, 72, 73, 74, 75, 76, 77, 78, 79, 80, 81, 82, 83, 84, 85, 86, 87, 88, 89, 124, 125, 126, 127, 128, 129, 130, 131, 132, 133, 134, 135, 136, 137, 138, 139, 140, 141, 142, 143, 144, 145] (by decide +kernel) (by decide +kernel)
set_option maxRecDepth 20000 in
theorem gX7_leftOut_X5_gather : GoodIn wsX7_leftOut (wsV RX7 186 RX5 yX5_gather wsX5_gather) := goodIn_app (goodIn_of _ (by decide +kernel)) ggX7_leftOut_X5_gather
set_option maxRecDepth 20000 in
theorem ggX7_leftOut_X1_heaviestYear : GoodIn wsX7_leftOut wsX1_heaviestYear := goodIn_r _ [93, 86, 87, 94, 95, 96, 83, 97, 89, 98, 99, 100, 101, 88, 124, 125, 126, 127, 128] (by decide +kernel) (by decide +kernel)
set_option maxRecDepth 20000 in
theorem gX7_leftOut_X1_heaviestYear : GoodIn wsX7_leftOut (wsV RX7 206 RX1 yX1_heaviestYear wsX1_heaviestYear) := goodIn_app (goodIn_of _ (by decide +kernel)) ggX7_leftOut_X1_heaviestYear
set_option maxRecDepth 20000 in
theorem ggX7_leftOut_X1_setWithout : GoodIn wsX7_leftOut wsX1_setWithout := goodIn_r _ [105, 86, 85, 98, 99, 100, 83, 101, 87, 88, 124, 125, 126, 127, 128] (by decide +kernel) (by decide +kernel)
set_option maxRecDepth 20000 in
theorem gX7_leftOut_X1_setWithout : GoodIn wsX7_leftOut (wsV RX7 209 RX1 yX1_setWithout wsX1_setWithout) := goodIn_app (goodIn_of _ (by decide +kernel)) ggX7_leftOut_X1_setWithout
set_option maxRecDepth 20000 in
theorem ggX7_leftOut_X1_weightOfAll : GoodIn wsX7_leftOut wsX1_weightOfAll := goodIn_r _ [109, 86, 89, 124, 125, 126, 127, 128] (by decide +kernel) (by decide +kernel)
set_option maxRecDepth 20000 in
theorem gX7_leftOut_X1_weightOfAll : GoodIn wsX7_leftOut (wsV RX7 212 RX1 yX1_weightOfAll wsX1_weightOfAll) := goodIn_app (goodIn_of _ (by decide +kernel)) ggX7_leftOut_X1_weightOfAll
set_option maxRecDepth 20000 in
theorem ggX7_leftOut_X1_weightOn : GoodIn wsX7_leftOut wsX1_weightOn := goodIn_r _ [97, 86, 89, 98, 99, 100, 83, 101, 87, 88, 124, 125, 126, 127, 128] (by decide +kernel) (by decide +kernel)
set_option maxRecDepth 20000 in
theorem gX7_leftOut_X1_weightOn : GoodIn wsX7_leftOut (wsV RX7 215 RX1 yX1_weightOn wsX1_weightOn) := goodIn_app (goodIn_of _ (by decide +kernel)) ggX7_leftOut_X1_weightOn
theorem dX7_leftOut_0 : decode cX7_leftOut 0 = .ok (.iload_n 1, 1) := by decide +kernel
theorem dX7_leftOut_1 : decode cX7_leftOut 1 = .ok (.invokestatic 183, 3) := by decide +kernel
theorem dX7_leftOut_4 : decode cX7_leftOut 4 = .ok (.ifCond .ne 5, 3) := by decide +kernel
theorem dX7_leftOut_7 : decode cX7_leftOut 7 = .ok (.iconst (-1), 1) := by decide +kernel
theorem dX7_leftOut_8 : decode cX7_leftOut 8 = .ok (.ireturn, 1) := by decide +kernel
theorem dX7_leftOut_9 : decode cX7_leftOut 9 = .ok (.aload_n 0, 1) := by decide +kernel
theorem dX7_leftOut_10 : decode cX7_leftOut 10 = .ok (.getfield 10, 3) := by decide +kernel
theorem dX7_leftOut_13 : decode cX7_leftOut 13 = .ok (.iload_n 1, 1) := by decide +kernel
theorem dX7_leftOut_14 : decode cX7_leftOut 14 = .ok (.aload_n 0, 1) := by decide +kernel
theorem dX7_leftOut_15 : decode cX7_leftOut 15 = .ok (.getfield 24, 3) := by decide +kernel
theorem dX7_leftOut_18 : decode cX7_leftOut 18 = .ok (.invokevirtual 186, 3) := by decide +kernel
theorem dX7_leftOut_21 : decode cX7_leftOut 21 = .ok (.aload_n 0, 1) := by decide +kernel
theorem dX7_leftOut_22 : decode cX7_leftOut 22 = .ok (.getfield 24, 3) := by decide +kernel
theorem dX7_leftOut_25 : decode cX7_leftOut 25 = .ok (.invokevirtual 206, 3) := by decide +kernel
theorem dX7_leftOut_28 : decode cX7_leftOut 28 = .ok (.istore_n 2, 1) := by decide +kernel
theorem dX7_leftOut_29 : decode cX7_leftOut 29 = .ok (.aload_n 0, 1) := by decide +kernel
theorem dX7_leftOut_30 : decode cX7_leftOut 30 = .ok (.aload_n 0, 1) := by decide +kernel
theorem dX7_leftOut_31 : decode cX7_leftOut 31 = .ok (.getfield 24, 3) := by decide +kernel
theorem dX7_leftOut_34 : decode cX7_leftOut 34 = .ok (.iload_n 2, 1) := by decide +kernel
theorem dX7_leftOut_35 : decode cX7_leftOut 35 = .ok (.invokevirtual 209, 3) := by decide +kernel
theorem dX7_leftOut_38 : decode cX7_leftOut 38 = .ok (.putfield 67, 3) := by decide +kernel
theorem dX7_leftOut_41 : decode cX7_leftOut 41 = .ok (.aload_n 0, 1) := by decide +kernel
theorem dX7_leftOut_42 : decode cX7_leftOut 42 = .ok (.getfield 24, 3) := by decide +kernel
theorem dX7_leftOut_45 : decode cX7_leftOut 45 = .ok (.invokevirtual 212, 3) := by decide +kernel
theorem dX7_leftOut_48 : decode cX7_leftOut 48 = .ok (.aload_n 0, 1) := by decide +kernel
theorem dX7_leftOut_49 : decode cX7_leftOut 49 = .ok (.getfield 24, 3) := by decide +kernel
theorem dX7_leftOut_52 : decode cX7_leftOut 52 = .ok (.iload_n 2, 1) := by decide +kernel
theorem dX7_leftOut_53 : decode cX7_leftOut 53 = .ok (.invokevirtual 215, 3) := by decide +kernel
theorem dX7_leftOut_56 : decode cX7_leftOut 56 = .ok (.isub, 1) := by decide +kernel
theorem dX7_leftOut_57 : decode cX7_leftOut 57 = .ok (.ireturn, 1) := by decide +kernel
set_option maxRecDepth 20000 in
theorem ggX7_heldYear_X7_isDay : GoodIn wsX7_heldYear wsX7_isDay := goodIn_r _ [6, 7, 8, 5, 9] (by decide +kernel) (by decide +kernel)
set_option maxRecDepth 20000 in
theorem gX7_heldYear_X7_isDay : GoodIn wsX7_heldYear (va_wsS RX7 183 yX7_isDay wsX7_isDay) := goodIn_app (goodIn_of _ (by decide +kernel)) ggX7_heldYear_X7_isDay
set_option maxRecDepth 20000 in
theorem ggX7_heldYear_X5_gather : GoodIn wsX7_heldYear wsX5_gather := goodIn_r _ [14, 15, 16, 17, 18, 19, 20, 13, 21, 22, 23, 24, 25, 26, 27, 28, 29, 30, 31, 32, 33, 34, 35, 36, 37, 38, 39, 40, 41, 42, 43, 44, 45, 46, 47, 48, 49, 50, 51, 52, 53, 54, 55, 56, 57, 58, 59, 60, 61, 62, 63, 64, 65, 66, 67, 68, 69, 70, 71, 72, 73, 74, 75, 76, 77, 78, 79, 80, 81, 82, 83, 84, 85, 86, 87, 88, 114, 115, 116, 117, 118, 119, 120, 121, 122, 123, 124, 125, 126, 127, 128, 129, 130, 131, 132, 133, 134, 135] (by decide +kernel) (by decide +kernel)
set_option maxRecDepth 20000 in
theorem gX7_heldYear_X5_gather : GoodIn wsX7_heldYear (wsV RX7 186 RX5 yX5_gather wsX5_gather) := goodIn_app (goodIn_of _ (by decide +kernel)) ggX7_heldYear_X5_gather
set_option maxRecDepth 20000 in
theorem ggX7_heldYear_X1_heaviestYear : GoodIn wsX7_heldYear wsX1_heaviestYear := goodIn_r _ [92, 85, 86, 93, 94, 95, 82, 96, 88, 97, 98, 99, 100, 87, 114, 115, 116, 117, 118] (by decide +kernel) (by decide +kernel)
set_option maxRecDepth 20000 in
theorem gX7_heldYear_X1_heaviestYear : GoodIn wsX7_heldYear (wsV RX7 206 RX1 yX1_heaviestYear wsX1_heaviestYear) := goodIn_app (goodIn_of _ (by decide +kernel)) ggX7_heldYear_X1_heaviestYear
theorem dX7_heldYear_0 : decode cX7_heldYear 0 = .ok (.iload_n 1, 1) := by decide +kernel
theorem dX7_heldYear_1 : decode cX7_heldYear 1 = .ok (.invokestatic 183, 3) := by decide +kernel
theorem dX7_heldYear_4 : decode cX7_heldYear 4 = .ok (.ifCond .ne 5, 3) := by decide +kernel
theorem dX7_heldYear_7 : decode cX7_heldYear 7 = .ok (.iconst (-1), 1) := by decide +kernel
theorem dX7_heldYear_8 : decode cX7_heldYear 8 = .ok (.ireturn, 1) := by decide +kernel
theorem dX7_heldYear_9 : decode cX7_heldYear 9 = .ok (.aload_n 0, 1) := by decide +kernel
theorem dX7_heldYear_10 : decode cX7_heldYear 10 = .ok (.getfield 10, 3) := by decide +kernel
theorem dX7_heldYear_13 : decode cX7_heldYear 13 = .ok (.iload_n 1, 1) := by decide +kernel
theorem dX7_heldYear_14 : decode cX7_heldYear 14 = .ok (.aload_n 0, 1) := by decide +kernel
theorem dX7_heldYear_15 : decode cX7_heldYear 15 = .ok (.getfield 24, 3) := by decide +kernel
theorem dX7_heldYear_18 : decode cX7_heldYear 18 = .ok (.invokevirtual 186, 3) := by decide +kernel
theorem dX7_heldYear_21 : decode cX7_heldYear 21 = .ok (.aload_n 0, 1) := by decide +kernel
theorem dX7_heldYear_22 : decode cX7_heldYear 22 = .ok (.getfield 24, 3) := by decide +kernel
theorem dX7_heldYear_25 : decode cX7_heldYear 25 = .ok (.invokevirtual 206, 3) := by decide +kernel
theorem dX7_heldYear_28 : decode cX7_heldYear 28 = .ok (.ireturn, 1) := by decide +kernel
set_option maxRecDepth 20000 in
theorem ggX7_hand_X7_isHand : GoodIn wsX7_hand wsX7_isHand := goodIn_r _ [5, 6, 7, 4, 8] (by decide +kernel) (by decide +kernel)
set_option maxRecDepth 20000 in
theorem gX7_hand_X7_isHand : GoodIn wsX7_hand (va_wsS RX7 218 yX7_isHand wsX7_isHand) := goodIn_app (goodIn_of _ (by decide +kernel)) ggX7_hand_X7_isHand
set_option maxRecDepth 20000 in
theorem ggX7_hand_X7_isWithin : GoodIn wsX7_hand wsX7_isWithin := goodIn_r _ [8] (by decide +kernel) (by decide +kernel)
set_option maxRecDepth 20000 in
theorem gX7_hand_X7_isWithin : GoodIn wsX7_hand (va_wsS RX7 77 yX7_isWithin wsX7_isWithin) := goodIn_app (goodIn_of _ (by decide +kernel)) ggX7_hand_X7_isWithin
set_option maxRecDepth 20000 in
theorem ggX7_hand_X2_swapWeight : GoodIn wsX7_hand wsX2_swapWeight := goodIn_r _ [13, 14, 28, 29, 30, 31, 32, 33, 34, 35, 36, 37] (by decide +kernel) (by decide +kernel)
set_option maxRecDepth 20000 in
theorem gX7_hand_X2_swapWeight : GoodIn wsX7_hand (wsV RX7 221 RX2 yX2_swapWeight wsX2_swapWeight) := goodIn_app (goodIn_of _ (by decide +kernel)) ggX7_hand_X2_swapWeight
theorem dX7_hand_0 : decode cX7_hand 0 = .ok (.iload_n 1, 1) := by decide +kernel
theorem dX7_hand_1 : decode cX7_hand 1 = .ok (.invokestatic 218, 3) := by decide +kernel
theorem dX7_hand_4 : decode cX7_hand 4 = .ok (.ifCond .eq 13, 3) := by decide +kernel
theorem dX7_hand_7 : decode cX7_hand 7 = .ok (.iload_n 2, 1) := by decide +kernel
theorem dX7_hand_8 : decode cX7_hand 8 = .ok (.iconst 0, 1) := by decide +kernel
theorem dX7_hand_9 : decode cX7_hand 9 = .ok (.bipush 99, 2) := by decide +kernel
theorem dX7_hand_11 : decode cX7_hand 11 = .ok (.invokestatic 77, 3) := by decide +kernel
theorem dX7_hand_14 : decode cX7_hand 14 = .ok (.ifCond .ne 5, 3) := by decide +kernel
theorem dX7_hand_17 : decode cX7_hand 17 = .ok (.iconst (-1), 1) := by decide +kernel
theorem dX7_hand_18 : decode cX7_hand 18 = .ok (.ireturn, 1) := by decide +kernel
theorem dX7_hand_19 : decode cX7_hand 19 = .ok (.aload_n 0, 1) := by decide +kernel
theorem dX7_hand_20 : decode cX7_hand 20 = .ok (.getfield 31, 3) := by decide +kernel
theorem dX7_hand_23 : decode cX7_hand 23 = .ok (.iload_n 1, 1) := by decide +kernel
theorem dX7_hand_24 : decode cX7_hand 24 = .ok (.iload_n 2, 1) := by decide +kernel
theorem dX7_hand_25 : decode cX7_hand 25 = .ok (.invokevirtual 221, 3) := by decide +kernel
theorem dX7_hand_28 : decode cX7_hand 28 = .ok (.ireturn, 1) := by decide +kernel
set_option maxRecDepth 20000 in
theorem ggX7_test_X7_isWithin : GoodIn wsX7_test wsX7_isWithin := goodIn_r _ [5] (by decide +kernel) (by decide +kernel)
set_option maxRecDepth 20000 in
theorem gX7_test_X7_isWithin : GoodIn wsX7_test (va_wsS RX7 77 yX7_isWithin wsX7_isWithin) := goodIn_app (goodIn_of _ (by decide +kernel)) ggX7_test_X7_isWithin
set_option maxRecDepth 20000 in
theorem ggX7_test_X2_isFull : GoodIn wsX7_test wsX2_isFull := goodIn_r _ [10, 11, 34, 35, 36, 37, 38, 39, 40, 41, 42, 43] (by decide +kernel) (by decide +kernel)
set_option maxRecDepth 20000 in
theorem gX7_test_X2_isFull : GoodIn wsX7_test (wsV RX7 224 RX2 yX2_isFull wsX2_isFull) := goodIn_app (goodIn_of _ (by decide +kernel)) ggX7_test_X2_isFull
set_option maxRecDepth 20000 in
theorem ggX7_test_X2_add : GoodIn wsX7_test wsX2_add := goodIn_r _ [15, 16, 11, 17, 18, 19, 20, 34, 35, 36, 37, 38, 39, 40, 41, 42, 43] (by decide +kernel) (by decide +kernel)
set_option maxRecDepth 20000 in
theorem gX7_test_X2_add : GoodIn wsX7_test (wsV RX7 225 RX2 yX2_add wsX2_add) := goodIn_app (goodIn_of _ (by decide +kernel)) ggX7_test_X2_add
theorem dX7_test_0 : decode cX7_test 0 = .ok (.iload_n 3, 1) := by decide +kernel
theorem dX7_test_1 : decode cX7_test 1 = .ok (.bipush (-9), 2) := by decide +kernel
theorem dX7_test_3 : decode cX7_test 3 = .ok (.if_icmp .eq 12, 3) := by decide +kernel
theorem dX7_test_6 : decode cX7_test 6 = .ok (.iload_n 3, 1) := by decide +kernel
theorem dX7_test_7 : decode cX7_test 7 = .ok (.iconst 0, 1) := by decide +kernel
theorem dX7_test_8 : decode cX7_test 8 = .ok (.iconst 3, 1) := by decide +kernel
theorem dX7_test_9 : decode cX7_test 9 = .ok (.invokestatic 77, 3) := by decide +kernel
theorem dX7_test_12 : decode cX7_test 12 = .ok (.ifCond .eq 7, 3) := by decide +kernel
theorem dX7_test_15 : decode cX7_test 15 = .ok (.iconst 1, 1) := by decide +kernel
theorem dX7_test_16 : decode cX7_test 16 = .ok (.goto 4, 3) := by decide +kernel
theorem dX7_test_19 : decode cX7_test 19 = .ok (.iconst 0, 1) := by decide +kernel
theorem dX7_test_20 : decode cX7_test 20 = .ok (.istore 4, 2) := by decide +kernel
theorem dX7_test_22 : decode cX7_test 22 = .ok (.iload_n 1, 1) := by decide +kernel
theorem dX7_test_23 : decode cX7_test 23 = .ok (.iconst 1, 1) := by decide +kernel
theorem dX7_test_24 : decode cX7_test 24 = .ok (.sipush 1000, 3) := by decide +kernel
theorem dX7_test_27 : decode cX7_test 27 = .ok (.invokestatic 77, 3) := by decide +kernel
theorem dX7_test_30 : decode cX7_test 30 = .ok (.ifCond .eq 18, 3) := by decide +kernel
theorem dX7_test_33 : decode cX7_test 33 = .ok (.iload_n 2, 1) := by decide +kernel
theorem dX7_test_34 : decode cX7_test 34 = .ok (.iconst 0, 1) := by decide +kernel
theorem dX7_test_35 : decode cX7_test 35 = .ok (.bipush 9, 2) := by decide +kernel
theorem dX7_test_37 : decode cX7_test 37 = .ok (.invokestatic 77, 3) := by decide +kernel
theorem dX7_test_40 : decode cX7_test 40 = .ok (.ifCond .eq 8, 3) := by decide +kernel
theorem dX7_test_43 : decode cX7_test 43 = .ok (.iload 4, 2) := by decide +kernel
theorem dX7_test_45 : decode cX7_test 45 = .ok (.ifCond .ne 5, 3) := by decide +kernel
theorem dX7_test_48 : decode cX7_test 48 = .ok (.iconst (-1), 1) := by decide +kernel
theorem dX7_test_49 : decode cX7_test 49 = .ok (.ireturn, 1) := by decide +kernel
theorem dX7_test_50 : decode cX7_test 50 = .ok (.aload_n 0, 1) := by decide +kernel
theorem dX7_test_51 : decode cX7_test 51 = .ok (.getfield 31, 3) := by decide +kernel
theorem dX7_test_54 : decode cX7_test 54 = .ok (.invokevirtual 224, 3) := by decide +kernel
theorem dX7_test_57 : decode cX7_test 57 = .ok (.ifCond .eq 6, 3) := by decide +kernel
theorem dX7_test_60 : decode cX7_test 60 = .ok (.bipush (-2), 2) := by decide +kernel
theorem dX7_test_62 : decode cX7_test 62 = .ok (.ireturn, 1) := by decide +kernel
theorem dX7_test_63 : decode cX7_test 63 = .ok (.aload_n 0, 1) := by decide +kernel
theorem dX7_test_64 : decode cX7_test 64 = .ok (.getfield 31, 3) := by decide +kernel
theorem dX7_test_67 : decode cX7_test 67 = .ok (.iload_n 1, 1) := by decide +kernel
theorem dX7_test_68 : decode cX7_test 68 = .ok (.iload_n 2, 1) := by decide +kernel
theorem dX7_test_69 : decode cX7_test 69 = .ok (.iload_n 3, 1) := by decide +kernel
theorem dX7_test_70 : decode cX7_test 70 = .ok (.invokevirtual 225, 3) := by decide +kernel
theorem dX7_test_73 : decode cX7_test 73 = .ok (.ireturn, 1) := by decide +kernel
set_option maxRecDepth 20000 in
theorem ggX7_often_X2_has : GoodIn wsX7_often wsX2_has := goodIn_r _ [6, 7, 38, 39, 40, 41, 42, 43, 44, 45, 46, 47] (by decide +kernel) (by decide +kernel)
set_option maxRecDepth 20000 in
theorem gX7_often_X2_has : GoodIn wsX7_often (wsV RX7 228 RX2 yX2_has wsX2_has) := goodIn_app (goodIn_of _ (by decide +kernel)) ggX7_often_X2_has
set_option maxRecDepth 20000 in
theorem ggX7_often_X7_isHand : GoodIn wsX7_often wsX7_isHand := goodIn_r _ [11, 12, 13, 10, 14] (by decide +kernel) (by decide +kernel)
set_option maxRecDepth 20000 in
theorem gX7_often_X7_isHand : GoodIn wsX7_often (va_wsS RX7 218 yX7_isHand wsX7_isHand) := goodIn_app (goodIn_of _ (by decide +kernel)) ggX7_often_X7_isHand
set_option maxRecDepth 20000 in
theorem ggX7_often_X7_isWithin : GoodIn wsX7_often wsX7_isWithin := goodIn_r _ [14] (by decide +kernel) (by decide +kernel)
set_option maxRecDepth 20000 in
theorem gX7_often_X7_isWithin : GoodIn wsX7_often (va_wsS RX7 77 yX7_isWithin wsX7_isWithin) := goodIn_app (goodIn_of _ (by decide +kernel)) ggX7_often_X7_isWithin
set_option maxRecDepth 20000 in
theorem ggX7_often_X2_isDone : GoodIn wsX7_often wsX2_isDone := goodIn_r _ [18, 19, 38, 39, 40, 41, 42, 43, 44, 45, 46, 47] (by decide +kernel) (by decide +kernel)
set_option maxRecDepth 20000 in
theorem gX7_often_X2_isDone : GoodIn wsX7_often (wsV RX7 229 RX2 yX2_isDone wsX2_isDone) := goodIn_app (goodIn_of _ (by decide +kernel)) ggX7_often_X2_isDone
set_option maxRecDepth 20000 in
theorem ggX7_often_X2_swapOften : GoodIn wsX7_often wsX2_swapOften := goodIn_r _ [23, 24, 38, 39, 40, 41, 42, 43, 44, 45, 46, 47] (by decide +kernel) (by decide +kernel)
set_option maxRecDepth 20000 in
theorem gX7_often_X2_swapOften : GoodIn wsX7_often (wsV RX7 232 RX2 yX2_swapOften wsX2_swapOften) := goodIn_app (goodIn_of _ (by decide +kernel)) ggX7_often_X2_swapOften
theorem dX7_often_0 : decode cX7_often 0 = .ok (.aload_n 0, 1) := by decide +kernel
theorem dX7_often_1 : decode cX7_often 1 = .ok (.getfield 31, 3) := by decide +kernel
theorem dX7_often_4 : decode cX7_often 4 = .ok (.iload_n 1, 1) := by decide +kernel
theorem dX7_often_5 : decode cX7_often 5 = .ok (.invokevirtual 228, 3) := by decide +kernel
theorem dX7_often_8 : decode cX7_often 8 = .ok (.ifCond .eq 20, 3) := by decide +kernel
theorem dX7_often_11 : decode cX7_often 11 = .ok (.iload_n 2, 1) := by decide +kernel
theorem dX7_often_12 : decode cX7_often 12 = .ok (.invokestatic 218, 3) := by decide +kernel
theorem dX7_often_15 : decode cX7_often 15 = .ok (.ifCond .eq 13, 3) := by decide +kernel
theorem dX7_often_18 : decode cX7_often 18 = .ok (.iload_n 3, 1) := by decide +kernel
theorem dX7_often_19 : decode cX7_often 19 = .ok (.iconst 0, 1) := by decide +kernel
theorem dX7_often_20 : decode cX7_often 20 = .ok (.bipush 16, 2) := by decide +kernel
theorem dX7_often_22 : decode cX7_often 22 = .ok (.invokestatic 77, 3) := by decide +kernel
theorem dX7_often_25 : decode cX7_often 25 = .ok (.ifCond .ne 5, 3) := by decide +kernel
theorem dX7_often_28 : decode cX7_often 28 = .ok (.iconst (-1), 1) := by decide +kernel
theorem dX7_often_29 : decode cX7_often 29 = .ok (.ireturn, 1) := by decide +kernel
theorem dX7_often_30 : decode cX7_often 30 = .ok (.aload_n 0, 1) := by decide +kernel
theorem dX7_often_31 : decode cX7_often 31 = .ok (.getfield 31, 3) := by decide +kernel
theorem dX7_often_34 : decode cX7_often 34 = .ok (.iload_n 1, 1) := by decide +kernel
theorem dX7_often_35 : decode cX7_often 35 = .ok (.invokevirtual 229, 3) := by decide +kernel
theorem dX7_often_38 : decode cX7_often 38 = .ok (.ifCond .eq 6, 3) := by decide +kernel
theorem dX7_often_41 : decode cX7_often 41 = .ok (.bipush (-4), 2) := by decide +kernel
theorem dX7_often_43 : decode cX7_often 43 = .ok (.ireturn, 1) := by decide +kernel
theorem dX7_often_44 : decode cX7_often 44 = .ok (.aload_n 0, 1) := by decide +kernel
theorem dX7_often_45 : decode cX7_often 45 = .ok (.getfield 31, 3) := by decide +kernel
theorem dX7_often_48 : decode cX7_often 48 = .ok (.iload_n 1, 1) := by decide +kernel
theorem dX7_often_49 : decode cX7_often 49 = .ok (.iload_n 2, 1) := by decide +kernel
theorem dX7_often_50 : decode cX7_often 50 = .ok (.iload_n 3, 1) := by decide +kernel
theorem dX7_often_51 : decode cX7_often 51 = .ok (.invokevirtual 232, 3) := by decide +kernel
theorem dX7_often_54 : decode cX7_often 54 = .ok (.ireturn, 1) := by decide +kernel
set_option maxRecDepth 20000 in
theorem ggX7_done_X2_has : GoodIn wsX7_done wsX2_has := goodIn_r _ [6, 7, 38, 39, 40, 41, 42, 43, 44, 45, 46, 47] (by decide +kernel) (by decide +kernel)
set_option maxRecDepth 20000 in
theorem gX7_done_X2_has : GoodIn wsX7_done (wsV RX7 228 RX2 yX2_has wsX2_has) := goodIn_app (goodIn_of _ (by decide +kernel)) ggX7_done_X2_has
set_option maxRecDepth 20000 in
theorem ggX7_done_X2_isDone : GoodIn wsX7_done wsX2_isDone := goodIn_r _ [11, 12, 38, 39, 40, 41, 42, 43, 44, 45, 46, 47] (by decide +kernel) (by decide +kernel)
set_option maxRecDepth 20000 in
theorem gX7_done_X2_isDone : GoodIn wsX7_done (wsV RX7 229 RX2 yX2_isDone wsX2_isDone) := goodIn_app (goodIn_of _ (by decide +kernel)) ggX7_done_X2_isDone
set_option maxRecDepth 20000 in
theorem ggX7_done_X2_finish : GoodIn wsX7_done wsX2_finish := goodIn_r _ [16, 17, 12, 18, 19, 20, 21, 22, 23, 5, 24, 38, 39, 40, 41, 42, 43, 44, 45, 46, 47] (by decide +kernel) (by decide +kernel)
set_option maxRecDepth 20000 in
theorem gX7_done_X2_finish : GoodIn wsX7_done (wsV RX7 235 RX2 yX2_finish wsX2_finish) := goodIn_app (goodIn_of _ (by decide +kernel)) ggX7_done_X2_finish
theorem dX7_done_0 : decode cX7_done 0 = .ok (.aload_n 0, 1) := by decide +kernel
theorem dX7_done_1 : decode cX7_done 1 = .ok (.getfield 31, 3) := by decide +kernel
theorem dX7_done_4 : decode cX7_done 4 = .ok (.iload_n 1, 1) := by decide +kernel
theorem dX7_done_5 : decode cX7_done 5 = .ok (.invokevirtual 228, 3) := by decide +kernel
theorem dX7_done_8 : decode cX7_done 8 = .ok (.ifCond .ne 5, 3) := by decide +kernel
theorem dX7_done_11 : decode cX7_done 11 = .ok (.iconst (-1), 1) := by decide +kernel
theorem dX7_done_12 : decode cX7_done 12 = .ok (.ireturn, 1) := by decide +kernel
theorem dX7_done_13 : decode cX7_done 13 = .ok (.aload_n 0, 1) := by decide +kernel
theorem dX7_done_14 : decode cX7_done 14 = .ok (.getfield 31, 3) := by decide +kernel
theorem dX7_done_17 : decode cX7_done 17 = .ok (.iload_n 1, 1) := by decide +kernel
theorem dX7_done_18 : decode cX7_done 18 = .ok (.invokevirtual 229, 3) := by decide +kernel
theorem dX7_done_21 : decode cX7_done 21 = .ok (.ifCond .eq 6, 3) := by decide +kernel
theorem dX7_done_24 : decode cX7_done 24 = .ok (.bipush (-4), 2) := by decide +kernel
theorem dX7_done_26 : decode cX7_done 26 = .ok (.ireturn, 1) := by decide +kernel
theorem dX7_done_27 : decode cX7_done 27 = .ok (.aload_n 0, 1) := by decide +kernel
theorem dX7_done_28 : decode cX7_done 28 = .ok (.getfield 31, 3) := by decide +kernel
theorem dX7_done_31 : decode cX7_done 31 = .ok (.iload_n 1, 1) := by decide +kernel
theorem dX7_done_32 : decode cX7_done 32 = .ok (.iload_n 2, 1) := by decide +kernel
theorem dX7_done_33 : decode cX7_done 33 = .ok (.invokevirtual 235, 3) := by decide +kernel
theorem dX7_done_36 : decode cX7_done 36 = .ok (.ifCond .eq 7, 3) := by decide +kernel
theorem dX7_done_39 : decode cX7_done 39 = .ok (.iconst 1, 1) := by decide +kernel
theorem dX7_done_40 : decode cX7_done 40 = .ok (.goto 4, 3) := by decide +kernel
theorem dX7_done_43 : decode cX7_done 43 = .ok (.iconst 0, 1) := by decide +kernel
theorem dX7_done_44 : decode cX7_done 44 = .ok (.ireturn, 1) := by decide +kernel
set_option maxRecDepth 20000 in
theorem ggX7_chance_X7_isHand : GoodIn wsX7_chance wsX7_isHand := goodIn_r _ [5, 6, 7, 4, 8] (by decide +kernel) (by decide +kernel)
set_option maxRecDepth 20000 in
theorem gX7_chance_X7_isHand : GoodIn wsX7_chance (va_wsS RX7 218 yX7_isHand wsX7_isHand) := goodIn_app (goodIn_of _ (by decide +kernel)) ggX7_chance_X7_isHand
set_option maxRecDepth 20000 in
theorem ggX7_chance_X2_scoreOfAll : GoodIn wsX7_chance wsX2_scoreOfAll := goodIn_r _ [13, 14, 15, 16, 12, 17, 18, 19, 20, 21, 22, 56, 57, 58, 59, 60, 61, 62, 63, 64, 65] (by decide +kernel) (by decide +kernel)
set_option maxRecDepth 20000 in
theorem gX7_chance_X2_scoreOfAll : GoodIn wsX7_chance (wsV RX7 239 RX2 yX2_scoreOfAll wsX2_scoreOfAll) := goodIn_app (goodIn_of _ (by decide +kernel)) ggX7_chance_X2_scoreOfAll
set_option maxRecDepth 20000 in
theorem ggX7_chance_X7_refuse : GoodIn wsX7_chance wsX7_refuse := goodIn_r _ [26, 27, 28, 43, 44, 45, 46, 47, 48, 49, 50, 51, 52, 53, 54, 55] (by decide +kernel) (by decide +kernel)
set_option maxRecDepth 20000 in
theorem gX7_chance_X7_refuse : GoodIn wsX7_chance (wsV RX7 85 RX7 yX7_refuse wsX7_refuse) := goodIn_app (goodIn_of _ (by decide +kernel)) ggX7_chance_X7_refuse
set_option maxRecDepth 20000 in
theorem ggX7_chance_X2_score : GoodIn wsX7_chance wsX2_score := goodIn_r _ [17, 18, 19, 20, 21, 22, 56, 57, 58, 59, 60, 61, 62, 63, 64, 65] (by decide +kernel) (by decide +kernel)
set_option maxRecDepth 20000 in
theorem gX7_chance_X2_score : GoodIn wsX7_chance (wsV RX7 243 RX2 yX2_score wsX2_score) := goodIn_app (goodIn_of _ (by decide +kernel)) ggX7_chance_X2_score
set_option maxRecDepth 20000 in
theorem ggX7_chance_X7_tellFraction : GoodIn wsX7_chance wsX7_tellFraction := goodIn_r _ [33, 34, 35, 36, 37, 38, 39, 40, 41, 4, 42, 43, 44, 45, 46, 47, 48, 49, 50, 51, 52, 53, 54, 55] (by decide +kernel) (by decide +kernel)
set_option maxRecDepth 20000 in
theorem gX7_chance_X7_tellFraction : GoodIn wsX7_chance (wsV RX7 247 RX7 yX7_tellFraction wsX7_tellFraction) := goodIn_app (goodIn_of _ (by decide +kernel)) ggX7_chance_X7_tellFraction
theorem dX7_chance_0 : decode cX7_chance 0 = .ok (.iload_n 1, 1) := by decide +kernel
theorem dX7_chance_1 : decode cX7_chance 1 = .ok (.invokestatic 218, 3) := by decide +kernel
theorem dX7_chance_4 : decode cX7_chance 4 = .ok (.ifCond .ne 5, 3) := by decide +kernel
theorem dX7_chance_7 : decode cX7_chance 7 = .ok (.iconst (-1), 1) := by decide +kernel
theorem dX7_chance_8 : decode cX7_chance 8 = .ok (.ireturn, 1) := by decide +kernel
theorem dX7_chance_9 : decode cX7_chance 9 = .ok (.aload_n 0, 1) := by decide +kernel
theorem dX7_chance_10 : decode cX7_chance 10 = .ok (.getfield 31, 3) := by decide +kernel
theorem dX7_chance_13 : decode cX7_chance 13 = .ok (.invokevirtual 239, 3) := by decide +kernel
theorem dX7_chance_16 : decode cX7_chance 16 = .ok (.lstore_n 2, 1) := by decide +kernel
theorem dX7_chance_17 : decode cX7_chance 17 = .ok (.lload_n 2, 1) := by decide +kernel
theorem dX7_chance_18 : decode cX7_chance 18 = .ok (.lconst 0, 1) := by decide +kernel
theorem dX7_chance_19 : decode cX7_chance 19 = .ok (.lcmp, 1) := by decide +kernel
theorem dX7_chance_20 : decode cX7_chance 20 = .ok (.ifCond .ne 9, 3) := by decide +kernel
theorem dX7_chance_23 : decode cX7_chance 23 = .ok (.aload_n 0, 1) := by decide +kernel
theorem dX7_chance_24 : decode cX7_chance 24 = .ok (.iconst 4, 1) := by decide +kernel
theorem dX7_chance_25 : decode cX7_chance 25 = .ok (.invokevirtual 85, 3) := by decide +kernel
theorem dX7_chance_28 : decode cX7_chance 28 = .ok (.ireturn, 1) := by decide +kernel
theorem dX7_chance_29 : decode cX7_chance 29 = .ok (.aload_n 0, 1) := by decide +kernel
theorem dX7_chance_30 : decode cX7_chance 30 = .ok (.aload_n 0, 1) := by decide +kernel
theorem dX7_chance_31 : decode cX7_chance 31 = .ok (.getfield 31, 3) := by decide +kernel
theorem dX7_chance_34 : decode cX7_chance 34 = .ok (.iload_n 1, 1) := by decide +kernel
theorem dX7_chance_35 : decode cX7_chance 35 = .ok (.invokevirtual 243, 3) := by decide +kernel
theorem dX7_chance_38 : decode cX7_chance 38 = .ok (.lload_n 2, 1) := by decide +kernel
theorem dX7_chance_39 : decode cX7_chance 39 = .ok (.invokevirtual 247, 3) := by decide +kernel
theorem dX7_chance_42 : decode cX7_chance 42 = .ok (.iconst 1, 1) := by decide +kernel
theorem dX7_chance_43 : decode cX7_chance 43 = .ok (.ireturn, 1) := by decide +kernel
set_option maxRecDepth 20000 in
theorem ggX7_likely_X2_scoreOfAll : GoodIn wsX7_likely wsX2_scoreOfAll := goodIn_r _ [6, 7, 8, 9, 5, 10, 11, 12, 13, 14, 15, 40, 41, 42, 43, 44, 45, 46, 47, 48, 49] (by decide +kernel) (by decide +kernel)
set_option maxRecDepth 20000 in
theorem gX7_likely_X2_scoreOfAll : GoodIn wsX7_likely (wsV RX7 239 RX2 yX2_scoreOfAll wsX2_scoreOfAll) := goodIn_app (goodIn_of _ (by decide +kernel)) ggX7_likely_X2_scoreOfAll
set_option maxRecDepth 20000 in
theorem ggX7_likely_X7_refuse : GoodIn wsX7_likely wsX7_refuse := goodIn_r _ [20, 21, 22, 27, 28, 29, 30, 31, 32, 33, 34, 35, 36, 37, 38, 39] (by decide +kernel) (by decide +kernel)
set_option maxRecDepth 20000 in
theorem gX7_likely_X7_refuse : GoodIn wsX7_likely (wsV RX7 85 RX7 yX7_refuse wsX7_refuse) := goodIn_app (goodIn_of _ (by decide +kernel)) ggX7_likely_X7_refuse
set_option maxRecDepth 20000 in
theorem ggX7_likely_X2_likeliest : GoodIn wsX7_likely wsX2_likeliest := goodIn_r _ [26, 7, 8, 9, 5, 10, 11, 12, 13, 14, 15, 40, 41, 42, 43, 44, 45, 46, 47, 48, 49] (by decide +kernel) (by decide +kernel)
set_option maxRecDepth 20000 in
theorem gX7_likely_X2_likeliest : GoodIn wsX7_likely (wsV RX7 251 RX2 yX2_likeliest wsX2_likeliest) := goodIn_app (goodIn_of _ (by decide +kernel)) ggX7_likely_X2_likeliest
theorem dX7_likely_0 : decode cX7_likely 0 = .ok (.aload_n 0, 1) := by decide +kernel
theorem dX7_likely_1 : decode cX7_likely 1 = .ok (.getfield 31, 3) := by decide +kernel
theorem dX7_likely_4 : decode cX7_likely 4 = .ok (.invokevirtual 239, 3) := by decide +kernel
theorem dX7_likely_7 : decode cX7_likely 7 = .ok (.lconst 0, 1) := by decide +kernel
theorem dX7_likely_8 : decode cX7_likely 8 = .ok (.lcmp, 1) := by decide +kernel
theorem dX7_likely_9 : decode cX7_likely 9 = .ok (.ifCond .ne 9, 3) := by decide +kernel
theorem dX7_likely_12 : decode cX7_likely 12 = .ok (.aload_n 0, 1) := by decide +kernel
theorem dX7_likely_13 : decode cX7_likely 13 = .ok (.iconst 4, 1) := by decide +kernel
theorem dX7_likely_14 : decode cX7_likely 14 = .ok (.invokevirtual 85, 3) := by decide +kernel
theorem dX7_likely_17 : decode cX7_likely 17 = .ok (.ireturn, 1) := by decide +kernel
theorem dX7_likely_18 : decode cX7_likely 18 = .ok (.aload_n 0, 1) := by decide +kernel
theorem dX7_likely_19 : decode cX7_likely 19 = .ok (.getfield 31, 3) := by decide +kernel
theorem dX7_likely_22 : decode cX7_likely 22 = .ok (.invokevirtual 251, 3) := by decide +kernel
theorem dX7_likely_25 : decode cX7_likely 25 = .ok (.ireturn, 1) := by decide +kernel
set_option maxRecDepth 20000 in
theorem ggX7_gain_X2_has : GoodIn wsX7_gain wsX2_has := goodIn_r _ [7, 8, 74, 75, 76, 77, 78, 79, 80, 81, 82, 83] (by decide +kernel) (by decide +kernel)
set_option maxRecDepth 20000 in
theorem gX7_gain_X2_has : GoodIn wsX7_gain (wsV RX7 228 RX2 yX2_has wsX2_has) := goodIn_app (goodIn_of _ (by decide +kernel)) ggX7_gain_X2_has
set_option maxRecDepth 20000 in
theorem ggX7_gain_X2_isOpen : GoodIn wsX7_gain wsX2_isOpen := goodIn_r _ [12, 13, 14, 15, 6, 16, 17, 18, 19, 20, 21, 22, 23, 74, 75, 76, 77, 78, 79, 80, 81, 82, 83] (by decide +kernel) (by decide +kernel)
set_option maxRecDepth 20000 in
theorem gX7_gain_X2_isOpen : GoodIn wsX7_gain (wsV RX7 254 RX2 yX2_isOpen wsX2_isOpen) := goodIn_app (goodIn_of _ (by decide +kernel)) ggX7_gain_X2_isOpen
set_option maxRecDepth 20000 in
theorem ggX7_gain_X2_scoreOfAll : GoodIn wsX7_gain wsX2_scoreOfAll := goodIn_r _ [27, 28, 29, 30, 6, 31, 32, 8, 33, 34, 17, 74, 75, 76, 77, 78, 79, 80, 81, 82, 83] (by decide +kernel) (by decide +kernel)
set_option maxRecDepth 20000 in
theorem gX7_gain_X2_scoreOfAll : GoodIn wsX7_gain (wsV RX7 239 RX2 yX2_scoreOfAll wsX2_scoreOfAll) := goodIn_app (goodIn_of _ (by decide +kernel)) ggX7_gain_X2_scoreOfAll
set_option maxRecDepth 20000 in
theorem ggX7_gain_X7_refuse : GoodIn wsX7_gain wsX7_refuse := goodIn_r _ [39, 40, 41, 61, 62, 63, 64, 65, 66, 67, 68, 69, 70, 71, 72, 73] (by decide +kernel) (by decide +kernel)
set_option maxRecDepth 20000 in
theorem gX7_gain_X7_refuse : GoodIn wsX7_gain (wsV RX7 85 RX7 yX7_refuse wsX7_refuse) := goodIn_app (goodIn_of _ (by decide +kernel)) ggX7_gain_X7_refuse
set_option maxRecDepth 20000 in
theorem ggX7_gain_X2_gainOf : GoodIn wsX7_gain wsX2_gainOf := goodIn_r _ [45, 34, 46, 47, 48, 49, 50, 28, 29, 30, 6, 31, 32, 8, 33, 17, 74, 75, 76, 77, 78, 79, 80, 81, 82, 83] (by decide +kernel) (by decide +kernel)
set_option maxRecDepth 20000 in
theorem gX7_gain_X2_gainOf : GoodIn wsX7_gain (wsV RX7 257 RX2 yX2_gainOf wsX2_gainOf) := goodIn_app (goodIn_of _ (by decide +kernel)) ggX7_gain_X2_gainOf
set_option maxRecDepth 20000 in
theorem ggX7_gain_X7_tellFraction : GoodIn wsX7_gain wsX7_tellFraction := goodIn_r _ [54, 55, 47, 48, 49, 56, 57, 58, 59, 38, 60, 61, 62, 63, 64, 65, 66, 67, 68, 69, 70, 71, 72, 73] (by decide +kernel) (by decide +kernel)
set_option maxRecDepth 20000 in
theorem gX7_gain_X7_tellFraction : GoodIn wsX7_gain (wsV RX7 247 RX7 yX7_tellFraction wsX7_tellFraction) := goodIn_app (goodIn_of _ (by decide +kernel)) ggX7_gain_X7_tellFraction
theorem dX7_gain_0 : decode cX7_gain 0 = .ok (.aload_n 0, 1) := by decide +kernel
theorem dX7_gain_1 : decode cX7_gain 1 = .ok (.getfield 31, 3) := by decide +kernel
theorem dX7_gain_4 : decode cX7_gain 4 = .ok (.iload_n 1, 1) := by decide +kernel
theorem dX7_gain_5 : decode cX7_gain 5 = .ok (.invokevirtual 228, 3) := by decide +kernel
theorem dX7_gain_8 : decode cX7_gain 8 = .ok (.ifCond .ne 5, 3) := by decide +kernel
theorem dX7_gain_11 : decode cX7_gain 11 = .ok (.iconst (-1), 1) := by decide +kernel
theorem dX7_gain_12 : decode cX7_gain 12 = .ok (.ireturn, 1) := by decide +kernel
theorem dX7_gain_13 : decode cX7_gain 13 = .ok (.aload_n 0, 1) := by decide +kernel
theorem dX7_gain_14 : decode cX7_gain 14 = .ok (.getfield 31, 3) := by decide +kernel
theorem dX7_gain_17 : decode cX7_gain 17 = .ok (.iload_n 1, 1) := by decide +kernel
theorem dX7_gain_18 : decode cX7_gain 18 = .ok (.invokevirtual 254, 3) := by decide +kernel
theorem dX7_gain_21 : decode cX7_gain 21 = .ok (.ifCond .ne 6, 3) := by decide +kernel
theorem dX7_gain_24 : decode cX7_gain 24 = .ok (.bipush (-4), 2) := by decide +kernel
theorem dX7_gain_26 : decode cX7_gain 26 = .ok (.ireturn, 1) := by decide +kernel
theorem dX7_gain_27 : decode cX7_gain 27 = .ok (.aload_n 0, 1) := by decide +kernel
theorem dX7_gain_28 : decode cX7_gain 28 = .ok (.getfield 31, 3) := by decide +kernel
theorem dX7_gain_31 : decode cX7_gain 31 = .ok (.invokevirtual 239, 3) := by decide +kernel
theorem dX7_gain_34 : decode cX7_gain 34 = .ok (.lstore_n 2, 1) := by decide +kernel
theorem dX7_gain_35 : decode cX7_gain 35 = .ok (.lload_n 2, 1) := by decide +kernel
theorem dX7_gain_36 : decode cX7_gain 36 = .ok (.lconst 0, 1) := by decide +kernel
theorem dX7_gain_37 : decode cX7_gain 37 = .ok (.lcmp, 1) := by decide +kernel
theorem dX7_gain_38 : decode cX7_gain 38 = .ok (.ifCond .ne 9, 3) := by decide +kernel
theorem dX7_gain_41 : decode cX7_gain 41 = .ok (.aload_n 0, 1) := by decide +kernel
theorem dX7_gain_42 : decode cX7_gain 42 = .ok (.iconst 4, 1) := by decide +kernel
theorem dX7_gain_43 : decode cX7_gain 43 = .ok (.invokevirtual 85, 3) := by decide +kernel
theorem dX7_gain_46 : decode cX7_gain 46 = .ok (.ireturn, 1) := by decide +kernel
theorem dX7_gain_47 : decode cX7_gain 47 = .ok (.aload_n 0, 1) := by decide +kernel
theorem dX7_gain_48 : decode cX7_gain 48 = .ok (.aload_n 0, 1) := by decide +kernel
theorem dX7_gain_49 : decode cX7_gain 49 = .ok (.getfield 31, 3) := by decide +kernel
theorem dX7_gain_52 : decode cX7_gain 52 = .ok (.iload_n 1, 1) := by decide +kernel
theorem dX7_gain_53 : decode cX7_gain 53 = .ok (.invokevirtual 257, 3) := by decide +kernel
theorem dX7_gain_56 : decode cX7_gain 56 = .ok (.ldc2_w 260, 3) := by decide +kernel
theorem dX7_gain_59 : decode cX7_gain 59 = .ok (.lload_n 2, 1) := by decide +kernel
theorem dX7_gain_60 : decode cX7_gain 60 = .ok (.lmul, 1) := by decide +kernel
theorem dX7_gain_61 : decode cX7_gain 61 = .ok (.invokevirtual 247, 3) := by decide +kernel
theorem dX7_gain_64 : decode cX7_gain 64 = .ok (.iconst 1, 1) := by decide +kernel
theorem dX7_gain_65 : decode cX7_gain 65 = .ok (.ireturn, 1) := by decide +kernel
set_option maxRecDepth 20000 in
theorem ggX7_next_X2_scoreOfAll : GoodIn wsX7_next wsX2_scoreOfAll := goodIn_r _ [6, 7, 8, 9, 5, 10, 11, 12, 13, 14, 15, 65, 66, 67, 68, 69, 70, 71, 72, 73, 74] (by decide +kernel) (by decide +kernel)
set_option maxRecDepth 20000 in
theorem gX7_next_X2_scoreOfAll : GoodIn wsX7_next (wsV RX7 239 RX2 yX2_scoreOfAll wsX2_scoreOfAll) := goodIn_app (goodIn_of _ (by decide +kernel)) ggX7_next_X2_scoreOfAll
set_option maxRecDepth 20000 in
theorem ggX7_next_X7_refuse : GoodIn wsX7_next wsX7_refuse := goodIn_r _ [20, 21, 22, 52, 53, 54, 55, 56, 57, 58, 59, 60, 61, 62, 63, 64] (by decide +kernel) (by decide +kernel)
set_option maxRecDepth 20000 in
theorem gX7_next_X7_refuse : GoodIn wsX7_next (wsV RX7 85 RX7 yX7_refuse wsX7_refuse) := goodIn_app (goodIn_of _ (by decide +kernel)) ggX7_next_X7_refuse
set_option maxRecDepth 20000 in
theorem ggX7_next_X2_best : GoodIn wsX7_next wsX2_best := goodIn_r _ [26, 12, 27, 28, 29, 30, 31, 5, 32, 33, 34, 35, 36, 15, 37, 38, 39, 40, 41, 42, 43, 44, 45, 46, 14, 47, 48, 49, 50, 51, 7, 8, 9, 10, 11, 13, 65, 66, 67, 68, 69, 70, 71, 72, 73, 74] (by decide +kernel) (by decide +kernel)
set_option maxRecDepth 20000 in
theorem gX7_next_X2_best : GoodIn wsX7_next (wsV RX7 262 RX2 yX2_best wsX2_best) := goodIn_app (goodIn_of _ (by decide +kernel)) ggX7_next_X2_best
theorem dX7_next_0 : decode cX7_next 0 = .ok (.iload_n 1, 1) := by decide +kernel
theorem dX7_next_1 : decode cX7_next 1 = .ok (.ifCond .lt 7, 3) := by decide +kernel
theorem dX7_next_4 : decode cX7_next 4 = .ok (.iload_n 2, 1) := by decide +kernel
theorem dX7_next_5 : decode cX7_next 5 = .ok (.ifCond .ge 5, 3) := by decide +kernel
theorem dX7_next_8 : decode cX7_next 8 = .ok (.iconst (-1), 1) := by decide +kernel
theorem dX7_next_9 : decode cX7_next 9 = .ok (.ireturn, 1) := by decide +kernel
theorem dX7_next_10 : decode cX7_next 10 = .ok (.aload_n 0, 1) := by decide +kernel
theorem dX7_next_11 : decode cX7_next 11 = .ok (.getfield 31, 3) := by decide +kernel
theorem dX7_next_14 : decode cX7_next 14 = .ok (.invokevirtual 239, 3) := by decide +kernel
theorem dX7_next_17 : decode cX7_next 17 = .ok (.lconst 0, 1) := by decide +kernel
theorem dX7_next_18 : decode cX7_next 18 = .ok (.lcmp, 1) := by decide +kernel
theorem dX7_next_19 : decode cX7_next 19 = .ok (.ifCond .ne 9, 3) := by decide +kernel
theorem dX7_next_22 : decode cX7_next 22 = .ok (.aload_n 0, 1) := by decide +kernel
theorem dX7_next_23 : decode cX7_next 23 = .ok (.iconst 4, 1) := by decide +kernel
theorem dX7_next_24 : decode cX7_next 24 = .ok (.invokevirtual 85, 3) := by decide +kernel
theorem dX7_next_27 : decode cX7_next 27 = .ok (.ireturn, 1) := by decide +kernel
theorem dX7_next_28 : decode cX7_next 28 = .ok (.aload_n 0, 1) := by decide +kernel
theorem dX7_next_29 : decode cX7_next 29 = .ok (.getfield 31, 3) := by decide +kernel
theorem dX7_next_32 : decode cX7_next 32 = .ok (.iload_n 1, 1) := by decide +kernel
theorem dX7_next_33 : decode cX7_next 33 = .ok (.iload_n 2, 1) := by decide +kernel
theorem dX7_next_34 : decode cX7_next 34 = .ok (.invokevirtual 262, 3) := by decide +kernel
theorem dX7_next_37 : decode cX7_next 37 = .ok (.ireturn, 1) := by decide +kernel
set_option maxRecDepth 20000 in
theorem ggX7_owner_X7_areYears : GoodIn wsX7_owner wsX7_areYears := goodIn_r _ [5, 6, 7, 4, 8, 9, 10, 11] (by decide +kernel) (by decide +kernel)
set_option maxRecDepth 20000 in
theorem gX7_owner_X7_areYears : GoodIn wsX7_owner (va_wsS RX7 141 yX7_areYears wsX7_areYears) := goodIn_app (goodIn_of _ (by decide +kernel)) ggX7_owner_X7_areYears
set_option maxRecDepth 20000 in
theorem ggX7_owner_X4_isFull : GoodIn wsX7_owner wsX4_isFull := goodIn_r _ [16, 17, 37, 38, 39, 40, 41] (by decide +kernel) (by decide +kernel)
set_option maxRecDepth 20000 in
theorem gX7_owner_X4_isFull : GoodIn wsX7_owner (wsV RX7 265 RX4 yX4_isFull wsX4_isFull) := goodIn_app (goodIn_of _ (by decide +kernel)) ggX7_owner_X4_isFull
set_option maxRecDepth 20000 in
theorem ggX7_owner_X4_add : GoodIn wsX7_owner wsX4_add := goodIn_r _ [21, 17, 22, 23, 37, 38, 39, 40, 41] (by decide +kernel) (by decide +kernel)
set_option maxRecDepth 20000 in
theorem gX7_owner_X4_add : GoodIn wsX7_owner (wsV RX7 266 RX4 yX4_add wsX4_add) := goodIn_app (goodIn_of _ (by decide +kernel)) ggX7_owner_X4_add
theorem dX7_owner_0 : decode cX7_owner 0 = .ok (.iload_n 1, 1) := by decide +kernel
theorem dX7_owner_1 : decode cX7_owner 1 = .ok (.iload_n 2, 1) := by decide +kernel
theorem dX7_owner_2 : decode cX7_owner 2 = .ok (.invokestatic 141, 3) := by decide +kernel
theorem dX7_owner_5 : decode cX7_owner 5 = .ok (.ifCond .ne 5, 3) := by decide +kernel
theorem dX7_owner_8 : decode cX7_owner 8 = .ok (.iconst (-1), 1) := by decide +kernel
theorem dX7_owner_9 : decode cX7_owner 9 = .ok (.ireturn, 1) := by decide +kernel
theorem dX7_owner_10 : decode cX7_owner 10 = .ok (.aload_n 0, 1) := by decide +kernel
theorem dX7_owner_11 : decode cX7_owner 11 = .ok (.getfield 38, 3) := by decide +kernel
theorem dX7_owner_14 : decode cX7_owner 14 = .ok (.invokevirtual 265, 3) := by decide +kernel
theorem dX7_owner_17 : decode cX7_owner 17 = .ok (.ifCond .eq 6, 3) := by decide +kernel
theorem dX7_owner_20 : decode cX7_owner 20 = .ok (.bipush (-2), 2) := by decide +kernel
theorem dX7_owner_22 : decode cX7_owner 22 = .ok (.ireturn, 1) := by decide +kernel
theorem dX7_owner_23 : decode cX7_owner 23 = .ok (.aload_n 0, 1) := by decide +kernel
theorem dX7_owner_24 : decode cX7_owner 24 = .ok (.getfield 38, 3) := by decide +kernel
theorem dX7_owner_27 : decode cX7_owner 27 = .ok (.iload_n 1, 1) := by decide +kernel
theorem dX7_owner_28 : decode cX7_owner 28 = .ok (.iload_n 2, 1) := by decide +kernel
theorem dX7_owner_29 : decode cX7_owner 29 = .ok (.invokevirtual 266, 3) := by decide +kernel
theorem dX7_owner_32 : decode cX7_owner 32 = .ok (.ireturn, 1) := by decide +kernel
set_option maxRecDepth 20000 in
theorem ggX7_gaps_X7_areYears : GoodIn wsX7_gaps wsX7_areYears := goodIn_r _ [8, 9, 10, 7, 11, 12, 13, 14] (by decide +kernel) (by decide +kernel)
set_option maxRecDepth 20000 in
theorem gX7_gaps_X7_areYears : GoodIn wsX7_gaps (va_wsS RX7 141 yX7_areYears wsX7_areYears) := goodIn_app (goodIn_of _ (by decide +kernel)) ggX7_gaps_X7_areYears
set_option maxRecDepth 20000 in
theorem ggX7_gaps_X4_findGaps : GoodIn wsX7_gaps wsX4_findGaps := goodIn_r _ [19, 20, 21, 22, 23, 24, 25, 26, 27, 28, 29, 30, 31, 32, 33, 34, 18, 35, 49, 50, 51, 52, 53] (by decide +kernel) (by decide +kernel)
set_option maxRecDepth 20000 in
theorem gX7_gaps_X4_findGaps : GoodIn wsX7_gaps (wsV RX7 268 RX4 yX4_findGaps wsX4_findGaps) := goodIn_app (goodIn_of _ (by decide +kernel)) ggX7_gaps_X4_findGaps
theorem dX7_gaps_0 : decode cX7_gaps 0 = .ok (.iload_n 1, 1) := by decide +kernel
theorem dX7_gaps_1 : decode cX7_gaps 1 = .ok (.iload_n 2, 1) := by decide +kernel
theorem dX7_gaps_2 : decode cX7_gaps 2 = .ok (.invokestatic 141, 3) := by decide +kernel
theorem dX7_gaps_5 : decode cX7_gaps 5 = .ok (.ifCond .ne 5, 3) := by decide +kernel
theorem dX7_gaps_8 : decode cX7_gaps 8 = .ok (.iconst (-1), 1) := by decide +kernel
theorem dX7_gaps_9 : decode cX7_gaps 9 = .ok (.ireturn, 1) := by decide +kernel
theorem dX7_gaps_10 : decode cX7_gaps 10 = .ok (.aload_n 0, 1) := by decide +kernel
theorem dX7_gaps_11 : decode cX7_gaps 11 = .ok (.getfield 38, 3) := by decide +kernel
theorem dX7_gaps_14 : decode cX7_gaps 14 = .ok (.iload_n 1, 1) := by decide +kernel
theorem dX7_gaps_15 : decode cX7_gaps 15 = .ok (.iload_n 2, 1) := by decide +kernel
theorem dX7_gaps_16 : decode cX7_gaps 16 = .ok (.invokevirtual 268, 3) := by decide +kernel
theorem dX7_gaps_19 : decode cX7_gaps 19 = .ok (.aload_n 0, 1) := by decide +kernel
theorem dX7_gaps_20 : decode cX7_gaps 20 = .ok (.aload_n 0, 1) := by decide +kernel
theorem dX7_gaps_21 : decode cX7_gaps 21 = .ok (.getfield 38, 3) := by decide +kernel
theorem dX7_gaps_24 : decode cX7_gaps 24 = .ok (.getfield 271, 3) := by decide +kernel
theorem dX7_gaps_27 : decode cX7_gaps 27 = .ok (.putfield 67, 3) := by decide +kernel
theorem dX7_gaps_30 : decode cX7_gaps 30 = .ok (.aload_n 0, 1) := by decide +kernel
theorem dX7_gaps_31 : decode cX7_gaps 31 = .ok (.getfield 38, 3) := by decide +kernel
theorem dX7_gaps_34 : decode cX7_gaps 34 = .ok (.getfield 274, 3) := by decide +kernel
theorem dX7_gaps_37 : decode cX7_gaps 37 = .ok (.ireturn, 1) := by decide +kernel
set_option maxRecDepth 20000 in
theorem ggX7_opinion_X7_isWithin : GoodIn wsX7_opinion wsX7_isWithin := goodIn_r _ [5] (by decide +kernel) (by decide +kernel)
set_option maxRecDepth 20000 in
theorem gX7_opinion_X7_isWithin : GoodIn wsX7_opinion (va_wsS RX7 77 yX7_isWithin wsX7_isWithin) := goodIn_app (goodIn_of _ (by decide +kernel)) ggX7_opinion_X7_isWithin
set_option maxRecDepth 20000 in
theorem ggX7_opinion_X7_isHand : GoodIn wsX7_opinion wsX7_isHand := goodIn_r _ [8, 2, 3, 4, 5] (by decide +kernel) (by decide +kernel)
set_option maxRecDepth 20000 in
theorem gX7_opinion_X7_isHand : GoodIn wsX7_opinion (va_wsS RX7 218 yX7_isHand wsX7_isHand) := goodIn_app (goodIn_of _ (by decide +kernel)) ggX7_opinion_X7_isHand
set_option maxRecDepth 20000 in
theorem ggX7_opinion_X3_isFull : GoodIn wsX7_opinion wsX3_isFull := goodIn_r _ [13, 14, 36, 37, 38, 39, 40, 41, 42] (by decide +kernel) (by decide +kernel)
set_option maxRecDepth 20000 in
theorem gX7_opinion_X3_isFull : GoodIn wsX7_opinion (wsV RX7 277 RX3 yX3_isFull wsX3_isFull) := goodIn_app (goodIn_of _ (by decide +kernel)) ggX7_opinion_X3_isFull
set_option maxRecDepth 20000 in
theorem ggX7_opinion_X3_add : GoodIn wsX7_opinion wsX3_add := goodIn_r _ [18, 19, 14, 20, 21, 22, 36, 37, 38, 39, 40, 41, 42] (by decide +kernel) (by decide +kernel)
set_option maxRecDepth 20000 in
theorem gX7_opinion_X3_add : GoodIn wsX7_opinion (wsV RX7 278 RX3 yX3_add wsX3_add) := goodIn_app (goodIn_of _ (by decide +kernel)) ggX7_opinion_X3_add
theorem dX7_opinion_0 : decode cX7_opinion 0 = .ok (.iload_n 1, 1) := by decide +kernel
theorem dX7_opinion_1 : decode cX7_opinion 1 = .ok (.iconst 0, 1) := by decide +kernel
theorem dX7_opinion_2 : decode cX7_opinion 2 = .ok (.bipush 9, 2) := by decide +kernel
theorem dX7_opinion_4 : decode cX7_opinion 4 = .ok (.invokestatic 77, 3) := by decide +kernel
theorem dX7_opinion_7 : decode cX7_opinion 7 = .ok (.ifCond .eq 20, 3) := by decide +kernel
theorem dX7_opinion_10 : decode cX7_opinion 10 = .ok (.iload_n 2, 1) := by decide +kernel
theorem dX7_opinion_11 : decode cX7_opinion 11 = .ok (.invokestatic 218, 3) := by decide +kernel
theorem dX7_opinion_14 : decode cX7_opinion 14 = .ok (.ifCond .eq 13, 3) := by decide +kernel
theorem dX7_opinion_17 : decode cX7_opinion 17 = .ok (.iload_n 3, 1) := by decide +kernel
theorem dX7_opinion_18 : decode cX7_opinion 18 = .ok (.iconst 0, 1) := by decide +kernel
theorem dX7_opinion_19 : decode cX7_opinion 19 = .ok (.bipush 100, 2) := by decide +kernel
theorem dX7_opinion_21 : decode cX7_opinion 21 = .ok (.invokestatic 77, 3) := by decide +kernel
theorem dX7_opinion_24 : decode cX7_opinion 24 = .ok (.ifCond .ne 5, 3) := by decide +kernel
theorem dX7_opinion_27 : decode cX7_opinion 27 = .ok (.iconst (-1), 1) := by decide +kernel
theorem dX7_opinion_28 : decode cX7_opinion 28 = .ok (.ireturn, 1) := by decide +kernel
theorem dX7_opinion_29 : decode cX7_opinion 29 = .ok (.aload_n 0, 1) := by decide +kernel
theorem dX7_opinion_30 : decode cX7_opinion 30 = .ok (.getfield 45, 3) := by decide +kernel
theorem dX7_opinion_33 : decode cX7_opinion 33 = .ok (.invokevirtual 277, 3) := by decide +kernel
theorem dX7_opinion_36 : decode cX7_opinion 36 = .ok (.ifCond .eq 6, 3) := by decide +kernel
theorem dX7_opinion_39 : decode cX7_opinion 39 = .ok (.bipush (-2), 2) := by decide +kernel
theorem dX7_opinion_41 : decode cX7_opinion 41 = .ok (.ireturn, 1) := by decide +kernel
theorem dX7_opinion_42 : decode cX7_opinion 42 = .ok (.aload_n 0, 1) := by decide +kernel
theorem dX7_opinion_43 : decode cX7_opinion 43 = .ok (.getfield 45, 3) := by decide +kernel
theorem dX7_opinion_46 : decode cX7_opinion 46 = .ok (.iload_n 1, 1) := by decide +kernel
theorem dX7_opinion_47 : decode cX7_opinion 47 = .ok (.iload_n 2, 1) := by decide +kernel
theorem dX7_opinion_48 : decode cX7_opinion 48 = .ok (.iload_n 3, 1) := by decide +kernel
theorem dX7_opinion_49 : decode cX7_opinion 49 = .ok (.iload 4, 2) := by decide +kernel
theorem dX7_opinion_51 : decode cX7_opinion 51 = .ok (.invokevirtual 278, 3) := by decide +kernel
theorem dX7_opinion_54 : decode cX7_opinion 54 = .ok (.ireturn, 1) := by decide +kernel
set_option maxRecDepth 20000 in
theorem ggX7_mean_X7_isHand : GoodIn wsX7_mean wsX7_isHand := goodIn_r _ [5, 6, 7, 4, 8] (by decide +kernel) (by decide +kernel)
set_option maxRecDepth 20000 in
theorem gX7_mean_X7_isHand : GoodIn wsX7_mean (va_wsS RX7 218 yX7_isHand wsX7_isHand) := goodIn_app (goodIn_of _ (by decide +kernel)) ggX7_mean_X7_isHand
set_option maxRecDepth 20000 in
theorem ggX7_mean_X3_howMany : GoodIn wsX7_mean wsX3_howMany := goodIn_r _ [13, 14, 15, 16, 41, 42, 43, 44, 45, 46, 47] (by decide +kernel) (by decide +kernel)
set_option maxRecDepth 20000 in
theorem gX7_mean_X3_howMany : GoodIn wsX7_mean (wsV RX7 281 RX3 yX3_howMany wsX3_howMany) := goodIn_app (goodIn_of _ (by decide +kernel)) ggX7_mean_X3_howMany
set_option maxRecDepth 20000 in
theorem ggX7_mean_X7_refuse : GoodIn wsX7_mean wsX7_refuse := goodIn_r _ [20, 21, 22, 28, 29, 30, 31, 32, 33, 34, 35, 36, 37, 38, 39, 40] (by decide +kernel) (by decide +kernel)
set_option maxRecDepth 20000 in
theorem gX7_mean_X7_refuse : GoodIn wsX7_mean (wsV RX7 85 RX7 yX7_refuse wsX7_refuse) := goodIn_app (goodIn_of _ (by decide +kernel)) ggX7_mean_X7_refuse
set_option maxRecDepth 20000 in
theorem ggX7_mean_X3_sumOf : GoodIn wsX7_mean wsX3_sumOf := goodIn_r _ [26, 14, 15, 16, 27, 41, 42, 43, 44, 45, 46, 47] (by decide +kernel) (by decide +kernel)
set_option maxRecDepth 20000 in
theorem gX7_mean_X3_sumOf : GoodIn wsX7_mean (wsV RX7 285 RX3 yX3_sumOf wsX3_sumOf) := goodIn_app (goodIn_of _ (by decide +kernel)) ggX7_mean_X3_sumOf
theorem dX7_mean_0 : decode cX7_mean 0 = .ok (.iload_n 1, 1) := by decide +kernel
theorem dX7_mean_1 : decode cX7_mean 1 = .ok (.invokestatic 218, 3) := by decide +kernel
theorem dX7_mean_4 : decode cX7_mean 4 = .ok (.ifCond .ne 5, 3) := by decide +kernel
theorem dX7_mean_7 : decode cX7_mean 7 = .ok (.iconst (-1), 1) := by decide +kernel
theorem dX7_mean_8 : decode cX7_mean 8 = .ok (.ireturn, 1) := by decide +kernel
theorem dX7_mean_9 : decode cX7_mean 9 = .ok (.aload_n 0, 1) := by decide +kernel
theorem dX7_mean_10 : decode cX7_mean 10 = .ok (.getfield 45, 3) := by decide +kernel
theorem dX7_mean_13 : decode cX7_mean 13 = .ok (.iload_n 1, 1) := by decide +kernel
theorem dX7_mean_14 : decode cX7_mean 14 = .ok (.iload_n 2, 1) := by decide +kernel
theorem dX7_mean_15 : decode cX7_mean 15 = .ok (.invokevirtual 281, 3) := by decide +kernel
theorem dX7_mean_18 : decode cX7_mean 18 = .ok (.istore_n 3, 1) := by decide +kernel
theorem dX7_mean_19 : decode cX7_mean 19 = .ok (.iload_n 3, 1) := by decide +kernel
theorem dX7_mean_20 : decode cX7_mean 20 = .ok (.ifCond .ne 9, 3) := by decide +kernel
theorem dX7_mean_23 : decode cX7_mean 23 = .ok (.aload_n 0, 1) := by decide +kernel
theorem dX7_mean_24 : decode cX7_mean 24 = .ok (.iconst 4, 1) := by decide +kernel
theorem dX7_mean_25 : decode cX7_mean 25 = .ok (.invokevirtual 85, 3) := by decide +kernel
theorem dX7_mean_28 : decode cX7_mean 28 = .ok (.ireturn, 1) := by decide +kernel
theorem dX7_mean_29 : decode cX7_mean 29 = .ok (.aload_n 0, 1) := by decide +kernel
theorem dX7_mean_30 : decode cX7_mean 30 = .ok (.getfield 45, 3) := by decide +kernel
theorem dX7_mean_33 : decode cX7_mean 33 = .ok (.iload_n 1, 1) := by decide +kernel
theorem dX7_mean_34 : decode cX7_mean 34 = .ok (.iload_n 2, 1) := by decide +kernel
theorem dX7_mean_35 : decode cX7_mean 35 = .ok (.invokevirtual 285, 3) := by decide +kernel
theorem dX7_mean_38 : decode cX7_mean 38 = .ok (.iload_n 3, 1) := by decide +kernel
theorem dX7_mean_39 : decode cX7_mean 39 = .ok (.idiv, 1) := by decide +kernel
theorem dX7_mean_40 : decode cX7_mean 40 = .ok (.ireturn, 1) := by decide +kernel
set_option maxRecDepth 20000 in
theorem ggX7_spread_X3_findSpread : GoodIn wsX7_spread wsX3_findSpread := goodIn_r _ [9, 10, 11, 12, 13, 14, 15, 16, 17, 18, 19, 20, 21, 8, 22, 23, 24, 25, 26, 27, 28, 42, 43, 44, 45, 46, 47, 48] (by decide +kernel) (by decide +kernel)
set_option maxRecDepth 20000 in
theorem gX7_spread_X3_findSpread : GoodIn wsX7_spread (wsV RX7 288 RX3 yX3_findSpread wsX3_findSpread) := goodIn_app (goodIn_of _ (by decide +kernel)) ggX7_spread_X3_findSpread
theorem dX7_spread_0 : decode cX7_spread 0 = .ok (.aload_n 0, 1) := by decide +kernel
theorem dX7_spread_1 : decode cX7_spread 1 = .ok (.getfield 45, 3) := by decide +kernel
theorem dX7_spread_4 : decode cX7_spread 4 = .ok (.invokevirtual 288, 3) := by decide +kernel
theorem dX7_spread_7 : decode cX7_spread 7 = .ok (.aload_n 0, 1) := by decide +kernel
theorem dX7_spread_8 : decode cX7_spread 8 = .ok (.getfield 45, 3) := by decide +kernel
theorem dX7_spread_11 : decode cX7_spread 11 = .ok (.getfield 291, 3) := by decide +kernel
theorem dX7_spread_14 : decode cX7_spread 14 = .ok (.bipush (-9), 2) := by decide +kernel
theorem dX7_spread_16 : decode cX7_spread 16 = .ok (.if_icmp .ne 6, 3) := by decide +kernel
theorem dX7_spread_19 : decode cX7_spread 19 = .ok (.bipush (-9), 2) := by decide +kernel
theorem dX7_spread_21 : decode cX7_spread 21 = .ok (.ireturn, 1) := by decide +kernel
theorem dX7_spread_22 : decode cX7_spread 22 = .ok (.aload_n 0, 1) := by decide +kernel
theorem dX7_spread_23 : decode cX7_spread 23 = .ok (.aload_n 0, 1) := by decide +kernel
theorem dX7_spread_24 : decode cX7_spread 24 = .ok (.getfield 45, 3) := by decide +kernel
theorem dX7_spread_27 : decode cX7_spread 27 = .ok (.getfield 294, 3) := by decide +kernel
theorem dX7_spread_30 : decode cX7_spread 30 = .ok (.putfield 67, 3) := by decide +kernel
theorem dX7_spread_33 : decode cX7_spread 33 = .ok (.aload_n 0, 1) := by decide +kernel
theorem dX7_spread_34 : decode cX7_spread 34 = .ok (.getfield 45, 3) := by decide +kernel
theorem dX7_spread_37 : decode cX7_spread 37 = .ok (.getfield 291, 3) := by decide +kernel
theorem dX7_spread_40 : decode cX7_spread 40 = .ok (.ireturn, 1) := by decide +kernel
set_option maxRecDepth 20000 in
theorem ggX7_sold_X7_isWithin : GoodIn wsX7_sold wsX7_isWithin := goodIn_r _ [7] (by decide +kernel) (by decide +kernel)
set_option maxRecDepth 20000 in
theorem gX7_sold_X7_isWithin : GoodIn wsX7_sold (va_wsS RX7 77 yX7_isWithin wsX7_isWithin) := goodIn_app (goodIn_of _ (by decide +kernel)) ggX7_sold_X7_isWithin
set_option maxRecDepth 20000 in
theorem ggX7_sold_X7_isHand : GoodIn wsX7_sold wsX7_isHand := goodIn_r _ [10, 4, 5, 6, 7] (by decide +kernel) (by decide +kernel)
set_option maxRecDepth 20000 in
theorem gX7_sold_X7_isHand : GoodIn wsX7_sold (va_wsS RX7 218 yX7_isHand wsX7_isHand) := goodIn_app (goodIn_of _ (by decide +kernel)) ggX7_sold_X7_isHand
set_option maxRecDepth 20000 in
theorem ggX7_sold_X0_sell : GoodIn wsX7_sold wsX0_sell := goodIn_r _ [15, 16, 17, 18, 32, 33, 34, 35, 36, 37, 38, 39] (by decide +kernel) (by decide +kernel)
set_option maxRecDepth 20000 in
theorem gX7_sold_X0_sell : GoodIn wsX7_sold (wsV RX7 298 RX0 yX0_sell wsX0_sell) := goodIn_app (goodIn_of _ (by decide +kernel)) ggX7_sold_X0_sell
theorem dX7_sold_0 : decode cX7_sold 0 = .ok (.iload_n 1, 1) := by decide +kernel
theorem dX7_sold_1 : decode cX7_sold 1 = .ok (.iconst 0, 1) := by decide +kernel
theorem dX7_sold_2 : decode cX7_sold 2 = .ok (.aload_n 0, 1) := by decide +kernel
theorem dX7_sold_3 : decode cX7_sold 3 = .ok (.getfield 60, 3) := by decide +kernel
theorem dX7_sold_6 : decode cX7_sold 6 = .ok (.invokestatic 77, 3) := by decide +kernel
theorem dX7_sold_9 : decode cX7_sold 9 = .ok (.ifCond .eq 21, 3) := by decide +kernel
theorem dX7_sold_12 : decode cX7_sold 12 = .ok (.iload_n 2, 1) := by decide +kernel
theorem dX7_sold_13 : decode cX7_sold 13 = .ok (.iconst 1, 1) := by decide +kernel
theorem dX7_sold_14 : decode cX7_sold 14 = .ok (.ldc_w 297, 3) := by decide +kernel
theorem dX7_sold_17 : decode cX7_sold 17 = .ok (.invokestatic 77, 3) := by decide +kernel
theorem dX7_sold_20 : decode cX7_sold 20 = .ok (.ifCond .eq 10, 3) := by decide +kernel
theorem dX7_sold_23 : decode cX7_sold 23 = .ok (.iload_n 3, 1) := by decide +kernel
theorem dX7_sold_24 : decode cX7_sold 24 = .ok (.invokestatic 218, 3) := by decide +kernel
theorem dX7_sold_27 : decode cX7_sold 27 = .ok (.ifCond .ne 5, 3) := by decide +kernel
theorem dX7_sold_30 : decode cX7_sold 30 = .ok (.iconst (-1), 1) := by decide +kernel
theorem dX7_sold_31 : decode cX7_sold 31 = .ok (.ireturn, 1) := by decide +kernel
theorem dX7_sold_32 : decode cX7_sold 32 = .ok (.aload_n 0, 1) := by decide +kernel
theorem dX7_sold_33 : decode cX7_sold 33 = .ok (.getfield 52, 3) := by decide +kernel
theorem dX7_sold_36 : decode cX7_sold 36 = .ok (.iload_n 1, 1) := by decide +kernel
theorem dX7_sold_37 : decode cX7_sold 37 = .ok (.iload_n 2, 1) := by decide +kernel
theorem dX7_sold_38 : decode cX7_sold 38 = .ok (.iload_n 3, 1) := by decide +kernel
theorem dX7_sold_39 : decode cX7_sold 39 = .ok (.invokevirtual 298, 3) := by decide +kernel
theorem dX7_sold_42 : decode cX7_sold 42 = .ok (.iconst 1, 1) := by decide +kernel
theorem dX7_sold_43 : decode cX7_sold 43 = .ok (.ireturn, 1) := by decide +kernel
set_option maxRecDepth 20000 in
theorem ggX7_law_X7_isDay : GoodIn wsX7_law wsX7_isDay := goodIn_r _ [5, 6, 7, 4, 8] (by decide +kernel) (by decide +kernel)
set_option maxRecDepth 20000 in
theorem gX7_law_X7_isDay : GoodIn wsX7_law (va_wsS RX7 183 yX7_isDay wsX7_isDay) := goodIn_app (goodIn_of _ (by decide +kernel)) ggX7_law_X7_isDay
set_option maxRecDepth 20000 in
theorem ggX7_law_X7_isWithin : GoodIn wsX7_law wsX7_isWithin := goodIn_r _ [8] (by decide +kernel) (by decide +kernel)
set_option maxRecDepth 20000 in
theorem gX7_law_X7_isWithin : GoodIn wsX7_law (va_wsS RX7 77 yX7_isWithin wsX7_isWithin) := goodIn_app (goodIn_of _ (by decide +kernel)) ggX7_law_X7_isWithin
set_option maxRecDepth 20000 in
theorem ggX7_law_X0_isFull : GoodIn wsX7_law wsX0_isFull := goodIn_r _ [13, 14, 36, 37, 38, 39, 40, 41, 42, 43] (by decide +kernel) (by decide +kernel)
set_option maxRecDepth 20000 in
theorem gX7_law_X0_isFull : GoodIn wsX7_law (wsV RX7 301 RX0 yX0_isFull wsX0_isFull) := goodIn_app (goodIn_of _ (by decide +kernel)) ggX7_law_X0_isFull
set_option maxRecDepth 20000 in
theorem ggX7_law_X0_addLaw : GoodIn wsX7_law wsX0_addLaw := goodIn_r _ [18, 19, 14, 20, 21, 22, 36, 37, 38, 39, 40, 41, 42, 43] (by decide +kernel) (by decide +kernel)
set_option maxRecDepth 20000 in
theorem gX7_law_X0_addLaw : GoodIn wsX7_law (wsV RX7 302 RX0 yX0_addLaw wsX0_addLaw) := goodIn_app (goodIn_of _ (by decide +kernel)) ggX7_law_X0_addLaw
theorem dX7_law_0 : decode cX7_law 0 = .ok (.iload_n 1, 1) := by decide +kernel
theorem dX7_law_1 : decode cX7_law 1 = .ok (.invokestatic 183, 3) := by decide +kernel
theorem dX7_law_4 : decode cX7_law 4 = .ok (.ifCond .eq 18, 3) := by decide +kernel
theorem dX7_law_7 : decode cX7_law 7 = .ok (.iload_n 2, 1) := by decide +kernel
theorem dX7_law_8 : decode cX7_law 8 = .ok (.iconst 0, 1) := by decide +kernel
theorem dX7_law_9 : decode cX7_law 9 = .ok (.sipush 30000, 3) := by decide +kernel
theorem dX7_law_12 : decode cX7_law 12 = .ok (.invokestatic 77, 3) := by decide +kernel
theorem dX7_law_15 : decode cX7_law 15 = .ok (.ifCond .eq 7, 3) := by decide +kernel
theorem dX7_law_18 : decode cX7_law 18 = .ok (.iconst 1, 1) := by decide +kernel
theorem dX7_law_19 : decode cX7_law 19 = .ok (.goto 4, 3) := by decide +kernel
theorem dX7_law_22 : decode cX7_law 22 = .ok (.iconst 0, 1) := by decide +kernel
theorem dX7_law_23 : decode cX7_law 23 = .ok (.istore 5, 2) := by decide +kernel
theorem dX7_law_25 : decode cX7_law 25 = .ok (.iload 5, 2) := by decide +kernel
theorem dX7_law_27 : decode cX7_law 27 = .ok (.ifCond .eq 24, 3) := by decide +kernel
theorem dX7_law_30 : decode cX7_law 30 = .ok (.iload_n 3, 1) := by decide +kernel
theorem dX7_law_31 : decode cX7_law 31 = .ok (.iconst 0, 1) := by decide +kernel
theorem dX7_law_32 : decode cX7_law 32 = .ok (.bipush 100, 2) := by decide +kernel
theorem dX7_law_34 : decode cX7_law 34 = .ok (.invokestatic 77, 3) := by decide +kernel
theorem dX7_law_37 : decode cX7_law 37 = .ok (.ifCond .eq 14, 3) := by decide +kernel
theorem dX7_law_40 : decode cX7_law 40 = .ok (.iload 4, 2) := by decide +kernel
theorem dX7_law_42 : decode cX7_law 42 = .ok (.iconst 0, 1) := by decide +kernel
theorem dX7_law_43 : decode cX7_law 43 = .ok (.bipush 100, 2) := by decide +kernel
theorem dX7_law_45 : decode cX7_law 45 = .ok (.invokestatic 77, 3) := by decide +kernel
theorem dX7_law_48 : decode cX7_law 48 = .ok (.ifCond .ne 5, 3) := by decide +kernel
theorem dX7_law_51 : decode cX7_law 51 = .ok (.iconst (-1), 1) := by decide +kernel
theorem dX7_law_52 : decode cX7_law 52 = .ok (.ireturn, 1) := by decide +kernel
theorem dX7_law_53 : decode cX7_law 53 = .ok (.aload_n 0, 1) := by decide +kernel
theorem dX7_law_54 : decode cX7_law 54 = .ok (.getfield 52, 3) := by decide +kernel
theorem dX7_law_57 : decode cX7_law 57 = .ok (.invokevirtual 301, 3) := by decide +kernel
theorem dX7_law_60 : decode cX7_law 60 = .ok (.ifCond .eq 6, 3) := by decide +kernel
theorem dX7_law_63 : decode cX7_law 63 = .ok (.bipush (-2), 2) := by decide +kernel
theorem dX7_law_65 : decode cX7_law 65 = .ok (.ireturn, 1) := by decide +kernel
theorem dX7_law_66 : decode cX7_law 66 = .ok (.aload_n 0, 1) := by decide +kernel
theorem dX7_law_67 : decode cX7_law 67 = .ok (.getfield 52, 3) := by decide +kernel
theorem dX7_law_70 : decode cX7_law 70 = .ok (.iload_n 1, 1) := by decide +kernel
theorem dX7_law_71 : decode cX7_law 71 = .ok (.iload_n 2, 1) := by decide +kernel
theorem dX7_law_72 : decode cX7_law 72 = .ok (.iload_n 3, 1) := by decide +kernel
theorem dX7_law_73 : decode cX7_law 73 = .ok (.iload 4, 2) := by decide +kernel
theorem dX7_law_75 : decode cX7_law 75 = .ok (.invokevirtual 302, 3) := by decide +kernel
theorem dX7_law_78 : decode cX7_law 78 = .ok (.ireturn, 1) := by decide +kernel
set_option maxRecDepth 20000 in
theorem ggX7_claim_X0_lawInForce : GoodIn wsX7_claim wsX0_lawInForce := goodIn_r _ [10, 11, 12, 13, 67, 68, 69, 70, 71, 72, 73, 74] (by decide +kernel) (by decide +kernel)
set_option maxRecDepth 20000 in
theorem gX7_claim_X0_lawInForce : GoodIn wsX7_claim (wsV RX7 305 RX0 yX0_lawInForce wsX0_lawInForce) := goodIn_app (goodIn_of _ (by decide +kernel)) ggX7_claim_X0_lawInForce
set_option maxRecDepth 20000 in
theorem ggX7_claim_X2_scoreOfAll : GoodIn wsX7_claim wsX2_scoreOfAll := goodIn_r _ [18, 19, 20, 21, 17, 22, 23, 24, 25, 26, 27, 75, 76, 77, 78, 79, 80, 81, 82, 83, 84] (by decide +kernel) (by decide +kernel)
set_option maxRecDepth 20000 in
theorem gX7_claim_X2_scoreOfAll : GoodIn wsX7_claim (wsV RX7 239 RX2 yX2_scoreOfAll wsX2_scoreOfAll) := goodIn_app (goodIn_of _ (by decide +kernel)) ggX7_claim_X2_scoreOfAll
set_option maxRecDepth 20000 in
theorem ggX7_claim_X7_refuse : GoodIn wsX7_claim wsX7_refuse := goodIn_r _ [32, 33, 34, 54, 55, 56, 57, 58, 59, 60, 61, 62, 63, 64, 65, 66] (by decide +kernel) (by decide +kernel)
set_option maxRecDepth 20000 in
theorem gX7_claim_X7_refuse : GoodIn wsX7_claim (wsV RX7 85 RX7 yX7_refuse wsX7_refuse) := goodIn_app (goodIn_of _ (by decide +kernel)) ggX7_claim_X7_refuse
set_option maxRecDepth 20000 in
theorem ggX7_claim_X0_isTooLate : GoodIn wsX7_claim wsX0_isTooLate := goodIn_r _ [38, 13, 39, 67, 68, 69, 70, 71, 72, 73, 74] (by decide +kernel) (by decide +kernel)
set_option maxRecDepth 20000 in
theorem gX7_claim_X0_isTooLate : GoodIn wsX7_claim (wsV RX7 308 RX0 yX0_isTooLate wsX0_isTooLate) := goodIn_app (goodIn_of _ (by decide +kernel)) ggX7_claim_X0_isTooLate
set_option maxRecDepth 20000 in
theorem ggX7_claim_X2_score : GoodIn wsX7_claim wsX2_score := goodIn_r _ [22, 23, 24, 25, 26, 27, 75, 76, 77, 78, 79, 80, 81, 82, 83, 84] (by decide +kernel) (by decide +kernel)
set_option maxRecDepth 20000 in
theorem gX7_claim_X2_score : GoodIn wsX7_claim (wsV RX7 243 RX2 yX2_score wsX2_score) := goodIn_app (goodIn_of _ (by decide +kernel)) ggX7_claim_X2_score
set_option maxRecDepth 20000 in
theorem ggX7_claim_X0_isBelow : GoodIn wsX7_claim wsX0_isBelow := goodIn_r _ [44, 45, 46, 67, 68, 69, 70, 71, 72, 73, 74] (by decide +kernel) (by decide +kernel)
set_option maxRecDepth 20000 in
theorem gX7_claim_X0_isBelow : GoodIn wsX7_claim (wsV RX7 314 RX0 yX0_isBelow wsX0_isBelow) := goodIn_app (goodIn_of _ (by decide +kernel)) ggX7_claim_X0_isBelow
set_option maxRecDepth 20000 in
theorem ggX7_claim_X0_paidBack : GoodIn wsX7_claim wsX0_paidBack := goodIn_r _ [50, 51, 52, 13, 53, 67, 68, 69, 70, 71, 72, 73, 74] (by decide +kernel) (by decide +kernel)
set_option maxRecDepth 20000 in
theorem gX7_claim_X0_paidBack : GoodIn wsX7_claim (wsV RX7 318 RX0 yX0_paidBack wsX0_paidBack) := goodIn_app (goodIn_of _ (by decide +kernel)) ggX7_claim_X0_paidBack
theorem dX7_claim_0 : decode cX7_claim 0 = .ok (.aload_n 0, 1) := by decide +kernel
theorem dX7_claim_1 : decode cX7_claim 1 = .ok (.getfield 52, 3) := by decide +kernel
theorem dX7_claim_4 : decode cX7_claim 4 = .ok (.invokevirtual 305, 3) := by decide +kernel
theorem dX7_claim_7 : decode cX7_claim 7 = .ok (.istore_n 1, 1) := by decide +kernel
theorem dX7_claim_8 : decode cX7_claim 8 = .ok (.iload_n 1, 1) := by decide +kernel
theorem dX7_claim_9 : decode cX7_claim 9 = .ok (.bipush (-9), 2) := by decide +kernel
theorem dX7_claim_11 : decode cX7_claim 11 = .ok (.if_icmp .ne 6, 3) := by decide +kernel
theorem dX7_claim_14 : decode cX7_claim 14 = .ok (.bipush (-4), 2) := by decide +kernel
theorem dX7_claim_16 : decode cX7_claim 16 = .ok (.ireturn, 1) := by decide +kernel
theorem dX7_claim_17 : decode cX7_claim 17 = .ok (.aload_n 0, 1) := by decide +kernel
theorem dX7_claim_18 : decode cX7_claim 18 = .ok (.getfield 31, 3) := by decide +kernel
theorem dX7_claim_21 : decode cX7_claim 21 = .ok (.invokevirtual 239, 3) := by decide +kernel
theorem dX7_claim_24 : decode cX7_claim 24 = .ok (.lstore_n 2, 1) := by decide +kernel
theorem dX7_claim_25 : decode cX7_claim 25 = .ok (.lload_n 2, 1) := by decide +kernel
theorem dX7_claim_26 : decode cX7_claim 26 = .ok (.lconst 0, 1) := by decide +kernel
theorem dX7_claim_27 : decode cX7_claim 27 = .ok (.lcmp, 1) := by decide +kernel
theorem dX7_claim_28 : decode cX7_claim 28 = .ok (.ifCond .ne 9, 3) := by decide +kernel
theorem dX7_claim_31 : decode cX7_claim 31 = .ok (.aload_n 0, 1) := by decide +kernel
theorem dX7_claim_32 : decode cX7_claim 32 = .ok (.iconst 4, 1) := by decide +kernel
theorem dX7_claim_33 : decode cX7_claim 33 = .ok (.invokevirtual 85, 3) := by decide +kernel
theorem dX7_claim_36 : decode cX7_claim 36 = .ok (.ireturn, 1) := by decide +kernel
theorem dX7_claim_37 : decode cX7_claim 37 = .ok (.aload_n 0, 1) := by decide +kernel
theorem dX7_claim_38 : decode cX7_claim 38 = .ok (.getfield 52, 3) := by decide +kernel
theorem dX7_claim_41 : decode cX7_claim 41 = .ok (.iload_n 1, 1) := by decide +kernel
theorem dX7_claim_42 : decode cX7_claim 42 = .ok (.aload_n 0, 1) := by decide +kernel
theorem dX7_claim_43 : decode cX7_claim 43 = .ok (.getfield 60, 3) := by decide +kernel
theorem dX7_claim_46 : decode cX7_claim 46 = .ok (.invokevirtual 308, 3) := by decide +kernel
theorem dX7_claim_49 : decode cX7_claim 49 = .ok (.ifCond .eq 5, 3) := by decide +kernel
theorem dX7_claim_52 : decode cX7_claim 52 = .ok (.iconst 2, 1) := by decide +kernel
theorem dX7_claim_53 : decode cX7_claim 53 = .ok (.ireturn, 1) := by decide +kernel
theorem dX7_claim_54 : decode cX7_claim 54 = .ok (.aload_n 0, 1) := by decide +kernel
theorem dX7_claim_55 : decode cX7_claim 55 = .ok (.getfield 52, 3) := by decide +kernel
theorem dX7_claim_58 : decode cX7_claim 58 = .ok (.iload_n 1, 1) := by decide +kernel
theorem dX7_claim_59 : decode cX7_claim 59 = .ok (.aload_n 0, 1) := by decide +kernel
theorem dX7_claim_60 : decode cX7_claim 60 = .ok (.getfield 31, 3) := by decide +kernel
theorem dX7_claim_63 : decode cX7_claim 63 = .ok (.aload_n 0, 1) := by decide +kernel
theorem dX7_claim_64 : decode cX7_claim 64 = .ok (.getfield 52, 3) := by decide +kernel
theorem dX7_claim_67 : decode cX7_claim 67 = .ok (.getfield 311, 3) := by decide +kernel
theorem dX7_claim_70 : decode cX7_claim 70 = .ok (.invokevirtual 243, 3) := by decide +kernel
theorem dX7_claim_73 : decode cX7_claim 73 = .ok (.lload_n 2, 1) := by decide +kernel
theorem dX7_claim_74 : decode cX7_claim 74 = .ok (.invokevirtual 314, 3) := by decide +kernel
theorem dX7_claim_77 : decode cX7_claim 77 = .ok (.ifCond .ne 5, 3) := by decide +kernel
theorem dX7_claim_80 : decode cX7_claim 80 = .ok (.iconst 3, 1) := by decide +kernel
theorem dX7_claim_81 : decode cX7_claim 81 = .ok (.ireturn, 1) := by decide +kernel
theorem dX7_claim_82 : decode cX7_claim 82 = .ok (.aload_n 0, 1) := by decide +kernel
theorem dX7_claim_83 : decode cX7_claim 83 = .ok (.aload_n 0, 1) := by decide +kernel
theorem dX7_claim_84 : decode cX7_claim 84 = .ok (.getfield 52, 3) := by decide +kernel
theorem dX7_claim_87 : decode cX7_claim 87 = .ok (.iload_n 1, 1) := by decide +kernel
theorem dX7_claim_88 : decode cX7_claim 88 = .ok (.aload_n 0, 1) := by decide +kernel
theorem dX7_claim_89 : decode cX7_claim 89 = .ok (.getfield 60, 3) := by decide +kernel
theorem dX7_claim_92 : decode cX7_claim 92 = .ok (.invokevirtual 318, 3) := by decide +kernel
theorem dX7_claim_95 : decode cX7_claim 95 = .ok (.putfield 67, 3) := by decide +kernel
theorem dX7_claim_98 : decode cX7_claim 98 = .ok (.iconst 1, 1) := by decide +kernel
theorem dX7_claim_99 : decode cX7_claim 99 = .ok (.ireturn, 1) := by decide +kernel
theorem dX7_asked_0 : decode cX7_asked 0 = .ok (.aload_n 0, 1) := by decide +kernel
theorem dX7_asked_1 : decode cX7_asked 1 = .ok (.getfield 67, 3) := by decide +kernel
theorem dX7_asked_4 : decode cX7_asked 4 = .ok (.ireturn, 1) := by decide +kernel
theorem dX7_upper_0 : decode cX7_upper 0 = .ok (.aload_n 0, 1) := by decide +kernel
theorem dX7_upper_1 : decode cX7_upper 1 = .ok (.getfield 70, 3) := by decide +kernel
theorem dX7_upper_4 : decode cX7_upper 4 = .ok (.lreturn, 1) := by decide +kernel
theorem dX7_lower_0 : decode cX7_lower 0 = .ok (.aload_n 0, 1) := by decide +kernel
theorem dX7_lower_1 : decode cX7_lower 1 = .ok (.getfield 74, 3) := by decide +kernel
theorem dX7_lower_4 : decode cX7_lower 4 = .ok (.lreturn, 1) := by decide +kernel
theorem dX7_count_0 : decode cX7_count 0 = .ok (.iload_n 1, 1) := by decide +kernel
theorem dX7_count_1 : decode cX7_count 1 = .ok (.tableswitch 116 0 7 #[47, 52, 60, 76, 84, 92, 100, 108], 47) := by decide +kernel
theorem dX7_count_48 : decode cX7_count 48 = .ok (.aload_n 0, 1) := by decide +kernel
theorem dX7_count_49 : decode cX7_count 49 = .ok (.getfield 60, 3) := by decide +kernel
theorem dX7_count_52 : decode cX7_count 52 = .ok (.ireturn, 1) := by decide +kernel
theorem dX7_count_53 : decode cX7_count 53 = .ok (.aload_n 0, 1) := by decide +kernel
theorem dX7_count_54 : decode cX7_count 54 = .ok (.getfield 10, 3) := by decide +kernel
theorem dX7_count_57 : decode cX7_count 57 = .ok (.getfield 321, 3) := by decide +kernel
theorem dX7_count_60 : decode cX7_count 60 = .ok (.ireturn, 1) := by decide +kernel
theorem dX7_count_61 : decode cX7_count 61 = .ok (.aload_n 0, 1) := by decide +kernel
theorem dX7_count_62 : decode cX7_count 62 = .ok (.getfield 10, 3) := by decide +kernel
theorem dX7_count_65 : decode cX7_count 65 = .ok (.getfield 321, 3) := by decide +kernel
theorem dX7_count_68 : decode cX7_count 68 = .ok (.aload_n 0, 1) := by decide +kernel
theorem dX7_count_69 : decode cX7_count 69 = .ok (.getfield 10, 3) := by decide +kernel
theorem dX7_count_72 : decode cX7_count 72 = .ok (.getfield 322, 3) := by decide +kernel
theorem dX7_count_75 : decode cX7_count 75 = .ok (.isub, 1) := by decide +kernel
theorem dX7_count_76 : decode cX7_count 76 = .ok (.ireturn, 1) := by decide +kernel
theorem dX7_count_77 : decode cX7_count 77 = .ok (.aload_n 0, 1) := by decide +kernel
theorem dX7_count_78 : decode cX7_count 78 = .ok (.getfield 31, 3) := by decide +kernel
theorem dX7_count_81 : decode cX7_count 81 = .ok (.getfield 325, 3) := by decide +kernel
theorem dX7_count_84 : decode cX7_count 84 = .ok (.ireturn, 1) := by decide +kernel
theorem dX7_count_85 : decode cX7_count 85 = .ok (.aload_n 0, 1) := by decide +kernel
theorem dX7_count_86 : decode cX7_count 86 = .ok (.getfield 31, 3) := by decide +kernel
theorem dX7_count_89 : decode cX7_count 89 = .ok (.getfield 326, 3) := by decide +kernel
theorem dX7_count_92 : decode cX7_count 92 = .ok (.ireturn, 1) := by decide +kernel
theorem dX7_count_93 : decode cX7_count 93 = .ok (.aload_n 0, 1) := by decide +kernel
theorem dX7_count_94 : decode cX7_count 94 = .ok (.getfield 38, 3) := by decide +kernel
theorem dX7_count_97 : decode cX7_count 97 = .ok (.getfield 329, 3) := by decide +kernel
theorem dX7_count_100 : decode cX7_count 100 = .ok (.ireturn, 1) := by decide +kernel
theorem dX7_count_101 : decode cX7_count 101 = .ok (.aload_n 0, 1) := by decide +kernel
theorem dX7_count_102 : decode cX7_count 102 = .ok (.getfield 45, 3) := by decide +kernel
theorem dX7_count_105 : decode cX7_count 105 = .ok (.getfield 330, 3) := by decide +kernel
theorem dX7_count_108 : decode cX7_count 108 = .ok (.ireturn, 1) := by decide +kernel
theorem dX7_count_109 : decode cX7_count 109 = .ok (.aload_n 0, 1) := by decide +kernel
theorem dX7_count_110 : decode cX7_count 110 = .ok (.getfield 52, 3) := by decide +kernel
theorem dX7_count_113 : decode cX7_count 113 = .ok (.getfield 331, 3) := by decide +kernel
theorem dX7_count_116 : decode cX7_count 116 = .ok (.ireturn, 1) := by decide +kernel
theorem dX7_count_117 : decode cX7_count 117 = .ok (.iconst (-1), 1) := by decide +kernel
theorem dX7_count_118 : decode cX7_count 118 = .ok (.ireturn, 1) := by decide +kernel
theorem dX7_finding_0 : decode cX7_finding 0 = .ok (.aload_n 0, 1) := by decide +kernel
theorem dX7_finding_1 : decode cX7_finding 1 = .ok (.getfield 64, 3) := by decide +kernel
theorem dX7_finding_4 : decode cX7_finding 4 = .ok (.ireturn, 1) := by decide +kernel
set_option maxRecDepth 20000 in
theorem ggX7_findings_X7_isWithin : GoodIn wsX7_findings wsX7_isWithin := goodIn_r _ [5] (by decide +kernel) (by decide +kernel)
set_option maxRecDepth 20000 in
theorem gX7_findings_X7_isWithin : GoodIn wsX7_findings (va_wsS RX7 77 yX7_isWithin wsX7_isWithin) := goodIn_app (goodIn_of _ (by decide +kernel)) ggX7_findings_X7_isWithin
theorem dX7_findings_0 : decode cX7_findings 0 = .ok (.iload_n 1, 1) := by decide +kernel
theorem dX7_findings_1 : decode cX7_findings 1 = .ok (.iconst 1, 1) := by decide +kernel
theorem dX7_findings_2 : decode cX7_findings 2 = .ok (.iconst 5, 1) := by decide +kernel
theorem dX7_findings_3 : decode cX7_findings 3 = .ok (.invokestatic 77, 3) := by decide +kernel
theorem dX7_findings_6 : decode cX7_findings 6 = .ok (.ifCond .ne 5, 3) := by decide +kernel
theorem dX7_findings_9 : decode cX7_findings 9 = .ok (.iconst (-1), 1) := by decide +kernel
theorem dX7_findings_10 : decode cX7_findings 10 = .ok (.ireturn, 1) := by decide +kernel
theorem dX7_findings_11 : decode cX7_findings 11 = .ok (.aload_n 0, 1) := by decide +kernel
theorem dX7_findings_12 : decode cX7_findings 12 = .ok (.getfield 56, 3) := by decide +kernel
theorem dX7_findings_15 : decode cX7_findings 15 = .ok (.iload_n 1, 1) := by decide +kernel
theorem dX7_findings_16 : decode cX7_findings 16 = .ok (.iaload, 1) := by decide +kernel
theorem dX7_findings_17 : decode cX7_findings 17 = .ok (.ireturn, 1) := by decide +kernel
set_option maxRecDepth 20000 in
theorem ggX7_digest_X7_count : GoodIn wsX7_digest wsX7_count := goodIn_r _ [11, 12, 3, 4, 13, 5, 14, 15, 16, 17, 18, 19, 20, 21, 104, 105, 106, 107, 108, 109, 110, 111, 112, 113, 114, 115, 116, 117, 118, 119, 120, 121, 122, 123, 124, 125, 126, 127, 128, 129, 130, 131, 132, 133, 134, 135, 136, 137, 138, 139, 140, 141, 142, 143, 144, 145, 146, 147, 148, 149, 150, 151, 152, 153, 154, 155, 156, 157, 158, 159, 160, 161] (by decide +kernel) (by decide +kernel)
set_option maxRecDepth 20000 in
theorem gX7_digest_X7_count : GoodIn wsX7_digest (wsV RX7 338 RX7 yX7_count wsX7_count) := goodIn_app (goodIn_of _ (by decide +kernel)) ggX7_digest_X7_count
set_option maxRecDepth 20000 in
theorem ggX7_digest_X5_detail : GoodIn wsX7_digest wsX5_detail := goodIn_r _ [26, 27, 28, 29, 30, 31, 32, 33, 25, 34, 35, 36, 37, 38, 39, 40, 41, 42, 43, 44, 45, 46, 47, 48, 49, 50, 51, 52, 53, 54, 55, 56, 57, 58, 59, 60, 61, 62, 63, 64, 65, 66, 67, 68, 69, 70, 71, 72, 73, 74, 75, 76, 77, 78, 79, 80, 117, 118, 119, 120, 121, 122, 123, 124, 125, 126, 127, 128, 129, 130, 131, 162, 163] (by decide +kernel) (by decide +kernel)
set_option maxRecDepth 20000 in
theorem gX7_digest_X5_detail : GoodIn wsX7_digest (wsV RX7 174 RX5 yX5_detail wsX5_detail) := goodIn_app (goodIn_of _ (by decide +kernel)) ggX7_digest_X5_detail
set_option maxRecDepth 20000 in
theorem ggX7_digest_X2_mixInto : GoodIn wsX7_digest wsX2_mixInto := goodIn_r _ [85, 86, 87, 88, 89, 90, 91, 92, 93, 132, 133, 134, 135, 136, 137, 138, 139, 140, 141] (by decide +kernel) (by decide +kernel)
set_option maxRecDepth 20000 in
theorem gX7_digest_X2_mixInto : GoodIn wsX7_digest (wsV RX7 341 RX2 yX2_mixInto wsX2_mixInto) := goodIn_app (goodIn_of _ (by decide +kernel)) ggX7_digest_X2_mixInto
set_option maxRecDepth 20000 in
theorem ggX7_digest_X5_mixPaintsInto : GoodIn wsX7_digest wsX5_mixPaintsInto := goodIn_r _ [97, 98, 35, 117, 118, 119, 120, 121, 122, 123, 124, 125, 126, 127, 128, 129, 130, 131] (by decide +kernel) (by decide +kernel)
set_option maxRecDepth 20000 in
theorem gX7_digest_X5_mixPaintsInto : GoodIn wsX7_digest (wsV RX7 345 RX5 yX5_mixPaintsInto wsX5_mixPaintsInto) := goodIn_app (goodIn_of _ (by decide +kernel)) ggX7_digest_X5_mixPaintsInto
set_option maxRecDepth 20000 in
theorem ggX7_digest_X6_mixInto : GoodIn wsX7_digest wsX6_mixInto := goodIn_r _ [102, 103, 58, 67, 162, 163] (by decide +kernel) (by decide +kernel)
set_option maxRecDepth 20000 in
theorem gX7_digest_X6_mixInto : GoodIn wsX7_digest (wsV RX7 348 RX6 yX6_mixInto wsX6_mixInto) := goodIn_app (goodIn_of _ (by decide +kernel)) ggX7_digest_X6_mixInto
theorem dX7_digest_0 : decode cX7_digest 0 = .ok (.ldc2_w 334, 3) := by decide +kernel
theorem dX7_digest_3 : decode cX7_digest 3 = .ok (.lstore_n 1, 1) := by decide +kernel
theorem dX7_digest_4 : decode cX7_digest 4 = .ok (.iconst 0, 1) := by decide +kernel
theorem dX7_digest_5 : decode cX7_digest 5 = .ok (.istore_n 3, 1) := by decide +kernel
theorem dX7_digest_6 : decode cX7_digest 6 = .ok (.iload_n 3, 1) := by decide +kernel
theorem dX7_digest_7 : decode cX7_digest 7 = .ok (.bipush 7, 2) := by decide +kernel
theorem dX7_digest_9 : decode cX7_digest 9 = .ok (.if_icmp .gt 22, 3) := by decide +kernel
theorem dX7_digest_12 : decode cX7_digest 12 = .ok (.ldc2_w 336, 3) := by decide +kernel
theorem dX7_digest_15 : decode cX7_digest 15 = .ok (.lload_n 1, 1) := by decide +kernel
theorem dX7_digest_16 : decode cX7_digest 16 = .ok (.lmul, 1) := by decide +kernel
theorem dX7_digest_17 : decode cX7_digest 17 = .ok (.aload_n 0, 1) := by decide +kernel
theorem dX7_digest_18 : decode cX7_digest 18 = .ok (.iload_n 3, 1) := by decide +kernel
theorem dX7_digest_19 : decode cX7_digest 19 = .ok (.invokevirtual 338, 3) := by decide +kernel
theorem dX7_digest_22 : decode cX7_digest 22 = .ok (.i2l, 1) := by decide +kernel
theorem dX7_digest_23 : decode cX7_digest 23 = .ok (.ladd, 1) := by decide +kernel
theorem dX7_digest_24 : decode cX7_digest 24 = .ok (.lstore_n 1, 1) := by decide +kernel
theorem dX7_digest_25 : decode cX7_digest 25 = .ok (.iinc 3 1, 3) := by decide +kernel
theorem dX7_digest_28 : decode cX7_digest 28 = .ok (.goto (-22), 3) := by decide +kernel
theorem dX7_digest_31 : decode cX7_digest 31 = .ok (.iconst 0, 1) := by decide +kernel
theorem dX7_digest_32 : decode cX7_digest 32 = .ok (.istore_n 3, 1) := by decide +kernel
theorem dX7_digest_33 : decode cX7_digest 33 = .ok (.iload_n 3, 1) := by decide +kernel
theorem dX7_digest_34 : decode cX7_digest 34 = .ok (.aload_n 0, 1) := by decide +kernel
theorem dX7_digest_35 : decode cX7_digest 35 = .ok (.getfield 10, 3) := by decide +kernel
theorem dX7_digest_38 : decode cX7_digest 38 = .ok (.getfield 321, 3) := by decide +kernel
theorem dX7_digest_41 : decode cX7_digest 41 = .ok (.if_icmp .ge 42, 3) := by decide +kernel
theorem dX7_digest_44 : decode cX7_digest 44 = .ok (.iconst 0, 1) := by decide +kernel
theorem dX7_digest_45 : decode cX7_digest 45 = .ok (.istore 4, 2) := by decide +kernel
theorem dX7_digest_47 : decode cX7_digest 47 = .ok (.iload 4, 2) := by decide +kernel
theorem dX7_digest_49 : decode cX7_digest 49 = .ok (.iconst 5, 1) := by decide +kernel
theorem dX7_digest_50 : decode cX7_digest 50 = .ok (.if_icmp .gt 27, 3) := by decide +kernel
theorem dX7_digest_53 : decode cX7_digest 53 = .ok (.ldc2_w 336, 3) := by decide +kernel
theorem dX7_digest_56 : decode cX7_digest 56 = .ok (.lload_n 1, 1) := by decide +kernel
theorem dX7_digest_57 : decode cX7_digest 57 = .ok (.lmul, 1) := by decide +kernel
theorem dX7_digest_58 : decode cX7_digest 58 = .ok (.aload_n 0, 1) := by decide +kernel
theorem dX7_digest_59 : decode cX7_digest 59 = .ok (.getfield 10, 3) := by decide +kernel
theorem dX7_digest_62 : decode cX7_digest 62 = .ok (.iload_n 3, 1) := by decide +kernel
theorem dX7_digest_63 : decode cX7_digest 63 = .ok (.iload 4, 2) := by decide +kernel
theorem dX7_digest_65 : decode cX7_digest 65 = .ok (.invokevirtual 174, 3) := by decide +kernel
theorem dX7_digest_68 : decode cX7_digest 68 = .ok (.i2l, 1) := by decide +kernel
theorem dX7_digest_69 : decode cX7_digest 69 = .ok (.ladd, 1) := by decide +kernel
theorem dX7_digest_70 : decode cX7_digest 70 = .ok (.lstore_n 1, 1) := by decide +kernel
theorem dX7_digest_71 : decode cX7_digest 71 = .ok (.iinc 4 1, 3) := by decide +kernel
theorem dX7_digest_74 : decode cX7_digest 74 = .ok (.goto (-27), 3) := by decide +kernel
theorem dX7_digest_77 : decode cX7_digest 77 = .ok (.iinc 3 1, 3) := by decide +kernel
theorem dX7_digest_80 : decode cX7_digest 80 = .ok (.goto (-47), 3) := by decide +kernel
theorem dX7_digest_83 : decode cX7_digest 83 = .ok (.aload_n 0, 1) := by decide +kernel
theorem dX7_digest_84 : decode cX7_digest 84 = .ok (.getfield 31, 3) := by decide +kernel
theorem dX7_digest_87 : decode cX7_digest 87 = .ok (.lload_n 1, 1) := by decide +kernel
theorem dX7_digest_88 : decode cX7_digest 88 = .ok (.invokevirtual 341, 3) := by decide +kernel
theorem dX7_digest_91 : decode cX7_digest 91 = .ok (.lstore_n 1, 1) := by decide +kernel
theorem dX7_digest_92 : decode cX7_digest 92 = .ok (.aload_n 0, 1) := by decide +kernel
theorem dX7_digest_93 : decode cX7_digest 93 = .ok (.getfield 10, 3) := by decide +kernel
theorem dX7_digest_96 : decode cX7_digest 96 = .ok (.lload_n 1, 1) := by decide +kernel
theorem dX7_digest_97 : decode cX7_digest 97 = .ok (.invokevirtual 345, 3) := by decide +kernel
theorem dX7_digest_100 : decode cX7_digest 100 = .ok (.lstore_n 1, 1) := by decide +kernel
theorem dX7_digest_101 : decode cX7_digest 101 = .ok (.aload_n 0, 1) := by decide +kernel
theorem dX7_digest_102 : decode cX7_digest 102 = .ok (.getfield 20, 3) := by decide +kernel
theorem dX7_digest_105 : decode cX7_digest 105 = .ok (.lload_n 1, 1) := by decide +kernel
theorem dX7_digest_106 : decode cX7_digest 106 = .ok (.invokevirtual 348, 3) := by decide +kernel
theorem dX7_digest_109 : decode cX7_digest 109 = .ok (.lreturn, 1) := by decide +kernel
theorem dX7_refuse_0 : decode cX7_refuse 0 = .ok (.aload_n 0, 1) := by decide +kernel
theorem dX7_refuse_1 : decode cX7_refuse 1 = .ok (.iload_n 1, 1) := by decide +kernel
theorem dX7_refuse_2 : decode cX7_refuse 2 = .ok (.putfield 64, 3) := by decide +kernel
theorem dX7_refuse_5 : decode cX7_refuse 5 = .ok (.aload_n 0, 1) := by decide +kernel
theorem dX7_refuse_6 : decode cX7_refuse 6 = .ok (.getfield 56, 3) := by decide +kernel
theorem dX7_refuse_9 : decode cX7_refuse 9 = .ok (.iload_n 1, 1) := by decide +kernel
theorem dX7_refuse_10 : decode cX7_refuse 10 = .ok (.dup2, 1) := by decide +kernel
theorem dX7_refuse_11 : decode cX7_refuse 11 = .ok (.iaload, 1) := by decide +kernel
theorem dX7_refuse_12 : decode cX7_refuse 12 = .ok (.iconst 1, 1) := by decide +kernel
theorem dX7_refuse_13 : decode cX7_refuse 13 = .ok (.iadd, 1) := by decide +kernel
theorem dX7_refuse_14 : decode cX7_refuse 14 = .ok (.iastore, 1) := by decide +kernel
theorem dX7_refuse_15 : decode cX7_refuse 15 = .ok (.bipush (-3), 2) := by decide +kernel
theorem dX7_refuse_17 : decode cX7_refuse 17 = .ok (.ireturn, 1) := by decide +kernel
set_option maxRecDepth 20000 in
theorem ggX7_tellFraction_X7_commonDivisor : GoodIn wsX7_tellFraction wsX7_commonDivisor := goodIn_r _ [10] (by decide +kernel) (by decide +kernel)
set_option maxRecDepth 20000 in
theorem gX7_tellFraction_X7_commonDivisor : GoodIn wsX7_tellFraction (va_wsS RX7 349 yX7_commonDivisor wsX7_commonDivisor) := goodIn_app (goodIn_of _ (by decide +kernel)) ggX7_tellFraction_X7_commonDivisor
theorem dX7_tellFraction_0 : decode cX7_tellFraction 0 = .ok (.lconst 1, 1) := by decide +kernel
theorem dX7_tellFraction_1 : decode cX7_tellFraction 1 = .ok (.lload_n 1, 1) := by decide +kernel
theorem dX7_tellFraction_2 : decode cX7_tellFraction 2 = .ok (.lload_n 3, 1) := by decide +kernel
theorem dX7_tellFraction_3 : decode cX7_tellFraction 3 = .ok (.invokestatic 349, 3) := by decide +kernel
theorem dX7_tellFraction_6 : decode cX7_tellFraction 6 = .ok (.invokestatic 353, 3) := by decide +kernel
theorem dX7_tellFraction_9 : decode cX7_tellFraction 9 = .ok (.lstore 5, 2) := by decide +kernel
theorem dX7_tellFraction_11 : decode cX7_tellFraction 11 = .ok (.aload_n 0, 1) := by decide +kernel
theorem dX7_tellFraction_12 : decode cX7_tellFraction 12 = .ok (.lload_n 1, 1) := by decide +kernel
theorem dX7_tellFraction_13 : decode cX7_tellFraction 13 = .ok (.lload 5, 2) := by decide +kernel
theorem dX7_tellFraction_15 : decode cX7_tellFraction 15 = .ok (.ldiv, 1) := by decide +kernel
theorem dX7_tellFraction_16 : decode cX7_tellFraction 16 = .ok (.putfield 70, 3) := by decide +kernel
theorem dX7_tellFraction_19 : decode cX7_tellFraction 19 = .ok (.aload_n 0, 1) := by decide +kernel
theorem dX7_tellFraction_20 : decode cX7_tellFraction 20 = .ok (.lload_n 3, 1) := by decide +kernel
theorem dX7_tellFraction_21 : decode cX7_tellFraction 21 = .ok (.lload 5, 2) := by decide +kernel
theorem dX7_tellFraction_23 : decode cX7_tellFraction 23 = .ok (.ldiv, 1) := by decide +kernel
theorem dX7_tellFraction_24 : decode cX7_tellFraction 24 = .ok (.putfield 74, 3) := by decide +kernel
theorem dX7_tellFraction_27 : decode cX7_tellFraction 27 = .ok (.return_, 1) := by decide +kernel
theorem dX7_commonDivisor_0 : decode cX7_commonDivisor 0 = .ok (.iconst 0, 1) := by decide +kernel
theorem dX7_commonDivisor_1 : decode cX7_commonDivisor 1 = .ok (.istore 4, 2) := by decide +kernel
theorem dX7_commonDivisor_3 : decode cX7_commonDivisor 3 = .ok (.lload_n 2, 1) := by decide +kernel
theorem dX7_commonDivisor_4 : decode cX7_commonDivisor 4 = .ok (.lconst 0, 1) := by decide +kernel
theorem dX7_commonDivisor_5 : decode cX7_commonDivisor 5 = .ok (.lcmp, 1) := by decide +kernel
theorem dX7_commonDivisor_6 : decode cX7_commonDivisor 6 = .ok (.ifCond .eq 27, 3) := by decide +kernel
theorem dX7_commonDivisor_9 : decode cX7_commonDivisor 9 = .ok (.iload 4, 2) := by decide +kernel
theorem dX7_commonDivisor_11 : decode cX7_commonDivisor 11 = .ok (.sipush 1000, 3) := by decide +kernel
theorem dX7_commonDivisor_14 : decode cX7_commonDivisor 14 = .ok (.if_icmp .ge 19, 3) := by decide +kernel
theorem dX7_commonDivisor_17 : decode cX7_commonDivisor 17 = .ok (.lload_n 0, 1) := by decide +kernel
theorem dX7_commonDivisor_18 : decode cX7_commonDivisor 18 = .ok (.lload_n 2, 1) := by decide +kernel
theorem dX7_commonDivisor_19 : decode cX7_commonDivisor 19 = .ok (.lrem, 1) := by decide +kernel
theorem dX7_commonDivisor_20 : decode cX7_commonDivisor 20 = .ok (.lstore 5, 2) := by decide +kernel
theorem dX7_commonDivisor_22 : decode cX7_commonDivisor 22 = .ok (.lload_n 2, 1) := by decide +kernel
theorem dX7_commonDivisor_23 : decode cX7_commonDivisor 23 = .ok (.lstore_n 0, 1) := by decide +kernel
theorem dX7_commonDivisor_24 : decode cX7_commonDivisor 24 = .ok (.lload 5, 2) := by decide +kernel
theorem dX7_commonDivisor_26 : decode cX7_commonDivisor 26 = .ok (.lstore_n 2, 1) := by decide +kernel
theorem dX7_commonDivisor_27 : decode cX7_commonDivisor 27 = .ok (.iinc 4 1, 3) := by decide +kernel
theorem dX7_commonDivisor_30 : decode cX7_commonDivisor 30 = .ok (.goto (-27), 3) := by decide +kernel
theorem dX7_commonDivisor_33 : decode cX7_commonDivisor 33 = .ok (.lload_n 0, 1) := by decide +kernel
theorem dX7_commonDivisor_34 : decode cX7_commonDivisor 34 = .ok (.lreturn, 1) := by decide +kernel
theorem dX7_isWithin_0 : decode cX7_isWithin 0 = .ok (.iload_n 0, 1) := by decide +kernel
theorem dX7_isWithin_1 : decode cX7_isWithin 1 = .ok (.iload_n 1, 1) := by decide +kernel
theorem dX7_isWithin_2 : decode cX7_isWithin 2 = .ok (.if_icmp .lt 12, 3) := by decide +kernel
theorem dX7_isWithin_5 : decode cX7_isWithin 5 = .ok (.iload_n 0, 1) := by decide +kernel
theorem dX7_isWithin_6 : decode cX7_isWithin 6 = .ok (.iload_n 2, 1) := by decide +kernel
theorem dX7_isWithin_7 : decode cX7_isWithin 7 = .ok (.if_icmp .gt 7, 3) := by decide +kernel
theorem dX7_isWithin_10 : decode cX7_isWithin 10 = .ok (.iconst 1, 1) := by decide +kernel
theorem dX7_isWithin_11 : decode cX7_isWithin 11 = .ok (.goto 4, 3) := by decide +kernel
theorem dX7_isWithin_14 : decode cX7_isWithin 14 = .ok (.iconst 0, 1) := by decide +kernel
theorem dX7_isWithin_15 : decode cX7_isWithin 15 = .ok (.ireturn, 1) := by decide +kernel
set_option maxRecDepth 20000 in
theorem ggX7_isDay_X7_isWithin : GoodIn wsX7_isDay wsX7_isWithin := goodIn_r _ [4] (by decide +kernel) (by decide +kernel)
set_option maxRecDepth 20000 in
theorem gX7_isDay_X7_isWithin : GoodIn wsX7_isDay (va_wsS RX7 77 yX7_isWithin wsX7_isWithin) := goodIn_app (goodIn_of _ (by decide +kernel)) ggX7_isDay_X7_isWithin
theorem dX7_isDay_0 : decode cX7_isDay 0 = .ok (.iload_n 0, 1) := by decide +kernel
theorem dX7_isDay_1 : decode cX7_isDay 1 = .ok (.iconst 0, 1) := by decide +kernel
theorem dX7_isDay_2 : decode cX7_isDay 2 = .ok (.sipush 30000, 3) := by decide +kernel
theorem dX7_isDay_5 : decode cX7_isDay 5 = .ok (.invokestatic 77, 3) := by decide +kernel
theorem dX7_isDay_8 : decode cX7_isDay 8 = .ok (.ireturn, 1) := by decide +kernel
set_option maxRecDepth 20000 in
theorem ggX7_isYear_X7_isWithin : GoodIn wsX7_isYear wsX7_isWithin := goodIn_r _ [4] (by decide +kernel) (by decide +kernel)
set_option maxRecDepth 20000 in
theorem gX7_isYear_X7_isWithin : GoodIn wsX7_isYear (va_wsS RX7 77 yX7_isWithin wsX7_isWithin) := goodIn_app (goodIn_of _ (by decide +kernel)) ggX7_isYear_X7_isWithin
theorem dX7_isYear_0 : decode cX7_isYear 0 = .ok (.iload_n 0, 1) := by decide +kernel
theorem dX7_isYear_1 : decode cX7_isYear 1 = .ok (.sipush 1000, 3) := by decide +kernel
theorem dX7_isYear_4 : decode cX7_isYear 4 = .ok (.sipush 2100, 3) := by decide +kernel
theorem dX7_isYear_7 : decode cX7_isYear 7 = .ok (.invokestatic 77, 3) := by decide +kernel
theorem dX7_isYear_10 : decode cX7_isYear 10 = .ok (.ireturn, 1) := by decide +kernel
set_option maxRecDepth 20000 in
theorem ggX7_areYears_X7_isYear : GoodIn wsX7_areYears wsX7_isYear := goodIn_r _ [4, 5, 6, 3, 7] (by decide +kernel) (by decide +kernel)
set_option maxRecDepth 20000 in
theorem gX7_areYears_X7_isYear : GoodIn wsX7_areYears (va_wsS RX7 131 yX7_isYear wsX7_isYear) := goodIn_app (goodIn_of _ (by decide +kernel)) ggX7_areYears_X7_isYear
theorem dX7_areYears_0 : decode cX7_areYears 0 = .ok (.iload_n 0, 1) := by decide +kernel
theorem dX7_areYears_1 : decode cX7_areYears 1 = .ok (.invokestatic 131, 3) := by decide +kernel
theorem dX7_areYears_4 : decode cX7_areYears 4 = .ok (.ifCond .eq 19, 3) := by decide +kernel
theorem dX7_areYears_7 : decode cX7_areYears 7 = .ok (.iload_n 1, 1) := by decide +kernel
theorem dX7_areYears_8 : decode cX7_areYears 8 = .ok (.invokestatic 131, 3) := by decide +kernel
theorem dX7_areYears_11 : decode cX7_areYears 11 = .ok (.ifCond .eq 12, 3) := by decide +kernel
theorem dX7_areYears_14 : decode cX7_areYears 14 = .ok (.iload_n 0, 1) := by decide +kernel
theorem dX7_areYears_15 : decode cX7_areYears 15 = .ok (.iload_n 1, 1) := by decide +kernel
theorem dX7_areYears_16 : decode cX7_areYears 16 = .ok (.if_icmp .gt 7, 3) := by decide +kernel
theorem dX7_areYears_19 : decode cX7_areYears 19 = .ok (.iconst 1, 1) := by decide +kernel
theorem dX7_areYears_20 : decode cX7_areYears 20 = .ok (.goto 4, 3) := by decide +kernel
theorem dX7_areYears_23 : decode cX7_areYears 23 = .ok (.iconst 0, 1) := by decide +kernel
theorem dX7_areYears_24 : decode cX7_areYears 24 = .ok (.ireturn, 1) := by decide +kernel
set_option maxRecDepth 20000 in
theorem ggX7_isRow_X7_isWithin : GoodIn wsX7_isRow wsX7_isWithin := goodIn_r _ [4] (by decide +kernel) (by decide +kernel)
set_option maxRecDepth 20000 in
theorem gX7_isRow_X7_isWithin : GoodIn wsX7_isRow (va_wsS RX7 77 yX7_isWithin wsX7_isWithin) := goodIn_app (goodIn_of _ (by decide +kernel)) ggX7_isRow_X7_isWithin
theorem dX7_isRow_0 : decode cX7_isRow 0 = .ok (.iload_n 0, 1) := by decide +kernel
theorem dX7_isRow_1 : decode cX7_isRow 1 = .ok (.iconst 0, 1) := by decide +kernel
theorem dX7_isRow_2 : decode cX7_isRow 2 = .ok (.iconst 5, 1) := by decide +kernel
theorem dX7_isRow_3 : decode cX7_isRow 3 = .ok (.invokestatic 77, 3) := by decide +kernel
theorem dX7_isRow_6 : decode cX7_isRow 6 = .ok (.ireturn, 1) := by decide +kernel
set_option maxRecDepth 20000 in
theorem ggX7_areTwoRows_X7_isRow : GoodIn wsX7_areTwoRows wsX7_isRow := goodIn_r _ [4, 5, 6, 3, 7] (by decide +kernel) (by decide +kernel)
set_option maxRecDepth 20000 in
theorem gX7_areTwoRows_X7_isRow : GoodIn wsX7_areTwoRows (va_wsS RX7 81 yX7_isRow wsX7_isRow) := goodIn_app (goodIn_of _ (by decide +kernel)) ggX7_areTwoRows_X7_isRow
theorem dX7_areTwoRows_0 : decode cX7_areTwoRows 0 = .ok (.iload_n 0, 1) := by decide +kernel
theorem dX7_areTwoRows_1 : decode cX7_areTwoRows 1 = .ok (.invokestatic 81, 3) := by decide +kernel
theorem dX7_areTwoRows_4 : decode cX7_areTwoRows 4 = .ok (.ifCond .eq 19, 3) := by decide +kernel
theorem dX7_areTwoRows_7 : decode cX7_areTwoRows 7 = .ok (.iload_n 1, 1) := by decide +kernel
theorem dX7_areTwoRows_8 : decode cX7_areTwoRows 8 = .ok (.invokestatic 81, 3) := by decide +kernel
theorem dX7_areTwoRows_11 : decode cX7_areTwoRows 11 = .ok (.ifCond .eq 12, 3) := by decide +kernel
theorem dX7_areTwoRows_14 : decode cX7_areTwoRows 14 = .ok (.iload_n 0, 1) := by decide +kernel
theorem dX7_areTwoRows_15 : decode cX7_areTwoRows 15 = .ok (.iload_n 1, 1) := by decide +kernel
theorem dX7_areTwoRows_16 : decode cX7_areTwoRows 16 = .ok (.if_icmp .eq 7, 3) := by decide +kernel
theorem dX7_areTwoRows_19 : decode cX7_areTwoRows 19 = .ok (.iconst 1, 1) := by decide +kernel
theorem dX7_areTwoRows_20 : decode cX7_areTwoRows 20 = .ok (.goto 4, 3) := by decide +kernel
theorem dX7_areTwoRows_23 : decode cX7_areTwoRows 23 = .ok (.iconst 0, 1) := by decide +kernel
theorem dX7_areTwoRows_24 : decode cX7_areTwoRows 24 = .ok (.ireturn, 1) := by decide +kernel
set_option maxRecDepth 20000 in
theorem ggX7_isHand_X7_isWithin : GoodIn wsX7_isHand wsX7_isWithin := goodIn_r _ [4] (by decide +kernel) (by decide +kernel)
set_option maxRecDepth 20000 in
theorem gX7_isHand_X7_isWithin : GoodIn wsX7_isHand (va_wsS RX7 77 yX7_isWithin wsX7_isWithin) := goodIn_app (goodIn_of _ (by decide +kernel)) ggX7_isHand_X7_isWithin
theorem dX7_isHand_0 : decode cX7_isHand 0 = .ok (.iload_n 0, 1) := by decide +kernel
theorem dX7_isHand_1 : decode cX7_isHand 1 = .ok (.iconst 0, 1) := by decide +kernel
theorem dX7_isHand_2 : decode cX7_isHand 2 = .ok (.iconst 3, 1) := by decide +kernel
theorem dX7_isHand_3 : decode cX7_isHand 3 = .ok (.invokestatic 77, 3) := by decide +kernel
theorem dX7_isHand_6 : decode cX7_isHand 6 = .ok (.ireturn, 1) := by decide +kernel
set_option maxRecDepth 20000 in
theorem ggX7_isProofWeight_X7_isWithin : GoodIn wsX7_isProofWeight wsX7_isWithin := goodIn_r _ [4] (by decide +kernel) (by decide +kernel)
set_option maxRecDepth 20000 in
theorem gX7_isProofWeight_X7_isWithin : GoodIn wsX7_isProofWeight (va_wsS RX7 77 yX7_isWithin wsX7_isWithin) := goodIn_app (goodIn_of _ (by decide +kernel)) ggX7_isProofWeight_X7_isWithin
theorem dX7_isProofWeight_0 : decode cX7_isProofWeight 0 = .ok (.iload_n 0, 1) := by decide +kernel
theorem dX7_isProofWeight_1 : decode cX7_isProofWeight 1 = .ok (.iconst 1, 1) := by decide +kernel
theorem dX7_isProofWeight_2 : decode cX7_isProofWeight 2 = .ok (.bipush 9, 2) := by decide +kernel
theorem dX7_isProofWeight_4 : decode cX7_isProofWeight 4 = .ok (.invokestatic 77, 3) := by decide +kernel
theorem dX7_isProofWeight_7 : decode cX7_isProofWeight 7 = .ok (.ireturn, 1) := by decide +kernel
end
section
theorem dX8_init_0 : decode cX8_init 0 = .ok (.aload_n 0, 1) := by decide +kernel
theorem dX8_init_1 : decode cX8_init 1 = .ok (.invokespecial 1, 3) := by decide +kernel
theorem dX8_init_4 : decode cX8_init 4 = .ok (.aload_n 0, 1) := by decide +kernel
theorem dX8_init_5 : decode cX8_init 5 = .ok (.bipush 6, 2) := by decide +kernel
theorem dX8_init_7 : decode cX8_init 7 = .ok (.newarray .int, 2) := by decide +kernel
theorem dX8_init_9 : decode cX8_init 9 = .ok (.putfield 7, 3) := by decide +kernel
theorem dX8_init_12 : decode cX8_init 12 = .ok (.aload_n 0, 1) := by decide +kernel
theorem dX8_init_13 : decode cX8_init 13 = .ok (.bipush 6, 2) := by decide +kernel
theorem dX8_init_15 : decode cX8_init 15 = .ok (.newarray .int, 2) := by decide +kernel
theorem dX8_init_17 : decode cX8_init 17 = .ok (.putfield 13, 3) := by decide +kernel
theorem dX8_init_20 : decode cX8_init 20 = .ok (.aload_n 0, 1) := by decide +kernel
theorem dX8_init_21 : decode cX8_init 21 = .ok (.sipush 240, 3) := by decide +kernel
theorem dX8_init_24 : decode cX8_init 24 = .ok (.newarray .byte, 2) := by decide +kernel
theorem dX8_init_26 : decode cX8_init 26 = .ok (.putfield 16, 3) := by decide +kernel
theorem dX8_init_29 : decode cX8_init 29 = .ok (.aload_n 0, 1) := by decide +kernel
theorem dX8_init_30 : decode cX8_init 30 = .ok (.bipush 40, 2) := by decide +kernel
theorem dX8_init_32 : decode cX8_init 32 = .ok (.newarray .byte, 2) := by decide +kernel
theorem dX8_init_34 : decode cX8_init 34 = .ok (.putfield 20, 3) := by decide +kernel
theorem dX8_init_37 : decode cX8_init 37 = .ok (.aload_n 0, 1) := by decide +kernel
theorem dX8_init_38 : decode cX8_init 38 = .ok (.bipush 10, 2) := by decide +kernel
theorem dX8_init_40 : decode cX8_init 40 = .ok (.newarray .int, 2) := by decide +kernel
theorem dX8_init_42 : decode cX8_init 42 = .ok (.putfield 23, 3) := by decide +kernel
theorem dX8_init_45 : decode cX8_init 45 = .ok (.aload_n 0, 1) := by decide +kernel
theorem dX8_init_46 : decode cX8_init 46 = .ok (.bipush 24, 2) := by decide +kernel
theorem dX8_init_48 : decode cX8_init 48 = .ok (.newarray .int, 2) := by decide +kernel
theorem dX8_init_50 : decode cX8_init 50 = .ok (.putfield 26, 3) := by decide +kernel
theorem dX8_init_53 : decode cX8_init 53 = .ok (.aload_n 0, 1) := by decide +kernel
theorem dX8_init_54 : decode cX8_init 54 = .ok (.bipush 24, 2) := by decide +kernel
theorem dX8_init_56 : decode cX8_init 56 = .ok (.newarray .int, 2) := by decide +kernel
theorem dX8_init_58 : decode cX8_init 58 = .ok (.putfield 29, 3) := by decide +kernel
theorem dX8_init_61 : decode cX8_init 61 = .ok (.aload_n 0, 1) := by decide +kernel
theorem dX8_init_62 : decode cX8_init 62 = .ok (.bipush 24, 2) := by decide +kernel
theorem dX8_init_64 : decode cX8_init 64 = .ok (.newarray .int, 2) := by decide +kernel
theorem dX8_init_66 : decode cX8_init 66 = .ok (.putfield 32, 3) := by decide +kernel
theorem dX8_init_69 : decode cX8_init 69 = .ok (.aload_n 0, 1) := by decide +kernel
theorem dX8_init_70 : decode cX8_init 70 = .ok (.bipush 24, 2) := by decide +kernel
theorem dX8_init_72 : decode cX8_init 72 = .ok (.newarray .int, 2) := by decide +kernel
theorem dX8_init_74 : decode cX8_init 74 = .ok (.putfield 35, 3) := by decide +kernel
theorem dX8_init_77 : decode cX8_init 77 = .ok (.aload_n 0, 1) := by decide +kernel
theorem dX8_init_78 : decode cX8_init 78 = .ok (.bipush 24, 2) := by decide +kernel
theorem dX8_init_80 : decode cX8_init 80 = .ok (.newarray .int, 2) := by decide +kernel
theorem dX8_init_82 : decode cX8_init 82 = .ok (.putfield 38, 3) := by decide +kernel
theorem dX8_init_85 : decode cX8_init 85 = .ok (.aload_n 0, 1) := by decide +kernel
theorem dX8_init_86 : decode cX8_init 86 = .ok (.bipush 24, 2) := by decide +kernel
theorem dX8_init_88 : decode cX8_init 88 = .ok (.newarray .int, 2) := by decide +kernel
theorem dX8_init_90 : decode cX8_init 90 = .ok (.putfield 41, 3) := by decide +kernel
theorem dX8_init_93 : decode cX8_init 93 = .ok (.aload_n 0, 1) := by decide +kernel
theorem dX8_init_94 : decode cX8_init 94 = .ok (.bipush 24, 2) := by decide +kernel
theorem dX8_init_96 : decode cX8_init 96 = .ok (.newarray .int, 2) := by decide +kernel
theorem dX8_init_98 : decode cX8_init 98 = .ok (.putfield 44, 3) := by decide +kernel
theorem dX8_init_101 : decode cX8_init 101 = .ok (.aload_n 0, 1) := by decide +kernel
theorem dX8_init_102 : decode cX8_init 102 = .ok (.bipush 24, 2) := by decide +kernel
theorem dX8_init_104 : decode cX8_init 104 = .ok (.newarray .int, 2) := by decide +kernel
theorem dX8_init_106 : decode cX8_init 106 = .ok (.putfield 47, 3) := by decide +kernel
theorem dX8_init_109 : decode cX8_init 109 = .ok (.aload_n 0, 1) := by decide +kernel
theorem dX8_init_110 : decode cX8_init 110 = .ok (.sipush 2102, 3) := by decide +kernel
theorem dX8_init_113 : decode cX8_init 113 = .ok (.newarray .int, 2) := by decide +kernel
theorem dX8_init_115 : decode cX8_init 115 = .ok (.putfield 50, 3) := by decide +kernel
theorem dX8_init_118 : decode cX8_init 118 = .ok (.aload_n 0, 1) := by decide +kernel
theorem dX8_init_119 : decode cX8_init 119 = .ok (.iconst 4, 1) := by decide +kernel
theorem dX8_init_120 : decode cX8_init 120 = .ok (.newarray .int, 2) := by decide +kernel
theorem dX8_init_122 : decode cX8_init 122 = .ok (.putfield 53, 3) := by decide +kernel
theorem dX8_init_125 : decode cX8_init 125 = .ok (.aload_n 0, 1) := by decide +kernel
theorem dX8_init_126 : decode cX8_init 126 = .ok (.bipush 10, 2) := by decide +kernel
theorem dX8_init_128 : decode cX8_init 128 = .ok (.newarray .int, 2) := by decide +kernel
theorem dX8_init_130 : decode cX8_init 130 = .ok (.putfield 56, 3) := by decide +kernel
theorem dX8_init_133 : decode cX8_init 133 = .ok (.aload_n 0, 1) := by decide +kernel
theorem dX8_init_134 : decode cX8_init 134 = .ok (.bipush 10, 2) := by decide +kernel
theorem dX8_init_136 : decode cX8_init 136 = .ok (.newarray .int, 2) := by decide +kernel
theorem dX8_init_138 : decode cX8_init 138 = .ok (.putfield 59, 3) := by decide +kernel
theorem dX8_init_141 : decode cX8_init 141 = .ok (.aload_n 0, 1) := by decide +kernel
theorem dX8_init_142 : decode cX8_init 142 = .ok (.bipush 10, 2) := by decide +kernel
theorem dX8_init_144 : decode cX8_init 144 = .ok (.newarray .int, 2) := by decide +kernel
theorem dX8_init_146 : decode cX8_init 146 = .ok (.putfield 62, 3) := by decide +kernel
theorem dX8_init_149 : decode cX8_init 149 = .ok (.aload_n 0, 1) := by decide +kernel
theorem dX8_init_150 : decode cX8_init 150 = .ok (.bipush 40, 2) := by decide +kernel
theorem dX8_init_152 : decode cX8_init 152 = .ok (.newarray .int, 2) := by decide +kernel
theorem dX8_init_154 : decode cX8_init 154 = .ok (.putfield 65, 3) := by decide +kernel
theorem dX8_init_157 : decode cX8_init 157 = .ok (.aload_n 0, 1) := by decide +kernel
theorem dX8_init_158 : decode cX8_init 158 = .ok (.bipush 10, 2) := by decide +kernel
theorem dX8_init_160 : decode cX8_init 160 = .ok (.newarray .int, 2) := by decide +kernel
theorem dX8_init_162 : decode cX8_init 162 = .ok (.putfield 68, 3) := by decide +kernel
theorem dX8_init_165 : decode cX8_init 165 = .ok (.aload_n 0, 1) := by decide +kernel
theorem dX8_init_166 : decode cX8_init 166 = .ok (.bipush 10, 2) := by decide +kernel
theorem dX8_init_168 : decode cX8_init 168 = .ok (.newarray .boolean, 2) := by decide +kernel
theorem dX8_init_170 : decode cX8_init 170 = .ok (.putfield 71, 3) := by decide +kernel
theorem dX8_init_173 : decode cX8_init 173 = .ok (.aload_n 0, 1) := by decide +kernel
theorem dX8_init_174 : decode cX8_init 174 = .ok (.bipush 20, 2) := by decide +kernel
theorem dX8_init_176 : decode cX8_init 176 = .ok (.newarray .int, 2) := by decide +kernel
theorem dX8_init_178 : decode cX8_init 178 = .ok (.putfield 75, 3) := by decide +kernel
theorem dX8_init_181 : decode cX8_init 181 = .ok (.aload_n 0, 1) := by decide +kernel
theorem dX8_init_182 : decode cX8_init 182 = .ok (.bipush 20, 2) := by decide +kernel
theorem dX8_init_184 : decode cX8_init 184 = .ok (.newarray .int, 2) := by decide +kernel
theorem dX8_init_186 : decode cX8_init 186 = .ok (.putfield 78, 3) := by decide +kernel
theorem dX8_init_189 : decode cX8_init 189 = .ok (.aload_n 0, 1) := by decide +kernel
theorem dX8_init_190 : decode cX8_init 190 = .ok (.bipush 30, 2) := by decide +kernel
theorem dX8_init_192 : decode cX8_init 192 = .ok (.newarray .int, 2) := by decide +kernel
theorem dX8_init_194 : decode cX8_init 194 = .ok (.putfield 81, 3) := by decide +kernel
theorem dX8_init_197 : decode cX8_init 197 = .ok (.aload_n 0, 1) := by decide +kernel
theorem dX8_init_198 : decode cX8_init 198 = .ok (.bipush 30, 2) := by decide +kernel
theorem dX8_init_200 : decode cX8_init 200 = .ok (.newarray .int, 2) := by decide +kernel
theorem dX8_init_202 : decode cX8_init 202 = .ok (.putfield 84, 3) := by decide +kernel
theorem dX8_init_205 : decode cX8_init 205 = .ok (.aload_n 0, 1) := by decide +kernel
theorem dX8_init_206 : decode cX8_init 206 = .ok (.bipush 30, 2) := by decide +kernel
theorem dX8_init_208 : decode cX8_init 208 = .ok (.newarray .int, 2) := by decide +kernel
theorem dX8_init_210 : decode cX8_init 210 = .ok (.putfield 87, 3) := by decide +kernel
theorem dX8_init_213 : decode cX8_init 213 = .ok (.aload_n 0, 1) := by decide +kernel
theorem dX8_init_214 : decode cX8_init 214 = .ok (.bipush 30, 2) := by decide +kernel
theorem dX8_init_216 : decode cX8_init 216 = .ok (.newarray .boolean, 2) := by decide +kernel
theorem dX8_init_218 : decode cX8_init 218 = .ok (.putfield 90, 3) := by decide +kernel
theorem dX8_init_221 : decode cX8_init 221 = .ok (.aload_n 0, 1) := by decide +kernel
theorem dX8_init_222 : decode cX8_init 222 = .ok (.bipush 8, 2) := by decide +kernel
theorem dX8_init_224 : decode cX8_init 224 = .ok (.newarray .int, 2) := by decide +kernel
theorem dX8_init_226 : decode cX8_init 226 = .ok (.putfield 93, 3) := by decide +kernel
theorem dX8_init_229 : decode cX8_init 229 = .ok (.aload_n 0, 1) := by decide +kernel
theorem dX8_init_230 : decode cX8_init 230 = .ok (.bipush 8, 2) := by decide +kernel
theorem dX8_init_232 : decode cX8_init 232 = .ok (.newarray .int, 2) := by decide +kernel
theorem dX8_init_234 : decode cX8_init 234 = .ok (.putfield 96, 3) := by decide +kernel
theorem dX8_init_237 : decode cX8_init 237 = .ok (.aload_n 0, 1) := by decide +kernel
theorem dX8_init_238 : decode cX8_init 238 = .ok (.bipush 8, 2) := by decide +kernel
theorem dX8_init_240 : decode cX8_init 240 = .ok (.newarray .int, 2) := by decide +kernel
theorem dX8_init_242 : decode cX8_init 242 = .ok (.putfield 99, 3) := by decide +kernel
theorem dX8_init_245 : decode cX8_init 245 = .ok (.aload_n 0, 1) := by decide +kernel
theorem dX8_init_246 : decode cX8_init 246 = .ok (.bipush 8, 2) := by decide +kernel
theorem dX8_init_248 : decode cX8_init 248 = .ok (.newarray .int, 2) := by decide +kernel
theorem dX8_init_250 : decode cX8_init 250 = .ok (.putfield 102, 3) := by decide +kernel
theorem dX8_init_253 : decode cX8_init 253 = .ok (.aload_n 0, 1) := by decide +kernel
theorem dX8_init_254 : decode cX8_init 254 = .ok (.lconst 1, 1) := by decide +kernel
theorem dX8_init_255 : decode cX8_init 255 = .ok (.putfield 105, 3) := by decide +kernel
theorem dX8_init_258 : decode cX8_init 258 = .ok (.iconst 0, 1) := by decide +kernel
theorem dX8_init_259 : decode cX8_init 259 = .ok (.istore_n 1, 1) := by decide +kernel
theorem dX8_init_260 : decode cX8_init 260 = .ok (.iload_n 1, 1) := by decide +kernel
theorem dX8_init_261 : decode cX8_init 261 = .ok (.bipush 6, 2) := by decide +kernel
theorem dX8_init_263 : decode cX8_init 263 = .ok (.if_icmp .ge 16, 3) := by decide +kernel
theorem dX8_init_266 : decode cX8_init 266 = .ok (.aload_n 0, 1) := by decide +kernel
theorem dX8_init_267 : decode cX8_init 267 = .ok (.getfield 13, 3) := by decide +kernel
theorem dX8_init_270 : decode cX8_init 270 = .ok (.iload_n 1, 1) := by decide +kernel
theorem dX8_init_271 : decode cX8_init 271 = .ok (.iconst (-1), 1) := by decide +kernel
theorem dX8_init_272 : decode cX8_init 272 = .ok (.iastore, 1) := by decide +kernel
theorem dX8_init_273 : decode cX8_init 273 = .ok (.iinc 1 1, 3) := by decide +kernel
theorem dX8_init_276 : decode cX8_init 276 = .ok (.goto (-16), 3) := by decide +kernel
theorem dX8_init_279 : decode cX8_init 279 = .ok (.iconst 0, 1) := by decide +kernel
theorem dX8_init_280 : decode cX8_init 280 = .ok (.istore_n 1, 1) := by decide +kernel
theorem dX8_init_281 : decode cX8_init 281 = .ok (.iload_n 1, 1) := by decide +kernel
theorem dX8_init_282 : decode cX8_init 282 = .ok (.bipush 10, 2) := by decide +kernel
theorem dX8_init_284 : decode cX8_init 284 = .ok (.if_icmp .ge 18, 3) := by decide +kernel
theorem dX8_init_287 : decode cX8_init 287 = .ok (.aload_n 0, 1) := by decide +kernel
theorem dX8_init_288 : decode cX8_init 288 = .ok (.getfield 23, 3) := by decide +kernel
theorem dX8_init_291 : decode cX8_init 291 = .ok (.iload_n 1, 1) := by decide +kernel
theorem dX8_init_292 : decode cX8_init 292 = .ok (.sipush 1000, 3) := by decide +kernel
theorem dX8_init_295 : decode cX8_init 295 = .ok (.iastore, 1) := by decide +kernel
theorem dX8_init_296 : decode cX8_init 296 = .ok (.iinc 1 1, 3) := by decide +kernel
theorem dX8_init_299 : decode cX8_init 299 = .ok (.goto (-18), 3) := by decide +kernel
theorem dX8_init_302 : decode cX8_init 302 = .ok (.aload_n 0, 1) := by decide +kernel
theorem dX8_init_303 : decode cX8_init 303 = .ok (.bipush 8, 2) := by decide +kernel
theorem dX8_init_305 : decode cX8_init 305 = .ok (.putfield 109, 3) := by decide +kernel
theorem dX8_init_308 : decode cX8_init 308 = .ok (.aload_n 0, 1) := by decide +kernel
theorem dX8_init_309 : decode cX8_init 309 = .ok (.bipush 24, 2) := by decide +kernel
theorem dX8_init_311 : decode cX8_init 311 = .ok (.putfield 113, 3) := by decide +kernel
theorem dX8_init_314 : decode cX8_init 314 = .ok (.aload_n 0, 1) := by decide +kernel
theorem dX8_init_315 : decode cX8_init 315 = .ok (.bipush 10, 2) := by decide +kernel
theorem dX8_init_317 : decode cX8_init 317 = .ok (.putfield 116, 3) := by decide +kernel
theorem dX8_init_320 : decode cX8_init 320 = .ok (.iconst 0, 1) := by decide +kernel
theorem dX8_init_321 : decode cX8_init 321 = .ok (.istore_n 1, 1) := by decide +kernel
theorem dX8_init_322 : decode cX8_init 322 = .ok (.iload_n 1, 1) := by decide +kernel
theorem dX8_init_323 : decode cX8_init 323 = .ok (.iconst 4, 1) := by decide +kernel
theorem dX8_init_324 : decode cX8_init 324 = .ok (.if_icmp .ge 16, 3) := by decide +kernel
theorem dX8_init_327 : decode cX8_init 327 = .ok (.aload_n 0, 1) := by decide +kernel
theorem dX8_init_328 : decode cX8_init 328 = .ok (.getfield 53, 3) := by decide +kernel
theorem dX8_init_331 : decode cX8_init 331 = .ok (.iload_n 1, 1) := by decide +kernel
theorem dX8_init_332 : decode cX8_init 332 = .ok (.iconst 1, 1) := by decide +kernel
theorem dX8_init_333 : decode cX8_init 333 = .ok (.iastore, 1) := by decide +kernel
theorem dX8_init_334 : decode cX8_init 334 = .ok (.iinc 1 1, 3) := by decide +kernel
theorem dX8_init_337 : decode cX8_init 337 = .ok (.goto (-15), 3) := by decide +kernel
theorem dX8_init_340 : decode cX8_init 340 = .ok (.aload_n 0, 1) := by decide +kernel
theorem dX8_init_341 : decode cX8_init 341 = .ok (.bipush (-9), 2) := by decide +kernel
theorem dX8_init_343 : decode cX8_init 343 = .ok (.putfield 119, 3) := by decide +kernel
theorem dX8_init_346 : decode cX8_init 346 = .ok (.return_, 1) := by decide +kernel
theorem dX8_in_0 : decode cX8_in 0 = .ok (.iload_n 0, 1) := by decide +kernel
theorem dX8_in_1 : decode cX8_in 1 = .ok (.iload_n 1, 1) := by decide +kernel
theorem dX8_in_2 : decode cX8_in 2 = .ok (.if_icmp .lt 12, 3) := by decide +kernel
theorem dX8_in_5 : decode cX8_in 5 = .ok (.iload_n 0, 1) := by decide +kernel
theorem dX8_in_6 : decode cX8_in 6 = .ok (.iload_n 2, 1) := by decide +kernel
theorem dX8_in_7 : decode cX8_in 7 = .ok (.if_icmp .gt 7, 3) := by decide +kernel
theorem dX8_in_10 : decode cX8_in 10 = .ok (.iconst 1, 1) := by decide +kernel
theorem dX8_in_11 : decode cX8_in 11 = .ok (.goto 4, 3) := by decide +kernel
theorem dX8_in_14 : decode cX8_in 14 = .ok (.iconst 0, 1) := by decide +kernel
theorem dX8_in_15 : decode cX8_in 15 = .ok (.ireturn, 1) := by decide +kernel
theorem dX8_meets_0 : decode cX8_meets 0 = .ok (.aload_n 0, 1) := by decide +kernel
theorem dX8_meets_1 : decode cX8_meets 1 = .ok (.iload_n 1, 1) := by decide +kernel
theorem dX8_meets_2 : decode cX8_meets 2 = .ok (.putfield 122, 3) := by decide +kernel
theorem dX8_meets_5 : decode cX8_meets 5 = .ok (.aload_n 0, 1) := by decide +kernel
theorem dX8_meets_6 : decode cX8_meets 6 = .ok (.getfield 7, 3) := by decide +kernel
theorem dX8_meets_9 : decode cX8_meets 9 = .ok (.iload_n 1, 1) := by decide +kernel
theorem dX8_meets_10 : decode cX8_meets 10 = .ok (.dup2, 1) := by decide +kernel
theorem dX8_meets_11 : decode cX8_meets 11 = .ok (.iaload, 1) := by decide +kernel
theorem dX8_meets_12 : decode cX8_meets 12 = .ok (.iconst 1, 1) := by decide +kernel
theorem dX8_meets_13 : decode cX8_meets 13 = .ok (.iadd, 1) := by decide +kernel
theorem dX8_meets_14 : decode cX8_meets 14 = .ok (.iastore, 1) := by decide +kernel
theorem dX8_meets_15 : decode cX8_meets 15 = .ok (.bipush (-3), 2) := by decide +kernel
theorem dX8_meets_17 : decode cX8_meets 17 = .ok (.ireturn, 1) := by decide +kernel
theorem dX8_finding_0 : decode cX8_finding 0 = .ok (.aload_n 0, 1) := by decide +kernel
theorem dX8_finding_1 : decode cX8_finding 1 = .ok (.getfield 122, 3) := by decide +kernel
theorem dX8_finding_4 : decode cX8_finding 4 = .ok (.ireturn, 1) := by decide +kernel
set_option maxRecDepth 20000 in
theorem ggX8_findings_X8_in : GoodIn wsX8_findings wsX8_in := goodIn_r _ [5] (by decide +kernel) (by decide +kernel)
set_option maxRecDepth 20000 in
theorem gX8_findings_X8_in : GoodIn wsX8_findings (va_wsS RX8 125 yX8_in wsX8_in) := goodIn_app (goodIn_of _ (by decide +kernel)) ggX8_findings_X8_in
theorem dX8_findings_0 : decode cX8_findings 0 = .ok (.iload_n 1, 1) := by decide +kernel
theorem dX8_findings_1 : decode cX8_findings 1 = .ok (.iconst 1, 1) := by decide +kernel
theorem dX8_findings_2 : decode cX8_findings 2 = .ok (.iconst 5, 1) := by decide +kernel
theorem dX8_findings_3 : decode cX8_findings 3 = .ok (.invokestatic 125, 3) := by decide +kernel
theorem dX8_findings_6 : decode cX8_findings 6 = .ok (.ifCond .eq 12, 3) := by decide +kernel
theorem dX8_findings_9 : decode cX8_findings 9 = .ok (.aload_n 0, 1) := by decide +kernel
theorem dX8_findings_10 : decode cX8_findings 10 = .ok (.getfield 7, 3) := by decide +kernel
theorem dX8_findings_13 : decode cX8_findings 13 = .ok (.iload_n 1, 1) := by decide +kernel
theorem dX8_findings_14 : decode cX8_findings 14 = .ok (.iaload, 1) := by decide +kernel
theorem dX8_findings_15 : decode cX8_findings 15 = .ok (.goto 4, 3) := by decide +kernel
theorem dX8_findings_18 : decode cX8_findings 18 = .ok (.iconst (-1), 1) := by decide +kernel
theorem dX8_findings_19 : decode cX8_findings 19 = .ok (.ireturn, 1) := by decide +kernel
theorem dX8_tells_0 : decode cX8_tells 0 = .ok (.aload_n 0, 1) := by decide +kernel
theorem dX8_tells_1 : decode cX8_tells 1 = .ok (.iload_n 1, 1) := by decide +kernel
theorem dX8_tells_2 : decode cX8_tells 2 = .ok (.putfield 129, 3) := by decide +kernel
theorem dX8_tells_5 : decode cX8_tells 5 = .ok (.iload_n 2, 1) := by decide +kernel
theorem dX8_tells_6 : decode cX8_tells 6 = .ok (.ireturn, 1) := by decide +kernel
theorem dX8_asked_0 : decode cX8_asked 0 = .ok (.aload_n 0, 1) := by decide +kernel
theorem dX8_asked_1 : decode cX8_asked 1 = .ok (.getfield 129, 3) := by decide +kernel
theorem dX8_asked_4 : decode cX8_asked 4 = .ok (.ireturn, 1) := by decide +kernel
theorem dX8_fraction_0 : decode cX8_fraction 0 = .ok (.lload_n 1, 1) := by decide +kernel
theorem dX8_fraction_1 : decode cX8_fraction 1 = .ok (.lconst 0, 1) := by decide +kernel
theorem dX8_fraction_2 : decode cX8_fraction 2 = .ok (.lcmp, 1) := by decide +kernel
theorem dX8_fraction_3 : decode cX8_fraction 3 = .ok (.ifCond .ge 8, 3) := by decide +kernel
theorem dX8_fraction_6 : decode cX8_fraction 6 = .ok (.lload_n 1, 1) := by decide +kernel
theorem dX8_fraction_7 : decode cX8_fraction 7 = .ok (.lneg, 1) := by decide +kernel
theorem dX8_fraction_8 : decode cX8_fraction 8 = .ok (.goto 4, 3) := by decide +kernel
theorem dX8_fraction_11 : decode cX8_fraction 11 = .ok (.lload_n 1, 1) := by decide +kernel
theorem dX8_fraction_12 : decode cX8_fraction 12 = .ok (.lstore 6, 2) := by decide +kernel
theorem dX8_fraction_14 : decode cX8_fraction 14 = .ok (.lload_n 3, 1) := by decide +kernel
theorem dX8_fraction_15 : decode cX8_fraction 15 = .ok (.lstore 8, 2) := by decide +kernel
theorem dX8_fraction_17 : decode cX8_fraction 17 = .ok (.lload 8, 2) := by decide +kernel
theorem dX8_fraction_19 : decode cX8_fraction 19 = .ok (.lconst 0, 1) := by decide +kernel
theorem dX8_fraction_20 : decode cX8_fraction 20 = .ok (.lcmp, 1) := by decide +kernel
theorem dX8_fraction_21 : decode cX8_fraction 21 = .ok (.ifCond .eq 21, 3) := by decide +kernel
theorem dX8_fraction_24 : decode cX8_fraction 24 = .ok (.lload 6, 2) := by decide +kernel
theorem dX8_fraction_26 : decode cX8_fraction 26 = .ok (.lload 8, 2) := by decide +kernel
theorem dX8_fraction_28 : decode cX8_fraction 28 = .ok (.lrem, 1) := by decide +kernel
theorem dX8_fraction_29 : decode cX8_fraction 29 = .ok (.lstore 10, 2) := by decide +kernel
theorem dX8_fraction_31 : decode cX8_fraction 31 = .ok (.lload 8, 2) := by decide +kernel
theorem dX8_fraction_33 : decode cX8_fraction 33 = .ok (.lstore 6, 2) := by decide +kernel
theorem dX8_fraction_35 : decode cX8_fraction 35 = .ok (.lload 10, 2) := by decide +kernel
theorem dX8_fraction_37 : decode cX8_fraction 37 = .ok (.lstore 8, 2) := by decide +kernel
theorem dX8_fraction_39 : decode cX8_fraction 39 = .ok (.goto (-22), 3) := by decide +kernel
theorem dX8_fraction_42 : decode cX8_fraction 42 = .ok (.aload_n 0, 1) := by decide +kernel
theorem dX8_fraction_43 : decode cX8_fraction 43 = .ok (.lload_n 1, 1) := by decide +kernel
theorem dX8_fraction_44 : decode cX8_fraction 44 = .ok (.lload 6, 2) := by decide +kernel
theorem dX8_fraction_46 : decode cX8_fraction 46 = .ok (.ldiv, 1) := by decide +kernel
theorem dX8_fraction_47 : decode cX8_fraction 47 = .ok (.putfield 132, 3) := by decide +kernel
theorem dX8_fraction_50 : decode cX8_fraction 50 = .ok (.aload_n 0, 1) := by decide +kernel
theorem dX8_fraction_51 : decode cX8_fraction 51 = .ok (.lload_n 3, 1) := by decide +kernel
theorem dX8_fraction_52 : decode cX8_fraction 52 = .ok (.lload 6, 2) := by decide +kernel
theorem dX8_fraction_54 : decode cX8_fraction 54 = .ok (.ldiv, 1) := by decide +kernel
theorem dX8_fraction_55 : decode cX8_fraction 55 = .ok (.putfield 105, 3) := by decide +kernel
theorem dX8_fraction_58 : decode cX8_fraction 58 = .ok (.iload 5, 2) := by decide +kernel
theorem dX8_fraction_60 : decode cX8_fraction 60 = .ok (.ireturn, 1) := by decide +kernel
theorem dX8_upper_0 : decode cX8_upper 0 = .ok (.aload_n 0, 1) := by decide +kernel
theorem dX8_upper_1 : decode cX8_upper 1 = .ok (.getfield 132, 3) := by decide +kernel
theorem dX8_upper_4 : decode cX8_upper 4 = .ok (.lreturn, 1) := by decide +kernel
theorem dX8_lower_0 : decode cX8_lower 0 = .ok (.aload_n 0, 1) := by decide +kernel
theorem dX8_lower_1 : decode cX8_lower 1 = .ok (.getfield 105, 3) := by decide +kernel
theorem dX8_lower_4 : decode cX8_lower 4 = .ok (.lreturn, 1) := by decide +kernel
theorem dX8_later_0 : decode cX8_later 0 = .ok (.iload_n 1, 1) := by decide +kernel
theorem dX8_later_1 : decode cX8_later 1 = .ok (.ifCond .lt 15, 3) := by decide +kernel
theorem dX8_later_4 : decode cX8_later 4 = .ok (.iload_n 1, 1) := by decide +kernel
theorem dX8_later_5 : decode cX8_later 5 = .ok (.sipush 30000, 3) := by decide +kernel
theorem dX8_later_8 : decode cX8_later 8 = .ok (.aload_n 0, 1) := by decide +kernel
theorem dX8_later_9 : decode cX8_later 9 = .ok (.getfield 135, 3) := by decide +kernel
theorem dX8_later_12 : decode cX8_later 12 = .ok (.isub, 1) := by decide +kernel
theorem dX8_later_13 : decode cX8_later 13 = .ok (.if_icmp .le 5, 3) := by decide +kernel
theorem dX8_later_16 : decode cX8_later 16 = .ok (.iconst (-1), 1) := by decide +kernel
theorem dX8_later_17 : decode cX8_later 17 = .ok (.ireturn, 1) := by decide +kernel
theorem dX8_later_18 : decode cX8_later 18 = .ok (.aload_n 0, 1) := by decide +kernel
theorem dX8_later_19 : decode cX8_later 19 = .ok (.dup, 1) := by decide +kernel
theorem dX8_later_20 : decode cX8_later 20 = .ok (.getfield 135, 3) := by decide +kernel
theorem dX8_later_23 : decode cX8_later 23 = .ok (.iload_n 1, 1) := by decide +kernel
theorem dX8_later_24 : decode cX8_later 24 = .ok (.iadd, 1) := by decide +kernel
theorem dX8_later_25 : decode cX8_later 25 = .ok (.putfield 135, 3) := by decide +kernel
theorem dX8_later_28 : decode cX8_later 28 = .ok (.aload_n 0, 1) := by decide +kernel
theorem dX8_later_29 : decode cX8_later 29 = .ok (.getfield 135, 3) := by decide +kernel
theorem dX8_later_32 : decode cX8_later 32 = .ok (.ireturn, 1) := by decide +kernel
set_option maxRecDepth 20000 in
theorem ggX8_isDay_X8_in : GoodIn wsX8_isDay wsX8_in := goodIn_r _ [4] (by decide +kernel) (by decide +kernel)
set_option maxRecDepth 20000 in
theorem gX8_isDay_X8_in : GoodIn wsX8_isDay (va_wsS RX8 125 yX8_in wsX8_in) := goodIn_app (goodIn_of _ (by decide +kernel)) ggX8_isDay_X8_in
theorem dX8_isDay_0 : decode cX8_isDay 0 = .ok (.iload_n 0, 1) := by decide +kernel
theorem dX8_isDay_1 : decode cX8_isDay 1 = .ok (.iconst 0, 1) := by decide +kernel
theorem dX8_isDay_2 : decode cX8_isDay 2 = .ok (.sipush 30000, 3) := by decide +kernel
theorem dX8_isDay_5 : decode cX8_isDay 5 = .ok (.invokestatic 125, 3) := by decide +kernel
theorem dX8_isDay_8 : decode cX8_isDay 8 = .ok (.ireturn, 1) := by decide +kernel
set_option maxRecDepth 20000 in
theorem ggX8_isYear_X8_in : GoodIn wsX8_isYear wsX8_in := goodIn_r _ [4] (by decide +kernel) (by decide +kernel)
set_option maxRecDepth 20000 in
theorem gX8_isYear_X8_in : GoodIn wsX8_isYear (va_wsS RX8 125 yX8_in wsX8_in) := goodIn_app (goodIn_of _ (by decide +kernel)) ggX8_isYear_X8_in
theorem dX8_isYear_0 : decode cX8_isYear 0 = .ok (.iload_n 0, 1) := by decide +kernel
theorem dX8_isYear_1 : decode cX8_isYear 1 = .ok (.sipush 1000, 3) := by decide +kernel
theorem dX8_isYear_4 : decode cX8_isYear 4 = .ok (.sipush 2100, 3) := by decide +kernel
theorem dX8_isYear_7 : decode cX8_isYear 7 = .ok (.invokestatic 125, 3) := by decide +kernel
theorem dX8_isYear_10 : decode cX8_isYear 10 = .ok (.ireturn, 1) := by decide +kernel
set_option maxRecDepth 20000 in
theorem ggX8_isRow_X8_in : GoodIn wsX8_isRow wsX8_in := goodIn_r _ [4] (by decide +kernel) (by decide +kernel)
set_option maxRecDepth 20000 in
theorem gX8_isRow_X8_in : GoodIn wsX8_isRow (va_wsS RX8 125 yX8_in wsX8_in) := goodIn_app (goodIn_of _ (by decide +kernel)) ggX8_isRow_X8_in
theorem dX8_isRow_0 : decode cX8_isRow 0 = .ok (.iload_n 0, 1) := by decide +kernel
theorem dX8_isRow_1 : decode cX8_isRow 1 = .ok (.iconst 0, 1) := by decide +kernel
theorem dX8_isRow_2 : decode cX8_isRow 2 = .ok (.iconst 5, 1) := by decide +kernel
theorem dX8_isRow_3 : decode cX8_isRow 3 = .ok (.invokestatic 125, 3) := by decide +kernel
theorem dX8_isRow_6 : decode cX8_isRow 6 = .ok (.ireturn, 1) := by decide +kernel
set_option maxRecDepth 20000 in
theorem ggX8_row_X8_isRow : GoodIn wsX8_row wsX8_isRow := goodIn_r _ [6, 7, 8, 5, 9] (by decide +kernel) (by decide +kernel)
set_option maxRecDepth 20000 in
theorem gX8_row_X8_isRow : GoodIn wsX8_row (va_wsS RX8 138 yX8_isRow wsX8_isRow) := goodIn_app (goodIn_of _ (by decide +kernel)) ggX8_row_X8_isRow
set_option maxRecDepth 20000 in
theorem ggX8_row_X8_meets : GoodIn wsX8_row wsX8_meets := goodIn_r _ [13, 14, 15, 16, 17, 18, 19, 20, 21, 22, 23, 24, 25, 26, 27, 28, 29, 30, 31, 32, 33, 34, 35, 36, 37, 38, 39, 40, 41, 42, 43, 44, 45, 46, 47, 48, 49, 50, 51, 52, 53, 54, 55, 56, 57, 58, 59, 60, 61, 62] (by decide +kernel) (by decide +kernel)
set_option maxRecDepth 20000 in
theorem gX8_row_X8_meets : GoodIn wsX8_row (wsV RX8 142 RX8 yX8_meets wsX8_meets) := goodIn_app (goodIn_of _ (by decide +kernel)) ggX8_row_X8_meets
theorem dX8_row_0 : decode cX8_row 0 = .ok (.iload_n 1, 1) := by decide +kernel
theorem dX8_row_1 : decode cX8_row 1 = .ok (.invokestatic 138, 3) := by decide +kernel
theorem dX8_row_4 : decode cX8_row 4 = .ok (.ifCond .eq 9, 3) := by decide +kernel
theorem dX8_row_7 : decode cX8_row 7 = .ok (.iload_n 2, 1) := by decide +kernel
theorem dX8_row_8 : decode cX8_row 8 = .ok (.bipush 40, 2) := by decide +kernel
theorem dX8_row_10 : decode cX8_row 10 = .ok (.if_icmp .le 5, 3) := by decide +kernel
theorem dX8_row_13 : decode cX8_row 13 = .ok (.iconst (-1), 1) := by decide +kernel
theorem dX8_row_14 : decode cX8_row 14 = .ok (.ireturn, 1) := by decide +kernel
theorem dX8_row_15 : decode cX8_row 15 = .ok (.iload_n 2, 1) := by decide +kernel
theorem dX8_row_16 : decode cX8_row 16 = .ok (.ifCond .ge 9, 3) := by decide +kernel
theorem dX8_row_19 : decode cX8_row 19 = .ok (.aload_n 0, 1) := by decide +kernel
theorem dX8_row_20 : decode cX8_row 20 = .ok (.iconst 5, 1) := by decide +kernel
theorem dX8_row_21 : decode cX8_row 21 = .ok (.invokevirtual 142, 3) := by decide +kernel
theorem dX8_row_24 : decode cX8_row 24 = .ok (.ireturn, 1) := by decide +kernel
theorem dX8_row_25 : decode cX8_row 25 = .ok (.aload_n 0, 1) := by decide +kernel
theorem dX8_row_26 : decode cX8_row 26 = .ok (.getfield 13, 3) := by decide +kernel
theorem dX8_row_29 : decode cX8_row 29 = .ok (.iload_n 1, 1) := by decide +kernel
theorem dX8_row_30 : decode cX8_row 30 = .ok (.iload_n 2, 1) := by decide +kernel
theorem dX8_row_31 : decode cX8_row 31 = .ok (.iastore, 1) := by decide +kernel
theorem dX8_row_32 : decode cX8_row 32 = .ok (.iconst 0, 1) := by decide +kernel
theorem dX8_row_33 : decode cX8_row 33 = .ok (.istore_n 3, 1) := by decide +kernel
theorem dX8_row_34 : decode cX8_row 34 = .ok (.iload_n 3, 1) := by decide +kernel
theorem dX8_row_35 : decode cX8_row 35 = .ok (.bipush 40, 2) := by decide +kernel
theorem dX8_row_37 : decode cX8_row 37 = .ok (.if_icmp .ge 21, 3) := by decide +kernel
theorem dX8_row_40 : decode cX8_row 40 = .ok (.aload_n 0, 1) := by decide +kernel
theorem dX8_row_41 : decode cX8_row 41 = .ok (.getfield 16, 3) := by decide +kernel
theorem dX8_row_44 : decode cX8_row 44 = .ok (.bipush 40, 2) := by decide +kernel
theorem dX8_row_46 : decode cX8_row 46 = .ok (.iload_n 1, 1) := by decide +kernel
theorem dX8_row_47 : decode cX8_row 47 = .ok (.imul, 1) := by decide +kernel
theorem dX8_row_48 : decode cX8_row 48 = .ok (.iload_n 3, 1) := by decide +kernel
theorem dX8_row_49 : decode cX8_row 49 = .ok (.iadd, 1) := by decide +kernel
theorem dX8_row_50 : decode cX8_row 50 = .ok (.iconst 0, 1) := by decide +kernel
theorem dX8_row_51 : decode cX8_row 51 = .ok (.bastore, 1) := by decide +kernel
theorem dX8_row_52 : decode cX8_row 52 = .ok (.iinc 3 1, 3) := by decide +kernel
theorem dX8_row_55 : decode cX8_row 55 = .ok (.goto (-21), 3) := by decide +kernel
theorem dX8_row_58 : decode cX8_row 58 = .ok (.iload_n 2, 1) := by decide +kernel
theorem dX8_row_59 : decode cX8_row 59 = .ok (.ireturn, 1) := by decide +kernel
set_option maxRecDepth 20000 in
theorem ggX8_lay_X8_isRow : GoodIn wsX8_lay wsX8_isRow := goodIn_r _ [6, 7, 8, 5, 9] (by decide +kernel) (by decide +kernel)
set_option maxRecDepth 20000 in
theorem gX8_lay_X8_isRow : GoodIn wsX8_lay (va_wsS RX8 138 yX8_isRow wsX8_isRow) := goodIn_app (goodIn_of _ (by decide +kernel)) ggX8_lay_X8_isRow
set_option maxRecDepth 20000 in
theorem ggX8_lay_X8_meets : GoodIn wsX8_lay wsX8_meets := goodIn_r _ [13, 14, 15, 16, 17, 18, 19, 20, 21, 22, 23, 24, 25, 26, 27, 28, 29, 30, 31, 32, 33, 34, 35, 36, 37, 38, 39, 40, 41, 42, 43, 44, 45, 46, 47, 48, 49, 50, 51, 52, 53, 54, 55, 56, 57, 58, 59, 60, 61, 62] (by decide +kernel) (by decide +kernel)
set_option maxRecDepth 20000 in
theorem gX8_lay_X8_meets : GoodIn wsX8_lay (wsV RX8 142 RX8 yX8_meets wsX8_meets) := goodIn_app (goodIn_of _ (by decide +kernel)) ggX8_lay_X8_meets
set_option maxRecDepth 20000 in
theorem ggX8_lay_X8_in : GoodIn wsX8_lay wsX8_in := goodIn_r _ [9] (by decide +kernel) (by decide +kernel)
set_option maxRecDepth 20000 in
theorem gX8_lay_X8_in : GoodIn wsX8_lay (va_wsS RX8 125 yX8_in wsX8_in) := goodIn_app (goodIn_of _ (by decide +kernel)) ggX8_lay_X8_in
theorem dX8_lay_0 : decode cX8_lay 0 = .ok (.iload_n 1, 1) := by decide +kernel
theorem dX8_lay_1 : decode cX8_lay 1 = .ok (.invokestatic 138, 3) := by decide +kernel
theorem dX8_lay_4 : decode cX8_lay 4 = .ok (.ifCond .ne 5, 3) := by decide +kernel
theorem dX8_lay_7 : decode cX8_lay 7 = .ok (.iconst (-1), 1) := by decide +kernel
theorem dX8_lay_8 : decode cX8_lay 8 = .ok (.ireturn, 1) := by decide +kernel
theorem dX8_lay_9 : decode cX8_lay 9 = .ok (.aload_n 0, 1) := by decide +kernel
theorem dX8_lay_10 : decode cX8_lay 10 = .ok (.getfield 13, 3) := by decide +kernel
theorem dX8_lay_13 : decode cX8_lay 13 = .ok (.iload_n 1, 1) := by decide +kernel
theorem dX8_lay_14 : decode cX8_lay 14 = .ok (.iaload, 1) := by decide +kernel
theorem dX8_lay_15 : decode cX8_lay 15 = .ok (.ifCond .ge 9, 3) := by decide +kernel
theorem dX8_lay_18 : decode cX8_lay 18 = .ok (.aload_n 0, 1) := by decide +kernel
theorem dX8_lay_19 : decode cX8_lay 19 = .ok (.iconst 1, 1) := by decide +kernel
theorem dX8_lay_20 : decode cX8_lay 20 = .ok (.invokevirtual 142, 3) := by decide +kernel
theorem dX8_lay_23 : decode cX8_lay 23 = .ok (.ireturn, 1) := by decide +kernel
theorem dX8_lay_24 : decode cX8_lay 24 = .ok (.iload_n 2, 1) := by decide +kernel
theorem dX8_lay_25 : decode cX8_lay 25 = .ok (.iconst 0, 1) := by decide +kernel
theorem dX8_lay_26 : decode cX8_lay 26 = .ok (.aload_n 0, 1) := by decide +kernel
theorem dX8_lay_27 : decode cX8_lay 27 = .ok (.getfield 13, 3) := by decide +kernel
theorem dX8_lay_30 : decode cX8_lay 30 = .ok (.iload_n 1, 1) := by decide +kernel
theorem dX8_lay_31 : decode cX8_lay 31 = .ok (.iaload, 1) := by decide +kernel
theorem dX8_lay_32 : decode cX8_lay 32 = .ok (.iconst 1, 1) := by decide +kernel
theorem dX8_lay_33 : decode cX8_lay 33 = .ok (.isub, 1) := by decide +kernel
theorem dX8_lay_34 : decode cX8_lay 34 = .ok (.invokestatic 125, 3) := by decide +kernel
theorem dX8_lay_37 : decode cX8_lay 37 = .ok (.ifCond .ne 9, 3) := by decide +kernel
theorem dX8_lay_40 : decode cX8_lay 40 = .ok (.aload_n 0, 1) := by decide +kernel
theorem dX8_lay_41 : decode cX8_lay 41 = .ok (.iconst 2, 1) := by decide +kernel
theorem dX8_lay_42 : decode cX8_lay 42 = .ok (.invokevirtual 142, 3) := by decide +kernel
theorem dX8_lay_45 : decode cX8_lay 45 = .ok (.ireturn, 1) := by decide +kernel
theorem dX8_lay_46 : decode cX8_lay 46 = .ok (.aload_n 0, 1) := by decide +kernel
theorem dX8_lay_47 : decode cX8_lay 47 = .ok (.getfield 16, 3) := by decide +kernel
theorem dX8_lay_50 : decode cX8_lay 50 = .ok (.bipush 40, 2) := by decide +kernel
theorem dX8_lay_52 : decode cX8_lay 52 = .ok (.iload_n 1, 1) := by decide +kernel
theorem dX8_lay_53 : decode cX8_lay 53 = .ok (.imul, 1) := by decide +kernel
theorem dX8_lay_54 : decode cX8_lay 54 = .ok (.iload_n 2, 1) := by decide +kernel
theorem dX8_lay_55 : decode cX8_lay 55 = .ok (.iadd, 1) := by decide +kernel
theorem dX8_lay_56 : decode cX8_lay 56 = .ok (.baload, 1) := by decide +kernel
theorem dX8_lay_57 : decode cX8_lay 57 = .ok (.istore 4, 2) := by decide +kernel
theorem dX8_lay_59 : decode cX8_lay 59 = .ok (.aload_n 0, 1) := by decide +kernel
theorem dX8_lay_60 : decode cX8_lay 60 = .ok (.getfield 16, 3) := by decide +kernel
theorem dX8_lay_63 : decode cX8_lay 63 = .ok (.bipush 40, 2) := by decide +kernel
theorem dX8_lay_65 : decode cX8_lay 65 = .ok (.iload_n 1, 1) := by decide +kernel
theorem dX8_lay_66 : decode cX8_lay 66 = .ok (.imul, 1) := by decide +kernel
theorem dX8_lay_67 : decode cX8_lay 67 = .ok (.iload_n 2, 1) := by decide +kernel
theorem dX8_lay_68 : decode cX8_lay 68 = .ok (.iadd, 1) := by decide +kernel
theorem dX8_lay_69 : decode cX8_lay 69 = .ok (.iload_n 3, 1) := by decide +kernel
theorem dX8_lay_70 : decode cX8_lay 70 = .ok (.i2b, 1) := by decide +kernel
theorem dX8_lay_71 : decode cX8_lay 71 = .ok (.bastore, 1) := by decide +kernel
theorem dX8_lay_72 : decode cX8_lay 72 = .ok (.sipush 1000, 3) := by decide +kernel
theorem dX8_lay_75 : decode cX8_lay 75 = .ok (.iload 4, 2) := by decide +kernel
theorem dX8_lay_77 : decode cX8_lay 77 = .ok (.iadd, 1) := by decide +kernel
theorem dX8_lay_78 : decode cX8_lay 78 = .ok (.ireturn, 1) := by decide +kernel
set_option maxRecDepth 20000 in
theorem ggX8_tear_X8_isRow : GoodIn wsX8_tear wsX8_isRow := goodIn_r _ [5, 6, 7, 4, 8] (by decide +kernel) (by decide +kernel)
set_option maxRecDepth 20000 in
theorem gX8_tear_X8_isRow : GoodIn wsX8_tear (va_wsS RX8 138 yX8_isRow wsX8_isRow) := goodIn_app (goodIn_of _ (by decide +kernel)) ggX8_tear_X8_isRow
set_option maxRecDepth 20000 in
theorem ggX8_tear_X8_meets : GoodIn wsX8_tear wsX8_meets := goodIn_r _ [12, 13, 14, 15, 16, 17, 18, 19, 20, 21, 22, 23, 24, 25, 26, 27, 28, 29, 30, 31, 32, 33, 34, 35, 36, 37, 38, 39, 40, 41, 42, 43, 44, 45, 46, 47, 48, 49, 50, 51, 52, 53, 54, 55, 56, 57, 58, 59, 60, 61] (by decide +kernel) (by decide +kernel)
set_option maxRecDepth 20000 in
theorem gX8_tear_X8_meets : GoodIn wsX8_tear (wsV RX8 142 RX8 yX8_meets wsX8_meets) := goodIn_app (goodIn_of _ (by decide +kernel)) ggX8_tear_X8_meets
theorem dX8_tear_0 : decode cX8_tear 0 = .ok (.iload_n 1, 1) := by decide +kernel
theorem dX8_tear_1 : decode cX8_tear 1 = .ok (.invokestatic 138, 3) := by decide +kernel
theorem dX8_tear_4 : decode cX8_tear 4 = .ok (.ifCond .ne 5, 3) := by decide +kernel
theorem dX8_tear_7 : decode cX8_tear 7 = .ok (.iconst (-1), 1) := by decide +kernel
theorem dX8_tear_8 : decode cX8_tear 8 = .ok (.ireturn, 1) := by decide +kernel
theorem dX8_tear_9 : decode cX8_tear 9 = .ok (.aload_n 0, 1) := by decide +kernel
theorem dX8_tear_10 : decode cX8_tear 10 = .ok (.getfield 13, 3) := by decide +kernel
theorem dX8_tear_13 : decode cX8_tear 13 = .ok (.iload_n 1, 1) := by decide +kernel
theorem dX8_tear_14 : decode cX8_tear 14 = .ok (.iaload, 1) := by decide +kernel
theorem dX8_tear_15 : decode cX8_tear 15 = .ok (.ifCond .ge 9, 3) := by decide +kernel
theorem dX8_tear_18 : decode cX8_tear 18 = .ok (.aload_n 0, 1) := by decide +kernel
theorem dX8_tear_19 : decode cX8_tear 19 = .ok (.iconst 1, 1) := by decide +kernel
theorem dX8_tear_20 : decode cX8_tear 20 = .ok (.invokevirtual 142, 3) := by decide +kernel
theorem dX8_tear_23 : decode cX8_tear 23 = .ok (.ireturn, 1) := by decide +kernel
theorem dX8_tear_24 : decode cX8_tear 24 = .ok (.aload_n 0, 1) := by decide +kernel
theorem dX8_tear_25 : decode cX8_tear 25 = .ok (.getfield 13, 3) := by decide +kernel
theorem dX8_tear_28 : decode cX8_tear 28 = .ok (.iload_n 1, 1) := by decide +kernel
theorem dX8_tear_29 : decode cX8_tear 29 = .ok (.iconst (-1), 1) := by decide +kernel
theorem dX8_tear_30 : decode cX8_tear 30 = .ok (.iastore, 1) := by decide +kernel
theorem dX8_tear_31 : decode cX8_tear 31 = .ok (.iconst 1, 1) := by decide +kernel
theorem dX8_tear_32 : decode cX8_tear 32 = .ok (.ireturn, 1) := by decide +kernel
set_option maxRecDepth 20000 in
theorem ggX8_copy_X8_isRow : GoodIn wsX8_copy wsX8_isRow := goodIn_r _ [7, 8, 9, 6, 10] (by decide +kernel) (by decide +kernel)
set_option maxRecDepth 20000 in
theorem gX8_copy_X8_isRow : GoodIn wsX8_copy (va_wsS RX8 138 yX8_isRow wsX8_isRow) := goodIn_app (goodIn_of _ (by decide +kernel)) ggX8_copy_X8_isRow
set_option maxRecDepth 20000 in
theorem ggX8_copy_X8_meets : GoodIn wsX8_copy wsX8_meets := goodIn_r _ [14, 15, 16, 17, 18, 19, 20, 21, 22, 23, 24, 25, 26, 27, 28, 29, 30, 31, 32, 33, 34, 35, 36, 37, 38, 39, 40, 41, 42, 43, 44, 45, 46, 47, 48, 49, 50, 51, 52, 53, 54, 55, 56, 57, 58, 59, 60, 61, 62, 63] (by decide +kernel) (by decide +kernel)
set_option maxRecDepth 20000 in
theorem gX8_copy_X8_meets : GoodIn wsX8_copy (wsV RX8 142 RX8 yX8_meets wsX8_meets) := goodIn_app (goodIn_of _ (by decide +kernel)) ggX8_copy_X8_meets
theorem dX8_copy_0 : decode cX8_copy 0 = .ok (.iload_n 1, 1) := by decide +kernel
theorem dX8_copy_1 : decode cX8_copy 1 = .ok (.invokestatic 138, 3) := by decide +kernel
theorem dX8_copy_4 : decode cX8_copy 4 = .ok (.ifCond .eq 10, 3) := by decide +kernel
theorem dX8_copy_7 : decode cX8_copy 7 = .ok (.iload_n 3, 1) := by decide +kernel
theorem dX8_copy_8 : decode cX8_copy 8 = .ok (.invokestatic 138, 3) := by decide +kernel
theorem dX8_copy_11 : decode cX8_copy 11 = .ok (.ifCond .ne 5, 3) := by decide +kernel
theorem dX8_copy_14 : decode cX8_copy 14 = .ok (.iconst (-1), 1) := by decide +kernel
theorem dX8_copy_15 : decode cX8_copy 15 = .ok (.ireturn, 1) := by decide +kernel
theorem dX8_copy_16 : decode cX8_copy 16 = .ok (.aload_n 0, 1) := by decide +kernel
theorem dX8_copy_17 : decode cX8_copy 17 = .ok (.getfield 13, 3) := by decide +kernel
theorem dX8_copy_20 : decode cX8_copy 20 = .ok (.iload_n 1, 1) := by decide +kernel
theorem dX8_copy_21 : decode cX8_copy 21 = .ok (.iaload, 1) := by decide +kernel
theorem dX8_copy_22 : decode cX8_copy 22 = .ok (.ifCond .lt 12, 3) := by decide +kernel
theorem dX8_copy_25 : decode cX8_copy 25 = .ok (.aload_n 0, 1) := by decide +kernel
theorem dX8_copy_26 : decode cX8_copy 26 = .ok (.getfield 13, 3) := by decide +kernel
theorem dX8_copy_29 : decode cX8_copy 29 = .ok (.iload_n 3, 1) := by decide +kernel
theorem dX8_copy_30 : decode cX8_copy 30 = .ok (.iaload, 1) := by decide +kernel
theorem dX8_copy_31 : decode cX8_copy 31 = .ok (.ifCond .ge 9, 3) := by decide +kernel
theorem dX8_copy_34 : decode cX8_copy 34 = .ok (.aload_n 0, 1) := by decide +kernel
theorem dX8_copy_35 : decode cX8_copy 35 = .ok (.iconst 1, 1) := by decide +kernel
theorem dX8_copy_36 : decode cX8_copy 36 = .ok (.invokevirtual 142, 3) := by decide +kernel
theorem dX8_copy_39 : decode cX8_copy 39 = .ok (.ireturn, 1) := by decide +kernel
theorem dX8_copy_40 : decode cX8_copy 40 = .ok (.iload_n 2, 1) := by decide +kernel
theorem dX8_copy_41 : decode cX8_copy 41 = .ok (.ifCond .lt 48, 3) := by decide +kernel
theorem dX8_copy_44 : decode cX8_copy 44 = .ok (.iload 4, 2) := by decide +kernel
theorem dX8_copy_46 : decode cX8_copy 46 = .ok (.ifCond .lt 43, 3) := by decide +kernel
theorem dX8_copy_49 : decode cX8_copy 49 = .ok (.iload 5, 2) := by decide +kernel
theorem dX8_copy_51 : decode cX8_copy 51 = .ok (.ifCond .lt 38, 3) := by decide +kernel
theorem dX8_copy_54 : decode cX8_copy 54 = .ok (.iload_n 2, 1) := by decide +kernel
theorem dX8_copy_55 : decode cX8_copy 55 = .ok (.i2l, 1) := by decide +kernel
theorem dX8_copy_56 : decode cX8_copy 56 = .ok (.iload 5, 2) := by decide +kernel
theorem dX8_copy_58 : decode cX8_copy 58 = .ok (.i2l, 1) := by decide +kernel
theorem dX8_copy_59 : decode cX8_copy 59 = .ok (.ladd, 1) := by decide +kernel
theorem dX8_copy_60 : decode cX8_copy 60 = .ok (.aload_n 0, 1) := by decide +kernel
theorem dX8_copy_61 : decode cX8_copy 61 = .ok (.getfield 13, 3) := by decide +kernel
theorem dX8_copy_64 : decode cX8_copy 64 = .ok (.iload_n 1, 1) := by decide +kernel
theorem dX8_copy_65 : decode cX8_copy 65 = .ok (.iaload, 1) := by decide +kernel
theorem dX8_copy_66 : decode cX8_copy 66 = .ok (.i2l, 1) := by decide +kernel
theorem dX8_copy_67 : decode cX8_copy 67 = .ok (.lcmp, 1) := by decide +kernel
theorem dX8_copy_68 : decode cX8_copy 68 = .ok (.ifCond .gt 21, 3) := by decide +kernel
theorem dX8_copy_71 : decode cX8_copy 71 = .ok (.iload 4, 2) := by decide +kernel
theorem dX8_copy_73 : decode cX8_copy 73 = .ok (.i2l, 1) := by decide +kernel
theorem dX8_copy_74 : decode cX8_copy 74 = .ok (.iload 5, 2) := by decide +kernel
theorem dX8_copy_76 : decode cX8_copy 76 = .ok (.i2l, 1) := by decide +kernel
theorem dX8_copy_77 : decode cX8_copy 77 = .ok (.ladd, 1) := by decide +kernel
theorem dX8_copy_78 : decode cX8_copy 78 = .ok (.aload_n 0, 1) := by decide +kernel
theorem dX8_copy_79 : decode cX8_copy 79 = .ok (.getfield 13, 3) := by decide +kernel
theorem dX8_copy_82 : decode cX8_copy 82 = .ok (.iload_n 3, 1) := by decide +kernel
theorem dX8_copy_83 : decode cX8_copy 83 = .ok (.iaload, 1) := by decide +kernel
theorem dX8_copy_84 : decode cX8_copy 84 = .ok (.i2l, 1) := by decide +kernel
theorem dX8_copy_85 : decode cX8_copy 85 = .ok (.lcmp, 1) := by decide +kernel
theorem dX8_copy_86 : decode cX8_copy 86 = .ok (.ifCond .le 9, 3) := by decide +kernel
theorem dX8_copy_89 : decode cX8_copy 89 = .ok (.aload_n 0, 1) := by decide +kernel
theorem dX8_copy_90 : decode cX8_copy 90 = .ok (.iconst 2, 1) := by decide +kernel
theorem dX8_copy_91 : decode cX8_copy 91 = .ok (.invokevirtual 142, 3) := by decide +kernel
theorem dX8_copy_94 : decode cX8_copy 94 = .ok (.ireturn, 1) := by decide +kernel
theorem dX8_copy_95 : decode cX8_copy 95 = .ok (.iconst 0, 1) := by decide +kernel
theorem dX8_copy_96 : decode cX8_copy 96 = .ok (.istore 6, 2) := by decide +kernel
theorem dX8_copy_98 : decode cX8_copy 98 = .ok (.iload 6, 2) := by decide +kernel
theorem dX8_copy_100 : decode cX8_copy 100 = .ok (.iload 5, 2) := by decide +kernel
theorem dX8_copy_102 : decode cX8_copy 102 = .ok (.if_icmp .ge 30, 3) := by decide +kernel
theorem dX8_copy_105 : decode cX8_copy 105 = .ok (.aload_n 0, 1) := by decide +kernel
theorem dX8_copy_106 : decode cX8_copy 106 = .ok (.getfield 20, 3) := by decide +kernel
theorem dX8_copy_109 : decode cX8_copy 109 = .ok (.iload 6, 2) := by decide +kernel
theorem dX8_copy_111 : decode cX8_copy 111 = .ok (.aload_n 0, 1) := by decide +kernel
theorem dX8_copy_112 : decode cX8_copy 112 = .ok (.getfield 16, 3) := by decide +kernel
theorem dX8_copy_115 : decode cX8_copy 115 = .ok (.bipush 40, 2) := by decide +kernel
theorem dX8_copy_117 : decode cX8_copy 117 = .ok (.iload_n 1, 1) := by decide +kernel
theorem dX8_copy_118 : decode cX8_copy 118 = .ok (.imul, 1) := by decide +kernel
theorem dX8_copy_119 : decode cX8_copy 119 = .ok (.iload_n 2, 1) := by decide +kernel
theorem dX8_copy_120 : decode cX8_copy 120 = .ok (.iadd, 1) := by decide +kernel
theorem dX8_copy_121 : decode cX8_copy 121 = .ok (.iload 6, 2) := by decide +kernel
theorem dX8_copy_123 : decode cX8_copy 123 = .ok (.iadd, 1) := by decide +kernel
theorem dX8_copy_124 : decode cX8_copy 124 = .ok (.baload, 1) := by decide +kernel
theorem dX8_copy_125 : decode cX8_copy 125 = .ok (.bastore, 1) := by decide +kernel
theorem dX8_copy_126 : decode cX8_copy 126 = .ok (.iinc 6 1, 3) := by decide +kernel
theorem dX8_copy_129 : decode cX8_copy 129 = .ok (.goto (-31), 3) := by decide +kernel
theorem dX8_copy_132 : decode cX8_copy 132 = .ok (.iconst 0, 1) := by decide +kernel
theorem dX8_copy_133 : decode cX8_copy 133 = .ok (.istore 6, 2) := by decide +kernel
theorem dX8_copy_135 : decode cX8_copy 135 = .ok (.iload 6, 2) := by decide +kernel
theorem dX8_copy_137 : decode cX8_copy 137 = .ok (.iload 5, 2) := by decide +kernel
theorem dX8_copy_139 : decode cX8_copy 139 = .ok (.if_icmp .ge 31, 3) := by decide +kernel
theorem dX8_copy_142 : decode cX8_copy 142 = .ok (.aload_n 0, 1) := by decide +kernel
theorem dX8_copy_143 : decode cX8_copy 143 = .ok (.getfield 16, 3) := by decide +kernel
theorem dX8_copy_146 : decode cX8_copy 146 = .ok (.bipush 40, 2) := by decide +kernel
theorem dX8_copy_148 : decode cX8_copy 148 = .ok (.iload_n 3, 1) := by decide +kernel
theorem dX8_copy_149 : decode cX8_copy 149 = .ok (.imul, 1) := by decide +kernel
theorem dX8_copy_150 : decode cX8_copy 150 = .ok (.iload 4, 2) := by decide +kernel
theorem dX8_copy_152 : decode cX8_copy 152 = .ok (.iadd, 1) := by decide +kernel
theorem dX8_copy_153 : decode cX8_copy 153 = .ok (.iload 6, 2) := by decide +kernel
theorem dX8_copy_155 : decode cX8_copy 155 = .ok (.iadd, 1) := by decide +kernel
theorem dX8_copy_156 : decode cX8_copy 156 = .ok (.aload_n 0, 1) := by decide +kernel
theorem dX8_copy_157 : decode cX8_copy 157 = .ok (.getfield 20, 3) := by decide +kernel
theorem dX8_copy_160 : decode cX8_copy 160 = .ok (.iload 6, 2) := by decide +kernel
theorem dX8_copy_162 : decode cX8_copy 162 = .ok (.baload, 1) := by decide +kernel
theorem dX8_copy_163 : decode cX8_copy 163 = .ok (.bastore, 1) := by decide +kernel
theorem dX8_copy_164 : decode cX8_copy 164 = .ok (.iinc 6 1, 3) := by decide +kernel
theorem dX8_copy_167 : decode cX8_copy 167 = .ok (.goto (-32), 3) := by decide +kernel
theorem dX8_copy_170 : decode cX8_copy 170 = .ok (.iconst 1, 1) := by decide +kernel
theorem dX8_copy_171 : decode cX8_copy 171 = .ok (.ireturn, 1) := by decide +kernel
theorem dX8_offAt_0 : decode cX8_offAt 0 = .ok (.iconst 0, 1) := by decide +kernel
theorem dX8_offAt_1 : decode cX8_offAt 1 = .ok (.istore 4, 2) := by decide +kernel
theorem dX8_offAt_3 : decode cX8_offAt 3 = .ok (.iconst 0, 1) := by decide +kernel
theorem dX8_offAt_4 : decode cX8_offAt 4 = .ok (.istore 5, 2) := by decide +kernel
theorem dX8_offAt_6 : decode cX8_offAt 6 = .ok (.iload 5, 2) := by decide +kernel
theorem dX8_offAt_8 : decode cX8_offAt 8 = .ok (.aload_n 0, 1) := by decide +kernel
theorem dX8_offAt_9 : decode cX8_offAt 9 = .ok (.getfield 13, 3) := by decide +kernel
theorem dX8_offAt_12 : decode cX8_offAt 12 = .ok (.iload_n 1, 1) := by decide +kernel
theorem dX8_offAt_13 : decode cX8_offAt 13 = .ok (.iaload, 1) := by decide +kernel
theorem dX8_offAt_14 : decode cX8_offAt 14 = .ok (.if_icmp .ge 56, 3) := by decide +kernel
theorem dX8_offAt_17 : decode cX8_offAt 17 = .ok (.aload_n 0, 1) := by decide +kernel
theorem dX8_offAt_18 : decode cX8_offAt 18 = .ok (.getfield 16, 3) := by decide +kernel
theorem dX8_offAt_21 : decode cX8_offAt 21 = .ok (.bipush 40, 2) := by decide +kernel
theorem dX8_offAt_23 : decode cX8_offAt 23 = .ok (.iload_n 1, 1) := by decide +kernel
theorem dX8_offAt_24 : decode cX8_offAt 24 = .ok (.imul, 1) := by decide +kernel
theorem dX8_offAt_25 : decode cX8_offAt 25 = .ok (.iload 5, 2) := by decide +kernel
theorem dX8_offAt_27 : decode cX8_offAt 27 = .ok (.iadd, 1) := by decide +kernel
theorem dX8_offAt_28 : decode cX8_offAt 28 = .ok (.baload, 1) := by decide +kernel
theorem dX8_offAt_29 : decode cX8_offAt 29 = .ok (.aload_n 0, 1) := by decide +kernel
theorem dX8_offAt_30 : decode cX8_offAt 30 = .ok (.getfield 16, 3) := by decide +kernel
theorem dX8_offAt_33 : decode cX8_offAt 33 = .ok (.bipush 40, 2) := by decide +kernel
theorem dX8_offAt_35 : decode cX8_offAt 35 = .ok (.iload_n 2, 1) := by decide +kernel
theorem dX8_offAt_36 : decode cX8_offAt 36 = .ok (.imul, 1) := by decide +kernel
theorem dX8_offAt_37 : decode cX8_offAt 37 = .ok (.iload_n 3, 1) := by decide +kernel
theorem dX8_offAt_38 : decode cX8_offAt 38 = .ok (.iadd, 1) := by decide +kernel
theorem dX8_offAt_39 : decode cX8_offAt 39 = .ok (.iload 5, 2) := by decide +kernel
theorem dX8_offAt_41 : decode cX8_offAt 41 = .ok (.iadd, 1) := by decide +kernel
theorem dX8_offAt_42 : decode cX8_offAt 42 = .ok (.baload, 1) := by decide +kernel
theorem dX8_offAt_43 : decode cX8_offAt 43 = .ok (.isub, 1) := by decide +kernel
theorem dX8_offAt_44 : decode cX8_offAt 44 = .ok (.istore 6, 2) := by decide +kernel
theorem dX8_offAt_46 : decode cX8_offAt 46 = .ok (.iload 4, 2) := by decide +kernel
theorem dX8_offAt_48 : decode cX8_offAt 48 = .ok (.iload 6, 2) := by decide +kernel
theorem dX8_offAt_50 : decode cX8_offAt 50 = .ok (.ifCond .ge 9, 3) := by decide +kernel
theorem dX8_offAt_53 : decode cX8_offAt 53 = .ok (.iload 6, 2) := by decide +kernel
theorem dX8_offAt_55 : decode cX8_offAt 55 = .ok (.ineg, 1) := by decide +kernel
theorem dX8_offAt_56 : decode cX8_offAt 56 = .ok (.goto 5, 3) := by decide +kernel
theorem dX8_offAt_59 : decode cX8_offAt 59 = .ok (.iload 6, 2) := by decide +kernel
theorem dX8_offAt_61 : decode cX8_offAt 61 = .ok (.iadd, 1) := by decide +kernel
theorem dX8_offAt_62 : decode cX8_offAt 62 = .ok (.istore 4, 2) := by decide +kernel
theorem dX8_offAt_64 : decode cX8_offAt 64 = .ok (.iinc 5 1, 3) := by decide +kernel
theorem dX8_offAt_67 : decode cX8_offAt 67 = .ok (.goto (-61), 3) := by decide +kernel
theorem dX8_offAt_70 : decode cX8_offAt 70 = .ok (.iload 4, 2) := by decide +kernel
theorem dX8_offAt_72 : decode cX8_offAt 72 = .ok (.ireturn, 1) := by decide +kernel
set_option maxRecDepth 20000 in
theorem ggX8_placeOf_X8_offAt : GoodIn wsX8_placeOf wsX8_offAt := goodIn_r _ [6, 1, 7, 8, 9, 10, 11, 12, 13, 14, 15, 16, 17, 18, 19, 20, 21, 22, 23, 24, 25, 26, 27, 28, 29, 30, 31, 32, 33, 34, 35, 36, 37, 38, 39, 40, 41, 42, 43, 44, 45, 46, 47, 48, 49, 50, 51, 52, 53, 54] (by decide +kernel) (by decide +kernel)
set_option maxRecDepth 20000 in
theorem gX8_placeOf_X8_offAt : GoodIn wsX8_placeOf (wsV RX8 146 RX8 yX8_offAt wsX8_offAt) := goodIn_app (goodIn_of _ (by decide +kernel)) ggX8_placeOf_X8_offAt
theorem dX8_placeOf_0 : decode cX8_placeOf 0 = .ok (.iconst 0, 1) := by decide +kernel
theorem dX8_placeOf_1 : decode cX8_placeOf 1 = .ok (.istore_n 3, 1) := by decide +kernel
theorem dX8_placeOf_2 : decode cX8_placeOf 2 = .ok (.iconst 1, 1) := by decide +kernel
theorem dX8_placeOf_3 : decode cX8_placeOf 3 = .ok (.istore 4, 2) := by decide +kernel
theorem dX8_placeOf_5 : decode cX8_placeOf 5 = .ok (.iload 4, 2) := by decide +kernel
theorem dX8_placeOf_7 : decode cX8_placeOf 7 = .ok (.aload_n 0, 1) := by decide +kernel
theorem dX8_placeOf_8 : decode cX8_placeOf 8 = .ok (.getfield 13, 3) := by decide +kernel
theorem dX8_placeOf_11 : decode cX8_placeOf 11 = .ok (.iload_n 1, 1) := by decide +kernel
theorem dX8_placeOf_12 : decode cX8_placeOf 12 = .ok (.iaload, 1) := by decide +kernel
theorem dX8_placeOf_13 : decode cX8_placeOf 13 = .ok (.iadd, 1) := by decide +kernel
theorem dX8_placeOf_14 : decode cX8_placeOf 14 = .ok (.aload_n 0, 1) := by decide +kernel
theorem dX8_placeOf_15 : decode cX8_placeOf 15 = .ok (.getfield 13, 3) := by decide +kernel
theorem dX8_placeOf_18 : decode cX8_placeOf 18 = .ok (.iload_n 2, 1) := by decide +kernel
theorem dX8_placeOf_19 : decode cX8_placeOf 19 = .ok (.iaload, 1) := by decide +kernel
theorem dX8_placeOf_20 : decode cX8_placeOf 20 = .ok (.if_icmp .gt 34, 3) := by decide +kernel
theorem dX8_placeOf_23 : decode cX8_placeOf 23 = .ok (.aload_n 0, 1) := by decide +kernel
theorem dX8_placeOf_24 : decode cX8_placeOf 24 = .ok (.iload_n 1, 1) := by decide +kernel
theorem dX8_placeOf_25 : decode cX8_placeOf 25 = .ok (.iload_n 2, 1) := by decide +kernel
theorem dX8_placeOf_26 : decode cX8_placeOf 26 = .ok (.iload 4, 2) := by decide +kernel
theorem dX8_placeOf_28 : decode cX8_placeOf 28 = .ok (.invokevirtual 146, 3) := by decide +kernel
theorem dX8_placeOf_31 : decode cX8_placeOf 31 = .ok (.aload_n 0, 1) := by decide +kernel
theorem dX8_placeOf_32 : decode cX8_placeOf 32 = .ok (.iload_n 1, 1) := by decide +kernel
theorem dX8_placeOf_33 : decode cX8_placeOf 33 = .ok (.iload_n 2, 1) := by decide +kernel
theorem dX8_placeOf_34 : decode cX8_placeOf 34 = .ok (.iload_n 3, 1) := by decide +kernel
theorem dX8_placeOf_35 : decode cX8_placeOf 35 = .ok (.invokevirtual 146, 3) := by decide +kernel
theorem dX8_placeOf_38 : decode cX8_placeOf 38 = .ok (.if_icmp .ge 8, 3) := by decide +kernel
theorem dX8_placeOf_41 : decode cX8_placeOf 41 = .ok (.iload 4, 2) := by decide +kernel
theorem dX8_placeOf_43 : decode cX8_placeOf 43 = .ok (.goto 4, 3) := by decide +kernel
theorem dX8_placeOf_46 : decode cX8_placeOf 46 = .ok (.iload_n 3, 1) := by decide +kernel
theorem dX8_placeOf_47 : decode cX8_placeOf 47 = .ok (.istore_n 3, 1) := by decide +kernel
theorem dX8_placeOf_48 : decode cX8_placeOf 48 = .ok (.iinc 4 1, 3) := by decide +kernel
theorem dX8_placeOf_51 : decode cX8_placeOf 51 = .ok (.goto (-46), 3) := by decide +kernel
theorem dX8_placeOf_54 : decode cX8_placeOf 54 = .ok (.iload_n 3, 1) := by decide +kernel
theorem dX8_placeOf_55 : decode cX8_placeOf 55 = .ok (.ireturn, 1) := by decide +kernel
theorem dX8_mayMatch_0 : decode cX8_mayMatch 0 = .ok (.aload_n 0, 1) := by decide +kernel
theorem dX8_mayMatch_1 : decode cX8_mayMatch 1 = .ok (.getfield 13, 3) := by decide +kernel
theorem dX8_mayMatch_4 : decode cX8_mayMatch 4 = .ok (.iload_n 1, 1) := by decide +kernel
theorem dX8_mayMatch_5 : decode cX8_mayMatch 5 = .ok (.iaload, 1) := by decide +kernel
theorem dX8_mayMatch_6 : decode cX8_mayMatch 6 = .ok (.ifCond .le 22, 3) := by decide +kernel
theorem dX8_mayMatch_9 : decode cX8_mayMatch 9 = .ok (.aload_n 0, 1) := by decide +kernel
theorem dX8_mayMatch_10 : decode cX8_mayMatch 10 = .ok (.getfield 13, 3) := by decide +kernel
theorem dX8_mayMatch_13 : decode cX8_mayMatch 13 = .ok (.iload_n 2, 1) := by decide +kernel
theorem dX8_mayMatch_14 : decode cX8_mayMatch 14 = .ok (.iaload, 1) := by decide +kernel
theorem dX8_mayMatch_15 : decode cX8_mayMatch 15 = .ok (.aload_n 0, 1) := by decide +kernel
theorem dX8_mayMatch_16 : decode cX8_mayMatch 16 = .ok (.getfield 13, 3) := by decide +kernel
theorem dX8_mayMatch_19 : decode cX8_mayMatch 19 = .ok (.iload_n 1, 1) := by decide +kernel
theorem dX8_mayMatch_20 : decode cX8_mayMatch 20 = .ok (.iaload, 1) := by decide +kernel
theorem dX8_mayMatch_21 : decode cX8_mayMatch 21 = .ok (.if_icmp .lt 7, 3) := by decide +kernel
theorem dX8_mayMatch_24 : decode cX8_mayMatch 24 = .ok (.iconst 1, 1) := by decide +kernel
theorem dX8_mayMatch_25 : decode cX8_mayMatch 25 = .ok (.goto 4, 3) := by decide +kernel
theorem dX8_mayMatch_28 : decode cX8_mayMatch 28 = .ok (.iconst 0, 1) := by decide +kernel
theorem dX8_mayMatch_29 : decode cX8_mayMatch 29 = .ok (.ireturn, 1) := by decide +kernel
set_option maxRecDepth 20000 in
theorem ggX8_match_X8_isRow : GoodIn wsX8_match wsX8_isRow := goodIn_r _ [5, 6, 7, 4, 8] (by decide +kernel) (by decide +kernel)
set_option maxRecDepth 20000 in
theorem gX8_match_X8_isRow : GoodIn wsX8_match (va_wsS RX8 138 yX8_isRow wsX8_isRow) := goodIn_app (goodIn_of _ (by decide +kernel)) ggX8_match_X8_isRow
set_option maxRecDepth 20000 in
theorem ggX8_match_X8_meets : GoodIn wsX8_match wsX8_meets := goodIn_r _ [12, 13, 14, 33, 34, 35, 36, 37, 38, 39, 40, 41, 42, 43, 44, 45, 46, 47, 48, 49, 50, 51, 52, 53, 54, 55, 56, 57, 58, 59, 60, 61, 62, 63, 64, 65, 66, 67, 68, 69, 70, 71, 72, 73, 74, 75, 76, 77, 78, 79] (by decide +kernel) (by decide +kernel)
set_option maxRecDepth 20000 in
theorem gX8_match_X8_meets : GoodIn wsX8_match (wsV RX8 142 RX8 yX8_meets wsX8_meets) := goodIn_app (goodIn_of _ (by decide +kernel)) ggX8_match_X8_meets
set_option maxRecDepth 20000 in
theorem ggX8_match_X8_mayMatch : GoodIn wsX8_match wsX8_mayMatch := goodIn_r _ [18, 1, 33, 34, 35, 36, 37, 38, 39, 40, 41, 42, 43, 44, 45, 46, 47, 48, 49, 50, 51, 52, 53, 54, 55, 56, 57, 58, 59, 60, 61, 62, 63, 64, 65, 66, 67, 68, 69, 70, 71, 72, 73, 74, 75, 76, 77, 78, 79] (by decide +kernel) (by decide +kernel)
set_option maxRecDepth 20000 in
theorem gX8_match_X8_mayMatch : GoodIn wsX8_match (wsV RX8 150 RX8 yX8_mayMatch wsX8_mayMatch) := goodIn_app (goodIn_of _ (by decide +kernel)) ggX8_match_X8_mayMatch
set_option maxRecDepth 20000 in
theorem ggX8_match_X8_placeOf : GoodIn wsX8_match wsX8_placeOf := goodIn_r _ [22, 1, 23, 24, 25, 4, 26, 27, 33, 34, 35, 36, 37, 38, 39, 40, 41, 42, 43, 44, 45, 46, 47, 48, 49, 50, 51, 52, 53, 54, 55, 56, 57, 58, 59, 60, 61, 62, 63, 64, 65, 66, 67, 68, 69, 70, 71, 72, 73, 74, 75, 76, 77, 78, 79] (by decide +kernel) (by decide +kernel)
set_option maxRecDepth 20000 in
theorem gX8_match_X8_placeOf : GoodIn wsX8_match (wsV RX8 154 RX8 yX8_placeOf wsX8_placeOf) := goodIn_app (goodIn_of _ (by decide +kernel)) ggX8_match_X8_placeOf
set_option maxRecDepth 20000 in
theorem ggX8_match_X8_offAt : GoodIn wsX8_match wsX8_offAt := goodIn_r _ [26, 1, 27, 33, 34, 35, 36, 37, 38, 39, 40, 41, 42, 43, 44, 45, 46, 47, 48, 49, 50, 51, 52, 53, 54, 55, 56, 57, 58, 59, 60, 61, 62, 63, 64, 65, 66, 67, 68, 69, 70, 71, 72, 73, 74, 75, 76, 77, 78, 79] (by decide +kernel) (by decide +kernel)
set_option maxRecDepth 20000 in
theorem gX8_match_X8_offAt : GoodIn wsX8_match (wsV RX8 146 RX8 yX8_offAt wsX8_offAt) := goodIn_app (goodIn_of _ (by decide +kernel)) ggX8_match_X8_offAt
set_option maxRecDepth 20000 in
theorem ggX8_match_X8_tells : GoodIn wsX8_match wsX8_tells := goodIn_r _ [31, 32, 33, 34, 35, 36, 37, 38, 39, 40, 41, 42, 43, 44, 45, 46, 47, 48, 49, 50, 51, 52, 53, 54, 55, 56, 57, 58, 59, 60, 61, 62, 63, 64, 65, 66, 67, 68, 69, 70, 71, 72, 73, 74, 75, 76, 77, 78, 79] (by decide +kernel) (by decide +kernel)
set_option maxRecDepth 20000 in
theorem gX8_match_X8_tells : GoodIn wsX8_match (wsV RX8 158 RX8 yX8_tells wsX8_tells) := goodIn_app (goodIn_of _ (by decide +kernel)) ggX8_match_X8_tells
theorem dX8_match_0 : decode cX8_match 0 = .ok (.iload_n 1, 1) := by decide +kernel
theorem dX8_match_1 : decode cX8_match 1 = .ok (.invokestatic 138, 3) := by decide +kernel
theorem dX8_match_4 : decode cX8_match 4 = .ok (.ifCond .eq 15, 3) := by decide +kernel
theorem dX8_match_7 : decode cX8_match 7 = .ok (.iload_n 2, 1) := by decide +kernel
theorem dX8_match_8 : decode cX8_match 8 = .ok (.invokestatic 138, 3) := by decide +kernel
theorem dX8_match_11 : decode cX8_match 11 = .ok (.ifCond .eq 8, 3) := by decide +kernel
theorem dX8_match_14 : decode cX8_match 14 = .ok (.iload_n 1, 1) := by decide +kernel
theorem dX8_match_15 : decode cX8_match 15 = .ok (.iload_n 2, 1) := by decide +kernel
theorem dX8_match_16 : decode cX8_match 16 = .ok (.if_icmp .ne 5, 3) := by decide +kernel
theorem dX8_match_19 : decode cX8_match 19 = .ok (.iconst (-1), 1) := by decide +kernel
theorem dX8_match_20 : decode cX8_match 20 = .ok (.ireturn, 1) := by decide +kernel
theorem dX8_match_21 : decode cX8_match 21 = .ok (.aload_n 0, 1) := by decide +kernel
theorem dX8_match_22 : decode cX8_match 22 = .ok (.getfield 13, 3) := by decide +kernel
theorem dX8_match_25 : decode cX8_match 25 = .ok (.iload_n 1, 1) := by decide +kernel
theorem dX8_match_26 : decode cX8_match 26 = .ok (.iaload, 1) := by decide +kernel
theorem dX8_match_27 : decode cX8_match 27 = .ok (.ifCond .lt 12, 3) := by decide +kernel
theorem dX8_match_30 : decode cX8_match 30 = .ok (.aload_n 0, 1) := by decide +kernel
theorem dX8_match_31 : decode cX8_match 31 = .ok (.getfield 13, 3) := by decide +kernel
theorem dX8_match_34 : decode cX8_match 34 = .ok (.iload_n 2, 1) := by decide +kernel
theorem dX8_match_35 : decode cX8_match 35 = .ok (.iaload, 1) := by decide +kernel
theorem dX8_match_36 : decode cX8_match 36 = .ok (.ifCond .ge 9, 3) := by decide +kernel
theorem dX8_match_39 : decode cX8_match 39 = .ok (.aload_n 0, 1) := by decide +kernel
theorem dX8_match_40 : decode cX8_match 40 = .ok (.iconst 1, 1) := by decide +kernel
theorem dX8_match_41 : decode cX8_match 41 = .ok (.invokevirtual 142, 3) := by decide +kernel
theorem dX8_match_44 : decode cX8_match 44 = .ok (.ireturn, 1) := by decide +kernel
theorem dX8_match_45 : decode cX8_match 45 = .ok (.aload_n 0, 1) := by decide +kernel
theorem dX8_match_46 : decode cX8_match 46 = .ok (.iload_n 1, 1) := by decide +kernel
theorem dX8_match_47 : decode cX8_match 47 = .ok (.iload_n 2, 1) := by decide +kernel
theorem dX8_match_48 : decode cX8_match 48 = .ok (.invokevirtual 150, 3) := by decide +kernel
theorem dX8_match_51 : decode cX8_match 51 = .ok (.ifCond .ne 9, 3) := by decide +kernel
theorem dX8_match_54 : decode cX8_match 54 = .ok (.aload_n 0, 1) := by decide +kernel
theorem dX8_match_55 : decode cX8_match 55 = .ok (.iconst 5, 1) := by decide +kernel
theorem dX8_match_56 : decode cX8_match 56 = .ok (.invokevirtual 142, 3) := by decide +kernel
theorem dX8_match_59 : decode cX8_match 59 = .ok (.ireturn, 1) := by decide +kernel
theorem dX8_match_60 : decode cX8_match 60 = .ok (.aload_n 0, 1) := by decide +kernel
theorem dX8_match_61 : decode cX8_match 61 = .ok (.iload_n 1, 1) := by decide +kernel
theorem dX8_match_62 : decode cX8_match 62 = .ok (.iload_n 2, 1) := by decide +kernel
theorem dX8_match_63 : decode cX8_match 63 = .ok (.invokevirtual 154, 3) := by decide +kernel
theorem dX8_match_66 : decode cX8_match 66 = .ok (.istore_n 3, 1) := by decide +kernel
theorem dX8_match_67 : decode cX8_match 67 = .ok (.aload_n 0, 1) := by decide +kernel
theorem dX8_match_68 : decode cX8_match 68 = .ok (.aload_n 0, 1) := by decide +kernel
theorem dX8_match_69 : decode cX8_match 69 = .ok (.iload_n 1, 1) := by decide +kernel
theorem dX8_match_70 : decode cX8_match 70 = .ok (.iload_n 2, 1) := by decide +kernel
theorem dX8_match_71 : decode cX8_match 71 = .ok (.iload_n 3, 1) := by decide +kernel
theorem dX8_match_72 : decode cX8_match 72 = .ok (.invokevirtual 146, 3) := by decide +kernel
theorem dX8_match_75 : decode cX8_match 75 = .ok (.iload_n 3, 1) := by decide +kernel
theorem dX8_match_76 : decode cX8_match 76 = .ok (.invokevirtual 158, 3) := by decide +kernel
theorem dX8_match_79 : decode cX8_match 79 = .ok (.ireturn, 1) := by decide +kernel
set_option maxRecDepth 20000 in
theorem ggX8_isSure_X8_mayMatch : GoodIn wsX8_isSure wsX8_mayMatch := goodIn_r _ [5, 6, 16, 17, 18, 19, 20, 21, 22, 23, 24, 25, 26, 27, 28, 29, 30, 31, 32, 33, 34, 35, 36, 37, 38, 39, 40, 41, 42, 43, 44, 45, 46, 47, 48, 49, 50, 51, 52, 53, 54, 55, 56, 57, 58, 59, 60, 61, 62] (by decide +kernel) (by decide +kernel)
set_option maxRecDepth 20000 in
theorem gX8_isSure_X8_mayMatch : GoodIn wsX8_isSure (wsV RX8 150 RX8 yX8_mayMatch wsX8_mayMatch) := goodIn_app (goodIn_of _ (by decide +kernel)) ggX8_isSure_X8_mayMatch
set_option maxRecDepth 20000 in
theorem ggX8_isSure_X8_placeOf : GoodIn wsX8_isSure wsX8_placeOf := goodIn_r _ [10, 6, 11, 12, 13, 4, 14, 15, 16, 17, 18, 19, 20, 21, 22, 23, 24, 25, 26, 27, 28, 29, 30, 31, 32, 33, 34, 35, 36, 37, 38, 39, 40, 41, 42, 43, 44, 45, 46, 47, 48, 49, 50, 51, 52, 53, 54, 55, 56, 57, 58, 59, 60, 61, 62] (by decide +kernel) (by decide +kernel)
set_option maxRecDepth 20000 in
theorem gX8_isSure_X8_placeOf : GoodIn wsX8_isSure (wsV RX8 154 RX8 yX8_placeOf wsX8_placeOf) := goodIn_app (goodIn_of _ (by decide +kernel)) ggX8_isSure_X8_placeOf
set_option maxRecDepth 20000 in
theorem ggX8_isSure_X8_offAt : GoodIn wsX8_isSure wsX8_offAt := goodIn_r _ [14, 6, 15, 16, 17, 18, 19, 20, 21, 22, 23, 24, 25, 26, 27, 28, 29, 30, 31, 32, 33, 34, 35, 36, 37, 38, 39, 40, 41, 42, 43, 44, 45, 46, 47, 48, 49, 50, 51, 52, 53, 54, 55, 56, 57, 58, 59, 60, 61, 62] (by decide +kernel) (by decide +kernel)
set_option maxRecDepth 20000 in
theorem gX8_isSure_X8_offAt : GoodIn wsX8_isSure (wsV RX8 146 RX8 yX8_offAt wsX8_offAt) := goodIn_app (goodIn_of _ (by decide +kernel)) ggX8_isSure_X8_offAt
theorem dX8_isSure_0 : decode cX8_isSure 0 = .ok (.aload_n 0, 1) := by decide +kernel
theorem dX8_isSure_1 : decode cX8_isSure 1 = .ok (.iload_n 1, 1) := by decide +kernel
theorem dX8_isSure_2 : decode cX8_isSure 2 = .ok (.iload_n 2, 1) := by decide +kernel
theorem dX8_isSure_3 : decode cX8_isSure 3 = .ok (.invokevirtual 150, 3) := by decide +kernel
theorem dX8_isSure_6 : decode cX8_isSure 6 = .ok (.ifCond .ne 5, 3) := by decide +kernel
theorem dX8_isSure_9 : decode cX8_isSure 9 = .ok (.iconst 0, 1) := by decide +kernel
theorem dX8_isSure_10 : decode cX8_isSure 10 = .ok (.ireturn, 1) := by decide +kernel
theorem dX8_isSure_11 : decode cX8_isSure 11 = .ok (.aload_n 0, 1) := by decide +kernel
theorem dX8_isSure_12 : decode cX8_isSure 12 = .ok (.iload_n 1, 1) := by decide +kernel
theorem dX8_isSure_13 : decode cX8_isSure 13 = .ok (.iload_n 2, 1) := by decide +kernel
theorem dX8_isSure_14 : decode cX8_isSure 14 = .ok (.aload_n 0, 1) := by decide +kernel
theorem dX8_isSure_15 : decode cX8_isSure 15 = .ok (.iload_n 1, 1) := by decide +kernel
theorem dX8_isSure_16 : decode cX8_isSure 16 = .ok (.iload_n 2, 1) := by decide +kernel
theorem dX8_isSure_17 : decode cX8_isSure 17 = .ok (.invokevirtual 154, 3) := by decide +kernel
theorem dX8_isSure_20 : decode cX8_isSure 20 = .ok (.invokevirtual 146, 3) := by decide +kernel
theorem dX8_isSure_23 : decode cX8_isSure 23 = .ok (.istore_n 3, 1) := by decide +kernel
theorem dX8_isSure_24 : decode cX8_isSure 24 = .ok (.iconst 1, 1) := by decide +kernel
theorem dX8_isSure_25 : decode cX8_isSure 25 = .ok (.istore 4, 2) := by decide +kernel
theorem dX8_isSure_27 : decode cX8_isSure 27 = .ok (.iconst 0, 1) := by decide +kernel
theorem dX8_isSure_28 : decode cX8_isSure 28 = .ok (.istore 5, 2) := by decide +kernel
theorem dX8_isSure_30 : decode cX8_isSure 30 = .ok (.iload 5, 2) := by decide +kernel
theorem dX8_isSure_32 : decode cX8_isSure 32 = .ok (.bipush 6, 2) := by decide +kernel
theorem dX8_isSure_34 : decode cX8_isSure 34 = .ok (.if_icmp .ge 61, 3) := by decide +kernel
theorem dX8_isSure_37 : decode cX8_isSure 37 = .ok (.iload 5, 2) := by decide +kernel
theorem dX8_isSure_39 : decode cX8_isSure 39 = .ok (.iload_n 1, 1) := by decide +kernel
theorem dX8_isSure_40 : decode cX8_isSure 40 = .ok (.if_icmp .eq 49, 3) := by decide +kernel
theorem dX8_isSure_43 : decode cX8_isSure 43 = .ok (.iload 5, 2) := by decide +kernel
theorem dX8_isSure_45 : decode cX8_isSure 45 = .ok (.iload_n 2, 1) := by decide +kernel
theorem dX8_isSure_46 : decode cX8_isSure 46 = .ok (.if_icmp .eq 43, 3) := by decide +kernel
theorem dX8_isSure_49 : decode cX8_isSure 49 = .ok (.aload_n 0, 1) := by decide +kernel
theorem dX8_isSure_50 : decode cX8_isSure 50 = .ok (.iload_n 1, 1) := by decide +kernel
theorem dX8_isSure_51 : decode cX8_isSure 51 = .ok (.iload 5, 2) := by decide +kernel
theorem dX8_isSure_53 : decode cX8_isSure 53 = .ok (.invokevirtual 150, 3) := by decide +kernel
theorem dX8_isSure_56 : decode cX8_isSure 56 = .ok (.ifCond .eq 33, 3) := by decide +kernel
theorem dX8_isSure_59 : decode cX8_isSure 59 = .ok (.iload 4, 2) := by decide +kernel
theorem dX8_isSure_61 : decode cX8_isSure 61 = .ok (.ifCond .eq 25, 3) := by decide +kernel
theorem dX8_isSure_64 : decode cX8_isSure 64 = .ok (.aload_n 0, 1) := by decide +kernel
theorem dX8_isSure_65 : decode cX8_isSure 65 = .ok (.iload_n 1, 1) := by decide +kernel
theorem dX8_isSure_66 : decode cX8_isSure 66 = .ok (.iload 5, 2) := by decide +kernel
theorem dX8_isSure_68 : decode cX8_isSure 68 = .ok (.aload_n 0, 1) := by decide +kernel
theorem dX8_isSure_69 : decode cX8_isSure 69 = .ok (.iload_n 1, 1) := by decide +kernel
theorem dX8_isSure_70 : decode cX8_isSure 70 = .ok (.iload 5, 2) := by decide +kernel
theorem dX8_isSure_72 : decode cX8_isSure 72 = .ok (.invokevirtual 154, 3) := by decide +kernel
theorem dX8_isSure_75 : decode cX8_isSure 75 = .ok (.invokevirtual 146, 3) := by decide +kernel
theorem dX8_isSure_78 : decode cX8_isSure 78 = .ok (.iload_n 3, 1) := by decide +kernel
theorem dX8_isSure_79 : decode cX8_isSure 79 = .ok (.if_icmp .le 7, 3) := by decide +kernel
theorem dX8_isSure_82 : decode cX8_isSure 82 = .ok (.iconst 1, 1) := by decide +kernel
theorem dX8_isSure_83 : decode cX8_isSure 83 = .ok (.goto 4, 3) := by decide +kernel
theorem dX8_isSure_86 : decode cX8_isSure 86 = .ok (.iconst 0, 1) := by decide +kernel
theorem dX8_isSure_87 : decode cX8_isSure 87 = .ok (.istore 4, 2) := by decide +kernel
theorem dX8_isSure_89 : decode cX8_isSure 89 = .ok (.iinc 5 1, 3) := by decide +kernel
theorem dX8_isSure_92 : decode cX8_isSure 92 = .ok (.goto (-62), 3) := by decide +kernel
theorem dX8_isSure_95 : decode cX8_isSure 95 = .ok (.iload 4, 2) := by decide +kernel
theorem dX8_isSure_97 : decode cX8_isSure 97 = .ok (.ireturn, 1) := by decide +kernel
set_option maxRecDepth 20000 in
theorem ggX8_sure_X8_isRow : GoodIn wsX8_sure wsX8_isRow := goodIn_r _ [4, 5, 6, 3, 7] (by decide +kernel) (by decide +kernel)
set_option maxRecDepth 20000 in
theorem gX8_sure_X8_isRow : GoodIn wsX8_sure (va_wsS RX8 138 yX8_isRow wsX8_isRow) := goodIn_app (goodIn_of _ (by decide +kernel)) ggX8_sure_X8_isRow
set_option maxRecDepth 20000 in
theorem ggX8_sure_X8_isSure : GoodIn wsX8_sure wsX8_isSure := goodIn_r _ [11, 12, 13, 14, 3, 15, 16, 17, 18, 19, 20, 21, 22, 23, 24, 25, 26, 27, 28, 29, 30, 31, 32, 33, 34, 35, 36, 37, 38, 39, 40, 41, 42, 43, 44, 45, 46, 47, 48, 49, 50, 51, 52, 53, 54, 55, 56, 57, 58, 59, 60, 61, 62, 63, 64, 65, 66, 67, 68, 69, 70, 71, 72] (by decide +kernel) (by decide +kernel)
set_option maxRecDepth 20000 in
theorem gX8_sure_X8_isSure : GoodIn wsX8_sure (wsV RX8 161 RX8 yX8_isSure wsX8_isSure) := goodIn_app (goodIn_of _ (by decide +kernel)) ggX8_sure_X8_isSure
theorem dX8_sure_0 : decode cX8_sure 0 = .ok (.iload_n 1, 1) := by decide +kernel
theorem dX8_sure_1 : decode cX8_sure 1 = .ok (.invokestatic 138, 3) := by decide +kernel
theorem dX8_sure_4 : decode cX8_sure 4 = .ok (.ifCond .eq 15, 3) := by decide +kernel
theorem dX8_sure_7 : decode cX8_sure 7 = .ok (.iload_n 2, 1) := by decide +kernel
theorem dX8_sure_8 : decode cX8_sure 8 = .ok (.invokestatic 138, 3) := by decide +kernel
theorem dX8_sure_11 : decode cX8_sure 11 = .ok (.ifCond .eq 8, 3) := by decide +kernel
theorem dX8_sure_14 : decode cX8_sure 14 = .ok (.iload_n 1, 1) := by decide +kernel
theorem dX8_sure_15 : decode cX8_sure 15 = .ok (.iload_n 2, 1) := by decide +kernel
theorem dX8_sure_16 : decode cX8_sure 16 = .ok (.if_icmp .ne 7, 3) := by decide +kernel
theorem dX8_sure_19 : decode cX8_sure 19 = .ok (.iconst (-1), 1) := by decide +kernel
theorem dX8_sure_20 : decode cX8_sure 20 = .ok (.goto 17, 3) := by decide +kernel
theorem dX8_sure_23 : decode cX8_sure 23 = .ok (.aload_n 0, 1) := by decide +kernel
theorem dX8_sure_24 : decode cX8_sure 24 = .ok (.iload_n 1, 1) := by decide +kernel
theorem dX8_sure_25 : decode cX8_sure 25 = .ok (.iload_n 2, 1) := by decide +kernel
theorem dX8_sure_26 : decode cX8_sure 26 = .ok (.invokevirtual 161, 3) := by decide +kernel
theorem dX8_sure_29 : decode cX8_sure 29 = .ok (.ifCond .eq 7, 3) := by decide +kernel
theorem dX8_sure_32 : decode cX8_sure 32 = .ok (.iconst 1, 1) := by decide +kernel
theorem dX8_sure_33 : decode cX8_sure 33 = .ok (.goto 4, 3) := by decide +kernel
theorem dX8_sure_36 : decode cX8_sure 36 = .ok (.iconst 0, 1) := by decide +kernel
theorem dX8_sure_37 : decode cX8_sure 37 = .ok (.ireturn, 1) := by decide +kernel
set_option maxRecDepth 20000 in
theorem ggX8_paint_X8_in : GoodIn wsX8_paint wsX8_in := goodIn_r _ [5] (by decide +kernel) (by decide +kernel)
set_option maxRecDepth 20000 in
theorem gX8_paint_X8_in : GoodIn wsX8_paint (va_wsS RX8 125 yX8_in wsX8_in) := goodIn_app (goodIn_of _ (by decide +kernel)) ggX8_paint_X8_in
set_option maxRecDepth 20000 in
theorem ggX8_paint_X8_isYear : GoodIn wsX8_paint wsX8_isYear := goodIn_r _ [8, 2, 3, 4, 5] (by decide +kernel) (by decide +kernel)
set_option maxRecDepth 20000 in
theorem gX8_paint_X8_isYear : GoodIn wsX8_paint (va_wsS RX8 164 yX8_isYear wsX8_isYear) := goodIn_app (goodIn_of _ (by decide +kernel)) ggX8_paint_X8_isYear
theorem dX8_paint_0 : decode cX8_paint 0 = .ok (.iload_n 1, 1) := by decide +kernel
theorem dX8_paint_1 : decode cX8_paint 1 = .ok (.iconst 0, 1) := by decide +kernel
theorem dX8_paint_2 : decode cX8_paint 2 = .ok (.bipush 9, 2) := by decide +kernel
theorem dX8_paint_4 : decode cX8_paint 4 = .ok (.invokestatic 125, 3) := by decide +kernel
theorem dX8_paint_7 : decode cX8_paint 7 = .ok (.ifCond .eq 10, 3) := by decide +kernel
theorem dX8_paint_10 : decode cX8_paint 10 = .ok (.iload_n 2, 1) := by decide +kernel
theorem dX8_paint_11 : decode cX8_paint 11 = .ok (.invokestatic 164, 3) := by decide +kernel
theorem dX8_paint_14 : decode cX8_paint 14 = .ok (.ifCond .ne 5, 3) := by decide +kernel
theorem dX8_paint_17 : decode cX8_paint 17 = .ok (.iconst (-1), 1) := by decide +kernel
theorem dX8_paint_18 : decode cX8_paint 18 = .ok (.ireturn, 1) := by decide +kernel
theorem dX8_paint_19 : decode cX8_paint 19 = .ok (.aload_n 0, 1) := by decide +kernel
theorem dX8_paint_20 : decode cX8_paint 20 = .ok (.getfield 23, 3) := by decide +kernel
theorem dX8_paint_23 : decode cX8_paint 23 = .ok (.iload_n 1, 1) := by decide +kernel
theorem dX8_paint_24 : decode cX8_paint 24 = .ok (.iaload, 1) := by decide +kernel
theorem dX8_paint_25 : decode cX8_paint 25 = .ok (.istore_n 3, 1) := by decide +kernel
theorem dX8_paint_26 : decode cX8_paint 26 = .ok (.aload_n 0, 1) := by decide +kernel
theorem dX8_paint_27 : decode cX8_paint 27 = .ok (.getfield 23, 3) := by decide +kernel
theorem dX8_paint_30 : decode cX8_paint 30 = .ok (.iload_n 1, 1) := by decide +kernel
theorem dX8_paint_31 : decode cX8_paint 31 = .ok (.iload_n 2, 1) := by decide +kernel
theorem dX8_paint_32 : decode cX8_paint 32 = .ok (.iastore, 1) := by decide +kernel
theorem dX8_paint_33 : decode cX8_paint 33 = .ok (.iload_n 3, 1) := by decide +kernel
theorem dX8_paint_34 : decode cX8_paint 34 = .ok (.ireturn, 1) := by decide +kernel
set_option maxRecDepth 20000 in
theorem ggX8_sap_X8_in : GoodIn wsX8_sap wsX8_in := goodIn_r _ [7] (by decide +kernel) (by decide +kernel)
set_option maxRecDepth 20000 in
theorem gX8_sap_X8_in : GoodIn wsX8_sap (va_wsS RX8 125 yX8_in wsX8_in) := goodIn_app (goodIn_of _ (by decide +kernel)) ggX8_sap_X8_in
theorem dX8_sap_0 : decode cX8_sap 0 = .ok (.iload_n 1, 1) := by decide +kernel
theorem dX8_sap_1 : decode cX8_sap 1 = .ok (.iconst 0, 1) := by decide +kernel
theorem dX8_sap_2 : decode cX8_sap 2 = .ok (.bipush 60, 2) := by decide +kernel
theorem dX8_sap_4 : decode cX8_sap 4 = .ok (.invokestatic 125, 3) := by decide +kernel
theorem dX8_sap_7 : decode cX8_sap 7 = .ok (.ifCond .eq 23, 3) := by decide +kernel
theorem dX8_sap_10 : decode cX8_sap 10 = .ok (.iload_n 2, 1) := by decide +kernel
theorem dX8_sap_11 : decode cX8_sap 11 = .ok (.iload_n 1, 1) := by decide +kernel
theorem dX8_sap_12 : decode cX8_sap 12 = .ok (.bipush 60, 2) := by decide +kernel
theorem dX8_sap_14 : decode cX8_sap 14 = .ok (.invokestatic 125, 3) := by decide +kernel
theorem dX8_sap_17 : decode cX8_sap 17 = .ok (.ifCond .eq 13, 3) := by decide +kernel
theorem dX8_sap_20 : decode cX8_sap 20 = .ok (.iload_n 3, 1) := by decide +kernel
theorem dX8_sap_21 : decode cX8_sap 21 = .ok (.iconst 0, 1) := by decide +kernel
theorem dX8_sap_22 : decode cX8_sap 22 = .ok (.bipush 60, 2) := by decide +kernel
theorem dX8_sap_24 : decode cX8_sap 24 = .ok (.invokestatic 125, 3) := by decide +kernel
theorem dX8_sap_27 : decode cX8_sap 27 = .ok (.ifCond .ne 5, 3) := by decide +kernel
theorem dX8_sap_30 : decode cX8_sap 30 = .ok (.iconst (-1), 1) := by decide +kernel
theorem dX8_sap_31 : decode cX8_sap 31 = .ok (.ireturn, 1) := by decide +kernel
theorem dX8_sap_32 : decode cX8_sap 32 = .ok (.aload_n 0, 1) := by decide +kernel
theorem dX8_sap_33 : decode cX8_sap 33 = .ok (.iload_n 1, 1) := by decide +kernel
theorem dX8_sap_34 : decode cX8_sap 34 = .ok (.putfield 109, 3) := by decide +kernel
theorem dX8_sap_37 : decode cX8_sap 37 = .ok (.aload_n 0, 1) := by decide +kernel
theorem dX8_sap_38 : decode cX8_sap 38 = .ok (.iload_n 2, 1) := by decide +kernel
theorem dX8_sap_39 : decode cX8_sap 39 = .ok (.putfield 113, 3) := by decide +kernel
theorem dX8_sap_42 : decode cX8_sap 42 = .ok (.aload_n 0, 1) := by decide +kernel
theorem dX8_sap_43 : decode cX8_sap 43 = .ok (.iload_n 3, 1) := by decide +kernel
theorem dX8_sap_44 : decode cX8_sap 44 = .ok (.putfield 116, 3) := by decide +kernel
theorem dX8_sap_47 : decode cX8_sap 47 = .ok (.iconst 1, 1) := by decide +kernel
theorem dX8_sap_48 : decode cX8_sap 48 = .ok (.ireturn, 1) := by decide +kernel
set_option maxRecDepth 20000 in
theorem ggX8_comes_X8_in : GoodIn wsX8_comes wsX8_in := goodIn_r _ [14] (by decide +kernel) (by decide +kernel)
set_option maxRecDepth 20000 in
theorem gX8_comes_X8_in : GoodIn wsX8_comes (va_wsS RX8 125 yX8_in wsX8_in) := goodIn_app (goodIn_of _ (by decide +kernel)) ggX8_comes_X8_in
theorem dX8_comes_0 : decode cX8_comes 0 = .ok (.iload_n 1, 1) := by decide +kernel
theorem dX8_comes_1 : decode cX8_comes 1 = .ok (.ifCond .eq 13, 3) := by decide +kernel
theorem dX8_comes_4 : decode cX8_comes 4 = .ok (.iload_n 3, 1) := by decide +kernel
theorem dX8_comes_5 : decode cX8_comes 5 = .ok (.iconst 1, 1) := by decide +kernel
theorem dX8_comes_6 : decode cX8_comes 6 = .ok (.bipush 9, 2) := by decide +kernel
theorem dX8_comes_8 : decode cX8_comes 8 = .ok (.invokestatic 125, 3) := by decide +kernel
theorem dX8_comes_11 : decode cX8_comes 11 = .ok (.ifCond .ne 5, 3) := by decide +kernel
theorem dX8_comes_14 : decode cX8_comes 14 = .ok (.iconst (-1), 1) := by decide +kernel
theorem dX8_comes_15 : decode cX8_comes 15 = .ok (.ireturn, 1) := by decide +kernel
theorem dX8_comes_16 : decode cX8_comes 16 = .ok (.aload_n 0, 1) := by decide +kernel
theorem dX8_comes_17 : decode cX8_comes 17 = .ok (.getfield 167, 3) := by decide +kernel
theorem dX8_comes_20 : decode cX8_comes 20 = .ok (.bipush 24, 2) := by decide +kernel
theorem dX8_comes_22 : decode cX8_comes 22 = .ok (.if_icmp .ne 6, 3) := by decide +kernel
theorem dX8_comes_25 : decode cX8_comes 25 = .ok (.bipush (-2), 2) := by decide +kernel
theorem dX8_comes_27 : decode cX8_comes 27 = .ok (.ireturn, 1) := by decide +kernel
theorem dX8_comes_28 : decode cX8_comes 28 = .ok (.aload_n 0, 1) := by decide +kernel
theorem dX8_comes_29 : decode cX8_comes 29 = .ok (.getfield 26, 3) := by decide +kernel
theorem dX8_comes_32 : decode cX8_comes 32 = .ok (.aload_n 0, 1) := by decide +kernel
theorem dX8_comes_33 : decode cX8_comes 33 = .ok (.getfield 167, 3) := by decide +kernel
theorem dX8_comes_36 : decode cX8_comes 36 = .ok (.iload_n 2, 1) := by decide +kernel
theorem dX8_comes_37 : decode cX8_comes 37 = .ok (.iastore, 1) := by decide +kernel
theorem dX8_comes_38 : decode cX8_comes 38 = .ok (.aload_n 0, 1) := by decide +kernel
theorem dX8_comes_39 : decode cX8_comes 39 = .ok (.getfield 29, 3) := by decide +kernel
theorem dX8_comes_42 : decode cX8_comes 42 = .ok (.aload_n 0, 1) := by decide +kernel
end
section
theorem dX8_comes_43 : decode cX8_comes 43 = .ok (.getfield 167, 3) := by decide +kernel
theorem dX8_comes_46 : decode cX8_comes 46 = .ok (.iload_n 3, 1) := by decide +kernel
theorem dX8_comes_47 : decode cX8_comes 47 = .ok (.iastore, 1) := by decide +kernel
theorem dX8_comes_48 : decode cX8_comes 48 = .ok (.aload_n 0, 1) := by decide +kernel
theorem dX8_comes_49 : decode cX8_comes 49 = .ok (.getfield 32, 3) := by decide +kernel
theorem dX8_comes_52 : decode cX8_comes 52 = .ok (.aload_n 0, 1) := by decide +kernel
theorem dX8_comes_53 : decode cX8_comes 53 = .ok (.getfield 167, 3) := by decide +kernel
theorem dX8_comes_56 : decode cX8_comes 56 = .ok (.aload_n 0, 1) := by decide +kernel
theorem dX8_comes_57 : decode cX8_comes 57 = .ok (.getfield 135, 3) := by decide +kernel
theorem dX8_comes_60 : decode cX8_comes 60 = .ok (.iastore, 1) := by decide +kernel
theorem dX8_comes_61 : decode cX8_comes 61 = .ok (.aload_n 0, 1) := by decide +kernel
theorem dX8_comes_62 : decode cX8_comes 62 = .ok (.getfield 35, 3) := by decide +kernel
theorem dX8_comes_65 : decode cX8_comes 65 = .ok (.aload_n 0, 1) := by decide +kernel
theorem dX8_comes_66 : decode cX8_comes 66 = .ok (.getfield 167, 3) := by decide +kernel
theorem dX8_comes_69 : decode cX8_comes 69 = .ok (.bipush (-9), 2) := by decide +kernel
theorem dX8_comes_71 : decode cX8_comes 71 = .ok (.iastore, 1) := by decide +kernel
theorem dX8_comes_72 : decode cX8_comes 72 = .ok (.aload_n 0, 1) := by decide +kernel
theorem dX8_comes_73 : decode cX8_comes 73 = .ok (.getfield 38, 3) := by decide +kernel
theorem dX8_comes_76 : decode cX8_comes 76 = .ok (.aload_n 0, 1) := by decide +kernel
theorem dX8_comes_77 : decode cX8_comes 77 = .ok (.getfield 167, 3) := by decide +kernel
theorem dX8_comes_80 : decode cX8_comes 80 = .ok (.iload 4, 2) := by decide +kernel
theorem dX8_comes_82 : decode cX8_comes 82 = .ok (.iastore, 1) := by decide +kernel
theorem dX8_comes_83 : decode cX8_comes 83 = .ok (.aload_n 0, 1) := by decide +kernel
theorem dX8_comes_84 : decode cX8_comes 84 = .ok (.getfield 41, 3) := by decide +kernel
theorem dX8_comes_87 : decode cX8_comes 87 = .ok (.aload_n 0, 1) := by decide +kernel
theorem dX8_comes_88 : decode cX8_comes 88 = .ok (.getfield 167, 3) := by decide +kernel
theorem dX8_comes_91 : decode cX8_comes 91 = .ok (.iload 5, 2) := by decide +kernel
theorem dX8_comes_93 : decode cX8_comes 93 = .ok (.iastore, 1) := by decide +kernel
theorem dX8_comes_94 : decode cX8_comes 94 = .ok (.aload_n 0, 1) := by decide +kernel
theorem dX8_comes_95 : decode cX8_comes 95 = .ok (.getfield 44, 3) := by decide +kernel
theorem dX8_comes_98 : decode cX8_comes 98 = .ok (.aload_n 0, 1) := by decide +kernel
theorem dX8_comes_99 : decode cX8_comes 99 = .ok (.getfield 167, 3) := by decide +kernel
theorem dX8_comes_102 : decode cX8_comes 102 = .ok (.iload 6, 2) := by decide +kernel
theorem dX8_comes_104 : decode cX8_comes 104 = .ok (.iastore, 1) := by decide +kernel
theorem dX8_comes_105 : decode cX8_comes 105 = .ok (.aload_n 0, 1) := by decide +kernel
theorem dX8_comes_106 : decode cX8_comes 106 = .ok (.getfield 47, 3) := by decide +kernel
theorem dX8_comes_109 : decode cX8_comes 109 = .ok (.aload_n 0, 1) := by decide +kernel
theorem dX8_comes_110 : decode cX8_comes 110 = .ok (.getfield 167, 3) := by decide +kernel
theorem dX8_comes_113 : decode cX8_comes 113 = .ok (.iload 7, 2) := by decide +kernel
theorem dX8_comes_115 : decode cX8_comes 115 = .ok (.iastore, 1) := by decide +kernel
theorem dX8_comes_116 : decode cX8_comes 116 = .ok (.aload_n 0, 1) := by decide +kernel
theorem dX8_comes_117 : decode cX8_comes 117 = .ok (.dup, 1) := by decide +kernel
theorem dX8_comes_118 : decode cX8_comes 118 = .ok (.getfield 167, 3) := by decide +kernel
theorem dX8_comes_121 : decode cX8_comes 121 = .ok (.iconst 1, 1) := by decide +kernel
theorem dX8_comes_122 : decode cX8_comes 122 = .ok (.iadd, 1) := by decide +kernel
theorem dX8_comes_123 : decode cX8_comes 123 = .ok (.putfield 167, 3) := by decide +kernel
theorem dX8_comes_126 : decode cX8_comes 126 = .ok (.aload_n 0, 1) := by decide +kernel
theorem dX8_comes_127 : decode cX8_comes 127 = .ok (.getfield 167, 3) := by decide +kernel
theorem dX8_comes_130 : decode cX8_comes 130 = .ok (.iconst 1, 1) := by decide +kernel
theorem dX8_comes_131 : decode cX8_comes 131 = .ok (.isub, 1) := by decide +kernel
theorem dX8_comes_132 : decode cX8_comes 132 = .ok (.ireturn, 1) := by decide +kernel
set_option maxRecDepth 20000 in
theorem ggX8_proof_X8_isYear : GoodIn wsX8_proof wsX8_isYear := goodIn_r _ [4, 5, 6, 3, 7] (by decide +kernel) (by decide +kernel)
set_option maxRecDepth 20000 in
theorem gX8_proof_X8_isYear : GoodIn wsX8_proof (va_wsS RX8 164 yX8_isYear wsX8_isYear) := goodIn_app (goodIn_of _ (by decide +kernel)) ggX8_proof_X8_isYear
set_option maxRecDepth 20000 in
theorem ggX8_proof_X8_in : GoodIn wsX8_proof wsX8_in := goodIn_r _ [7] (by decide +kernel) (by decide +kernel)
set_option maxRecDepth 20000 in
theorem gX8_proof_X8_in : GoodIn wsX8_proof (va_wsS RX8 125 yX8_in wsX8_in) := goodIn_app (goodIn_of _ (by decide +kernel)) ggX8_proof_X8_in
set_option maxRecDepth 20000 in
theorem ggX8_proof_X8_comes : GoodIn wsX8_proof wsX8_comes := goodIn_r _ [11, 12, 13, 14, 15, 16, 17, 18, 19, 20, 21, 5, 6, 3, 7, 22, 23, 24, 25, 26, 27, 28, 29, 30, 31, 32, 33, 34, 35, 36, 37, 38, 39, 40, 41, 42, 43, 44, 45, 46, 47, 48, 49, 50, 51, 52, 53, 54, 55, 56, 57, 58, 59, 60, 61, 62, 63, 64, 65, 66, 67, 68] (by decide +kernel) (by decide +kernel)
set_option maxRecDepth 20000 in
theorem gX8_proof_X8_comes : GoodIn wsX8_proof (wsV RX8 170 RX8 yX8_comes wsX8_comes) := goodIn_app (goodIn_of _ (by decide +kernel)) ggX8_proof_X8_comes
theorem dX8_proof_0 : decode cX8_proof 0 = .ok (.aload_n 0, 1) := by decide +kernel
theorem dX8_proof_1 : decode cX8_proof 1 = .ok (.iload_n 1, 1) := by decide +kernel
theorem dX8_proof_2 : decode cX8_proof 2 = .ok (.invokestatic 164, 3) := by decide +kernel
theorem dX8_proof_5 : decode cX8_proof 5 = .ok (.ifCond .eq 18, 3) := by decide +kernel
theorem dX8_proof_8 : decode cX8_proof 8 = .ok (.iload_n 2, 1) := by decide +kernel
theorem dX8_proof_9 : decode cX8_proof 9 = .ok (.iload_n 1, 1) := by decide +kernel
theorem dX8_proof_10 : decode cX8_proof 10 = .ok (.sipush 2100, 3) := by decide +kernel
theorem dX8_proof_13 : decode cX8_proof 13 = .ok (.invokestatic 125, 3) := by decide +kernel
theorem dX8_proof_16 : decode cX8_proof 16 = .ok (.ifCond .eq 7, 3) := by decide +kernel
theorem dX8_proof_19 : decode cX8_proof 19 = .ok (.iconst 1, 1) := by decide +kernel
theorem dX8_proof_20 : decode cX8_proof 20 = .ok (.goto 4, 3) := by decide +kernel
theorem dX8_proof_23 : decode cX8_proof 23 = .ok (.iconst 0, 1) := by decide +kernel
theorem dX8_proof_24 : decode cX8_proof 24 = .ok (.iconst 0, 1) := by decide +kernel
theorem dX8_proof_25 : decode cX8_proof 25 = .ok (.iload_n 3, 1) := by decide +kernel
theorem dX8_proof_26 : decode cX8_proof 26 = .ok (.iload_n 1, 1) := by decide +kernel
theorem dX8_proof_27 : decode cX8_proof 27 = .ok (.iload_n 2, 1) := by decide +kernel
theorem dX8_proof_28 : decode cX8_proof 28 = .ok (.iconst 0, 1) := by decide +kernel
theorem dX8_proof_29 : decode cX8_proof 29 = .ok (.iconst 0, 1) := by decide +kernel
theorem dX8_proof_30 : decode cX8_proof 30 = .ok (.invokevirtual 170, 3) := by decide +kernel
theorem dX8_proof_33 : decode cX8_proof 33 = .ok (.ireturn, 1) := by decide +kernel
set_option maxRecDepth 20000 in
theorem ggX8_found_X8_in : GoodIn wsX8_found wsX8_in := goodIn_r _ [4] (by decide +kernel) (by decide +kernel)
set_option maxRecDepth 20000 in
theorem gX8_found_X8_in : GoodIn wsX8_found (va_wsS RX8 125 yX8_in wsX8_in) := goodIn_app (goodIn_of _ (by decide +kernel)) ggX8_found_X8_in
set_option maxRecDepth 20000 in
theorem ggX8_found_X8_comes : GoodIn wsX8_found wsX8_comes := goodIn_r _ [8, 9, 10, 11, 12, 13, 14, 15, 16, 17, 18, 1, 2, 3, 4, 19, 20, 21, 22, 23, 24, 25, 26, 27, 28, 29, 30, 31, 32, 33, 34, 35, 36, 37, 38, 39, 40, 41, 42, 43, 44, 45, 46, 47, 48, 49, 50, 51, 52, 53, 54, 55, 56, 57, 58, 59, 60, 61, 62, 63, 64, 65] (by decide +kernel) (by decide +kernel)
set_option maxRecDepth 20000 in
theorem gX8_found_X8_comes : GoodIn wsX8_found (wsV RX8 170 RX8 yX8_comes wsX8_comes) := goodIn_app (goodIn_of _ (by decide +kernel)) ggX8_found_X8_comes
theorem dX8_found_0 : decode cX8_found 0 = .ok (.aload_n 0, 1) := by decide +kernel
theorem dX8_found_1 : decode cX8_found 1 = .ok (.iload_n 1, 1) := by decide +kernel
theorem dX8_found_2 : decode cX8_found 2 = .ok (.iconst 0, 1) := by decide +kernel
theorem dX8_found_3 : decode cX8_found 3 = .ok (.bipush 9, 2) := by decide +kernel
theorem dX8_found_5 : decode cX8_found 5 = .ok (.invokestatic 125, 3) := by decide +kernel
theorem dX8_found_8 : decode cX8_found 8 = .ok (.iconst 1, 1) := by decide +kernel
theorem dX8_found_9 : decode cX8_found 9 = .ok (.iload_n 2, 1) := by decide +kernel
theorem dX8_found_10 : decode cX8_found 10 = .ok (.iload_n 1, 1) := by decide +kernel
theorem dX8_found_11 : decode cX8_found 11 = .ok (.iconst 0, 1) := by decide +kernel
theorem dX8_found_12 : decode cX8_found 12 = .ok (.iconst 0, 1) := by decide +kernel
theorem dX8_found_13 : decode cX8_found 13 = .ok (.iconst 0, 1) := by decide +kernel
theorem dX8_found_14 : decode cX8_found 14 = .ok (.invokevirtual 170, 3) := by decide +kernel
theorem dX8_found_17 : decode cX8_found 17 = .ok (.ireturn, 1) := by decide +kernel
set_option maxRecDepth 20000 in
theorem ggX8_rings_X8_in : GoodIn wsX8_rings wsX8_in := goodIn_r _ [4] (by decide +kernel) (by decide +kernel)
set_option maxRecDepth 20000 in
theorem gX8_rings_X8_in : GoodIn wsX8_rings (va_wsS RX8 125 yX8_in wsX8_in) := goodIn_app (goodIn_of _ (by decide +kernel)) ggX8_rings_X8_in
set_option maxRecDepth 20000 in
theorem ggX8_rings_X8_comes : GoodIn wsX8_rings wsX8_comes := goodIn_r _ [8, 9, 10, 11, 12, 13, 14, 15, 16, 17, 18, 1, 2, 3, 4, 19, 20, 21, 22, 23, 24, 25, 26, 27, 28, 29, 30, 31, 32, 33, 34, 35, 36, 37, 38, 39, 40, 41, 42, 43, 44, 45, 46, 47, 48, 49, 50, 51, 52, 53, 54, 55, 56, 57, 58, 59, 60, 61, 62, 63, 64, 65] (by decide +kernel) (by decide +kernel)
set_option maxRecDepth 20000 in
theorem gX8_rings_X8_comes : GoodIn wsX8_rings (wsV RX8 170 RX8 yX8_comes wsX8_comes) := goodIn_app (goodIn_of _ (by decide +kernel)) ggX8_rings_X8_comes
theorem dX8_rings_0 : decode cX8_rings 0 = .ok (.aload_n 0, 1) := by decide +kernel
theorem dX8_rings_1 : decode cX8_rings 1 = .ok (.iload_n 1, 1) := by decide +kernel
theorem dX8_rings_2 : decode cX8_rings 2 = .ok (.sipush 1000, 3) := by decide +kernel
theorem dX8_rings_5 : decode cX8_rings 5 = .ok (.sipush 2000, 3) := by decide +kernel
theorem dX8_rings_8 : decode cX8_rings 8 = .ok (.invokestatic 125, 3) := by decide +kernel
theorem dX8_rings_11 : decode cX8_rings 11 = .ok (.ifCond .eq 17, 3) := by decide +kernel
theorem dX8_rings_14 : decode cX8_rings 14 = .ok (.iload_n 2, 1) := by decide +kernel
theorem dX8_rings_15 : decode cX8_rings 15 = .ok (.iconst 0, 1) := by decide +kernel
theorem dX8_rings_16 : decode cX8_rings 16 = .ok (.bipush 30, 2) := by decide +kernel
theorem dX8_rings_18 : decode cX8_rings 18 = .ok (.invokestatic 125, 3) := by decide +kernel
theorem dX8_rings_21 : decode cX8_rings 21 = .ok (.ifCond .eq 7, 3) := by decide +kernel
theorem dX8_rings_24 : decode cX8_rings 24 = .ok (.iconst 1, 1) := by decide +kernel
theorem dX8_rings_25 : decode cX8_rings 25 = .ok (.goto 4, 3) := by decide +kernel
theorem dX8_rings_28 : decode cX8_rings 28 = .ok (.iconst 0, 1) := by decide +kernel
theorem dX8_rings_29 : decode cX8_rings 29 = .ok (.iconst 2, 1) := by decide +kernel
theorem dX8_rings_30 : decode cX8_rings 30 = .ok (.iload_n 3, 1) := by decide +kernel
theorem dX8_rings_31 : decode cX8_rings 31 = .ok (.iload_n 1, 1) := by decide +kernel
theorem dX8_rings_32 : decode cX8_rings 32 = .ok (.iload_n 2, 1) := by decide +kernel
theorem dX8_rings_33 : decode cX8_rings 33 = .ok (.iconst 0, 1) := by decide +kernel
theorem dX8_rings_34 : decode cX8_rings 34 = .ok (.iconst 0, 1) := by decide +kernel
theorem dX8_rings_35 : decode cX8_rings 35 = .ok (.invokevirtual 170, 3) := by decide +kernel
theorem dX8_rings_38 : decode cX8_rings 38 = .ok (.ireturn, 1) := by decide +kernel
set_option maxRecDepth 20000 in
theorem ggX8_threads_X8_isRow : GoodIn wsX8_threads wsX8_isRow := goodIn_r _ [4, 5, 6, 3, 7] (by decide +kernel) (by decide +kernel)
set_option maxRecDepth 20000 in
theorem gX8_threads_X8_isRow : GoodIn wsX8_threads (va_wsS RX8 138 yX8_isRow wsX8_isRow) := goodIn_app (goodIn_of _ (by decide +kernel)) ggX8_threads_X8_isRow
set_option maxRecDepth 20000 in
theorem ggX8_threads_X8_isYear : GoodIn wsX8_threads wsX8_isYear := goodIn_r _ [10, 5, 6, 3, 7] (by decide +kernel) (by decide +kernel)
set_option maxRecDepth 20000 in
theorem gX8_threads_X8_isYear : GoodIn wsX8_threads (va_wsS RX8 164 yX8_isYear wsX8_isYear) := goodIn_app (goodIn_of _ (by decide +kernel)) ggX8_threads_X8_isYear
set_option maxRecDepth 20000 in
theorem ggX8_threads_X8_in : GoodIn wsX8_threads wsX8_in := goodIn_r _ [7] (by decide +kernel) (by decide +kernel)
set_option maxRecDepth 20000 in
theorem gX8_threads_X8_in : GoodIn wsX8_threads (va_wsS RX8 125 yX8_in wsX8_in) := goodIn_app (goodIn_of _ (by decide +kernel)) ggX8_threads_X8_in
set_option maxRecDepth 20000 in
theorem ggX8_threads_X8_comes : GoodIn wsX8_threads wsX8_comes := goodIn_r _ [14, 15, 16, 17, 18, 19, 20, 21, 22, 23, 24, 5, 6, 3, 7, 25, 26, 27, 28, 29, 30, 31, 32, 33, 34, 35, 36, 37, 38, 39, 40, 41, 42, 43, 44, 45, 46, 47, 48, 49, 50, 51, 52, 53, 54, 55, 56, 57, 58, 59, 60, 61, 62, 63, 64, 65, 66, 67, 68, 69, 70, 71] (by decide +kernel) (by decide +kernel)
set_option maxRecDepth 20000 in
theorem gX8_threads_X8_comes : GoodIn wsX8_threads (wsV RX8 170 RX8 yX8_comes wsX8_comes) := goodIn_app (goodIn_of _ (by decide +kernel)) ggX8_threads_X8_comes
theorem dX8_threads_0 : decode cX8_threads 0 = .ok (.aload_n 0, 1) := by decide +kernel
theorem dX8_threads_1 : decode cX8_threads 1 = .ok (.iload_n 1, 1) := by decide +kernel
theorem dX8_threads_2 : decode cX8_threads 2 = .ok (.invokestatic 138, 3) := by decide +kernel
theorem dX8_threads_5 : decode cX8_threads 5 = .ok (.ifCond .eq 38, 3) := by decide +kernel
theorem dX8_threads_8 : decode cX8_threads 8 = .ok (.iload_n 2, 1) := by decide +kernel
theorem dX8_threads_9 : decode cX8_threads 9 = .ok (.invokestatic 138, 3) := by decide +kernel
theorem dX8_threads_12 : decode cX8_threads 12 = .ok (.ifCond .eq 31, 3) := by decide +kernel
theorem dX8_threads_15 : decode cX8_threads 15 = .ok (.iload_n 1, 1) := by decide +kernel
theorem dX8_threads_16 : decode cX8_threads 16 = .ok (.iload_n 2, 1) := by decide +kernel
theorem dX8_threads_17 : decode cX8_threads 17 = .ok (.if_icmp .eq 26, 3) := by decide +kernel
theorem dX8_threads_20 : decode cX8_threads 20 = .ok (.iload_n 3, 1) := by decide +kernel
theorem dX8_threads_21 : decode cX8_threads 21 = .ok (.invokestatic 164, 3) := by decide +kernel
theorem dX8_threads_24 : decode cX8_threads 24 = .ok (.ifCond .eq 19, 3) := by decide +kernel
theorem dX8_threads_27 : decode cX8_threads 27 = .ok (.iload 4, 2) := by decide +kernel
theorem dX8_threads_29 : decode cX8_threads 29 = .ok (.iload_n 3, 1) := by decide +kernel
theorem dX8_threads_30 : decode cX8_threads 30 = .ok (.sipush 2100, 3) := by decide +kernel
theorem dX8_threads_33 : decode cX8_threads 33 = .ok (.invokestatic 125, 3) := by decide +kernel
theorem dX8_threads_36 : decode cX8_threads 36 = .ok (.ifCond .eq 7, 3) := by decide +kernel
theorem dX8_threads_39 : decode cX8_threads 39 = .ok (.iconst 1, 1) := by decide +kernel
theorem dX8_threads_40 : decode cX8_threads 40 = .ok (.goto 4, 3) := by decide +kernel
theorem dX8_threads_43 : decode cX8_threads 43 = .ok (.iconst 0, 1) := by decide +kernel
theorem dX8_threads_44 : decode cX8_threads 44 = .ok (.iconst 3, 1) := by decide +kernel
theorem dX8_threads_45 : decode cX8_threads 45 = .ok (.iload 5, 2) := by decide +kernel
theorem dX8_threads_47 : decode cX8_threads 47 = .ok (.iload_n 3, 1) := by decide +kernel
theorem dX8_threads_48 : decode cX8_threads 48 = .ok (.iload 4, 2) := by decide +kernel
theorem dX8_threads_50 : decode cX8_threads 50 = .ok (.iload_n 1, 1) := by decide +kernel
theorem dX8_threads_51 : decode cX8_threads 51 = .ok (.iload_n 2, 1) := by decide +kernel
theorem dX8_threads_52 : decode cX8_threads 52 = .ok (.invokevirtual 170, 3) := by decide +kernel
theorem dX8_threads_55 : decode cX8_threads 55 = .ok (.ireturn, 1) := by decide +kernel
set_option maxRecDepth 20000 in
theorem ggX8_isProof_X8_in : GoodIn wsX8_isProof wsX8_in := goodIn_r _ [5] (by decide +kernel) (by decide +kernel)
set_option maxRecDepth 20000 in
theorem gX8_isProof_X8_in : GoodIn wsX8_isProof (va_wsS RX8 125 yX8_in wsX8_in) := goodIn_app (goodIn_of _ (by decide +kernel)) ggX8_isProof_X8_in
theorem dX8_isProof_0 : decode cX8_isProof 0 = .ok (.iload_n 1, 1) := by decide +kernel
theorem dX8_isProof_1 : decode cX8_isProof 1 = .ok (.iconst 0, 1) := by decide +kernel
theorem dX8_isProof_2 : decode cX8_isProof 2 = .ok (.aload_n 0, 1) := by decide +kernel
theorem dX8_isProof_3 : decode cX8_isProof 3 = .ok (.getfield 167, 3) := by decide +kernel
theorem dX8_isProof_6 : decode cX8_isProof 6 = .ok (.iconst 1, 1) := by decide +kernel
theorem dX8_isProof_7 : decode cX8_isProof 7 = .ok (.isub, 1) := by decide +kernel
theorem dX8_isProof_8 : decode cX8_isProof 8 = .ok (.invokestatic 125, 3) := by decide +kernel
theorem dX8_isProof_11 : decode cX8_isProof 11 = .ok (.ireturn, 1) := by decide +kernel
set_option maxRecDepth 20000 in
theorem ggX8_strike_X8_isProof : GoodIn wsX8_strike wsX8_isProof := goodIn_r _ [7, 8, 9, 10, 6, 11, 12, 13, 14, 15, 16, 17, 18, 19, 20, 21, 22, 23, 24, 25, 26, 27, 28, 29, 30, 31, 32, 33, 34, 35, 36, 37, 38, 39, 40, 41, 42, 43, 44, 45, 46, 47, 48, 49, 50, 51, 52, 53, 54, 55, 56, 57, 58] (by decide +kernel) (by decide +kernel)
set_option maxRecDepth 20000 in
theorem gX8_strike_X8_isProof : GoodIn wsX8_strike (wsV RX8 174 RX8 yX8_isProof wsX8_isProof) := goodIn_app (goodIn_of _ (by decide +kernel)) ggX8_strike_X8_isProof
theorem dX8_strike_0 : decode cX8_strike 0 = .ok (.aload_n 0, 1) := by decide +kernel
theorem dX8_strike_1 : decode cX8_strike 1 = .ok (.iload_n 1, 1) := by decide +kernel
theorem dX8_strike_2 : decode cX8_strike 2 = .ok (.invokevirtual 174, 3) := by decide +kernel
theorem dX8_strike_5 : decode cX8_strike 5 = .ok (.ifCond .ne 5, 3) := by decide +kernel
theorem dX8_strike_8 : decode cX8_strike 8 = .ok (.iconst (-1), 1) := by decide +kernel
theorem dX8_strike_9 : decode cX8_strike 9 = .ok (.ireturn, 1) := by decide +kernel
theorem dX8_strike_10 : decode cX8_strike 10 = .ok (.aload_n 0, 1) := by decide +kernel
theorem dX8_strike_11 : decode cX8_strike 11 = .ok (.getfield 35, 3) := by decide +kernel
theorem dX8_strike_14 : decode cX8_strike 14 = .ok (.iload_n 1, 1) := by decide +kernel
theorem dX8_strike_15 : decode cX8_strike 15 = .ok (.iaload, 1) := by decide +kernel
theorem dX8_strike_16 : decode cX8_strike 16 = .ok (.bipush (-9), 2) := by decide +kernel
theorem dX8_strike_18 : decode cX8_strike 18 = .ok (.if_icmp .eq 6, 3) := by decide +kernel
theorem dX8_strike_21 : decode cX8_strike 21 = .ok (.bipush (-4), 2) := by decide +kernel
theorem dX8_strike_23 : decode cX8_strike 23 = .ok (.ireturn, 1) := by decide +kernel
theorem dX8_strike_24 : decode cX8_strike 24 = .ok (.aload_n 0, 1) := by decide +kernel
theorem dX8_strike_25 : decode cX8_strike 25 = .ok (.getfield 35, 3) := by decide +kernel
theorem dX8_strike_28 : decode cX8_strike 28 = .ok (.iload_n 1, 1) := by decide +kernel
theorem dX8_strike_29 : decode cX8_strike 29 = .ok (.aload_n 0, 1) := by decide +kernel
theorem dX8_strike_30 : decode cX8_strike 30 = .ok (.getfield 135, 3) := by decide +kernel
theorem dX8_strike_33 : decode cX8_strike 33 = .ok (.iastore, 1) := by decide +kernel
theorem dX8_strike_34 : decode cX8_strike 34 = .ok (.iconst 1, 1) := by decide +kernel
theorem dX8_strike_35 : decode cX8_strike 35 = .ok (.ireturn, 1) := by decide +kernel
theorem dX8_lack_0 : decode cX8_lack 0 = .ok (.iload_n 0, 1) := by decide +kernel
theorem dX8_lack_1 : decode cX8_lack 1 = .ok (.iload_n 1, 1) := by decide +kernel
theorem dX8_lack_2 : decode cX8_lack 2 = .ok (.if_icmp .le 9, 3) := by decide +kernel
theorem dX8_lack_5 : decode cX8_lack 5 = .ok (.iload_n 0, 1) := by decide +kernel
theorem dX8_lack_6 : decode cX8_lack 6 = .ok (.iload_n 1, 1) := by decide +kernel
theorem dX8_lack_7 : decode cX8_lack 7 = .ok (.isub, 1) := by decide +kernel
theorem dX8_lack_8 : decode cX8_lack 8 = .ok (.goto 4, 3) := by decide +kernel
theorem dX8_lack_11 : decode cX8_lack 11 = .ok (.iconst 0, 1) := by decide +kernel
theorem dX8_lack_12 : decode cX8_lack 12 = .ok (.ireturn, 1) := by decide +kernel
set_option maxRecDepth 20000 in
theorem ggX8_fromOf_X8_lack : GoodIn wsX8_fromOf wsX8_lack := goodIn_r _ [11] (by decide +kernel) (by decide +kernel)
set_option maxRecDepth 20000 in
theorem gX8_fromOf_X8_lack : GoodIn wsX8_fromOf (va_wsS RX8 177 yX8_lack wsX8_lack) := goodIn_app (goodIn_of _ (by decide +kernel)) ggX8_fromOf_X8_lack
set_option maxRecDepth 20000 in
theorem ggX8_fromOf_X8_isSure : GoodIn wsX8_fromOf wsX8_isSure := goodIn_r _ [15, 16, 17, 18, 10, 19, 20, 21, 22, 23, 24, 25, 26, 27, 28, 29, 30, 31, 32, 33, 34, 35, 36, 37, 38, 39, 40, 41, 42, 43, 44, 45, 46, 47, 48, 49, 50, 51, 52, 53, 54, 55, 56, 57, 58, 59, 60, 61, 62, 63, 64, 65, 66, 67, 68, 69, 70, 71, 72, 73, 74, 75, 76] (by decide +kernel) (by decide +kernel)
set_option maxRecDepth 20000 in
theorem gX8_fromOf_X8_isSure : GoodIn wsX8_fromOf (wsV RX8 161 RX8 yX8_isSure wsX8_isSure) := goodIn_app (goodIn_of _ (by decide +kernel)) ggX8_fromOf_X8_isSure
theorem dX8_fromOf_0 : decode cX8_fromOf 0 = .ok (.aload_n 0, 1) := by decide +kernel
theorem dX8_fromOf_1 : decode cX8_fromOf 1 = .ok (.getfield 26, 3) := by decide +kernel
theorem dX8_fromOf_4 : decode cX8_fromOf 4 = .ok (.iload_n 1, 1) := by decide +kernel
theorem dX8_fromOf_5 : decode cX8_fromOf 5 = .ok (.iaload, 1) := by decide +kernel
theorem dX8_fromOf_6 : decode cX8_fromOf 6 = .ok (.tableswitch 91 1 3 #[26, 38, 59], 26) := by decide +kernel
theorem dX8_fromOf_32 : decode cX8_fromOf 32 = .ok (.aload_n 0, 1) := by decide +kernel
theorem dX8_fromOf_33 : decode cX8_fromOf 33 = .ok (.getfield 23, 3) := by decide +kernel
theorem dX8_fromOf_36 : decode cX8_fromOf 36 = .ok (.aload_n 0, 1) := by decide +kernel
theorem dX8_fromOf_37 : decode cX8_fromOf 37 = .ok (.getfield 38, 3) := by decide +kernel
theorem dX8_fromOf_40 : decode cX8_fromOf 40 = .ok (.iload_n 1, 1) := by decide +kernel
theorem dX8_fromOf_41 : decode cX8_fromOf 41 = .ok (.iaload, 1) := by decide +kernel
theorem dX8_fromOf_42 : decode cX8_fromOf 42 = .ok (.iaload, 1) := by decide +kernel
theorem dX8_fromOf_43 : decode cX8_fromOf 43 = .ok (.ireturn, 1) := by decide +kernel
theorem dX8_fromOf_44 : decode cX8_fromOf 44 = .ok (.aload_n 0, 1) := by decide +kernel
theorem dX8_fromOf_45 : decode cX8_fromOf 45 = .ok (.getfield 38, 3) := by decide +kernel
theorem dX8_fromOf_48 : decode cX8_fromOf 48 = .ok (.iload_n 1, 1) := by decide +kernel
theorem dX8_fromOf_49 : decode cX8_fromOf 49 = .ok (.iaload, 1) := by decide +kernel
theorem dX8_fromOf_50 : decode cX8_fromOf 50 = .ok (.aload_n 0, 1) := by decide +kernel
theorem dX8_fromOf_51 : decode cX8_fromOf 51 = .ok (.getfield 109, 3) := by decide +kernel
theorem dX8_fromOf_54 : decode cX8_fromOf 54 = .ok (.aload_n 0, 1) := by decide +kernel
theorem dX8_fromOf_55 : decode cX8_fromOf 55 = .ok (.getfield 41, 3) := by decide +kernel
theorem dX8_fromOf_58 : decode cX8_fromOf 58 = .ok (.iload_n 1, 1) := by decide +kernel
theorem dX8_fromOf_59 : decode cX8_fromOf 59 = .ok (.iaload, 1) := by decide +kernel
theorem dX8_fromOf_60 : decode cX8_fromOf 60 = .ok (.invokestatic 177, 3) := by decide +kernel
theorem dX8_fromOf_63 : decode cX8_fromOf 63 = .ok (.iadd, 1) := by decide +kernel
theorem dX8_fromOf_64 : decode cX8_fromOf 64 = .ok (.ireturn, 1) := by decide +kernel
theorem dX8_fromOf_65 : decode cX8_fromOf 65 = .ok (.aload_n 0, 1) := by decide +kernel
theorem dX8_fromOf_66 : decode cX8_fromOf 66 = .ok (.aload_n 0, 1) := by decide +kernel
theorem dX8_fromOf_67 : decode cX8_fromOf 67 = .ok (.getfield 44, 3) := by decide +kernel
theorem dX8_fromOf_70 : decode cX8_fromOf 70 = .ok (.iload_n 1, 1) := by decide +kernel
theorem dX8_fromOf_71 : decode cX8_fromOf 71 = .ok (.iaload, 1) := by decide +kernel
theorem dX8_fromOf_72 : decode cX8_fromOf 72 = .ok (.aload_n 0, 1) := by decide +kernel
theorem dX8_fromOf_73 : decode cX8_fromOf 73 = .ok (.getfield 47, 3) := by decide +kernel
theorem dX8_fromOf_76 : decode cX8_fromOf 76 = .ok (.iload_n 1, 1) := by decide +kernel
theorem dX8_fromOf_77 : decode cX8_fromOf 77 = .ok (.iaload, 1) := by decide +kernel
theorem dX8_fromOf_78 : decode cX8_fromOf 78 = .ok (.invokevirtual 161, 3) := by decide +kernel
theorem dX8_fromOf_81 : decode cX8_fromOf 81 = .ok (.ifCond .eq 12, 3) := by decide +kernel
theorem dX8_fromOf_84 : decode cX8_fromOf 84 = .ok (.aload_n 0, 1) := by decide +kernel
theorem dX8_fromOf_85 : decode cX8_fromOf 85 = .ok (.getfield 38, 3) := by decide +kernel
theorem dX8_fromOf_88 : decode cX8_fromOf 88 = .ok (.iload_n 1, 1) := by decide +kernel
theorem dX8_fromOf_89 : decode cX8_fromOf 89 = .ok (.iaload, 1) := by decide +kernel
theorem dX8_fromOf_90 : decode cX8_fromOf 90 = .ok (.goto 6, 3) := by decide +kernel
theorem dX8_fromOf_93 : decode cX8_fromOf 93 = .ok (.sipush 1000, 3) := by decide +kernel
theorem dX8_fromOf_96 : decode cX8_fromOf 96 = .ok (.ireturn, 1) := by decide +kernel
theorem dX8_fromOf_97 : decode cX8_fromOf 97 = .ok (.aload_n 0, 1) := by decide +kernel
theorem dX8_fromOf_98 : decode cX8_fromOf 98 = .ok (.getfield 38, 3) := by decide +kernel
theorem dX8_fromOf_101 : decode cX8_fromOf 101 = .ok (.iload_n 1, 1) := by decide +kernel
theorem dX8_fromOf_102 : decode cX8_fromOf 102 = .ok (.iaload, 1) := by decide +kernel
theorem dX8_fromOf_103 : decode cX8_fromOf 103 = .ok (.ireturn, 1) := by decide +kernel
set_option maxRecDepth 20000 in
theorem ggX8_toOf_X8_lack : GoodIn wsX8_toOf wsX8_lack := goodIn_r _ [11] (by decide +kernel) (by decide +kernel)
set_option maxRecDepth 20000 in
theorem gX8_toOf_X8_lack : GoodIn wsX8_toOf (va_wsS RX8 177 yX8_lack wsX8_lack) := goodIn_app (goodIn_of _ (by decide +kernel)) ggX8_toOf_X8_lack
set_option maxRecDepth 20000 in
theorem ggX8_toOf_X8_isSure : GoodIn wsX8_toOf wsX8_isSure := goodIn_r _ [15, 16, 17, 18, 10, 19, 20, 21, 22, 23, 24, 25, 26, 27, 28, 29, 30, 31, 32, 33, 34, 35, 36, 37, 38, 39, 40, 41, 42, 43, 44, 45, 46, 47, 48, 49, 50, 51, 52, 53, 54, 55, 56, 57, 58, 59, 60, 61, 62, 63, 64, 65, 66, 67, 68, 69, 70, 71, 72, 73, 74, 75, 76] (by decide +kernel) (by decide +kernel)
set_option maxRecDepth 20000 in
theorem gX8_toOf_X8_isSure : GoodIn wsX8_toOf (wsV RX8 161 RX8 yX8_isSure wsX8_isSure) := goodIn_app (goodIn_of _ (by decide +kernel)) ggX8_toOf_X8_isSure
theorem dX8_toOf_0 : decode cX8_toOf 0 = .ok (.sipush 2100, 3) := by decide +kernel
theorem dX8_toOf_3 : decode cX8_toOf 3 = .ok (.istore_n 2, 1) := by decide +kernel
theorem dX8_toOf_4 : decode cX8_toOf 4 = .ok (.aload_n 0, 1) := by decide +kernel
theorem dX8_toOf_5 : decode cX8_toOf 5 = .ok (.getfield 26, 3) := by decide +kernel
theorem dX8_toOf_8 : decode cX8_toOf 8 = .ok (.iload_n 1, 1) := by decide +kernel
theorem dX8_toOf_9 : decode cX8_toOf 9 = .ok (.iaload, 1) := by decide +kernel
theorem dX8_toOf_10 : decode cX8_toOf 10 = .ok (.tableswitch 93 1 3 #[26, 29, 58], 26) := by decide +kernel
theorem dX8_toOf_36 : decode cX8_toOf 36 = .ok (.goto 74, 3) := by decide +kernel
theorem dX8_toOf_39 : decode cX8_toOf 39 = .ok (.aload_n 0, 1) := by decide +kernel
theorem dX8_toOf_40 : decode cX8_toOf 40 = .ok (.getfield 38, 3) := by decide +kernel
theorem dX8_toOf_43 : decode cX8_toOf 43 = .ok (.iload_n 1, 1) := by decide +kernel
theorem dX8_toOf_44 : decode cX8_toOf 44 = .ok (.iaload, 1) := by decide +kernel
theorem dX8_toOf_45 : decode cX8_toOf 45 = .ok (.aload_n 0, 1) := by decide +kernel
theorem dX8_toOf_46 : decode cX8_toOf 46 = .ok (.getfield 113, 3) := by decide +kernel
theorem dX8_toOf_49 : decode cX8_toOf 49 = .ok (.aload_n 0, 1) := by decide +kernel
theorem dX8_toOf_50 : decode cX8_toOf 50 = .ok (.getfield 41, 3) := by decide +kernel
theorem dX8_toOf_53 : decode cX8_toOf 53 = .ok (.iload_n 1, 1) := by decide +kernel
theorem dX8_toOf_54 : decode cX8_toOf 54 = .ok (.iaload, 1) := by decide +kernel
theorem dX8_toOf_55 : decode cX8_toOf 55 = .ok (.invokestatic 177, 3) := by decide +kernel
theorem dX8_toOf_58 : decode cX8_toOf 58 = .ok (.iadd, 1) := by decide +kernel
theorem dX8_toOf_59 : decode cX8_toOf 59 = .ok (.aload_n 0, 1) := by decide +kernel
theorem dX8_toOf_60 : decode cX8_toOf 60 = .ok (.getfield 116, 3) := by decide +kernel
theorem dX8_toOf_63 : decode cX8_toOf 63 = .ok (.iadd, 1) := by decide +kernel
theorem dX8_toOf_64 : decode cX8_toOf 64 = .ok (.istore_n 2, 1) := by decide +kernel
theorem dX8_toOf_65 : decode cX8_toOf 65 = .ok (.goto 45, 3) := by decide +kernel
theorem dX8_toOf_68 : decode cX8_toOf 68 = .ok (.aload_n 0, 1) := by decide +kernel
theorem dX8_toOf_69 : decode cX8_toOf 69 = .ok (.aload_n 0, 1) := by decide +kernel
theorem dX8_toOf_70 : decode cX8_toOf 70 = .ok (.getfield 44, 3) := by decide +kernel
theorem dX8_toOf_73 : decode cX8_toOf 73 = .ok (.iload_n 1, 1) := by decide +kernel
theorem dX8_toOf_74 : decode cX8_toOf 74 = .ok (.iaload, 1) := by decide +kernel
theorem dX8_toOf_75 : decode cX8_toOf 75 = .ok (.aload_n 0, 1) := by decide +kernel
theorem dX8_toOf_76 : decode cX8_toOf 76 = .ok (.getfield 47, 3) := by decide +kernel
theorem dX8_toOf_79 : decode cX8_toOf 79 = .ok (.iload_n 1, 1) := by decide +kernel
theorem dX8_toOf_80 : decode cX8_toOf 80 = .ok (.iaload, 1) := by decide +kernel
theorem dX8_toOf_81 : decode cX8_toOf 81 = .ok (.invokevirtual 161, 3) := by decide +kernel
theorem dX8_toOf_84 : decode cX8_toOf 84 = .ok (.ifCond .eq 12, 3) := by decide +kernel
theorem dX8_toOf_87 : decode cX8_toOf 87 = .ok (.aload_n 0, 1) := by decide +kernel
theorem dX8_toOf_88 : decode cX8_toOf 88 = .ok (.getfield 41, 3) := by decide +kernel
theorem dX8_toOf_91 : decode cX8_toOf 91 = .ok (.iload_n 1, 1) := by decide +kernel
theorem dX8_toOf_92 : decode cX8_toOf 92 = .ok (.iaload, 1) := by decide +kernel
theorem dX8_toOf_93 : decode cX8_toOf 93 = .ok (.goto 6, 3) := by decide +kernel
theorem dX8_toOf_96 : decode cX8_toOf 96 = .ok (.sipush 2100, 3) := by decide +kernel
theorem dX8_toOf_99 : decode cX8_toOf 99 = .ok (.istore_n 2, 1) := by decide +kernel
theorem dX8_toOf_100 : decode cX8_toOf 100 = .ok (.goto 10, 3) := by decide +kernel
theorem dX8_toOf_103 : decode cX8_toOf 103 = .ok (.aload_n 0, 1) := by decide +kernel
theorem dX8_toOf_104 : decode cX8_toOf 104 = .ok (.getfield 41, 3) := by decide +kernel
theorem dX8_toOf_107 : decode cX8_toOf 107 = .ok (.iload_n 1, 1) := by decide +kernel
theorem dX8_toOf_108 : decode cX8_toOf 108 = .ok (.iaload, 1) := by decide +kernel
theorem dX8_toOf_109 : decode cX8_toOf 109 = .ok (.istore_n 2, 1) := by decide +kernel
theorem dX8_toOf_110 : decode cX8_toOf 110 = .ok (.iload_n 2, 1) := by decide +kernel
theorem dX8_toOf_111 : decode cX8_toOf 111 = .ok (.sipush 2100, 3) := by decide +kernel
theorem dX8_toOf_114 : decode cX8_toOf 114 = .ok (.if_icmp .le 9, 3) := by decide +kernel
theorem dX8_toOf_117 : decode cX8_toOf 117 = .ok (.sipush 2100, 3) := by decide +kernel
theorem dX8_toOf_120 : decode cX8_toOf 120 = .ok (.goto 4, 3) := by decide +kernel
theorem dX8_toOf_123 : decode cX8_toOf 123 = .ok (.iload_n 2, 1) := by decide +kernel
theorem dX8_toOf_124 : decode cX8_toOf 124 = .ok (.ireturn, 1) := by decide +kernel
set_option maxRecDepth 20000 in
theorem ggX8_toldOf_X8_fromOf : GoodIn wsX8_toldOf wsX8_fromOf := goodIn_r _ [9, 1, 10, 11, 12, 13, 14, 15, 16, 17, 8, 18, 19, 20, 21, 22, 23, 24, 25, 26, 27, 28, 29, 30, 31, 32, 33, 34, 35, 36, 43, 44, 45, 46, 47, 48, 49, 50, 51, 52, 53, 54, 55, 56, 57, 58, 59, 60, 61, 62, 63, 64, 65, 66, 67, 68, 69, 70, 71, 72, 73, 74, 75, 76, 77, 78, 79, 80, 81, 82, 83, 84, 85, 86, 87, 88, 89] (by decide +kernel) (by decide +kernel)
set_option maxRecDepth 20000 in
theorem gX8_toldOf_X8_fromOf : GoodIn wsX8_toldOf (wsV RX8 180 RX8 yX8_fromOf wsX8_fromOf) := goodIn_app (goodIn_of _ (by decide +kernel)) ggX8_toldOf_X8_fromOf
set_option maxRecDepth 20000 in
theorem ggX8_toldOf_X8_toOf : GoodIn wsX8_toldOf wsX8_toOf := goodIn_r _ [40, 1, 11, 41, 13, 42, 14, 15, 16, 17, 8, 18, 19, 20, 21, 22, 23, 24, 25, 26, 27, 28, 29, 30, 31, 32, 33, 34, 35, 36, 43, 44, 45, 46, 47, 48, 49, 50, 51, 52, 53, 54, 55, 56, 57, 58, 59, 60, 61, 62, 63, 64, 65, 66, 67, 68, 69, 70, 71, 72, 73, 74, 75, 76, 77, 78, 79, 80, 81, 82, 83, 84, 85, 86, 87, 88, 89] (by decide +kernel) (by decide +kernel)
set_option maxRecDepth 20000 in
theorem gX8_toldOf_X8_toOf : GoodIn wsX8_toldOf (wsV RX8 183 RX8 yX8_toOf wsX8_toOf) := goodIn_app (goodIn_of _ (by decide +kernel)) ggX8_toldOf_X8_toOf
theorem dX8_toldOf_0 : decode cX8_toldOf 0 = .ok (.iload_n 2, 1) := by decide +kernel
theorem dX8_toldOf_1 : decode cX8_toldOf 1 = .ok (.tableswitch 69 0 4 #[35, 42, 49, 56, 63], 35) := by decide +kernel
theorem dX8_toldOf_36 : decode cX8_toldOf 36 = .ok (.aload_n 0, 1) := by decide +kernel
theorem dX8_toldOf_37 : decode cX8_toldOf 37 = .ok (.getfield 26, 3) := by decide +kernel
theorem dX8_toldOf_40 : decode cX8_toldOf 40 = .ok (.iload_n 1, 1) := by decide +kernel
theorem dX8_toldOf_41 : decode cX8_toldOf 41 = .ok (.iaload, 1) := by decide +kernel
theorem dX8_toldOf_42 : decode cX8_toldOf 42 = .ok (.ireturn, 1) := by decide +kernel
theorem dX8_toldOf_43 : decode cX8_toldOf 43 = .ok (.aload_n 0, 1) := by decide +kernel
theorem dX8_toldOf_44 : decode cX8_toldOf 44 = .ok (.getfield 29, 3) := by decide +kernel
theorem dX8_toldOf_47 : decode cX8_toldOf 47 = .ok (.iload_n 1, 1) := by decide +kernel
theorem dX8_toldOf_48 : decode cX8_toldOf 48 = .ok (.iaload, 1) := by decide +kernel
theorem dX8_toldOf_49 : decode cX8_toldOf 49 = .ok (.ireturn, 1) := by decide +kernel
theorem dX8_toldOf_50 : decode cX8_toldOf 50 = .ok (.aload_n 0, 1) := by decide +kernel
theorem dX8_toldOf_51 : decode cX8_toldOf 51 = .ok (.getfield 32, 3) := by decide +kernel
theorem dX8_toldOf_54 : decode cX8_toldOf 54 = .ok (.iload_n 1, 1) := by decide +kernel
theorem dX8_toldOf_55 : decode cX8_toldOf 55 = .ok (.iaload, 1) := by decide +kernel
theorem dX8_toldOf_56 : decode cX8_toldOf 56 = .ok (.ireturn, 1) := by decide +kernel
theorem dX8_toldOf_57 : decode cX8_toldOf 57 = .ok (.aload_n 0, 1) := by decide +kernel
theorem dX8_toldOf_58 : decode cX8_toldOf 58 = .ok (.getfield 35, 3) := by decide +kernel
theorem dX8_toldOf_61 : decode cX8_toldOf 61 = .ok (.iload_n 1, 1) := by decide +kernel
theorem dX8_toldOf_62 : decode cX8_toldOf 62 = .ok (.iaload, 1) := by decide +kernel
theorem dX8_toldOf_63 : decode cX8_toldOf 63 = .ok (.ireturn, 1) := by decide +kernel
theorem dX8_toldOf_64 : decode cX8_toldOf 64 = .ok (.aload_n 0, 1) := by decide +kernel
theorem dX8_toldOf_65 : decode cX8_toldOf 65 = .ok (.iload_n 1, 1) := by decide +kernel
theorem dX8_toldOf_66 : decode cX8_toldOf 66 = .ok (.invokevirtual 180, 3) := by decide +kernel
theorem dX8_toldOf_69 : decode cX8_toldOf 69 = .ok (.ireturn, 1) := by decide +kernel
theorem dX8_toldOf_70 : decode cX8_toldOf 70 = .ok (.aload_n 0, 1) := by decide +kernel
theorem dX8_toldOf_71 : decode cX8_toldOf 71 = .ok (.iload_n 1, 1) := by decide +kernel
theorem dX8_toldOf_72 : decode cX8_toldOf 72 = .ok (.invokevirtual 183, 3) := by decide +kernel
theorem dX8_toldOf_75 : decode cX8_toldOf 75 = .ok (.ireturn, 1) := by decide +kernel
set_option maxRecDepth 20000 in
theorem ggX8_told_X8_isProof : GoodIn wsX8_told wsX8_isProof := goodIn_r _ [5, 6, 7, 8, 4, 9, 55, 56, 57, 58, 59, 60, 61, 62, 63, 64, 65, 66, 67, 68, 69, 70, 71, 72, 73, 74, 75, 76, 77, 78, 79, 80, 81, 82, 83, 84, 85, 86, 87, 88, 89, 90, 91, 92, 93, 94, 95, 96, 97, 98, 99, 100, 101] (by decide +kernel) (by decide +kernel)
set_option maxRecDepth 20000 in
theorem gX8_told_X8_isProof : GoodIn wsX8_told (wsV RX8 174 RX8 yX8_isProof wsX8_isProof) := goodIn_app (goodIn_of _ (by decide +kernel)) ggX8_told_X8_isProof
set_option maxRecDepth 20000 in
theorem ggX8_told_X8_in : GoodIn wsX8_told wsX8_in := goodIn_r _ [9] (by decide +kernel) (by decide +kernel)
set_option maxRecDepth 20000 in
theorem gX8_told_X8_in : GoodIn wsX8_told (va_wsS RX8 125 yX8_in wsX8_in) := goodIn_app (goodIn_of _ (by decide +kernel)) ggX8_told_X8_in
set_option maxRecDepth 20000 in
theorem ggX8_told_X8_toldOf : GoodIn wsX8_told wsX8_toldOf := goodIn_r _ [13, 14, 15, 16, 17, 18, 19, 20, 4, 21, 22, 23, 24, 25, 26, 27, 28, 29, 30, 31, 32, 33, 34, 35, 36, 37, 38, 39, 40, 41, 42, 43, 44, 45, 46, 47, 48, 49, 50, 51, 52, 53, 54, 55, 56, 57, 58, 59, 60, 61, 62, 63, 64, 65, 66, 67, 68, 69, 70, 71, 72, 73, 74, 75, 76, 77, 78, 79, 80, 81, 82, 83, 84, 85, 86, 87, 88, 89, 90, 91, 92, 93, 94, 95, 96, 97, 98, 99, 100, 101] (by decide +kernel) (by decide +kernel)
set_option maxRecDepth 20000 in
theorem gX8_told_X8_toldOf : GoodIn wsX8_told (wsV RX8 186 RX8 yX8_toldOf wsX8_toldOf) := goodIn_app (goodIn_of _ (by decide +kernel)) ggX8_told_X8_toldOf
theorem dX8_told_0 : decode cX8_told 0 = .ok (.aload_n 0, 1) := by decide +kernel
theorem dX8_told_1 : decode cX8_told 1 = .ok (.iload_n 1, 1) := by decide +kernel
theorem dX8_told_2 : decode cX8_told 2 = .ok (.invokevirtual 174, 3) := by decide +kernel
theorem dX8_told_5 : decode cX8_told 5 = .ok (.ifCond .eq 21, 3) := by decide +kernel
theorem dX8_told_8 : decode cX8_told 8 = .ok (.iload_n 2, 1) := by decide +kernel
theorem dX8_told_9 : decode cX8_told 9 = .ok (.iconst 0, 1) := by decide +kernel
theorem dX8_told_10 : decode cX8_told 10 = .ok (.iconst 5, 1) := by decide +kernel
theorem dX8_told_11 : decode cX8_told 11 = .ok (.invokestatic 125, 3) := by decide +kernel
theorem dX8_told_14 : decode cX8_told 14 = .ok (.ifCond .eq 12, 3) := by decide +kernel
theorem dX8_told_17 : decode cX8_told 17 = .ok (.aload_n 0, 1) := by decide +kernel
theorem dX8_told_18 : decode cX8_told 18 = .ok (.iload_n 1, 1) := by decide +kernel
theorem dX8_told_19 : decode cX8_told 19 = .ok (.iload_n 2, 1) := by decide +kernel
theorem dX8_told_20 : decode cX8_told 20 = .ok (.invokevirtual 186, 3) := by decide +kernel
theorem dX8_told_23 : decode cX8_told 23 = .ok (.goto 4, 3) := by decide +kernel
theorem dX8_told_26 : decode cX8_told 26 = .ok (.iconst (-1), 1) := by decide +kernel
theorem dX8_told_27 : decode cX8_told 27 = .ok (.ireturn, 1) := by decide +kernel
set_option maxRecDepth 20000 in
theorem ggX8_mark_X8_isProof : GoodIn wsX8_mark wsX8_isProof := goodIn_r _ [10, 11, 12, 13, 9, 14, 54, 55, 56, 57, 58, 59, 60, 61, 62, 63, 64, 65, 66, 67, 68, 69, 70, 71, 72, 73, 74, 75, 76, 77, 78, 79, 80, 81, 82, 83, 84, 85, 86, 87, 88, 89, 90, 91, 92, 93, 94, 95, 96, 97, 98, 99, 100] (by decide +kernel) (by decide +kernel)
set_option maxRecDepth 20000 in
theorem gX8_mark_X8_isProof : GoodIn wsX8_mark (wsV RX8 174 RX8 yX8_isProof wsX8_isProof) := goodIn_app (goodIn_of _ (by decide +kernel)) ggX8_mark_X8_isProof
set_option maxRecDepth 20000 in
theorem ggX8_mark_X8_in : GoodIn wsX8_mark wsX8_in := goodIn_r _ [14] (by decide +kernel) (by decide +kernel)
set_option maxRecDepth 20000 in
theorem gX8_mark_X8_in : GoodIn wsX8_mark (va_wsS RX8 125 yX8_in wsX8_in) := goodIn_app (goodIn_of _ (by decide +kernel)) ggX8_mark_X8_in
set_option maxRecDepth 20000 in
theorem ggX8_mark_X8_toOf : GoodIn wsX8_mark wsX8_toOf := goodIn_r _ [18, 1, 2, 19, 3, 20, 4, 5, 21, 22, 9, 23, 24, 25, 26, 27, 28, 29, 30, 31, 32, 33, 34, 35, 36, 37, 38, 39, 40, 41, 54, 55, 56, 57, 58, 59, 60, 61, 62, 63, 64, 65, 66, 67, 68, 69, 70, 71, 72, 73, 74, 75, 76, 77, 78, 79, 80, 81, 82, 83, 84, 85, 86, 87, 88, 89, 90, 91, 92, 93, 94, 95, 96, 97, 98, 99, 100] (by decide +kernel) (by decide +kernel)
set_option maxRecDepth 20000 in
theorem gX8_mark_X8_toOf : GoodIn wsX8_mark (wsV RX8 183 RX8 yX8_toOf wsX8_toOf) := goodIn_app (goodIn_of _ (by decide +kernel)) ggX8_mark_X8_toOf
set_option maxRecDepth 20000 in
theorem ggX8_mark_X8_fromOf : GoodIn wsX8_mark wsX8_fromOf := goodIn_r _ [45, 1, 46, 2, 47, 3, 4, 5, 21, 22, 9, 23, 24, 25, 26, 27, 28, 29, 30, 31, 32, 33, 34, 35, 36, 37, 38, 39, 40, 41, 54, 55, 56, 57, 58, 59, 60, 61, 62, 63, 64, 65, 66, 67, 68, 69, 70, 71, 72, 73, 74, 75, 76, 77, 78, 79, 80, 81, 82, 83, 84, 85, 86, 87, 88, 89, 90, 91, 92, 93, 94, 95, 96, 97, 98, 99, 100] (by decide +kernel) (by decide +kernel)
set_option maxRecDepth 20000 in
theorem gX8_mark_X8_fromOf : GoodIn wsX8_mark (wsV RX8 180 RX8 yX8_fromOf wsX8_fromOf) := goodIn_app (goodIn_of _ (by decide +kernel)) ggX8_mark_X8_fromOf
set_option maxRecDepth 20000 in
theorem ggX8_mark_X8_meets : GoodIn wsX8_mark wsX8_meets := goodIn_r _ [51, 52, 53, 54, 55, 56, 57, 58, 59, 60, 61, 62, 63, 64, 65, 66, 67, 68, 69, 70, 71, 72, 73, 74, 75, 76, 77, 78, 79, 80, 81, 82, 83, 84, 85, 86, 87, 88, 89, 90, 91, 92, 93, 94, 95, 96, 97, 98, 99, 100] (by decide +kernel) (by decide +kernel)
set_option maxRecDepth 20000 in
theorem gX8_mark_X8_meets : GoodIn wsX8_mark (wsV RX8 142 RX8 yX8_meets wsX8_meets) := goodIn_app (goodIn_of _ (by decide +kernel)) ggX8_mark_X8_meets
set_option maxRecDepth 20000 in
theorem ggX8_mark_X8_isSure : GoodIn wsX8_mark wsX8_isSure := goodIn_r _ [27, 28, 29, 30, 9, 31, 32, 33, 34, 35, 36, 37, 38, 39, 40, 41, 54, 55, 56, 57, 58, 59, 60, 61, 62, 63, 64, 65, 66, 67, 68, 69, 70, 71, 72, 73, 74, 75, 76, 77, 78, 79, 80, 81, 82, 83, 84, 85, 86, 87, 88, 89, 90, 91, 92, 93, 94, 95, 96, 97, 98, 99, 100] (by decide +kernel) (by decide +kernel)
set_option maxRecDepth 20000 in
theorem gX8_mark_X8_isSure : GoodIn wsX8_mark (wsV RX8 161 RX8 yX8_isSure wsX8_isSure) := goodIn_app (goodIn_of _ (by decide +kernel)) ggX8_mark_X8_isSure
theorem dX8_mark_0 : decode cX8_mark 0 = .ok (.aload_n 0, 1) := by decide +kernel
theorem dX8_mark_1 : decode cX8_mark 1 = .ok (.iload_n 1, 1) := by decide +kernel
theorem dX8_mark_2 : decode cX8_mark 2 = .ok (.invokevirtual 174, 3) := by decide +kernel
theorem dX8_mark_5 : decode cX8_mark 5 = .ok (.ifCond .eq 12, 3) := by decide +kernel
theorem dX8_mark_8 : decode cX8_mark 8 = .ok (.iload_n 2, 1) := by decide +kernel
theorem dX8_mark_9 : decode cX8_mark 9 = .ok (.iconst 0, 1) := by decide +kernel
theorem dX8_mark_10 : decode cX8_mark 10 = .ok (.iconst 3, 1) := by decide +kernel
theorem dX8_mark_11 : decode cX8_mark 11 = .ok (.invokestatic 125, 3) := by decide +kernel
theorem dX8_mark_14 : decode cX8_mark 14 = .ok (.ifCond .ne 5, 3) := by decide +kernel
theorem dX8_mark_17 : decode cX8_mark 17 = .ok (.iconst (-1), 1) := by decide +kernel
theorem dX8_mark_18 : decode cX8_mark 18 = .ok (.ireturn, 1) := by decide +kernel
theorem dX8_mark_19 : decode cX8_mark 19 = .ok (.iload_n 2, 1) := by decide +kernel
theorem dX8_mark_20 : decode cX8_mark 20 = .ok (.ifCond .ne 17, 3) := by decide +kernel
theorem dX8_mark_23 : decode cX8_mark 23 = .ok (.aload_n 0, 1) := by decide +kernel
theorem dX8_mark_24 : decode cX8_mark 24 = .ok (.iload_n 1, 1) := by decide +kernel
theorem dX8_mark_25 : decode cX8_mark 25 = .ok (.invokevirtual 183, 3) := by decide +kernel
theorem dX8_mark_28 : decode cX8_mark 28 = .ok (.aload_n 0, 1) := by decide +kernel
theorem dX8_mark_29 : decode cX8_mark 29 = .ok (.iload_n 1, 1) := by decide +kernel
theorem dX8_mark_30 : decode cX8_mark 30 = .ok (.invokevirtual 180, 3) := by decide +kernel
theorem dX8_mark_33 : decode cX8_mark 33 = .ok (.isub, 1) := by decide +kernel
theorem dX8_mark_34 : decode cX8_mark 34 = .ok (.iconst 1, 1) := by decide +kernel
theorem dX8_mark_35 : decode cX8_mark 35 = .ok (.iadd, 1) := by decide +kernel
theorem dX8_mark_36 : decode cX8_mark 36 = .ok (.ireturn, 1) := by decide +kernel
theorem dX8_mark_37 : decode cX8_mark 37 = .ok (.aload_n 0, 1) := by decide +kernel
theorem dX8_mark_38 : decode cX8_mark 38 = .ok (.getfield 26, 3) := by decide +kernel
theorem dX8_mark_41 : decode cX8_mark 41 = .ok (.iload_n 1, 1) := by decide +kernel
theorem dX8_mark_42 : decode cX8_mark 42 = .ok (.iaload, 1) := by decide +kernel
theorem dX8_mark_43 : decode cX8_mark 43 = .ok (.iload_n 2, 1) := by decide +kernel
theorem dX8_mark_44 : decode cX8_mark 44 = .ok (.if_icmp .eq 9, 3) := by decide +kernel
theorem dX8_mark_47 : decode cX8_mark 47 = .ok (.aload_n 0, 1) := by decide +kernel
theorem dX8_mark_48 : decode cX8_mark 48 = .ok (.iconst 3, 1) := by decide +kernel
theorem dX8_mark_49 : decode cX8_mark 49 = .ok (.invokevirtual 142, 3) := by decide +kernel
theorem dX8_mark_52 : decode cX8_mark 52 = .ok (.ireturn, 1) := by decide +kernel
theorem dX8_mark_53 : decode cX8_mark 53 = .ok (.iload_n 2, 1) := by decide +kernel
theorem dX8_mark_54 : decode cX8_mark 54 = .ok (.iconst 1, 1) := by decide +kernel
theorem dX8_mark_55 : decode cX8_mark 55 = .ok (.if_icmp .ne 12, 3) := by decide +kernel
theorem dX8_mark_58 : decode cX8_mark 58 = .ok (.aload_n 0, 1) := by decide +kernel
theorem dX8_mark_59 : decode cX8_mark 59 = .ok (.getfield 38, 3) := by decide +kernel
theorem dX8_mark_62 : decode cX8_mark 62 = .ok (.iload_n 1, 1) := by decide +kernel
theorem dX8_mark_63 : decode cX8_mark 63 = .ok (.iaload, 1) := by decide +kernel
theorem dX8_mark_64 : decode cX8_mark 64 = .ok (.goto 41, 3) := by decide +kernel
theorem dX8_mark_67 : decode cX8_mark 67 = .ok (.iload_n 2, 1) := by decide +kernel
theorem dX8_mark_68 : decode cX8_mark 68 = .ok (.iconst 2, 1) := by decide +kernel
theorem dX8_mark_69 : decode cX8_mark 69 = .ok (.if_icmp .ne 12, 3) := by decide +kernel
theorem dX8_mark_72 : decode cX8_mark 72 = .ok (.aload_n 0, 1) := by decide +kernel
theorem dX8_mark_73 : decode cX8_mark 73 = .ok (.getfield 41, 3) := by decide +kernel
theorem dX8_mark_76 : decode cX8_mark 76 = .ok (.iload_n 1, 1) := by decide +kernel
theorem dX8_mark_77 : decode cX8_mark 77 = .ok (.iaload, 1) := by decide +kernel
theorem dX8_mark_78 : decode cX8_mark 78 = .ok (.goto 27, 3) := by decide +kernel
theorem dX8_mark_81 : decode cX8_mark 81 = .ok (.aload_n 0, 1) := by decide +kernel
theorem dX8_mark_82 : decode cX8_mark 82 = .ok (.aload_n 0, 1) := by decide +kernel
theorem dX8_mark_83 : decode cX8_mark 83 = .ok (.getfield 44, 3) := by decide +kernel
theorem dX8_mark_86 : decode cX8_mark 86 = .ok (.iload_n 1, 1) := by decide +kernel
theorem dX8_mark_87 : decode cX8_mark 87 = .ok (.iaload, 1) := by decide +kernel
theorem dX8_mark_88 : decode cX8_mark 88 = .ok (.aload_n 0, 1) := by decide +kernel
theorem dX8_mark_89 : decode cX8_mark 89 = .ok (.getfield 47, 3) := by decide +kernel
theorem dX8_mark_92 : decode cX8_mark 92 = .ok (.iload_n 1, 1) := by decide +kernel
theorem dX8_mark_93 : decode cX8_mark 93 = .ok (.iaload, 1) := by decide +kernel
theorem dX8_mark_94 : decode cX8_mark 94 = .ok (.invokevirtual 161, 3) := by decide +kernel
theorem dX8_mark_97 : decode cX8_mark 97 = .ok (.ifCond .eq 7, 3) := by decide +kernel
theorem dX8_mark_100 : decode cX8_mark 100 = .ok (.iconst 1, 1) := by decide +kernel
theorem dX8_mark_101 : decode cX8_mark 101 = .ok (.goto 4, 3) := by decide +kernel
theorem dX8_mark_104 : decode cX8_mark 104 = .ok (.iconst 0, 1) := by decide +kernel
theorem dX8_mark_105 : decode cX8_mark 105 = .ok (.ireturn, 1) := by decide +kernel
theorem dX8_isKnown_0 : decode cX8_isKnown 0 = .ok (.aload_n 0, 1) := by decide +kernel
theorem dX8_isKnown_1 : decode cX8_isKnown 1 = .ok (.getfield 32, 3) := by decide +kernel
theorem dX8_isKnown_4 : decode cX8_isKnown 4 = .ok (.iload_n 1, 1) := by decide +kernel
theorem dX8_isKnown_5 : decode cX8_isKnown 5 = .ok (.iaload, 1) := by decide +kernel
theorem dX8_isKnown_6 : decode cX8_isKnown 6 = .ok (.iload_n 2, 1) := by decide +kernel
theorem dX8_isKnown_7 : decode cX8_isKnown 7 = .ok (.if_icmp .gt 28, 3) := by decide +kernel
theorem dX8_isKnown_10 : decode cX8_isKnown 10 = .ok (.aload_n 0, 1) := by decide +kernel
theorem dX8_isKnown_11 : decode cX8_isKnown 11 = .ok (.getfield 35, 3) := by decide +kernel
theorem dX8_isKnown_14 : decode cX8_isKnown 14 = .ok (.iload_n 1, 1) := by decide +kernel
theorem dX8_isKnown_15 : decode cX8_isKnown 15 = .ok (.iaload, 1) := by decide +kernel
theorem dX8_isKnown_16 : decode cX8_isKnown 16 = .ok (.bipush (-9), 2) := by decide +kernel
theorem dX8_isKnown_18 : decode cX8_isKnown 18 = .ok (.if_icmp .eq 13, 3) := by decide +kernel
theorem dX8_isKnown_21 : decode cX8_isKnown 21 = .ok (.iload_n 2, 1) := by decide +kernel
theorem dX8_isKnown_22 : decode cX8_isKnown 22 = .ok (.aload_n 0, 1) := by decide +kernel
theorem dX8_isKnown_23 : decode cX8_isKnown 23 = .ok (.getfield 35, 3) := by decide +kernel
theorem dX8_isKnown_26 : decode cX8_isKnown 26 = .ok (.iload_n 1, 1) := by decide +kernel
theorem dX8_isKnown_27 : decode cX8_isKnown 27 = .ok (.iaload, 1) := by decide +kernel
theorem dX8_isKnown_28 : decode cX8_isKnown 28 = .ok (.if_icmp .ge 7, 3) := by decide +kernel
theorem dX8_isKnown_31 : decode cX8_isKnown 31 = .ok (.iconst 1, 1) := by decide +kernel
theorem dX8_isKnown_32 : decode cX8_isKnown 32 = .ok (.goto 4, 3) := by decide +kernel
theorem dX8_isKnown_35 : decode cX8_isKnown 35 = .ok (.iconst 0, 1) := by decide +kernel
theorem dX8_isKnown_36 : decode cX8_isKnown 36 = .ok (.ireturn, 1) := by decide +kernel
set_option maxRecDepth 20000 in
theorem ggX8_span_X8_isDay : GoodIn wsX8_span wsX8_isDay := goodIn_r _ [5, 6, 7, 4, 8] (by decide +kernel) (by decide +kernel)
set_option maxRecDepth 20000 in
theorem gX8_span_X8_isDay : GoodIn wsX8_span (va_wsS RX8 189 yX8_isDay wsX8_isDay) := goodIn_app (goodIn_of _ (by decide +kernel)) ggX8_span_X8_isDay
set_option maxRecDepth 20000 in
theorem ggX8_span_X8_isKnown : GoodIn wsX8_span wsX8_isKnown := goodIn_r _ [12, 13, 14, 53, 54, 55, 56, 57, 58, 59, 60, 61, 62, 63, 64, 65, 66, 67, 68, 69, 70, 71, 72, 73, 74, 75, 76, 77, 78, 79, 80, 81, 82, 83, 84, 85, 86, 87, 88, 89, 90, 91, 92, 93, 94, 95, 96, 97, 98, 99] (by decide +kernel) (by decide +kernel)
set_option maxRecDepth 20000 in
theorem gX8_span_X8_isKnown : GoodIn wsX8_span (wsV RX8 192 RX8 yX8_isKnown wsX8_isKnown) := goodIn_app (goodIn_of _ (by decide +kernel)) ggX8_span_X8_isKnown
set_option maxRecDepth 20000 in
theorem ggX8_span_X8_fromOf : GoodIn wsX8_span wsX8_fromOf := goodIn_r _ [18, 19, 20, 21, 22, 23, 24, 25, 26, 27, 4, 28, 29, 30, 31, 32, 33, 34, 35, 36, 37, 38, 39, 40, 41, 42, 43, 44, 45, 46, 53, 54, 55, 56, 57, 58, 59, 60, 61, 62, 63, 64, 65, 66, 67, 68, 69, 70, 71, 72, 73, 74, 75, 76, 77, 78, 79, 80, 81, 82, 83, 84, 85, 86, 87, 88, 89, 90, 91, 92, 93, 94, 95, 96, 97, 98, 99] (by decide +kernel) (by decide +kernel)
set_option maxRecDepth 20000 in
theorem gX8_span_X8_fromOf : GoodIn wsX8_span (wsV RX8 180 RX8 yX8_fromOf wsX8_fromOf) := goodIn_app (goodIn_of _ (by decide +kernel)) ggX8_span_X8_fromOf
set_option maxRecDepth 20000 in
theorem ggX8_span_X8_toOf : GoodIn wsX8_span wsX8_toOf := goodIn_r _ [50, 19, 21, 51, 23, 52, 24, 25, 26, 27, 4, 28, 29, 30, 31, 32, 33, 34, 35, 36, 37, 38, 39, 40, 41, 42, 43, 44, 45, 46, 53, 54, 55, 56, 57, 58, 59, 60, 61, 62, 63, 64, 65, 66, 67, 68, 69, 70, 71, 72, 73, 74, 75, 76, 77, 78, 79, 80, 81, 82, 83, 84, 85, 86, 87, 88, 89, 90, 91, 92, 93, 94, 95, 96, 97, 98, 99] (by decide +kernel) (by decide +kernel)
set_option maxRecDepth 20000 in
theorem gX8_span_X8_toOf : GoodIn wsX8_span (wsV RX8 183 RX8 yX8_toOf wsX8_toOf) := goodIn_app (goodIn_of _ (by decide +kernel)) ggX8_span_X8_toOf
theorem dX8_span_0 : decode cX8_span 0 = .ok (.iload_n 1, 1) := by decide +kernel
theorem dX8_span_1 : decode cX8_span 1 = .ok (.invokestatic 189, 3) := by decide +kernel
theorem dX8_span_4 : decode cX8_span 4 = .ok (.ifCond .ne 5, 3) := by decide +kernel
theorem dX8_span_7 : decode cX8_span 7 = .ok (.iconst (-1), 1) := by decide +kernel
theorem dX8_span_8 : decode cX8_span 8 = .ok (.ireturn, 1) := by decide +kernel
theorem dX8_span_9 : decode cX8_span 9 = .ok (.sipush 1000, 3) := by decide +kernel
theorem dX8_span_12 : decode cX8_span 12 = .ok (.istore_n 3, 1) := by decide +kernel
theorem dX8_span_13 : decode cX8_span 13 = .ok (.sipush 2100, 3) := by decide +kernel
theorem dX8_span_16 : decode cX8_span 16 = .ok (.istore 4, 2) := by decide +kernel
theorem dX8_span_18 : decode cX8_span 18 = .ok (.iconst 0, 1) := by decide +kernel
theorem dX8_span_19 : decode cX8_span 19 = .ok (.istore 5, 2) := by decide +kernel
theorem dX8_span_21 : decode cX8_span 21 = .ok (.iload 5, 2) := by decide +kernel
theorem dX8_span_23 : decode cX8_span 23 = .ok (.aload_n 0, 1) := by decide +kernel
theorem dX8_span_24 : decode cX8_span 24 = .ok (.getfield 167, 3) := by decide +kernel
theorem dX8_span_27 : decode cX8_span 27 = .ok (.if_icmp .ge 64, 3) := by decide +kernel
theorem dX8_span_30 : decode cX8_span 30 = .ok (.aload_n 0, 1) := by decide +kernel
theorem dX8_span_31 : decode cX8_span 31 = .ok (.iload 5, 2) := by decide +kernel
theorem dX8_span_33 : decode cX8_span 33 = .ok (.iload_n 1, 1) := by decide +kernel
theorem dX8_span_34 : decode cX8_span 34 = .ok (.invokevirtual 192, 3) := by decide +kernel
theorem dX8_span_37 : decode cX8_span 37 = .ok (.ifCond .eq 48, 3) := by decide +kernel
theorem dX8_span_40 : decode cX8_span 40 = .ok (.aload_n 0, 1) := by decide +kernel
theorem dX8_span_41 : decode cX8_span 41 = .ok (.iload 5, 2) := by decide +kernel
theorem dX8_span_43 : decode cX8_span 43 = .ok (.invokevirtual 180, 3) := by decide +kernel
theorem dX8_span_46 : decode cX8_span 46 = .ok (.iload_n 3, 1) := by decide +kernel
theorem dX8_span_47 : decode cX8_span 47 = .ok (.if_icmp .le 12, 3) := by decide +kernel
theorem dX8_span_50 : decode cX8_span 50 = .ok (.aload_n 0, 1) := by decide +kernel
theorem dX8_span_51 : decode cX8_span 51 = .ok (.iload 5, 2) := by decide +kernel
theorem dX8_span_53 : decode cX8_span 53 = .ok (.invokevirtual 180, 3) := by decide +kernel
theorem dX8_span_56 : decode cX8_span 56 = .ok (.goto 4, 3) := by decide +kernel
theorem dX8_span_59 : decode cX8_span 59 = .ok (.iload_n 3, 1) := by decide +kernel
theorem dX8_span_60 : decode cX8_span 60 = .ok (.istore_n 3, 1) := by decide +kernel
theorem dX8_span_61 : decode cX8_span 61 = .ok (.aload_n 0, 1) := by decide +kernel
theorem dX8_span_62 : decode cX8_span 62 = .ok (.iload 5, 2) := by decide +kernel
theorem dX8_span_64 : decode cX8_span 64 = .ok (.invokevirtual 183, 3) := by decide +kernel
theorem dX8_span_67 : decode cX8_span 67 = .ok (.iload 4, 2) := by decide +kernel
theorem dX8_span_69 : decode cX8_span 69 = .ok (.if_icmp .ge 12, 3) := by decide +kernel
theorem dX8_span_72 : decode cX8_span 72 = .ok (.aload_n 0, 1) := by decide +kernel
theorem dX8_span_73 : decode cX8_span 73 = .ok (.iload 5, 2) := by decide +kernel
theorem dX8_span_75 : decode cX8_span 75 = .ok (.invokevirtual 183, 3) := by decide +kernel
theorem dX8_span_78 : decode cX8_span 78 = .ok (.goto 5, 3) := by decide +kernel
theorem dX8_span_81 : decode cX8_span 81 = .ok (.iload 4, 2) := by decide +kernel
theorem dX8_span_83 : decode cX8_span 83 = .ok (.istore 4, 2) := by decide +kernel
theorem dX8_span_85 : decode cX8_span 85 = .ok (.iinc 5 1, 3) := by decide +kernel
theorem dX8_span_88 : decode cX8_span 88 = .ok (.goto (-67), 3) := by decide +kernel
theorem dX8_span_91 : decode cX8_span 91 = .ok (.iload_n 3, 1) := by decide +kernel
theorem dX8_span_92 : decode cX8_span 92 = .ok (.iload 4, 2) := by decide +kernel
theorem dX8_span_94 : decode cX8_span 94 = .ok (.if_icmp .le 8, 3) := by decide +kernel
theorem dX8_span_97 : decode cX8_span 97 = .ok (.bipush (-9), 2) := by decide +kernel
theorem dX8_span_99 : decode cX8_span 99 = .ok (.goto 13, 3) := by decide +kernel
theorem dX8_span_102 : decode cX8_span 102 = .ok (.iload_n 2, 1) := by decide +kernel
theorem dX8_span_103 : decode cX8_span 103 = .ok (.ifCond .eq 8, 3) := by decide +kernel
theorem dX8_span_106 : decode cX8_span 106 = .ok (.iload 4, 2) := by decide +kernel
theorem dX8_span_108 : decode cX8_span 108 = .ok (.goto 4, 3) := by decide +kernel
theorem dX8_span_111 : decode cX8_span 111 = .ok (.iload_n 3, 1) := by decide +kernel
theorem dX8_span_112 : decode cX8_span 112 = .ok (.ireturn, 1) := by decide +kernel
set_option maxRecDepth 20000 in
theorem ggX8_quarrel_X8_isDay : GoodIn wsX8_quarrel wsX8_isDay := goodIn_r _ [5, 6, 7, 4, 8] (by decide +kernel) (by decide +kernel)
set_option maxRecDepth 20000 in
theorem gX8_quarrel_X8_isDay : GoodIn wsX8_quarrel (va_wsS RX8 189 yX8_isDay wsX8_isDay) := goodIn_app (goodIn_of _ (by decide +kernel)) ggX8_quarrel_X8_isDay
set_option maxRecDepth 20000 in
theorem ggX8_quarrel_X8_isKnown : GoodIn wsX8_quarrel wsX8_isKnown := goodIn_r _ [12, 13, 14, 58, 59, 60, 61, 62, 63, 64, 65, 66, 67, 68, 69, 70, 71, 72, 73, 74, 75, 76, 77, 78, 79, 80, 81, 82, 83, 84, 85, 86, 87, 88, 89, 90, 91, 92, 93, 94, 95, 96, 97, 98, 99, 100, 101, 102, 103, 104] (by decide +kernel) (by decide +kernel)
set_option maxRecDepth 20000 in
theorem gX8_quarrel_X8_isKnown : GoodIn wsX8_quarrel (wsV RX8 192 RX8 yX8_isKnown wsX8_isKnown) := goodIn_app (goodIn_of _ (by decide +kernel)) ggX8_quarrel_X8_isKnown
set_option maxRecDepth 20000 in
theorem ggX8_quarrel_X8_toOf : GoodIn wsX8_quarrel wsX8_toOf := goodIn_r _ [18, 19, 20, 21, 22, 23, 24, 25, 26, 27, 4, 28, 29, 30, 31, 32, 33, 34, 35, 36, 37, 38, 39, 40, 41, 42, 43, 44, 45, 46, 58, 59, 60, 61, 62, 63, 64, 65, 66, 67, 68, 69, 70, 71, 72, 73, 74, 75, 76, 77, 78, 79, 80, 81, 82, 83, 84, 85, 86, 87, 88, 89, 90, 91, 92, 93, 94, 95, 96, 97, 98, 99, 100, 101, 102, 103, 104] (by decide +kernel) (by decide +kernel)
set_option maxRecDepth 20000 in
theorem gX8_quarrel_X8_toOf : GoodIn wsX8_quarrel (wsV RX8 183 RX8 yX8_toOf wsX8_toOf) := goodIn_app (goodIn_of _ (by decide +kernel)) ggX8_quarrel_X8_toOf
set_option maxRecDepth 20000 in
theorem ggX8_quarrel_X8_fromOf : GoodIn wsX8_quarrel wsX8_fromOf := goodIn_r _ [50, 19, 51, 20, 52, 22, 24, 25, 26, 27, 4, 28, 29, 30, 31, 32, 33, 34, 35, 36, 37, 38, 39, 40, 41, 42, 43, 44, 45, 46, 58, 59, 60, 61, 62, 63, 64, 65, 66, 67, 68, 69, 70, 71, 72, 73, 74, 75, 76, 77, 78, 79, 80, 81, 82, 83, 84, 85, 86, 87, 88, 89, 90, 91, 92, 93, 94, 95, 96, 97, 98, 99, 100, 101, 102, 103, 104] (by decide +kernel) (by decide +kernel)
set_option maxRecDepth 20000 in
theorem gX8_quarrel_X8_fromOf : GoodIn wsX8_quarrel (wsV RX8 180 RX8 yX8_fromOf wsX8_fromOf) := goodIn_app (goodIn_of _ (by decide +kernel)) ggX8_quarrel_X8_fromOf
set_option maxRecDepth 20000 in
theorem ggX8_quarrel_X8_tells : GoodIn wsX8_quarrel wsX8_tells := goodIn_r _ [56, 57, 58, 59, 60, 61, 62, 63, 64, 65, 66, 67, 68, 69, 70, 71, 72, 73, 74, 75, 76, 77, 78, 79, 80, 81, 82, 83, 84, 85, 86, 87, 88, 89, 90, 91, 92, 93, 94, 95, 96, 97, 98, 99, 100, 101, 102, 103, 104] (by decide +kernel) (by decide +kernel)
set_option maxRecDepth 20000 in
theorem gX8_quarrel_X8_tells : GoodIn wsX8_quarrel (wsV RX8 158 RX8 yX8_tells wsX8_tells) := goodIn_app (goodIn_of _ (by decide +kernel)) ggX8_quarrel_X8_tells
theorem dX8_quarrel_0 : decode cX8_quarrel 0 = .ok (.iload_n 1, 1) := by decide +kernel
theorem dX8_quarrel_1 : decode cX8_quarrel 1 = .ok (.invokestatic 189, 3) := by decide +kernel
theorem dX8_quarrel_4 : decode cX8_quarrel 4 = .ok (.ifCond .ne 5, 3) := by decide +kernel
theorem dX8_quarrel_7 : decode cX8_quarrel 7 = .ok (.iconst (-1), 1) := by decide +kernel
theorem dX8_quarrel_8 : decode cX8_quarrel 8 = .ok (.ireturn, 1) := by decide +kernel
theorem dX8_quarrel_9 : decode cX8_quarrel 9 = .ok (.iconst 0, 1) := by decide +kernel
theorem dX8_quarrel_10 : decode cX8_quarrel 10 = .ok (.istore_n 2, 1) := by decide +kernel
theorem dX8_quarrel_11 : decode cX8_quarrel 11 = .ok (.iload_n 2, 1) := by decide +kernel
theorem dX8_quarrel_12 : decode cX8_quarrel 12 = .ok (.aload_n 0, 1) := by decide +kernel
theorem dX8_quarrel_13 : decode cX8_quarrel 13 = .ok (.getfield 167, 3) := by decide +kernel
theorem dX8_quarrel_16 : decode cX8_quarrel 16 = .ok (.if_icmp .ge 78, 3) := by decide +kernel
theorem dX8_quarrel_19 : decode cX8_quarrel 19 = .ok (.iload_n 2, 1) := by decide +kernel
theorem dX8_quarrel_20 : decode cX8_quarrel 20 = .ok (.iconst 1, 1) := by decide +kernel
theorem dX8_quarrel_21 : decode cX8_quarrel 21 = .ok (.iadd, 1) := by decide +kernel
theorem dX8_quarrel_22 : decode cX8_quarrel 22 = .ok (.istore_n 3, 1) := by decide +kernel
theorem dX8_quarrel_23 : decode cX8_quarrel 23 = .ok (.iload_n 3, 1) := by decide +kernel
theorem dX8_quarrel_24 : decode cX8_quarrel 24 = .ok (.aload_n 0, 1) := by decide +kernel
theorem dX8_quarrel_25 : decode cX8_quarrel 25 = .ok (.getfield 167, 3) := by decide +kernel
theorem dX8_quarrel_28 : decode cX8_quarrel 28 = .ok (.if_icmp .ge 60, 3) := by decide +kernel
theorem dX8_quarrel_31 : decode cX8_quarrel 31 = .ok (.aload_n 0, 1) := by decide +kernel
theorem dX8_quarrel_32 : decode cX8_quarrel 32 = .ok (.iload_n 2, 1) := by decide +kernel
theorem dX8_quarrel_33 : decode cX8_quarrel 33 = .ok (.iload_n 1, 1) := by decide +kernel
theorem dX8_quarrel_34 : decode cX8_quarrel 34 = .ok (.invokevirtual 192, 3) := by decide +kernel
theorem dX8_quarrel_37 : decode cX8_quarrel 37 = .ok (.ifCond .eq 45, 3) := by decide +kernel
theorem dX8_quarrel_40 : decode cX8_quarrel 40 = .ok (.aload_n 0, 1) := by decide +kernel
theorem dX8_quarrel_41 : decode cX8_quarrel 41 = .ok (.iload_n 3, 1) := by decide +kernel
theorem dX8_quarrel_42 : decode cX8_quarrel 42 = .ok (.iload_n 1, 1) := by decide +kernel
theorem dX8_quarrel_43 : decode cX8_quarrel 43 = .ok (.invokevirtual 192, 3) := by decide +kernel
theorem dX8_quarrel_46 : decode cX8_quarrel 46 = .ok (.ifCond .eq 36, 3) := by decide +kernel
theorem dX8_quarrel_49 : decode cX8_quarrel 49 = .ok (.aload_n 0, 1) := by decide +kernel
theorem dX8_quarrel_50 : decode cX8_quarrel 50 = .ok (.iload_n 2, 1) := by decide +kernel
theorem dX8_quarrel_51 : decode cX8_quarrel 51 = .ok (.invokevirtual 183, 3) := by decide +kernel
theorem dX8_quarrel_54 : decode cX8_quarrel 54 = .ok (.aload_n 0, 1) := by decide +kernel
theorem dX8_quarrel_55 : decode cX8_quarrel 55 = .ok (.iload_n 3, 1) := by decide +kernel
theorem dX8_quarrel_56 : decode cX8_quarrel 56 = .ok (.invokevirtual 180, 3) := by decide +kernel
theorem dX8_quarrel_59 : decode cX8_quarrel 59 = .ok (.if_icmp .lt 16, 3) := by decide +kernel
theorem dX8_quarrel_62 : decode cX8_quarrel 62 = .ok (.aload_n 0, 1) := by decide +kernel
theorem dX8_quarrel_63 : decode cX8_quarrel 63 = .ok (.iload_n 3, 1) := by decide +kernel
theorem dX8_quarrel_64 : decode cX8_quarrel 64 = .ok (.invokevirtual 183, 3) := by decide +kernel
theorem dX8_quarrel_67 : decode cX8_quarrel 67 = .ok (.aload_n 0, 1) := by decide +kernel
theorem dX8_quarrel_68 : decode cX8_quarrel 68 = .ok (.iload_n 2, 1) := by decide +kernel
theorem dX8_quarrel_69 : decode cX8_quarrel 69 = .ok (.invokevirtual 180, 3) := by decide +kernel
theorem dX8_quarrel_72 : decode cX8_quarrel 72 = .ok (.if_icmp .ge 10, 3) := by decide +kernel
theorem dX8_quarrel_75 : decode cX8_quarrel 75 = .ok (.aload_n 0, 1) := by decide +kernel
theorem dX8_quarrel_76 : decode cX8_quarrel 76 = .ok (.iload_n 3, 1) := by decide +kernel
theorem dX8_quarrel_77 : decode cX8_quarrel 77 = .ok (.iload_n 2, 1) := by decide +kernel
theorem dX8_quarrel_78 : decode cX8_quarrel 78 = .ok (.invokevirtual 158, 3) := by decide +kernel
theorem dX8_quarrel_81 : decode cX8_quarrel 81 = .ok (.ireturn, 1) := by decide +kernel
theorem dX8_quarrel_82 : decode cX8_quarrel 82 = .ok (.iinc 3 1, 3) := by decide +kernel
theorem dX8_quarrel_85 : decode cX8_quarrel 85 = .ok (.goto (-62), 3) := by decide +kernel
theorem dX8_quarrel_88 : decode cX8_quarrel 88 = .ok (.iinc 2 1, 3) := by decide +kernel
theorem dX8_quarrel_91 : decode cX8_quarrel 91 = .ok (.goto (-80), 3) := by decide +kernel
theorem dX8_quarrel_94 : decode cX8_quarrel 94 = .ok (.bipush (-9), 2) := by decide +kernel
theorem dX8_quarrel_96 : decode cX8_quarrel 96 = .ok (.ireturn, 1) := by decide +kernel
set_option maxRecDepth 20000 in
theorem ggX8_bestYear_X8_isKnown : GoodIn wsX8_bestYear wsX8_isKnown := goodIn_r _ [8, 9, 10, 49, 50, 51, 52, 53, 54, 55, 56, 57, 58, 59, 60, 61, 62, 63, 64, 65, 66, 67, 68, 69, 70, 71, 72, 73, 74, 75, 76, 77, 78, 79, 80, 81, 82, 83, 84, 85, 86, 87, 88, 89, 90, 91, 92, 93, 94, 95] (by decide +kernel) (by decide +kernel)
set_option maxRecDepth 20000 in
theorem gX8_bestYear_X8_isKnown : GoodIn wsX8_bestYear (wsV RX8 192 RX8 yX8_isKnown wsX8_isKnown) := goodIn_app (goodIn_of _ (by decide +kernel)) ggX8_bestYear_X8_isKnown
set_option maxRecDepth 20000 in
theorem ggX8_bestYear_X8_fromOf : GoodIn wsX8_bestYear wsX8_fromOf := goodIn_r _ [14, 15, 16, 17, 18, 19, 20, 21, 22, 23, 7, 24, 25, 26, 27, 28, 29, 30, 31, 32, 33, 34, 35, 36, 37, 38, 39, 40, 41, 42, 49, 50, 51, 52, 53, 54, 55, 56, 57, 58, 59, 60, 61, 62, 63, 64, 65, 66, 67, 68, 69, 70, 71, 72, 73, 74, 75, 76, 77, 78, 79, 80, 81, 82, 83, 84, 85, 86, 87, 88, 89, 90, 91, 92, 93, 94, 95] (by decide +kernel) (by decide +kernel)
set_option maxRecDepth 20000 in
theorem gX8_bestYear_X8_fromOf : GoodIn wsX8_bestYear (wsV RX8 180 RX8 yX8_fromOf wsX8_fromOf) := goodIn_app (goodIn_of _ (by decide +kernel)) ggX8_bestYear_X8_fromOf
set_option maxRecDepth 20000 in
theorem ggX8_bestYear_X8_toOf : GoodIn wsX8_bestYear wsX8_toOf := goodIn_r _ [46, 15, 17, 47, 19, 48, 20, 21, 22, 23, 7, 24, 25, 26, 27, 28, 29, 30, 31, 32, 33, 34, 35, 36, 37, 38, 39, 40, 41, 42, 49, 50, 51, 52, 53, 54, 55, 56, 57, 58, 59, 60, 61, 62, 63, 64, 65, 66, 67, 68, 69, 70, 71, 72, 73, 74, 75, 76, 77, 78, 79, 80, 81, 82, 83, 84, 85, 86, 87, 88, 89, 90, 91, 92, 93, 94, 95] (by decide +kernel) (by decide +kernel)
set_option maxRecDepth 20000 in
theorem gX8_bestYear_X8_toOf : GoodIn wsX8_bestYear (wsV RX8 183 RX8 yX8_toOf wsX8_toOf) := goodIn_app (goodIn_of _ (by decide +kernel)) ggX8_bestYear_X8_toOf
theorem dX8_bestYear_0 : decode cX8_bestYear 0 = .ok (.sipush 1000, 3) := by decide +kernel
theorem dX8_bestYear_3 : decode cX8_bestYear 3 = .ok (.istore_n 2, 1) := by decide +kernel
theorem dX8_bestYear_4 : decode cX8_bestYear 4 = .ok (.iload_n 2, 1) := by decide +kernel
theorem dX8_bestYear_5 : decode cX8_bestYear 5 = .ok (.sipush 2101, 3) := by decide +kernel
theorem dX8_bestYear_8 : decode cX8_bestYear 8 = .ok (.if_icmp .gt 16, 3) := by decide +kernel
theorem dX8_bestYear_11 : decode cX8_bestYear 11 = .ok (.aload_n 0, 1) := by decide +kernel
theorem dX8_bestYear_12 : decode cX8_bestYear 12 = .ok (.getfield 50, 3) := by decide +kernel
theorem dX8_bestYear_15 : decode cX8_bestYear 15 = .ok (.iload_n 2, 1) := by decide +kernel
theorem dX8_bestYear_16 : decode cX8_bestYear 16 = .ok (.iconst 0, 1) := by decide +kernel
theorem dX8_bestYear_17 : decode cX8_bestYear 17 = .ok (.iastore, 1) := by decide +kernel
theorem dX8_bestYear_18 : decode cX8_bestYear 18 = .ok (.iinc 2 1, 3) := by decide +kernel
theorem dX8_bestYear_21 : decode cX8_bestYear 21 = .ok (.goto (-17), 3) := by decide +kernel
theorem dX8_bestYear_24 : decode cX8_bestYear 24 = .ok (.iconst 0, 1) := by decide +kernel
theorem dX8_bestYear_25 : decode cX8_bestYear 25 = .ok (.istore_n 2, 1) := by decide +kernel
theorem dX8_bestYear_26 : decode cX8_bestYear 26 = .ok (.iload_n 2, 1) := by decide +kernel
theorem dX8_bestYear_27 : decode cX8_bestYear 27 = .ok (.aload_n 0, 1) := by decide +kernel
theorem dX8_bestYear_28 : decode cX8_bestYear 28 = .ok (.getfield 167, 3) := by decide +kernel
theorem dX8_bestYear_31 : decode cX8_bestYear 31 = .ok (.if_icmp .ge 58, 3) := by decide +kernel
theorem dX8_bestYear_34 : decode cX8_bestYear 34 = .ok (.aload_n 0, 1) := by decide +kernel
theorem dX8_bestYear_35 : decode cX8_bestYear 35 = .ok (.iload_n 2, 1) := by decide +kernel
theorem dX8_bestYear_36 : decode cX8_bestYear 36 = .ok (.iload_n 1, 1) := by decide +kernel
theorem dX8_bestYear_37 : decode cX8_bestYear 37 = .ok (.invokevirtual 192, 3) := by decide +kernel
theorem dX8_bestYear_40 : decode cX8_bestYear 40 = .ok (.ifCond .eq 43, 3) := by decide +kernel
theorem dX8_bestYear_43 : decode cX8_bestYear 43 = .ok (.aload_n 0, 1) := by decide +kernel
theorem dX8_bestYear_44 : decode cX8_bestYear 44 = .ok (.getfield 50, 3) := by decide +kernel
theorem dX8_bestYear_47 : decode cX8_bestYear 47 = .ok (.aload_n 0, 1) := by decide +kernel
theorem dX8_bestYear_48 : decode cX8_bestYear 48 = .ok (.iload_n 2, 1) := by decide +kernel
theorem dX8_bestYear_49 : decode cX8_bestYear 49 = .ok (.invokevirtual 180, 3) := by decide +kernel
theorem dX8_bestYear_52 : decode cX8_bestYear 52 = .ok (.dup2, 1) := by decide +kernel
theorem dX8_bestYear_53 : decode cX8_bestYear 53 = .ok (.iaload, 1) := by decide +kernel
theorem dX8_bestYear_54 : decode cX8_bestYear 54 = .ok (.aload_n 0, 1) := by decide +kernel
theorem dX8_bestYear_55 : decode cX8_bestYear 55 = .ok (.getfield 29, 3) := by decide +kernel
theorem dX8_bestYear_58 : decode cX8_bestYear 58 = .ok (.iload_n 2, 1) := by decide +kernel
theorem dX8_bestYear_59 : decode cX8_bestYear 59 = .ok (.iaload, 1) := by decide +kernel
theorem dX8_bestYear_60 : decode cX8_bestYear 60 = .ok (.iadd, 1) := by decide +kernel
theorem dX8_bestYear_61 : decode cX8_bestYear 61 = .ok (.iastore, 1) := by decide +kernel
theorem dX8_bestYear_62 : decode cX8_bestYear 62 = .ok (.aload_n 0, 1) := by decide +kernel
theorem dX8_bestYear_63 : decode cX8_bestYear 63 = .ok (.getfield 50, 3) := by decide +kernel
theorem dX8_bestYear_66 : decode cX8_bestYear 66 = .ok (.aload_n 0, 1) := by decide +kernel
theorem dX8_bestYear_67 : decode cX8_bestYear 67 = .ok (.iload_n 2, 1) := by decide +kernel
theorem dX8_bestYear_68 : decode cX8_bestYear 68 = .ok (.invokevirtual 183, 3) := by decide +kernel
theorem dX8_bestYear_71 : decode cX8_bestYear 71 = .ok (.iconst 1, 1) := by decide +kernel
theorem dX8_bestYear_72 : decode cX8_bestYear 72 = .ok (.iadd, 1) := by decide +kernel
theorem dX8_bestYear_73 : decode cX8_bestYear 73 = .ok (.dup2, 1) := by decide +kernel
theorem dX8_bestYear_74 : decode cX8_bestYear 74 = .ok (.iaload, 1) := by decide +kernel
theorem dX8_bestYear_75 : decode cX8_bestYear 75 = .ok (.aload_n 0, 1) := by decide +kernel
theorem dX8_bestYear_76 : decode cX8_bestYear 76 = .ok (.getfield 29, 3) := by decide +kernel
theorem dX8_bestYear_79 : decode cX8_bestYear 79 = .ok (.iload_n 2, 1) := by decide +kernel
theorem dX8_bestYear_80 : decode cX8_bestYear 80 = .ok (.iaload, 1) := by decide +kernel
theorem dX8_bestYear_81 : decode cX8_bestYear 81 = .ok (.isub, 1) := by decide +kernel
theorem dX8_bestYear_82 : decode cX8_bestYear 82 = .ok (.iastore, 1) := by decide +kernel
theorem dX8_bestYear_83 : decode cX8_bestYear 83 = .ok (.iinc 2 1, 3) := by decide +kernel
theorem dX8_bestYear_86 : decode cX8_bestYear 86 = .ok (.goto (-60), 3) := by decide +kernel
theorem dX8_bestYear_89 : decode cX8_bestYear 89 = .ok (.sipush 1000, 3) := by decide +kernel
theorem dX8_bestYear_92 : decode cX8_bestYear 92 = .ok (.istore_n 2, 1) := by decide +kernel
theorem dX8_bestYear_93 : decode cX8_bestYear 93 = .ok (.sipush 1001, 3) := by decide +kernel
theorem dX8_bestYear_96 : decode cX8_bestYear 96 = .ok (.istore_n 3, 1) := by decide +kernel
theorem dX8_bestYear_97 : decode cX8_bestYear 97 = .ok (.iload_n 3, 1) := by decide +kernel
theorem dX8_bestYear_98 : decode cX8_bestYear 98 = .ok (.sipush 2100, 3) := by decide +kernel
theorem dX8_bestYear_101 : decode cX8_bestYear 101 = .ok (.if_icmp .gt 47, 3) := by decide +kernel
theorem dX8_bestYear_104 : decode cX8_bestYear 104 = .ok (.aload_n 0, 1) := by decide +kernel
theorem dX8_bestYear_105 : decode cX8_bestYear 105 = .ok (.getfield 50, 3) := by decide +kernel
theorem dX8_bestYear_108 : decode cX8_bestYear 108 = .ok (.iload_n 3, 1) := by decide +kernel
theorem dX8_bestYear_109 : decode cX8_bestYear 109 = .ok (.dup2, 1) := by decide +kernel
theorem dX8_bestYear_110 : decode cX8_bestYear 110 = .ok (.iaload, 1) := by decide +kernel
theorem dX8_bestYear_111 : decode cX8_bestYear 111 = .ok (.aload_n 0, 1) := by decide +kernel
theorem dX8_bestYear_112 : decode cX8_bestYear 112 = .ok (.getfield 50, 3) := by decide +kernel
theorem dX8_bestYear_115 : decode cX8_bestYear 115 = .ok (.iload_n 3, 1) := by decide +kernel
theorem dX8_bestYear_116 : decode cX8_bestYear 116 = .ok (.iconst 1, 1) := by decide +kernel
theorem dX8_bestYear_117 : decode cX8_bestYear 117 = .ok (.isub, 1) := by decide +kernel
theorem dX8_bestYear_118 : decode cX8_bestYear 118 = .ok (.iaload, 1) := by decide +kernel
theorem dX8_bestYear_119 : decode cX8_bestYear 119 = .ok (.iadd, 1) := by decide +kernel
theorem dX8_bestYear_120 : decode cX8_bestYear 120 = .ok (.iastore, 1) := by decide +kernel
theorem dX8_bestYear_121 : decode cX8_bestYear 121 = .ok (.aload_n 0, 1) := by decide +kernel
theorem dX8_bestYear_122 : decode cX8_bestYear 122 = .ok (.getfield 50, 3) := by decide +kernel
theorem dX8_bestYear_125 : decode cX8_bestYear 125 = .ok (.iload_n 3, 1) := by decide +kernel
theorem dX8_bestYear_126 : decode cX8_bestYear 126 = .ok (.iaload, 1) := by decide +kernel
theorem dX8_bestYear_127 : decode cX8_bestYear 127 = .ok (.aload_n 0, 1) := by decide +kernel
theorem dX8_bestYear_128 : decode cX8_bestYear 128 = .ok (.getfield 50, 3) := by decide +kernel
theorem dX8_bestYear_131 : decode cX8_bestYear 131 = .ok (.iload_n 2, 1) := by decide +kernel
theorem dX8_bestYear_132 : decode cX8_bestYear 132 = .ok (.iaload, 1) := by decide +kernel
theorem dX8_bestYear_133 : decode cX8_bestYear 133 = .ok (.if_icmp .le 7, 3) := by decide +kernel
theorem dX8_bestYear_136 : decode cX8_bestYear 136 = .ok (.iload_n 3, 1) := by decide +kernel
theorem dX8_bestYear_137 : decode cX8_bestYear 137 = .ok (.goto 4, 3) := by decide +kernel
theorem dX8_bestYear_140 : decode cX8_bestYear 140 = .ok (.iload_n 2, 1) := by decide +kernel
theorem dX8_bestYear_141 : decode cX8_bestYear 141 = .ok (.istore_n 2, 1) := by decide +kernel
theorem dX8_bestYear_142 : decode cX8_bestYear 142 = .ok (.iinc 3 1, 3) := by decide +kernel
theorem dX8_bestYear_145 : decode cX8_bestYear 145 = .ok (.goto (-48), 3) := by decide +kernel
theorem dX8_bestYear_148 : decode cX8_bestYear 148 = .ok (.iload_n 2, 1) := by decide +kernel
theorem dX8_bestYear_149 : decode cX8_bestYear 149 = .ok (.ireturn, 1) := by decide +kernel
set_option maxRecDepth 20000 in
theorem ggX8_leftOut_X8_isDay : GoodIn wsX8_leftOut wsX8_isDay := goodIn_r _ [6, 7, 8, 5, 9] (by decide +kernel) (by decide +kernel)
set_option maxRecDepth 20000 in
theorem gX8_leftOut_X8_isDay : GoodIn wsX8_leftOut (va_wsS RX8 189 yX8_isDay wsX8_isDay) := goodIn_app (goodIn_of _ (by decide +kernel)) ggX8_leftOut_X8_isDay
set_option maxRecDepth 20000 in
theorem ggX8_leftOut_X8_bestYear : GoodIn wsX8_leftOut wsX8_bestYear := goodIn_r _ [13, 14, 1, 2, 15, 16, 17, 5, 18, 19, 20, 21, 22, 23, 24, 25, 26, 27, 28, 29, 30, 31, 32, 33, 34, 35, 36, 37, 38, 39, 40, 41, 42, 43, 44, 45, 46, 47, 48, 49, 50, 51, 52, 53, 54, 55, 56, 57, 58, 64, 65, 66, 67, 68, 69, 70, 71, 72, 73, 74, 75, 76, 77, 78, 79, 80, 81, 82, 83, 84, 85, 86, 87, 88, 89, 90, 91, 92, 93, 94, 95, 96, 97, 98, 99, 100, 101, 102, 103, 104, 105, 106, 107, 108, 109, 110] (by decide +kernel) (by decide +kernel)
set_option maxRecDepth 20000 in
theorem gX8_leftOut_X8_bestYear : GoodIn wsX8_leftOut (wsV RX8 195 RX8 yX8_bestYear wsX8_bestYear) := goodIn_app (goodIn_of _ (by decide +kernel)) ggX8_leftOut_X8_bestYear
set_option maxRecDepth 20000 in
theorem ggX8_leftOut_X8_isKnown : GoodIn wsX8_leftOut wsX8_isKnown := goodIn_r _ [18, 19, 20, 64, 65, 66, 67, 68, 69, 70, 71, 72, 73, 74, 75, 76, 77, 78, 79, 80, 81, 82, 83, 84, 85, 86, 87, 88, 89, 90, 91, 92, 93, 94, 95, 96, 97, 98, 99, 100, 101, 102, 103, 104, 105, 106, 107, 108, 109, 110] (by decide +kernel) (by decide +kernel)
set_option maxRecDepth 20000 in
theorem gX8_leftOut_X8_isKnown : GoodIn wsX8_leftOut (wsV RX8 192 RX8 yX8_isKnown wsX8_isKnown) := goodIn_app (goodIn_of _ (by decide +kernel)) ggX8_leftOut_X8_isKnown
set_option maxRecDepth 20000 in
theorem ggX8_leftOut_X8_fromOf : GoodIn wsX8_leftOut wsX8_fromOf := goodIn_r _ [24, 25, 26, 27, 28, 29, 30, 31, 32, 33, 5, 34, 35, 36, 37, 38, 39, 40, 41, 42, 43, 44, 45, 46, 47, 48, 49, 50, 51, 52, 64, 65, 66, 67, 68, 69, 70, 71, 72, 73, 74, 75, 76, 77, 78, 79, 80, 81, 82, 83, 84, 85, 86, 87, 88, 89, 90, 91, 92, 93, 94, 95, 96, 97, 98, 99, 100, 101, 102, 103, 104, 105, 106, 107, 108, 109, 110] (by decide +kernel) (by decide +kernel)
set_option maxRecDepth 20000 in
theorem gX8_leftOut_X8_fromOf : GoodIn wsX8_leftOut (wsV RX8 180 RX8 yX8_fromOf wsX8_fromOf) := goodIn_app (goodIn_of _ (by decide +kernel)) ggX8_leftOut_X8_fromOf
set_option maxRecDepth 20000 in
theorem ggX8_leftOut_X8_toOf : GoodIn wsX8_leftOut wsX8_toOf := goodIn_r _ [56, 25, 27, 57, 29, 58, 30, 31, 32, 33, 5, 34, 35, 36, 37, 38, 39, 40, 41, 42, 43, 44, 45, 46, 47, 48, 49, 50, 51, 52, 64, 65, 66, 67, 68, 69, 70, 71, 72, 73, 74, 75, 76, 77, 78, 79, 80, 81, 82, 83, 84, 85, 86, 87, 88, 89, 90, 91, 92, 93, 94, 95, 96, 97, 98, 99, 100, 101, 102, 103, 104, 105, 106, 107, 108, 109, 110] (by decide +kernel) (by decide +kernel)
set_option maxRecDepth 20000 in
theorem gX8_leftOut_X8_toOf : GoodIn wsX8_leftOut (wsV RX8 183 RX8 yX8_toOf wsX8_toOf) := goodIn_app (goodIn_of _ (by decide +kernel)) ggX8_leftOut_X8_toOf
set_option maxRecDepth 20000 in
theorem ggX8_leftOut_X8_in : GoodIn wsX8_leftOut wsX8_in := goodIn_r _ [9] (by decide +kernel) (by decide +kernel)
set_option maxRecDepth 20000 in
theorem gX8_leftOut_X8_in : GoodIn wsX8_leftOut (va_wsS RX8 125 yX8_in wsX8_in) := goodIn_app (goodIn_of _ (by decide +kernel)) ggX8_leftOut_X8_in
set_option maxRecDepth 20000 in
theorem ggX8_leftOut_X8_tells : GoodIn wsX8_leftOut wsX8_tells := goodIn_r _ [62, 63, 64, 65, 66, 67, 68, 69, 70, 71, 72, 73, 74, 75, 76, 77, 78, 79, 80, 81, 82, 83, 84, 85, 86, 87, 88, 89, 90, 91, 92, 93, 94, 95, 96, 97, 98, 99, 100, 101, 102, 103, 104, 105, 106, 107, 108, 109, 110] (by decide +kernel) (by decide +kernel)
set_option maxRecDepth 20000 in
theorem gX8_leftOut_X8_tells : GoodIn wsX8_leftOut (wsV RX8 158 RX8 yX8_tells wsX8_tells) := goodIn_app (goodIn_of _ (by decide +kernel)) ggX8_leftOut_X8_tells
theorem dX8_leftOut_0 : decode cX8_leftOut 0 = .ok (.iload_n 1, 1) := by decide +kernel
theorem dX8_leftOut_1 : decode cX8_leftOut 1 = .ok (.invokestatic 189, 3) := by decide +kernel
theorem dX8_leftOut_4 : decode cX8_leftOut 4 = .ok (.ifCond .ne 5, 3) := by decide +kernel
theorem dX8_leftOut_7 : decode cX8_leftOut 7 = .ok (.iconst (-1), 1) := by decide +kernel
theorem dX8_leftOut_8 : decode cX8_leftOut 8 = .ok (.ireturn, 1) := by decide +kernel
theorem dX8_leftOut_9 : decode cX8_leftOut 9 = .ok (.aload_n 0, 1) := by decide +kernel
theorem dX8_leftOut_10 : decode cX8_leftOut 10 = .ok (.iload_n 1, 1) := by decide +kernel
theorem dX8_leftOut_11 : decode cX8_leftOut 11 = .ok (.invokevirtual 195, 3) := by decide +kernel
theorem dX8_leftOut_14 : decode cX8_leftOut 14 = .ok (.istore_n 2, 1) := by decide +kernel
theorem dX8_leftOut_15 : decode cX8_leftOut 15 = .ok (.iconst 0, 1) := by decide +kernel
theorem dX8_leftOut_16 : decode cX8_leftOut 16 = .ok (.istore_n 3, 1) := by decide +kernel
theorem dX8_leftOut_17 : decode cX8_leftOut 17 = .ok (.iconst 0, 1) := by decide +kernel
theorem dX8_leftOut_18 : decode cX8_leftOut 18 = .ok (.istore 4, 2) := by decide +kernel
theorem dX8_leftOut_20 : decode cX8_leftOut 20 = .ok (.iconst 0, 1) := by decide +kernel
theorem dX8_leftOut_21 : decode cX8_leftOut 21 = .ok (.istore 5, 2) := by decide +kernel
theorem dX8_leftOut_23 : decode cX8_leftOut 23 = .ok (.iload 5, 2) := by decide +kernel
theorem dX8_leftOut_25 : decode cX8_leftOut 25 = .ok (.aload_n 0, 1) := by decide +kernel
theorem dX8_leftOut_26 : decode cX8_leftOut 26 = .ok (.getfield 167, 3) := by decide +kernel
theorem dX8_leftOut_29 : decode cX8_leftOut 29 = .ok (.if_icmp .ge 57, 3) := by decide +kernel
theorem dX8_leftOut_32 : decode cX8_leftOut 32 = .ok (.aload_n 0, 1) := by decide +kernel
theorem dX8_leftOut_33 : decode cX8_leftOut 33 = .ok (.iload 5, 2) := by decide +kernel
theorem dX8_leftOut_35 : decode cX8_leftOut 35 = .ok (.iload_n 1, 1) := by decide +kernel
theorem dX8_leftOut_36 : decode cX8_leftOut 36 = .ok (.invokevirtual 192, 3) := by decide +kernel
theorem dX8_leftOut_39 : decode cX8_leftOut 39 = .ok (.ifCond .eq 41, 3) := by decide +kernel
theorem dX8_leftOut_42 : decode cX8_leftOut 42 = .ok (.iload_n 2, 1) := by decide +kernel
theorem dX8_leftOut_43 : decode cX8_leftOut 43 = .ok (.aload_n 0, 1) := by decide +kernel
theorem dX8_leftOut_44 : decode cX8_leftOut 44 = .ok (.iload 5, 2) := by decide +kernel
theorem dX8_leftOut_46 : decode cX8_leftOut 46 = .ok (.invokevirtual 180, 3) := by decide +kernel
theorem dX8_leftOut_49 : decode cX8_leftOut 49 = .ok (.aload_n 0, 1) := by decide +kernel
theorem dX8_leftOut_50 : decode cX8_leftOut 50 = .ok (.iload 5, 2) := by decide +kernel
theorem dX8_leftOut_52 : decode cX8_leftOut 52 = .ok (.invokevirtual 183, 3) := by decide +kernel
theorem dX8_leftOut_55 : decode cX8_leftOut 55 = .ok (.invokestatic 125, 3) := by decide +kernel
theorem dX8_leftOut_58 : decode cX8_leftOut 58 = .ok (.ifCond .ne 22, 3) := by decide +kernel
theorem dX8_leftOut_61 : decode cX8_leftOut 61 = .ok (.iload_n 3, 1) := by decide +kernel
theorem dX8_leftOut_62 : decode cX8_leftOut 62 = .ok (.aload_n 0, 1) := by decide +kernel
theorem dX8_leftOut_63 : decode cX8_leftOut 63 = .ok (.getfield 29, 3) := by decide +kernel
theorem dX8_leftOut_66 : decode cX8_leftOut 66 = .ok (.iload 5, 2) := by decide +kernel
theorem dX8_leftOut_68 : decode cX8_leftOut 68 = .ok (.iaload, 1) := by decide +kernel
theorem dX8_leftOut_69 : decode cX8_leftOut 69 = .ok (.iadd, 1) := by decide +kernel
theorem dX8_leftOut_70 : decode cX8_leftOut 70 = .ok (.istore_n 3, 1) := by decide +kernel
theorem dX8_leftOut_71 : decode cX8_leftOut 71 = .ok (.iload 4, 2) := by decide +kernel
theorem dX8_leftOut_73 : decode cX8_leftOut 73 = .ok (.iconst 1, 1) := by decide +kernel
theorem dX8_leftOut_74 : decode cX8_leftOut 74 = .ok (.iload 5, 2) := by decide +kernel
theorem dX8_leftOut_76 : decode cX8_leftOut 76 = .ok (.ishl, 1) := by decide +kernel
theorem dX8_leftOut_77 : decode cX8_leftOut 77 = .ok (.ior, 1) := by decide +kernel
theorem dX8_leftOut_78 : decode cX8_leftOut 78 = .ok (.istore 4, 2) := by decide +kernel
theorem dX8_leftOut_80 : decode cX8_leftOut 80 = .ok (.iinc 5 1, 3) := by decide +kernel
theorem dX8_leftOut_83 : decode cX8_leftOut 83 = .ok (.goto (-60), 3) := by decide +kernel
theorem dX8_leftOut_86 : decode cX8_leftOut 86 = .ok (.aload_n 0, 1) := by decide +kernel
theorem dX8_leftOut_87 : decode cX8_leftOut 87 = .ok (.iload 4, 2) := by decide +kernel
theorem dX8_leftOut_89 : decode cX8_leftOut 89 = .ok (.iload_n 3, 1) := by decide +kernel
theorem dX8_leftOut_90 : decode cX8_leftOut 90 = .ok (.invokevirtual 158, 3) := by decide +kernel
theorem dX8_leftOut_93 : decode cX8_leftOut 93 = .ok (.ireturn, 1) := by decide +kernel
set_option maxRecDepth 20000 in
theorem ggX8_heldYear_X8_isDay : GoodIn wsX8_heldYear wsX8_isDay := goodIn_r _ [4, 5, 6, 3, 7] (by decide +kernel) (by decide +kernel)
set_option maxRecDepth 20000 in
theorem gX8_heldYear_X8_isDay : GoodIn wsX8_heldYear (va_wsS RX8 189 yX8_isDay wsX8_isDay) := goodIn_app (goodIn_of _ (by decide +kernel)) ggX8_heldYear_X8_isDay
set_option maxRecDepth 20000 in
theorem ggX8_heldYear_X8_bestYear : GoodIn wsX8_heldYear wsX8_bestYear := goodIn_r _ [11, 12, 13, 14, 15, 16, 17, 3, 18, 19, 20, 21, 22, 23, 24, 25, 26, 27, 28, 29, 30, 31, 32, 33, 34, 35, 36, 37, 38, 39, 40, 41, 42, 43, 44, 45, 46, 47, 48, 49, 50, 51, 52, 53, 54, 55, 56, 57, 58, 59, 60, 61, 62, 63, 64, 65, 66, 67, 68, 69, 70, 71, 72, 73, 74, 75, 76, 77, 78, 79, 80, 81, 82, 83, 84, 85, 86, 87, 88, 89, 90, 91, 92, 93, 94, 95, 96, 97, 98, 99, 100, 101, 102, 103, 104, 105] (by decide +kernel) (by decide +kernel)
set_option maxRecDepth 20000 in
theorem gX8_heldYear_X8_bestYear : GoodIn wsX8_heldYear (wsV RX8 195 RX8 yX8_bestYear wsX8_bestYear) := goodIn_app (goodIn_of _ (by decide +kernel)) ggX8_heldYear_X8_bestYear
theorem dX8_heldYear_0 : decode cX8_heldYear 0 = .ok (.iload_n 1, 1) := by decide +kernel
theorem dX8_heldYear_1 : decode cX8_heldYear 1 = .ok (.invokestatic 189, 3) := by decide +kernel
theorem dX8_heldYear_4 : decode cX8_heldYear 4 = .ok (.ifCond .eq 11, 3) := by decide +kernel
theorem dX8_heldYear_7 : decode cX8_heldYear 7 = .ok (.aload_n 0, 1) := by decide +kernel
theorem dX8_heldYear_8 : decode cX8_heldYear 8 = .ok (.iload_n 1, 1) := by decide +kernel
theorem dX8_heldYear_9 : decode cX8_heldYear 9 = .ok (.invokevirtual 195, 3) := by decide +kernel
theorem dX8_heldYear_12 : decode cX8_heldYear 12 = .ok (.goto 4, 3) := by decide +kernel
theorem dX8_heldYear_15 : decode cX8_heldYear 15 = .ok (.iconst (-1), 1) := by decide +kernel
theorem dX8_heldYear_16 : decode cX8_heldYear 16 = .ok (.ireturn, 1) := by decide +kernel
set_option maxRecDepth 20000 in
theorem ggX8_isHand_X8_in : GoodIn wsX8_isHand wsX8_in := goodIn_r _ [4] (by decide +kernel) (by decide +kernel)
set_option maxRecDepth 20000 in
theorem gX8_isHand_X8_in : GoodIn wsX8_isHand (va_wsS RX8 125 yX8_in wsX8_in) := goodIn_app (goodIn_of _ (by decide +kernel)) ggX8_isHand_X8_in
theorem dX8_isHand_0 : decode cX8_isHand 0 = .ok (.iload_n 0, 1) := by decide +kernel
theorem dX8_isHand_1 : decode cX8_isHand 1 = .ok (.iconst 0, 1) := by decide +kernel
theorem dX8_isHand_2 : decode cX8_isHand 2 = .ok (.iconst 3, 1) := by decide +kernel
theorem dX8_isHand_3 : decode cX8_isHand 3 = .ok (.invokestatic 125, 3) := by decide +kernel
theorem dX8_isHand_6 : decode cX8_isHand 6 = .ok (.ireturn, 1) := by decide +kernel
set_option maxRecDepth 20000 in
theorem ggX8_isTest_X8_in : GoodIn wsX8_isTest wsX8_in := goodIn_r _ [5] (by decide +kernel) (by decide +kernel)
set_option maxRecDepth 20000 in
theorem gX8_isTest_X8_in : GoodIn wsX8_isTest (va_wsS RX8 125 yX8_in wsX8_in) := goodIn_app (goodIn_of _ (by decide +kernel)) ggX8_isTest_X8_in
theorem dX8_isTest_0 : decode cX8_isTest 0 = .ok (.iload_n 1, 1) := by decide +kernel
theorem dX8_isTest_1 : decode cX8_isTest 1 = .ok (.iconst 0, 1) := by decide +kernel
theorem dX8_isTest_2 : decode cX8_isTest 2 = .ok (.aload_n 0, 1) := by decide +kernel
theorem dX8_isTest_3 : decode cX8_isTest 3 = .ok (.getfield 198, 3) := by decide +kernel
theorem dX8_isTest_6 : decode cX8_isTest 6 = .ok (.iconst 1, 1) := by decide +kernel
theorem dX8_isTest_7 : decode cX8_isTest 7 = .ok (.isub, 1) := by decide +kernel
theorem dX8_isTest_8 : decode cX8_isTest 8 = .ok (.invokestatic 125, 3) := by decide +kernel
theorem dX8_isTest_11 : decode cX8_isTest 11 = .ok (.ireturn, 1) := by decide +kernel
set_option maxRecDepth 20000 in
theorem ggX8_hand_X8_isHand : GoodIn wsX8_hand wsX8_isHand := goodIn_r _ [5, 6, 7, 4, 8] (by decide +kernel) (by decide +kernel)
set_option maxRecDepth 20000 in
theorem gX8_hand_X8_isHand : GoodIn wsX8_hand (va_wsS RX8 201 yX8_isHand wsX8_isHand) := goodIn_app (goodIn_of _ (by decide +kernel)) ggX8_hand_X8_isHand
set_option maxRecDepth 20000 in
theorem ggX8_hand_X8_in : GoodIn wsX8_hand wsX8_in := goodIn_r _ [8] (by decide +kernel) (by decide +kernel)
set_option maxRecDepth 20000 in
theorem gX8_hand_X8_in : GoodIn wsX8_hand (va_wsS RX8 125 yX8_in wsX8_in) := goodIn_app (goodIn_of _ (by decide +kernel)) ggX8_hand_X8_in
theorem dX8_hand_0 : decode cX8_hand 0 = .ok (.iload_n 1, 1) := by decide +kernel
theorem dX8_hand_1 : decode cX8_hand 1 = .ok (.invokestatic 201, 3) := by decide +kernel
theorem dX8_hand_4 : decode cX8_hand 4 = .ok (.ifCond .eq 13, 3) := by decide +kernel
theorem dX8_hand_7 : decode cX8_hand 7 = .ok (.iload_n 2, 1) := by decide +kernel
theorem dX8_hand_8 : decode cX8_hand 8 = .ok (.iconst 0, 1) := by decide +kernel
theorem dX8_hand_9 : decode cX8_hand 9 = .ok (.bipush 99, 2) := by decide +kernel
theorem dX8_hand_11 : decode cX8_hand 11 = .ok (.invokestatic 125, 3) := by decide +kernel
theorem dX8_hand_14 : decode cX8_hand 14 = .ok (.ifCond .ne 5, 3) := by decide +kernel
theorem dX8_hand_17 : decode cX8_hand 17 = .ok (.iconst (-1), 1) := by decide +kernel
theorem dX8_hand_18 : decode cX8_hand 18 = .ok (.ireturn, 1) := by decide +kernel
theorem dX8_hand_19 : decode cX8_hand 19 = .ok (.aload_n 0, 1) := by decide +kernel
theorem dX8_hand_20 : decode cX8_hand 20 = .ok (.getfield 53, 3) := by decide +kernel
theorem dX8_hand_23 : decode cX8_hand 23 = .ok (.iload_n 1, 1) := by decide +kernel
theorem dX8_hand_24 : decode cX8_hand 24 = .ok (.iaload, 1) := by decide +kernel
theorem dX8_hand_25 : decode cX8_hand 25 = .ok (.istore_n 3, 1) := by decide +kernel
theorem dX8_hand_26 : decode cX8_hand 26 = .ok (.aload_n 0, 1) := by decide +kernel
theorem dX8_hand_27 : decode cX8_hand 27 = .ok (.getfield 53, 3) := by decide +kernel
theorem dX8_hand_30 : decode cX8_hand 30 = .ok (.iload_n 1, 1) := by decide +kernel
theorem dX8_hand_31 : decode cX8_hand 31 = .ok (.iload_n 2, 1) := by decide +kernel
theorem dX8_hand_32 : decode cX8_hand 32 = .ok (.iastore, 1) := by decide +kernel
theorem dX8_hand_33 : decode cX8_hand 33 = .ok (.iload_n 3, 1) := by decide +kernel
theorem dX8_hand_34 : decode cX8_hand 34 = .ok (.ireturn, 1) := by decide +kernel
set_option maxRecDepth 20000 in
theorem ggX8_test_X8_in : GoodIn wsX8_test wsX8_in := goodIn_r _ [11] (by decide +kernel) (by decide +kernel)
set_option maxRecDepth 20000 in
theorem gX8_test_X8_in : GoodIn wsX8_test (va_wsS RX8 125 yX8_in wsX8_in) := goodIn_app (goodIn_of _ (by decide +kernel)) ggX8_test_X8_in
theorem dX8_test_0 : decode cX8_test 0 = .ok (.iload_n 1, 1) := by decide +kernel
theorem dX8_test_1 : decode cX8_test 1 = .ok (.iconst 1, 1) := by decide +kernel
theorem dX8_test_2 : decode cX8_test 2 = .ok (.sipush 1000, 3) := by decide +kernel
theorem dX8_test_5 : decode cX8_test 5 = .ok (.invokestatic 125, 3) := by decide +kernel
theorem dX8_test_8 : decode cX8_test 8 = .ok (.ifCond .eq 28, 3) := by decide +kernel
theorem dX8_test_11 : decode cX8_test 11 = .ok (.iload_n 2, 1) := by decide +kernel
theorem dX8_test_12 : decode cX8_test 12 = .ok (.iconst 0, 1) := by decide +kernel
theorem dX8_test_13 : decode cX8_test 13 = .ok (.bipush 9, 2) := by decide +kernel
theorem dX8_test_15 : decode cX8_test 15 = .ok (.invokestatic 125, 3) := by decide +kernel
theorem dX8_test_18 : decode cX8_test 18 = .ok (.ifCond .eq 18, 3) := by decide +kernel
theorem dX8_test_21 : decode cX8_test 21 = .ok (.iload_n 3, 1) := by decide +kernel
theorem dX8_test_22 : decode cX8_test 22 = .ok (.bipush (-9), 2) := by decide +kernel
theorem dX8_test_24 : decode cX8_test 24 = .ok (.if_icmp .eq 14, 3) := by decide +kernel
theorem dX8_test_27 : decode cX8_test 27 = .ok (.iload_n 3, 1) := by decide +kernel
theorem dX8_test_28 : decode cX8_test 28 = .ok (.iconst 0, 1) := by decide +kernel
theorem dX8_test_29 : decode cX8_test 29 = .ok (.iconst 3, 1) := by decide +kernel
theorem dX8_test_30 : decode cX8_test 30 = .ok (.invokestatic 125, 3) := by decide +kernel
theorem dX8_test_33 : decode cX8_test 33 = .ok (.ifCond .ne 5, 3) := by decide +kernel
theorem dX8_test_36 : decode cX8_test 36 = .ok (.iconst (-1), 1) := by decide +kernel
theorem dX8_test_37 : decode cX8_test 37 = .ok (.ireturn, 1) := by decide +kernel
theorem dX8_test_38 : decode cX8_test 38 = .ok (.aload_n 0, 1) := by decide +kernel
theorem dX8_test_39 : decode cX8_test 39 = .ok (.getfield 198, 3) := by decide +kernel
theorem dX8_test_42 : decode cX8_test 42 = .ok (.bipush 10, 2) := by decide +kernel
theorem dX8_test_44 : decode cX8_test 44 = .ok (.if_icmp .ne 6, 3) := by decide +kernel
theorem dX8_test_47 : decode cX8_test 47 = .ok (.bipush (-2), 2) := by decide +kernel
theorem dX8_test_49 : decode cX8_test 49 = .ok (.ireturn, 1) := by decide +kernel
theorem dX8_test_50 : decode cX8_test 50 = .ok (.aload_n 0, 1) := by decide +kernel
theorem dX8_test_51 : decode cX8_test 51 = .ok (.getfield 56, 3) := by decide +kernel
theorem dX8_test_54 : decode cX8_test 54 = .ok (.aload_n 0, 1) := by decide +kernel
theorem dX8_test_55 : decode cX8_test 55 = .ok (.getfield 198, 3) := by decide +kernel
theorem dX8_test_58 : decode cX8_test 58 = .ok (.iload_n 1, 1) := by decide +kernel
theorem dX8_test_59 : decode cX8_test 59 = .ok (.iastore, 1) := by decide +kernel
theorem dX8_test_60 : decode cX8_test 60 = .ok (.aload_n 0, 1) := by decide +kernel
theorem dX8_test_61 : decode cX8_test 61 = .ok (.getfield 59, 3) := by decide +kernel
theorem dX8_test_64 : decode cX8_test 64 = .ok (.aload_n 0, 1) := by decide +kernel
theorem dX8_test_65 : decode cX8_test 65 = .ok (.getfield 198, 3) := by decide +kernel
theorem dX8_test_68 : decode cX8_test 68 = .ok (.iload_n 2, 1) := by decide +kernel
theorem dX8_test_69 : decode cX8_test 69 = .ok (.iastore, 1) := by decide +kernel
theorem dX8_test_70 : decode cX8_test 70 = .ok (.aload_n 0, 1) := by decide +kernel
theorem dX8_test_71 : decode cX8_test 71 = .ok (.getfield 62, 3) := by decide +kernel
theorem dX8_test_74 : decode cX8_test 74 = .ok (.aload_n 0, 1) := by decide +kernel
theorem dX8_test_75 : decode cX8_test 75 = .ok (.getfield 198, 3) := by decide +kernel
theorem dX8_test_78 : decode cX8_test 78 = .ok (.iload_n 3, 1) := by decide +kernel
theorem dX8_test_79 : decode cX8_test 79 = .ok (.iastore, 1) := by decide +kernel
theorem dX8_test_80 : decode cX8_test 80 = .ok (.aload_n 0, 1) := by decide +kernel
theorem dX8_test_81 : decode cX8_test 81 = .ok (.getfield 68, 3) := by decide +kernel
theorem dX8_test_84 : decode cX8_test 84 = .ok (.aload_n 0, 1) := by decide +kernel
theorem dX8_test_85 : decode cX8_test 85 = .ok (.getfield 198, 3) := by decide +kernel
theorem dX8_test_88 : decode cX8_test 88 = .ok (.bipush (-9), 2) := by decide +kernel
theorem dX8_test_90 : decode cX8_test 90 = .ok (.iastore, 1) := by decide +kernel
theorem dX8_test_91 : decode cX8_test 91 = .ok (.aload_n 0, 1) := by decide +kernel
theorem dX8_test_92 : decode cX8_test 92 = .ok (.getfield 71, 3) := by decide +kernel
theorem dX8_test_95 : decode cX8_test 95 = .ok (.aload_n 0, 1) := by decide +kernel
theorem dX8_test_96 : decode cX8_test 96 = .ok (.getfield 198, 3) := by decide +kernel
theorem dX8_test_99 : decode cX8_test 99 = .ok (.iconst 0, 1) := by decide +kernel
theorem dX8_test_100 : decode cX8_test 100 = .ok (.bastore, 1) := by decide +kernel
theorem dX8_test_101 : decode cX8_test 101 = .ok (.iconst 0, 1) := by decide +kernel
theorem dX8_test_102 : decode cX8_test 102 = .ok (.istore 4, 2) := by decide +kernel
theorem dX8_test_104 : decode cX8_test 104 = .ok (.iload 4, 2) := by decide +kernel
theorem dX8_test_106 : decode cX8_test 106 = .ok (.iconst 4, 1) := by decide +kernel
theorem dX8_test_107 : decode cX8_test 107 = .ok (.if_icmp .ge 25, 3) := by decide +kernel
theorem dX8_test_110 : decode cX8_test 110 = .ok (.aload_n 0, 1) := by decide +kernel
theorem dX8_test_111 : decode cX8_test 111 = .ok (.getfield 65, 3) := by decide +kernel
theorem dX8_test_114 : decode cX8_test 114 = .ok (.iconst 4, 1) := by decide +kernel
theorem dX8_test_115 : decode cX8_test 115 = .ok (.aload_n 0, 1) := by decide +kernel
theorem dX8_test_116 : decode cX8_test 116 = .ok (.getfield 198, 3) := by decide +kernel
theorem dX8_test_119 : decode cX8_test 119 = .ok (.imul, 1) := by decide +kernel
theorem dX8_test_120 : decode cX8_test 120 = .ok (.iload 4, 2) := by decide +kernel
theorem dX8_test_122 : decode cX8_test 122 = .ok (.iadd, 1) := by decide +kernel
theorem dX8_test_123 : decode cX8_test 123 = .ok (.bipush 8, 2) := by decide +kernel
theorem dX8_test_125 : decode cX8_test 125 = .ok (.iastore, 1) := by decide +kernel
theorem dX8_test_126 : decode cX8_test 126 = .ok (.iinc 4 1, 3) := by decide +kernel
theorem dX8_test_129 : decode cX8_test 129 = .ok (.goto (-25), 3) := by decide +kernel
theorem dX8_test_132 : decode cX8_test 132 = .ok (.aload_n 0, 1) := by decide +kernel
theorem dX8_test_133 : decode cX8_test 133 = .ok (.dup, 1) := by decide +kernel
theorem dX8_test_134 : decode cX8_test 134 = .ok (.getfield 198, 3) := by decide +kernel
theorem dX8_test_137 : decode cX8_test 137 = .ok (.iconst 1, 1) := by decide +kernel
theorem dX8_test_138 : decode cX8_test 138 = .ok (.iadd, 1) := by decide +kernel
theorem dX8_test_139 : decode cX8_test 139 = .ok (.putfield 198, 3) := by decide +kernel
theorem dX8_test_142 : decode cX8_test 142 = .ok (.aload_n 0, 1) := by decide +kernel
theorem dX8_test_143 : decode cX8_test 143 = .ok (.getfield 198, 3) := by decide +kernel
theorem dX8_test_146 : decode cX8_test 146 = .ok (.iconst 1, 1) := by decide +kernel
theorem dX8_test_147 : decode cX8_test 147 = .ok (.isub, 1) := by decide +kernel
theorem dX8_test_148 : decode cX8_test 148 = .ok (.ireturn, 1) := by decide +kernel
set_option maxRecDepth 20000 in
theorem ggX8_often_X8_isTest : GoodIn wsX8_often wsX8_isTest := goodIn_r _ [7, 8, 9, 10, 6, 11, 15, 16, 17, 18, 19, 20, 21, 22, 23, 24, 25, 26, 27, 28, 29, 30, 31, 32, 33, 34, 35, 36, 37, 38, 39, 40, 41, 42, 43, 44, 45, 46, 47, 48, 49, 50, 51, 52, 53, 54, 55, 56, 57, 58, 59, 60, 61] (by decide +kernel) (by decide +kernel)
set_option maxRecDepth 20000 in
theorem gX8_often_X8_isTest : GoodIn wsX8_often (wsV RX8 204 RX8 yX8_isTest wsX8_isTest) := goodIn_app (goodIn_of _ (by decide +kernel)) ggX8_often_X8_isTest
set_option maxRecDepth 20000 in
theorem ggX8_often_X8_isHand : GoodIn wsX8_often wsX8_isHand := goodIn_r _ [14, 9, 10, 6, 11] (by decide +kernel) (by decide +kernel)
set_option maxRecDepth 20000 in
theorem gX8_often_X8_isHand : GoodIn wsX8_often (va_wsS RX8 201 yX8_isHand wsX8_isHand) := goodIn_app (goodIn_of _ (by decide +kernel)) ggX8_often_X8_isHand
set_option maxRecDepth 20000 in
theorem ggX8_often_X8_in : GoodIn wsX8_often wsX8_in := goodIn_r _ [11] (by decide +kernel) (by decide +kernel)
set_option maxRecDepth 20000 in
theorem gX8_often_X8_in : GoodIn wsX8_often (va_wsS RX8 125 yX8_in wsX8_in) := goodIn_app (goodIn_of _ (by decide +kernel)) ggX8_often_X8_in
theorem dX8_often_0 : decode cX8_often 0 = .ok (.aload_n 0, 1) := by decide +kernel
theorem dX8_often_1 : decode cX8_often 1 = .ok (.iload_n 1, 1) := by decide +kernel
theorem dX8_often_2 : decode cX8_often 2 = .ok (.invokevirtual 204, 3) := by decide +kernel
theorem dX8_often_5 : decode cX8_often 5 = .ok (.ifCond .eq 20, 3) := by decide +kernel
theorem dX8_often_8 : decode cX8_often 8 = .ok (.iload_n 2, 1) := by decide +kernel
theorem dX8_often_9 : decode cX8_often 9 = .ok (.invokestatic 201, 3) := by decide +kernel
theorem dX8_often_12 : decode cX8_often 12 = .ok (.ifCond .eq 13, 3) := by decide +kernel
theorem dX8_often_15 : decode cX8_often 15 = .ok (.iload_n 3, 1) := by decide +kernel
theorem dX8_often_16 : decode cX8_often 16 = .ok (.iconst 0, 1) := by decide +kernel
end
section
theorem dX8_often_17 : decode cX8_often 17 = .ok (.bipush 16, 2) := by decide +kernel
theorem dX8_often_19 : decode cX8_often 19 = .ok (.invokestatic 125, 3) := by decide +kernel
theorem dX8_often_22 : decode cX8_often 22 = .ok (.ifCond .ne 5, 3) := by decide +kernel
theorem dX8_often_25 : decode cX8_often 25 = .ok (.iconst (-1), 1) := by decide +kernel
theorem dX8_often_26 : decode cX8_often 26 = .ok (.ireturn, 1) := by decide +kernel
theorem dX8_often_27 : decode cX8_often 27 = .ok (.aload_n 0, 1) := by decide +kernel
theorem dX8_often_28 : decode cX8_often 28 = .ok (.getfield 68, 3) := by decide +kernel
theorem dX8_often_31 : decode cX8_often 31 = .ok (.iload_n 1, 1) := by decide +kernel
theorem dX8_often_32 : decode cX8_often 32 = .ok (.iaload, 1) := by decide +kernel
theorem dX8_often_33 : decode cX8_often 33 = .ok (.bipush (-9), 2) := by decide +kernel
theorem dX8_often_35 : decode cX8_often 35 = .ok (.if_icmp .eq 6, 3) := by decide +kernel
theorem dX8_often_38 : decode cX8_often 38 = .ok (.bipush (-4), 2) := by decide +kernel
theorem dX8_often_40 : decode cX8_often 40 = .ok (.ireturn, 1) := by decide +kernel
theorem dX8_often_41 : decode cX8_often 41 = .ok (.aload_n 0, 1) := by decide +kernel
theorem dX8_often_42 : decode cX8_often 42 = .ok (.getfield 65, 3) := by decide +kernel
theorem dX8_often_45 : decode cX8_often 45 = .ok (.iconst 4, 1) := by decide +kernel
theorem dX8_often_46 : decode cX8_often 46 = .ok (.iload_n 1, 1) := by decide +kernel
theorem dX8_often_47 : decode cX8_often 47 = .ok (.imul, 1) := by decide +kernel
theorem dX8_often_48 : decode cX8_often 48 = .ok (.iload_n 2, 1) := by decide +kernel
theorem dX8_often_49 : decode cX8_often 49 = .ok (.iadd, 1) := by decide +kernel
theorem dX8_often_50 : decode cX8_often 50 = .ok (.iaload, 1) := by decide +kernel
theorem dX8_often_51 : decode cX8_often 51 = .ok (.istore 4, 2) := by decide +kernel
theorem dX8_often_53 : decode cX8_often 53 = .ok (.aload_n 0, 1) := by decide +kernel
theorem dX8_often_54 : decode cX8_often 54 = .ok (.getfield 65, 3) := by decide +kernel
theorem dX8_often_57 : decode cX8_often 57 = .ok (.iconst 4, 1) := by decide +kernel
theorem dX8_often_58 : decode cX8_often 58 = .ok (.iload_n 1, 1) := by decide +kernel
theorem dX8_often_59 : decode cX8_often 59 = .ok (.imul, 1) := by decide +kernel
theorem dX8_often_60 : decode cX8_often 60 = .ok (.iload_n 2, 1) := by decide +kernel
theorem dX8_often_61 : decode cX8_often 61 = .ok (.iadd, 1) := by decide +kernel
theorem dX8_often_62 : decode cX8_often 62 = .ok (.iload_n 3, 1) := by decide +kernel
theorem dX8_often_63 : decode cX8_often 63 = .ok (.iastore, 1) := by decide +kernel
theorem dX8_often_64 : decode cX8_often 64 = .ok (.iload 4, 2) := by decide +kernel
theorem dX8_often_66 : decode cX8_often 66 = .ok (.ireturn, 1) := by decide +kernel
theorem dX8_isGroupDone_0 : decode cX8_isGroupDone 0 = .ok (.iconst 0, 1) := by decide +kernel
theorem dX8_isGroupDone_1 : decode cX8_isGroupDone 1 = .ok (.istore_n 2, 1) := by decide +kernel
theorem dX8_isGroupDone_2 : decode cX8_isGroupDone 2 = .ok (.iconst 0, 1) := by decide +kernel
theorem dX8_isGroupDone_3 : decode cX8_isGroupDone 3 = .ok (.istore_n 3, 1) := by decide +kernel
theorem dX8_isGroupDone_4 : decode cX8_isGroupDone 4 = .ok (.iload_n 3, 1) := by decide +kernel
theorem dX8_isGroupDone_5 : decode cX8_isGroupDone 5 = .ok (.aload_n 0, 1) := by decide +kernel
theorem dX8_isGroupDone_6 : decode cX8_isGroupDone 6 = .ok (.getfield 198, 3) := by decide +kernel
theorem dX8_isGroupDone_9 : decode cX8_isGroupDone 9 = .ok (.if_icmp .ge 56, 3) := by decide +kernel
theorem dX8_isGroupDone_12 : decode cX8_isGroupDone 12 = .ok (.iload_n 2, 1) := by decide +kernel
theorem dX8_isGroupDone_13 : decode cX8_isGroupDone 13 = .ok (.ifCond .ne 40, 3) := by decide +kernel
theorem dX8_isGroupDone_16 : decode cX8_isGroupDone 16 = .ok (.aload_n 0, 1) := by decide +kernel
theorem dX8_isGroupDone_17 : decode cX8_isGroupDone 17 = .ok (.getfield 62, 3) := by decide +kernel
theorem dX8_isGroupDone_20 : decode cX8_isGroupDone 20 = .ok (.iload_n 1, 1) := by decide +kernel
theorem dX8_isGroupDone_21 : decode cX8_isGroupDone 21 = .ok (.iaload, 1) := by decide +kernel
theorem dX8_isGroupDone_22 : decode cX8_isGroupDone 22 = .ok (.bipush (-9), 2) := by decide +kernel
theorem dX8_isGroupDone_24 : decode cX8_isGroupDone 24 = .ok (.if_icmp .eq 33, 3) := by decide +kernel
theorem dX8_isGroupDone_27 : decode cX8_isGroupDone 27 = .ok (.aload_n 0, 1) := by decide +kernel
theorem dX8_isGroupDone_28 : decode cX8_isGroupDone 28 = .ok (.getfield 62, 3) := by decide +kernel
theorem dX8_isGroupDone_31 : decode cX8_isGroupDone 31 = .ok (.iload_n 3, 1) := by decide +kernel
theorem dX8_isGroupDone_32 : decode cX8_isGroupDone 32 = .ok (.iaload, 1) := by decide +kernel
theorem dX8_isGroupDone_33 : decode cX8_isGroupDone 33 = .ok (.aload_n 0, 1) := by decide +kernel
theorem dX8_isGroupDone_34 : decode cX8_isGroupDone 34 = .ok (.getfield 62, 3) := by decide +kernel
theorem dX8_isGroupDone_37 : decode cX8_isGroupDone 37 = .ok (.iload_n 1, 1) := by decide +kernel
theorem dX8_isGroupDone_38 : decode cX8_isGroupDone 38 = .ok (.iaload, 1) := by decide +kernel
theorem dX8_isGroupDone_39 : decode cX8_isGroupDone 39 = .ok (.if_icmp .ne 18, 3) := by decide +kernel
theorem dX8_isGroupDone_42 : decode cX8_isGroupDone 42 = .ok (.aload_n 0, 1) := by decide +kernel
theorem dX8_isGroupDone_43 : decode cX8_isGroupDone 43 = .ok (.getfield 68, 3) := by decide +kernel
theorem dX8_isGroupDone_46 : decode cX8_isGroupDone 46 = .ok (.iload_n 3, 1) := by decide +kernel
theorem dX8_isGroupDone_47 : decode cX8_isGroupDone 47 = .ok (.iaload, 1) := by decide +kernel
theorem dX8_isGroupDone_48 : decode cX8_isGroupDone 48 = .ok (.bipush (-9), 2) := by decide +kernel
theorem dX8_isGroupDone_50 : decode cX8_isGroupDone 50 = .ok (.if_icmp .eq 7, 3) := by decide +kernel
theorem dX8_isGroupDone_53 : decode cX8_isGroupDone 53 = .ok (.iconst 1, 1) := by decide +kernel
theorem dX8_isGroupDone_54 : decode cX8_isGroupDone 54 = .ok (.goto 4, 3) := by decide +kernel
theorem dX8_isGroupDone_57 : decode cX8_isGroupDone 57 = .ok (.iconst 0, 1) := by decide +kernel
theorem dX8_isGroupDone_58 : decode cX8_isGroupDone 58 = .ok (.istore_n 2, 1) := by decide +kernel
theorem dX8_isGroupDone_59 : decode cX8_isGroupDone 59 = .ok (.iinc 3 1, 3) := by decide +kernel
theorem dX8_isGroupDone_62 : decode cX8_isGroupDone 62 = .ok (.goto (-58), 3) := by decide +kernel
theorem dX8_isGroupDone_65 : decode cX8_isGroupDone 65 = .ok (.iload_n 2, 1) := by decide +kernel
theorem dX8_isGroupDone_66 : decode cX8_isGroupDone 66 = .ok (.ireturn, 1) := by decide +kernel
set_option maxRecDepth 20000 in
theorem ggX8_done_X8_isTest : GoodIn wsX8_done wsX8_isTest := goodIn_r _ [7, 8, 9, 10, 6, 11, 17, 18, 19, 20, 21, 22, 23, 24, 25, 26, 27, 28, 29, 30, 31, 32, 33, 34, 35, 36, 37, 38, 39, 40, 41, 42, 43, 44, 45, 46, 47, 48, 49, 50, 51, 52, 53, 54, 55, 56, 57, 58, 59, 60, 61, 62, 63] (by decide +kernel) (by decide +kernel)
set_option maxRecDepth 20000 in
theorem gX8_done_X8_isTest : GoodIn wsX8_done (wsV RX8 204 RX8 yX8_isTest wsX8_isTest) := goodIn_app (goodIn_of _ (by decide +kernel)) ggX8_done_X8_isTest
set_option maxRecDepth 20000 in
theorem ggX8_done_X8_isGroupDone : GoodIn wsX8_done wsX8_isGroupDone := goodIn_r _ [15, 8, 16, 1, 17, 18, 19, 20, 21, 22, 23, 24, 25, 26, 27, 28, 29, 30, 31, 32, 33, 34, 35, 36, 37, 38, 39, 40, 41, 42, 43, 44, 45, 46, 47, 48, 49, 50, 51, 52, 53, 54, 55, 56, 57, 58, 59, 60, 61, 62, 63] (by decide +kernel) (by decide +kernel)
set_option maxRecDepth 20000 in
theorem gX8_done_X8_isGroupDone : GoodIn wsX8_done (wsV RX8 207 RX8 yX8_isGroupDone wsX8_isGroupDone) := goodIn_app (goodIn_of _ (by decide +kernel)) ggX8_done_X8_isGroupDone
theorem dX8_done_0 : decode cX8_done 0 = .ok (.aload_n 0, 1) := by decide +kernel
theorem dX8_done_1 : decode cX8_done 1 = .ok (.iload_n 1, 1) := by decide +kernel
theorem dX8_done_2 : decode cX8_done 2 = .ok (.invokevirtual 204, 3) := by decide +kernel
theorem dX8_done_5 : decode cX8_done 5 = .ok (.ifCond .ne 5, 3) := by decide +kernel
theorem dX8_done_8 : decode cX8_done 8 = .ok (.iconst (-1), 1) := by decide +kernel
theorem dX8_done_9 : decode cX8_done 9 = .ok (.ireturn, 1) := by decide +kernel
theorem dX8_done_10 : decode cX8_done 10 = .ok (.aload_n 0, 1) := by decide +kernel
theorem dX8_done_11 : decode cX8_done 11 = .ok (.getfield 68, 3) := by decide +kernel
theorem dX8_done_14 : decode cX8_done 14 = .ok (.iload_n 1, 1) := by decide +kernel
theorem dX8_done_15 : decode cX8_done 15 = .ok (.iaload, 1) := by decide +kernel
theorem dX8_done_16 : decode cX8_done 16 = .ok (.bipush (-9), 2) := by decide +kernel
theorem dX8_done_18 : decode cX8_done 18 = .ok (.if_icmp .eq 6, 3) := by decide +kernel
theorem dX8_done_21 : decode cX8_done 21 = .ok (.bipush (-4), 2) := by decide +kernel
theorem dX8_done_23 : decode cX8_done 23 = .ok (.ireturn, 1) := by decide +kernel
theorem dX8_done_24 : decode cX8_done 24 = .ok (.aload_n 0, 1) := by decide +kernel
theorem dX8_done_25 : decode cX8_done 25 = .ok (.getfield 71, 3) := by decide +kernel
theorem dX8_done_28 : decode cX8_done 28 = .ok (.iload_n 1, 1) := by decide +kernel
theorem dX8_done_29 : decode cX8_done 29 = .ok (.aload_n 0, 1) := by decide +kernel
theorem dX8_done_30 : decode cX8_done 30 = .ok (.iload_n 1, 1) := by decide +kernel
theorem dX8_done_31 : decode cX8_done 31 = .ok (.invokevirtual 207, 3) := by decide +kernel
theorem dX8_done_34 : decode cX8_done 34 = .ok (.ifCond .ne 7, 3) := by decide +kernel
theorem dX8_done_37 : decode cX8_done 37 = .ok (.iconst 1, 1) := by decide +kernel
theorem dX8_done_38 : decode cX8_done 38 = .ok (.goto 4, 3) := by decide +kernel
theorem dX8_done_41 : decode cX8_done 41 = .ok (.iconst 0, 1) := by decide +kernel
theorem dX8_done_42 : decode cX8_done 42 = .ok (.bastore, 1) := by decide +kernel
theorem dX8_done_43 : decode cX8_done 43 = .ok (.aload_n 0, 1) := by decide +kernel
theorem dX8_done_44 : decode cX8_done 44 = .ok (.getfield 68, 3) := by decide +kernel
theorem dX8_done_47 : decode cX8_done 47 = .ok (.iload_n 1, 1) := by decide +kernel
theorem dX8_done_48 : decode cX8_done 48 = .ok (.iload_n 2, 1) := by decide +kernel
theorem dX8_done_49 : decode cX8_done 49 = .ok (.ifCond .eq 7, 3) := by decide +kernel
theorem dX8_done_52 : decode cX8_done 52 = .ok (.iconst 1, 1) := by decide +kernel
theorem dX8_done_53 : decode cX8_done 53 = .ok (.goto 4, 3) := by decide +kernel
theorem dX8_done_56 : decode cX8_done 56 = .ok (.iconst 0, 1) := by decide +kernel
theorem dX8_done_57 : decode cX8_done 57 = .ok (.iastore, 1) := by decide +kernel
theorem dX8_done_58 : decode cX8_done 58 = .ok (.aload_n 0, 1) := by decide +kernel
theorem dX8_done_59 : decode cX8_done 59 = .ok (.getfield 71, 3) := by decide +kernel
theorem dX8_done_62 : decode cX8_done 62 = .ok (.iload_n 1, 1) := by decide +kernel
theorem dX8_done_63 : decode cX8_done 63 = .ok (.baload, 1) := by decide +kernel
theorem dX8_done_64 : decode cX8_done 64 = .ok (.ifCond .eq 7, 3) := by decide +kernel
theorem dX8_done_67 : decode cX8_done 67 = .ok (.iconst 1, 1) := by decide +kernel
theorem dX8_done_68 : decode cX8_done 68 = .ok (.goto 4, 3) := by decide +kernel
theorem dX8_done_71 : decode cX8_done 71 = .ok (.iconst 0, 1) := by decide +kernel
theorem dX8_done_72 : decode cX8_done 72 = .ok (.ireturn, 1) := by decide +kernel
theorem dX8_scoreOf_0 : decode cX8_scoreOf 0 = .ok (.aload_n 0, 1) := by decide +kernel
theorem dX8_scoreOf_1 : decode cX8_scoreOf 1 = .ok (.getfield 53, 3) := by decide +kernel
theorem dX8_scoreOf_4 : decode cX8_scoreOf 4 = .ok (.iload_n 1, 1) := by decide +kernel
theorem dX8_scoreOf_5 : decode cX8_scoreOf 5 = .ok (.iaload, 1) := by decide +kernel
theorem dX8_scoreOf_6 : decode cX8_scoreOf 6 = .ok (.i2l, 1) := by decide +kernel
theorem dX8_scoreOf_7 : decode cX8_scoreOf 7 = .ok (.lstore_n 2, 1) := by decide +kernel
theorem dX8_scoreOf_8 : decode cX8_scoreOf 8 = .ok (.iconst 0, 1) := by decide +kernel
theorem dX8_scoreOf_9 : decode cX8_scoreOf 9 = .ok (.istore 4, 2) := by decide +kernel
theorem dX8_scoreOf_11 : decode cX8_scoreOf 11 = .ok (.iload 4, 2) := by decide +kernel
theorem dX8_scoreOf_13 : decode cX8_scoreOf 13 = .ok (.aload_n 0, 1) := by decide +kernel
theorem dX8_scoreOf_14 : decode cX8_scoreOf 14 = .ok (.getfield 198, 3) := by decide +kernel
theorem dX8_scoreOf_17 : decode cX8_scoreOf 17 = .ok (.if_icmp .ge 62, 3) := by decide +kernel
theorem dX8_scoreOf_20 : decode cX8_scoreOf 20 = .ok (.aload_n 0, 1) := by decide +kernel
theorem dX8_scoreOf_21 : decode cX8_scoreOf 21 = .ok (.getfield 65, 3) := by decide +kernel
theorem dX8_scoreOf_24 : decode cX8_scoreOf 24 = .ok (.iconst 4, 1) := by decide +kernel
theorem dX8_scoreOf_25 : decode cX8_scoreOf 25 = .ok (.iload 4, 2) := by decide +kernel
theorem dX8_scoreOf_27 : decode cX8_scoreOf 27 = .ok (.imul, 1) := by decide +kernel
theorem dX8_scoreOf_28 : decode cX8_scoreOf 28 = .ok (.iload_n 1, 1) := by decide +kernel
theorem dX8_scoreOf_29 : decode cX8_scoreOf 29 = .ok (.iadd, 1) := by decide +kernel
theorem dX8_scoreOf_30 : decode cX8_scoreOf 30 = .ok (.iaload, 1) := by decide +kernel
theorem dX8_scoreOf_31 : decode cX8_scoreOf 31 = .ok (.istore 5, 2) := by decide +kernel
theorem dX8_scoreOf_33 : decode cX8_scoreOf 33 = .ok (.lload_n 2, 1) := by decide +kernel
theorem dX8_scoreOf_34 : decode cX8_scoreOf 34 = .ok (.aload_n 0, 1) := by decide +kernel
theorem dX8_scoreOf_35 : decode cX8_scoreOf 35 = .ok (.getfield 71, 3) := by decide +kernel
theorem dX8_scoreOf_38 : decode cX8_scoreOf 38 = .ok (.iload 4, 2) := by decide +kernel
theorem dX8_scoreOf_40 : decode cX8_scoreOf 40 = .ok (.baload, 1) := by decide +kernel
theorem dX8_scoreOf_41 : decode cX8_scoreOf 41 = .ok (.ifCond .ne 7, 3) := by decide +kernel
theorem dX8_scoreOf_44 : decode cX8_scoreOf 44 = .ok (.lconst 1, 1) := by decide +kernel
theorem dX8_scoreOf_45 : decode cX8_scoreOf 45 = .ok (.goto 26, 3) := by decide +kernel
theorem dX8_scoreOf_48 : decode cX8_scoreOf 48 = .ok (.aload_n 0, 1) := by decide +kernel
theorem dX8_scoreOf_49 : decode cX8_scoreOf 49 = .ok (.getfield 68, 3) := by decide +kernel
theorem dX8_scoreOf_52 : decode cX8_scoreOf 52 = .ok (.iload 4, 2) := by decide +kernel
theorem dX8_scoreOf_54 : decode cX8_scoreOf 54 = .ok (.iaload, 1) := by decide +kernel
theorem dX8_scoreOf_55 : decode cX8_scoreOf 55 = .ok (.iconst 1, 1) := by decide +kernel
theorem dX8_scoreOf_56 : decode cX8_scoreOf 56 = .ok (.if_icmp .ne 9, 3) := by decide +kernel
theorem dX8_scoreOf_59 : decode cX8_scoreOf 59 = .ok (.iload 5, 2) := by decide +kernel
theorem dX8_scoreOf_61 : decode cX8_scoreOf 61 = .ok (.i2l, 1) := by decide +kernel
theorem dX8_scoreOf_62 : decode cX8_scoreOf 62 = .ok (.goto 9, 3) := by decide +kernel
theorem dX8_scoreOf_65 : decode cX8_scoreOf 65 = .ok (.bipush 16, 2) := by decide +kernel
theorem dX8_scoreOf_67 : decode cX8_scoreOf 67 = .ok (.iload 5, 2) := by decide +kernel
theorem dX8_scoreOf_69 : decode cX8_scoreOf 69 = .ok (.isub, 1) := by decide +kernel
theorem dX8_scoreOf_70 : decode cX8_scoreOf 70 = .ok (.i2l, 1) := by decide +kernel
theorem dX8_scoreOf_71 : decode cX8_scoreOf 71 = .ok (.lmul, 1) := by decide +kernel
theorem dX8_scoreOf_72 : decode cX8_scoreOf 72 = .ok (.lstore_n 2, 1) := by decide +kernel
theorem dX8_scoreOf_73 : decode cX8_scoreOf 73 = .ok (.iinc 4 1, 3) := by decide +kernel
theorem dX8_scoreOf_76 : decode cX8_scoreOf 76 = .ok (.goto (-65), 3) := by decide +kernel
theorem dX8_scoreOf_79 : decode cX8_scoreOf 79 = .ok (.lload_n 2, 1) := by decide +kernel
theorem dX8_scoreOf_80 : decode cX8_scoreOf 80 = .ok (.lreturn, 1) := by decide +kernel
set_option maxRecDepth 20000 in
theorem ggX8_allScores_X8_scoreOf : GoodIn wsX8_allScores wsX8_scoreOf := goodIn_r _ [5, 6, 7, 8, 9, 10, 11, 12, 13, 14, 15, 16, 17, 18, 19, 20, 21, 22, 23, 24, 25, 26, 27, 28, 29, 30, 31, 32, 33, 34, 35, 36, 37, 38, 39, 40, 41, 42, 43, 44, 45, 46, 47, 48, 49, 50, 51, 52, 53, 54, 55, 56, 57] (by decide +kernel) (by decide +kernel)
set_option maxRecDepth 20000 in
theorem gX8_allScores_X8_scoreOf : GoodIn wsX8_allScores (wsV RX8 210 RX8 yX8_scoreOf wsX8_scoreOf) := goodIn_app (goodIn_of _ (by decide +kernel)) ggX8_allScores_X8_scoreOf
theorem dX8_allScores_0 : decode cX8_allScores 0 = .ok (.aload_n 0, 1) := by decide +kernel
theorem dX8_allScores_1 : decode cX8_allScores 1 = .ok (.iconst 0, 1) := by decide +kernel
theorem dX8_allScores_2 : decode cX8_allScores 2 = .ok (.invokevirtual 210, 3) := by decide +kernel
theorem dX8_allScores_5 : decode cX8_allScores 5 = .ok (.aload_n 0, 1) := by decide +kernel
theorem dX8_allScores_6 : decode cX8_allScores 6 = .ok (.iconst 1, 1) := by decide +kernel
theorem dX8_allScores_7 : decode cX8_allScores 7 = .ok (.invokevirtual 210, 3) := by decide +kernel
theorem dX8_allScores_10 : decode cX8_allScores 10 = .ok (.ladd, 1) := by decide +kernel
theorem dX8_allScores_11 : decode cX8_allScores 11 = .ok (.aload_n 0, 1) := by decide +kernel
theorem dX8_allScores_12 : decode cX8_allScores 12 = .ok (.iconst 2, 1) := by decide +kernel
theorem dX8_allScores_13 : decode cX8_allScores 13 = .ok (.invokevirtual 210, 3) := by decide +kernel
theorem dX8_allScores_16 : decode cX8_allScores 16 = .ok (.ladd, 1) := by decide +kernel
theorem dX8_allScores_17 : decode cX8_allScores 17 = .ok (.aload_n 0, 1) := by decide +kernel
theorem dX8_allScores_18 : decode cX8_allScores 18 = .ok (.iconst 3, 1) := by decide +kernel
theorem dX8_allScores_19 : decode cX8_allScores 19 = .ok (.invokevirtual 210, 3) := by decide +kernel
theorem dX8_allScores_22 : decode cX8_allScores 22 = .ok (.ladd, 1) := by decide +kernel
theorem dX8_allScores_23 : decode cX8_allScores 23 = .ok (.lreturn, 1) := by decide +kernel
set_option maxRecDepth 20000 in
theorem ggX8_chance_X8_isHand : GoodIn wsX8_chance wsX8_isHand := goodIn_r _ [4, 5, 6, 3, 7] (by decide +kernel) (by decide +kernel)
set_option maxRecDepth 20000 in
theorem gX8_chance_X8_isHand : GoodIn wsX8_chance (va_wsS RX8 201 yX8_isHand wsX8_isHand) := goodIn_app (goodIn_of _ (by decide +kernel)) ggX8_chance_X8_isHand
set_option maxRecDepth 20000 in
theorem ggX8_chance_X8_allScores : GoodIn wsX8_chance wsX8_allScores := goodIn_r _ [11, 12, 13, 14, 3, 15, 16, 17, 18, 19, 20, 33, 34, 35, 36, 37, 38, 39, 40, 41, 42, 43, 44, 45, 46, 47, 48, 49, 50, 51, 52, 53, 54, 55, 56, 57, 58, 59, 60, 61, 62, 63, 64, 65, 66, 67, 68, 69, 70, 71, 72, 73, 74, 75, 76, 77, 78, 79] (by decide +kernel) (by decide +kernel)
set_option maxRecDepth 20000 in
theorem gX8_chance_X8_allScores : GoodIn wsX8_chance (wsV RX8 214 RX8 yX8_allScores wsX8_allScores) := goodIn_app (goodIn_of _ (by decide +kernel)) ggX8_chance_X8_allScores
set_option maxRecDepth 20000 in
theorem ggX8_chance_X8_meets : GoodIn wsX8_chance wsX8_meets := goodIn_r _ [24, 25, 26, 33, 34, 35, 36, 37, 38, 39, 40, 41, 42, 43, 44, 45, 46, 47, 48, 49, 50, 51, 52, 53, 54, 55, 56, 57, 58, 59, 60, 61, 62, 63, 64, 65, 66, 67, 68, 69, 70, 71, 72, 73, 74, 75, 76, 77, 78, 79] (by decide +kernel) (by decide +kernel)
set_option maxRecDepth 20000 in
theorem gX8_chance_X8_meets : GoodIn wsX8_chance (wsV RX8 142 RX8 yX8_meets wsX8_meets) := goodIn_app (goodIn_of _ (by decide +kernel)) ggX8_chance_X8_meets
set_option maxRecDepth 20000 in
theorem ggX8_chance_X8_scoreOf : GoodIn wsX8_chance wsX8_scoreOf := goodIn_r _ [15, 16, 17, 18, 19, 20, 33, 34, 35, 36, 37, 38, 39, 40, 41, 42, 43, 44, 45, 46, 47, 48, 49, 50, 51, 52, 53, 54, 55, 56, 57, 58, 59, 60, 61, 62, 63, 64, 65, 66, 67, 68, 69, 70, 71, 72, 73, 74, 75, 76, 77, 78, 79] (by decide +kernel) (by decide +kernel)
set_option maxRecDepth 20000 in
theorem gX8_chance_X8_scoreOf : GoodIn wsX8_chance (wsV RX8 210 RX8 yX8_scoreOf wsX8_scoreOf) := goodIn_app (goodIn_of _ (by decide +kernel)) ggX8_chance_X8_scoreOf
set_option maxRecDepth 20000 in
theorem ggX8_chance_X8_fraction : GoodIn wsX8_chance wsX8_fraction := goodIn_r _ [30, 31, 32, 33, 34, 35, 36, 37, 38, 39, 40, 41, 42, 43, 44, 45, 46, 47, 48, 49, 50, 51, 52, 53, 54, 55, 56, 57, 58, 59, 60, 61, 62, 63, 64, 65, 66, 67, 68, 69, 70, 71, 72, 73, 74, 75, 76, 77, 78, 79] (by decide +kernel) (by decide +kernel)
set_option maxRecDepth 20000 in
theorem gX8_chance_X8_fraction : GoodIn wsX8_chance (wsV RX8 218 RX8 yX8_fraction wsX8_fraction) := goodIn_app (goodIn_of _ (by decide +kernel)) ggX8_chance_X8_fraction
theorem dX8_chance_0 : decode cX8_chance 0 = .ok (.iload_n 1, 1) := by decide +kernel
theorem dX8_chance_1 : decode cX8_chance 1 = .ok (.invokestatic 201, 3) := by decide +kernel
theorem dX8_chance_4 : decode cX8_chance 4 = .ok (.ifCond .ne 5, 3) := by decide +kernel
theorem dX8_chance_7 : decode cX8_chance 7 = .ok (.iconst (-1), 1) := by decide +kernel
theorem dX8_chance_8 : decode cX8_chance 8 = .ok (.ireturn, 1) := by decide +kernel
theorem dX8_chance_9 : decode cX8_chance 9 = .ok (.aload_n 0, 1) := by decide +kernel
theorem dX8_chance_10 : decode cX8_chance 10 = .ok (.invokevirtual 214, 3) := by decide +kernel
theorem dX8_chance_13 : decode cX8_chance 13 = .ok (.lconst 0, 1) := by decide +kernel
theorem dX8_chance_14 : decode cX8_chance 14 = .ok (.lcmp, 1) := by decide +kernel
theorem dX8_chance_15 : decode cX8_chance 15 = .ok (.ifCond .ne 11, 3) := by decide +kernel
theorem dX8_chance_18 : decode cX8_chance 18 = .ok (.aload_n 0, 1) := by decide +kernel
theorem dX8_chance_19 : decode cX8_chance 19 = .ok (.iconst 4, 1) := by decide +kernel
theorem dX8_chance_20 : decode cX8_chance 20 = .ok (.invokevirtual 142, 3) := by decide +kernel
theorem dX8_chance_23 : decode cX8_chance 23 = .ok (.goto 17, 3) := by decide +kernel
theorem dX8_chance_26 : decode cX8_chance 26 = .ok (.aload_n 0, 1) := by decide +kernel
theorem dX8_chance_27 : decode cX8_chance 27 = .ok (.aload_n 0, 1) := by decide +kernel
theorem dX8_chance_28 : decode cX8_chance 28 = .ok (.iload_n 1, 1) := by decide +kernel
theorem dX8_chance_29 : decode cX8_chance 29 = .ok (.invokevirtual 210, 3) := by decide +kernel
theorem dX8_chance_32 : decode cX8_chance 32 = .ok (.aload_n 0, 1) := by decide +kernel
theorem dX8_chance_33 : decode cX8_chance 33 = .ok (.invokevirtual 214, 3) := by decide +kernel
theorem dX8_chance_36 : decode cX8_chance 36 = .ok (.iconst 1, 1) := by decide +kernel
theorem dX8_chance_37 : decode cX8_chance 37 = .ok (.invokevirtual 218, 3) := by decide +kernel
theorem dX8_chance_40 : decode cX8_chance 40 = .ok (.ireturn, 1) := by decide +kernel
set_option maxRecDepth 20000 in
theorem ggX8_likely_X8_allScores : GoodIn wsX8_likely wsX8_allScores := goodIn_r _ [5, 6, 7, 8, 4, 9, 10, 11, 12, 13, 14, 21, 22, 23, 24, 25, 26, 27, 28, 29, 30, 31, 32, 33, 34, 35, 36, 37, 38, 39, 40, 41, 42, 43, 44, 45, 46, 47, 48, 49, 50, 51, 52, 53, 54, 55, 56, 57, 58, 59, 60, 61, 62, 63, 64, 65, 66, 67] (by decide +kernel) (by decide +kernel)
set_option maxRecDepth 20000 in
theorem gX8_likely_X8_allScores : GoodIn wsX8_likely (wsV RX8 214 RX8 yX8_allScores wsX8_allScores) := goodIn_app (goodIn_of _ (by decide +kernel)) ggX8_likely_X8_allScores
set_option maxRecDepth 20000 in
theorem ggX8_likely_X8_meets : GoodIn wsX8_likely wsX8_meets := goodIn_r _ [18, 19, 20, 21, 22, 23, 24, 25, 26, 27, 28, 29, 30, 31, 32, 33, 34, 35, 36, 37, 38, 39, 40, 41, 42, 43, 44, 45, 46, 47, 48, 49, 50, 51, 52, 53, 54, 55, 56, 57, 58, 59, 60, 61, 62, 63, 64, 65, 66, 67] (by decide +kernel) (by decide +kernel)
set_option maxRecDepth 20000 in
theorem gX8_likely_X8_meets : GoodIn wsX8_likely (wsV RX8 142 RX8 yX8_meets wsX8_meets) := goodIn_app (goodIn_of _ (by decide +kernel)) ggX8_likely_X8_meets
set_option maxRecDepth 20000 in
theorem ggX8_likely_X8_scoreOf : GoodIn wsX8_likely wsX8_scoreOf := goodIn_r _ [9, 10, 11, 12, 13, 14, 21, 22, 23, 24, 25, 26, 27, 28, 29, 30, 31, 32, 33, 34, 35, 36, 37, 38, 39, 40, 41, 42, 43, 44, 45, 46, 47, 48, 49, 50, 51, 52, 53, 54, 55, 56, 57, 58, 59, 60, 61, 62, 63, 64, 65, 66, 67] (by decide +kernel) (by decide +kernel)
set_option maxRecDepth 20000 in
theorem gX8_likely_X8_scoreOf : GoodIn wsX8_likely (wsV RX8 210 RX8 yX8_scoreOf wsX8_scoreOf) := goodIn_app (goodIn_of _ (by decide +kernel)) ggX8_likely_X8_scoreOf
theorem dX8_likely_0 : decode cX8_likely 0 = .ok (.aload_n 0, 1) := by decide +kernel
theorem dX8_likely_1 : decode cX8_likely 1 = .ok (.invokevirtual 214, 3) := by decide +kernel
theorem dX8_likely_4 : decode cX8_likely 4 = .ok (.lconst 0, 1) := by decide +kernel
theorem dX8_likely_5 : decode cX8_likely 5 = .ok (.lcmp, 1) := by decide +kernel
theorem dX8_likely_6 : decode cX8_likely 6 = .ok (.ifCond .ne 9, 3) := by decide +kernel
theorem dX8_likely_9 : decode cX8_likely 9 = .ok (.aload_n 0, 1) := by decide +kernel
theorem dX8_likely_10 : decode cX8_likely 10 = .ok (.iconst 4, 1) := by decide +kernel
theorem dX8_likely_11 : decode cX8_likely 11 = .ok (.invokevirtual 142, 3) := by decide +kernel
theorem dX8_likely_14 : decode cX8_likely 14 = .ok (.ireturn, 1) := by decide +kernel
theorem dX8_likely_15 : decode cX8_likely 15 = .ok (.iconst 0, 1) := by decide +kernel
theorem dX8_likely_16 : decode cX8_likely 16 = .ok (.istore_n 1, 1) := by decide +kernel
theorem dX8_likely_17 : decode cX8_likely 17 = .ok (.iconst 1, 1) := by decide +kernel
theorem dX8_likely_18 : decode cX8_likely 18 = .ok (.istore_n 2, 1) := by decide +kernel
theorem dX8_likely_19 : decode cX8_likely 19 = .ok (.iload_n 2, 1) := by decide +kernel
theorem dX8_likely_20 : decode cX8_likely 20 = .ok (.iconst 4, 1) := by decide +kernel
theorem dX8_likely_21 : decode cX8_likely 21 = .ok (.if_icmp .ge 29, 3) := by decide +kernel
theorem dX8_likely_24 : decode cX8_likely 24 = .ok (.aload_n 0, 1) := by decide +kernel
theorem dX8_likely_25 : decode cX8_likely 25 = .ok (.iload_n 2, 1) := by decide +kernel
theorem dX8_likely_26 : decode cX8_likely 26 = .ok (.invokevirtual 210, 3) := by decide +kernel
theorem dX8_likely_29 : decode cX8_likely 29 = .ok (.aload_n 0, 1) := by decide +kernel
theorem dX8_likely_30 : decode cX8_likely 30 = .ok (.iload_n 1, 1) := by decide +kernel
theorem dX8_likely_31 : decode cX8_likely 31 = .ok (.invokevirtual 210, 3) := by decide +kernel
theorem dX8_likely_34 : decode cX8_likely 34 = .ok (.lcmp, 1) := by decide +kernel
theorem dX8_likely_35 : decode cX8_likely 35 = .ok (.ifCond .le 7, 3) := by decide +kernel
theorem dX8_likely_38 : decode cX8_likely 38 = .ok (.iload_n 2, 1) := by decide +kernel
theorem dX8_likely_39 : decode cX8_likely 39 = .ok (.goto 4, 3) := by decide +kernel
theorem dX8_likely_42 : decode cX8_likely 42 = .ok (.iload_n 1, 1) := by decide +kernel
theorem dX8_likely_43 : decode cX8_likely 43 = .ok (.istore_n 1, 1) := by decide +kernel
theorem dX8_likely_44 : decode cX8_likely 44 = .ok (.iinc 2 1, 3) := by decide +kernel
theorem dX8_likely_47 : decode cX8_likely 47 = .ok (.goto (-28), 3) := by decide +kernel
theorem dX8_likely_50 : decode cX8_likely 50 = .ok (.iload_n 1, 1) := by decide +kernel
theorem dX8_likely_51 : decode cX8_likely 51 = .ok (.ireturn, 1) := by decide +kernel
set_option maxRecDepth 20000 in
theorem ggX8_gainOf_X8_scoreOf : GoodIn wsX8_gainOf wsX8_scoreOf := goodIn_r _ [7, 8, 9, 1, 10, 11, 12, 13, 14, 15, 16, 17, 18, 19, 20, 21, 22, 23, 24, 25, 26, 27, 28, 29, 30, 31, 32, 33, 34, 35, 36, 37, 38, 39, 40, 41, 42, 43, 44, 45, 46, 47, 48, 49, 50, 51, 52, 53, 54, 55, 56, 57, 58] (by decide +kernel) (by decide +kernel)
set_option maxRecDepth 20000 in
theorem gX8_gainOf_X8_scoreOf : GoodIn wsX8_gainOf (wsV RX8 210 RX8 yX8_scoreOf wsX8_scoreOf) := goodIn_app (goodIn_of _ (by decide +kernel)) ggX8_gainOf_X8_scoreOf
theorem dX8_gainOf_0 : decode cX8_gainOf 0 = .ok (.lconst 0, 1) := by decide +kernel
theorem dX8_gainOf_1 : decode cX8_gainOf 1 = .ok (.lstore_n 2, 1) := by decide +kernel
theorem dX8_gainOf_2 : decode cX8_gainOf 2 = .ok (.lconst 0, 1) := by decide +kernel
theorem dX8_gainOf_3 : decode cX8_gainOf 3 = .ok (.lstore 4, 2) := by decide +kernel
theorem dX8_gainOf_5 : decode cX8_gainOf 5 = .ok (.lconst 0, 1) := by decide +kernel
theorem dX8_gainOf_6 : decode cX8_gainOf 6 = .ok (.lstore 6, 2) := by decide +kernel
theorem dX8_gainOf_8 : decode cX8_gainOf 8 = .ok (.iconst 0, 1) := by decide +kernel
theorem dX8_gainOf_9 : decode cX8_gainOf 9 = .ok (.istore 8, 2) := by decide +kernel
theorem dX8_gainOf_11 : decode cX8_gainOf 11 = .ok (.iload 8, 2) := by decide +kernel
theorem dX8_gainOf_13 : decode cX8_gainOf 13 = .ok (.iconst 4, 1) := by decide +kernel
theorem dX8_gainOf_14 : decode cX8_gainOf 14 = .ok (.if_icmp .ge 100, 3) := by decide +kernel
theorem dX8_gainOf_17 : decode cX8_gainOf 17 = .ok (.aload_n 0, 1) := by decide +kernel
theorem dX8_gainOf_18 : decode cX8_gainOf 18 = .ok (.iload 8, 2) := by decide +kernel
theorem dX8_gainOf_20 : decode cX8_gainOf 20 = .ok (.invokevirtual 210, 3) := by decide +kernel
theorem dX8_gainOf_23 : decode cX8_gainOf 23 = .ok (.lstore 9, 2) := by decide +kernel
theorem dX8_gainOf_25 : decode cX8_gainOf 25 = .ok (.aload_n 0, 1) := by decide +kernel
theorem dX8_gainOf_26 : decode cX8_gainOf 26 = .ok (.getfield 65, 3) := by decide +kernel
theorem dX8_gainOf_29 : decode cX8_gainOf 29 = .ok (.iconst 4, 1) := by decide +kernel
theorem dX8_gainOf_30 : decode cX8_gainOf 30 = .ok (.iload_n 1, 1) := by decide +kernel
theorem dX8_gainOf_31 : decode cX8_gainOf 31 = .ok (.imul, 1) := by decide +kernel
theorem dX8_gainOf_32 : decode cX8_gainOf 32 = .ok (.iload 8, 2) := by decide +kernel
theorem dX8_gainOf_34 : decode cX8_gainOf 34 = .ok (.iadd, 1) := by decide +kernel
theorem dX8_gainOf_35 : decode cX8_gainOf 35 = .ok (.iaload, 1) := by decide +kernel
theorem dX8_gainOf_36 : decode cX8_gainOf 36 = .ok (.istore 11, 2) := by decide +kernel
theorem dX8_gainOf_38 : decode cX8_gainOf 38 = .ok (.lload 9, 2) := by decide +kernel
theorem dX8_gainOf_40 : decode cX8_gainOf 40 = .ok (.iload 11, 2) := by decide +kernel
theorem dX8_gainOf_42 : decode cX8_gainOf 42 = .ok (.i2l, 1) := by decide +kernel
theorem dX8_gainOf_43 : decode cX8_gainOf 43 = .ok (.lmul, 1) := by decide +kernel
theorem dX8_gainOf_44 : decode cX8_gainOf 44 = .ok (.lload_n 2, 1) := by decide +kernel
theorem dX8_gainOf_45 : decode cX8_gainOf 45 = .ok (.lcmp, 1) := by decide +kernel
theorem dX8_gainOf_46 : decode cX8_gainOf 46 = .ok (.ifCond .le 12, 3) := by decide +kernel
theorem dX8_gainOf_49 : decode cX8_gainOf 49 = .ok (.lload 9, 2) := by decide +kernel
theorem dX8_gainOf_51 : decode cX8_gainOf 51 = .ok (.iload 11, 2) := by decide +kernel
theorem dX8_gainOf_53 : decode cX8_gainOf 53 = .ok (.i2l, 1) := by decide +kernel
theorem dX8_gainOf_54 : decode cX8_gainOf 54 = .ok (.lmul, 1) := by decide +kernel
theorem dX8_gainOf_55 : decode cX8_gainOf 55 = .ok (.goto 4, 3) := by decide +kernel
theorem dX8_gainOf_58 : decode cX8_gainOf 58 = .ok (.lload_n 2, 1) := by decide +kernel
theorem dX8_gainOf_59 : decode cX8_gainOf 59 = .ok (.lstore_n 2, 1) := by decide +kernel
theorem dX8_gainOf_60 : decode cX8_gainOf 60 = .ok (.lload 9, 2) := by decide +kernel
theorem dX8_gainOf_62 : decode cX8_gainOf 62 = .ok (.bipush 16, 2) := by decide +kernel
theorem dX8_gainOf_64 : decode cX8_gainOf 64 = .ok (.iload 11, 2) := by decide +kernel
theorem dX8_gainOf_66 : decode cX8_gainOf 66 = .ok (.isub, 1) := by decide +kernel
theorem dX8_gainOf_67 : decode cX8_gainOf 67 = .ok (.i2l, 1) := by decide +kernel
theorem dX8_gainOf_68 : decode cX8_gainOf 68 = .ok (.lmul, 1) := by decide +kernel
theorem dX8_gainOf_69 : decode cX8_gainOf 69 = .ok (.lload 4, 2) := by decide +kernel
theorem dX8_gainOf_71 : decode cX8_gainOf 71 = .ok (.lcmp, 1) := by decide +kernel
theorem dX8_gainOf_72 : decode cX8_gainOf 72 = .ok (.ifCond .le 15, 3) := by decide +kernel
theorem dX8_gainOf_75 : decode cX8_gainOf 75 = .ok (.lload 9, 2) := by decide +kernel
theorem dX8_gainOf_77 : decode cX8_gainOf 77 = .ok (.bipush 16, 2) := by decide +kernel
theorem dX8_gainOf_79 : decode cX8_gainOf 79 = .ok (.iload 11, 2) := by decide +kernel
theorem dX8_gainOf_81 : decode cX8_gainOf 81 = .ok (.isub, 1) := by decide +kernel
theorem dX8_gainOf_82 : decode cX8_gainOf 82 = .ok (.i2l, 1) := by decide +kernel
theorem dX8_gainOf_83 : decode cX8_gainOf 83 = .ok (.lmul, 1) := by decide +kernel
theorem dX8_gainOf_84 : decode cX8_gainOf 84 = .ok (.goto 5, 3) := by decide +kernel
theorem dX8_gainOf_87 : decode cX8_gainOf 87 = .ok (.lload 4, 2) := by decide +kernel
theorem dX8_gainOf_89 : decode cX8_gainOf 89 = .ok (.lstore 4, 2) := by decide +kernel
theorem dX8_gainOf_91 : decode cX8_gainOf 91 = .ok (.lload 9, 2) := by decide +kernel
theorem dX8_gainOf_93 : decode cX8_gainOf 93 = .ok (.lload 6, 2) := by decide +kernel
theorem dX8_gainOf_95 : decode cX8_gainOf 95 = .ok (.lcmp, 1) := by decide +kernel
theorem dX8_gainOf_96 : decode cX8_gainOf 96 = .ok (.ifCond .le 8, 3) := by decide +kernel
theorem dX8_gainOf_99 : decode cX8_gainOf 99 = .ok (.lload 9, 2) := by decide +kernel
theorem dX8_gainOf_101 : decode cX8_gainOf 101 = .ok (.goto 5, 3) := by decide +kernel
theorem dX8_gainOf_104 : decode cX8_gainOf 104 = .ok (.lload 6, 2) := by decide +kernel
theorem dX8_gainOf_106 : decode cX8_gainOf 106 = .ok (.lstore 6, 2) := by decide +kernel
theorem dX8_gainOf_108 : decode cX8_gainOf 108 = .ok (.iinc 8 1, 3) := by decide +kernel
theorem dX8_gainOf_111 : decode cX8_gainOf 111 = .ok (.goto (-100), 3) := by decide +kernel
theorem dX8_gainOf_114 : decode cX8_gainOf 114 = .ok (.lload_n 2, 1) := by decide +kernel
theorem dX8_gainOf_115 : decode cX8_gainOf 115 = .ok (.lload 4, 2) := by decide +kernel
theorem dX8_gainOf_117 : decode cX8_gainOf 117 = .ok (.ladd, 1) := by decide +kernel
theorem dX8_gainOf_118 : decode cX8_gainOf 118 = .ok (.ldc2_w 222, 3) := by decide +kernel
theorem dX8_gainOf_121 : decode cX8_gainOf 121 = .ok (.lload 6, 2) := by decide +kernel
theorem dX8_gainOf_123 : decode cX8_gainOf 123 = .ok (.lmul, 1) := by decide +kernel
theorem dX8_gainOf_124 : decode cX8_gainOf 124 = .ok (.lsub, 1) := by decide +kernel
theorem dX8_gainOf_125 : decode cX8_gainOf 125 = .ok (.lreturn, 1) := by decide +kernel
set_option maxRecDepth 20000 in
theorem ggX8_isOpen_X8_isGroupDone : GoodIn wsX8_isOpen wsX8_isGroupDone := goodIn_r _ [6, 7, 8, 1, 9, 10, 11, 12, 13, 14, 15, 16, 17, 18, 19, 20, 21, 22, 23, 24, 25, 26, 27, 28, 29, 30, 31, 32, 33, 34, 35, 36, 37, 38, 39, 40, 41, 42, 43, 44, 45, 46, 47, 48, 49, 50, 51, 52, 53, 54, 55] (by decide +kernel) (by decide +kernel)
set_option maxRecDepth 20000 in
theorem gX8_isOpen_X8_isGroupDone : GoodIn wsX8_isOpen (wsV RX8 207 RX8 yX8_isGroupDone wsX8_isGroupDone) := goodIn_app (goodIn_of _ (by decide +kernel)) ggX8_isOpen_X8_isGroupDone
theorem dX8_isOpen_0 : decode cX8_isOpen 0 = .ok (.aload_n 0, 1) := by decide +kernel
theorem dX8_isOpen_1 : decode cX8_isOpen 1 = .ok (.getfield 68, 3) := by decide +kernel
theorem dX8_isOpen_4 : decode cX8_isOpen 4 = .ok (.iload_n 1, 1) := by decide +kernel
theorem dX8_isOpen_5 : decode cX8_isOpen 5 = .ok (.iaload, 1) := by decide +kernel
theorem dX8_isOpen_6 : decode cX8_isOpen 6 = .ok (.bipush (-9), 2) := by decide +kernel
theorem dX8_isOpen_8 : decode cX8_isOpen 8 = .ok (.if_icmp .ne 15, 3) := by decide +kernel
theorem dX8_isOpen_11 : decode cX8_isOpen 11 = .ok (.aload_n 0, 1) := by decide +kernel
theorem dX8_isOpen_12 : decode cX8_isOpen 12 = .ok (.iload_n 1, 1) := by decide +kernel
theorem dX8_isOpen_13 : decode cX8_isOpen 13 = .ok (.invokevirtual 207, 3) := by decide +kernel
theorem dX8_isOpen_16 : decode cX8_isOpen 16 = .ok (.ifCond .ne 7, 3) := by decide +kernel
theorem dX8_isOpen_19 : decode cX8_isOpen 19 = .ok (.iconst 1, 1) := by decide +kernel
theorem dX8_isOpen_20 : decode cX8_isOpen 20 = .ok (.goto 4, 3) := by decide +kernel
theorem dX8_isOpen_23 : decode cX8_isOpen 23 = .ok (.iconst 0, 1) := by decide +kernel
theorem dX8_isOpen_24 : decode cX8_isOpen 24 = .ok (.ireturn, 1) := by decide +kernel
set_option maxRecDepth 20000 in
theorem ggX8_gain_X8_isTest : GoodIn wsX8_gain wsX8_isTest := goodIn_r _ [6, 7, 8, 9, 5, 10, 48, 49, 50, 51, 52, 53, 54, 55, 56, 57, 58, 59, 60, 61, 62, 63, 64, 65, 66, 67, 68, 69, 70, 71, 72, 73, 74, 75, 76, 77, 78, 79, 80, 81, 82, 83, 84, 85, 86, 87, 88, 89, 90, 91, 92, 93, 94] (by decide +kernel) (by decide +kernel)
set_option maxRecDepth 20000 in
theorem gX8_gain_X8_isTest : GoodIn wsX8_gain (wsV RX8 204 RX8 yX8_isTest wsX8_isTest) := goodIn_app (goodIn_of _ (by decide +kernel)) ggX8_gain_X8_isTest
set_option maxRecDepth 20000 in
theorem ggX8_gain_X8_isOpen : GoodIn wsX8_gain wsX8_isOpen := goodIn_r _ [14, 15, 16, 17, 18, 5, 19, 7, 20, 48, 49, 50, 51, 52, 53, 54, 55, 56, 57, 58, 59, 60, 61, 62, 63, 64, 65, 66, 67, 68, 69, 70, 71, 72, 73, 74, 75, 76, 77, 78, 79, 80, 81, 82, 83, 84, 85, 86, 87, 88, 89, 90, 91, 92, 93, 94] (by decide +kernel) (by decide +kernel)
set_option maxRecDepth 20000 in
theorem gX8_gain_X8_isOpen : GoodIn wsX8_gain (wsV RX8 224 RX8 yX8_isOpen wsX8_isOpen) := goodIn_app (goodIn_of _ (by decide +kernel)) ggX8_gain_X8_isOpen
set_option maxRecDepth 20000 in
theorem ggX8_gain_X8_allScores : GoodIn wsX8_gain wsX8_allScores := goodIn_r _ [24, 25, 26, 27, 5, 28, 29, 7, 30, 31, 15, 48, 49, 50, 51, 52, 53, 54, 55, 56, 57, 58, 59, 60, 61, 62, 63, 64, 65, 66, 67, 68, 69, 70, 71, 72, 73, 74, 75, 76, 77, 78, 79, 80, 81, 82, 83, 84, 85, 86, 87, 88, 89, 90, 91, 92, 93, 94] (by decide +kernel) (by decide +kernel)
set_option maxRecDepth 20000 in
theorem gX8_gain_X8_allScores : GoodIn wsX8_gain (wsV RX8 214 RX8 yX8_allScores wsX8_allScores) := goodIn_app (goodIn_of _ (by decide +kernel)) ggX8_gain_X8_allScores
set_option maxRecDepth 20000 in
theorem ggX8_gain_X8_meets : GoodIn wsX8_gain wsX8_meets := goodIn_r _ [35, 36, 37, 48, 49, 50, 51, 52, 53, 54, 55, 56, 57, 58, 59, 60, 61, 62, 63, 64, 65, 66, 67, 68, 69, 70, 71, 72, 73, 74, 75, 76, 77, 78, 79, 80, 81, 82, 83, 84, 85, 86, 87, 88, 89, 90, 91, 92, 93, 94] (by decide +kernel) (by decide +kernel)
set_option maxRecDepth 20000 in
theorem gX8_gain_X8_meets : GoodIn wsX8_gain (wsV RX8 142 RX8 yX8_meets wsX8_meets) := goodIn_app (goodIn_of _ (by decide +kernel)) ggX8_gain_X8_meets
set_option maxRecDepth 20000 in
theorem ggX8_gain_X8_gainOf : GoodIn wsX8_gain wsX8_gainOf := goodIn_r _ [41, 30, 1, 25, 26, 27, 5, 28, 29, 7, 31, 15, 48, 49, 50, 51, 52, 53, 54, 55, 56, 57, 58, 59, 60, 61, 62, 63, 64, 65, 66, 67, 68, 69, 70, 71, 72, 73, 74, 75, 76, 77, 78, 79, 80, 81, 82, 83, 84, 85, 86, 87, 88, 89, 90, 91, 92, 93, 94] (by decide +kernel) (by decide +kernel)
set_option maxRecDepth 20000 in
theorem gX8_gain_X8_gainOf : GoodIn wsX8_gain (wsV RX8 227 RX8 yX8_gainOf wsX8_gainOf) := goodIn_app (goodIn_of _ (by decide +kernel)) ggX8_gain_X8_gainOf
set_option maxRecDepth 20000 in
theorem ggX8_gain_X8_fraction : GoodIn wsX8_gain wsX8_fraction := goodIn_r _ [45, 46, 47, 48, 49, 50, 51, 52, 53, 54, 55, 56, 57, 58, 59, 60, 61, 62, 63, 64, 65, 66, 67, 68, 69, 70, 71, 72, 73, 74, 75, 76, 77, 78, 79, 80, 81, 82, 83, 84, 85, 86, 87, 88, 89, 90, 91, 92, 93, 94] (by decide +kernel) (by decide +kernel)
set_option maxRecDepth 20000 in
theorem gX8_gain_X8_fraction : GoodIn wsX8_gain (wsV RX8 218 RX8 yX8_fraction wsX8_fraction) := goodIn_app (goodIn_of _ (by decide +kernel)) ggX8_gain_X8_fraction
theorem dX8_gain_0 : decode cX8_gain 0 = .ok (.aload_n 0, 1) := by decide +kernel
theorem dX8_gain_1 : decode cX8_gain 1 = .ok (.iload_n 1, 1) := by decide +kernel
theorem dX8_gain_2 : decode cX8_gain 2 = .ok (.invokevirtual 204, 3) := by decide +kernel
theorem dX8_gain_5 : decode cX8_gain 5 = .ok (.ifCond .ne 5, 3) := by decide +kernel
theorem dX8_gain_8 : decode cX8_gain 8 = .ok (.iconst (-1), 1) := by decide +kernel
theorem dX8_gain_9 : decode cX8_gain 9 = .ok (.ireturn, 1) := by decide +kernel
theorem dX8_gain_10 : decode cX8_gain 10 = .ok (.aload_n 0, 1) := by decide +kernel
theorem dX8_gain_11 : decode cX8_gain 11 = .ok (.iload_n 1, 1) := by decide +kernel
theorem dX8_gain_12 : decode cX8_gain 12 = .ok (.invokevirtual 224, 3) := by decide +kernel
theorem dX8_gain_15 : decode cX8_gain 15 = .ok (.ifCond .ne 6, 3) := by decide +kernel
theorem dX8_gain_18 : decode cX8_gain 18 = .ok (.bipush (-4), 2) := by decide +kernel
theorem dX8_gain_20 : decode cX8_gain 20 = .ok (.ireturn, 1) := by decide +kernel
theorem dX8_gain_21 : decode cX8_gain 21 = .ok (.aload_n 0, 1) := by decide +kernel
theorem dX8_gain_22 : decode cX8_gain 22 = .ok (.invokevirtual 214, 3) := by decide +kernel
theorem dX8_gain_25 : decode cX8_gain 25 = .ok (.lconst 0, 1) := by decide +kernel
theorem dX8_gain_26 : decode cX8_gain 26 = .ok (.lcmp, 1) := by decide +kernel
theorem dX8_gain_27 : decode cX8_gain 27 = .ok (.ifCond .ne 11, 3) := by decide +kernel
theorem dX8_gain_30 : decode cX8_gain 30 = .ok (.aload_n 0, 1) := by decide +kernel
theorem dX8_gain_31 : decode cX8_gain 31 = .ok (.iconst 4, 1) := by decide +kernel
theorem dX8_gain_32 : decode cX8_gain 32 = .ok (.invokevirtual 142, 3) := by decide +kernel
theorem dX8_gain_35 : decode cX8_gain 35 = .ok (.goto 21, 3) := by decide +kernel
theorem dX8_gain_38 : decode cX8_gain 38 = .ok (.aload_n 0, 1) := by decide +kernel
theorem dX8_gain_39 : decode cX8_gain 39 = .ok (.aload_n 0, 1) := by decide +kernel
theorem dX8_gain_40 : decode cX8_gain 40 = .ok (.iload_n 1, 1) := by decide +kernel
theorem dX8_gain_41 : decode cX8_gain 41 = .ok (.invokevirtual 227, 3) := by decide +kernel
theorem dX8_gain_44 : decode cX8_gain 44 = .ok (.ldc2_w 222, 3) := by decide +kernel
theorem dX8_gain_47 : decode cX8_gain 47 = .ok (.aload_n 0, 1) := by decide +kernel
theorem dX8_gain_48 : decode cX8_gain 48 = .ok (.invokevirtual 214, 3) := by decide +kernel
theorem dX8_gain_51 : decode cX8_gain 51 = .ok (.lmul, 1) := by decide +kernel
theorem dX8_gain_52 : decode cX8_gain 52 = .ok (.iconst 1, 1) := by decide +kernel
theorem dX8_gain_53 : decode cX8_gain 53 = .ok (.invokevirtual 218, 3) := by decide +kernel
theorem dX8_gain_56 : decode cX8_gain 56 = .ok (.ireturn, 1) := by decide +kernel
set_option maxRecDepth 20000 in
theorem ggX8_next_X8_allScores : GoodIn wsX8_next wsX8_allScores := goodIn_r _ [8, 9, 10, 11, 7, 12, 13, 1, 14, 15, 16, 37, 38, 39, 40, 41, 42, 43, 44, 45, 46, 47, 48, 49, 50, 51, 52, 53, 54, 55, 56, 57, 58, 59, 60, 61, 62, 63, 64, 65, 66, 67, 68, 69, 70, 71, 72, 73, 74, 75, 76, 77, 78, 79, 80, 81, 82, 83] (by decide +kernel) (by decide +kernel)
set_option maxRecDepth 20000 in
theorem gX8_next_X8_allScores : GoodIn wsX8_next (wsV RX8 214 RX8 yX8_allScores wsX8_allScores) := goodIn_app (goodIn_of _ (by decide +kernel)) ggX8_next_X8_allScores
set_option maxRecDepth 20000 in
theorem ggX8_next_X8_meets : GoodIn wsX8_next wsX8_meets := goodIn_r _ [20, 21, 22, 37, 38, 39, 40, 41, 42, 43, 44, 45, 46, 47, 48, 49, 50, 51, 52, 53, 54, 55, 56, 57, 58, 59, 60, 61, 62, 63, 64, 65, 66, 67, 68, 69, 70, 71, 72, 73, 74, 75, 76, 77, 78, 79, 80, 81, 82, 83] (by decide +kernel) (by decide +kernel)
set_option maxRecDepth 20000 in
theorem gX8_next_X8_meets : GoodIn wsX8_next (wsV RX8 142 RX8 yX8_meets wsX8_meets) := goodIn_app (goodIn_of _ (by decide +kernel)) ggX8_next_X8_meets
set_option maxRecDepth 20000 in
theorem ggX8_next_X8_isOpen : GoodIn wsX8_next wsX8_isOpen := goodIn_r _ [26, 16, 27, 28, 29, 7, 30, 1, 31, 37, 38, 39, 40, 41, 42, 43, 44, 45, 46, 47, 48, 49, 50, 51, 52, 53, 54, 55, 56, 57, 58, 59, 60, 61, 62, 63, 64, 65, 66, 67, 68, 69, 70, 71, 72, 73, 74, 75, 76, 77, 78, 79, 80, 81, 82, 83] (by decide +kernel) (by decide +kernel)
set_option maxRecDepth 20000 in
theorem gX8_next_X8_isOpen : GoodIn wsX8_next (wsV RX8 224 RX8 yX8_isOpen wsX8_isOpen) := goodIn_app (goodIn_of _ (by decide +kernel)) ggX8_next_X8_isOpen
set_option maxRecDepth 20000 in
theorem ggX8_next_X8_gainOf : GoodIn wsX8_next wsX8_gainOf := goodIn_r _ [35, 14, 36, 9, 10, 11, 7, 12, 13, 1, 15, 16, 37, 38, 39, 40, 41, 42, 43, 44, 45, 46, 47, 48, 49, 50, 51, 52, 53, 54, 55, 56, 57, 58, 59, 60, 61, 62, 63, 64, 65, 66, 67, 68, 69, 70, 71, 72, 73, 74, 75, 76, 77, 78, 79, 80, 81, 82, 83] (by decide +kernel) (by decide +kernel)
set_option maxRecDepth 20000 in
theorem gX8_next_X8_gainOf : GoodIn wsX8_next (wsV RX8 227 RX8 yX8_gainOf wsX8_gainOf) := goodIn_app (goodIn_of _ (by decide +kernel)) ggX8_next_X8_gainOf
theorem dX8_next_0 : decode cX8_next 0 = .ok (.iload_n 1, 1) := by decide +kernel
theorem dX8_next_1 : decode cX8_next 1 = .ok (.ifCond .lt 7, 3) := by decide +kernel
theorem dX8_next_4 : decode cX8_next 4 = .ok (.iload_n 2, 1) := by decide +kernel
theorem dX8_next_5 : decode cX8_next 5 = .ok (.ifCond .ge 5, 3) := by decide +kernel
theorem dX8_next_8 : decode cX8_next 8 = .ok (.iconst (-1), 1) := by decide +kernel
theorem dX8_next_9 : decode cX8_next 9 = .ok (.ireturn, 1) := by decide +kernel
theorem dX8_next_10 : decode cX8_next 10 = .ok (.aload_n 0, 1) := by decide +kernel
theorem dX8_next_11 : decode cX8_next 11 = .ok (.invokevirtual 214, 3) := by decide +kernel
theorem dX8_next_14 : decode cX8_next 14 = .ok (.lconst 0, 1) := by decide +kernel
theorem dX8_next_15 : decode cX8_next 15 = .ok (.lcmp, 1) := by decide +kernel
theorem dX8_next_16 : decode cX8_next 16 = .ok (.ifCond .ne 9, 3) := by decide +kernel
theorem dX8_next_19 : decode cX8_next 19 = .ok (.aload_n 0, 1) := by decide +kernel
theorem dX8_next_20 : decode cX8_next 20 = .ok (.iconst 4, 1) := by decide +kernel
theorem dX8_next_21 : decode cX8_next 21 = .ok (.invokevirtual 142, 3) := by decide +kernel
theorem dX8_next_24 : decode cX8_next 24 = .ok (.ireturn, 1) := by decide +kernel
theorem dX8_next_25 : decode cX8_next 25 = .ok (.bipush (-9), 2) := by decide +kernel
theorem dX8_next_27 : decode cX8_next 27 = .ok (.istore_n 3, 1) := by decide +kernel
theorem dX8_next_28 : decode cX8_next 28 = .ok (.iconst 0, 1) := by decide +kernel
theorem dX8_next_29 : decode cX8_next 29 = .ok (.istore 4, 2) := by decide +kernel
theorem dX8_next_31 : decode cX8_next 31 = .ok (.iload 4, 2) := by decide +kernel
theorem dX8_next_33 : decode cX8_next 33 = .ok (.aload_n 0, 1) := by decide +kernel
theorem dX8_next_34 : decode cX8_next 34 = .ok (.getfield 198, 3) := by decide +kernel
theorem dX8_next_37 : decode cX8_next 37 = .ok (.if_icmp .ge 111, 3) := by decide +kernel
theorem dX8_next_40 : decode cX8_next 40 = .ok (.aload_n 0, 1) := by decide +kernel
theorem dX8_next_41 : decode cX8_next 41 = .ok (.iload 4, 2) := by decide +kernel
theorem dX8_next_43 : decode cX8_next 43 = .ok (.invokevirtual 224, 3) := by decide +kernel
theorem dX8_next_46 : decode cX8_next 46 = .ok (.ifCond .eq 96, 3) := by decide +kernel
theorem dX8_next_49 : decode cX8_next 49 = .ok (.aload_n 0, 1) := by decide +kernel
theorem dX8_next_50 : decode cX8_next 50 = .ok (.getfield 56, 3) := by decide +kernel
theorem dX8_next_53 : decode cX8_next 53 = .ok (.iload 4, 2) := by decide +kernel
theorem dX8_next_55 : decode cX8_next 55 = .ok (.iaload, 1) := by decide +kernel
theorem dX8_next_56 : decode cX8_next 56 = .ok (.iload_n 1, 1) := by decide +kernel
theorem dX8_next_57 : decode cX8_next 57 = .ok (.if_icmp .gt 85, 3) := by decide +kernel
theorem dX8_next_60 : decode cX8_next 60 = .ok (.aload_n 0, 1) := by decide +kernel
theorem dX8_next_61 : decode cX8_next 61 = .ok (.getfield 59, 3) := by decide +kernel
theorem dX8_next_64 : decode cX8_next 64 = .ok (.iload 4, 2) := by decide +kernel
theorem dX8_next_66 : decode cX8_next 66 = .ok (.iaload, 1) := by decide +kernel
theorem dX8_next_67 : decode cX8_next 67 = .ok (.iload_n 2, 1) := by decide +kernel
theorem dX8_next_68 : decode cX8_next 68 = .ok (.if_icmp .gt 74, 3) := by decide +kernel
theorem dX8_next_71 : decode cX8_next 71 = .ok (.iload_n 3, 1) := by decide +kernel
theorem dX8_next_72 : decode cX8_next 72 = .ok (.bipush (-9), 2) := by decide +kernel
theorem dX8_next_74 : decode cX8_next 74 = .ok (.if_icmp .eq 49, 3) := by decide +kernel
theorem dX8_next_77 : decode cX8_next 77 = .ok (.aload_n 0, 1) := by decide +kernel
theorem dX8_next_78 : decode cX8_next 78 = .ok (.iload 4, 2) := by decide +kernel
theorem dX8_next_80 : decode cX8_next 80 = .ok (.invokevirtual 227, 3) := by decide +kernel
theorem dX8_next_83 : decode cX8_next 83 = .ok (.aload_n 0, 1) := by decide +kernel
theorem dX8_next_84 : decode cX8_next 84 = .ok (.iload_n 3, 1) := by decide +kernel
theorem dX8_next_85 : decode cX8_next 85 = .ok (.invokevirtual 227, 3) := by decide +kernel
theorem dX8_next_88 : decode cX8_next 88 = .ok (.lcmp, 1) := by decide +kernel
theorem dX8_next_89 : decode cX8_next 89 = .ok (.ifCond .gt 34, 3) := by decide +kernel
theorem dX8_next_92 : decode cX8_next 92 = .ok (.aload_n 0, 1) := by decide +kernel
theorem dX8_next_93 : decode cX8_next 93 = .ok (.iload 4, 2) := by decide +kernel
theorem dX8_next_95 : decode cX8_next 95 = .ok (.invokevirtual 227, 3) := by decide +kernel
theorem dX8_next_98 : decode cX8_next 98 = .ok (.aload_n 0, 1) := by decide +kernel
theorem dX8_next_99 : decode cX8_next 99 = .ok (.iload_n 3, 1) := by decide +kernel
theorem dX8_next_100 : decode cX8_next 100 = .ok (.invokevirtual 227, 3) := by decide +kernel
theorem dX8_next_103 : decode cX8_next 103 = .ok (.lcmp, 1) := by decide +kernel
theorem dX8_next_104 : decode cX8_next 104 = .ok (.ifCond .ne 23, 3) := by decide +kernel
theorem dX8_next_107 : decode cX8_next 107 = .ok (.aload_n 0, 1) := by decide +kernel
theorem dX8_next_108 : decode cX8_next 108 = .ok (.getfield 56, 3) := by decide +kernel
theorem dX8_next_111 : decode cX8_next 111 = .ok (.iload 4, 2) := by decide +kernel
theorem dX8_next_113 : decode cX8_next 113 = .ok (.iaload, 1) := by decide +kernel
theorem dX8_next_114 : decode cX8_next 114 = .ok (.aload_n 0, 1) := by decide +kernel
theorem dX8_next_115 : decode cX8_next 115 = .ok (.getfield 56, 3) := by decide +kernel
theorem dX8_next_118 : decode cX8_next 118 = .ok (.iload_n 3, 1) := by decide +kernel
theorem dX8_next_119 : decode cX8_next 119 = .ok (.iaload, 1) := by decide +kernel
theorem dX8_next_120 : decode cX8_next 120 = .ok (.if_icmp .ge 7, 3) := by decide +kernel
theorem dX8_next_123 : decode cX8_next 123 = .ok (.iconst 1, 1) := by decide +kernel
theorem dX8_next_124 : decode cX8_next 124 = .ok (.goto 4, 3) := by decide +kernel
theorem dX8_next_127 : decode cX8_next 127 = .ok (.iconst 0, 1) := by decide +kernel
theorem dX8_next_128 : decode cX8_next 128 = .ok (.istore 5, 2) := by decide +kernel
theorem dX8_next_130 : decode cX8_next 130 = .ok (.iload 5, 2) := by decide +kernel
theorem dX8_next_132 : decode cX8_next 132 = .ok (.ifCond .eq 8, 3) := by decide +kernel
theorem dX8_next_135 : decode cX8_next 135 = .ok (.iload 4, 2) := by decide +kernel
theorem dX8_next_137 : decode cX8_next 137 = .ok (.goto 4, 3) := by decide +kernel
theorem dX8_next_140 : decode cX8_next 140 = .ok (.iload_n 3, 1) := by decide +kernel
theorem dX8_next_141 : decode cX8_next 141 = .ok (.istore_n 3, 1) := by decide +kernel
theorem dX8_next_142 : decode cX8_next 142 = .ok (.iinc 4 1, 3) := by decide +kernel
theorem dX8_next_145 : decode cX8_next 145 = .ok (.goto (-114), 3) := by decide +kernel
theorem dX8_next_148 : decode cX8_next 148 = .ok (.iload_n 3, 1) := by decide +kernel
theorem dX8_next_149 : decode cX8_next 149 = .ok (.ireturn, 1) := by decide +kernel
set_option maxRecDepth 20000 in
theorem ggX8_owner_X8_isYear : GoodIn wsX8_owner wsX8_isYear := goodIn_r _ [7, 8, 9, 6, 10] (by decide +kernel) (by decide +kernel)
set_option maxRecDepth 20000 in
theorem gX8_owner_X8_isYear : GoodIn wsX8_owner (va_wsS RX8 164 yX8_isYear wsX8_isYear) := goodIn_app (goodIn_of _ (by decide +kernel)) ggX8_owner_X8_isYear
set_option maxRecDepth 20000 in
theorem ggX8_owner_X8_in : GoodIn wsX8_owner wsX8_in := goodIn_r _ [10] (by decide +kernel) (by decide +kernel)
set_option maxRecDepth 20000 in
theorem gX8_owner_X8_in : GoodIn wsX8_owner (va_wsS RX8 125 yX8_in wsX8_in) := goodIn_app (goodIn_of _ (by decide +kernel)) ggX8_owner_X8_in
theorem dX8_owner_0 : decode cX8_owner 0 = .ok (.iload_n 1, 1) := by decide +kernel
theorem dX8_owner_1 : decode cX8_owner 1 = .ok (.invokestatic 164, 3) := by decide +kernel
theorem dX8_owner_4 : decode cX8_owner 4 = .ok (.ifCond .eq 14, 3) := by decide +kernel
theorem dX8_owner_7 : decode cX8_owner 7 = .ok (.iload_n 2, 1) := by decide +kernel
theorem dX8_owner_8 : decode cX8_owner 8 = .ok (.iload_n 1, 1) := by decide +kernel
theorem dX8_owner_9 : decode cX8_owner 9 = .ok (.sipush 2100, 3) := by decide +kernel
theorem dX8_owner_12 : decode cX8_owner 12 = .ok (.invokestatic 125, 3) := by decide +kernel
theorem dX8_owner_15 : decode cX8_owner 15 = .ok (.ifCond .ne 5, 3) := by decide +kernel
theorem dX8_owner_18 : decode cX8_owner 18 = .ok (.iconst (-1), 1) := by decide +kernel
theorem dX8_owner_19 : decode cX8_owner 19 = .ok (.ireturn, 1) := by decide +kernel
theorem dX8_owner_20 : decode cX8_owner 20 = .ok (.aload_n 0, 1) := by decide +kernel
theorem dX8_owner_21 : decode cX8_owner 21 = .ok (.getfield 230, 3) := by decide +kernel
theorem dX8_owner_24 : decode cX8_owner 24 = .ok (.bipush 20, 2) := by decide +kernel
theorem dX8_owner_26 : decode cX8_owner 26 = .ok (.if_icmp .ne 6, 3) := by decide +kernel
theorem dX8_owner_29 : decode cX8_owner 29 = .ok (.bipush (-2), 2) := by decide +kernel
theorem dX8_owner_31 : decode cX8_owner 31 = .ok (.ireturn, 1) := by decide +kernel
theorem dX8_owner_32 : decode cX8_owner 32 = .ok (.aload_n 0, 1) := by decide +kernel
theorem dX8_owner_33 : decode cX8_owner 33 = .ok (.getfield 75, 3) := by decide +kernel
theorem dX8_owner_36 : decode cX8_owner 36 = .ok (.aload_n 0, 1) := by decide +kernel
theorem dX8_owner_37 : decode cX8_owner 37 = .ok (.getfield 230, 3) := by decide +kernel
theorem dX8_owner_40 : decode cX8_owner 40 = .ok (.iload_n 1, 1) := by decide +kernel
theorem dX8_owner_41 : decode cX8_owner 41 = .ok (.iastore, 1) := by decide +kernel
theorem dX8_owner_42 : decode cX8_owner 42 = .ok (.aload_n 0, 1) := by decide +kernel
theorem dX8_owner_43 : decode cX8_owner 43 = .ok (.getfield 78, 3) := by decide +kernel
theorem dX8_owner_46 : decode cX8_owner 46 = .ok (.aload_n 0, 1) := by decide +kernel
theorem dX8_owner_47 : decode cX8_owner 47 = .ok (.getfield 230, 3) := by decide +kernel
theorem dX8_owner_50 : decode cX8_owner 50 = .ok (.iload_n 2, 1) := by decide +kernel
theorem dX8_owner_51 : decode cX8_owner 51 = .ok (.iastore, 1) := by decide +kernel
theorem dX8_owner_52 : decode cX8_owner 52 = .ok (.aload_n 0, 1) := by decide +kernel
theorem dX8_owner_53 : decode cX8_owner 53 = .ok (.dup, 1) := by decide +kernel
theorem dX8_owner_54 : decode cX8_owner 54 = .ok (.getfield 230, 3) := by decide +kernel
theorem dX8_owner_57 : decode cX8_owner 57 = .ok (.iconst 1, 1) := by decide +kernel
theorem dX8_owner_58 : decode cX8_owner 58 = .ok (.iadd, 1) := by decide +kernel
theorem dX8_owner_59 : decode cX8_owner 59 = .ok (.putfield 230, 3) := by decide +kernel
theorem dX8_owner_62 : decode cX8_owner 62 = .ok (.aload_n 0, 1) := by decide +kernel
theorem dX8_owner_63 : decode cX8_owner 63 = .ok (.getfield 230, 3) := by decide +kernel
theorem dX8_owner_66 : decode cX8_owner 66 = .ok (.ireturn, 1) := by decide +kernel
set_option maxRecDepth 20000 in
theorem ggX8_gaps_X8_isYear : GoodIn wsX8_gaps wsX8_isYear := goodIn_r _ [7, 8, 9, 6, 10] (by decide +kernel) (by decide +kernel)
set_option maxRecDepth 20000 in
theorem gX8_gaps_X8_isYear : GoodIn wsX8_gaps (va_wsS RX8 164 yX8_isYear wsX8_isYear) := goodIn_app (goodIn_of _ (by decide +kernel)) ggX8_gaps_X8_isYear
set_option maxRecDepth 20000 in
theorem ggX8_gaps_X8_in : GoodIn wsX8_gaps wsX8_in := goodIn_r _ [10] (by decide +kernel) (by decide +kernel)
set_option maxRecDepth 20000 in
theorem gX8_gaps_X8_in : GoodIn wsX8_gaps (va_wsS RX8 125 yX8_in wsX8_in) := goodIn_app (goodIn_of _ (by decide +kernel)) ggX8_gaps_X8_in
set_option maxRecDepth 20000 in
theorem ggX8_gaps_X8_tells : GoodIn wsX8_gaps wsX8_tells := goodIn_r _ [14, 15, 16, 17, 18, 19, 20, 21, 22, 23, 24, 25, 26, 27, 28, 29, 30, 31, 32, 33, 34, 35, 36, 37, 38, 39, 40, 41, 42, 43, 44, 45, 46, 47, 48, 49, 50, 51, 52, 53, 54, 55, 56, 57, 58, 59, 60, 61, 62] (by decide +kernel) (by decide +kernel)
set_option maxRecDepth 20000 in
theorem gX8_gaps_X8_tells : GoodIn wsX8_gaps (wsV RX8 158 RX8 yX8_tells wsX8_tells) := goodIn_app (goodIn_of _ (by decide +kernel)) ggX8_gaps_X8_tells
theorem dX8_gaps_0 : decode cX8_gaps 0 = .ok (.iload_n 1, 1) := by decide +kernel
theorem dX8_gaps_1 : decode cX8_gaps 1 = .ok (.invokestatic 164, 3) := by decide +kernel
theorem dX8_gaps_4 : decode cX8_gaps 4 = .ok (.ifCond .eq 14, 3) := by decide +kernel
theorem dX8_gaps_7 : decode cX8_gaps 7 = .ok (.iload_n 2, 1) := by decide +kernel
theorem dX8_gaps_8 : decode cX8_gaps 8 = .ok (.iload_n 1, 1) := by decide +kernel
theorem dX8_gaps_9 : decode cX8_gaps 9 = .ok (.sipush 2100, 3) := by decide +kernel
theorem dX8_gaps_12 : decode cX8_gaps 12 = .ok (.invokestatic 125, 3) := by decide +kernel
theorem dX8_gaps_15 : decode cX8_gaps 15 = .ok (.ifCond .ne 5, 3) := by decide +kernel
theorem dX8_gaps_18 : decode cX8_gaps 18 = .ok (.iconst (-1), 1) := by decide +kernel
theorem dX8_gaps_19 : decode cX8_gaps 19 = .ok (.ireturn, 1) := by decide +kernel
theorem dX8_gaps_20 : decode cX8_gaps 20 = .ok (.iconst 0, 1) := by decide +kernel
theorem dX8_gaps_21 : decode cX8_gaps 21 = .ok (.istore_n 3, 1) := by decide +kernel
theorem dX8_gaps_22 : decode cX8_gaps 22 = .ok (.iconst 0, 1) := by decide +kernel
theorem dX8_gaps_23 : decode cX8_gaps 23 = .ok (.istore 4, 2) := by decide +kernel
theorem dX8_gaps_25 : decode cX8_gaps 25 = .ok (.iconst 0, 1) := by decide +kernel
theorem dX8_gaps_26 : decode cX8_gaps 26 = .ok (.istore 5, 2) := by decide +kernel
theorem dX8_gaps_28 : decode cX8_gaps 28 = .ok (.iload_n 1, 1) := by decide +kernel
theorem dX8_gaps_29 : decode cX8_gaps 29 = .ok (.istore 6, 2) := by decide +kernel
theorem dX8_gaps_31 : decode cX8_gaps 31 = .ok (.iload 6, 2) := by decide +kernel
theorem dX8_gaps_33 : decode cX8_gaps 33 = .ok (.iload_n 2, 1) := by decide +kernel
theorem dX8_gaps_34 : decode cX8_gaps 34 = .ok (.if_icmp .gt 108, 3) := by decide +kernel
theorem dX8_gaps_37 : decode cX8_gaps 37 = .ok (.iconst 0, 1) := by decide +kernel
theorem dX8_gaps_38 : decode cX8_gaps 38 = .ok (.istore 7, 2) := by decide +kernel
theorem dX8_gaps_40 : decode cX8_gaps 40 = .ok (.iconst 0, 1) := by decide +kernel
theorem dX8_gaps_41 : decode cX8_gaps 41 = .ok (.istore 8, 2) := by decide +kernel
theorem dX8_gaps_43 : decode cX8_gaps 43 = .ok (.iload 8, 2) := by decide +kernel
theorem dX8_gaps_45 : decode cX8_gaps 45 = .ok (.aload_n 0, 1) := by decide +kernel
theorem dX8_gaps_46 : decode cX8_gaps 46 = .ok (.getfield 230, 3) := by decide +kernel
theorem dX8_gaps_49 : decode cX8_gaps 49 = .ok (.if_icmp .ge 43, 3) := by decide +kernel
theorem dX8_gaps_52 : decode cX8_gaps 52 = .ok (.iload 7, 2) := by decide +kernel
theorem dX8_gaps_54 : decode cX8_gaps 54 = .ok (.ifCond .ne 25, 3) := by decide +kernel
theorem dX8_gaps_57 : decode cX8_gaps 57 = .ok (.iload 6, 2) := by decide +kernel
theorem dX8_gaps_59 : decode cX8_gaps 59 = .ok (.aload_n 0, 1) := by decide +kernel
theorem dX8_gaps_60 : decode cX8_gaps 60 = .ok (.getfield 75, 3) := by decide +kernel
theorem dX8_gaps_63 : decode cX8_gaps 63 = .ok (.iload 8, 2) := by decide +kernel
theorem dX8_gaps_65 : decode cX8_gaps 65 = .ok (.iaload, 1) := by decide +kernel
theorem dX8_gaps_66 : decode cX8_gaps 66 = .ok (.aload_n 0, 1) := by decide +kernel
theorem dX8_gaps_67 : decode cX8_gaps 67 = .ok (.getfield 78, 3) := by decide +kernel
theorem dX8_gaps_70 : decode cX8_gaps 70 = .ok (.iload 8, 2) := by decide +kernel
theorem dX8_gaps_72 : decode cX8_gaps 72 = .ok (.iaload, 1) := by decide +kernel
theorem dX8_gaps_73 : decode cX8_gaps 73 = .ok (.invokestatic 125, 3) := by decide +kernel
theorem dX8_gaps_76 : decode cX8_gaps 76 = .ok (.ifCond .eq 7, 3) := by decide +kernel
theorem dX8_gaps_79 : decode cX8_gaps 79 = .ok (.iconst 1, 1) := by decide +kernel
theorem dX8_gaps_80 : decode cX8_gaps 80 = .ok (.goto 4, 3) := by decide +kernel
theorem dX8_gaps_83 : decode cX8_gaps 83 = .ok (.iconst 0, 1) := by decide +kernel
theorem dX8_gaps_84 : decode cX8_gaps 84 = .ok (.istore 7, 2) := by decide +kernel
theorem dX8_gaps_86 : decode cX8_gaps 86 = .ok (.iinc 8 1, 3) := by decide +kernel
theorem dX8_gaps_89 : decode cX8_gaps 89 = .ok (.goto (-46), 3) := by decide +kernel
theorem dX8_gaps_92 : decode cX8_gaps 92 = .ok (.iload 7, 2) := by decide +kernel
theorem dX8_gaps_94 : decode cX8_gaps 94 = .ok (.ifCond .eq 7, 3) := by decide +kernel
theorem dX8_gaps_97 : decode cX8_gaps 97 = .ok (.iconst 0, 1) := by decide +kernel
theorem dX8_gaps_98 : decode cX8_gaps 98 = .ok (.goto 7, 3) := by decide +kernel
theorem dX8_gaps_101 : decode cX8_gaps 101 = .ok (.iload 4, 2) := by decide +kernel
theorem dX8_gaps_103 : decode cX8_gaps 103 = .ok (.iconst 1, 1) := by decide +kernel
theorem dX8_gaps_104 : decode cX8_gaps 104 = .ok (.iadd, 1) := by decide +kernel
theorem dX8_gaps_105 : decode cX8_gaps 105 = .ok (.istore 4, 2) := by decide +kernel
theorem dX8_gaps_107 : decode cX8_gaps 107 = .ok (.iload_n 3, 1) := by decide +kernel
theorem dX8_gaps_108 : decode cX8_gaps 108 = .ok (.iload 7, 2) := by decide +kernel
theorem dX8_gaps_110 : decode cX8_gaps 110 = .ok (.ifCond .eq 7, 3) := by decide +kernel
theorem dX8_gaps_113 : decode cX8_gaps 113 = .ok (.iconst 0, 1) := by decide +kernel
theorem dX8_gaps_114 : decode cX8_gaps 114 = .ok (.goto 4, 3) := by decide +kernel
theorem dX8_gaps_117 : decode cX8_gaps 117 = .ok (.iconst 1, 1) := by decide +kernel
theorem dX8_gaps_118 : decode cX8_gaps 118 = .ok (.iadd, 1) := by decide +kernel
theorem dX8_gaps_119 : decode cX8_gaps 119 = .ok (.istore_n 3, 1) := by decide +kernel
theorem dX8_gaps_120 : decode cX8_gaps 120 = .ok (.iload 4, 2) := by decide +kernel
theorem dX8_gaps_122 : decode cX8_gaps 122 = .ok (.iload 5, 2) := by decide +kernel
theorem dX8_gaps_124 : decode cX8_gaps 124 = .ok (.if_icmp .le 8, 3) := by decide +kernel
theorem dX8_gaps_127 : decode cX8_gaps 127 = .ok (.iload 4, 2) := by decide +kernel
theorem dX8_gaps_129 : decode cX8_gaps 129 = .ok (.goto 5, 3) := by decide +kernel
theorem dX8_gaps_132 : decode cX8_gaps 132 = .ok (.iload 5, 2) := by decide +kernel
theorem dX8_gaps_134 : decode cX8_gaps 134 = .ok (.istore 5, 2) := by decide +kernel
theorem dX8_gaps_136 : decode cX8_gaps 136 = .ok (.iinc 6 1, 3) := by decide +kernel
theorem dX8_gaps_139 : decode cX8_gaps 139 = .ok (.goto (-108), 3) := by decide +kernel
theorem dX8_gaps_142 : decode cX8_gaps 142 = .ok (.aload_n 0, 1) := by decide +kernel
theorem dX8_gaps_143 : decode cX8_gaps 143 = .ok (.iload 5, 2) := by decide +kernel
theorem dX8_gaps_145 : decode cX8_gaps 145 = .ok (.iload_n 3, 1) := by decide +kernel
theorem dX8_gaps_146 : decode cX8_gaps 146 = .ok (.invokevirtual 158, 3) := by decide +kernel
theorem dX8_gaps_149 : decode cX8_gaps 149 = .ok (.ireturn, 1) := by decide +kernel
set_option maxRecDepth 20000 in
theorem ggX8_opinion_X8_in : GoodIn wsX8_opinion wsX8_in := goodIn_r _ [9] (by decide +kernel) (by decide +kernel)
set_option maxRecDepth 20000 in
theorem gX8_opinion_X8_in : GoodIn wsX8_opinion (va_wsS RX8 125 yX8_in wsX8_in) := goodIn_app (goodIn_of _ (by decide +kernel)) ggX8_opinion_X8_in
set_option maxRecDepth 20000 in
theorem ggX8_opinion_X8_isHand : GoodIn wsX8_opinion wsX8_isHand := goodIn_r _ [12, 6, 7, 8, 9] (by decide +kernel) (by decide +kernel)
set_option maxRecDepth 20000 in
theorem gX8_opinion_X8_isHand : GoodIn wsX8_opinion (va_wsS RX8 201 yX8_isHand wsX8_isHand) := goodIn_app (goodIn_of _ (by decide +kernel)) ggX8_opinion_X8_isHand
theorem dX8_opinion_0 : decode cX8_opinion 0 = .ok (.iload_n 1, 1) := by decide +kernel
theorem dX8_opinion_1 : decode cX8_opinion 1 = .ok (.iconst 0, 1) := by decide +kernel
theorem dX8_opinion_2 : decode cX8_opinion 2 = .ok (.bipush 9, 2) := by decide +kernel
theorem dX8_opinion_4 : decode cX8_opinion 4 = .ok (.invokestatic 125, 3) := by decide +kernel
theorem dX8_opinion_7 : decode cX8_opinion 7 = .ok (.ifCond .eq 20, 3) := by decide +kernel
theorem dX8_opinion_10 : decode cX8_opinion 10 = .ok (.iload_n 2, 1) := by decide +kernel
theorem dX8_opinion_11 : decode cX8_opinion 11 = .ok (.invokestatic 201, 3) := by decide +kernel
theorem dX8_opinion_14 : decode cX8_opinion 14 = .ok (.ifCond .eq 13, 3) := by decide +kernel
theorem dX8_opinion_17 : decode cX8_opinion 17 = .ok (.iload_n 3, 1) := by decide +kernel
theorem dX8_opinion_18 : decode cX8_opinion 18 = .ok (.iconst 0, 1) := by decide +kernel
theorem dX8_opinion_19 : decode cX8_opinion 19 = .ok (.bipush 100, 2) := by decide +kernel
theorem dX8_opinion_21 : decode cX8_opinion 21 = .ok (.invokestatic 125, 3) := by decide +kernel
theorem dX8_opinion_24 : decode cX8_opinion 24 = .ok (.ifCond .ne 5, 3) := by decide +kernel
theorem dX8_opinion_27 : decode cX8_opinion 27 = .ok (.iconst (-1), 1) := by decide +kernel
theorem dX8_opinion_28 : decode cX8_opinion 28 = .ok (.ireturn, 1) := by decide +kernel
theorem dX8_opinion_29 : decode cX8_opinion 29 = .ok (.aload_n 0, 1) := by decide +kernel
theorem dX8_opinion_30 : decode cX8_opinion 30 = .ok (.getfield 233, 3) := by decide +kernel
theorem dX8_opinion_33 : decode cX8_opinion 33 = .ok (.bipush 30, 2) := by decide +kernel
theorem dX8_opinion_35 : decode cX8_opinion 35 = .ok (.if_icmp .ne 6, 3) := by decide +kernel
theorem dX8_opinion_38 : decode cX8_opinion 38 = .ok (.bipush (-2), 2) := by decide +kernel
theorem dX8_opinion_40 : decode cX8_opinion 40 = .ok (.ireturn, 1) := by decide +kernel
theorem dX8_opinion_41 : decode cX8_opinion 41 = .ok (.aload_n 0, 1) := by decide +kernel
theorem dX8_opinion_42 : decode cX8_opinion 42 = .ok (.getfield 81, 3) := by decide +kernel
theorem dX8_opinion_45 : decode cX8_opinion 45 = .ok (.aload_n 0, 1) := by decide +kernel
theorem dX8_opinion_46 : decode cX8_opinion 46 = .ok (.getfield 233, 3) := by decide +kernel
theorem dX8_opinion_49 : decode cX8_opinion 49 = .ok (.iload_n 1, 1) := by decide +kernel
theorem dX8_opinion_50 : decode cX8_opinion 50 = .ok (.iastore, 1) := by decide +kernel
theorem dX8_opinion_51 : decode cX8_opinion 51 = .ok (.aload_n 0, 1) := by decide +kernel
theorem dX8_opinion_52 : decode cX8_opinion 52 = .ok (.getfield 84, 3) := by decide +kernel
theorem dX8_opinion_55 : decode cX8_opinion 55 = .ok (.aload_n 0, 1) := by decide +kernel
theorem dX8_opinion_56 : decode cX8_opinion 56 = .ok (.getfield 233, 3) := by decide +kernel
theorem dX8_opinion_59 : decode cX8_opinion 59 = .ok (.iload_n 2, 1) := by decide +kernel
theorem dX8_opinion_60 : decode cX8_opinion 60 = .ok (.iastore, 1) := by decide +kernel
theorem dX8_opinion_61 : decode cX8_opinion 61 = .ok (.aload_n 0, 1) := by decide +kernel
theorem dX8_opinion_62 : decode cX8_opinion 62 = .ok (.getfield 87, 3) := by decide +kernel
theorem dX8_opinion_65 : decode cX8_opinion 65 = .ok (.aload_n 0, 1) := by decide +kernel
theorem dX8_opinion_66 : decode cX8_opinion 66 = .ok (.getfield 233, 3) := by decide +kernel
theorem dX8_opinion_69 : decode cX8_opinion 69 = .ok (.iload_n 3, 1) := by decide +kernel
theorem dX8_opinion_70 : decode cX8_opinion 70 = .ok (.iastore, 1) := by decide +kernel
theorem dX8_opinion_71 : decode cX8_opinion 71 = .ok (.aload_n 0, 1) := by decide +kernel
theorem dX8_opinion_72 : decode cX8_opinion 72 = .ok (.getfield 90, 3) := by decide +kernel
theorem dX8_opinion_75 : decode cX8_opinion 75 = .ok (.aload_n 0, 1) := by decide +kernel
theorem dX8_opinion_76 : decode cX8_opinion 76 = .ok (.getfield 233, 3) := by decide +kernel
theorem dX8_opinion_79 : decode cX8_opinion 79 = .ok (.iload 4, 2) := by decide +kernel
theorem dX8_opinion_81 : decode cX8_opinion 81 = .ok (.bastore, 1) := by decide +kernel
theorem dX8_opinion_82 : decode cX8_opinion 82 = .ok (.aload_n 0, 1) := by decide +kernel
theorem dX8_opinion_83 : decode cX8_opinion 83 = .ok (.dup, 1) := by decide +kernel
theorem dX8_opinion_84 : decode cX8_opinion 84 = .ok (.getfield 233, 3) := by decide +kernel
theorem dX8_opinion_87 : decode cX8_opinion 87 = .ok (.iconst 1, 1) := by decide +kernel
theorem dX8_opinion_88 : decode cX8_opinion 88 = .ok (.iadd, 1) := by decide +kernel
theorem dX8_opinion_89 : decode cX8_opinion 89 = .ok (.putfield 233, 3) := by decide +kernel
theorem dX8_opinion_92 : decode cX8_opinion 92 = .ok (.aload_n 0, 1) := by decide +kernel
theorem dX8_opinion_93 : decode cX8_opinion 93 = .ok (.getfield 233, 3) := by decide +kernel
theorem dX8_opinion_96 : decode cX8_opinion 96 = .ok (.ireturn, 1) := by decide +kernel
set_option maxRecDepth 20000 in
theorem ggX8_mean_X8_isHand : GoodIn wsX8_mean wsX8_isHand := goodIn_r _ [8, 9, 10, 7, 11] (by decide +kernel) (by decide +kernel)
set_option maxRecDepth 20000 in
theorem gX8_mean_X8_isHand : GoodIn wsX8_mean (va_wsS RX8 201 yX8_isHand wsX8_isHand) := goodIn_app (goodIn_of _ (by decide +kernel)) ggX8_mean_X8_isHand
set_option maxRecDepth 20000 in
theorem ggX8_mean_X8_meets : GoodIn wsX8_mean wsX8_meets := goodIn_r _ [15, 16, 17, 18, 19, 20, 21, 22, 23, 24, 25, 26, 27, 28, 29, 30, 31, 32, 33, 34, 35, 36, 37, 38, 39, 40, 41, 42, 43, 44, 45, 46, 47, 48, 49, 50, 51, 52, 53, 54, 55, 56, 57, 58, 59, 60, 61, 62, 63, 64] (by decide +kernel) (by decide +kernel)
set_option maxRecDepth 20000 in
theorem gX8_mean_X8_meets : GoodIn wsX8_mean (wsV RX8 142 RX8 yX8_meets wsX8_meets) := goodIn_app (goodIn_of _ (by decide +kernel)) ggX8_mean_X8_meets
theorem dX8_mean_0 : decode cX8_mean 0 = .ok (.iload_n 1, 1) := by decide +kernel
theorem dX8_mean_1 : decode cX8_mean 1 = .ok (.invokestatic 201, 3) := by decide +kernel
theorem dX8_mean_4 : decode cX8_mean 4 = .ok (.ifCond .ne 5, 3) := by decide +kernel
theorem dX8_mean_7 : decode cX8_mean 7 = .ok (.iconst (-1), 1) := by decide +kernel
theorem dX8_mean_8 : decode cX8_mean 8 = .ok (.ireturn, 1) := by decide +kernel
theorem dX8_mean_9 : decode cX8_mean 9 = .ok (.iconst 0, 1) := by decide +kernel
theorem dX8_mean_10 : decode cX8_mean 10 = .ok (.istore_n 3, 1) := by decide +kernel
theorem dX8_mean_11 : decode cX8_mean 11 = .ok (.iconst 0, 1) := by decide +kernel
theorem dX8_mean_12 : decode cX8_mean 12 = .ok (.istore 4, 2) := by decide +kernel
theorem dX8_mean_14 : decode cX8_mean 14 = .ok (.iconst 0, 1) := by decide +kernel
theorem dX8_mean_15 : decode cX8_mean 15 = .ok (.istore 5, 2) := by decide +kernel
theorem dX8_mean_17 : decode cX8_mean 17 = .ok (.iload 5, 2) := by decide +kernel
theorem dX8_mean_19 : decode cX8_mean 19 = .ok (.aload_n 0, 1) := by decide +kernel
theorem dX8_mean_20 : decode cX8_mean 20 = .ok (.getfield 233, 3) := by decide +kernel
theorem dX8_mean_23 : decode cX8_mean 23 = .ok (.if_icmp .ge 72, 3) := by decide +kernel
theorem dX8_mean_26 : decode cX8_mean 26 = .ok (.aload_n 0, 1) := by decide +kernel
theorem dX8_mean_27 : decode cX8_mean 27 = .ok (.getfield 84, 3) := by decide +kernel
theorem dX8_mean_30 : decode cX8_mean 30 = .ok (.iload 5, 2) := by decide +kernel
theorem dX8_mean_32 : decode cX8_mean 32 = .ok (.iaload, 1) := by decide +kernel
theorem dX8_mean_33 : decode cX8_mean 33 = .ok (.iload_n 1, 1) := by decide +kernel
theorem dX8_mean_34 : decode cX8_mean 34 = .ok (.if_icmp .ne 18, 3) := by decide +kernel
theorem dX8_mean_37 : decode cX8_mean 37 = .ok (.aload_n 0, 1) := by decide +kernel
theorem dX8_mean_38 : decode cX8_mean 38 = .ok (.getfield 90, 3) := by decide +kernel
theorem dX8_mean_41 : decode cX8_mean 41 = .ok (.iload 5, 2) := by decide +kernel
theorem dX8_mean_43 : decode cX8_mean 43 = .ok (.baload, 1) := by decide +kernel
theorem dX8_mean_44 : decode cX8_mean 44 = .ok (.iload_n 2, 1) := by decide +kernel
theorem dX8_mean_45 : decode cX8_mean 45 = .ok (.if_icmp .ne 7, 3) := by decide +kernel
theorem dX8_mean_48 : decode cX8_mean 48 = .ok (.iconst 1, 1) := by decide +kernel
theorem dX8_mean_49 : decode cX8_mean 49 = .ok (.goto 4, 3) := by decide +kernel
theorem dX8_mean_52 : decode cX8_mean 52 = .ok (.iconst 0, 1) := by decide +kernel
theorem dX8_mean_53 : decode cX8_mean 53 = .ok (.istore 6, 2) := by decide +kernel
theorem dX8_mean_55 : decode cX8_mean 55 = .ok (.iload_n 3, 1) := by decide +kernel
theorem dX8_mean_56 : decode cX8_mean 56 = .ok (.iload 6, 2) := by decide +kernel
theorem dX8_mean_58 : decode cX8_mean 58 = .ok (.ifCond .eq 13, 3) := by decide +kernel
theorem dX8_mean_61 : decode cX8_mean 61 = .ok (.aload_n 0, 1) := by decide +kernel
theorem dX8_mean_62 : decode cX8_mean 62 = .ok (.getfield 87, 3) := by decide +kernel
theorem dX8_mean_65 : decode cX8_mean 65 = .ok (.iload 5, 2) := by decide +kernel
theorem dX8_mean_67 : decode cX8_mean 67 = .ok (.iaload, 1) := by decide +kernel
theorem dX8_mean_68 : decode cX8_mean 68 = .ok (.goto 4, 3) := by decide +kernel
theorem dX8_mean_71 : decode cX8_mean 71 = .ok (.iconst 0, 1) := by decide +kernel
theorem dX8_mean_72 : decode cX8_mean 72 = .ok (.iadd, 1) := by decide +kernel
theorem dX8_mean_73 : decode cX8_mean 73 = .ok (.istore_n 3, 1) := by decide +kernel
theorem dX8_mean_74 : decode cX8_mean 74 = .ok (.iload 4, 2) := by decide +kernel
theorem dX8_mean_76 : decode cX8_mean 76 = .ok (.iload 6, 2) := by decide +kernel
theorem dX8_mean_78 : decode cX8_mean 78 = .ok (.ifCond .eq 7, 3) := by decide +kernel
theorem dX8_mean_81 : decode cX8_mean 81 = .ok (.iconst 1, 1) := by decide +kernel
theorem dX8_mean_82 : decode cX8_mean 82 = .ok (.goto 4, 3) := by decide +kernel
theorem dX8_mean_85 : decode cX8_mean 85 = .ok (.iconst 0, 1) := by decide +kernel
theorem dX8_mean_86 : decode cX8_mean 86 = .ok (.iadd, 1) := by decide +kernel
theorem dX8_mean_87 : decode cX8_mean 87 = .ok (.istore 4, 2) := by decide +kernel
theorem dX8_mean_89 : decode cX8_mean 89 = .ok (.iinc 5 1, 3) := by decide +kernel
theorem dX8_mean_92 : decode cX8_mean 92 = .ok (.goto (-75), 3) := by decide +kernel
theorem dX8_mean_95 : decode cX8_mean 95 = .ok (.iload 4, 2) := by decide +kernel
theorem dX8_mean_97 : decode cX8_mean 97 = .ok (.ifCond .ne 11, 3) := by decide +kernel
theorem dX8_mean_100 : decode cX8_mean 100 = .ok (.aload_n 0, 1) := by decide +kernel
theorem dX8_mean_101 : decode cX8_mean 101 = .ok (.iconst 4, 1) := by decide +kernel
theorem dX8_mean_102 : decode cX8_mean 102 = .ok (.invokevirtual 142, 3) := by decide +kernel
theorem dX8_mean_105 : decode cX8_mean 105 = .ok (.goto 7, 3) := by decide +kernel
theorem dX8_mean_108 : decode cX8_mean 108 = .ok (.iload_n 3, 1) := by decide +kernel
theorem dX8_mean_109 : decode cX8_mean 109 = .ok (.iload 4, 2) := by decide +kernel
theorem dX8_mean_111 : decode cX8_mean 111 = .ok (.idiv, 1) := by decide +kernel
theorem dX8_mean_112 : decode cX8_mean 112 = .ok (.ireturn, 1) := by decide +kernel
set_option maxRecDepth 20000 in
theorem ggX8_spread_X8_tells : GoodIn wsX8_spread wsX8_tells := goodIn_r _ [10, 11, 12, 13, 14, 15, 16, 17, 18, 19, 20, 21, 22, 23, 24, 25, 26, 27, 28, 29, 30, 31, 32, 33, 34, 35, 36, 37, 38, 39, 40, 41, 42, 43, 44, 45, 46, 47, 48, 49, 50, 51, 52, 53, 54, 55, 56, 57, 58] (by decide +kernel) (by decide +kernel)
set_option maxRecDepth 20000 in
theorem gX8_spread_X8_tells : GoodIn wsX8_spread (wsV RX8 158 RX8 yX8_tells wsX8_tells) := goodIn_app (goodIn_of _ (by decide +kernel)) ggX8_spread_X8_tells
theorem dX8_spread_0 : decode cX8_spread 0 = .ok (.bipush (-9), 2) := by decide +kernel
theorem dX8_spread_2 : decode cX8_spread 2 = .ok (.istore_n 1, 1) := by decide +kernel
theorem dX8_spread_3 : decode cX8_spread 3 = .ok (.iconst 0, 1) := by decide +kernel
theorem dX8_spread_4 : decode cX8_spread 4 = .ok (.istore_n 2, 1) := by decide +kernel
theorem dX8_spread_5 : decode cX8_spread 5 = .ok (.iconst 0, 1) := by decide +kernel
theorem dX8_spread_6 : decode cX8_spread 6 = .ok (.istore_n 3, 1) := by decide +kernel
theorem dX8_spread_7 : decode cX8_spread 7 = .ok (.iload_n 3, 1) := by decide +kernel
theorem dX8_spread_8 : decode cX8_spread 8 = .ok (.aload_n 0, 1) := by decide +kernel
theorem dX8_spread_9 : decode cX8_spread 9 = .ok (.getfield 233, 3) := by decide +kernel
theorem dX8_spread_12 : decode cX8_spread 12 = .ok (.if_icmp .ge 155, 3) := by decide +kernel
theorem dX8_spread_15 : decode cX8_spread 15 = .ok (.iload_n 3, 1) := by decide +kernel
theorem dX8_spread_16 : decode cX8_spread 16 = .ok (.iconst 1, 1) := by decide +kernel
theorem dX8_spread_17 : decode cX8_spread 17 = .ok (.iadd, 1) := by decide +kernel
theorem dX8_spread_18 : decode cX8_spread 18 = .ok (.istore 4, 2) := by decide +kernel
theorem dX8_spread_20 : decode cX8_spread 20 = .ok (.iload 4, 2) := by decide +kernel
theorem dX8_spread_22 : decode cX8_spread 22 = .ok (.aload_n 0, 1) := by decide +kernel
theorem dX8_spread_23 : decode cX8_spread 23 = .ok (.getfield 233, 3) := by decide +kernel
theorem dX8_spread_26 : decode cX8_spread 26 = .ok (.if_icmp .ge 135, 3) := by decide +kernel
theorem dX8_spread_29 : decode cX8_spread 29 = .ok (.aload_n 0, 1) := by decide +kernel
theorem dX8_spread_30 : decode cX8_spread 30 = .ok (.getfield 81, 3) := by decide +kernel
theorem dX8_spread_33 : decode cX8_spread 33 = .ok (.iload_n 3, 1) := by decide +kernel
theorem dX8_spread_34 : decode cX8_spread 34 = .ok (.iaload, 1) := by decide +kernel
theorem dX8_spread_35 : decode cX8_spread 35 = .ok (.aload_n 0, 1) := by decide +kernel
theorem dX8_spread_36 : decode cX8_spread 36 = .ok (.getfield 81, 3) := by decide +kernel
theorem dX8_spread_39 : decode cX8_spread 39 = .ok (.iload 4, 2) := by decide +kernel
theorem dX8_spread_41 : decode cX8_spread 41 = .ok (.iaload, 1) := by decide +kernel
theorem dX8_spread_42 : decode cX8_spread 42 = .ok (.if_icmp .ne 42, 3) := by decide +kernel
theorem dX8_spread_45 : decode cX8_spread 45 = .ok (.aload_n 0, 1) := by decide +kernel
theorem dX8_spread_46 : decode cX8_spread 46 = .ok (.getfield 84, 3) := by decide +kernel
theorem dX8_spread_49 : decode cX8_spread 49 = .ok (.iload_n 3, 1) := by decide +kernel
theorem dX8_spread_50 : decode cX8_spread 50 = .ok (.iaload, 1) := by decide +kernel
theorem dX8_spread_51 : decode cX8_spread 51 = .ok (.aload_n 0, 1) := by decide +kernel
theorem dX8_spread_52 : decode cX8_spread 52 = .ok (.getfield 84, 3) := by decide +kernel
theorem dX8_spread_55 : decode cX8_spread 55 = .ok (.iload 4, 2) := by decide +kernel
theorem dX8_spread_57 : decode cX8_spread 57 = .ok (.iaload, 1) := by decide +kernel
theorem dX8_spread_58 : decode cX8_spread 58 = .ok (.if_icmp .ne 26, 3) := by decide +kernel
theorem dX8_spread_61 : decode cX8_spread 61 = .ok (.aload_n 0, 1) := by decide +kernel
theorem dX8_spread_62 : decode cX8_spread 62 = .ok (.getfield 90, 3) := by decide +kernel
theorem dX8_spread_65 : decode cX8_spread 65 = .ok (.iload_n 3, 1) := by decide +kernel
theorem dX8_spread_66 : decode cX8_spread 66 = .ok (.baload, 1) := by decide +kernel
theorem dX8_spread_67 : decode cX8_spread 67 = .ok (.ifCond .ne 17, 3) := by decide +kernel
theorem dX8_spread_70 : decode cX8_spread 70 = .ok (.aload_n 0, 1) := by decide +kernel
theorem dX8_spread_71 : decode cX8_spread 71 = .ok (.getfield 90, 3) := by decide +kernel
theorem dX8_spread_74 : decode cX8_spread 74 = .ok (.iload 4, 2) := by decide +kernel
theorem dX8_spread_76 : decode cX8_spread 76 = .ok (.baload, 1) := by decide +kernel
theorem dX8_spread_77 : decode cX8_spread 77 = .ok (.ifCond .ne 7, 3) := by decide +kernel
theorem dX8_spread_80 : decode cX8_spread 80 = .ok (.iconst 1, 1) := by decide +kernel
theorem dX8_spread_81 : decode cX8_spread 81 = .ok (.goto 4, 3) := by decide +kernel
theorem dX8_spread_84 : decode cX8_spread 84 = .ok (.iconst 0, 1) := by decide +kernel
theorem dX8_spread_85 : decode cX8_spread 85 = .ok (.istore 5, 2) := by decide +kernel
theorem dX8_spread_87 : decode cX8_spread 87 = .ok (.aload_n 0, 1) := by decide +kernel
theorem dX8_spread_88 : decode cX8_spread 88 = .ok (.getfield 87, 3) := by decide +kernel
theorem dX8_spread_91 : decode cX8_spread 91 = .ok (.iload_n 3, 1) := by decide +kernel
theorem dX8_spread_92 : decode cX8_spread 92 = .ok (.iaload, 1) := by decide +kernel
theorem dX8_spread_93 : decode cX8_spread 93 = .ok (.aload_n 0, 1) := by decide +kernel
theorem dX8_spread_94 : decode cX8_spread 94 = .ok (.getfield 87, 3) := by decide +kernel
theorem dX8_spread_97 : decode cX8_spread 97 = .ok (.iload 4, 2) := by decide +kernel
theorem dX8_spread_99 : decode cX8_spread 99 = .ok (.iaload, 1) := by decide +kernel
theorem dX8_spread_100 : decode cX8_spread 100 = .ok (.isub, 1) := by decide +kernel
theorem dX8_spread_101 : decode cX8_spread 101 = .ok (.istore 6, 2) := by decide +kernel
theorem dX8_spread_103 : decode cX8_spread 103 = .ok (.iload 6, 2) := by decide +kernel
theorem dX8_spread_105 : decode cX8_spread 105 = .ok (.ifCond .ge 9, 3) := by decide +kernel
theorem dX8_spread_108 : decode cX8_spread 108 = .ok (.iload 6, 2) := by decide +kernel
theorem dX8_spread_110 : decode cX8_spread 110 = .ok (.ineg, 1) := by decide +kernel
theorem dX8_spread_111 : decode cX8_spread 111 = .ok (.goto 5, 3) := by decide +kernel
theorem dX8_spread_114 : decode cX8_spread 114 = .ok (.iload 6, 2) := by decide +kernel
theorem dX8_spread_116 : decode cX8_spread 116 = .ok (.istore 6, 2) := by decide +kernel
theorem dX8_spread_118 : decode cX8_spread 118 = .ok (.iload 5, 2) := by decide +kernel
theorem dX8_spread_120 : decode cX8_spread 120 = .ok (.ifCond .eq 35, 3) := by decide +kernel
theorem dX8_spread_123 : decode cX8_spread 123 = .ok (.iload 6, 2) := by decide +kernel
theorem dX8_spread_125 : decode cX8_spread 125 = .ok (.iload_n 1, 1) := by decide +kernel
theorem dX8_spread_126 : decode cX8_spread 126 = .ok (.if_icmp .gt 19, 3) := by decide +kernel
theorem dX8_spread_129 : decode cX8_spread 129 = .ok (.iload 6, 2) := by decide +kernel
theorem dX8_spread_131 : decode cX8_spread 131 = .ok (.iload_n 1, 1) := by decide +kernel
theorem dX8_spread_132 : decode cX8_spread 132 = .ok (.if_icmp .ne 23, 3) := by decide +kernel
theorem dX8_spread_135 : decode cX8_spread 135 = .ok (.aload_n 0, 1) := by decide +kernel
theorem dX8_spread_136 : decode cX8_spread 136 = .ok (.getfield 81, 3) := by decide +kernel
theorem dX8_spread_139 : decode cX8_spread 139 = .ok (.iload_n 3, 1) := by decide +kernel
theorem dX8_spread_140 : decode cX8_spread 140 = .ok (.iaload, 1) := by decide +kernel
theorem dX8_spread_141 : decode cX8_spread 141 = .ok (.iload_n 2, 1) := by decide +kernel
theorem dX8_spread_142 : decode cX8_spread 142 = .ok (.if_icmp .ge 13, 3) := by decide +kernel
theorem dX8_spread_145 : decode cX8_spread 145 = .ok (.iload 6, 2) := by decide +kernel
theorem dX8_spread_147 : decode cX8_spread 147 = .ok (.istore_n 1, 1) := by decide +kernel
theorem dX8_spread_148 : decode cX8_spread 148 = .ok (.aload_n 0, 1) := by decide +kernel
theorem dX8_spread_149 : decode cX8_spread 149 = .ok (.getfield 81, 3) := by decide +kernel
theorem dX8_spread_152 : decode cX8_spread 152 = .ok (.iload_n 3, 1) := by decide +kernel
theorem dX8_spread_153 : decode cX8_spread 153 = .ok (.iaload, 1) := by decide +kernel
theorem dX8_spread_154 : decode cX8_spread 154 = .ok (.istore_n 2, 1) := by decide +kernel
theorem dX8_spread_155 : decode cX8_spread 155 = .ok (.iinc 4 1, 3) := by decide +kernel
theorem dX8_spread_158 : decode cX8_spread 158 = .ok (.goto (-138), 3) := by decide +kernel
theorem dX8_spread_161 : decode cX8_spread 161 = .ok (.iinc 3 1, 3) := by decide +kernel
theorem dX8_spread_164 : decode cX8_spread 164 = .ok (.goto (-157), 3) := by decide +kernel
theorem dX8_spread_167 : decode cX8_spread 167 = .ok (.iload_n 1, 1) := by decide +kernel
theorem dX8_spread_168 : decode cX8_spread 168 = .ok (.bipush (-9), 2) := by decide +kernel
theorem dX8_spread_170 : decode cX8_spread 170 = .ok (.if_icmp .ne 8, 3) := by decide +kernel
theorem dX8_spread_173 : decode cX8_spread 173 = .ok (.bipush (-9), 2) := by decide +kernel
theorem dX8_spread_175 : decode cX8_spread 175 = .ok (.goto 9, 3) := by decide +kernel
theorem dX8_spread_178 : decode cX8_spread 178 = .ok (.aload_n 0, 1) := by decide +kernel
theorem dX8_spread_179 : decode cX8_spread 179 = .ok (.iload_n 2, 1) := by decide +kernel
theorem dX8_spread_180 : decode cX8_spread 180 = .ok (.iload_n 1, 1) := by decide +kernel
theorem dX8_spread_181 : decode cX8_spread 181 = .ok (.invokevirtual 158, 3) := by decide +kernel
theorem dX8_spread_184 : decode cX8_spread 184 = .ok (.ireturn, 1) := by decide +kernel
set_option maxRecDepth 20000 in
theorem ggX8_sold_X8_in : GoodIn wsX8_sold wsX8_in := goodIn_r _ [9] (by decide +kernel) (by decide +kernel)
set_option maxRecDepth 20000 in
theorem gX8_sold_X8_in : GoodIn wsX8_sold (va_wsS RX8 125 yX8_in wsX8_in) := goodIn_app (goodIn_of _ (by decide +kernel)) ggX8_sold_X8_in
set_option maxRecDepth 20000 in
theorem ggX8_sold_X8_isHand : GoodIn wsX8_sold wsX8_isHand := goodIn_r _ [12, 6, 7, 8, 9] (by decide +kernel) (by decide +kernel)
set_option maxRecDepth 20000 in
theorem gX8_sold_X8_isHand : GoodIn wsX8_sold (va_wsS RX8 201 yX8_isHand wsX8_isHand) := goodIn_app (goodIn_of _ (by decide +kernel)) ggX8_sold_X8_isHand
theorem dX8_sold_0 : decode cX8_sold 0 = .ok (.iload_n 1, 1) := by decide +kernel
theorem dX8_sold_1 : decode cX8_sold 1 = .ok (.iconst 0, 1) := by decide +kernel
theorem dX8_sold_2 : decode cX8_sold 2 = .ok (.aload_n 0, 1) := by decide +kernel
theorem dX8_sold_3 : decode cX8_sold 3 = .ok (.getfield 135, 3) := by decide +kernel
theorem dX8_sold_6 : decode cX8_sold 6 = .ok (.invokestatic 125, 3) := by decide +kernel
theorem dX8_sold_9 : decode cX8_sold 9 = .ok (.ifCond .eq 20, 3) := by decide +kernel
theorem dX8_sold_12 : decode cX8_sold 12 = .ok (.iload_n 2, 1) := by decide +kernel
theorem dX8_sold_13 : decode cX8_sold 13 = .ok (.iconst 1, 1) := by decide +kernel
theorem dX8_sold_14 : decode cX8_sold 14 = .ok (.ldc 236, 2) := by decide +kernel
theorem dX8_sold_16 : decode cX8_sold 16 = .ok (.invokestatic 125, 3) := by decide +kernel
theorem dX8_sold_19 : decode cX8_sold 19 = .ok (.ifCond .eq 10, 3) := by decide +kernel
theorem dX8_sold_22 : decode cX8_sold 22 = .ok (.iload_n 3, 1) := by decide +kernel
theorem dX8_sold_23 : decode cX8_sold 23 = .ok (.invokestatic 201, 3) := by decide +kernel
theorem dX8_sold_26 : decode cX8_sold 26 = .ok (.ifCond .ne 5, 3) := by decide +kernel
theorem dX8_sold_29 : decode cX8_sold 29 = .ok (.iconst (-1), 1) := by decide +kernel
theorem dX8_sold_30 : decode cX8_sold 30 = .ok (.ireturn, 1) := by decide +kernel
theorem dX8_sold_31 : decode cX8_sold 31 = .ok (.aload_n 0, 1) := by decide +kernel
theorem dX8_sold_32 : decode cX8_sold 32 = .ok (.iload_n 1, 1) := by decide +kernel
theorem dX8_sold_33 : decode cX8_sold 33 = .ok (.putfield 119, 3) := by decide +kernel
theorem dX8_sold_36 : decode cX8_sold 36 = .ok (.aload_n 0, 1) := by decide +kernel
theorem dX8_sold_37 : decode cX8_sold 37 = .ok (.iload_n 2, 1) := by decide +kernel
theorem dX8_sold_38 : decode cX8_sold 38 = .ok (.putfield 237, 3) := by decide +kernel
theorem dX8_sold_41 : decode cX8_sold 41 = .ok (.aload_n 0, 1) := by decide +kernel
theorem dX8_sold_42 : decode cX8_sold 42 = .ok (.iload_n 3, 1) := by decide +kernel
theorem dX8_sold_43 : decode cX8_sold 43 = .ok (.putfield 240, 3) := by decide +kernel
theorem dX8_sold_46 : decode cX8_sold 46 = .ok (.iconst 1, 1) := by decide +kernel
theorem dX8_sold_47 : decode cX8_sold 47 = .ok (.ireturn, 1) := by decide +kernel
set_option maxRecDepth 20000 in
theorem ggX8_law_X8_isDay : GoodIn wsX8_law wsX8_isDay := goodIn_r _ [9, 10, 11, 8, 12] (by decide +kernel) (by decide +kernel)
set_option maxRecDepth 20000 in
theorem gX8_law_X8_isDay : GoodIn wsX8_law (va_wsS RX8 189 yX8_isDay wsX8_isDay) := goodIn_app (goodIn_of _ (by decide +kernel)) ggX8_law_X8_isDay
set_option maxRecDepth 20000 in
theorem ggX8_law_X8_in : GoodIn wsX8_law wsX8_in := goodIn_r _ [12] (by decide +kernel) (by decide +kernel)
set_option maxRecDepth 20000 in
theorem gX8_law_X8_in : GoodIn wsX8_law (va_wsS RX8 125 yX8_in wsX8_in) := goodIn_app (goodIn_of _ (by decide +kernel)) ggX8_law_X8_in
theorem dX8_law_0 : decode cX8_law 0 = .ok (.iload_n 1, 1) := by decide +kernel
theorem dX8_law_1 : decode cX8_law 1 = .ok (.invokestatic 189, 3) := by decide +kernel
theorem dX8_law_4 : decode cX8_law 4 = .ok (.ifCond .eq 31, 3) := by decide +kernel
theorem dX8_law_7 : decode cX8_law 7 = .ok (.iload_n 2, 1) := by decide +kernel
theorem dX8_law_8 : decode cX8_law 8 = .ok (.invokestatic 189, 3) := by decide +kernel
end
section
theorem dX8_law_11 : decode cX8_law 11 = .ok (.ifCond .eq 24, 3) := by decide +kernel
theorem dX8_law_14 : decode cX8_law 14 = .ok (.iload_n 3, 1) := by decide +kernel
theorem dX8_law_15 : decode cX8_law 15 = .ok (.iconst 0, 1) := by decide +kernel
theorem dX8_law_16 : decode cX8_law 16 = .ok (.bipush 100, 2) := by decide +kernel
theorem dX8_law_18 : decode cX8_law 18 = .ok (.invokestatic 125, 3) := by decide +kernel
theorem dX8_law_21 : decode cX8_law 21 = .ok (.ifCond .eq 14, 3) := by decide +kernel
theorem dX8_law_24 : decode cX8_law 24 = .ok (.iload 4, 2) := by decide +kernel
theorem dX8_law_26 : decode cX8_law 26 = .ok (.iconst 0, 1) := by decide +kernel
theorem dX8_law_27 : decode cX8_law 27 = .ok (.bipush 100, 2) := by decide +kernel
theorem dX8_law_29 : decode cX8_law 29 = .ok (.invokestatic 125, 3) := by decide +kernel
theorem dX8_law_32 : decode cX8_law 32 = .ok (.ifCond .ne 5, 3) := by decide +kernel
theorem dX8_law_35 : decode cX8_law 35 = .ok (.iconst (-1), 1) := by decide +kernel
theorem dX8_law_36 : decode cX8_law 36 = .ok (.ireturn, 1) := by decide +kernel
theorem dX8_law_37 : decode cX8_law 37 = .ok (.aload_n 0, 1) := by decide +kernel
theorem dX8_law_38 : decode cX8_law 38 = .ok (.getfield 243, 3) := by decide +kernel
theorem dX8_law_41 : decode cX8_law 41 = .ok (.bipush 8, 2) := by decide +kernel
theorem dX8_law_43 : decode cX8_law 43 = .ok (.if_icmp .ne 6, 3) := by decide +kernel
theorem dX8_law_46 : decode cX8_law 46 = .ok (.bipush (-2), 2) := by decide +kernel
theorem dX8_law_48 : decode cX8_law 48 = .ok (.ireturn, 1) := by decide +kernel
theorem dX8_law_49 : decode cX8_law 49 = .ok (.aload_n 0, 1) := by decide +kernel
theorem dX8_law_50 : decode cX8_law 50 = .ok (.getfield 93, 3) := by decide +kernel
theorem dX8_law_53 : decode cX8_law 53 = .ok (.aload_n 0, 1) := by decide +kernel
theorem dX8_law_54 : decode cX8_law 54 = .ok (.getfield 243, 3) := by decide +kernel
theorem dX8_law_57 : decode cX8_law 57 = .ok (.iload_n 1, 1) := by decide +kernel
theorem dX8_law_58 : decode cX8_law 58 = .ok (.iastore, 1) := by decide +kernel
theorem dX8_law_59 : decode cX8_law 59 = .ok (.aload_n 0, 1) := by decide +kernel
theorem dX8_law_60 : decode cX8_law 60 = .ok (.getfield 96, 3) := by decide +kernel
theorem dX8_law_63 : decode cX8_law 63 = .ok (.aload_n 0, 1) := by decide +kernel
theorem dX8_law_64 : decode cX8_law 64 = .ok (.getfield 243, 3) := by decide +kernel
theorem dX8_law_67 : decode cX8_law 67 = .ok (.iload_n 2, 1) := by decide +kernel
theorem dX8_law_68 : decode cX8_law 68 = .ok (.iastore, 1) := by decide +kernel
theorem dX8_law_69 : decode cX8_law 69 = .ok (.aload_n 0, 1) := by decide +kernel
theorem dX8_law_70 : decode cX8_law 70 = .ok (.getfield 99, 3) := by decide +kernel
theorem dX8_law_73 : decode cX8_law 73 = .ok (.aload_n 0, 1) := by decide +kernel
theorem dX8_law_74 : decode cX8_law 74 = .ok (.getfield 243, 3) := by decide +kernel
theorem dX8_law_77 : decode cX8_law 77 = .ok (.iload_n 3, 1) := by decide +kernel
theorem dX8_law_78 : decode cX8_law 78 = .ok (.iastore, 1) := by decide +kernel
theorem dX8_law_79 : decode cX8_law 79 = .ok (.aload_n 0, 1) := by decide +kernel
theorem dX8_law_80 : decode cX8_law 80 = .ok (.getfield 102, 3) := by decide +kernel
theorem dX8_law_83 : decode cX8_law 83 = .ok (.aload_n 0, 1) := by decide +kernel
theorem dX8_law_84 : decode cX8_law 84 = .ok (.getfield 243, 3) := by decide +kernel
theorem dX8_law_87 : decode cX8_law 87 = .ok (.iload 4, 2) := by decide +kernel
theorem dX8_law_89 : decode cX8_law 89 = .ok (.iastore, 1) := by decide +kernel
theorem dX8_law_90 : decode cX8_law 90 = .ok (.aload_n 0, 1) := by decide +kernel
theorem dX8_law_91 : decode cX8_law 91 = .ok (.dup, 1) := by decide +kernel
theorem dX8_law_92 : decode cX8_law 92 = .ok (.getfield 243, 3) := by decide +kernel
theorem dX8_law_95 : decode cX8_law 95 = .ok (.iconst 1, 1) := by decide +kernel
theorem dX8_law_96 : decode cX8_law 96 = .ok (.iadd, 1) := by decide +kernel
theorem dX8_law_97 : decode cX8_law 97 = .ok (.putfield 243, 3) := by decide +kernel
theorem dX8_law_100 : decode cX8_law 100 = .ok (.aload_n 0, 1) := by decide +kernel
theorem dX8_law_101 : decode cX8_law 101 = .ok (.getfield 243, 3) := by decide +kernel
theorem dX8_law_104 : decode cX8_law 104 = .ok (.iconst 1, 1) := by decide +kernel
theorem dX8_law_105 : decode cX8_law 105 = .ok (.isub, 1) := by decide +kernel
theorem dX8_law_106 : decode cX8_law 106 = .ok (.ireturn, 1) := by decide +kernel
set_option maxRecDepth 20000 in
theorem ggX8_claim_X8_allScores : GoodIn wsX8_claim wsX8_allScores := goodIn_r _ [16, 17, 18, 19, 15, 20, 21, 22, 23, 24, 25, 37, 38, 39, 40, 41, 42, 43, 44, 45, 46, 47, 48, 49, 50, 51, 52, 53, 54, 55, 56, 57, 58, 59, 60, 61, 62, 63, 64, 65, 66, 67, 68, 69, 70, 71, 72, 73, 74, 75, 76, 77, 78, 79, 80, 81, 82, 83] (by decide +kernel) (by decide +kernel)
set_option maxRecDepth 20000 in
theorem gX8_claim_X8_allScores : GoodIn wsX8_claim (wsV RX8 214 RX8 yX8_allScores wsX8_allScores) := goodIn_app (goodIn_of _ (by decide +kernel)) ggX8_claim_X8_allScores
set_option maxRecDepth 20000 in
theorem ggX8_claim_X8_meets : GoodIn wsX8_claim wsX8_meets := goodIn_r _ [29, 30, 31, 37, 38, 39, 40, 41, 42, 43, 44, 45, 46, 47, 48, 49, 50, 51, 52, 53, 54, 55, 56, 57, 58, 59, 60, 61, 62, 63, 64, 65, 66, 67, 68, 69, 70, 71, 72, 73, 74, 75, 76, 77, 78, 79, 80, 81, 82, 83] (by decide +kernel) (by decide +kernel)
set_option maxRecDepth 20000 in
theorem gX8_claim_X8_meets : GoodIn wsX8_claim (wsV RX8 142 RX8 yX8_meets wsX8_meets) := goodIn_app (goodIn_of _ (by decide +kernel)) ggX8_claim_X8_meets
set_option maxRecDepth 20000 in
theorem ggX8_claim_X8_scoreOf : GoodIn wsX8_claim wsX8_scoreOf := goodIn_r _ [20, 21, 22, 23, 24, 25, 37, 38, 39, 40, 41, 42, 43, 44, 45, 46, 47, 48, 49, 50, 51, 52, 53, 54, 55, 56, 57, 58, 59, 60, 61, 62, 63, 64, 65, 66, 67, 68, 69, 70, 71, 72, 73, 74, 75, 76, 77, 78, 79, 80, 81, 82, 83] (by decide +kernel) (by decide +kernel)
set_option maxRecDepth 20000 in
theorem gX8_claim_X8_scoreOf : GoodIn wsX8_claim (wsV RX8 210 RX8 yX8_scoreOf wsX8_scoreOf) := goodIn_app (goodIn_of _ (by decide +kernel)) ggX8_claim_X8_scoreOf
set_option maxRecDepth 20000 in
theorem ggX8_claim_X8_tells : GoodIn wsX8_claim wsX8_tells := goodIn_r _ [35, 36, 37, 38, 39, 40, 41, 42, 43, 44, 45, 46, 47, 48, 49, 50, 51, 52, 53, 54, 55, 56, 57, 58, 59, 60, 61, 62, 63, 64, 65, 66, 67, 68, 69, 70, 71, 72, 73, 74, 75, 76, 77, 78, 79, 80, 81, 82, 83] (by decide +kernel) (by decide +kernel)
set_option maxRecDepth 20000 in
theorem gX8_claim_X8_tells : GoodIn wsX8_claim (wsV RX8 158 RX8 yX8_tells wsX8_tells) := goodIn_app (goodIn_of _ (by decide +kernel)) ggX8_claim_X8_tells
theorem dX8_claim_0 : decode cX8_claim 0 = .ok (.bipush (-9), 2) := by decide +kernel
theorem dX8_claim_2 : decode cX8_claim 2 = .ok (.istore_n 1, 1) := by decide +kernel
theorem dX8_claim_3 : decode cX8_claim 3 = .ok (.iconst 0, 1) := by decide +kernel
theorem dX8_claim_4 : decode cX8_claim 4 = .ok (.istore_n 2, 1) := by decide +kernel
theorem dX8_claim_5 : decode cX8_claim 5 = .ok (.iload_n 2, 1) := by decide +kernel
theorem dX8_claim_6 : decode cX8_claim 6 = .ok (.aload_n 0, 1) := by decide +kernel
theorem dX8_claim_7 : decode cX8_claim 7 = .ok (.getfield 243, 3) := by decide +kernel
theorem dX8_claim_10 : decode cX8_claim 10 = .ok (.if_icmp .ge 58, 3) := by decide +kernel
theorem dX8_claim_13 : decode cX8_claim 13 = .ok (.aload_n 0, 1) := by decide +kernel
theorem dX8_claim_14 : decode cX8_claim 14 = .ok (.getfield 119, 3) := by decide +kernel
theorem dX8_claim_17 : decode cX8_claim 17 = .ok (.bipush (-9), 2) := by decide +kernel
theorem dX8_claim_19 : decode cX8_claim 19 = .ok (.if_icmp .eq 49, 3) := by decide +kernel
theorem dX8_claim_22 : decode cX8_claim 22 = .ok (.aload_n 0, 1) := by decide +kernel
theorem dX8_claim_23 : decode cX8_claim 23 = .ok (.getfield 93, 3) := by decide +kernel
theorem dX8_claim_26 : decode cX8_claim 26 = .ok (.iload_n 2, 1) := by decide +kernel
theorem dX8_claim_27 : decode cX8_claim 27 = .ok (.iaload, 1) := by decide +kernel
theorem dX8_claim_28 : decode cX8_claim 28 = .ok (.aload_n 0, 1) := by decide +kernel
theorem dX8_claim_29 : decode cX8_claim 29 = .ok (.getfield 119, 3) := by decide +kernel
theorem dX8_claim_32 : decode cX8_claim 32 = .ok (.if_icmp .gt 28, 3) := by decide +kernel
theorem dX8_claim_35 : decode cX8_claim 35 = .ok (.iload_n 1, 1) := by decide +kernel
theorem dX8_claim_36 : decode cX8_claim 36 = .ok (.bipush (-9), 2) := by decide +kernel
theorem dX8_claim_38 : decode cX8_claim 38 = .ok (.if_icmp .eq 18, 3) := by decide +kernel
theorem dX8_claim_41 : decode cX8_claim 41 = .ok (.aload_n 0, 1) := by decide +kernel
theorem dX8_claim_42 : decode cX8_claim 42 = .ok (.getfield 93, 3) := by decide +kernel
theorem dX8_claim_45 : decode cX8_claim 45 = .ok (.iload_n 2, 1) := by decide +kernel
theorem dX8_claim_46 : decode cX8_claim 46 = .ok (.iaload, 1) := by decide +kernel
theorem dX8_claim_47 : decode cX8_claim 47 = .ok (.aload_n 0, 1) := by decide +kernel
theorem dX8_claim_48 : decode cX8_claim 48 = .ok (.getfield 93, 3) := by decide +kernel
theorem dX8_claim_51 : decode cX8_claim 51 = .ok (.iload_n 1, 1) := by decide +kernel
theorem dX8_claim_52 : decode cX8_claim 52 = .ok (.iaload, 1) := by decide +kernel
theorem dX8_claim_53 : decode cX8_claim 53 = .ok (.if_icmp .lt 7, 3) := by decide +kernel
theorem dX8_claim_56 : decode cX8_claim 56 = .ok (.iload_n 2, 1) := by decide +kernel
theorem dX8_claim_57 : decode cX8_claim 57 = .ok (.goto 4, 3) := by decide +kernel
theorem dX8_claim_60 : decode cX8_claim 60 = .ok (.iload_n 1, 1) := by decide +kernel
theorem dX8_claim_61 : decode cX8_claim 61 = .ok (.istore_n 1, 1) := by decide +kernel
theorem dX8_claim_62 : decode cX8_claim 62 = .ok (.iinc 2 1, 3) := by decide +kernel
theorem dX8_claim_65 : decode cX8_claim 65 = .ok (.goto (-60), 3) := by decide +kernel
theorem dX8_claim_68 : decode cX8_claim 68 = .ok (.iload_n 1, 1) := by decide +kernel
theorem dX8_claim_69 : decode cX8_claim 69 = .ok (.bipush (-9), 2) := by decide +kernel
theorem dX8_claim_71 : decode cX8_claim 71 = .ok (.if_icmp .ne 6, 3) := by decide +kernel
theorem dX8_claim_74 : decode cX8_claim 74 = .ok (.bipush (-4), 2) := by decide +kernel
theorem dX8_claim_76 : decode cX8_claim 76 = .ok (.ireturn, 1) := by decide +kernel
theorem dX8_claim_77 : decode cX8_claim 77 = .ok (.aload_n 0, 1) := by decide +kernel
theorem dX8_claim_78 : decode cX8_claim 78 = .ok (.invokevirtual 214, 3) := by decide +kernel
theorem dX8_claim_81 : decode cX8_claim 81 = .ok (.lconst 0, 1) := by decide +kernel
theorem dX8_claim_82 : decode cX8_claim 82 = .ok (.lcmp, 1) := by decide +kernel
theorem dX8_claim_83 : decode cX8_claim 83 = .ok (.ifCond .ne 9, 3) := by decide +kernel
theorem dX8_claim_86 : decode cX8_claim 86 = .ok (.aload_n 0, 1) := by decide +kernel
theorem dX8_claim_87 : decode cX8_claim 87 = .ok (.iconst 4, 1) := by decide +kernel
theorem dX8_claim_88 : decode cX8_claim 88 = .ok (.invokevirtual 142, 3) := by decide +kernel
theorem dX8_claim_91 : decode cX8_claim 91 = .ok (.ireturn, 1) := by decide +kernel
theorem dX8_claim_92 : decode cX8_claim 92 = .ok (.aload_n 0, 1) := by decide +kernel
theorem dX8_claim_93 : decode cX8_claim 93 = .ok (.getfield 135, 3) := by decide +kernel
theorem dX8_claim_96 : decode cX8_claim 96 = .ok (.aload_n 0, 1) := by decide +kernel
theorem dX8_claim_97 : decode cX8_claim 97 = .ok (.getfield 119, 3) := by decide +kernel
theorem dX8_claim_100 : decode cX8_claim 100 = .ok (.isub, 1) := by decide +kernel
theorem dX8_claim_101 : decode cX8_claim 101 = .ok (.istore_n 2, 1) := by decide +kernel
theorem dX8_claim_102 : decode cX8_claim 102 = .ok (.iload_n 2, 1) := by decide +kernel
theorem dX8_claim_103 : decode cX8_claim 103 = .ok (.aload_n 0, 1) := by decide +kernel
theorem dX8_claim_104 : decode cX8_claim 104 = .ok (.getfield 96, 3) := by decide +kernel
theorem dX8_claim_107 : decode cX8_claim 107 = .ok (.iload_n 1, 1) := by decide +kernel
theorem dX8_claim_108 : decode cX8_claim 108 = .ok (.iaload, 1) := by decide +kernel
theorem dX8_claim_109 : decode cX8_claim 109 = .ok (.if_icmp .le 5, 3) := by decide +kernel
theorem dX8_claim_112 : decode cX8_claim 112 = .ok (.iconst 2, 1) := by decide +kernel
theorem dX8_claim_113 : decode cX8_claim 113 = .ok (.ireturn, 1) := by decide +kernel
theorem dX8_claim_114 : decode cX8_claim 114 = .ok (.aload_n 0, 1) := by decide +kernel
theorem dX8_claim_115 : decode cX8_claim 115 = .ok (.aload_n 0, 1) := by decide +kernel
theorem dX8_claim_116 : decode cX8_claim 116 = .ok (.getfield 240, 3) := by decide +kernel
theorem dX8_claim_119 : decode cX8_claim 119 = .ok (.invokevirtual 210, 3) := by decide +kernel
theorem dX8_claim_122 : decode cX8_claim 122 = .ok (.ldc2_w 246, 3) := by decide +kernel
theorem dX8_claim_125 : decode cX8_claim 125 = .ok (.lmul, 1) := by decide +kernel
theorem dX8_claim_126 : decode cX8_claim 126 = .ok (.aload_n 0, 1) := by decide +kernel
theorem dX8_claim_127 : decode cX8_claim 127 = .ok (.getfield 99, 3) := by decide +kernel
theorem dX8_claim_130 : decode cX8_claim 130 = .ok (.iload_n 1, 1) := by decide +kernel
theorem dX8_claim_131 : decode cX8_claim 131 = .ok (.iaload, 1) := by decide +kernel
theorem dX8_claim_132 : decode cX8_claim 132 = .ok (.i2l, 1) := by decide +kernel
theorem dX8_claim_133 : decode cX8_claim 133 = .ok (.aload_n 0, 1) := by decide +kernel
theorem dX8_claim_134 : decode cX8_claim 134 = .ok (.invokevirtual 214, 3) := by decide +kernel
theorem dX8_claim_137 : decode cX8_claim 137 = .ok (.lmul, 1) := by decide +kernel
theorem dX8_claim_138 : decode cX8_claim 138 = .ok (.lcmp, 1) := by decide +kernel
theorem dX8_claim_139 : decode cX8_claim 139 = .ok (.ifCond .lt 5, 3) := by decide +kernel
theorem dX8_claim_142 : decode cX8_claim 142 = .ok (.iconst 3, 1) := by decide +kernel
theorem dX8_claim_143 : decode cX8_claim 143 = .ok (.ireturn, 1) := by decide +kernel
theorem dX8_claim_144 : decode cX8_claim 144 = .ok (.aload_n 0, 1) := by decide +kernel
theorem dX8_claim_145 : decode cX8_claim 145 = .ok (.getfield 237, 3) := by decide +kernel
theorem dX8_claim_148 : decode cX8_claim 148 = .ok (.i2l, 1) := by decide +kernel
theorem dX8_claim_149 : decode cX8_claim 149 = .ok (.aload_n 0, 1) := by decide +kernel
theorem dX8_claim_150 : decode cX8_claim 150 = .ok (.getfield 102, 3) := by decide +kernel
theorem dX8_claim_153 : decode cX8_claim 153 = .ok (.iload_n 1, 1) := by decide +kernel
theorem dX8_claim_154 : decode cX8_claim 154 = .ok (.iaload, 1) := by decide +kernel
theorem dX8_claim_155 : decode cX8_claim 155 = .ok (.i2l, 1) := by decide +kernel
theorem dX8_claim_156 : decode cX8_claim 156 = .ok (.lmul, 1) := by decide +kernel
theorem dX8_claim_157 : decode cX8_claim 157 = .ok (.iload_n 2, 1) := by decide +kernel
theorem dX8_claim_158 : decode cX8_claim 158 = .ok (.i2l, 1) := by decide +kernel
theorem dX8_claim_159 : decode cX8_claim 159 = .ok (.lmul, 1) := by decide +kernel
theorem dX8_claim_160 : decode cX8_claim 160 = .ok (.ldc2_w 248, 3) := by decide +kernel
theorem dX8_claim_163 : decode cX8_claim 163 = .ok (.ldiv, 1) := by decide +kernel
theorem dX8_claim_164 : decode cX8_claim 164 = .ok (.lstore_n 3, 1) := by decide +kernel
theorem dX8_claim_165 : decode cX8_claim 165 = .ok (.aload_n 0, 1) := by decide +kernel
theorem dX8_claim_166 : decode cX8_claim 166 = .ok (.aload_n 0, 1) := by decide +kernel
theorem dX8_claim_167 : decode cX8_claim 167 = .ok (.getfield 237, 3) := by decide +kernel
theorem dX8_claim_170 : decode cX8_claim 170 = .ok (.i2l, 1) := by decide +kernel
theorem dX8_claim_171 : decode cX8_claim 171 = .ok (.lload_n 3, 1) := by decide +kernel
theorem dX8_claim_172 : decode cX8_claim 172 = .ok (.ladd, 1) := by decide +kernel
theorem dX8_claim_173 : decode cX8_claim 173 = .ok (.l2i, 1) := by decide +kernel
theorem dX8_claim_174 : decode cX8_claim 174 = .ok (.iconst 1, 1) := by decide +kernel
theorem dX8_claim_175 : decode cX8_claim 175 = .ok (.invokevirtual 158, 3) := by decide +kernel
theorem dX8_claim_178 : decode cX8_claim 178 = .ok (.ireturn, 1) := by decide +kernel
theorem dX8_tellsCount_0 : decode cX8_tellsCount 0 = .ok (.iconst 0, 1) := by decide +kernel
theorem dX8_tellsCount_1 : decode cX8_tellsCount 1 = .ok (.istore_n 2, 1) := by decide +kernel
theorem dX8_tellsCount_2 : decode cX8_tellsCount 2 = .ok (.iload_n 1, 1) := by decide +kernel
theorem dX8_tellsCount_3 : decode cX8_tellsCount 3 = .ok (.tableswitch 140 0 6 #[41, 46, 51, 88, 93, 130, 135], 41) := by decide +kernel
theorem dX8_tellsCount_44 : decode cX8_tellsCount 44 = .ok (.aload_n 0, 1) := by decide +kernel
theorem dX8_tellsCount_45 : decode cX8_tellsCount 45 = .ok (.getfield 135, 3) := by decide +kernel
theorem dX8_tellsCount_48 : decode cX8_tellsCount 48 = .ok (.ireturn, 1) := by decide +kernel
theorem dX8_tellsCount_49 : decode cX8_tellsCount 49 = .ok (.aload_n 0, 1) := by decide +kernel
theorem dX8_tellsCount_50 : decode cX8_tellsCount 50 = .ok (.getfield 167, 3) := by decide +kernel
theorem dX8_tellsCount_53 : decode cX8_tellsCount 53 = .ok (.ireturn, 1) := by decide +kernel
theorem dX8_tellsCount_54 : decode cX8_tellsCount 54 = .ok (.iconst 0, 1) := by decide +kernel
theorem dX8_tellsCount_55 : decode cX8_tellsCount 55 = .ok (.istore_n 3, 1) := by decide +kernel
theorem dX8_tellsCount_56 : decode cX8_tellsCount 56 = .ok (.iload_n 3, 1) := by decide +kernel
theorem dX8_tellsCount_57 : decode cX8_tellsCount 57 = .ok (.aload_n 0, 1) := by decide +kernel
theorem dX8_tellsCount_58 : decode cX8_tellsCount 58 = .ok (.getfield 167, 3) := by decide +kernel
theorem dX8_tellsCount_61 : decode cX8_tellsCount 61 = .ok (.if_icmp .ge 28, 3) := by decide +kernel
theorem dX8_tellsCount_64 : decode cX8_tellsCount 64 = .ok (.iload_n 2, 1) := by decide +kernel
theorem dX8_tellsCount_65 : decode cX8_tellsCount 65 = .ok (.aload_n 0, 1) := by decide +kernel
theorem dX8_tellsCount_66 : decode cX8_tellsCount 66 = .ok (.getfield 35, 3) := by decide +kernel
theorem dX8_tellsCount_69 : decode cX8_tellsCount 69 = .ok (.iload_n 3, 1) := by decide +kernel
theorem dX8_tellsCount_70 : decode cX8_tellsCount 70 = .ok (.iaload, 1) := by decide +kernel
theorem dX8_tellsCount_71 : decode cX8_tellsCount 71 = .ok (.bipush (-9), 2) := by decide +kernel
theorem dX8_tellsCount_73 : decode cX8_tellsCount 73 = .ok (.if_icmp .ne 7, 3) := by decide +kernel
theorem dX8_tellsCount_76 : decode cX8_tellsCount 76 = .ok (.iconst 1, 1) := by decide +kernel
theorem dX8_tellsCount_77 : decode cX8_tellsCount 77 = .ok (.goto 4, 3) := by decide +kernel
theorem dX8_tellsCount_80 : decode cX8_tellsCount 80 = .ok (.iconst 0, 1) := by decide +kernel
theorem dX8_tellsCount_81 : decode cX8_tellsCount 81 = .ok (.iadd, 1) := by decide +kernel
theorem dX8_tellsCount_82 : decode cX8_tellsCount 82 = .ok (.istore_n 2, 1) := by decide +kernel
theorem dX8_tellsCount_83 : decode cX8_tellsCount 83 = .ok (.iinc 3 1, 3) := by decide +kernel
theorem dX8_tellsCount_86 : decode cX8_tellsCount 86 = .ok (.goto (-30), 3) := by decide +kernel
theorem dX8_tellsCount_89 : decode cX8_tellsCount 89 = .ok (.iload_n 2, 1) := by decide +kernel
theorem dX8_tellsCount_90 : decode cX8_tellsCount 90 = .ok (.ireturn, 1) := by decide +kernel
theorem dX8_tellsCount_91 : decode cX8_tellsCount 91 = .ok (.aload_n 0, 1) := by decide +kernel
theorem dX8_tellsCount_92 : decode cX8_tellsCount 92 = .ok (.getfield 198, 3) := by decide +kernel
theorem dX8_tellsCount_95 : decode cX8_tellsCount 95 = .ok (.ireturn, 1) := by decide +kernel
theorem dX8_tellsCount_96 : decode cX8_tellsCount 96 = .ok (.iconst 0, 1) := by decide +kernel
theorem dX8_tellsCount_97 : decode cX8_tellsCount 97 = .ok (.istore_n 3, 1) := by decide +kernel
theorem dX8_tellsCount_98 : decode cX8_tellsCount 98 = .ok (.iload_n 3, 1) := by decide +kernel
theorem dX8_tellsCount_99 : decode cX8_tellsCount 99 = .ok (.aload_n 0, 1) := by decide +kernel
theorem dX8_tellsCount_100 : decode cX8_tellsCount 100 = .ok (.getfield 198, 3) := by decide +kernel
theorem dX8_tellsCount_103 : decode cX8_tellsCount 103 = .ok (.if_icmp .ge 28, 3) := by decide +kernel
theorem dX8_tellsCount_106 : decode cX8_tellsCount 106 = .ok (.iload_n 2, 1) := by decide +kernel
theorem dX8_tellsCount_107 : decode cX8_tellsCount 107 = .ok (.aload_n 0, 1) := by decide +kernel
theorem dX8_tellsCount_108 : decode cX8_tellsCount 108 = .ok (.getfield 68, 3) := by decide +kernel
theorem dX8_tellsCount_111 : decode cX8_tellsCount 111 = .ok (.iload_n 3, 1) := by decide +kernel
theorem dX8_tellsCount_112 : decode cX8_tellsCount 112 = .ok (.iaload, 1) := by decide +kernel
theorem dX8_tellsCount_113 : decode cX8_tellsCount 113 = .ok (.bipush (-9), 2) := by decide +kernel
theorem dX8_tellsCount_115 : decode cX8_tellsCount 115 = .ok (.if_icmp .ne 7, 3) := by decide +kernel
theorem dX8_tellsCount_118 : decode cX8_tellsCount 118 = .ok (.iconst 0, 1) := by decide +kernel
theorem dX8_tellsCount_119 : decode cX8_tellsCount 119 = .ok (.goto 4, 3) := by decide +kernel
theorem dX8_tellsCount_122 : decode cX8_tellsCount 122 = .ok (.iconst 1, 1) := by decide +kernel
theorem dX8_tellsCount_123 : decode cX8_tellsCount 123 = .ok (.iadd, 1) := by decide +kernel
theorem dX8_tellsCount_124 : decode cX8_tellsCount 124 = .ok (.istore_n 2, 1) := by decide +kernel
theorem dX8_tellsCount_125 : decode cX8_tellsCount 125 = .ok (.iinc 3 1, 3) := by decide +kernel
theorem dX8_tellsCount_128 : decode cX8_tellsCount 128 = .ok (.goto (-30), 3) := by decide +kernel
theorem dX8_tellsCount_131 : decode cX8_tellsCount 131 = .ok (.iload_n 2, 1) := by decide +kernel
theorem dX8_tellsCount_132 : decode cX8_tellsCount 132 = .ok (.ireturn, 1) := by decide +kernel
theorem dX8_tellsCount_133 : decode cX8_tellsCount 133 = .ok (.aload_n 0, 1) := by decide +kernel
theorem dX8_tellsCount_134 : decode cX8_tellsCount 134 = .ok (.getfield 230, 3) := by decide +kernel
theorem dX8_tellsCount_137 : decode cX8_tellsCount 137 = .ok (.ireturn, 1) := by decide +kernel
theorem dX8_tellsCount_138 : decode cX8_tellsCount 138 = .ok (.aload_n 0, 1) := by decide +kernel
theorem dX8_tellsCount_139 : decode cX8_tellsCount 139 = .ok (.getfield 233, 3) := by decide +kernel
theorem dX8_tellsCount_142 : decode cX8_tellsCount 142 = .ok (.ireturn, 1) := by decide +kernel
theorem dX8_tellsCount_143 : decode cX8_tellsCount 143 = .ok (.aload_n 0, 1) := by decide +kernel
theorem dX8_tellsCount_144 : decode cX8_tellsCount 144 = .ok (.getfield 243, 3) := by decide +kernel
theorem dX8_tellsCount_147 : decode cX8_tellsCount 147 = .ok (.ireturn, 1) := by decide +kernel
set_option maxRecDepth 20000 in
theorem ggX8_count_X8_in : GoodIn wsX8_count wsX8_in := goodIn_r _ [4] (by decide +kernel) (by decide +kernel)
set_option maxRecDepth 20000 in
theorem gX8_count_X8_in : GoodIn wsX8_count (va_wsS RX8 125 yX8_in wsX8_in) := goodIn_app (goodIn_of _ (by decide +kernel)) ggX8_count_X8_in
set_option maxRecDepth 20000 in
theorem ggX8_count_X8_tellsCount : GoodIn wsX8_count wsX8_tellsCount := goodIn_r _ [8, 9, 10, 11, 12, 13, 14, 15, 16, 17, 18, 19, 20, 21, 22, 23, 24, 25, 26, 27, 28, 29, 30, 31, 32, 33, 34, 35, 36, 37, 38, 39, 40, 41, 42, 43, 44, 45, 46, 47, 48, 49, 50, 51, 52, 53, 54, 55, 56, 57, 58, 59, 60, 61, 62, 63] (by decide +kernel) (by decide +kernel)
set_option maxRecDepth 20000 in
theorem gX8_count_X8_tellsCount : GoodIn wsX8_count (wsV RX8 250 RX8 yX8_tellsCount wsX8_tellsCount) := goodIn_app (goodIn_of _ (by decide +kernel)) ggX8_count_X8_tellsCount
theorem dX8_count_0 : decode cX8_count 0 = .ok (.iload_n 1, 1) := by decide +kernel
theorem dX8_count_1 : decode cX8_count 1 = .ok (.iconst 0, 1) := by decide +kernel
theorem dX8_count_2 : decode cX8_count 2 = .ok (.bipush 7, 2) := by decide +kernel
theorem dX8_count_4 : decode cX8_count 4 = .ok (.invokestatic 125, 3) := by decide +kernel
theorem dX8_count_7 : decode cX8_count 7 = .ok (.ifCond .eq 11, 3) := by decide +kernel
theorem dX8_count_10 : decode cX8_count 10 = .ok (.aload_n 0, 1) := by decide +kernel
theorem dX8_count_11 : decode cX8_count 11 = .ok (.iload_n 1, 1) := by decide +kernel
theorem dX8_count_12 : decode cX8_count 12 = .ok (.invokevirtual 250, 3) := by decide +kernel
theorem dX8_count_15 : decode cX8_count 15 = .ok (.goto 4, 3) := by decide +kernel
theorem dX8_count_18 : decode cX8_count 18 = .ok (.iconst (-1), 1) := by decide +kernel
theorem dX8_count_19 : decode cX8_count 19 = .ok (.ireturn, 1) := by decide +kernel
set_option maxRecDepth 20000 in
theorem ggX8_digest_X8_tellsCount : GoodIn wsX8_digest wsX8_tellsCount := goodIn_r _ [18, 19, 3, 20, 5, 10, 21, 22, 23, 65, 66, 67, 68, 69, 70, 71, 72, 73, 74, 75, 76, 77, 78, 79, 80, 81, 82, 83, 84, 85, 86, 87, 88, 89, 90, 91, 92, 93, 94, 95, 96, 97, 98, 99, 100, 101, 102, 103, 104, 105, 106, 107, 108, 109, 110, 111] (by decide +kernel) (by decide +kernel)
set_option maxRecDepth 20000 in
theorem gX8_digest_X8_tellsCount : GoodIn wsX8_digest (wsV RX8 250 RX8 yX8_tellsCount wsX8_tellsCount) := goodIn_app (goodIn_of _ (by decide +kernel)) ggX8_digest_X8_tellsCount
set_option maxRecDepth 20000 in
theorem ggX8_digest_X8_toldOf : GoodIn wsX8_digest wsX8_toldOf := goodIn_r _ [27, 28, 29, 30, 20, 31, 32, 33, 17, 34, 11, 35, 36, 37, 38, 39, 40, 41, 42, 43, 44, 45, 46, 47, 48, 49, 50, 12, 51, 52, 53, 54, 55, 56, 57, 58, 13, 59, 60, 61, 62, 63, 64, 65, 66, 67, 68, 69, 70, 71, 72, 73, 74, 75, 76, 77, 78, 79, 80, 81, 82, 83, 84, 85, 86, 87, 88, 89, 90, 91, 92, 93, 94, 95, 96, 97, 98, 99, 100, 101, 102, 103, 104, 105, 106, 107, 108, 109, 110, 111] (by decide +kernel) (by decide +kernel)
set_option maxRecDepth 20000 in
theorem gX8_digest_X8_toldOf : GoodIn wsX8_digest (wsV RX8 186 RX8 yX8_toldOf wsX8_toldOf) := goodIn_app (goodIn_of _ (by decide +kernel)) ggX8_digest_X8_toldOf
theorem dX8_digest_0 : decode cX8_digest 0 = .ok (.ldc2_w 253, 3) := by decide +kernel
theorem dX8_digest_3 : decode cX8_digest 3 = .ok (.lstore_n 1, 1) := by decide +kernel
theorem dX8_digest_4 : decode cX8_digest 4 = .ok (.iconst 0, 1) := by decide +kernel
theorem dX8_digest_5 : decode cX8_digest 5 = .ok (.istore_n 3, 1) := by decide +kernel
theorem dX8_digest_6 : decode cX8_digest 6 = .ok (.iload_n 3, 1) := by decide +kernel
theorem dX8_digest_7 : decode cX8_digest 7 = .ok (.bipush 8, 2) := by decide +kernel
theorem dX8_digest_9 : decode cX8_digest 9 = .ok (.if_icmp .ge 22, 3) := by decide +kernel
theorem dX8_digest_12 : decode cX8_digest 12 = .ok (.ldc2_w 255, 3) := by decide +kernel
theorem dX8_digest_15 : decode cX8_digest 15 = .ok (.lload_n 1, 1) := by decide +kernel
theorem dX8_digest_16 : decode cX8_digest 16 = .ok (.lmul, 1) := by decide +kernel
theorem dX8_digest_17 : decode cX8_digest 17 = .ok (.aload_n 0, 1) := by decide +kernel
theorem dX8_digest_18 : decode cX8_digest 18 = .ok (.iload_n 3, 1) := by decide +kernel
theorem dX8_digest_19 : decode cX8_digest 19 = .ok (.invokevirtual 250, 3) := by decide +kernel
theorem dX8_digest_22 : decode cX8_digest 22 = .ok (.i2l, 1) := by decide +kernel
theorem dX8_digest_23 : decode cX8_digest 23 = .ok (.ladd, 1) := by decide +kernel
theorem dX8_digest_24 : decode cX8_digest 24 = .ok (.lstore_n 1, 1) := by decide +kernel
theorem dX8_digest_25 : decode cX8_digest 25 = .ok (.iinc 3 1, 3) := by decide +kernel
theorem dX8_digest_28 : decode cX8_digest 28 = .ok (.goto (-22), 3) := by decide +kernel
theorem dX8_digest_31 : decode cX8_digest 31 = .ok (.iconst 0, 1) := by decide +kernel
theorem dX8_digest_32 : decode cX8_digest 32 = .ok (.istore_n 3, 1) := by decide +kernel
theorem dX8_digest_33 : decode cX8_digest 33 = .ok (.iload_n 3, 1) := by decide +kernel
theorem dX8_digest_34 : decode cX8_digest 34 = .ok (.aload_n 0, 1) := by decide +kernel
theorem dX8_digest_35 : decode cX8_digest 35 = .ok (.getfield 167, 3) := by decide +kernel
theorem dX8_digest_38 : decode cX8_digest 38 = .ok (.if_icmp .ge 40, 3) := by decide +kernel
theorem dX8_digest_41 : decode cX8_digest 41 = .ok (.iconst 0, 1) := by decide +kernel
theorem dX8_digest_42 : decode cX8_digest 42 = .ok (.istore 4, 2) := by decide +kernel
theorem dX8_digest_44 : decode cX8_digest 44 = .ok (.iload 4, 2) := by decide +kernel
theorem dX8_digest_46 : decode cX8_digest 46 = .ok (.bipush 6, 2) := by decide +kernel
theorem dX8_digest_48 : decode cX8_digest 48 = .ok (.if_icmp .ge 24, 3) := by decide +kernel
theorem dX8_digest_51 : decode cX8_digest 51 = .ok (.ldc2_w 255, 3) := by decide +kernel
theorem dX8_digest_54 : decode cX8_digest 54 = .ok (.lload_n 1, 1) := by decide +kernel
theorem dX8_digest_55 : decode cX8_digest 55 = .ok (.lmul, 1) := by decide +kernel
theorem dX8_digest_56 : decode cX8_digest 56 = .ok (.aload_n 0, 1) := by decide +kernel
theorem dX8_digest_57 : decode cX8_digest 57 = .ok (.iload_n 3, 1) := by decide +kernel
theorem dX8_digest_58 : decode cX8_digest 58 = .ok (.iload 4, 2) := by decide +kernel
theorem dX8_digest_60 : decode cX8_digest 60 = .ok (.invokevirtual 186, 3) := by decide +kernel
theorem dX8_digest_63 : decode cX8_digest 63 = .ok (.i2l, 1) := by decide +kernel
theorem dX8_digest_64 : decode cX8_digest 64 = .ok (.ladd, 1) := by decide +kernel
theorem dX8_digest_65 : decode cX8_digest 65 = .ok (.lstore_n 1, 1) := by decide +kernel
theorem dX8_digest_66 : decode cX8_digest 66 = .ok (.iinc 4 1, 3) := by decide +kernel
theorem dX8_digest_69 : decode cX8_digest 69 = .ok (.goto (-25), 3) := by decide +kernel
theorem dX8_digest_72 : decode cX8_digest 72 = .ok (.iinc 3 1, 3) := by decide +kernel
theorem dX8_digest_75 : decode cX8_digest 75 = .ok (.goto (-42), 3) := by decide +kernel
theorem dX8_digest_78 : decode cX8_digest 78 = .ok (.iconst 0, 1) := by decide +kernel
theorem dX8_digest_79 : decode cX8_digest 79 = .ok (.istore_n 3, 1) := by decide +kernel
theorem dX8_digest_80 : decode cX8_digest 80 = .ok (.iload_n 3, 1) := by decide +kernel
theorem dX8_digest_81 : decode cX8_digest 81 = .ok (.iconst 4, 1) := by decide +kernel
theorem dX8_digest_82 : decode cX8_digest 82 = .ok (.if_icmp .ge 23, 3) := by decide +kernel
theorem dX8_digest_85 : decode cX8_digest 85 = .ok (.ldc2_w 255, 3) := by decide +kernel
theorem dX8_digest_88 : decode cX8_digest 88 = .ok (.lload_n 1, 1) := by decide +kernel
theorem dX8_digest_89 : decode cX8_digest 89 = .ok (.lmul, 1) := by decide +kernel
theorem dX8_digest_90 : decode cX8_digest 90 = .ok (.aload_n 0, 1) := by decide +kernel
theorem dX8_digest_91 : decode cX8_digest 91 = .ok (.getfield 53, 3) := by decide +kernel
theorem dX8_digest_94 : decode cX8_digest 94 = .ok (.iload_n 3, 1) := by decide +kernel
theorem dX8_digest_95 : decode cX8_digest 95 = .ok (.iaload, 1) := by decide +kernel
theorem dX8_digest_96 : decode cX8_digest 96 = .ok (.i2l, 1) := by decide +kernel
theorem dX8_digest_97 : decode cX8_digest 97 = .ok (.ladd, 1) := by decide +kernel
theorem dX8_digest_98 : decode cX8_digest 98 = .ok (.lstore_n 1, 1) := by decide +kernel
theorem dX8_digest_99 : decode cX8_digest 99 = .ok (.iinc 3 1, 3) := by decide +kernel
theorem dX8_digest_102 : decode cX8_digest 102 = .ok (.goto (-22), 3) := by decide +kernel
theorem dX8_digest_105 : decode cX8_digest 105 = .ok (.iconst 0, 1) := by decide +kernel
theorem dX8_digest_106 : decode cX8_digest 106 = .ok (.istore_n 3, 1) := by decide +kernel
theorem dX8_digest_107 : decode cX8_digest 107 = .ok (.iload_n 3, 1) := by decide +kernel
theorem dX8_digest_108 : decode cX8_digest 108 = .ok (.aload_n 0, 1) := by decide +kernel
theorem dX8_digest_109 : decode cX8_digest 109 = .ok (.getfield 198, 3) := by decide +kernel
theorem dX8_digest_112 : decode cX8_digest 112 = .ok (.if_icmp .ge 95, 3) := by decide +kernel
theorem dX8_digest_115 : decode cX8_digest 115 = .ok (.ldc2_w 255, 3) := by decide +kernel
theorem dX8_digest_118 : decode cX8_digest 118 = .ok (.ldc2_w 255, 3) := by decide +kernel
theorem dX8_digest_121 : decode cX8_digest 121 = .ok (.ldc2_w 255, 3) := by decide +kernel
theorem dX8_digest_124 : decode cX8_digest 124 = .ok (.lload_n 1, 1) := by decide +kernel
theorem dX8_digest_125 : decode cX8_digest 125 = .ok (.lmul, 1) := by decide +kernel
theorem dX8_digest_126 : decode cX8_digest 126 = .ok (.aload_n 0, 1) := by decide +kernel
theorem dX8_digest_127 : decode cX8_digest 127 = .ok (.getfield 56, 3) := by decide +kernel
theorem dX8_digest_130 : decode cX8_digest 130 = .ok (.iload_n 3, 1) := by decide +kernel
theorem dX8_digest_131 : decode cX8_digest 131 = .ok (.iaload, 1) := by decide +kernel
theorem dX8_digest_132 : decode cX8_digest 132 = .ok (.i2l, 1) := by decide +kernel
theorem dX8_digest_133 : decode cX8_digest 133 = .ok (.ladd, 1) := by decide +kernel
theorem dX8_digest_134 : decode cX8_digest 134 = .ok (.lmul, 1) := by decide +kernel
theorem dX8_digest_135 : decode cX8_digest 135 = .ok (.aload_n 0, 1) := by decide +kernel
theorem dX8_digest_136 : decode cX8_digest 136 = .ok (.getfield 59, 3) := by decide +kernel
theorem dX8_digest_139 : decode cX8_digest 139 = .ok (.iload_n 3, 1) := by decide +kernel
theorem dX8_digest_140 : decode cX8_digest 140 = .ok (.iaload, 1) := by decide +kernel
theorem dX8_digest_141 : decode cX8_digest 141 = .ok (.i2l, 1) := by decide +kernel
theorem dX8_digest_142 : decode cX8_digest 142 = .ok (.ladd, 1) := by decide +kernel
theorem dX8_digest_143 : decode cX8_digest 143 = .ok (.lmul, 1) := by decide +kernel
theorem dX8_digest_144 : decode cX8_digest 144 = .ok (.aload_n 0, 1) := by decide +kernel
theorem dX8_digest_145 : decode cX8_digest 145 = .ok (.getfield 62, 3) := by decide +kernel
theorem dX8_digest_148 : decode cX8_digest 148 = .ok (.iload_n 3, 1) := by decide +kernel
theorem dX8_digest_149 : decode cX8_digest 149 = .ok (.iaload, 1) := by decide +kernel
theorem dX8_digest_150 : decode cX8_digest 150 = .ok (.i2l, 1) := by decide +kernel
theorem dX8_digest_151 : decode cX8_digest 151 = .ok (.ladd, 1) := by decide +kernel
theorem dX8_digest_152 : decode cX8_digest 152 = .ok (.lstore_n 1, 1) := by decide +kernel
theorem dX8_digest_153 : decode cX8_digest 153 = .ok (.iconst 0, 1) := by decide +kernel
theorem dX8_digest_154 : decode cX8_digest 154 = .ok (.istore 4, 2) := by decide +kernel
theorem dX8_digest_156 : decode cX8_digest 156 = .ok (.iload 4, 2) := by decide +kernel
theorem dX8_digest_158 : decode cX8_digest 158 = .ok (.iconst 4, 1) := by decide +kernel
theorem dX8_digest_159 : decode cX8_digest 159 = .ok (.if_icmp .ge 28, 3) := by decide +kernel
theorem dX8_digest_162 : decode cX8_digest 162 = .ok (.ldc2_w 255, 3) := by decide +kernel
theorem dX8_digest_165 : decode cX8_digest 165 = .ok (.lload_n 1, 1) := by decide +kernel
theorem dX8_digest_166 : decode cX8_digest 166 = .ok (.lmul, 1) := by decide +kernel
theorem dX8_digest_167 : decode cX8_digest 167 = .ok (.aload_n 0, 1) := by decide +kernel
theorem dX8_digest_168 : decode cX8_digest 168 = .ok (.getfield 65, 3) := by decide +kernel
theorem dX8_digest_171 : decode cX8_digest 171 = .ok (.iconst 4, 1) := by decide +kernel
theorem dX8_digest_172 : decode cX8_digest 172 = .ok (.iload_n 3, 1) := by decide +kernel
theorem dX8_digest_173 : decode cX8_digest 173 = .ok (.imul, 1) := by decide +kernel
theorem dX8_digest_174 : decode cX8_digest 174 = .ok (.iload 4, 2) := by decide +kernel
theorem dX8_digest_176 : decode cX8_digest 176 = .ok (.iadd, 1) := by decide +kernel
theorem dX8_digest_177 : decode cX8_digest 177 = .ok (.iaload, 1) := by decide +kernel
theorem dX8_digest_178 : decode cX8_digest 178 = .ok (.i2l, 1) := by decide +kernel
theorem dX8_digest_179 : decode cX8_digest 179 = .ok (.ladd, 1) := by decide +kernel
theorem dX8_digest_180 : decode cX8_digest 180 = .ok (.lstore_n 1, 1) := by decide +kernel
theorem dX8_digest_181 : decode cX8_digest 181 = .ok (.iinc 4 1, 3) := by decide +kernel
theorem dX8_digest_184 : decode cX8_digest 184 = .ok (.goto (-28), 3) := by decide +kernel
theorem dX8_digest_187 : decode cX8_digest 187 = .ok (.ldc2_w 255, 3) := by decide +kernel
theorem dX8_digest_190 : decode cX8_digest 190 = .ok (.lload_n 1, 1) := by decide +kernel
theorem dX8_digest_191 : decode cX8_digest 191 = .ok (.lmul, 1) := by decide +kernel
theorem dX8_digest_192 : decode cX8_digest 192 = .ok (.aload_n 0, 1) := by decide +kernel
theorem dX8_digest_193 : decode cX8_digest 193 = .ok (.getfield 68, 3) := by decide +kernel
theorem dX8_digest_196 : decode cX8_digest 196 = .ok (.iload_n 3, 1) := by decide +kernel
theorem dX8_digest_197 : decode cX8_digest 197 = .ok (.iaload, 1) := by decide +kernel
theorem dX8_digest_198 : decode cX8_digest 198 = .ok (.i2l, 1) := by decide +kernel
theorem dX8_digest_199 : decode cX8_digest 199 = .ok (.ladd, 1) := by decide +kernel
theorem dX8_digest_200 : decode cX8_digest 200 = .ok (.lstore_n 1, 1) := by decide +kernel
theorem dX8_digest_201 : decode cX8_digest 201 = .ok (.iinc 3 1, 3) := by decide +kernel
theorem dX8_digest_204 : decode cX8_digest 204 = .ok (.goto (-97), 3) := by decide +kernel
theorem dX8_digest_207 : decode cX8_digest 207 = .ok (.iconst 0, 1) := by decide +kernel
theorem dX8_digest_208 : decode cX8_digest 208 = .ok (.istore_n 3, 1) := by decide +kernel
theorem dX8_digest_209 : decode cX8_digest 209 = .ok (.iload_n 3, 1) := by decide +kernel
theorem dX8_digest_210 : decode cX8_digest 210 = .ok (.bipush 10, 2) := by decide +kernel
theorem dX8_digest_212 : decode cX8_digest 212 = .ok (.if_icmp .ge 23, 3) := by decide +kernel
theorem dX8_digest_215 : decode cX8_digest 215 = .ok (.ldc2_w 255, 3) := by decide +kernel
theorem dX8_digest_218 : decode cX8_digest 218 = .ok (.lload_n 1, 1) := by decide +kernel
theorem dX8_digest_219 : decode cX8_digest 219 = .ok (.lmul, 1) := by decide +kernel
theorem dX8_digest_220 : decode cX8_digest 220 = .ok (.aload_n 0, 1) := by decide +kernel
theorem dX8_digest_221 : decode cX8_digest 221 = .ok (.getfield 23, 3) := by decide +kernel
theorem dX8_digest_224 : decode cX8_digest 224 = .ok (.iload_n 3, 1) := by decide +kernel
theorem dX8_digest_225 : decode cX8_digest 225 = .ok (.iaload, 1) := by decide +kernel
theorem dX8_digest_226 : decode cX8_digest 226 = .ok (.i2l, 1) := by decide +kernel
theorem dX8_digest_227 : decode cX8_digest 227 = .ok (.ladd, 1) := by decide +kernel
theorem dX8_digest_228 : decode cX8_digest 228 = .ok (.lstore_n 1, 1) := by decide +kernel
theorem dX8_digest_229 : decode cX8_digest 229 = .ok (.iinc 3 1, 3) := by decide +kernel
theorem dX8_digest_232 : decode cX8_digest 232 = .ok (.goto (-23), 3) := by decide +kernel
theorem dX8_digest_235 : decode cX8_digest 235 = .ok (.iconst 0, 1) := by decide +kernel
theorem dX8_digest_236 : decode cX8_digest 236 = .ok (.istore_n 3, 1) := by decide +kernel
theorem dX8_digest_237 : decode cX8_digest 237 = .ok (.iload_n 3, 1) := by decide +kernel
theorem dX8_digest_238 : decode cX8_digest 238 = .ok (.bipush 6, 2) := by decide +kernel
theorem dX8_digest_240 : decode cX8_digest 240 = .ok (.if_icmp .ge 63, 3) := by decide +kernel
theorem dX8_digest_243 : decode cX8_digest 243 = .ok (.ldc2_w 255, 3) := by decide +kernel
theorem dX8_digest_246 : decode cX8_digest 246 = .ok (.lload_n 1, 1) := by decide +kernel
theorem dX8_digest_247 : decode cX8_digest 247 = .ok (.lmul, 1) := by decide +kernel
theorem dX8_digest_248 : decode cX8_digest 248 = .ok (.aload_n 0, 1) := by decide +kernel
theorem dX8_digest_249 : decode cX8_digest 249 = .ok (.getfield 13, 3) := by decide +kernel
theorem dX8_digest_252 : decode cX8_digest 252 = .ok (.iload_n 3, 1) := by decide +kernel
theorem dX8_digest_253 : decode cX8_digest 253 = .ok (.iaload, 1) := by decide +kernel
theorem dX8_digest_254 : decode cX8_digest 254 = .ok (.i2l, 1) := by decide +kernel
theorem dX8_digest_255 : decode cX8_digest 255 = .ok (.ladd, 1) := by decide +kernel
theorem dX8_digest_256 : decode cX8_digest 256 = .ok (.lstore_n 1, 1) := by decide +kernel
theorem dX8_digest_257 : decode cX8_digest 257 = .ok (.iconst 0, 1) := by decide +kernel
theorem dX8_digest_258 : decode cX8_digest 258 = .ok (.istore 4, 2) := by decide +kernel
theorem dX8_digest_260 : decode cX8_digest 260 = .ok (.iload 4, 2) := by decide +kernel
theorem dX8_digest_262 : decode cX8_digest 262 = .ok (.aload_n 0, 1) := by decide +kernel
theorem dX8_digest_263 : decode cX8_digest 263 = .ok (.getfield 13, 3) := by decide +kernel
theorem dX8_digest_266 : decode cX8_digest 266 = .ok (.iload_n 3, 1) := by decide +kernel
theorem dX8_digest_267 : decode cX8_digest 267 = .ok (.iaload, 1) := by decide +kernel
theorem dX8_digest_268 : decode cX8_digest 268 = .ok (.if_icmp .ge 29, 3) := by decide +kernel
theorem dX8_digest_271 : decode cX8_digest 271 = .ok (.ldc2_w 255, 3) := by decide +kernel
theorem dX8_digest_274 : decode cX8_digest 274 = .ok (.lload_n 1, 1) := by decide +kernel
theorem dX8_digest_275 : decode cX8_digest 275 = .ok (.lmul, 1) := by decide +kernel
theorem dX8_digest_276 : decode cX8_digest 276 = .ok (.aload_n 0, 1) := by decide +kernel
theorem dX8_digest_277 : decode cX8_digest 277 = .ok (.getfield 16, 3) := by decide +kernel
theorem dX8_digest_280 : decode cX8_digest 280 = .ok (.bipush 40, 2) := by decide +kernel
theorem dX8_digest_282 : decode cX8_digest 282 = .ok (.iload_n 3, 1) := by decide +kernel
theorem dX8_digest_283 : decode cX8_digest 283 = .ok (.imul, 1) := by decide +kernel
theorem dX8_digest_284 : decode cX8_digest 284 = .ok (.iload 4, 2) := by decide +kernel
theorem dX8_digest_286 : decode cX8_digest 286 = .ok (.iadd, 1) := by decide +kernel
theorem dX8_digest_287 : decode cX8_digest 287 = .ok (.baload, 1) := by decide +kernel
theorem dX8_digest_288 : decode cX8_digest 288 = .ok (.i2l, 1) := by decide +kernel
theorem dX8_digest_289 : decode cX8_digest 289 = .ok (.ladd, 1) := by decide +kernel
theorem dX8_digest_290 : decode cX8_digest 290 = .ok (.lstore_n 1, 1) := by decide +kernel
theorem dX8_digest_291 : decode cX8_digest 291 = .ok (.iinc 4 1, 3) := by decide +kernel
theorem dX8_digest_294 : decode cX8_digest 294 = .ok (.goto (-34), 3) := by decide +kernel
theorem dX8_digest_297 : decode cX8_digest 297 = .ok (.iinc 3 1, 3) := by decide +kernel
theorem dX8_digest_300 : decode cX8_digest 300 = .ok (.goto (-63), 3) := by decide +kernel
theorem dX8_digest_303 : decode cX8_digest 303 = .ok (.lload_n 1, 1) := by decide +kernel
theorem dX8_digest_304 : decode cX8_digest 304 = .ok (.lreturn, 1) := by decide +kernel
end
