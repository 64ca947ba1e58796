def start2.args0 : Array Value := #[.ref 0]
def start2.cells0 : Array Value := #[.int 30, .int 30, .int 30, .int 30, .int 30, .int 30, .int 30, .int 30, .int 30, .int 30, .int 30, .int 30, .int 30, .int 30, .int 30, .int 30, .int 30, .int 30, .int 30, .int 30, .int 30, .int 30, .int 30, .int 30, .int 30, .int 30, .int 30, .int 30, .int 30, .int 30, .int 30, .int 30, .int 30, .int 30, .int 30, .int 30, .int 30, .int 30, .int 30, .int 30, .int 30, .int 30, .int 30, .int 30, .int 30, .int 30, .int 30, .int 30, .int 30, .int 30, .int 30, .int 30, .int 30, .int 30, .int 30, .int 30, .int 30, .int 30, .int 30, .int 30, .int 30, .int 30, .int 30, .int 30, .int 30, .int 30, .int 30, .int 30, .int 30, .int 30, .int 30, .int 30, .int 30, .int 30, .int 30, .int 30, .int 30, .int 30, .int 30, .int 30, .int 30, .int 30, .int 30, .int 30, .int 30, .int 30, .int 30, .int 30, .int 30, .int 30, .int 30, .int 30, .int 30, .int 30, .int 30, .int 30, .int 30, .int 30, .int 30, .int 30, .int 30, .int 30, .int 30, .int 30, .int 30, .int 30, .int 30, .int 30, .int 30, .int 30, .int 30, .int 30, .int 30, .int 30, .int 30, .int 30, .int 30, .int 30, .int 30, .int 30, .int 30, .int 30, .int 30, .int 30, .int 30, .int 30, .int 30, .int 30, .int 30, .int 30]
def start2.about : State := start1.aboutOf start2.cells0
def start2.p0 : Program := .bare "" "" ""
def start2.e0 : Env := launch0.env 0 0 0
set_option maxRecDepth 16384 in
theorem start2.word_code : (Cond.code x code maxLocals ret).before args0 about = true := su_hand_word (m := ⟨0, 0⟩) (by decide +kernel) rfl (by decide +kernel) (by decide +kernel)
set_option maxRecDepth 16384 in
theorem start2.su_all_split {α : Type} (p : α → Bool) (n : Nat) (l : List α) (h1 : (l.take n).all p = true) (h2 : (l.drop n).all p = true) : l.all p = true := by
  apply List.all_eq_true.mpr
  intro x hx
  have hx' : x ∈ l.take n ++ l.drop n := by rw [List.take_append_drop]; exact hx
  rcases List.mem_append.mp hx' with h | h
  · exact List.all_eq_true.mp h1 x h
  · exact List.all_eq_true.mp h2 x h

set_option maxRecDepth 16384 in
theorem start2.code0 : (Jvm.Cond.code (⟨"Quorumfund", "<init>", "()V"⟩ : Jvm.MethodName) prog_1_method_1_code 2 none).before args0 about = true :=
  su_hand_word (m := ⟨2, 0⟩) (by decide +kernel) rfl (by decide +kernel) (by decide +kernel)
set_option maxRecDepth 16384 in
theorem start2.code1 : (Jvm.Cond.code (⟨"java/lang/Object", "<init>", "()V"⟩ : Jvm.MethodName) object_method_1_code 1 none).before args0 about = true :=
  su_hand_word (m := ⟨1, 0⟩) (by decide +kernel) rfl (by decide +kernel) (by decide +kernel)
set_option maxRecDepth 16384 in
theorem start2.code2 : (Jvm.Cond.code (⟨"Quorumfund", "in", "(I)I"⟩ : Jvm.MethodName) prog_1_method_6_code 2 (some .int)).before args0 about = true :=
  su_hand_word (m := ⟨2, 5⟩) (by decide +kernel) rfl (by decide +kernel) (by decide +kernel)
set_option maxRecDepth 16384 in
theorem start2.code3 : (Jvm.Cond.code (⟨"Quorumfund", "requireGiver", "(I)V"⟩ : Jvm.MethodName) prog_1_method_23_code 1 none).before args0 about = true :=
  su_hand_word (m := ⟨2, 22⟩) (by decide +kernel) rfl (by decide +kernel) (by decide +kernel)
set_option maxRecDepth 16384 in
theorem start2.code4 : (Jvm.Cond.code (⟨"Quorumfund", "isGiver", "(I)Z"⟩ : Jvm.MethodName) prog_1_method_22_code 1 (some .boolean)).before args0 about = true :=
  su_hand_word (m := ⟨2, 21⟩) (by decide +kernel) rfl (by decide +kernel) (by decide +kernel)
set_option maxRecDepth 16384 in
theorem start2.code5 : (Jvm.Cond.code (⟨"java/lang/Throwable", "<init>", "()V"⟩ : Jvm.MethodName) prog_12_method_1_code 1 none).before args0 about = true :=
  su_hand_word (m := ⟨5, 0⟩) (by decide +kernel) rfl (by decide +kernel) (by decide +kernel)
set_option maxRecDepth 16384 in
theorem start2.code6 : (Jvm.Cond.code (⟨"java/lang/IndexOutOfBoundsException", "<init>", "(Ljava/lang/String;)V"⟩ : Jvm.MethodName) prog_8_method_2_code 2 none).before args0 about = true :=
  su_hand_word (m := ⟨9, 0⟩) (by decide +kernel) rfl (by decide +kernel) (by decide +kernel)
set_option maxRecDepth 16384 in
theorem start2.code7 : (Jvm.Cond.code (⟨"java/lang/RuntimeException", "<init>", "(Ljava/lang/String;)V"⟩ : Jvm.MethodName) prog_10_method_2_code 2 none).before args0 about = true :=
  su_hand_word (m := ⟨8, 1⟩) (by decide +kernel) rfl (by decide +kernel) (by decide +kernel)
set_option maxRecDepth 16384 in
theorem start2.code8 : (Jvm.Cond.code (⟨"java/lang/Exception", "<init>", "(Ljava/lang/String;)V"⟩ : Jvm.MethodName) prog_5_method_2_code 2 none).before args0 about = true :=
  su_hand_word (m := ⟨7, 1⟩) (by decide +kernel) rfl (by decide +kernel) (by decide +kernel)
set_option maxRecDepth 16384 in
theorem start2.code9 : (Jvm.Cond.code (⟨"java/lang/Throwable", "<init>", "(Ljava/lang/String;)V"⟩ : Jvm.MethodName) prog_12_method_2_code 2 none).before args0 about = true :=
  su_hand_word (m := ⟨5, 1⟩) (by decide +kernel) rfl (by decide +kernel) (by decide +kernel)
set_option maxRecDepth 16384 in
theorem start2.code10 : (Jvm.Cond.code (⟨"Quorumfund", "pot", "()I"⟩ : Jvm.MethodName) prog_1_method_10_code 1 (some .int)).before args0 about = true :=
  su_hand_word (m := ⟨2, 9⟩) (by decide +kernel) rfl (by decide +kernel) (by decide +kernel)
set_option maxRecDepth 16384 in
theorem start2.code11 : (Jvm.Cond.code (⟨"Quorumfund", "current", "()I"⟩ : Jvm.MethodName) prog_1_method_13_code 1 (some .int)).before args0 about = true :=
  su_hand_word (m := ⟨2, 12⟩) (by decide +kernel) rfl (by decide +kernel) (by decide +kernel)
set_option maxRecDepth 16384 in
theorem start2.code12 : (Jvm.Cond.code (⟨"QuorumfundLaw", "dice", "([II)I"⟩ : Jvm.MethodName) method_2_code 2 (some .int)).before args0 about = true :=
  su_hand_word (m := ⟨0, 1⟩) (by decide +kernel) rfl (by decide +kernel) (by decide +kernel)
set_option maxRecDepth 16384 in
theorem start2.code13 : (Jvm.Cond.code (⟨"Quorumfund", "give", "(II)I"⟩ : Jvm.MethodName) prog_1_method_2_code 3 (some .int)).before args0 about = true :=
  su_hand_word (m := ⟨2, 1⟩) (by decide +kernel) rfl (by decide +kernel) (by decide +kernel)
set_option maxRecDepth 16384 in
theorem start2.code14 : (Jvm.Cond.code (⟨"Quorumfund", "requireAmount", "(II)V"⟩ : Jvm.MethodName) prog_1_method_24_code 2 none).before args0 about = true :=
  su_hand_word (m := ⟨2, 23⟩) (by decide +kernel) rfl (by decide +kernel) (by decide +kernel)
set_option maxRecDepth 16384 in
theorem start2.code15 : (Jvm.Cond.code (⟨"java/lang/IllegalArgumentException", "<init>", "(Ljava/lang/String;)V"⟩ : Jvm.MethodName) prog_6_method_2_code 2 none).before args0 about = true :=
  su_hand_word (m := ⟨10, 0⟩) (by decide +kernel) rfl (by decide +kernel) (by decide +kernel)
set_option maxRecDepth 16384 in
theorem start2.code16 : (Jvm.Cond.code (⟨"java/lang/IllegalStateException", "<init>", "(Ljava/lang/String;)V"⟩ : Jvm.MethodName) prog_7_method_2_code 2 none).before args0 about = true :=
  su_hand_word (m := ⟨12, 0⟩) (by decide +kernel) rfl (by decide +kernel) (by decide +kernel)
set_option maxRecDepth 16384 in
theorem start2.code17 : (Jvm.Cond.code (⟨"Quorumfund", "leave", "(I)I"⟩ : Jvm.MethodName) prog_1_method_3_code 3 (some .int)).before args0 about = true :=
  su_hand_word (m := ⟨2, 2⟩) (by decide +kernel) rfl (by decide +kernel) (by decide +kernel)
set_option maxRecDepth 16384 in
theorem start2.code18 : (Jvm.Cond.code (⟨"Quorumfund", "trust", "(II)I"⟩ : Jvm.MethodName) prog_1_method_4_code 4 (some .int)).before args0 about = true :=
  su_hand_word (m := ⟨2, 3⟩) (by decide +kernel) rfl (by decide +kernel) (by decide +kernel)
set_option maxRecDepth 16384 in
theorem start2.code19 : (Jvm.Cond.code (⟨"Quorumfund", "leadsTo", "(II)Z"⟩ : Jvm.MethodName) prog_1_method_25_code 5 (some .boolean)).before args0 about = true :=
  su_hand_word (m := ⟨2, 24⟩) (by decide +kernel) rfl (by decide +kernel) (by decide +kernel)
set_option maxRecDepth 16384 in
theorem start2.code20 : (Jvm.Cond.code (⟨"Quorumfund", "setPerson", "(II)I"⟩ : Jvm.MethodName) prog_1_method_5_code 4 (some .int)).before args0 about = true :=
  su_hand_word (m := ⟨2, 4⟩) (by decide +kernel) rfl (by decide +kernel) (by decide +kernel)
set_option maxRecDepth 16384 in
theorem start2.code21 : (Jvm.Cond.code (⟨"Quorumfund", "fillPot", "(I)I"⟩ : Jvm.MethodName) prog_1_method_9_code 2 (some .int)).before args0 about = true :=
  su_hand_word (m := ⟨2, 8⟩) (by decide +kernel) rfl (by decide +kernel) (by decide +kernel)
set_option maxRecDepth 16384 in
theorem start2.code22 : (Jvm.Cond.code (⟨"Quorumfund", "addMilestone", "(I)I"⟩ : Jvm.MethodName) prog_1_method_11_code 2 (some .int)).before args0 about = true :=
  su_hand_word (m := ⟨2, 10⟩) (by decide +kernel) rfl (by decide +kernel) (by decide +kernel)
set_option maxRecDepth 16384 in
theorem start2.code23 : (Jvm.Cond.code (⟨"Quorumfund", "prove", "(I)Z"⟩ : Jvm.MethodName) prog_1_method_12_code 2 (some .boolean)).before args0 about = true :=
  su_hand_word (m := ⟨2, 11⟩) (by decide +kernel) rfl (by decide +kernel) (by decide +kernel)

set_option maxRecDepth 16384 in
theorem start2.codes_are_1 : tables_1_1.filter su_isCode = [Jvm.Cond.code (⟨"Quorumfund", "<init>", "()V"⟩ : Jvm.MethodName) prog_1_method_1_code 2 none,
    Jvm.Cond.code (⟨"java/lang/Object", "<init>", "()V"⟩ : Jvm.MethodName) object_method_1_code 1 none,
    Jvm.Cond.code (⟨"Quorumfund", "in", "(I)I"⟩ : Jvm.MethodName) prog_1_method_6_code 2 (some .int),
    Jvm.Cond.code (⟨"Quorumfund", "requireGiver", "(I)V"⟩ : Jvm.MethodName) prog_1_method_23_code 1 none,
    Jvm.Cond.code (⟨"Quorumfund", "isGiver", "(I)Z"⟩ : Jvm.MethodName) prog_1_method_22_code 1 (some .boolean),
    Jvm.Cond.code (⟨"java/lang/Throwable", "<init>", "()V"⟩ : Jvm.MethodName) prog_12_method_1_code 1 none,
    Jvm.Cond.code (⟨"java/lang/IndexOutOfBoundsException", "<init>", "(Ljava/lang/String;)V"⟩ : Jvm.MethodName) prog_8_method_2_code 2 none,
    Jvm.Cond.code (⟨"java/lang/RuntimeException", "<init>", "(Ljava/lang/String;)V"⟩ : Jvm.MethodName) prog_10_method_2_code 2 none,
    Jvm.Cond.code (⟨"java/lang/Exception", "<init>", "(Ljava/lang/String;)V"⟩ : Jvm.MethodName) prog_5_method_2_code 2 none,
    Jvm.Cond.code (⟨"java/lang/Throwable", "<init>", "(Ljava/lang/String;)V"⟩ : Jvm.MethodName) prog_12_method_2_code 2 none,
    Jvm.Cond.code (⟨"Quorumfund", "pot", "()I"⟩ : Jvm.MethodName) prog_1_method_10_code 1 (some .int),
    Jvm.Cond.code (⟨"Quorumfund", "current", "()I"⟩ : Jvm.MethodName) prog_1_method_13_code 1 (some .int),
    Jvm.Cond.code (⟨"QuorumfundLaw", "dice", "([II)I"⟩ : Jvm.MethodName) method_2_code 2 (some .int),
    Jvm.Cond.code (⟨"Quorumfund", "give", "(II)I"⟩ : Jvm.MethodName) prog_1_method_2_code 3 (some .int),
    Jvm.Cond.code (⟨"Quorumfund", "requireAmount", "(II)V"⟩ : Jvm.MethodName) prog_1_method_24_code 2 none,
    Jvm.Cond.code (⟨"java/lang/IllegalArgumentException", "<init>", "(Ljava/lang/String;)V"⟩ : Jvm.MethodName) prog_6_method_2_code 2 none,
    Jvm.Cond.code (⟨"java/lang/IllegalStateException", "<init>", "(Ljava/lang/String;)V"⟩ : Jvm.MethodName) prog_7_method_2_code 2 none,
    Jvm.Cond.code (⟨"Quorumfund", "leave", "(I)I"⟩ : Jvm.MethodName) prog_1_method_3_code 3 (some .int),
    Jvm.Cond.code (⟨"Quorumfund", "trust", "(II)I"⟩ : Jvm.MethodName) prog_1_method_4_code 4 (some .int),
    Jvm.Cond.code (⟨"Quorumfund", "leadsTo", "(II)Z"⟩ : Jvm.MethodName) prog_1_method_25_code 5 (some .boolean),
    Jvm.Cond.code (⟨"Quorumfund", "setPerson", "(II)I"⟩ : Jvm.MethodName) prog_1_method_5_code 4 (some .int),
    Jvm.Cond.code (⟨"Quorumfund", "fillPot", "(I)I"⟩ : Jvm.MethodName) prog_1_method_9_code 2 (some .int),
    Jvm.Cond.code (⟨"Quorumfund", "addMilestone", "(I)I"⟩ : Jvm.MethodName) prog_1_method_11_code 2 (some .int),
    Jvm.Cond.code (⟨"Quorumfund", "prove", "(I)Z"⟩ : Jvm.MethodName) prog_1_method_12_code 2 (some .boolean)] := by
  first
  | rfl
  | simp only [tables_1_1, List.filter, su_isCode]
set_option maxRecDepth 16384 in
theorem start2.codes_hold_1 : ∀ c ∈ tables_1_1.filter su_isCode, c.before args0 about = true := by
  rw [codes_are_1]
  exact List.forall_mem_cons.mpr ⟨code0, List.forall_mem_cons.mpr ⟨code1, List.forall_mem_cons.mpr ⟨code2, List.forall_mem_cons.mpr ⟨code3, List.forall_mem_cons.mpr ⟨code4, List.forall_mem_cons.mpr ⟨code5, List.forall_mem_cons.mpr ⟨code6, List.forall_mem_cons.mpr ⟨code7, List.forall_mem_cons.mpr ⟨code8, List.forall_mem_cons.mpr ⟨code9, List.forall_mem_cons.mpr ⟨code10, List.forall_mem_cons.mpr ⟨code11, List.forall_mem_cons.mpr ⟨code12, List.forall_mem_cons.mpr ⟨code13, List.forall_mem_cons.mpr ⟨code14, List.forall_mem_cons.mpr ⟨code15, List.forall_mem_cons.mpr ⟨code16, List.forall_mem_cons.mpr ⟨code17, List.forall_mem_cons.mpr ⟨code18, List.forall_mem_cons.mpr ⟨code19, List.forall_mem_cons.mpr ⟨code20, List.forall_mem_cons.mpr ⟨code21, List.forall_mem_cons.mpr ⟨code22, List.forall_mem_cons.mpr ⟨code23, List.forall_mem_nil _⟩⟩⟩⟩⟩⟩⟩⟩⟩⟩⟩⟩⟩⟩⟩⟩⟩⟩⟩⟩⟩⟩⟩⟩
set_option maxRecDepth 16384 in
theorem start2.others_1_0 : (tables_1_1.take 40).all (fun c => su_isCode c || c.before args0 about) = true := by decide +kernel
set_option maxRecDepth 16384 in
theorem start2.others_1_1 : ((tables_1_1.drop 40).take 40).all (fun c => su_isCode c || c.before args0 about) = true := by decide +kernel
set_option maxRecDepth 16384 in
theorem start2.others_1_2 : (((tables_1_1.drop 40).drop 40).take 40).all (fun c => su_isCode c || c.before args0 about) = true := by decide +kernel
set_option maxRecDepth 16384 in
theorem start2.others_1_3 : ((((tables_1_1.drop 40).drop 40).drop 40).take 40).all (fun c => su_isCode c || c.before args0 about) = true := by decide +kernel
set_option maxRecDepth 16384 in
theorem start2.others_1_4 : (((((tables_1_1.drop 40).drop 40).drop 40).drop 40).take 40).all (fun c => su_isCode c || c.before args0 about) = true := by decide +kernel
set_option maxRecDepth 16384 in
theorem start2.others_1_5 : (((((tables_1_1.drop 40).drop 40).drop 40).drop 40).drop 40).all (fun c => su_isCode c || c.before args0 about) = true := by decide +kernel
set_option maxRecDepth 16384 in
theorem start2.others_hold_1 : tables_1_1.all (fun c => su_isCode c || c.before args0 about) = true := su_all_split _ 40 tables_1_1 others_1_0 (su_all_split _ 40 (tables_1_1.drop 40) others_1_1 (su_all_split _ 40 ((tables_1_1.drop 40).drop 40) others_1_2 (su_all_split _ 40 (((tables_1_1.drop 40).drop 40).drop 40) others_1_3 (su_all_split _ 40 ((((tables_1_1.drop 40).drop 40).drop 40).drop 40) others_1_4 others_1_5))))
set_option maxRecDepth 16384 in
theorem start2.words_1 : ∀ c ∈ tables_1_1, c.before args0 about = true := fun c h => su_words others_hold_1 codes_hold_1 c h

set_option maxRecDepth 16384 in
theorem start2.code24 : (Jvm.Cond.code (⟨"Quorumfund", "vote", "(II)I"⟩ : Jvm.MethodName) prog_1_method_14_code 4 (some .int)).before args0 about = true :=
  su_hand_word (m := ⟨2, 13⟩) (by decide +kernel) rfl (by decide +kernel) (by decide +kernel)
set_option maxRecDepth 16384 in
theorem start2.code25 : (Jvm.Cond.code (⟨"Quorumfund", "release", "()I"⟩ : Jvm.MethodName) prog_1_method_20_code 3 (some .int)).before args0 about = true :=
  su_hand_word (m := ⟨2, 19⟩) (by decide +kernel) rfl (by decide +kernel) (by decide +kernel)
set_option maxRecDepth 16384 in
theorem start2.code26 : (Jvm.Cond.code (⟨"Quorumfund", "isCovered", "()Z"⟩ : Jvm.MethodName) prog_1_method_29_code 1 (some .boolean)).before args0 about = true :=
  su_hand_word (m := ⟨2, 28⟩) (by decide +kernel) rfl (by decide +kernel) (by decide +kernel)
set_option maxRecDepth 16384 in
theorem start2.code27 : (Jvm.Cond.code (⟨"Quorumfund", "total", "()I"⟩ : Jvm.MethodName) prog_1_method_8_code 3 (some .int)).before args0 about = true :=
  su_hand_word (m := ⟨2, 7⟩) (by decide +kernel) rfl (by decide +kernel) (by decide +kernel)
set_option maxRecDepth 16384 in
theorem start2.code28 : (Jvm.Cond.code (⟨"Quorumfund", "weight", "(I)I"⟩ : Jvm.MethodName) prog_1_method_16_code 4 (some .int)).before args0 about = true :=
  su_hand_word (m := ⟨2, 15⟩) (by decide +kernel) rfl (by decide +kernel) (by decide +kernel)
set_option maxRecDepth 16384 in
theorem start2.code29 : (Jvm.Cond.code (⟨"Quorumfund", "heardVote", "(I)I"⟩ : Jvm.MethodName) prog_1_method_27_code 3 (some .int)).before args0 about = true :=
  su_hand_word (m := ⟨2, 26⟩) (by decide +kernel) rfl (by decide +kernel) (by decide +kernel)
set_option maxRecDepth 16384 in
theorem start2.code30 : (Jvm.Cond.code (⟨"Quorumfund", "firstVoterFrom", "(I)I"⟩ : Jvm.MethodName) prog_1_method_26_code 4 (some .int)).before args0 about = true :=
  su_hand_word (m := ⟨2, 25⟩) (by decide +kernel) rfl (by decide +kernel) (by decide +kernel)
set_option maxRecDepth 16384 in
theorem start2.code31 : (Jvm.Cond.code (⟨"Quorumfund", "currentMatch", "()I"⟩ : Jvm.MethodName) prog_1_method_34_code 2 (some .int)).before args0 about = true :=
  su_hand_word (m := ⟨2, 33⟩) (by decide +kernel) rfl (by decide +kernel) (by decide +kernel)
set_option maxRecDepth 16384 in
theorem start2.code32 : (Jvm.Cond.code (⟨"Quorumfund", "findShares", "(I)V"⟩ : Jvm.MethodName) prog_1_method_31_code 5 none).before args0 about = true :=
  su_hand_word (m := ⟨2, 30⟩) (by decide +kernel) rfl (by decide +kernel) (by decide +kernel)
set_option maxRecDepth 16384 in
theorem start2.code33 : (Jvm.Cond.code (⟨"Quorumfund", "roundedPart", "(III)I"⟩ : Jvm.MethodName) prog_1_method_32_code 3 (some .int)).before args0 about = true :=
  su_hand_word (m := ⟨2, 31⟩) (by decide +kernel) rfl (by decide +kernel) (by decide +kernel)
set_option maxRecDepth 16384 in
theorem start2.code34 : (Jvm.Cond.code (⟨"Quorumfund", "findRoots", "()V"⟩ : Jvm.MethodName) prog_1_method_35_code 2 none).before args0 about = true :=
  su_hand_word (m := ⟨2, 34⟩) (by decide +kernel) rfl (by decide +kernel) (by decide +kernel)
set_option maxRecDepth 16384 in
theorem start2.code35 : (Jvm.Cond.code (⟨"Quorumfund", "partOf", "(I)I"⟩ : Jvm.MethodName) prog_1_method_36_code 4 (some .int)).before args0 about = true :=
  su_hand_word (m := ⟨2, 35⟩) (by decide +kernel) rfl (by decide +kernel) (by decide +kernel)
set_option maxRecDepth 16384 in
theorem start2.code36 : (Jvm.Cond.code (⟨"Quorumfund", "rootOf", "(I)I"⟩ : Jvm.MethodName) prog_1_method_37_code 4 (some .int)).before args0 about = true :=
  su_hand_word (m := ⟨2, 36⟩) (by decide +kernel) rfl (by decide +kernel) (by decide +kernel)
set_option maxRecDepth 16384 in
theorem start2.code37 : (Jvm.Cond.code (⟨"Quorumfund", "squareOfSum", "()I"⟩ : Jvm.MethodName) prog_1_method_38_code 3 (some .int)).before args0 about = true :=
  su_hand_word (m := ⟨2, 37⟩) (by decide +kernel) rfl (by decide +kernel) (by decide +kernel)
set_option maxRecDepth 16384 in
theorem start2.code38 : (Jvm.Cond.code (⟨"Quorumfund", "withinPot", "(I)I"⟩ : Jvm.MethodName) prog_1_method_40_code 2 (some .int)).before args0 about = true :=
  su_hand_word (m := ⟨2, 39⟩) (by decide +kernel) rfl (by decide +kernel) (by decide +kernel)
set_option maxRecDepth 16384 in
theorem start2.code39 : (Jvm.Cond.code (⟨"java/lang/Math", "max", "(II)I"⟩ : Jvm.MethodName) prog_9_method_65_code 2 (some .int)).before args0 about = true :=
  su_hand_word (m := ⟨3, 0⟩) (by decide +kernel) rfl (by decide +kernel) (by decide +kernel)
set_option maxRecDepth 16384 in
theorem start2.code40 : (Jvm.Cond.code (⟨"java/lang/Math", "min", "(II)I"⟩ : Jvm.MethodName) prog_9_method_69_code 2 (some .int)).before args0 about = true :=
  su_hand_word (m := ⟨3, 1⟩) (by decide +kernel) rfl (by decide +kernel) (by decide +kernel)
set_option maxRecDepth 16384 in
theorem start2.code41 : (Jvm.Cond.code (⟨"Quorumfund", "payShares", "()V"⟩ : Jvm.MethodName) prog_1_method_33_code 2 none).before args0 about = true :=
  su_hand_word (m := ⟨2, 32⟩) (by decide +kernel) rfl (by decide +kernel) (by decide +kernel)
set_option maxRecDepth 16384 in
theorem start2.code42 : (Jvm.Cond.code (⟨"Quorumfund", "clearVotes", "()V"⟩ : Jvm.MethodName) prog_1_method_28_code 2 none).before args0 about = true :=
  su_hand_word (m := ⟨2, 27⟩) (by decide +kernel) rfl (by decide +kernel) (by decide +kernel)
set_option maxRecDepth 16384 in
theorem start2.code43 : (Jvm.Cond.code (⟨"QuorumfundLaw", "areSums", "(LQuorumfund;[I)Z"⟩ : Jvm.MethodName) method_6_code 6 (some .boolean)).before args0 about = true :=
  su_hand_word (m := ⟨0, 5⟩) (by decide +kernel) rfl (by decide +kernel) (by decide +kernel)
set_option maxRecDepth 16384 in
theorem start2.code44 : (Jvm.Cond.code (⟨"Quorumfund", "inByBook", "(I)I"⟩ : Jvm.MethodName) prog_1_method_7_code 2 (some .int)).before args0 about = true :=
  su_hand_word (m := ⟨2, 6⟩) (by decide +kernel) rfl (by decide +kernel) (by decide +kernel)
set_option maxRecDepth 16384 in
theorem start2.code45 : (Jvm.Cond.code (⟨"Quorumfund", "out", "()I"⟩ : Jvm.MethodName) prog_1_method_21_code 1 (some .int)).before args0 about = true :=
  su_hand_word (m := ⟨2, 20⟩) (by decide +kernel) rfl (by decide +kernel) (by decide +kernel)
set_option maxRecDepth 16384 in
theorem start2.code46 : (Jvm.Cond.code (⟨"QuorumfundLaw", "areSpeakers", "(LQuorumfund;[I)Z"⟩ : Jvm.MethodName) method_7_code 8 (some .boolean)).before args0 about = true :=
  su_hand_word (m := ⟨0, 6⟩) (by decide +kernel) rfl (by decide +kernel) (by decide +kernel)
set_option maxRecDepth 16384 in
theorem start2.code47 : (Jvm.Cond.code (⟨"Quorumfund", "speaker", "(I)I"⟩ : Jvm.MethodName) prog_1_method_15_code 2 (some .int)).before args0 about = true :=
  su_hand_word (m := ⟨2, 14⟩) (by decide +kernel) rfl (by decide +kernel) (by decide +kernel)
set_option maxRecDepth 16384 in
theorem start2.code48 : (Jvm.Cond.code (⟨"QuorumfundLaw", "areShares", "(LQuorumfund;[I[I[I[I)Z"⟩ : Jvm.MethodName) method_8_code 15 (some .boolean)).before args0 about = true :=
  su_hand_word (m := ⟨0, 7⟩) (by decide +kernel) rfl (by decide +kernel) (by decide +kernel)
set_option maxRecDepth 16384 in
theorem start2.code49 : (Jvm.Cond.code (⟨"Quorumfund", "share", "(I)I"⟩ : Jvm.MethodName) prog_1_method_17_code 2 (some .int)).before args0 about = true :=
  su_hand_word (m := ⟨2, 16⟩) (by decide +kernel) rfl (by decide +kernel) (by decide +kernel)
set_option maxRecDepth 16384 in
theorem start2.code50 : (Jvm.Cond.code (⟨"Quorumfund", "requireCovered", "()V"⟩ : Jvm.MethodName) prog_1_method_30_code 1 none).before args0 about = true :=
  su_hand_word (m := ⟨2, 29⟩) (by decide +kernel) rfl (by decide +kernel) (by decide +kernel)
set_option maxRecDepth 16384 in
theorem start2.code51 : (Jvm.Cond.code (⟨"java/util/NoSuchElementException", "<init>", "(Ljava/lang/String;)V"⟩ : Jvm.MethodName) prog_13_method_4_code 2 none).before args0 about = true :=
  su_hand_word (m := ⟨11, 0⟩) (by decide +kernel) rfl (by decide +kernel) (by decide +kernel)
set_option maxRecDepth 16384 in
theorem start2.code52 : (Jvm.Cond.code (⟨"Quorumfund", "match", "()I"⟩ : Jvm.MethodName) prog_1_method_18_code 1 (some .int)).before args0 about = true :=
  su_hand_word (m := ⟨2, 17⟩) (by decide +kernel) rfl (by decide +kernel) (by decide +kernel)
set_option maxRecDepth 16384 in
theorem start2.code53 : (Jvm.Cond.code (⟨"Quorumfund", "matchByPairs", "()I"⟩ : Jvm.MethodName) prog_1_method_19_code 2 (some .int)).before args0 about = true :=
  su_hand_word (m := ⟨2, 18⟩) (by decide +kernel) rfl (by decide +kernel) (by decide +kernel)
set_option maxRecDepth 16384 in
theorem start2.code54 : (Jvm.Cond.code (⟨"Quorumfund", "squareByPairs", "()I"⟩ : Jvm.MethodName) prog_1_method_39_code 4 (some .int)).before args0 about = true :=
  su_hand_word (m := ⟨2, 38⟩) (by decide +kernel) rfl (by decide +kernel) (by decide +kernel)
set_option maxRecDepth 16384 in
theorem start2.code55 : (Jvm.Cond.code (⟨"QuorumfundLaw", "isMatch", "(LQuorumfund;[I[II)Z"⟩ : Jvm.MethodName) method_9_code 9 (some .boolean)).before args0 about = true :=
  su_hand_word (m := ⟨0, 8⟩) (by decide +kernel) rfl (by decide +kernel) (by decide +kernel)
set_option maxRecDepth 16384 in
theorem start2.code56 : (Jvm.Cond.code (⟨"QuorumfundLaw", "isRefused", "(LQuorumfund;[II)Z"⟩ : Jvm.MethodName) method_10_code 12 (some .boolean)).before args0 about = true :=
  su_hand_word (m := ⟨0, 9⟩) (by decide +kernel) rfl (by decide +kernel) (by decide +kernel)
set_option maxRecDepth 16384 in
theorem start2.code57 : (Jvm.Cond.code (⟨"QuorumfundLaw", "all", "(LQuorumfund;)J"⟩ : Jvm.MethodName) method_5_code 4 (some .long)).before args0 about = true :=
  su_hand_word (m := ⟨0, 4⟩) (by decide +kernel) rfl (by decide +kernel) (by decide +kernel)
set_option maxRecDepth 16384 in
theorem start2.code58 : (Jvm.Cond.code (⟨"QuorumfundLaw", "isTrusted", "(LQuorumfund;[III)Z"⟩ : Jvm.MethodName) method_11_code 7 (some .boolean)).before args0 about = true :=
  su_hand_word (m := ⟨0, 10⟩) (by decide +kernel) rfl (by decide +kernel) (by decide +kernel)
set_option maxRecDepth 16384 in
theorem start2.code59 : (Jvm.Cond.code (⟨"QuorumfundLaw", "isReleased", "(LQuorumfund;[I[I[I)Z"⟩ : Jvm.MethodName) method_12_code 11 (some .boolean)).before args0 about = true :=
  su_hand_word (m := ⟨0, 11⟩) (by decide +kernel) rfl (by decide +kernel) (by decide +kernel)

set_option maxRecDepth 16384 in
theorem start2.codes_are_2 : tables_1_2.filter su_isCode = [Jvm.Cond.code (⟨"Quorumfund", "vote", "(II)I"⟩ : Jvm.MethodName) prog_1_method_14_code 4 (some .int),
    Jvm.Cond.code (⟨"Quorumfund", "release", "()I"⟩ : Jvm.MethodName) prog_1_method_20_code 3 (some .int),
    Jvm.Cond.code (⟨"Quorumfund", "isCovered", "()Z"⟩ : Jvm.MethodName) prog_1_method_29_code 1 (some .boolean),
    Jvm.Cond.code (⟨"Quorumfund", "total", "()I"⟩ : Jvm.MethodName) prog_1_method_8_code 3 (some .int),
    Jvm.Cond.code (⟨"Quorumfund", "weight", "(I)I"⟩ : Jvm.MethodName) prog_1_method_16_code 4 (some .int),
    Jvm.Cond.code (⟨"Quorumfund", "heardVote", "(I)I"⟩ : Jvm.MethodName) prog_1_method_27_code 3 (some .int),
    Jvm.Cond.code (⟨"Quorumfund", "firstVoterFrom", "(I)I"⟩ : Jvm.MethodName) prog_1_method_26_code 4 (some .int),
    Jvm.Cond.code (⟨"Quorumfund", "currentMatch", "()I"⟩ : Jvm.MethodName) prog_1_method_34_code 2 (some .int),
    Jvm.Cond.code (⟨"Quorumfund", "findShares", "(I)V"⟩ : Jvm.MethodName) prog_1_method_31_code 5 none,
    Jvm.Cond.code (⟨"Quorumfund", "roundedPart", "(III)I"⟩ : Jvm.MethodName) prog_1_method_32_code 3 (some .int),
    Jvm.Cond.code (⟨"Quorumfund", "findRoots", "()V"⟩ : Jvm.MethodName) prog_1_method_35_code 2 none,
    Jvm.Cond.code (⟨"Quorumfund", "partOf", "(I)I"⟩ : Jvm.MethodName) prog_1_method_36_code 4 (some .int),
    Jvm.Cond.code (⟨"Quorumfund", "rootOf", "(I)I"⟩ : Jvm.MethodName) prog_1_method_37_code 4 (some .int),
    Jvm.Cond.code (⟨"Quorumfund", "squareOfSum", "()I"⟩ : Jvm.MethodName) prog_1_method_38_code 3 (some .int),
    Jvm.Cond.code (⟨"Quorumfund", "withinPot", "(I)I"⟩ : Jvm.MethodName) prog_1_method_40_code 2 (some .int),
    Jvm.Cond.code (⟨"java/lang/Math", "max", "(II)I"⟩ : Jvm.MethodName) prog_9_method_65_code 2 (some .int),
    Jvm.Cond.code (⟨"java/lang/Math", "min", "(II)I"⟩ : Jvm.MethodName) prog_9_method_69_code 2 (some .int),
    Jvm.Cond.code (⟨"Quorumfund", "payShares", "()V"⟩ : Jvm.MethodName) prog_1_method_33_code 2 none,
    Jvm.Cond.code (⟨"Quorumfund", "clearVotes", "()V"⟩ : Jvm.MethodName) prog_1_method_28_code 2 none,
    Jvm.Cond.code (⟨"QuorumfundLaw", "areSums", "(LQuorumfund;[I)Z"⟩ : Jvm.MethodName) method_6_code 6 (some .boolean),
    Jvm.Cond.code (⟨"Quorumfund", "inByBook", "(I)I"⟩ : Jvm.MethodName) prog_1_method_7_code 2 (some .int),
    Jvm.Cond.code (⟨"Quorumfund", "out", "()I"⟩ : Jvm.MethodName) prog_1_method_21_code 1 (some .int),
    Jvm.Cond.code (⟨"QuorumfundLaw", "areSpeakers", "(LQuorumfund;[I)Z"⟩ : Jvm.MethodName) method_7_code 8 (some .boolean),
    Jvm.Cond.code (⟨"Quorumfund", "speaker", "(I)I"⟩ : Jvm.MethodName) prog_1_method_15_code 2 (some .int),
    Jvm.Cond.code (⟨"QuorumfundLaw", "areShares", "(LQuorumfund;[I[I[I[I)Z"⟩ : Jvm.MethodName) method_8_code 15 (some .boolean),
    Jvm.Cond.code (⟨"Quorumfund", "share", "(I)I"⟩ : Jvm.MethodName) prog_1_method_17_code 2 (some .int),
    Jvm.Cond.code (⟨"Quorumfund", "requireCovered", "()V"⟩ : Jvm.MethodName) prog_1_method_30_code 1 none,
    Jvm.Cond.code (⟨"java/util/NoSuchElementException", "<init>", "(Ljava/lang/String;)V"⟩ : Jvm.MethodName) prog_13_method_4_code 2 none,
    Jvm.Cond.code (⟨"Quorumfund", "match", "()I"⟩ : Jvm.MethodName) prog_1_method_18_code 1 (some .int),
    Jvm.Cond.code (⟨"Quorumfund", "matchByPairs", "()I"⟩ : Jvm.MethodName) prog_1_method_19_code 2 (some .int),
    Jvm.Cond.code (⟨"Quorumfund", "squareByPairs", "()I"⟩ : Jvm.MethodName) prog_1_method_39_code 4 (some .int),
    Jvm.Cond.code (⟨"QuorumfundLaw", "isMatch", "(LQuorumfund;[I[II)Z"⟩ : Jvm.MethodName) method_9_code 9 (some .boolean),
    Jvm.Cond.code (⟨"QuorumfundLaw", "isRefused", "(LQuorumfund;[II)Z"⟩ : Jvm.MethodName) method_10_code 12 (some .boolean),
    Jvm.Cond.code (⟨"QuorumfundLaw", "all", "(LQuorumfund;)J"⟩ : Jvm.MethodName) method_5_code 4 (some .long),
    Jvm.Cond.code (⟨"QuorumfundLaw", "isTrusted", "(LQuorumfund;[III)Z"⟩ : Jvm.MethodName) method_11_code 7 (some .boolean),
    Jvm.Cond.code (⟨"QuorumfundLaw", "isReleased", "(LQuorumfund;[I[I[I)Z"⟩ : Jvm.MethodName) method_12_code 11 (some .boolean)] := by
  first
  | rfl
  | simp only [tables_1_2, List.filter, su_isCode]
set_option maxRecDepth 16384 in
theorem start2.codes_hold_2 : ∀ c ∈ tables_1_2.filter su_isCode, c.before args0 about = true := by
  rw [codes_are_2]
  exact List.forall_mem_cons.mpr ⟨code24, List.forall_mem_cons.mpr ⟨code25, List.forall_mem_cons.mpr ⟨code26, List.forall_mem_cons.mpr ⟨code27, List.forall_mem_cons.mpr ⟨code28, List.forall_mem_cons.mpr ⟨code29, List.forall_mem_cons.mpr ⟨code30, List.forall_mem_cons.mpr ⟨code31, List.forall_mem_cons.mpr ⟨code32, List.forall_mem_cons.mpr ⟨code33, List.forall_mem_cons.mpr ⟨code34, List.forall_mem_cons.mpr ⟨code35, List.forall_mem_cons.mpr ⟨code36, List.forall_mem_cons.mpr ⟨code37, List.forall_mem_cons.mpr ⟨code38, List.forall_mem_cons.mpr ⟨code39, List.forall_mem_cons.mpr ⟨code40, List.forall_mem_cons.mpr ⟨code41, List.forall_mem_cons.mpr ⟨code42, List.forall_mem_cons.mpr ⟨code43, List.forall_mem_cons.mpr ⟨code44, List.forall_mem_cons.mpr ⟨code45, List.forall_mem_cons.mpr ⟨code46, List.forall_mem_cons.mpr ⟨code47, List.forall_mem_cons.mpr ⟨code48, List.forall_mem_cons.mpr ⟨code49, List.forall_mem_cons.mpr ⟨code50, List.forall_mem_cons.mpr ⟨code51, List.forall_mem_cons.mpr ⟨code52, List.forall_mem_cons.mpr ⟨code53, List.forall_mem_cons.mpr ⟨code54, List.forall_mem_cons.mpr ⟨code55, List.forall_mem_cons.mpr ⟨code56, List.forall_mem_cons.mpr ⟨code57, List.forall_mem_cons.mpr ⟨code58, List.forall_mem_cons.mpr ⟨code59, List.forall_mem_nil _⟩⟩⟩⟩⟩⟩⟩⟩⟩⟩⟩⟩⟩⟩⟩⟩⟩⟩⟩⟩⟩⟩⟩⟩⟩⟩⟩⟩⟩⟩⟩⟩⟩⟩⟩⟩
set_option maxRecDepth 16384 in
theorem start2.others_2_0 : (tables_1_2.take 40).all (fun c => su_isCode c || c.before args0 about) = true := by decide +kernel
set_option maxRecDepth 16384 in
theorem start2.others_2_1 : ((tables_1_2.drop 40).take 40).all (fun c => su_isCode c || c.before args0 about) = true := by decide +kernel
set_option maxRecDepth 16384 in
theorem start2.others_2_2 : (((tables_1_2.drop 40).drop 40).take 40).all (fun c => su_isCode c || c.before args0 about) = true := by decide +kernel
set_option maxRecDepth 16384 in
theorem start2.others_2_3 : ((((tables_1_2.drop 40).drop 40).drop 40).take 40).all (fun c => su_isCode c || c.before args0 about) = true := by decide +kernel
set_option maxRecDepth 16384 in
theorem start2.others_2_4 : ((((tables_1_2.drop 40).drop 40).drop 40).drop 40).all (fun c => su_isCode c || c.before args0 about) = true := by decide +kernel
set_option maxRecDepth 16384 in
theorem start2.others_hold_2 : tables_1_2.all (fun c => su_isCode c || c.before args0 about) = true := su_all_split _ 40 tables_1_2 others_2_0 (su_all_split _ 40 (tables_1_2.drop 40) others_2_1 (su_all_split _ 40 ((tables_1_2.drop 40).drop 40) others_2_2 (su_all_split _ 40 (((tables_1_2.drop 40).drop 40).drop 40) others_2_3 others_2_4)))
set_option maxRecDepth 16384 in
theorem start2.words_2 : ∀ c ∈ tables_1_2, c.before args0 about = true := fun c h => su_words others_hold_2 codes_hold_2 c h
set_option maxRecDepth 16384 in
theorem start2.words : ∀ c ∈ (Cond.code x code maxLocals ret :: tables_1), c.before args0 about = true := by
  intro c hc
  rcases List.mem_cons.mp hc with h | h
  · rw [h]; exact word_code
  · have h1 : c ∈ tables_1_1 ++ tables_1_2 := h
    rcases List.mem_append.mp h1 with h2 | h1
    · exact words_1 c h2
    exact words_2 c h1
set_option maxRecDepth 16384 in
theorem start2.atStart : AtStart classFile x code maxLocals ret World_1 tables_1 room_1 Calls_1 rest_1 Pre_1 launch0 p0 e0 about ⟨0, 0⟩ args0 Lib.HandBits.below0 :=
  ⟨lists_1, trivial, launch0.admits_env _ _ _, launch0.least_env, fairChoices_fair.cas, fairChoices_fair.clock, rfl, by decide +kernel, by decide +kernel,
    (Spec.applies_iff rfl).mpr ⟨rfl, rfl, rfl, by decide +kernel, by decide +kernel, by decide +kernel, launch0.hasRoom_least _ room_1 (by decide +kernel) (by decide +kernel) (by decide +kernel) (by decide +kernel) (by decide +kernel) (by decide +kernel), atoms_intro words⟩,
    trivial, (show rest_1_c.before args0 about = true by decide +kernel), (show (Cond.and given_1 narrow_1).before args0 about = true by decide +kernel)⟩
