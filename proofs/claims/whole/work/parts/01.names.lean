-- ===== PART A: goes FIRST, ahead of the names: the tables' words, and 'selects' of the private methods out of them =====
/-- a private method of a class that the tables say can be made, by its rows of tables_1 -/
def lw_okq (q : MethodName × Nat) : Prop := (q.1.cls ≠ "java/lang/invoke/MethodHandle" ∧ q.1.cls ≠ "java/lang/invoke/VarHandle") ∧ Cond.instantiable q.1.cls q.2 ∈ tables_1 ∧ Cond.privateMethod q.1 ∈ tables_1 ∧ Cond.instanceMethod q.1 ∈ tables_1
theorem lw_p0 : lw_okq (⟨"SpringFarms", "liveDay", "()I"⟩, 12) := ⟨⟨by decide +kernel, by decide +kernel⟩, List.mem_of_getElem? (i := 11) (by decide +kernel), List.mem_of_getElem? (i := 250) (by decide +kernel), List.mem_of_getElem? (i := 251) (by decide +kernel)⟩
theorem lw_p1 : lw_okq (⟨"SpringFarms", "allHaveIn", "(I)Z"⟩, 12) := ⟨⟨by decide +kernel, by decide +kernel⟩, List.mem_of_getElem? (i := 11) (by decide +kernel), List.mem_of_getElem? (i := 359) (by decide +kernel), List.mem_of_getElem? (i := 360) (by decide +kernel)⟩
theorem lw_p2 : lw_okq (⟨"SpringFarms", "takenIfBoredAt", "(III)I"⟩, 12) := ⟨⟨by decide +kernel, by decide +kernel⟩, List.mem_of_getElem? (i := 11) (by decide +kernel), List.mem_of_getElem? (i := 375) (by decide +kernel), List.mem_of_getElem? (i := 376) (by decide +kernel)⟩
theorem lw_p3 : lw_okq (⟨"SpringFarms", "isFair", "(I)Z"⟩, 12) := ⟨⟨by decide +kernel, by decide +kernel⟩, List.mem_of_getElem? (i := 11) (by decide +kernel), List.mem_of_getElem? (i := 388) (by decide +kernel), List.mem_of_getElem? (i := 389) (by decide +kernel)⟩
theorem lw_p4 : lw_okq (⟨"SpringFarms", "findLeaks", "()V"⟩, 12) := ⟨⟨by decide +kernel, by decide +kernel⟩, List.mem_of_getElem? (i := 11) (by decide +kernel), List.mem_of_getElem? (i := 412) (by decide +kernel), List.mem_of_getElem? (i := 413) (by decide +kernel)⟩
theorem lw_p5 : lw_okq (⟨"SpringFarms", "fitsIf", "(III)Z"⟩, 12) := ⟨⟨by decide +kernel, by decide +kernel⟩, List.mem_of_getElem? (i := 11) (by decide +kernel), List.mem_of_getElem? (i := 416) (by decide +kernel), List.mem_of_getElem? (i := 417) (by decide +kernel)⟩
theorem lw_p6 : lw_okq (⟨"SpringFarms", "note", "(I)V"⟩, 12) := ⟨⟨by decide +kernel, by decide +kernel⟩, List.mem_of_getElem? (i := 11) (by decide +kernel), List.mem_of_getElem? (i := 420) (by decide +kernel), List.mem_of_getElem? (i := 421) (by decide +kernel)⟩
theorem lw_p7 : lw_okq (⟨"SpringFarms", "tallyTaken", "()V"⟩, 12) := ⟨⟨by decide +kernel, by decide +kernel⟩, List.mem_of_getElem? (i := 11) (by decide +kernel), List.mem_of_getElem? (i := 424) (by decide +kernel), List.mem_of_getElem? (i := 425) (by decide +kernel)⟩
theorem lw_p8 : lw_okq (⟨"SpringFarms", "foundAt", "(I)I"⟩, 12) := ⟨⟨by decide +kernel, by decide +kernel⟩, List.mem_of_getElem? (i := 11) (by decide +kernel), List.mem_of_getElem? (i := 428) (by decide +kernel), List.mem_of_getElem? (i := 429) (by decide +kernel)⟩
theorem lw_p9 : lw_okq (⟨"SpringFarms", "mostLeft", "(I)I"⟩, 12) := ⟨⟨by decide +kernel, by decide +kernel⟩, List.mem_of_getElem? (i := 11) (by decide +kernel), List.mem_of_getElem? (i := 440) (by decide +kernel), List.mem_of_getElem? (i := 441) (by decide +kernel)⟩
theorem lw_p10 : lw_okq (⟨"SpringFarms", "gather", "(I)I"⟩, 12) := ⟨⟨by decide +kernel, by decide +kernel⟩, List.mem_of_getElem? (i := 11) (by decide +kernel), List.mem_of_getElem? (i := 454) (by decide +kernel), List.mem_of_getElem? (i := 455) (by decide +kernel)⟩
theorem lw_p11 : lw_okq (⟨"SpringFarms", "weighRows", "(I)I"⟩, 12) := ⟨⟨by decide +kernel, by decide +kernel⟩, List.mem_of_getElem? (i := 11) (by decide +kernel), List.mem_of_getElem? (i := 458) (by decide +kernel), List.mem_of_getElem? (i := 459) (by decide +kernel)⟩
theorem lw_p12 : lw_okq (⟨"SpringFarms", "isAtRest", "(II)Z"⟩, 12) := ⟨⟨by decide +kernel, by decide +kernel⟩, List.mem_of_getElem? (i := 11) (by decide +kernel), List.mem_of_getElem? (i := 469) (by decide +kernel), List.mem_of_getElem? (i := 470) (by decide +kernel)⟩
theorem lw_p13 : lw_okq (⟨"SpringFarms", "toldOfFarm", "(I)I"⟩, 12) := ⟨⟨by decide +kernel, by decide +kernel⟩, List.mem_of_getElem? (i := 11) (by decide +kernel), List.mem_of_getElem? (i := 519) (by decide +kernel), List.mem_of_getElem? (i := 520) (by decide +kernel)⟩
theorem lw_p14 : lw_okq (⟨"SpringFarmsModel", "begin", "(I)V"⟩, 32) := ⟨⟨by decide +kernel, by decide +kernel⟩, List.mem_of_getElem? (i := 523) (by decide +kernel), List.mem_of_getElem? (i := 529) (by decide +kernel), List.mem_of_getElem? (i := 530) (by decide +kernel)⟩
theorem lw_p15 : lw_okq (⟨"SpringFarmsModel", "isFarm", "(I)Z"⟩, 32) := ⟨⟨by decide +kernel, by decide +kernel⟩, List.mem_of_getElem? (i := 523) (by decide +kernel), List.mem_of_getElem? (i := 646) (by decide +kernel), List.mem_of_getElem? (i := 647) (by decide +kernel)⟩
def lw_privs_1 : List (MethodName × Nat) := [(⟨"SpringFarms", "liveDay", "()I"⟩, 12), (⟨"SpringFarms", "allHaveIn", "(I)Z"⟩, 12), (⟨"SpringFarms", "takenIfBoredAt", "(III)I"⟩, 12), (⟨"SpringFarms", "isFair", "(I)Z"⟩, 12), (⟨"SpringFarms", "findLeaks", "()V"⟩, 12), (⟨"SpringFarms", "fitsIf", "(III)Z"⟩, 12), (⟨"SpringFarms", "note", "(I)V"⟩, 12), (⟨"SpringFarms", "tallyTaken", "()V"⟩, 12), (⟨"SpringFarms", "foundAt", "(I)I"⟩, 12), (⟨"SpringFarms", "mostLeft", "(I)I"⟩, 12), (⟨"SpringFarms", "gather", "(I)I"⟩, 12), (⟨"SpringFarms", "weighRows", "(I)I"⟩, 12), (⟨"SpringFarms", "isAtRest", "(II)Z"⟩, 12), (⟨"SpringFarms", "toldOfFarm", "(I)I"⟩, 12), (⟨"SpringFarmsModel", "begin", "(I)V"⟩, 32), (⟨"SpringFarmsModel", "isFarm", "(I)Z"⟩, 32)]
theorem lw_r1 : ∀ q ∈ lw_privs_1, lw_okq q := List.forall_mem_cons.mpr ⟨lw_p0, List.forall_mem_cons.mpr ⟨lw_p1, List.forall_mem_cons.mpr ⟨lw_p2, List.forall_mem_cons.mpr ⟨lw_p3, List.forall_mem_cons.mpr ⟨lw_p4, List.forall_mem_cons.mpr ⟨lw_p5, List.forall_mem_cons.mpr ⟨lw_p6, List.forall_mem_cons.mpr ⟨lw_p7, List.forall_mem_cons.mpr ⟨lw_p8, List.forall_mem_cons.mpr ⟨lw_p9, List.forall_mem_cons.mpr ⟨lw_p10, List.forall_mem_cons.mpr ⟨lw_p11, List.forall_mem_cons.mpr ⟨lw_p12, List.forall_mem_cons.mpr ⟨lw_p13, List.forall_mem_cons.mpr ⟨lw_p14, List.forall_mem_cons.mpr ⟨lw_p15, fun _ h => absurd h List.not_mem_nil⟩⟩⟩⟩⟩⟩⟩⟩⟩⟩⟩⟩⟩⟩⟩⟩
theorem lw_p16 : lw_okq (⟨"SpringFarmsModel", "refusal", "()I"⟩, 32) := ⟨⟨by decide +kernel, by decide +kernel⟩, List.mem_of_getElem? (i := 523) (by decide +kernel), List.mem_of_getElem? (i := 685) (by decide +kernel), List.mem_of_getElem? (i := 686) (by decide +kernel)⟩
theorem lw_p17 : lw_okq (⟨"SpringFarmsModel", "keepNow", "()V"⟩, 32) := ⟨⟨by decide +kernel, by decide +kernel⟩, List.mem_of_getElem? (i := 523) (by decide +kernel), List.mem_of_getElem? (i := 690) (by decide +kernel), List.mem_of_getElem? (i := 691) (by decide +kernel)⟩
theorem lw_p18 : lw_okq (⟨"SpringFarmsModel", "goDay", "()V"⟩, 32) := ⟨⟨by decide +kernel, by decide +kernel⟩, List.mem_of_getElem? (i := 523) (by decide +kernel), List.mem_of_getElem? (i := 694) (by decide +kernel), List.mem_of_getElem? (i := 695) (by decide +kernel)⟩
theorem lw_p19 : lw_okq (⟨"SpringFarmsModel", "lookWhoHas", "()V"⟩, 32) := ⟨⟨by decide +kernel, by decide +kernel⟩, List.mem_of_getElem? (i := 523) (by decide +kernel), List.mem_of_getElem? (i := 698) (by decide +kernel), List.mem_of_getElem? (i := 699) (by decide +kernel)⟩
theorem lw_p20 : lw_okq (⟨"SpringFarmsModel", "passHour", "(I)V"⟩, 32) := ⟨⟨by decide +kernel, by decide +kernel⟩, List.mem_of_getElem? (i := 523) (by decide +kernel), List.mem_of_getElem? (i := 702) (by decide +kernel), List.mem_of_getElem? (i := 703) (by decide +kernel)⟩
theorem lw_p21 : lw_okq (⟨"SpringFarmsModel", "flow", "(I)V"⟩, 32) := ⟨⟨by decide +kernel, by decide +kernel⟩, List.mem_of_getElem? (i := 523) (by decide +kernel), List.mem_of_getElem? (i := 706) (by decide +kernel), List.mem_of_getElem? (i := 707) (by decide +kernel)⟩
theorem lw_p22 : lw_okq (⟨"SpringFarmsModel", "takenAt", "(III)I"⟩, 32) := ⟨⟨by decide +kernel, by decide +kernel⟩, List.mem_of_getElem? (i := 523) (by decide +kernel), List.mem_of_getElem? (i := 710) (by decide +kernel), List.mem_of_getElem? (i := 711) (by decide +kernel)⟩
theorem lw_p23 : lw_okq (⟨"SpringFarmsModel", "deed", "(II)I"⟩, 32) := ⟨⟨by decide +kernel, by decide +kernel⟩, List.mem_of_getElem? (i := 523) (by decide +kernel), List.mem_of_getElem? (i := 714) (by decide +kernel), List.mem_of_getElem? (i := 715) (by decide +kernel)⟩
theorem lw_p24 : lw_okq (⟨"SpringFarmsModel", "putBack", "()V"⟩, 32) := ⟨⟨by decide +kernel, by decide +kernel⟩, List.mem_of_getElem? (i := 523) (by decide +kernel), List.mem_of_getElem? (i := 718) (by decide +kernel), List.mem_of_getElem? (i := 719) (by decide +kernel)⟩
theorem lw_p25 : lw_okq (⟨"SpringFarmsModel", "layNow", "()V"⟩, 32) := ⟨⟨by decide +kernel, by decide +kernel⟩, List.mem_of_getElem? (i := 523) (by decide +kernel), List.mem_of_getElem? (i := 751) (by decide +kernel), List.mem_of_getElem? (i := 752) (by decide +kernel)⟩
theorem lw_p26 : lw_okq (⟨"SpringFarmsModel", "hoursNow", "()I"⟩, 32) := ⟨⟨by decide +kernel, by decide +kernel⟩, List.mem_of_getElem? (i := 523) (by decide +kernel), List.mem_of_getElem? (i := 759) (by decide +kernel), List.mem_of_getElem? (i := 760) (by decide +kernel)⟩
theorem lw_p27 : lw_okq (⟨"SpringFarmsModel", "wanting", "(I)I"⟩, 32) := ⟨⟨by decide +kernel, by decide +kernel⟩, List.mem_of_getElem? (i := 523) (by decide +kernel), List.mem_of_getElem? (i := 763) (by decide +kernel), List.mem_of_getElem? (i := 764) (by decide +kernel)⟩
theorem lw_p28 : lw_okq (⟨"SpringFarmsModel", "isEnoughIn", "(I)Z"⟩, 32) := ⟨⟨by decide +kernel, by decide +kernel⟩, List.mem_of_getElem? (i := 523) (by decide +kernel), List.mem_of_getElem? (i := 775) (by decide +kernel), List.mem_of_getElem? (i := 776) (by decide +kernel)⟩
theorem lw_p29 : lw_okq (⟨"SpringFarmsModel", "takesNew", "(III)I"⟩, 32) := ⟨⟨by decide +kernel, by decide +kernel⟩, List.mem_of_getElem? (i := 523) (by decide +kernel), List.mem_of_getElem? (i := 791) (by decide +kernel), List.mem_of_getElem? (i := 792) (by decide +kernel)⟩
theorem lw_p30 : lw_okq (⟨"SpringFarmsModel", "isFairBy", "(I)Z"⟩, 32) := ⟨⟨by decide +kernel, by decide +kernel⟩, List.mem_of_getElem? (i := 523) (by decide +kernel), List.mem_of_getElem? (i := 799) (by decide +kernel), List.mem_of_getElem? (i := 800) (by decide +kernel)⟩
theorem lw_p31 : lw_okq (⟨"SpringFarmsModel", "leaksBy", "(II)Z"⟩, 32) := ⟨⟨by decide +kernel, by decide +kernel⟩, List.mem_of_getElem? (i := 523) (by decide +kernel), List.mem_of_getElem? (i := 819) (by decide +kernel), List.mem_of_getElem? (i := 820) (by decide +kernel)⟩
def lw_privs_2 : List (MethodName × Nat) := [(⟨"SpringFarmsModel", "refusal", "()I"⟩, 32), (⟨"SpringFarmsModel", "keepNow", "()V"⟩, 32), (⟨"SpringFarmsModel", "goDay", "()V"⟩, 32), (⟨"SpringFarmsModel", "lookWhoHas", "()V"⟩, 32), (⟨"SpringFarmsModel", "passHour", "(I)V"⟩, 32), (⟨"SpringFarmsModel", "flow", "(I)V"⟩, 32), (⟨"SpringFarmsModel", "takenAt", "(III)I"⟩, 32), (⟨"SpringFarmsModel", "deed", "(II)I"⟩, 32), (⟨"SpringFarmsModel", "putBack", "()V"⟩, 32), (⟨"SpringFarmsModel", "layNow", "()V"⟩, 32), (⟨"SpringFarmsModel", "hoursNow", "()I"⟩, 32), (⟨"SpringFarmsModel", "wanting", "(I)I"⟩, 32), (⟨"SpringFarmsModel", "isEnoughIn", "(I)Z"⟩, 32), (⟨"SpringFarmsModel", "takesNew", "(III)I"⟩, 32), (⟨"SpringFarmsModel", "isFairBy", "(I)Z"⟩, 32), (⟨"SpringFarmsModel", "leaksBy", "(II)Z"⟩, 32)]
theorem lw_r2 : ∀ q ∈ lw_privs_2, lw_okq q := List.forall_mem_cons.mpr ⟨lw_p16, List.forall_mem_cons.mpr ⟨lw_p17, List.forall_mem_cons.mpr ⟨lw_p18, List.forall_mem_cons.mpr ⟨lw_p19, List.forall_mem_cons.mpr ⟨lw_p20, List.forall_mem_cons.mpr ⟨lw_p21, List.forall_mem_cons.mpr ⟨lw_p22, List.forall_mem_cons.mpr ⟨lw_p23, List.forall_mem_cons.mpr ⟨lw_p24, List.forall_mem_cons.mpr ⟨lw_p25, List.forall_mem_cons.mpr ⟨lw_p26, List.forall_mem_cons.mpr ⟨lw_p27, List.forall_mem_cons.mpr ⟨lw_p28, List.forall_mem_cons.mpr ⟨lw_p29, List.forall_mem_cons.mpr ⟨lw_p30, List.forall_mem_cons.mpr ⟨lw_p31, fun _ h => absurd h List.not_mem_nil⟩⟩⟩⟩⟩⟩⟩⟩⟩⟩⟩⟩⟩⟩⟩⟩
theorem lw_p32 : lw_okq (⟨"SpringFarmsModel", "isHeardSo", "()Z"⟩, 32) := ⟨⟨by decide +kernel, by decide +kernel⟩, List.mem_of_getElem? (i := 523) (by decide +kernel), List.mem_of_getElem? (i := 823) (by decide +kernel), List.mem_of_getElem? (i := 824) (by decide +kernel)⟩
theorem lw_p33 : lw_okq (⟨"SpringFarmsModel", "mostLeftAt", "(I)I"⟩, 32) := ⟨⟨by decide +kernel, by decide +kernel⟩, List.mem_of_getElem? (i := 523) (by decide +kernel), List.mem_of_getElem? (i := 835) (by decide +kernel), List.mem_of_getElem? (i := 836) (by decide +kernel)⟩
theorem lw_p34 : lw_okq (⟨"SpringFarmsModel", "layMembers", "(I)V"⟩, 32) := ⟨⟨by decide +kernel, by decide +kernel⟩, List.mem_of_getElem? (i := 523) (by decide +kernel), List.mem_of_getElem? (i := 846) (by decide +kernel), List.mem_of_getElem? (i := 847) (by decide +kernel)⟩
theorem lw_p35 : lw_okq (⟨"SpringFarmsModel", "layWidths", "(I)I"⟩, 32) := ⟨⟨by decide +kernel, by decide +kernel⟩, List.mem_of_getElem? (i := 523) (by decide +kernel), List.mem_of_getElem? (i := 850) (by decide +kernel), List.mem_of_getElem? (i := 851) (by decide +kernel)⟩
theorem lw_p36 : lw_okq (⟨"SpringFarmsModel", "isRest", "()Z"⟩, 32) := ⟨⟨by decide +kernel, by decide +kernel⟩, List.mem_of_getElem? (i := 523) (by decide +kernel), List.mem_of_getElem? (i := 854) (by decide +kernel), List.mem_of_getElem? (i := 855) (by decide +kernel)⟩
theorem lw_p37 : lw_okq (⟨"SpringFarmsModel", "gainOf", "(II)I"⟩, 32) := ⟨⟨by decide +kernel, by decide +kernel⟩, List.mem_of_getElem? (i := 523) (by decide +kernel), List.mem_of_getElem? (i := 858) (by decide +kernel), List.mem_of_getElem? (i := 859) (by decide +kernel)⟩
theorem lw_p38 : lw_okq (⟨"SpringFarmsModel", "passAll", "()V"⟩, 32) := ⟨⟨by decide +kernel, by decide +kernel⟩, List.mem_of_getElem? (i := 523) (by decide +kernel), List.mem_of_getElem? (i := 891) (by decide +kernel), List.mem_of_getElem? (i := 892) (by decide +kernel)⟩
theorem lw_p39 : lw_okq (⟨"SpringFarmsModel", "pass", "(I)I"⟩, 32) := ⟨⟨by decide +kernel, by decide +kernel⟩, List.mem_of_getElem? (i := 523) (by decide +kernel), List.mem_of_getElem? (i := 895) (by decide +kernel), List.mem_of_getElem? (i := 896) (by decide +kernel)⟩
def lw_privs_3 : List (MethodName × Nat) := [(⟨"SpringFarmsModel", "isHeardSo", "()Z"⟩, 32), (⟨"SpringFarmsModel", "mostLeftAt", "(I)I"⟩, 32), (⟨"SpringFarmsModel", "layMembers", "(I)V"⟩, 32), (⟨"SpringFarmsModel", "layWidths", "(I)I"⟩, 32), (⟨"SpringFarmsModel", "isRest", "()Z"⟩, 32), (⟨"SpringFarmsModel", "gainOf", "(II)I"⟩, 32), (⟨"SpringFarmsModel", "passAll", "()V"⟩, 32), (⟨"SpringFarmsModel", "pass", "(I)I"⟩, 32)]
theorem lw_r3 : ∀ q ∈ lw_privs_3, lw_okq q := List.forall_mem_cons.mpr ⟨lw_p32, List.forall_mem_cons.mpr ⟨lw_p33, List.forall_mem_cons.mpr ⟨lw_p34, List.forall_mem_cons.mpr ⟨lw_p35, List.forall_mem_cons.mpr ⟨lw_p36, List.forall_mem_cons.mpr ⟨lw_p37, List.forall_mem_cons.mpr ⟨lw_p38, List.forall_mem_cons.mpr ⟨lw_p39, fun _ h => absurd h List.not_mem_nil⟩⟩⟩⟩⟩⟩⟩⟩
def lw_privs : List (MethodName × Nat) := lw_privs_1 ++ (lw_privs_2 ++ (lw_privs_3))
def lw_tbl : List Cond := k2_sels lw_privs ++ tables_1
theorem lw_privs_ok : ∀ q ∈ lw_privs, lw_okq q := by
  show ∀ q ∈ lw_privs_1 ++ (lw_privs_2 ++ (lw_privs_3)), lw_okq q
  exact List.forall_mem_append.mpr ⟨lw_r1, List.forall_mem_append.mpr ⟨lw_r2, lw_r3⟩⟩
def RX0 : String := "SpringFarms$Course"
def TX0 : u_T := fun k => match k with
  | 0 => ("SpringFarms$Course", "row", "LSpringFarms$Row;", true)
  | 1 => ("SpringFarms$Course", "hour", "LSpringFarms$Hour;", true)
  | 2 => ("SpringFarms$Course", "enoughAt", "[I", true)
  | 3 => ("SpringFarms$Course", "badPart", "I", false)
  | 4 => ("SpringFarms$Course", "why", "I", false)
  | _ => ("SpringFarms$Course", "hourCount", "I", false)
def tyX0 : Nat → FieldType := fun k => match k with
  | 0 => .object "SpringFarms$Row"
  | 1 => .object "SpringFarms$Hour"
  | 2 => .array .int
  | 3 => .int
  | 4 => .int
  | _ => .int
theorem nmX0 : ∀ a, a < 6 → ∀ b, b < 6 → a ≠ b → (TX0 a).2.1 ≠ (TX0 b).2.1 := by decide +kernel
theorem tyX0_ok : ∀ k, k < 6 → parseFieldDescriptor (TX0 k).2.2.1 = some (tyX0 k) := by decide +kernel
abbrev cX0_init : ByteArray := prog_2_method_1_code
def yX0_init : MethodName := ⟨RX0, "<init>", "()V"⟩
abbrev cX0_live : ByteArray := prog_2_method_2_code
def yX0_live : MethodName := ⟨RX0, "live", "(LSpringFarms$Row;LSpringFarms$Day;)V"⟩
abbrev cX0_pass : ByteArray := prog_2_method_3_code
def yX0_pass : MethodName := ⟨RX0, "pass", "(II)V"⟩
abbrev cX0_noteEnough : ByteArray := prog_2_method_4_code
def yX0_noteEnough : MethodName := ⟨RX0, "noteEnough", "()V"⟩
def RX1 : String := "SpringFarms$Day"
def TX1 : u_T := fun k => match k with
  | 0 => ("SpringFarms$Day", "signs", "[I", true)
  | 1 => ("SpringFarms$Day", "length", "I", false)
  | 2 => ("SpringFarms$Day", "acts", "[I", true)
  | 3 => ("SpringFarms$Day", "farmOf", "[I", true)
  | _ => ("SpringFarms$Day", "parts", "I", false)
def tyX1 : Nat → FieldType := fun k => match k with
  | 0 => .array .int
  | 1 => .int
  | 2 => .array .int
  | 3 => .array .int
  | _ => .int
theorem nmX1 : ∀ a, a < 5 → ∀ b, b < 5 → a ≠ b → (TX1 a).2.1 ≠ (TX1 b).2.1 := by decide +kernel
theorem tyX1_ok : ∀ k, k < 5 → parseFieldDescriptor (TX1 k).2.2.1 = some (tyX1 k) := by decide +kernel
abbrev cX1_init : ByteArray := prog_3_method_1_code
def yX1_init : MethodName := ⟨RX1, "<init>", "()V"⟩
abbrev cX1_add : ByteArray := prog_3_method_2_code
def yX1_add : MethodName := ⟨RX1, "add", "(I)V"⟩
abbrev cX1_read : ByteArray := prog_3_method_3_code
def yX1_read : MethodName := ⟨RX1, "read", "(I)I"⟩
abbrev cX1_actOn : ByteArray := prog_3_method_4_code
def yX1_actOn : MethodName := ⟨RX1, "actOn", "(I)I"⟩
abbrev cX1_hourOf : ByteArray := prog_3_method_5_code
def yX1_hourOf : MethodName := ⟨RX1, "hourOf", "(I)I"⟩
def RX2 : String := "SpringFarms$Hour"
def TX2 : u_T := fun k => match k with
  | 0 => ("SpringFarms$Hour", "taken", "[I", true)
  | 1 => ("SpringFarms$Hour", "levels", "[I", true)
  | _ => ("SpringFarms$Hour", "left", "I", false)
def tyX2 : Nat → FieldType := fun k => match k with
  | 0 => .array .int
  | 1 => .array .int
  | _ => .int
theorem nmX2 : ∀ a, a < 3 → ∀ b, b < 3 → a ≠ b → (TX2 a).2.1 ≠ (TX2 b).2.1 := by decide +kernel
theorem tyX2_ok : ∀ k, k < 3 → parseFieldDescriptor (TX2 k).2.2.1 = some (tyX2 k) := by decide +kernel
abbrev cX2_init : ByteArray := prog_4_method_1_code
def yX2_init : MethodName := ⟨RX2, "<init>", "()V"⟩
abbrev cX2_flow : ByteArray := prog_4_method_2_code
def yX2_flow : MethodName := ⟨RX2, "flow", "(LSpringFarms$Row;I)V"⟩
abbrev cX2_sum : ByteArray := prog_4_method_3_code
def yX2_sum : MethodName := ⟨RX2, "sum", "(I)I"⟩
abbrev cX2_someTookNothing : ByteArray := prog_4_method_4_code
def yX2_someTookNothing : MethodName := ⟨RX2, "someTookNothing", "(I)Z"⟩
def RX3 : String := "SpringFarms$Row"
def TX3 : u_T := fun k => match k with
  | 0 => ("SpringFarms$Row", "count", "I", false)
  | 1 => ("SpringFarms$Row", "ditch", "I", false)
  | 2 => ("SpringFarms$Row", "sights", "I", false)
  | 3 => ("SpringFarms$Row", "facts", "[I", true)
  | 4 => ("SpringFarms$Row", "rates", "[I", true)
  | 5 => ("SpringFarms$Row", "sightFarm", "[I", true)
  | _ => ("SpringFarms$Row", "sightTook", "[I", true)
def tyX3 : Nat → FieldType := fun k => match k with
  | 0 => .int
  | 1 => .int
  | 2 => .int
  | 3 => .array .int
  | 4 => .array .int
  | 5 => .array .int
  | _ => .array .int
theorem nmX3 : ∀ a, a < 7 → ∀ b, b < 7 → a ≠ b → (TX3 a).2.1 ≠ (TX3 b).2.1 := by decide +kernel
theorem tyX3_ok : ∀ k, k < 7 → parseFieldDescriptor (TX3 k).2.2.1 = some (tyX3 k) := by decide +kernel
abbrev cX3_init : ByteArray := prog_5_method_1_code
def yX3_init : MethodName := ⟨RX3, "<init>", "()V"⟩
abbrev cX3_begin : ByteArray := prog_5_method_2_code
def yX3_begin : MethodName := ⟨RX3, "begin", "(I)V"⟩
abbrev cX3_copy : ByteArray := prog_5_method_3_code
def yX3_copy : MethodName := ⟨RX3, "copy", "(LSpringFarms$Row;)V"⟩
abbrev cX3_has : ByteArray := prog_5_method_4_code
def yX3_has : MethodName := ⟨RX3, "has", "(I)Z"⟩
abbrev cX3_fact : ByteArray := prog_5_method_5_code
def yX3_fact : MethodName := ⟨RX3, "fact", "(II)I"⟩
abbrev cX3_put : ByteArray := prog_5_method_6_code
def yX3_put : MethodName := ⟨RX3, "put", "(III)V"⟩
abbrev cX3_turnPlug : ByteArray := prog_5_method_7_code
def yX3_turnPlug : MethodName := ⟨RX3, "turnPlug", "(I)V"⟩
abbrev cX3_lack : ByteArray := prog_5_method_8_code
def yX3_lack : MethodName := ⟨RX3, "lack", "(I)I"⟩
abbrev cX3_see : ByteArray := prog_5_method_9_code
def yX3_see : MethodName := ⟨RX3, "see", "(II)V"⟩
abbrev cX3_copyWithNew : ByteArray := prog_5_method_10_code
def yX3_copyWithNew : MethodName := ⟨RX3, "copyWithNew", "(LSpringFarms$Row;III)V"⟩
abbrev cX3_levelAtSpring : ByteArray := prog_5_method_11_code
def yX3_levelAtSpring : MethodName := ⟨RX3, "levelAtSpring", "(I)I"⟩
abbrev cX3_takesNone : ByteArray := prog_5_method_12_code
def yX3_takesNone : MethodName := ⟨RX3, "takesNone", "(II)Z"⟩
abbrev cX3_reasonAgainst : ByteArray := prog_5_method_13_code
def yX3_reasonAgainst : MethodName := ⟨RX3, "reasonAgainst", "(II)I"⟩
abbrev cX3_apply : ByteArray := prog_5_method_14_code
def yX3_apply : MethodName := ⟨RX3, "apply", "(II)V"⟩
abbrev cX3_keep : ByteArray := prog_5_method_15_code
def yX3_keep : MethodName := ⟨RX3, "keep", "(LSpringFarms$Hour;)V"⟩
def RX4 : String := "SpringFarms"
def TX4 : u_T := fun k => match k with
  | 0 => ("SpringFarms", "now", "LSpringFarms$Row;", true)
  | 1 => ("SpringFarms", "trial", "LSpringFarms$Row;", true)
  | 2 => ("SpringFarms", "images", "[LSpringFarms$Row;", true)
  | 3 => ("SpringFarms", "asIs", "LSpringFarms$Hour;", true)
  | 4 => ("SpringFarms", "other", "LSpringFarms$Hour;", true)
  | 5 => ("SpringFarms", "day", "LSpringFarms$Day;", true)
  | 6 => ("SpringFarms", "course", "LSpringFarms$Course;", true)
  | 7 => ("SpringFarms", "tally", "[I", true)
  | 8 => ("SpringFarms", "choosers", "[I", true)
  | 9 => ("SpringFarms", "gains", "[I", true)
  | 10 => ("SpringFarms", "found", "[I", true)
  | _ => ("SpringFarms", "foundCount", "I", false)
def tyX4 : Nat → FieldType := fun k => match k with
  | 0 => .object "SpringFarms$Row"
  | 1 => .object "SpringFarms$Row"
  | 2 => .array (.object "SpringFarms$Row")
  | 3 => .object "SpringFarms$Hour"
  | 4 => .object "SpringFarms$Hour"
  | 5 => .object "SpringFarms$Day"
  | 6 => .object "SpringFarms$Course"
  | 7 => .array .int
  | 8 => .array .int
  | 9 => .array .int
  | 10 => .array .int
  | _ => .int
theorem nmX4 : ∀ a, a < 12 → ∀ b, b < 12 → a ≠ b → (TX4 a).2.1 ≠ (TX4 b).2.1 := by decide +kernel
theorem tyX4_ok : ∀ k, k < 12 → parseFieldDescriptor (TX4 k).2.2.1 = some (tyX4 k) := by decide +kernel
abbrev cX4_init : ByteArray := prog_1_method_1_code
def yX4_init : MethodName := ⟨RX4, "<init>", "()V"⟩
abbrev cX4_farms : ByteArray := prog_1_method_2_code
def yX4_farms : MethodName := ⟨RX4, "farms", "(I)I"⟩
abbrev cX4_farm : ByteArray := prog_1_method_3_code
def yX4_farm : MethodName := ⟨RX4, "farm", "(III)I"⟩
abbrev cX4_set : ByteArray := prog_1_method_4_code
def yX4_set : MethodName := ⟨RX4, "set", "(II)I"⟩
abbrev cX4_say : ByteArray := prog_1_method_5_code
def yX4_say : MethodName := ⟨RX4, "say", "(I)I"⟩
abbrev cX4_wipe : ByteArray := prog_1_method_6_code
def yX4_wipe : MethodName := ⟨RX4, "wipe", "()I"⟩
abbrev cX4_fault : ByteArray := prog_1_method_7_code
def yX4_fault : MethodName := ⟨RX4, "fault", "()I"⟩
abbrev cX4_judge : ByteArray := prog_1_method_8_code
def yX4_judge : MethodName := ⟨RX4, "judge", "(I)I"⟩
abbrev cX4_behind : ByteArray := prog_1_method_9_code
def yX4_behind : MethodName := ⟨RX4, "behind", "(II)I"⟩
abbrev cX4_ditch : ByteArray := prog_1_method_10_code
def yX4_ditch : MethodName := ⟨RX4, "ditch", "()I"⟩
abbrev cX4_done : ByteArray := prog_1_method_11_code
def yX4_done : MethodName := ⟨RX4, "done", "()I"⟩
abbrev cX4_first : ByteArray := prog_1_method_12_code
def yX4_first : MethodName := ⟨RX4, "first", "(I)I"⟩
abbrev cX4_takes : ByteArray := prog_1_method_13_code
def yX4_takes : MethodName := ⟨RX4, "takes", "(II)I"⟩
abbrev cX4_takesIf : ByteArray := prog_1_method_14_code
def yX4_takesIf : MethodName := ⟨RX4, "takesIf", "(II)I"⟩
abbrev cX4_robbed : ByteArray := prog_1_method_15_code
def yX4_robbed : MethodName := ⟨RX4, "robbed", "(I)I"⟩
abbrev cX4_liveDay : ByteArray := prog_1_method_16_code
def yX4_liveDay : MethodName := ⟨RX4, "liveDay", "()I"⟩
abbrev cX4_hours : ByteArray := prog_1_method_17_code
def yX4_hours : MethodName := ⟨RX4, "hours", "()I"⟩
abbrev cX4_spring : ByteArray := prog_1_method_18_code
def yX4_spring : MethodName := ⟨RX4, "spring", "(I)I"⟩
abbrev cX4_narrow : ByteArray := prog_1_method_19_code
def yX4_narrow : MethodName := ⟨RX4, "narrow", "(II)I"⟩
abbrev cX4_highest : ByteArray := prog_1_method_20_code
def yX4_highest : MethodName := ⟨RX4, "highest", "(II)I"⟩
abbrev cX4_bored : ByteArray := prog_1_method_21_code
def yX4_bored : MethodName := ⟨RX4, "bored", "(III)I"⟩
abbrev cX4_fair : ByteArray := prog_1_method_22_code
def yX4_fair : MethodName := ⟨RX4, "fair", "()I"⟩
abbrev cX4_dry : ByteArray := prog_1_method_23_code
def yX4_dry : MethodName := ⟨RX4, "dry", "(I)I"⟩
abbrev cX4_within : ByteArray := prog_1_method_24_code
def yX4_within : MethodName := ⟨RX4, "within", "(II)Z"⟩
abbrev cX4_isHours : ByteArray := prog_1_method_25_code
def yX4_isHours : MethodName := ⟨RX4, "isHours", "(I)Z"⟩
abbrev cX4_allHaveIn : ByteArray := prog_1_method_26_code
def yX4_allHaveIn : MethodName := ⟨RX4, "allHaveIn", "(I)Z"⟩
abbrev cX4_takenIfBoredAt : ByteArray := prog_1_method_27_code
def yX4_takenIfBoredAt : MethodName := ⟨RX4, "takenIfBoredAt", "(III)I"⟩
abbrev cX4_isFair : ByteArray := prog_1_method_28_code
def yX4_isFair : MethodName := ⟨RX4, "isFair", "(I)Z"⟩
abbrev cX4_seen : ByteArray := prog_1_method_29_code
def yX4_seen : MethodName := ⟨RX4, "seen", "(II)I"⟩
abbrev cX4_forget : ByteArray := prog_1_method_30_code
def yX4_forget : MethodName := ⟨RX4, "forget", "()I"⟩
abbrev cX4_leak : ByteArray := prog_1_method_31_code
def yX4_leak : MethodName := ⟨RX4, "leak", "(I)I"⟩
abbrev cX4_borer : ByteArray := prog_1_method_32_code
def yX4_borer : MethodName := ⟨RX4, "borer", "(I)I"⟩
abbrev cX4_listen : ByteArray := prog_1_method_33_code
def yX4_listen : MethodName := ⟨RX4, "listen", "(I)I"⟩
abbrev cX4_rests : ByteArray := prog_1_method_34_code
def yX4_rests : MethodName := ⟨RX4, "rests", "(II)I"⟩
abbrev cX4_frost : ByteArray := prog_1_method_35_code
def yX4_frost : MethodName := ⟨RX4, "frost", "(IIIII)J"⟩
abbrev cX4_year : ByteArray := prog_1_method_36_code
def yX4_year : MethodName := ⟨RX4, "year", "(III)I"⟩
abbrev cX4_image : ByteArray := prog_1_method_37_code
def yX4_image : MethodName := ⟨RX4, "image", "(I)I"⟩
abbrev cX4_restore : ByteArray := prog_1_method_38_code
def yX4_restore : MethodName := ⟨RX4, "restore", "(I)I"⟩
abbrev cX4_told : ByteArray := prog_1_method_39_code
def yX4_told : MethodName := ⟨RX4, "told", "(I)I"⟩
abbrev cX4_toldOfFarm : ByteArray := prog_1_method_40_code
def yX4_toldOfFarm : MethodName := ⟨RX4, "toldOfFarm", "(I)I"⟩
abbrev cX4_fitsIf : ByteArray := prog_1_method_41_code
def yX4_fitsIf : MethodName := ⟨RX4, "fitsIf", "(III)Z"⟩
abbrev cX4_note : ByteArray := prog_1_method_42_code
def yX4_note : MethodName := ⟨RX4, "note", "(I)V"⟩
abbrev cX4_foundAt : ByteArray := prog_1_method_43_code
def yX4_foundAt : MethodName := ⟨RX4, "foundAt", "(I)I"⟩
abbrev cX4_findLeaks : ByteArray := prog_1_method_44_code
def yX4_findLeaks : MethodName := ⟨RX4, "findLeaks", "()V"⟩
abbrev cX4_tallyTaken : ByteArray := prog_1_method_45_code
def yX4_tallyTaken : MethodName := ⟨RX4, "tallyTaken", "()V"⟩
abbrev cX4_mostLeft : ByteArray := prog_1_method_46_code
def yX4_mostLeft : MethodName := ⟨RX4, "mostLeft", "(I)I"⟩
abbrev cX4_gather : ByteArray := prog_1_method_47_code
def yX4_gather : MethodName := ⟨RX4, "gather", "(I)I"⟩
abbrev cX4_stride : ByteArray := prog_1_method_48_code
def yX4_stride : MethodName := ⟨RX4, "stride", "(II)I"⟩
abbrev cX4_choice : ByteArray := prog_1_method_49_code
def yX4_choice : MethodName := ⟨RX4, "choice", "(II)I"⟩
abbrev cX4_weighRows : ByteArray := prog_1_method_50_code
def yX4_weighRows : MethodName := ⟨RX4, "weighRows", "(I)I"⟩
abbrev cX4_isAtRest : ByteArray := prog_1_method_51_code
def yX4_isAtRest : MethodName := ⟨RX4, "isAtRest", "(II)Z"⟩
abbrev cX4_asDigits : ByteArray := prog_1_method_52_code
def yX4_asDigits : MethodName := ⟨RX4, "asDigits", "(I)I"⟩
abbrev cX4_power : ByteArray := prog_1_method_53_code
def yX4_power : MethodName := ⟨RX4, "power", "(II)J"⟩
abbrev cX4_commonDivisor : ByteArray := prog_1_method_54_code
def yX4_commonDivisor : MethodName := ⟨RX4, "commonDivisor", "(JJ)J"⟩
abbrev cX4_kindOfDraw : ByteArray := prog_1_method_55_code
def yX4_kindOfDraw : MethodName := ⟨RX4, "kindOfDraw", "(I)I"⟩
def RX5 : String := "SpringFarmsModel"
def TX5 : u_T := fun k => match k with
  | 0 => ("SpringFarmsModel", "farms", "I", false)
  | 1 => ("SpringFarmsModel", "is", "[I", true)
  | 2 => ("SpringFarmsModel", "spring", "I", false)
  | 3 => ("SpringFarmsModel", "rain", "I", false)
  | 4 => ("SpringFarmsModel", "cows", "I", false)
  | 5 => ("SpringFarmsModel", "ditch", "I", false)
  | 6 => ("SpringFarmsModel", "sightFarm", "[I", true)
  | 7 => ("SpringFarmsModel", "sightTook", "[I", true)
  | 8 => ("SpringFarmsModel", "sights", "I", false)
  | 9 => ("SpringFarmsModel", "pad", "[I", true)
  | 10 => ("SpringFarmsModel", "padMany", "I", false)
  | 11 => ("SpringFarmsModel", "part", "[I", true)
  | 12 => ("SpringFarmsModel", "partFarm", "[I", true)
  | 13 => ("SpringFarmsModel", "parts", "I", false)
  | 14 => ("SpringFarmsModel", "took", "[I", true)
  | 15 => ("SpringFarmsModel", "stood", "[I", true)
  | 16 => ("SpringFarmsModel", "left", "I", false)
  | 17 => ("SpringFarmsModel", "had", "[I", true)
  | 18 => ("SpringFarmsModel", "hadDitch", "I", false)
  | 19 => ("SpringFarmsModel", "badPart", "I", false)
  | 20 => ("SpringFarmsModel", "badWhy", "I", false)
  | 21 => ("SpringFarmsModel", "hours", "I", false)
  | 22 => ("SpringFarmsModel", "firstHour", "[I", true)
  | 23 => ("SpringFarmsModel", "now", "[I", true)
  | 24 => ("SpringFarmsModel", "narrow", "[I", true)
  | 25 => ("SpringFarmsModel", "twos", "[I", true)
  | 26 => ("SpringFarmsModel", "member", "[I", true)
  | 27 => ("SpringFarmsModel", "members", "I", false)
  | 28 => ("SpringFarmsModel", "kept", "[I", true)
  | 29 => ("SpringFarmsModel", "isKept", "[Z", true)
  | 30 => ("SpringFarmsModel", "keptAt", "I", false)
  | _ => ("SpringFarmsModel", "isWriting", "Z", false)
def tyX5 : Nat → FieldType := fun k => match k with
  | 0 => .int
  | 1 => .array .int
  | 2 => .int
  | 3 => .int
  | 4 => .int
  | 5 => .int
  | 6 => .array .int
  | 7 => .array .int
  | 8 => .int
  | 9 => .array .int
  | 10 => .int
  | 11 => .array .int
  | 12 => .array .int
  | 13 => .int
  | 14 => .array .int
  | 15 => .array .int
  | 16 => .int
  | 17 => .array .int
  | 18 => .int
  | 19 => .int
  | 20 => .int
  | 21 => .int
  | 22 => .array .int
  | 23 => .array .int
  | 24 => .array .int
  | 25 => .array .int
  | 26 => .array .int
  | 27 => .int
  | 28 => .array .int
  | 29 => .array .boolean
  | 30 => .int
  | _ => .boolean
theorem nmX5 : ∀ a, a < 32 → ∀ b, b < 32 → a ≠ b → (TX5 a).2.1 ≠ (TX5 b).2.1 := by decide +kernel
theorem tyX5_ok : ∀ k, k < 32 → parseFieldDescriptor (TX5 k).2.2.1 = some (tyX5 k) := by decide +kernel
abbrev cX5_init : ByteArray := prog_7_method_1_code
def yX5_init : MethodName := ⟨RX5, "<init>", "()V"⟩
abbrev cX5_in : ByteArray := prog_7_method_3_code
def yX5_in : MethodName := ⟨RX5, "in", "(JJJ)Z"⟩
abbrev cX5_ones : ByteArray := prog_7_method_4_code
def yX5_ones : MethodName := ⟨RX5, "ones", "(I)I"⟩
abbrev cX5_at : ByteArray := prog_7_method_5_code
def yX5_at : MethodName := ⟨RX5, "at", "(II)I"⟩
abbrev cX5_begin : ByteArray := prog_7_method_6_code
def yX5_begin : MethodName := ⟨RX5, "begin", "(I)V"⟩
abbrev cX5_isFarm : ByteArray := prog_7_method_7_code
def yX5_isFarm : MethodName := ⟨RX5, "isFarm", "(I)Z"⟩
abbrev cX5_farms : ByteArray := prog_7_method_8_code
def yX5_farms : MethodName := ⟨RX5, "farms", "(I)I"⟩
abbrev cX5_greatest : ByteArray := prog_7_method_9_code
def yX5_greatest : MethodName := ⟨RX5, "greatest", "(I)I"⟩
abbrev cX5_farm : ByteArray := prog_7_method_10_code
def yX5_farm : MethodName := ⟨RX5, "farm", "(III)I"⟩
abbrev cX5_set : ByteArray := prog_7_method_11_code
def yX5_set : MethodName := ⟨RX5, "set", "(II)I"⟩
abbrev cX5_say : ByteArray := prog_7_method_12_code
def yX5_say : MethodName := ⟨RX5, "say", "(I)I"⟩
abbrev cX5_wipe : ByteArray := prog_7_method_13_code
def yX5_wipe : MethodName := ⟨RX5, "wipe", "()I"⟩
abbrev cX5_kindOf : ByteArray := prog_7_method_14_code
def yX5_kindOf : MethodName := ⟨RX5, "kindOf", "(I)I"⟩
abbrev cX5_isDeed : ByteArray := prog_7_method_15_code
def yX5_isDeed : MethodName := ⟨RX5, "isDeed", "(I)Z"⟩
abbrev cX5_fault : ByteArray := prog_7_method_16_code
def yX5_fault : MethodName := ⟨RX5, "fault", "()I"⟩
abbrev cX5_takenAt : ByteArray := prog_7_method_17_code
def yX5_takenAt : MethodName := ⟨RX5, "takenAt", "(III)I"⟩
abbrev cX5_flow : ByteArray := prog_7_method_18_code
def yX5_flow : MethodName := ⟨RX5, "flow", "(I)V"⟩
abbrev cX5_passHour : ByteArray := prog_7_method_19_code
def yX5_passHour : MethodName := ⟨RX5, "passHour", "(I)V"⟩
abbrev cX5_keepNow : ByteArray := prog_7_method_20_code
def yX5_keepNow : MethodName := ⟨RX5, "keepNow", "()V"⟩
abbrev cX5_putBack : ByteArray := prog_7_method_21_code
def yX5_putBack : MethodName := ⟨RX5, "putBack", "()V"⟩
abbrev cX5_lookWhoHas : ByteArray := prog_7_method_22_code
def yX5_lookWhoHas : MethodName := ⟨RX5, "lookWhoHas", "()V"⟩
abbrev cX5_deed : ByteArray := prog_7_method_23_code
def yX5_deed : MethodName := ⟨RX5, "deed", "(II)I"⟩
abbrev cX5_goDay : ByteArray := prog_7_method_24_code
def yX5_goDay : MethodName := ⟨RX5, "goDay", "()V"⟩
abbrev cX5_refusal : ByteArray := prog_7_method_25_code
def yX5_refusal : MethodName := ⟨RX5, "refusal", "()I"⟩
abbrev cX5_judge : ByteArray := prog_7_method_26_code
def yX5_judge : MethodName := ⟨RX5, "judge", "(I)I"⟩
abbrev cX5_behind : ByteArray := prog_7_method_27_code
def yX5_behind : MethodName := ⟨RX5, "behind", "(II)I"⟩
abbrev cX5_ditch : ByteArray := prog_7_method_28_code
def yX5_ditch : MethodName := ⟨RX5, "ditch", "()I"⟩
abbrev cX5_done : ByteArray := prog_7_method_29_code
def yX5_done : MethodName := ⟨RX5, "done", "()I"⟩
abbrev cX5_first : ByteArray := prog_7_method_30_code
def yX5_first : MethodName := ⟨RX5, "first", "(I)I"⟩
abbrev cX5_takes : ByteArray := prog_7_method_31_code
def yX5_takes : MethodName := ⟨RX5, "takes", "(II)I"⟩
abbrev cX5_takesIf : ByteArray := prog_7_method_32_code
def yX5_takesIf : MethodName := ⟨RX5, "takesIf", "(II)I"⟩
abbrev cX5_layNow : ByteArray := prog_7_method_33_code
def yX5_layNow : MethodName := ⟨RX5, "layNow", "()V"⟩
abbrev cX5_robbed : ByteArray := prog_7_method_34_code
def yX5_robbed : MethodName := ⟨RX5, "robbed", "(I)I"⟩
abbrev cX5_wanting : ByteArray := prog_7_method_35_code
def yX5_wanting : MethodName := ⟨RX5, "wanting", "(I)I"⟩
abbrev cX5_hoursNow : ByteArray := prog_7_method_36_code
def yX5_hoursNow : MethodName := ⟨RX5, "hoursNow", "()I"⟩
abbrev cX5_isEnoughIn : ByteArray := prog_7_method_37_code
def yX5_isEnoughIn : MethodName := ⟨RX5, "isEnoughIn", "(I)Z"⟩
abbrev cX5_hours : ByteArray := prog_7_method_38_code
def yX5_hours : MethodName := ⟨RX5, "hours", "()I"⟩
abbrev cX5_isTerm : ByteArray := prog_7_method_39_code
def yX5_isTerm : MethodName := ⟨RX5, "isTerm", "(I)Z"⟩
abbrev cX5_spring : ByteArray := prog_7_method_40_code
def yX5_spring : MethodName := ⟨RX5, "spring", "(I)I"⟩
abbrev cX5_narrow : ByteArray := prog_7_method_41_code
def yX5_narrow : MethodName := ⟨RX5, "narrow", "(II)I"⟩
abbrev cX5_highest : ByteArray := prog_7_method_42_code
def yX5_highest : MethodName := ⟨RX5, "highest", "(II)I"⟩
abbrev cX5_takesNew : ByteArray := prog_7_method_43_code
def yX5_takesNew : MethodName := ⟨RX5, "takesNew", "(III)I"⟩
abbrev cX5_bored : ByteArray := prog_7_method_44_code
def yX5_bored : MethodName := ⟨RX5, "bored", "(III)I"⟩
abbrev cX5_isFairBy : ByteArray := prog_7_method_45_code
def yX5_isFairBy : MethodName := ⟨RX5, "isFairBy", "(I)Z"⟩
abbrev cX5_fair : ByteArray := prog_7_method_46_code
def yX5_fair : MethodName := ⟨RX5, "fair", "()I"⟩
abbrev cX5_dry : ByteArray := prog_7_method_47_code
def yX5_dry : MethodName := ⟨RX5, "dry", "(I)I"⟩
abbrev cX5_seen : ByteArray := prog_7_method_48_code
def yX5_seen : MethodName := ⟨RX5, "seen", "(II)I"⟩
abbrev cX5_forget : ByteArray := prog_7_method_49_code
def yX5_forget : MethodName := ⟨RX5, "forget", "()I"⟩
abbrev cX5_isHeardSo : ByteArray := prog_7_method_50_code
def yX5_isHeardSo : MethodName := ⟨RX5, "isHeardSo", "()Z"⟩
abbrev cX5_leaksBy : ByteArray := prog_7_method_51_code
def yX5_leaksBy : MethodName := ⟨RX5, "leaksBy", "(II)Z"⟩
abbrev cX5_leak : ByteArray := prog_7_method_52_code
def yX5_leak : MethodName := ⟨RX5, "leak", "(I)I"⟩
abbrev cX5_borer : ByteArray := prog_7_method_53_code
def yX5_borer : MethodName := ⟨RX5, "borer", "(I)I"⟩
abbrev cX5_mostLeftAt : ByteArray := prog_7_method_54_code
def yX5_mostLeftAt : MethodName := ⟨RX5, "mostLeftAt", "(I)I"⟩
abbrev cX5_listen : ByteArray := prog_7_method_55_code
def yX5_listen : MethodName := ⟨RX5, "listen", "(I)I"⟩
abbrev cX5_layMembers : ByteArray := prog_7_method_56_code
def yX5_layMembers : MethodName := ⟨RX5, "layMembers", "(I)V"⟩
abbrev cX5_gainOf : ByteArray := prog_7_method_57_code
def yX5_gainOf : MethodName := ⟨RX5, "gainOf", "(II)I"⟩
abbrev cX5_isRest : ByteArray := prog_7_method_58_code
def yX5_isRest : MethodName := ⟨RX5, "isRest", "()Z"⟩
abbrev cX5_layWidths : ByteArray := prog_7_method_59_code
def yX5_layWidths : MethodName := ⟨RX5, "layWidths", "(I)I"⟩
abbrev cX5_rests : ByteArray := prog_7_method_60_code
def yX5_rests : MethodName := ⟨RX5, "rests", "(II)I"⟩
abbrev cX5_lowest : ByteArray := prog_7_method_61_code
def yX5_lowest : MethodName := ⟨RX5, "lowest", "(JJI)J"⟩
abbrev cX5_power : ByteArray := prog_7_method_62_code
def yX5_power : MethodName := ⟨RX5, "power", "(II)J"⟩
abbrev cX5_frost : ByteArray := prog_7_method_63_code
def yX5_frost : MethodName := ⟨RX5, "frost", "(IIIII)J"⟩
abbrev cX5_kindBy : ByteArray := prog_7_method_64_code
def yX5_kindBy : MethodName := ⟨RX5, "kindBy", "(I)I"⟩
abbrev cX5_year : ByteArray := prog_7_method_65_code
def yX5_year : MethodName := ⟨RX5, "year", "(III)I"⟩
abbrev cX5_pass : ByteArray := prog_7_method_66_code
def yX5_pass : MethodName := ⟨RX5, "pass", "(I)I"⟩
abbrev cX5_passAll : ByteArray := prog_7_method_67_code
def yX5_passAll : MethodName := ⟨RX5, "passAll", "()V"⟩
abbrev cX5_image : ByteArray := prog_7_method_68_code
def yX5_image : MethodName := ⟨RX5, "image", "(I)I"⟩
abbrev cX5_restore : ByteArray := prog_7_method_69_code
def yX5_restore : MethodName := ⟨RX5, "restore", "(I)I"⟩
abbrev cX5_told : ByteArray := prog_7_method_70_code
def yX5_told : MethodName := ⟨RX5, "told", "(I)I"⟩
def RJ6 : String := "java/lang/Integer"
def TJ6 : u_T := fun k => match k with
  | _ => ("", "", "", false)
def tyJ6 : Nat → FieldType := fun k => match k with
  | _ => .int
abbrev cJ6_bitCount_0f7a4 : ByteArray := prog_8_method_49_code
def yJ6_bitCount_0f7a4 : MethodName := ⟨RJ6, "bitCount", "(I)I"⟩
def RJ9 : String := "java/lang/Math"
def TJ9 : u_T := fun k => match k with
  | _ => ("", "", "", false)
def tyJ9 : Nat → FieldType := fun k => match k with
  | _ => .int
abbrev cJ9_max_7cf53 : ByteArray := prog_9_method_65_code
def yJ9_max_7cf53 : MethodName := ⟨RJ9, "max", "(II)I"⟩
abbrev cJ9_max_f86c9 : ByteArray := prog_9_method_66_code
def yJ9_max_f86c9 : MethodName := ⟨RJ9, "max", "(JJ)J"⟩
abbrev cJ9_min_7cf53 : ByteArray := prog_9_method_69_code
def yJ9_min_7cf53 : MethodName := ⟨RJ9, "min", "(II)I"⟩
def RJ10 : String := "java/lang/System"
def TJ10 : u_T := fun k => match k with
  | _ => ("", "", "", false)
def tyJ10 : Nat → FieldType := fun k => match k with
  | _ => .int
def RL : String := "SpringFarmsLaw"
abbrev cL_law : ByteArray := code
def yL_law : MethodName := ⟨RL, "law", "([I)Z"⟩
