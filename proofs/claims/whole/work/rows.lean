section
-- ===== PART A: goes FIRST, ahead of the names: the tables' words, and 'selects' of the private methods out of them =====
/-- a private method of a class that the tables say can be made, by its rows of tables_1 -/
def lw_okq (q : MethodName × Nat) : Prop := (q.1.cls ≠ "java/lang/invoke/MethodHandle" ∧ q.1.cls ≠ "java/lang/invoke/VarHandle") ∧ Cond.instantiable q.1.cls q.2 ∈ tables_1 ∧ Cond.privateMethod q.1 ∈ tables_1 ∧ Cond.instanceMethod q.1 ∈ tables_1
theorem lw_p0 : lw_okq (⟨"SpringFarms", "liveDay", "()I"⟩, 12) := ⟨⟨by decide +kernel, by decide +kernel⟩, List.mem_of_getElem? (i := 11) (by decide +kernel), List.mem_of_getElem? (i := 250) (by decide +kernel), List.mem_of_getElem? (i := 251) (by decide +kernel)⟩
theorem lw_p1 : lw_okq (⟨"SpringFarms", "allHaveIn", "(I)Z"⟩, 12) := ⟨⟨by decide +kernel, by decide +kernel⟩, List.mem_of_getElem? (i := 11) (by decide +kernel), List.mem_of_getElem? (i := 359) (by decide +kernel), List.mem_of_getElem? (i := 360) (by decide +kernel)⟩
theorem lw_p2 : lw_okq (⟨"SpringFarms", "takenIfBoredAt", "(III)I"⟩, 12) := ⟨⟨by decide +kernel, by decide +kernel⟩, List.mem_of_getElem? (i := 11) (by decide +kernel), List.mem_of_getElem? (i := 375) (by decide +kernel), List.mem_of_getElem? (i := 376) (by decide +kernel)⟩
theorem lw_p3 : lw_okq (⟨"SpringFarms", "isFair", "(I)Z"⟩, 12) := ⟨⟨by decide +kernel, by decide +kernel⟩, List.mem_of_getElem? (i := 11) (by decide +kernel), List.mem_of_getElem? (i := 388) (by decide +kernel), List.mem_of_getElem? (i := 389) (by decide +kernel)⟩
theorem lw_p4 : lw_okq (⟨"SpringFarms", "findLeaks", "()V"⟩, 12) := ⟨⟨by decide +kernel, by decide +kernel⟩, List.mem_of_getElem? (i := 11) (by decide +kernel), List.mem_of_getElem? (i := 412) (by decide +kernel), List.mem_of_getElem? (i := 413) (by decide +kernel)⟩
theorem lw_p5 : lw_okq (⟨"SpringFarms", "fitsIf", "(III)Z"⟩, 12) := ⟨⟨by decide +kernel, by decide +kernel⟩, List.mem_of_getElem? (i := 11) (by decide +kernel), List.mem_of_getElem? (i := 416) (by decide +kernel), List.mem_of_getElem? (i := 417) (by decide +kernel)⟩
theorem lw_p6 : lw_okq (⟨"SpringFarms", "note", "(I)V"⟩, 12) := ⟨⟨by decide +kernel, by decide +kernel⟩, List.mem_of_getElem? (i := 11) (by decide +kernel), List.mem_of_getElem? (i := 420) (by decide +kernel), List.mem_of_getElem? (i := 421) (by decide +kernel)⟩
theorem lw_p7 : lw_okq (⟨"SpringFarms", "tallyTaken", "()V"⟩, 12) := ⟨⟨by decide +kernel, by decide +kernel⟩, List.mem_of_getElem? (i := 11) (by decide +kernel), List.mem_of_getElem? (i := 424) (by decide +kernel), List.mem_of_getElem? (i := 425) (by decide +kernel)⟩
theorem lw_p8 : lw_okq (⟨"SpringFarms", "foundAt", "(I)I"⟩, 12) := ⟨⟨by decide +kernel, by decide +kernel⟩, List.mem_of_getElem? (i := 11) (by decide +kernel), List.mem_of_getElem? (i := 428) (by decide +kernel), List.mem_of_getElem? (i := 429) (by decide +kernel)⟩
theorem lw_p9 : lw_okq (⟨"SpringFarms", "mostLeft", "(I)I"⟩, 12) := ⟨⟨by decide +kernel, by decide +kernel⟩, List.mem_of_getElem? (i := 11) (by decide +kernel), List.mem_of_getElem? (i := 440) (by decide +kernel), List.mem_of_getElem? (i := 441) (by decide +kernel)⟩
theorem lw_p10 : lw_okq (⟨"SpringFarms", "gather", "(I)I"⟩, 12) := ⟨⟨by decide +kernel, by decide +kernel⟩, List.mem_of_getElem? (i := 11) (by decide +kernel), List.mem_of_getElem? (i := 454) (by decide +kernel), List.mem_of_getElem? (i := 455) (by decide +kernel)⟩
theorem lw_p11 : lw_okq (⟨"SpringFarms", "weighRows", "(I)I"⟩, 12) := ⟨⟨by decide +kernel, by decide +kernel⟩, List.mem_of_getElem? (i := 11) (by decide +kernel), List.mem_of_getElem? (i := 458) (by decide +kernel), List.mem_of_getElem? (i := 459) (by decide +kernel)⟩
theorem lw_p12 : lw_okq (⟨"SpringFarms", "isAtRest", "(II)Z"⟩, 12) := ⟨⟨by decide +kernel, by decide +kernel⟩, List.mem_of_getElem? (i := 11) (by decide +kernel), List.mem_of_getElem? (i := 466) (by decide +kernel), List.mem_of_getElem? (i := 467) (by decide +kernel)⟩
theorem lw_p13 : lw_okq (⟨"SpringFarms", "toldOfFarm", "(I)I"⟩, 12) := ⟨⟨by decide +kernel, by decide +kernel⟩, List.mem_of_getElem? (i := 11) (by decide +kernel), List.mem_of_getElem? (i := 516) (by decide +kernel), List.mem_of_getElem? (i := 517) (by decide +kernel)⟩
theorem lw_p14 : lw_okq (⟨"SpringFarmsModel", "begin", "(I)V"⟩, 32) := ⟨⟨by decide +kernel, by decide +kernel⟩, List.mem_of_getElem? (i := 520) (by decide +kernel), List.mem_of_getElem? (i := 526) (by decide +kernel), List.mem_of_getElem? (i := 527) (by decide +kernel)⟩
theorem lw_p15 : lw_okq (⟨"SpringFarmsModel", "isFarm", "(I)Z"⟩, 32) := ⟨⟨by decide +kernel, by decide +kernel⟩, List.mem_of_getElem? (i := 520) (by decide +kernel), List.mem_of_getElem? (i := 643) (by decide +kernel), List.mem_of_getElem? (i := 644) (by decide +kernel)⟩
def lw_privs_1 : List (MethodName × Nat) := [(⟨"SpringFarms", "liveDay", "()I"⟩, 12), (⟨"SpringFarms", "allHaveIn", "(I)Z"⟩, 12), (⟨"SpringFarms", "takenIfBoredAt", "(III)I"⟩, 12), (⟨"SpringFarms", "isFair", "(I)Z"⟩, 12), (⟨"SpringFarms", "findLeaks", "()V"⟩, 12), (⟨"SpringFarms", "fitsIf", "(III)Z"⟩, 12), (⟨"SpringFarms", "note", "(I)V"⟩, 12), (⟨"SpringFarms", "tallyTaken", "()V"⟩, 12), (⟨"SpringFarms", "foundAt", "(I)I"⟩, 12), (⟨"SpringFarms", "mostLeft", "(I)I"⟩, 12), (⟨"SpringFarms", "gather", "(I)I"⟩, 12), (⟨"SpringFarms", "weighRows", "(I)I"⟩, 12), (⟨"SpringFarms", "isAtRest", "(II)Z"⟩, 12), (⟨"SpringFarms", "toldOfFarm", "(I)I"⟩, 12), (⟨"SpringFarmsModel", "begin", "(I)V"⟩, 32), (⟨"SpringFarmsModel", "isFarm", "(I)Z"⟩, 32)]
theorem lw_r1 : ∀ q ∈ lw_privs_1, lw_okq q := List.forall_mem_cons.mpr ⟨lw_p0, List.forall_mem_cons.mpr ⟨lw_p1, List.forall_mem_cons.mpr ⟨lw_p2, List.forall_mem_cons.mpr ⟨lw_p3, List.forall_mem_cons.mpr ⟨lw_p4, List.forall_mem_cons.mpr ⟨lw_p5, List.forall_mem_cons.mpr ⟨lw_p6, List.forall_mem_cons.mpr ⟨lw_p7, List.forall_mem_cons.mpr ⟨lw_p8, List.forall_mem_cons.mpr ⟨lw_p9, List.forall_mem_cons.mpr ⟨lw_p10, List.forall_mem_cons.mpr ⟨lw_p11, List.forall_mem_cons.mpr ⟨lw_p12, List.forall_mem_cons.mpr ⟨lw_p13, List.forall_mem_cons.mpr ⟨lw_p14, List.forall_mem_cons.mpr ⟨lw_p15, fun _ h => absurd h List.not_mem_nil⟩⟩⟩⟩⟩⟩⟩⟩⟩⟩⟩⟩⟩⟩⟩⟩
theorem lw_p16 : lw_okq (⟨"SpringFarmsModel", "refusal", "()I"⟩, 32) := ⟨⟨by decide +kernel, by decide +kernel⟩, List.mem_of_getElem? (i := 520) (by decide +kernel), List.mem_of_getElem? (i := 682) (by decide +kernel), List.mem_of_getElem? (i := 683) (by decide +kernel)⟩
theorem lw_p17 : lw_okq (⟨"SpringFarmsModel", "keepNow", "()V"⟩, 32) := ⟨⟨by decide +kernel, by decide +kernel⟩, List.mem_of_getElem? (i := 520) (by decide +kernel), List.mem_of_getElem? (i := 687) (by decide +kernel), List.mem_of_getElem? (i := 688) (by decide +kernel)⟩
theorem lw_p18 : lw_okq (⟨"SpringFarmsModel", "goDay", "()V"⟩, 32) := ⟨⟨by decide +kernel, by decide +kernel⟩, List.mem_of_getElem? (i := 520) (by decide +kernel), List.mem_of_getElem? (i := 691) (by decide +kernel), List.mem_of_getElem? (i := 692) (by decide +kernel)⟩
theorem lw_p19 : lw_okq (⟨"SpringFarmsModel", "lookWhoHas", "()V"⟩, 32) := ⟨⟨by decide +kernel, by decide +kernel⟩, List.mem_of_getElem? (i := 520) (by decide +kernel), List.mem_of_getElem? (i := 695) (by decide +kernel), List.mem_of_getElem? (i := 696) (by decide +kernel)⟩
theorem lw_p20 : lw_okq (⟨"SpringFarmsModel", "passHour", "(I)V"⟩, 32) := ⟨⟨by decide +kernel, by decide +kernel⟩, List.mem_of_getElem? (i := 520) (by decide +kernel), List.mem_of_getElem? (i := 699) (by decide +kernel), List.mem_of_getElem? (i := 700) (by decide +kernel)⟩
theorem lw_p21 : lw_okq (⟨"SpringFarmsModel", "flow", "(I)V"⟩, 32) := ⟨⟨by decide +kernel, by decide +kernel⟩, List.mem_of_getElem? (i := 520) (by decide +kernel), List.mem_of_getElem? (i := 703) (by decide +kernel), List.mem_of_getElem? (i := 704) (by decide +kernel)⟩
theorem lw_p22 : lw_okq (⟨"SpringFarmsModel", "takenAt", "(III)I"⟩, 32) := ⟨⟨by decide +kernel, by decide +kernel⟩, List.mem_of_getElem? (i := 520) (by decide +kernel), List.mem_of_getElem? (i := 707) (by decide +kernel), List.mem_of_getElem? (i := 708) (by decide +kernel)⟩
theorem lw_p23 : lw_okq (⟨"SpringFarmsModel", "deed", "(II)I"⟩, 32) := ⟨⟨by decide +kernel, by decide +kernel⟩, List.mem_of_getElem? (i := 520) (by decide +kernel), List.mem_of_getElem? (i := 711) (by decide +kernel), List.mem_of_getElem? (i := 712) (by decide +kernel)⟩
theorem lw_p24 : lw_okq (⟨"SpringFarmsModel", "putBack", "()V"⟩, 32) := ⟨⟨by decide +kernel, by decide +kernel⟩, List.mem_of_getElem? (i := 520) (by decide +kernel), List.mem_of_getElem? (i := 715) (by decide +kernel), List.mem_of_getElem? (i := 716) (by decide +kernel)⟩
theorem lw_p25 : lw_okq (⟨"SpringFarmsModel", "layNow", "()V"⟩, 32) := ⟨⟨by decide +kernel, by decide +kernel⟩, List.mem_of_getElem? (i := 520) (by decide +kernel), List.mem_of_getElem? (i := 748) (by decide +kernel), List.mem_of_getElem? (i := 749) (by decide +kernel)⟩
theorem lw_p26 : lw_okq (⟨"SpringFarmsModel", "hoursNow", "()I"⟩, 32) := ⟨⟨by decide +kernel, by decide +kernel⟩, List.mem_of_getElem? (i := 520) (by decide +kernel), List.mem_of_getElem? (i := 756) (by decide +kernel), List.mem_of_getElem? (i := 757) (by decide +kernel)⟩
theorem lw_p27 : lw_okq (⟨"SpringFarmsModel", "wanting", "(I)I"⟩, 32) := ⟨⟨by decide +kernel, by decide +kernel⟩, List.mem_of_getElem? (i := 520) (by decide +kernel), List.mem_of_getElem? (i := 760) (by decide +kernel), List.mem_of_getElem? (i := 761) (by decide +kernel)⟩
theorem lw_p28 : lw_okq (⟨"SpringFarmsModel", "isEnoughIn", "(I)Z"⟩, 32) := ⟨⟨by decide +kernel, by decide +kernel⟩, List.mem_of_getElem? (i := 520) (by decide +kernel), List.mem_of_getElem? (i := 772) (by decide +kernel), List.mem_of_getElem? (i := 773) (by decide +kernel)⟩
theorem lw_p29 : lw_okq (⟨"SpringFarmsModel", "takesNew", "(III)I"⟩, 32) := ⟨⟨by decide +kernel, by decide +kernel⟩, List.mem_of_getElem? (i := 520) (by decide +kernel), List.mem_of_getElem? (i := 788) (by decide +kernel), List.mem_of_getElem? (i := 789) (by decide +kernel)⟩
theorem lw_p30 : lw_okq (⟨"SpringFarmsModel", "isFairBy", "(I)Z"⟩, 32) := ⟨⟨by decide +kernel, by decide +kernel⟩, List.mem_of_getElem? (i := 520) (by decide +kernel), List.mem_of_getElem? (i := 796) (by decide +kernel), List.mem_of_getElem? (i := 797) (by decide +kernel)⟩
theorem lw_p31 : lw_okq (⟨"SpringFarmsModel", "leaksBy", "(II)Z"⟩, 32) := ⟨⟨by decide +kernel, by decide +kernel⟩, List.mem_of_getElem? (i := 520) (by decide +kernel), List.mem_of_getElem? (i := 816) (by decide +kernel), List.mem_of_getElem? (i := 817) (by decide +kernel)⟩
def lw_privs_2 : List (MethodName × Nat) := [(⟨"SpringFarmsModel", "refusal", "()I"⟩, 32), (⟨"SpringFarmsModel", "keepNow", "()V"⟩, 32), (⟨"SpringFarmsModel", "goDay", "()V"⟩, 32), (⟨"SpringFarmsModel", "lookWhoHas", "()V"⟩, 32), (⟨"SpringFarmsModel", "passHour", "(I)V"⟩, 32), (⟨"SpringFarmsModel", "flow", "(I)V"⟩, 32), (⟨"SpringFarmsModel", "takenAt", "(III)I"⟩, 32), (⟨"SpringFarmsModel", "deed", "(II)I"⟩, 32), (⟨"SpringFarmsModel", "putBack", "()V"⟩, 32), (⟨"SpringFarmsModel", "layNow", "()V"⟩, 32), (⟨"SpringFarmsModel", "hoursNow", "()I"⟩, 32), (⟨"SpringFarmsModel", "wanting", "(I)I"⟩, 32), (⟨"SpringFarmsModel", "isEnoughIn", "(I)Z"⟩, 32), (⟨"SpringFarmsModel", "takesNew", "(III)I"⟩, 32), (⟨"SpringFarmsModel", "isFairBy", "(I)Z"⟩, 32), (⟨"SpringFarmsModel", "leaksBy", "(II)Z"⟩, 32)]
theorem lw_r2 : ∀ q ∈ lw_privs_2, lw_okq q := List.forall_mem_cons.mpr ⟨lw_p16, List.forall_mem_cons.mpr ⟨lw_p17, List.forall_mem_cons.mpr ⟨lw_p18, List.forall_mem_cons.mpr ⟨lw_p19, List.forall_mem_cons.mpr ⟨lw_p20, List.forall_mem_cons.mpr ⟨lw_p21, List.forall_mem_cons.mpr ⟨lw_p22, List.forall_mem_cons.mpr ⟨lw_p23, List.forall_mem_cons.mpr ⟨lw_p24, List.forall_mem_cons.mpr ⟨lw_p25, List.forall_mem_cons.mpr ⟨lw_p26, List.forall_mem_cons.mpr ⟨lw_p27, List.forall_mem_cons.mpr ⟨lw_p28, List.forall_mem_cons.mpr ⟨lw_p29, List.forall_mem_cons.mpr ⟨lw_p30, List.forall_mem_cons.mpr ⟨lw_p31, fun _ h => absurd h List.not_mem_nil⟩⟩⟩⟩⟩⟩⟩⟩⟩⟩⟩⟩⟩⟩⟩⟩
theorem lw_p32 : lw_okq (⟨"SpringFarmsModel", "isHeardSo", "()Z"⟩, 32) := ⟨⟨by decide +kernel, by decide +kernel⟩, List.mem_of_getElem? (i := 520) (by decide +kernel), List.mem_of_getElem? (i := 820) (by decide +kernel), List.mem_of_getElem? (i := 821) (by decide +kernel)⟩
theorem lw_p33 : lw_okq (⟨"SpringFarmsModel", "mostLeftAt", "(I)I"⟩, 32) := ⟨⟨by decide +kernel, by decide +kernel⟩, List.mem_of_getElem? (i := 520) (by decide +kernel), List.mem_of_getElem? (i := 832) (by decide +kernel), List.mem_of_getElem? (i := 833) (by decide +kernel)⟩
theorem lw_p34 : lw_okq (⟨"SpringFarmsModel", "layMembers", "(I)V"⟩, 32) := ⟨⟨by decide +kernel, by decide +kernel⟩, List.mem_of_getElem? (i := 520) (by decide +kernel), List.mem_of_getElem? (i := 843) (by decide +kernel), List.mem_of_getElem? (i := 844) (by decide +kernel)⟩
theorem lw_p35 : lw_okq (⟨"SpringFarmsModel", "layWidths", "(I)I"⟩, 32) := ⟨⟨by decide +kernel, by decide +kernel⟩, List.mem_of_getElem? (i := 520) (by decide +kernel), List.mem_of_getElem? (i := 847) (by decide +kernel), List.mem_of_getElem? (i := 848) (by decide +kernel)⟩
theorem lw_p36 : lw_okq (⟨"SpringFarmsModel", "isRest", "()Z"⟩, 32) := ⟨⟨by decide +kernel, by decide +kernel⟩, List.mem_of_getElem? (i := 520) (by decide +kernel), List.mem_of_getElem? (i := 851) (by decide +kernel), List.mem_of_getElem? (i := 852) (by decide +kernel)⟩
theorem lw_p37 : lw_okq (⟨"SpringFarmsModel", "gainOf", "(II)I"⟩, 32) := ⟨⟨by decide +kernel, by decide +kernel⟩, List.mem_of_getElem? (i := 520) (by decide +kernel), List.mem_of_getElem? (i := 855) (by decide +kernel), List.mem_of_getElem? (i := 856) (by decide +kernel)⟩
theorem lw_p38 : lw_okq (⟨"SpringFarmsModel", "passAll", "()V"⟩, 32) := ⟨⟨by decide +kernel, by decide +kernel⟩, List.mem_of_getElem? (i := 520) (by decide +kernel), List.mem_of_getElem? (i := 888) (by decide +kernel), List.mem_of_getElem? (i := 889) (by decide +kernel)⟩
theorem lw_p39 : lw_okq (⟨"SpringFarmsModel", "pass", "(I)I"⟩, 32) := ⟨⟨by decide +kernel, by decide +kernel⟩, List.mem_of_getElem? (i := 520) (by decide +kernel), List.mem_of_getElem? (i := 892) (by decide +kernel), List.mem_of_getElem? (i := 893) (by decide +kernel)⟩
def lw_privs_3 : List (MethodName × Nat) := [(⟨"SpringFarmsModel", "isHeardSo", "()Z"⟩, 32), (⟨"SpringFarmsModel", "mostLeftAt", "(I)I"⟩, 32), (⟨"SpringFarmsModel", "layMembers", "(I)V"⟩, 32), (⟨"SpringFarmsModel", "layWidths", "(I)I"⟩, 32), (⟨"SpringFarmsModel", "isRest", "()Z"⟩, 32), (⟨"SpringFarmsModel", "gainOf", "(II)I"⟩, 32), (⟨"SpringFarmsModel", "passAll", "()V"⟩, 32), (⟨"SpringFarmsModel", "pass", "(I)I"⟩, 32)]
theorem lw_r3 : ∀ q ∈ lw_privs_3, lw_okq q := List.forall_mem_cons.mpr ⟨lw_p32, List.forall_mem_cons.mpr ⟨lw_p33, List.forall_mem_cons.mpr ⟨lw_p34, List.forall_mem_cons.mpr ⟨lw_p35, List.forall_mem_cons.mpr ⟨lw_p36, List.forall_mem_cons.mpr ⟨lw_p37, List.forall_mem_cons.mpr ⟨lw_p38, List.forall_mem_cons.mpr ⟨lw_p39, fun _ h => absurd h List.not_mem_nil⟩⟩⟩⟩⟩⟩⟩⟩
def lw_privs : List (MethodName × Nat) := lw_privs_1 ++ (lw_privs_2 ++ (lw_privs_3))
def lw_tbl : List Cond := k2_sels lw_privs ++ tables_1
theorem lw_privs_ok : ∀ q ∈ lw_privs, lw_okq q := by
  show ∀ q ∈ lw_privs_1 ++ (lw_privs_2 ++ (lw_privs_3)), lw_okq q
  exact List.forall_mem_append.mpr ⟨lw_r1, List.forall_mem_append.mpr ⟨lw_r2, lw_r3⟩⟩
def RX0 : String := "SpringFarms$Course"
def TX0 : u_T := fun k => match k with
  | 0 => ("SpringFarms$Course", "row", "LSpringFarms$Row;", true)
  | 1 => ("SpringFarms$Course", "hour", "LSpringFarms$Hour;", true)
  | 2 => ("SpringFarms$Course", "enoughAt", "[I", true)
  | 3 => ("SpringFarms$Course", "badPart", "I", false)
  | 4 => ("SpringFarms$Course", "why", "I", false)
  | _ => ("SpringFarms$Course", "hourCount", "I", false)
def tyX0 : Nat → FieldType := fun k => match k with
  | 0 => .object "SpringFarms$Row"
  | 1 => .object "SpringFarms$Hour"
  | 2 => .array .int
  | 3 => .int
  | 4 => .int
  | _ => .int
theorem nmX0 : ∀ a, a < 6 → ∀ b, b < 6 → a ≠ b → (TX0 a).2.1 ≠ (TX0 b).2.1 := by decide +kernel
theorem tyX0_ok : ∀ k, k < 6 → parseFieldDescriptor (TX0 k).2.2.1 = some (tyX0 k) := by decide +kernel
abbrev cX0_init : ByteArray := prog_2_method_1_code
def yX0_init : MethodName := ⟨RX0, "<init>", "()V"⟩
abbrev cX0_live : ByteArray := prog_2_method_2_code
def yX0_live : MethodName := ⟨RX0, "live", "(LSpringFarms$Row;LSpringFarms$Day;)V"⟩
abbrev cX0_pass : ByteArray := prog_2_method_3_code
def yX0_pass : MethodName := ⟨RX0, "pass", "(II)V"⟩
abbrev cX0_noteEnough : ByteArray := prog_2_method_4_code
def yX0_noteEnough : MethodName := ⟨RX0, "noteEnough", "()V"⟩
def RX1 : String := "SpringFarms$Day"
def TX1 : u_T := fun k => match k with
  | 0 => ("SpringFarms$Day", "signs", "[I", true)
  | 1 => ("SpringFarms$Day", "length", "I", false)
  | 2 => ("SpringFarms$Day", "acts", "[I", true)
  | 3 => ("SpringFarms$Day", "farmOf", "[I", true)
  | _ => ("SpringFarms$Day", "parts", "I", false)
def tyX1 : Nat → FieldType := fun k => match k with
  | 0 => .array .int
  | 1 => .int
  | 2 => .array .int
  | 3 => .array .int
  | _ => .int
theorem nmX1 : ∀ a, a < 5 → ∀ b, b < 5 → a ≠ b → (TX1 a).2.1 ≠ (TX1 b).2.1 := by decide +kernel
theorem tyX1_ok : ∀ k, k < 5 → parseFieldDescriptor (TX1 k).2.2.1 = some (tyX1 k) := by decide +kernel
abbrev cX1_init : ByteArray := prog_3_method_1_code
def yX1_init : MethodName := ⟨RX1, "<init>", "()V"⟩
abbrev cX1_add : ByteArray := prog_3_method_2_code
def yX1_add : MethodName := ⟨RX1, "add", "(I)V"⟩
abbrev cX1_read : ByteArray := prog_3_method_3_code
def yX1_read : MethodName := ⟨RX1, "read", "(I)I"⟩
abbrev cX1_actOn : ByteArray := prog_3_method_4_code
def yX1_actOn : MethodName := ⟨RX1, "actOn", "(I)I"⟩
abbrev cX1_hourOf : ByteArray := prog_3_method_5_code
def yX1_hourOf : MethodName := ⟨RX1, "hourOf", "(I)I"⟩
def RX2 : String := "SpringFarms$Hour"
def TX2 : u_T := fun k => match k with
  | 0 => ("SpringFarms$Hour", "taken", "[I", true)
  | 1 => ("SpringFarms$Hour", "levels", "[I", true)
  | _ => ("SpringFarms$Hour", "left", "I", false)
def tyX2 : Nat → FieldType := fun k => match k with
  | 0 => .array .int
  | 1 => .array .int
  | _ => .int
theorem nmX2 : ∀ a, a < 3 → ∀ b, b < 3 → a ≠ b → (TX2 a).2.1 ≠ (TX2 b).2.1 := by decide +kernel
theorem tyX2_ok : ∀ k, k < 3 → parseFieldDescriptor (TX2 k).2.2.1 = some (tyX2 k) := by decide +kernel
abbrev cX2_init : ByteArray := prog_4_method_1_code
def yX2_init : MethodName := ⟨RX2, "<init>", "()V"⟩
abbrev cX2_flow : ByteArray := prog_4_method_2_code
def yX2_flow : MethodName := ⟨RX2, "flow", "(LSpringFarms$Row;I)V"⟩
abbrev cX2_sum : ByteArray := prog_4_method_3_code
def yX2_sum : MethodName := ⟨RX2, "sum", "(I)I"⟩
abbrev cX2_someTookNothing : ByteArray := prog_4_method_4_code
def yX2_someTookNothing : MethodName := ⟨RX2, "someTookNothing", "(I)Z"⟩
def RX3 : String := "SpringFarms$Row"
def TX3 : u_T := fun k => match k with
  | 0 => ("SpringFarms$Row", "count", "I", false)
  | 1 => ("SpringFarms$Row", "ditch", "I", false)
  | 2 => ("SpringFarms$Row", "sights", "I", false)
  | 3 => ("SpringFarms$Row", "facts", "[I", true)
  | 4 => ("SpringFarms$Row", "rates", "[I", true)
  | 5 => ("SpringFarms$Row", "sightFarm", "[I", true)
  | _ => ("SpringFarms$Row", "sightTook", "[I", true)
def tyX3 : Nat → FieldType := fun k => match k with
  | 0 => .int
  | 1 => .int
  | 2 => .int
  | 3 => .array .int
  | 4 => .array .int
  | 5 => .array .int
  | _ => .array .int
theorem nmX3 : ∀ a, a < 7 → ∀ b, b < 7 → a ≠ b → (TX3 a).2.1 ≠ (TX3 b).2.1 := by decide +kernel
theorem tyX3_ok : ∀ k, k < 7 → parseFieldDescriptor (TX3 k).2.2.1 = some (tyX3 k) := by decide +kernel
abbrev cX3_init : ByteArray := prog_5_method_1_code
def yX3_init : MethodName := ⟨RX3, "<init>", "()V"⟩
abbrev cX3_begin : ByteArray := prog_5_method_2_code
def yX3_begin : MethodName := ⟨RX3, "begin", "(I)V"⟩
abbrev cX3_copy : ByteArray := prog_5_method_3_code
def yX3_copy : MethodName := ⟨RX3, "copy", "(LSpringFarms$Row;)V"⟩
abbrev cX3_has : ByteArray := prog_5_method_4_code
def yX3_has : MethodName := ⟨RX3, "has", "(I)Z"⟩
abbrev cX3_fact : ByteArray := prog_5_method_5_code
def yX3_fact : MethodName := ⟨RX3, "fact", "(II)I"⟩
abbrev cX3_put : ByteArray := prog_5_method_6_code
def yX3_put : MethodName := ⟨RX3, "put", "(III)V"⟩
abbrev cX3_turnPlug : ByteArray := prog_5_method_7_code
def yX3_turnPlug : MethodName := ⟨RX3, "turnPlug", "(I)V"⟩
abbrev cX3_lack : ByteArray := prog_5_method_8_code
def yX3_lack : MethodName := ⟨RX3, "lack", "(I)I"⟩
abbrev cX3_see : ByteArray := prog_5_method_9_code
def yX3_see : MethodName := ⟨RX3, "see", "(II)V"⟩
abbrev cX3_copyWithNew : ByteArray := prog_5_method_10_code
def yX3_copyWithNew : MethodName := ⟨RX3, "copyWithNew", "(LSpringFarms$Row;III)V"⟩
abbrev cX3_levelAtSpring : ByteArray := prog_5_method_11_code
def yX3_levelAtSpring : MethodName := ⟨RX3, "levelAtSpring", "(I)I"⟩
abbrev cX3_takesNone : ByteArray := prog_5_method_12_code
def yX3_takesNone : MethodName := ⟨RX3, "takesNone", "(II)Z"⟩
abbrev cX3_reasonAgainst : ByteArray := prog_5_method_13_code
def yX3_reasonAgainst : MethodName := ⟨RX3, "reasonAgainst", "(II)I"⟩
abbrev cX3_apply : ByteArray := prog_5_method_14_code
def yX3_apply : MethodName := ⟨RX3, "apply", "(II)V"⟩
abbrev cX3_keep : ByteArray := prog_5_method_15_code
def yX3_keep : MethodName := ⟨RX3, "keep", "(LSpringFarms$Hour;)V"⟩
def RX4 : String := "SpringFarms"
def TX4 : u_T := fun k => match k with
  | 0 => ("SpringFarms", "now", "LSpringFarms$Row;", true)
  | 1 => ("SpringFarms", "trial", "LSpringFarms$Row;", true)
  | 2 => ("SpringFarms", "images", "[LSpringFarms$Row;", true)
  | 3 => ("SpringFarms", "asIs", "LSpringFarms$Hour;", true)
  | 4 => ("SpringFarms", "other", "LSpringFarms$Hour;", true)
  | 5 => ("SpringFarms", "day", "LSpringFarms$Day;", true)
  | 6 => ("SpringFarms", "course", "LSpringFarms$Course;", true)
  | 7 => ("SpringFarms", "tally", "[I", true)
  | 8 => ("SpringFarms", "choosers", "[I", true)
  | 9 => ("SpringFarms", "gains", "[I", true)
  | 10 => ("SpringFarms", "found", "[I", true)
  | _ => ("SpringFarms", "foundCount", "I", false)
def tyX4 : Nat → FieldType := fun k => match k with
  | 0 => .object "SpringFarms$Row"
  | 1 => .object "SpringFarms$Row"
  | 2 => .array (.object "SpringFarms$Row")
  | 3 => .object "SpringFarms$Hour"
  | 4 => .object "SpringFarms$Hour"
  | 5 => .object "SpringFarms$Day"
  | 6 => .object "SpringFarms$Course"
  | 7 => .array .int
  | 8 => .array .int
  | 9 => .array .int
  | 10 => .array .int
  | _ => .int
theorem nmX4 : ∀ a, a < 12 → ∀ b, b < 12 → a ≠ b → (TX4 a).2.1 ≠ (TX4 b).2.1 := by decide +kernel
theorem tyX4_ok : ∀ k, k < 12 → parseFieldDescriptor (TX4 k).2.2.1 = some (tyX4 k) := by decide +kernel
abbrev cX4_init : ByteArray := prog_1_method_1_code
def yX4_init : MethodName := ⟨RX4, "<init>", "()V"⟩
abbrev cX4_farms : ByteArray := prog_1_method_2_code
def yX4_farms : MethodName := ⟨RX4, "farms", "(I)I"⟩
abbrev cX4_farm : ByteArray := prog_1_method_3_code
def yX4_farm : MethodName := ⟨RX4, "farm", "(III)I"⟩
abbrev cX4_set : ByteArray := prog_1_method_4_code
def yX4_set : MethodName := ⟨RX4, "set", "(II)I"⟩
abbrev cX4_say : ByteArray := prog_1_method_5_code
def yX4_say : MethodName := ⟨RX4, "say", "(I)I"⟩
abbrev cX4_wipe : ByteArray := prog_1_method_6_code
def yX4_wipe : MethodName := ⟨RX4, "wipe", "()I"⟩
abbrev cX4_fault : ByteArray := prog_1_method_7_code
def yX4_fault : MethodName := ⟨RX4, "fault", "()I"⟩
abbrev cX4_judge : ByteArray := prog_1_method_8_code
def yX4_judge : MethodName := ⟨RX4, "judge", "(I)I"⟩
abbrev cX4_behind : ByteArray := prog_1_method_9_code
def yX4_behind : MethodName := ⟨RX4, "behind", "(II)I"⟩
abbrev cX4_ditch : ByteArray := prog_1_method_10_code
def yX4_ditch : MethodName := ⟨RX4, "ditch", "()I"⟩
abbrev cX4_done : ByteArray := prog_1_method_11_code
def yX4_done : MethodName := ⟨RX4, "done", "()I"⟩
abbrev cX4_first : ByteArray := prog_1_method_12_code
def yX4_first : MethodName := ⟨RX4, "first", "(I)I"⟩
abbrev cX4_takes : ByteArray := prog_1_method_13_code
def yX4_takes : MethodName := ⟨RX4, "takes", "(II)I"⟩
abbrev cX4_takesIf : ByteArray := prog_1_method_14_code
def yX4_takesIf : MethodName := ⟨RX4, "takesIf", "(II)I"⟩
abbrev cX4_robbed : ByteArray := prog_1_method_15_code
def yX4_robbed : MethodName := ⟨RX4, "robbed", "(I)I"⟩
abbrev cX4_liveDay : ByteArray := prog_1_method_16_code
def yX4_liveDay : MethodName := ⟨RX4, "liveDay", "()I"⟩
abbrev cX4_hours : ByteArray := prog_1_method_17_code
def yX4_hours : MethodName := ⟨RX4, "hours", "()I"⟩
abbrev cX4_spring : ByteArray := prog_1_method_18_code
def yX4_spring : MethodName := ⟨RX4, "spring", "(I)I"⟩
abbrev cX4_narrow : ByteArray := prog_1_method_19_code
def yX4_narrow : MethodName := ⟨RX4, "narrow", "(II)I"⟩
abbrev cX4_highest : ByteArray := prog_1_method_20_code
def yX4_highest : MethodName := ⟨RX4, "highest", "(II)I"⟩
abbrev cX4_bored : ByteArray := prog_1_method_21_code
def yX4_bored : MethodName := ⟨RX4, "bored", "(III)I"⟩
abbrev cX4_fair : ByteArray := prog_1_method_22_code
def yX4_fair : MethodName := ⟨RX4, "fair", "()I"⟩
abbrev cX4_dry : ByteArray := prog_1_method_23_code
def yX4_dry : MethodName := ⟨RX4, "dry", "(I)I"⟩
abbrev cX4_within : ByteArray := prog_1_method_24_code
def yX4_within : MethodName := ⟨RX4, "within", "(II)Z"⟩
abbrev cX4_isHours : ByteArray := prog_1_method_25_code
def yX4_isHours : MethodName := ⟨RX4, "isHours", "(I)Z"⟩
abbrev cX4_allHaveIn : ByteArray := prog_1_method_26_code
def yX4_allHaveIn : MethodName := ⟨RX4, "allHaveIn", "(I)Z"⟩
abbrev cX4_takenIfBoredAt : ByteArray := prog_1_method_27_code
def yX4_takenIfBoredAt : MethodName := ⟨RX4, "takenIfBoredAt", "(III)I"⟩
abbrev cX4_isFair : ByteArray := prog_1_method_28_code
def yX4_isFair : MethodName := ⟨RX4, "isFair", "(I)Z"⟩
abbrev cX4_seen : ByteArray := prog_1_method_29_code
def yX4_seen : MethodName := ⟨RX4, "seen", "(II)I"⟩
abbrev cX4_forget : ByteArray := prog_1_method_30_code
def yX4_forget : MethodName := ⟨RX4, "forget", "()I"⟩
abbrev cX4_leak : ByteArray := prog_1_method_31_code
def yX4_leak : MethodName := ⟨RX4, "leak", "(I)I"⟩
abbrev cX4_borer : ByteArray := prog_1_method_32_code
def yX4_borer : MethodName := ⟨RX4, "borer", "(I)I"⟩
abbrev cX4_listen : ByteArray := prog_1_method_33_code
def yX4_listen : MethodName := ⟨RX4, "listen", "(I)I"⟩
abbrev cX4_rests : ByteArray := prog_1_method_34_code
def yX4_rests : MethodName := ⟨RX4, "rests", "(II)I"⟩
abbrev cX4_frost : ByteArray := prog_1_method_35_code
def yX4_frost : MethodName := ⟨RX4, "frost", "(IIIII)J"⟩
abbrev cX4_year : ByteArray := prog_1_method_36_code
def yX4_year : MethodName := ⟨RX4, "year", "(III)I"⟩
abbrev cX4_image : ByteArray := prog_1_method_37_code
def yX4_image : MethodName := ⟨RX4, "image", "(I)I"⟩
abbrev cX4_restore : ByteArray := prog_1_method_38_code
def yX4_restore : MethodName := ⟨RX4, "restore", "(I)I"⟩
abbrev cX4_told : ByteArray := prog_1_method_39_code
def yX4_told : MethodName := ⟨RX4, "told", "(I)I"⟩
abbrev cX4_toldOfFarm : ByteArray := prog_1_method_40_code
def yX4_toldOfFarm : MethodName := ⟨RX4, "toldOfFarm", "(I)I"⟩
abbrev cX4_fitsIf : ByteArray := prog_1_method_41_code
def yX4_fitsIf : MethodName := ⟨RX4, "fitsIf", "(III)Z"⟩
abbrev cX4_note : ByteArray := prog_1_method_42_code
def yX4_note : MethodName := ⟨RX4, "note", "(I)V"⟩
abbrev cX4_foundAt : ByteArray := prog_1_method_43_code
def yX4_foundAt : MethodName := ⟨RX4, "foundAt", "(I)I"⟩
abbrev cX4_findLeaks : ByteArray := prog_1_method_44_code
def yX4_findLeaks : MethodName := ⟨RX4, "findLeaks", "()V"⟩
abbrev cX4_tallyTaken : ByteArray := prog_1_method_45_code
def yX4_tallyTaken : MethodName := ⟨RX4, "tallyTaken", "()V"⟩
abbrev cX4_mostLeft : ByteArray := prog_1_method_46_code
def yX4_mostLeft : MethodName := ⟨RX4, "mostLeft", "(I)I"⟩
abbrev cX4_gather : ByteArray := prog_1_method_47_code
def yX4_gather : MethodName := ⟨RX4, "gather", "(I)I"⟩
abbrev cX4_stride : ByteArray := prog_1_method_48_code
def yX4_stride : MethodName := ⟨RX4, "stride", "(II)I"⟩
abbrev cX4_weighRows : ByteArray := prog_1_method_49_code
def yX4_weighRows : MethodName := ⟨RX4, "weighRows", "(I)I"⟩
abbrev cX4_isAtRest : ByteArray := prog_1_method_50_code
def yX4_isAtRest : MethodName := ⟨RX4, "isAtRest", "(II)Z"⟩
abbrev cX4_asDigits : ByteArray := prog_1_method_51_code
def yX4_asDigits : MethodName := ⟨RX4, "asDigits", "(I)I"⟩
abbrev cX4_power : ByteArray := prog_1_method_52_code
def yX4_power : MethodName := ⟨RX4, "power", "(II)J"⟩
abbrev cX4_commonDivisor : ByteArray := prog_1_method_53_code
def yX4_commonDivisor : MethodName := ⟨RX4, "commonDivisor", "(JJ)J"⟩
abbrev cX4_kindOfDraw : ByteArray := prog_1_method_54_code
def yX4_kindOfDraw : MethodName := ⟨RX4, "kindOfDraw", "(I)I"⟩
def RX5 : String := "SpringFarmsModel"
def TX5 : u_T := fun k => match k with
  | 0 => ("SpringFarmsModel", "farms", "I", false)
  | 1 => ("SpringFarmsModel", "is", "[I", true)
  | 2 => ("SpringFarmsModel", "spring", "I", false)
  | 3 => ("SpringFarmsModel", "rain", "I", false)
  | 4 => ("SpringFarmsModel", "cows", "I", false)
  | 5 => ("SpringFarmsModel", "ditch", "I", false)
  | 6 => ("SpringFarmsModel", "sightFarm", "[I", true)
  | 7 => ("SpringFarmsModel", "sightTook", "[I", true)
  | 8 => ("SpringFarmsModel", "sights", "I", false)
  | 9 => ("SpringFarmsModel", "pad", "[I", true)
  | 10 => ("SpringFarmsModel", "padMany", "I", false)
  | 11 => ("SpringFarmsModel", "part", "[I", true)
  | 12 => ("SpringFarmsModel", "partFarm", "[I", true)
  | 13 => ("SpringFarmsModel", "parts", "I", false)
  | 14 => ("SpringFarmsModel", "took", "[I", true)
  | 15 => ("SpringFarmsModel", "stood", "[I", true)
  | 16 => ("SpringFarmsModel", "left", "I", false)
  | 17 => ("SpringFarmsModel", "had", "[I", true)
  | 18 => ("SpringFarmsModel", "hadDitch", "I", false)
  | 19 => ("SpringFarmsModel", "badPart", "I", false)
  | 20 => ("SpringFarmsModel", "badWhy", "I", false)
  | 21 => ("SpringFarmsModel", "hours", "I", false)
  | 22 => ("SpringFarmsModel", "firstHour", "[I", true)
  | 23 => ("SpringFarmsModel", "now", "[I", true)
  | 24 => ("SpringFarmsModel", "narrow", "[I", true)
  | 25 => ("SpringFarmsModel", "twos", "[I", true)
  | 26 => ("SpringFarmsModel", "member", "[I", true)
  | 27 => ("SpringFarmsModel", "members", "I", false)
  | 28 => ("SpringFarmsModel", "kept", "[I", true)
  | 29 => ("SpringFarmsModel", "isKept", "[Z", true)
  | 30 => ("SpringFarmsModel", "keptAt", "I", false)
  | _ => ("SpringFarmsModel", "isWriting", "Z", false)
def tyX5 : Nat → FieldType := fun k => match k with
  | 0 => .int
  | 1 => .array .int
  | 2 => .int
  | 3 => .int
  | 4 => .int
  | 5 => .int
  | 6 => .array .int
  | 7 => .array .int
  | 8 => .int
  | 9 => .array .int
  | 10 => .int
  | 11 => .array .int
  | 12 => .array .int
  | 13 => .int
  | 14 => .array .int
  | 15 => .array .int
  | 16 => .int
  | 17 => .array .int
  | 18 => .int
  | 19 => .int
  | 20 => .int
  | 21 => .int
  | 22 => .array .int
  | 23 => .array .int
  | 24 => .array .int
  | 25 => .array .int
  | 26 => .array .int
  | 27 => .int
  | 28 => .array .int
  | 29 => .array .boolean
  | 30 => .int
  | _ => .boolean
theorem nmX5 : ∀ a, a < 32 → ∀ b, b < 32 → a ≠ b → (TX5 a).2.1 ≠ (TX5 b).2.1 := by decide +kernel
theorem tyX5_ok : ∀ k, k < 32 → parseFieldDescriptor (TX5 k).2.2.1 = some (tyX5 k) := by decide +kernel
abbrev cX5_init : ByteArray := prog_7_method_1_code
def yX5_init : MethodName := ⟨RX5, "<init>", "()V"⟩
abbrev cX5_in : ByteArray := prog_7_method_3_code
def yX5_in : MethodName := ⟨RX5, "in", "(JJJ)Z"⟩
abbrev cX5_ones : ByteArray := prog_7_method_4_code
def yX5_ones : MethodName := ⟨RX5, "ones", "(I)I"⟩
abbrev cX5_at : ByteArray := prog_7_method_5_code
def yX5_at : MethodName := ⟨RX5, "at", "(II)I"⟩
abbrev cX5_begin : ByteArray := prog_7_method_6_code
def yX5_begin : MethodName := ⟨RX5, "begin", "(I)V"⟩
abbrev cX5_isFarm : ByteArray := prog_7_method_7_code
def yX5_isFarm : MethodName := ⟨RX5, "isFarm", "(I)Z"⟩
abbrev cX5_farms : ByteArray := prog_7_method_8_code
def yX5_farms : MethodName := ⟨RX5, "farms", "(I)I"⟩
abbrev cX5_greatest : ByteArray := prog_7_method_9_code
def yX5_greatest : MethodName := ⟨RX5, "greatest", "(I)I"⟩
abbrev cX5_farm : ByteArray := prog_7_method_10_code
def yX5_farm : MethodName := ⟨RX5, "farm", "(III)I"⟩
abbrev cX5_set : ByteArray := prog_7_method_11_code
def yX5_set : MethodName := ⟨RX5, "set", "(II)I"⟩
abbrev cX5_say : ByteArray := prog_7_method_12_code
def yX5_say : MethodName := ⟨RX5, "say", "(I)I"⟩
abbrev cX5_wipe : ByteArray := prog_7_method_13_code
def yX5_wipe : MethodName := ⟨RX5, "wipe", "()I"⟩
abbrev cX5_kindOf : ByteArray := prog_7_method_14_code
def yX5_kindOf : MethodName := ⟨RX5, "kindOf", "(I)I"⟩
abbrev cX5_isDeed : ByteArray := prog_7_method_15_code
def yX5_isDeed : MethodName := ⟨RX5, "isDeed", "(I)Z"⟩
abbrev cX5_fault : ByteArray := prog_7_method_16_code
def yX5_fault : MethodName := ⟨RX5, "fault", "()I"⟩
abbrev cX5_takenAt : ByteArray := prog_7_method_17_code
def yX5_takenAt : MethodName := ⟨RX5, "takenAt", "(III)I"⟩
abbrev cX5_flow : ByteArray := prog_7_method_18_code
def yX5_flow : MethodName := ⟨RX5, "flow", "(I)V"⟩
abbrev cX5_passHour : ByteArray := prog_7_method_19_code
def yX5_passHour : MethodName := ⟨RX5, "passHour", "(I)V"⟩
abbrev cX5_keepNow : ByteArray := prog_7_method_20_code
def yX5_keepNow : MethodName := ⟨RX5, "keepNow", "()V"⟩
abbrev cX5_putBack : ByteArray := prog_7_method_21_code
def yX5_putBack : MethodName := ⟨RX5, "putBack", "()V"⟩
abbrev cX5_lookWhoHas : ByteArray := prog_7_method_22_code
def yX5_lookWhoHas : MethodName := ⟨RX5, "lookWhoHas", "()V"⟩
abbrev cX5_deed : ByteArray := prog_7_method_23_code
def yX5_deed : MethodName := ⟨RX5, "deed", "(II)I"⟩
abbrev cX5_goDay : ByteArray := prog_7_method_24_code
def yX5_goDay : MethodName := ⟨RX5, "goDay", "()V"⟩
abbrev cX5_refusal : ByteArray := prog_7_method_25_code
def yX5_refusal : MethodName := ⟨RX5, "refusal", "()I"⟩
abbrev cX5_judge : ByteArray := prog_7_method_26_code
def yX5_judge : MethodName := ⟨RX5, "judge", "(I)I"⟩
abbrev cX5_behind : ByteArray := prog_7_method_27_code
def yX5_behind : MethodName := ⟨RX5, "behind", "(II)I"⟩
abbrev cX5_ditch : ByteArray := prog_7_method_28_code
def yX5_ditch : MethodName := ⟨RX5, "ditch", "()I"⟩
abbrev cX5_done : ByteArray := prog_7_method_29_code
def yX5_done : MethodName := ⟨RX5, "done", "()I"⟩
abbrev cX5_first : ByteArray := prog_7_method_30_code
def yX5_first : MethodName := ⟨RX5, "first", "(I)I"⟩
abbrev cX5_takes : ByteArray := prog_7_method_31_code
def yX5_takes : MethodName := ⟨RX5, "takes", "(II)I"⟩
abbrev cX5_takesIf : ByteArray := prog_7_method_32_code
def yX5_takesIf : MethodName := ⟨RX5, "takesIf", "(II)I"⟩
abbrev cX5_layNow : ByteArray := prog_7_method_33_code
def yX5_layNow : MethodName := ⟨RX5, "layNow", "()V"⟩
abbrev cX5_robbed : ByteArray := prog_7_method_34_code
def yX5_robbed : MethodName := ⟨RX5, "robbed", "(I)I"⟩
abbrev cX5_wanting : ByteArray := prog_7_method_35_code
def yX5_wanting : MethodName := ⟨RX5, "wanting", "(I)I"⟩
abbrev cX5_hoursNow : ByteArray := prog_7_method_36_code
def yX5_hoursNow : MethodName := ⟨RX5, "hoursNow", "()I"⟩
abbrev cX5_isEnoughIn : ByteArray := prog_7_method_37_code
def yX5_isEnoughIn : MethodName := ⟨RX5, "isEnoughIn", "(I)Z"⟩
abbrev cX5_hours : ByteArray := prog_7_method_38_code
def yX5_hours : MethodName := ⟨RX5, "hours", "()I"⟩
abbrev cX5_isTerm : ByteArray := prog_7_method_39_code
def yX5_isTerm : MethodName := ⟨RX5, "isTerm", "(I)Z"⟩
abbrev cX5_spring : ByteArray := prog_7_method_40_code
def yX5_spring : MethodName := ⟨RX5, "spring", "(I)I"⟩
abbrev cX5_narrow : ByteArray := prog_7_method_41_code
def yX5_narrow : MethodName := ⟨RX5, "narrow", "(II)I"⟩
abbrev cX5_highest : ByteArray := prog_7_method_42_code
def yX5_highest : MethodName := ⟨RX5, "highest", "(II)I"⟩
abbrev cX5_takesNew : ByteArray := prog_7_method_43_code
def yX5_takesNew : MethodName := ⟨RX5, "takesNew", "(III)I"⟩
abbrev cX5_bored : ByteArray := prog_7_method_44_code
def yX5_bored : MethodName := ⟨RX5, "bored", "(III)I"⟩
abbrev cX5_isFairBy : ByteArray := prog_7_method_45_code
def yX5_isFairBy : MethodName := ⟨RX5, "isFairBy", "(I)Z"⟩
abbrev cX5_fair : ByteArray := prog_7_method_46_code
def yX5_fair : MethodName := ⟨RX5, "fair", "()I"⟩
abbrev cX5_dry : ByteArray := prog_7_method_47_code
def yX5_dry : MethodName := ⟨RX5, "dry", "(I)I"⟩
abbrev cX5_seen : ByteArray := prog_7_method_48_code
def yX5_seen : MethodName := ⟨RX5, "seen", "(II)I"⟩
abbrev cX5_forget : ByteArray := prog_7_method_49_code
def yX5_forget : MethodName := ⟨RX5, "forget", "()I"⟩
abbrev cX5_isHeardSo : ByteArray := prog_7_method_50_code
def yX5_isHeardSo : MethodName := ⟨RX5, "isHeardSo", "()Z"⟩
abbrev cX5_leaksBy : ByteArray := prog_7_method_51_code
def yX5_leaksBy : MethodName := ⟨RX5, "leaksBy", "(II)Z"⟩
abbrev cX5_leak : ByteArray := prog_7_method_52_code
def yX5_leak : MethodName := ⟨RX5, "leak", "(I)I"⟩
abbrev cX5_borer : ByteArray := prog_7_method_53_code
def yX5_borer : MethodName := ⟨RX5, "borer", "(I)I"⟩
abbrev cX5_mostLeftAt : ByteArray := prog_7_method_54_code
def yX5_mostLeftAt : MethodName := ⟨RX5, "mostLeftAt", "(I)I"⟩
abbrev cX5_listen : ByteArray := prog_7_method_55_code
def yX5_listen : MethodName := ⟨RX5, "listen", "(I)I"⟩
abbrev cX5_layMembers : ByteArray := prog_7_method_56_code
def yX5_layMembers : MethodName := ⟨RX5, "layMembers", "(I)V"⟩
abbrev cX5_gainOf : ByteArray := prog_7_method_57_code
def yX5_gainOf : MethodName := ⟨RX5, "gainOf", "(II)I"⟩
abbrev cX5_isRest : ByteArray := prog_7_method_58_code
def yX5_isRest : MethodName := ⟨RX5, "isRest", "()Z"⟩
abbrev cX5_layWidths : ByteArray := prog_7_method_59_code
def yX5_layWidths : MethodName := ⟨RX5, "layWidths", "(I)I"⟩
abbrev cX5_rests : ByteArray := prog_7_method_60_code
def yX5_rests : MethodName := ⟨RX5, "rests", "(II)I"⟩
abbrev cX5_lowest : ByteArray := prog_7_method_61_code
def yX5_lowest : MethodName := ⟨RX5, "lowest", "(JJI)J"⟩
abbrev cX5_power : ByteArray := prog_7_method_62_code
def yX5_power : MethodName := ⟨RX5, "power", "(II)J"⟩
abbrev cX5_frost : ByteArray := prog_7_method_63_code
def yX5_frost : MethodName := ⟨RX5, "frost", "(IIIII)J"⟩
abbrev cX5_kindBy : ByteArray := prog_7_method_64_code
def yX5_kindBy : MethodName := ⟨RX5, "kindBy", "(I)I"⟩
abbrev cX5_year : ByteArray := prog_7_method_65_code
def yX5_year : MethodName := ⟨RX5, "year", "(III)I"⟩
abbrev cX5_pass : ByteArray := prog_7_method_66_code
def yX5_pass : MethodName := ⟨RX5, "pass", "(I)I"⟩
abbrev cX5_passAll : ByteArray := prog_7_method_67_code
def yX5_passAll : MethodName := ⟨RX5, "passAll", "()V"⟩
abbrev cX5_image : ByteArray := prog_7_method_68_code
def yX5_image : MethodName := ⟨RX5, "image", "(I)I"⟩
abbrev cX5_restore : ByteArray := prog_7_method_69_code
def yX5_restore : MethodName := ⟨RX5, "restore", "(I)I"⟩
abbrev cX5_told : ByteArray := prog_7_method_70_code
def yX5_told : MethodName := ⟨RX5, "told", "(I)I"⟩
def RJ6 : String := "java/lang/Integer"
def TJ6 : u_T := fun k => match k with
  | _ => ("", "", "", false)
def tyJ6 : Nat → FieldType := fun k => match k with
  | _ => .int
abbrev cJ6_bitCount_0f7a4 : ByteArray := prog_8_method_49_code
def yJ6_bitCount_0f7a4 : MethodName := ⟨RJ6, "bitCount", "(I)I"⟩
def RJ9 : String := "java/lang/Math"
def TJ9 : u_T := fun k => match k with
  | _ => ("", "", "", false)
def tyJ9 : Nat → FieldType := fun k => match k with
  | _ => .int
abbrev cJ9_max_7cf53 : ByteArray := prog_9_method_65_code
def yJ9_max_7cf53 : MethodName := ⟨RJ9, "max", "(II)I"⟩
abbrev cJ9_max_f86c9 : ByteArray := prog_9_method_66_code
def yJ9_max_f86c9 : MethodName := ⟨RJ9, "max", "(JJ)J"⟩
abbrev cJ9_min_7cf53 : ByteArray := prog_9_method_69_code
def yJ9_min_7cf53 : MethodName := ⟨RJ9, "min", "(II)I"⟩
def RJ10 : String := "java/lang/System"
def TJ10 : u_T := fun k => match k with
  | _ => ("", "", "", false)
def tyJ10 : Nat → FieldType := fun k => match k with
  | _ => .int
def RL : String := "SpringFarmsLaw"
abbrev cL_law : ByteArray := code
def yL_law : MethodName := ⟨RL, "law", "([I)Z"⟩
end
section
/-! ===== the one world of this claim: cells by number; a memory of whole numbers; contracts over it ===== -/
def vi (z : Int) : Value := .int (Int32.ofInt z)
def vl (z : Int) : Value := .long (Int64.ofInt z)
def inr (z : Int) : Prop := -2147483648 ≤ z ∧ z ≤ 2147483647
def inl (z : Int) : Prop := -9223372036854775808 ≤ z ∧ z ≤ 9223372036854775807
def gm (al : Nat → Nat) (v : Value) : Value := match v with
  | .ref i => .ref (al i)
  | v => v
abbrev classes : List vw_C := [(RX0, TX0, 6), (RX1, TX1, 5), (RX2, TX2, 3), (RX3, TX3, 7), (RX4, TX4, 12), (RX5, TX5, 32)]
abbrev MM : Type := Nat → Nat → Int
abbrev NN : Type := Nat → Nat → Bool
-- what a cell is: 0..5 an object of that class, 10 an int array, 11 a boolean array, 12 an array of rows
def kdl : List Nat := [4, 3,10,10,10,10, 3,10,10,10,10, 12, 2,10,10, 2,10,10, 1,10,10,10, 0, 3,10,10,10,10, 2,10,10, 10, 10,10,10,10, 3,10,10,10,10, 3,10,10,10,10, 99,99,99,99, 5, 10,10,10,10,10,10,10,10,10,10,10,10,10,10,10, 11]
def kd (i : Nat) : Nat := kdl.getD i 99
def lnl : List Nat := [12, 7,63,3,8,8, 7,63,3,8,8, 2, 3,9,9, 3,9,9, 5,60,60,60, 6, 7,63,3,8,8, 3,9,9, 9, 90,3,375,450, 7,63,3,8,8, 7,63,3,8,8, 0,0,0,0, 32, 63,8,8,60,60,60,9,9,63,9,9,9,90,9,200, 2]
def ln (i : Nat) : Nat := lnl.getD i 0
def tg4 (k : Nat) : Option Nat := match k with
  | 0 => some 1 | 1 => some 6 | 2 => some 11 | 3 => some 12 | 4 => some 15 | 5 => some 18 | 6 => some 22 | 7 => some 32 | 8 => some 33 | 9 => some 34 | 10 => some 35 | _ => none
def tg5 (k : Nat) : Option Nat := match k with
  | 1 => some 51 | 6 => some 52 | 7 => some 53 | 9 => some 54 | 11 => some 55 | 12 => some 56 | 14 => some 57 | 15 => some 58 | 17 => some 59 | 22 => some 60 | 23 => some 61 | 24 => some 62 | 25 => some 63 | 26 => some 64 | 28 => some 65 | 29 => some 66 | _ => none
/-- the one cell that a slot of references may hold -/
def tg (i k : Nat) : Option Nat := match kd i with
  | 0 => (match k with | 0 => some 23 | 1 => some 28 | 2 => some 31 | _ => none)
  | 1 => (match k with | 0 => some 19 | 2 => some 20 | 3 => some 21 | _ => none)
  | 2 => (match k with | 0 => some (i + 1) | 1 => some (i + 2) | _ => none)
  | 3 => (match k with | 3 => some (i + 1) | 4 => some (i + 2) | 5 => some (i + 3) | 6 => some (i + 4) | _ => none)
  | 4 => tg4 k
  | 5 => tg5 k
  | 12 => (match k with | 0 => some 36 | 1 => some 41 | _ => none)
  | _ => none
-- the static arrays, cells 70 to 74, and what they hold; 80 is the script
def stn : Nat → String := fun k => match k with | 0 => "RATE_AT_FIRST" | 1 => "FACT_AT_FIRST" | 2 => "FACT_MOST" | 3 => "RATE_MOST" | _ => "FACT_BEHIND"
def stl : Nat → List Int := fun k => match k with | 0 => [20, 10, 5] | 1 => [0, 1, 5, 0, 0, 0, 0] | 2 => [50, 9, 99, 1, 1, 9, 999] | 3 => [99, 50, 50] | _ => [6, 0, 1, 4]
def up (I : MM) (i k : Nat) (v : Int) : MM := fun a b => if a = i ∧ b = k then v else I a b
def upN (N : NN) (i k : Nat) : NN := fun a b => if a = i ∧ b = k then false else N a b
def cpI (I : MM) (i sp j dp n : Nat) : MM := fun a b => if a = j ∧ dp ≤ b ∧ b < dp + n then I i (sp + (b - dp)) else I a b
def nwI (I : MM) (i : Nat) : MM := fun a b => if a = i then 0 else I a b
def nwN (N : NN) (i : Nat) : NN := fun a b => if a = i then (tg i b).isSome else N a b
def sv (al : Nat → Nat) (N : NN) (I : MM) (i k : Nat) : Value := match tg i k with
  | some j => if N i k = true then .null else .ref (al j)
  | none => vi (I i k)
def rq (al : Nat → Nat) (N : NN) (i : Nat) : Nat → Option Nat := fun k => match tg i k with
  | some j => if N i k = true then none else some (al j)
  | none => none
def ia (I : MM) (i : Nat) : Nat → Int32 := fun j => Int32.ofInt (I i j)
def ent (cA : Nat → ClassId) (al : Nat → Nat) (N : NN) (I : MM) (i : Nat) : va_E :=
  if kd i = 10 then .inl (cA 0, ln i, .inl (ia I i)) else if kd i = 11 then .inl (cA 1, ln i, .inl (ia I i)) else if kd i = 12 then .inl (cA 2, ln i, .inr (.inr (.inr (.inr (rq al N i))))) else .inr (kd i, (List.range (ln i)).map (sv al N I i))
def wl (cA : Nat → ClassId) (al : Nat → Nat) (K : List Nat) (N : NN) (I : MM) : va_W := K.map (fun i => (al i, ent cA al N I i))
abbrev tysL (cA : Nat → ClassId) : List (ClassId × FieldType) := [(cA 0, .int), (cA 1, .boolean), (cA 2, .object RX3)]
/-- what a whole run keeps: the classes' numbers and slots, the arrays' classes, where the static arrays and the script lie, where the world begins, the launch -/
abbrev GT : Type := va_G × (Nat → ClassId) × (Nat → Nat) × Nat × Launch
abbrev Ab (G : GT) : Nat → Prop := fun q => G.2.2.2.1 ≤ q
def RepW (G : GT) (al : Nat → Nat) (K : List Nat) (N : NN) (I : MM) (H : Heap) : Prop :=
  va_P G.1 classes (wl G.2.1 al K N I) H ∧ va_D (Ab G) (wl G.2.1 al K N I) ∧ (∀ k, al (70 + k) = G.2.2.1 k) ∧ (∀ i, i ∈ K → i < 70) ∧ ∀ i, i ∈ K → ∀ k j, tg i k = some j → N i k = false → j ∈ K
def Wd : List Cond := lw_tbl.filter goodWord
def nests : List Cond := [.fieldLinkNest RX3 24 RX4 "RATE_AT_FIRST" "[I" RX4, .fieldLinkNest RX3 47 RX4 "FACT_AT_FIRST" "[I" RX4, .fieldLinkNest RX3 67 RX4 "FACT_MOST" "[I" RX4, .methodLinkNest RX4 25 yX2_init RX4, .methodLinkNest RX4 35 yX1_init RX4, .methodLinkNest RX4 42 yX0_init RX4, .methodLinkNest RX0 20 yX2_init RX4]
def EnvW (G : GT) (U : State) : Prop := va_K G.1 classes (tysL G.2.1) U ∧ (∀ k, k < 5 → va_Z RX4 (stn k) "[I" (.ref (G.2.2.1 k)) (Ab G) U U.heap ∧ va_T .int (G.2.2.1 k) (stl k).length (fun j => vi ((stl k).getD j 0)) (Ab G) U U.heap) ∧ (∀ w, w ∈ nests → va_Nw w U) ∧ va_AO RX3 U
theorem EnvW.moved {G : GT} {u U : State} (hW : u.WarmedH U.vm) (hz : u.heap.size ≤ U.heap.size) (hq : ∀ a : Nat, a < u.heap.size → ¬ Ab G a → U.heap[a]? = u.heap[a]?) (h : EnvW G u) : EnvW G U := by
  obtain ⟨h1, h2, h3, h4⟩ := h
  refine ⟨h1.moved hW.alike, fun k hk => ⟨((h2 k hk).1.moved hW.alike).kept hq, ((h2 k hk).2.moved hW.alike).kept hq⟩, fun w hw => ?_, ?_⟩
  · have hz := h3 w hw
    simp only [nests, List.mem_cons, List.not_mem_nil, or_false] at hw
    rcases hw with rfl | rfl | rfl | rfl | rfl | rfl | rfl
    · exact va_Nw.warmF hW hz
    · exact va_Nw.warmF hW hz
    · exact va_Nw.warmF hW hz
    · exact va_Nw.warmM hW hz
    · exact va_Nw.warmM hW hz
    · exact va_Nw.warmM hW hz
    · exact va_Nw.warmM hW hz
  · exact va_AO.moved hW.alike h4
-- ==== FRAMES ====
def LocW (al : Nat → Nat) (nL : Nat) (ls : Array Slot) (L : List (Option Value)) : Prop := ls.size = nL ∧ lv_wf ls ∧ L.length ≤ nL ∧ ∀ (i : Nat) (v : Value), L[i]? = some (some v) → ls[i]? = some (.val (gm al v))
def okv (K : List Nat) (v : Value) : Prop := match v with
  | .ref i => i ∈ K ∨ 70 ≤ i
  | _ => True
def okS (K : List Nat) (S : List Value) : Prop := ∀ v, v ∈ S → okv K v
def okL (K : List Nat) (L : List (Option Value)) : Prop := ∀ (i : Nat) (v : Value), L[i]? = some (some v) → okv K v
abbrev FxT : Type := Program × Env × State × MethodId × Array Value × List Frame × Method × Code × (State → Prop) × Nat × (Nat → Nat) × List Nat
def OkW (G : GT) (own : String) (cc : ByteArray) (Fx : FxT) : Prop := match Fx with
  | (p, e, s, m, args, below, meth, c, Q, nL, a0, K0) => p.tables.exec = Jvm.exec ∧ c.code = cc ∧ c.maxLocals = nL ∧ s.vm.findClass own = some m.cls ∧ (∀ w, w ∈ Wd → w.before args s = true) ∧ EnvW G s ∧ (∀ q : Nat, s.heap.size ≤ q → Ab G q)
def StW (G : GT) (a0 : Nat → Nat) (K0 : List Nat) (nL : Nat) (s : State) (al : Nat → Nat) (H : Heap) (locs : List Loc) (ls : Array Slot) (L : List (Option Value)) (S : List Value) (K : List Nat) (N : NN) (I : MM) : Prop :=
  RepW G al K N I H ∧ va_S (Ab G) s.heap H locs ∧ LocW al nL ls L ∧ okL K L ∧ okS K S ∧ (∀ i, (i ∈ K0 ∨ 70 ≤ i) → al i = a0 i) ∧ ∀ i, i ∈ K0 → i ∈ K
def XX (G : GT) (own : String) (cc : ByteArray) (R : Room) (Fx : FxT) (pc : Nat) (L : List (Option Value)) (S : List Value) (K : List Nat) (N : NN) (I : MM) (cs ss : Nat) : Prop := match Fx with
  | (p, e, s, m, args, below, meth, c, Q, nL, a0, K0) => OkW G own cc Fx → ∀ (al : Nat → Nat) (H : Heap) (locs : List Loc) (ls : Array Slot), StW G a0 K0 nL s al H locs ls L S K N I → W p G.2.2.2.2 e R s m args below meth c H locs cs ss Q (F0 m pc ls (S.map (gm al)))
theorem okS.cons {K : List Nat} {S : List Value} {v : Value} (h : okS K S) (hv : okv K v) : okS K (v :: S) := fun w hw => by
  rcases List.mem_cons.mp hw with rfl | hw
  · exact hv
  · exact h w hw
theorem okS.tail {K : List Nat} {S : List Value} {v : Value} (h : okS K (v :: S)) : okS K S := fun w hw => h w (List.mem_cons_of_mem _ hw)
theorem okS.head {K : List Nat} {S : List Value} {v : Value} (h : okS K (v :: S)) : okv K v := h v List.mem_cons_self
theorem StW.to {G : GT} {a0 : Nat → Nat} {K0 : List Nat} {nL : Nat} {s : State} {al : Nat → Nat} {H : Heap} {locs : List Loc} {ls : Array Slot} {L : List (Option Value)} {S S' : List Value} {K : List Nat} {N : NN} {I : MM} (h : StW G a0 K0 nL s al H locs ls L S K N I) (f : okS K S → okS K S') : StW G a0 K0 nL s al H locs ls L S' K N I := ⟨h.1, h.2.1, h.2.2.1, h.2.2.2.1, f h.2.2.2.2.1, h.2.2.2.2.2⟩
theorem oi_toInt {z : Int} (h : inr z) : (Int32.ofInt z).toInt = z := Int32.toInt_ofInt_of_le h.1 (by unfold inr at h; omega)
theorem ol_toInt {z : Int} (h : inl z) : (Int64.ofInt z).toInt = z := Int64.toInt_ofInt_of_le h.1 (by unfold inl at h; omega)
theorem oi_lt {a b : Int} (ha : inr a) (hb : inr b) : Int32.ofInt a < Int32.ofInt b ↔ a < b := by rw [Int32.lt_iff_toInt_lt, oi_toInt ha, oi_toInt hb]
theorem oi_le {a b : Int} (ha : inr a) (hb : inr b) : Int32.ofInt a ≤ Int32.ofInt b ↔ a ≤ b := by rw [Int32.le_iff_toInt_le, oi_toInt ha, oi_toInt hb]
theorem oi_eq {a b : Int} (ha : inr a) (hb : inr b) : Int32.ofInt a = Int32.ofInt b ↔ a = b := by rw [← Int32.toInt_inj, oi_toInt ha, oi_toInt hb]
theorem oi_0 : Int32.ofInt 0 = 0 := rfl
theorem inr0 : inr 0 := by unfold inr; omega
theorem oi_clamp {j : Nat} (h : j < 2147483648) : (Int32.ofInt (j : Int)).toNatClampNeg = j := by
  have h2 : inr (j : Int) := by unfold inr; omega
  show (Int32.ofInt (j : Int)).toInt.toNat = j
  rw [oi_toInt h2]; rfl
theorem oi_in {j n : Nat} (h : j < n) (hn : j < 2147483648) : vp_in (Int32.ofInt (j : Int)) n := by
  intro q
  rcases q with q | q
  · rw [← oi_0, oi_lt (by unfold inr; omega) inr0] at q; omega
  · rw [oi_clamp hn] at q; omega
theorem ln_lt (i : Nat) : ln i < 500 := by
  by_cases h : i < 67
  · exact (by decide : ∀ k, k < 67 → ln k < 500) i h
  · show lnl.getD i 0 < 500
    rw [List.getD_eq_getElem?_getD, List.getElem?_eq_none (by have : lnl.length = 67 := rfl; omega)]
    decide
theorem kd_big {i : Nat} (h : 67 ≤ i) : kd i = 99 := by
  show kdl.getD i 99 = 99
  rw [List.getD_eq_getElem?_getD, List.getElem?_eq_none (by have : kdl.length = 67 := rfl; omega)]
  rfl
theorem okv.mem {K : List Nat} {i : Nat} (h : okv K (.ref i)) (hk : kd i ≠ 99) : i ∈ K := by
  rcases h with h | h
  · exact h
  · exact absurd (kd_big (Nat.le_trans (by decide) (show 70 ≤ i from h))) hk
section FR
variable {G : GT} {own : String} {cc : ByteArray} {R : Room} {Fx : FxT} {pc : Nat} {L : List (Option Value)} {S : List Value} {K : List Nat} {N : NN} {I : MM} {cs ss : Nat}

theorem x_iconst {n : Int} (hd : decode cc pc = .ok (.iconst n, 1)) (h : XX G own cc R Fx (pc + 1) L (vi n :: S) K N I cs ss) : XX G own cc R Fx pc L (S) K N I cs ss := by
  obtain ⟨p, e, s, m, args, below, meth, c, Q, nL, a0, K0⟩ := Fx
  intro ok al H locs ls st
  obtain ⟨hx, hb, hml, hown, hts, hE, hA⟩ := id ok
  have k := h ok al H locs ls (st.to (fun q => q.cons trivial))
  exact lv_iconst hx hb hd rfl k
theorem x_bipush {n : Int} (hd : decode cc pc = .ok (.bipush n, 2)) (hn : -128 ≤ n ∧ n ≤ 127) (h : XX G own cc R Fx (pc + 2) L (vi n :: S) K N I cs ss) : XX G own cc R Fx pc L (S) K N I cs ss := by
  obtain ⟨p, e, s, m, args, below, meth, c, Q, nL, a0, K0⟩ := Fx
  intro ok al H locs ls st
  obtain ⟨hx, hb, hml, hown, hts, hE, hA⟩ := id ok
  have k := h ok al H locs ls (st.to (fun q => q.cons trivial))
  exact lv_bipush hx hb hd (by rw [← Int8.ofInt_toInt (Int8.ofInt n)] ; rw [Int8.toInt_ofInt_of_le (by omega) (by omega)]; exact Int32.toInt_inj.mp (by rw [Int8.toInt_toInt32, Int8.toInt_ofInt_of_le (by omega) (by omega), oi_toInt (by unfold inr; omega)])) k
theorem x_sipush {n : Int} (hd : decode cc pc = .ok (.sipush n, 3)) (hn : -32768 ≤ n ∧ n ≤ 32767) (h : XX G own cc R Fx (pc + 3) L (vi n :: S) K N I cs ss) : XX G own cc R Fx pc L (S) K N I cs ss := by
  obtain ⟨p, e, s, m, args, below, meth, c, Q, nL, a0, K0⟩ := Fx
  intro ok al H locs ls st
  obtain ⟨hx, hb, hml, hown, hts, hE, hA⟩ := id ok
  have k := h ok al H locs ls (st.to (fun q => q.cons trivial))
  exact lv_sipush hx hb hd (Int32.toInt_inj.mp (by rw [Int16.toInt_toInt32, Int16.toInt_ofInt_of_le (by omega) (by omega), oi_toInt (by unfold inr; omega)])) k
theorem x_lconst0  (hd : decode cc pc = .ok (.lconst 0, 1)) (h : XX G own cc R Fx (pc + 1) L (vl 0 :: S) K N I cs ss) : XX G own cc R Fx pc L (S) K N I cs ss := by
  obtain ⟨p, e, s, m, args, below, meth, c, Q, nL, a0, K0⟩ := Fx
  intro ok al H locs ls st
  obtain ⟨hx, hb, hml, hown, hts, hE, hA⟩ := id ok
  have k := h ok al H locs ls (st.to (fun q => q.cons trivial))
  exact lv_lconst hx hb hd rfl k
theorem x_lconst1  (hd : decode cc pc = .ok (.lconst 1, 1)) (h : XX G own cc R Fx (pc + 1) L (vl 1 :: S) K N I cs ss) : XX G own cc R Fx pc L (S) K N I cs ss := by
  obtain ⟨p, e, s, m, args, below, meth, c, Q, nL, a0, K0⟩ := Fx
  intro ok al H locs ls st
  obtain ⟨hx, hb, hml, hown, hts, hE, hA⟩ := id ok
  have k := h ok al H locs ls (st.to (fun q => q.cons trivial))
  exact lv_lconst hx hb hd rfl k
theorem x_ldc {n : Int} {x : Nat} (hd : decode cc pc = .ok (.ldc x, 2)) (hw : Cond.constant own x (Int32.ofInt n) ∈ Wd) (h : XX G own cc R Fx (pc + 2) L (vi n :: S) K N I cs ss) : XX G own cc R Fx pc L (S) K N I cs ss := by
  obtain ⟨p, e, s, m, args, below, meth, c, Q, nL, a0, K0⟩ := Fx
  intro ok al H locs ls st
  obtain ⟨hx, hb, hml, hown, hts, hE, hA⟩ := id ok
  have k := h ok al H locs ls (st.to (fun q => q.cons trivial))
  exact lv_ldc hx hb hown (hts _ hw) hd k
theorem x_ldc2 {n : Int} {x : Nat} (hd : decode cc pc = .ok (.ldc2_w x, 3)) (hw : Cond.constantLong own x (Int64.ofInt n) ∈ Wd) (h : XX G own cc R Fx (pc + 3) L (vl n :: S) K N I cs ss) : XX G own cc R Fx pc L (S) K N I cs ss := by
  obtain ⟨p, e, s, m, args, below, meth, c, Q, nL, a0, K0⟩ := Fx
  intro ok al H locs ls st
  obtain ⟨hx, hb, hml, hown, hts, hE, hA⟩ := id ok
  have k := h ok al H locs ls (st.to (fun q => q.cons trivial))
  exact lv_ldc2 hx hb hown (hts _ hw) hd k
theorem x_iload_n {i : Fin 4} {z : Int} (hd : decode cc pc = .ok (.iload_n i, 1)) (hl : L[(i : Nat)]? = some (some (vi z))) (h : XX G own cc R Fx (pc + 1) L (vi z :: S) K N I cs ss) : XX G own cc R Fx pc L (S) K N I cs ss := by
  obtain ⟨p, e, s, m, args, below, meth, c, Q, nL, a0, K0⟩ := Fx
  intro ok al H locs ls st
  obtain ⟨hx, hb, hml, hown, hts, hE, hA⟩ := id ok
  have k := h ok al H locs ls (st.to (fun q => q.cons (st.2.2.2.1 _ _ hl)))
  exact lv_iload_n hx hb hd rfl (st.2.2.1.2.2.2 _ _ hl) k
theorem x_iload {i : Nat} {z : Int} (hd : decode cc pc = .ok (.iload i, 2)) (hl : L[(i : Nat)]? = some (some (vi z))) (h : XX G own cc R Fx (pc + 2) L (vi z :: S) K N I cs ss) : XX G own cc R Fx pc L (S) K N I cs ss := by
  obtain ⟨p, e, s, m, args, below, meth, c, Q, nL, a0, K0⟩ := Fx
  intro ok al H locs ls st
  obtain ⟨hx, hb, hml, hown, hts, hE, hA⟩ := id ok
  have k := h ok al H locs ls (st.to (fun q => q.cons (st.2.2.2.1 _ _ hl)))
  exact lv_iload hx hb hd (st.2.2.1.2.2.2 _ _ hl) k
theorem x_lload_n {i : Fin 4} {z : Int} (hd : decode cc pc = .ok (.lload_n i, 1)) (hl : L[(i : Nat)]? = some (some (vl z))) (h : XX G own cc R Fx (pc + 1) L (vl z :: S) K N I cs ss) : XX G own cc R Fx pc L (S) K N I cs ss := by
  obtain ⟨p, e, s, m, args, below, meth, c, Q, nL, a0, K0⟩ := Fx
  intro ok al H locs ls st
  obtain ⟨hx, hb, hml, hown, hts, hE, hA⟩ := id ok
  have k := h ok al H locs ls (st.to (fun q => q.cons (st.2.2.2.1 _ _ hl)))
  exact lv_lload_n hx hb hd rfl (st.2.2.1.2.2.2 _ _ hl) k
theorem x_lload {i : Nat} {z : Int} (hd : decode cc pc = .ok (.lload i, 2)) (hl : L[(i : Nat)]? = some (some (vl z))) (h : XX G own cc R Fx (pc + 2) L (vl z :: S) K N I cs ss) : XX G own cc R Fx pc L (S) K N I cs ss := by
  obtain ⟨p, e, s, m, args, below, meth, c, Q, nL, a0, K0⟩ := Fx
  intro ok al H locs ls st
  obtain ⟨hx, hb, hml, hown, hts, hE, hA⟩ := id ok
  have k := h ok al H locs ls (st.to (fun q => q.cons (st.2.2.2.1 _ _ hl)))
  exact lv_lload hx hb hd (st.2.2.1.2.2.2 _ _ hl) k
theorem x_aload_n {i : Fin 4} {z : Nat} (hd : decode cc pc = .ok (.aload_n i, 1)) (hl : L[(i : Nat)]? = some (some (.ref z))) (h : XX G own cc R Fx (pc + 1) L (.ref z :: S) K N I cs ss) : XX G own cc R Fx pc L (S) K N I cs ss := by
  obtain ⟨p, e, s, m, args, below, meth, c, Q, nL, a0, K0⟩ := Fx
  intro ok al H locs ls st
  obtain ⟨hx, hb, hml, hown, hts, hE, hA⟩ := id ok
  have k := h ok al H locs ls (st.to (fun q => q.cons (st.2.2.2.1 _ _ hl)))
  exact lv_aload_n hx hb hd rfl (st.2.2.1.2.2.2 _ _ hl) k
theorem x_aload {i : Nat} {z : Nat} (hd : decode cc pc = .ok (.aload i, 2)) (hl : L[(i : Nat)]? = some (some (.ref z))) (h : XX G own cc R Fx (pc + 2) L (.ref z :: S) K N I cs ss) : XX G own cc R Fx pc L (S) K N I cs ss := by
  obtain ⟨p, e, s, m, args, below, meth, c, Q, nL, a0, K0⟩ := Fx
  intro ok al H locs ls st
  obtain ⟨hx, hb, hml, hown, hts, hE, hA⟩ := id ok
  have k := h ok al H locs ls (st.to (fun q => q.cons (st.2.2.2.1 _ _ hl)))
  exact lv_aload hx hb hd (st.2.2.1.2.2.2 _ _ hl) k
theorem x_aload_nN {i : Fin 4} (hd : decode cc pc = .ok (.aload_n i, 1)) (hl : L[(i : Nat)]? = some (some .null)) (h : XX G own cc R Fx (pc + 1) L (.null :: S) K N I cs ss) : XX G own cc R Fx pc L (S) K N I cs ss := by
  obtain ⟨p, e, s, m, args, below, meth, c, Q, nL, a0, K0⟩ := Fx
  intro ok al H locs ls st
  obtain ⟨hx, hb, hml, hown, hts, hE, hA⟩ := id ok
  have k := h ok al H locs ls (st.to (fun q => q.cons trivial))
  exact lv_aload_nN hx hb hd rfl (st.2.2.1.2.2.2 _ _ hl) k
theorem x_iadd {a b : Int} (hd : decode cc pc = .ok (.iadd, 1)) (h : XX G own cc R Fx (pc + 1) L (vi (a + b) :: S) K N I cs ss) : XX G own cc R Fx pc L (vi b :: vi a :: S) K N I cs ss := by
  obtain ⟨p, e, s, m, args, below, meth, c, Q, nL, a0, K0⟩ := Fx
  intro ok al H locs ls st
  obtain ⟨hx, hb, hml, hown, hts, hE, hA⟩ := id ok
  have k := h ok al H locs ls (st.to (fun q => q.tail.tail.cons trivial))
  exact lv_iadd hx hb hd (by rw [← Int32.ofInt_add]; exact k)
theorem x_isub {a b : Int} (hd : decode cc pc = .ok (.isub, 1)) (h : XX G own cc R Fx (pc + 1) L (vi (a - b) :: S) K N I cs ss) : XX G own cc R Fx pc L (vi b :: vi a :: S) K N I cs ss := by
  obtain ⟨p, e, s, m, args, below, meth, c, Q, nL, a0, K0⟩ := Fx
  intro ok al H locs ls st
  obtain ⟨hx, hb, hml, hown, hts, hE, hA⟩ := id ok
  have k := h ok al H locs ls (st.to (fun q => q.tail.tail.cons trivial))
  exact lv_isub hx hb hd (by rw [← Int32.ofInt_sub]; exact k)
theorem x_imul {a b : Int} (hd : decode cc pc = .ok (.imul, 1)) (h : XX G own cc R Fx (pc + 1) L (vi (a * b) :: S) K N I cs ss) : XX G own cc R Fx pc L (vi b :: vi a :: S) K N I cs ss := by
  obtain ⟨p, e, s, m, args, below, meth, c, Q, nL, a0, K0⟩ := Fx
  intro ok al H locs ls st
  obtain ⟨hx, hb, hml, hown, hts, hE, hA⟩ := id ok
  have k := h ok al H locs ls (st.to (fun q => q.tail.tail.cons trivial))
  exact lv_imul hx hb hd (by rw [← Int32.ofInt_mul]; exact k)
theorem x_ladd {a b : Int} (hd : decode cc pc = .ok (.ladd, 1)) (h : XX G own cc R Fx (pc + 1) L (vl (a + b) :: S) K N I cs ss) : XX G own cc R Fx pc L (vl b :: vl a :: S) K N I cs ss := by
  obtain ⟨p, e, s, m, args, below, meth, c, Q, nL, a0, K0⟩ := Fx
  intro ok al H locs ls st
  obtain ⟨hx, hb, hml, hown, hts, hE, hA⟩ := id ok
  have k := h ok al H locs ls (st.to (fun q => q.tail.tail.cons trivial))
  exact lv_ladd hx hb hd (by rw [← Int64.ofInt_add]; exact k)
theorem x_lmul {a b : Int} (hd : decode cc pc = .ok (.lmul, 1)) (h : XX G own cc R Fx (pc + 1) L (vl (a * b) :: S) K N I cs ss) : XX G own cc R Fx pc L (vl b :: vl a :: S) K N I cs ss := by
  obtain ⟨p, e, s, m, args, below, meth, c, Q, nL, a0, K0⟩ := Fx
  intro ok al H locs ls st
  obtain ⟨hx, hb, hml, hown, hts, hE, hA⟩ := id ok
  have k := h ok al H locs ls (st.to (fun q => q.tail.tail.cons trivial))
  exact lv_lmul hx hb hd (by rw [← Int64.ofInt_mul]; exact k)
theorem oi_ne0 {b : Int} (hb : inr b) (h : b ≠ 0) : ¬ Int32.ofInt b = 0 := by rw [← oi_0, oi_eq hb inr0]; exact h
theorem ol_eq {a b : Int} (ha : inl a) (hb : inl b) : Int64.ofInt a = Int64.ofInt b ↔ a = b := by rw [← Int64.toInt_inj, ol_toInt ha, ol_toInt hb]
theorem ol_ne0 {b : Int} (hb : inl b) (h : b ≠ 0) : ¬ Int64.ofInt b = 0 := by rw [show (0 : Int64) = Int64.ofInt 0 from rfl, ol_eq hb (by unfold inl; omega)]; exact h
theorem oi_div {a b : Int} (ha : 0 ≤ a ∧ inr a) (hb : 0 < b ∧ inr b) : Int32.ofInt a / Int32.ofInt b = Int32.ofInt (a / b) := by
  have hq : inr (a / b) := by
    have h1 : 0 ≤ a / b := Int.ediv_nonneg ha.1 (Int.le_of_lt hb.1)
    have h2 : a / b ≤ a := Int.ediv_le_self b ha.1
    have := ha.2; unfold inr at *; omega
  apply Int32.toInt_inj.mp
  rw [Int32.toInt_div_of_ne_right _ _ (by rw [show (-1 : Int32) = Int32.ofInt (-1) from rfl, Ne, oi_eq hb.2 (by unfold inr; omega)]; omega), oi_toInt ha.2, oi_toInt hb.2, oi_toInt hq, Int.tdiv_eq_ediv_of_nonneg ha.1]
theorem ol_div {a b : Int} (ha : 0 ≤ a ∧ inl a) (hb : 0 < b ∧ inl b) : Int64.ofInt a / Int64.ofInt b = Int64.ofInt (a / b) := by
  have hq : inl (a / b) := by
    have h1 : 0 ≤ a / b := Int.ediv_nonneg ha.1 (Int.le_of_lt hb.1)
    have h2 : a / b ≤ a := Int.ediv_le_self b ha.1
    have := ha.2; unfold inl at *; omega
  apply Int64.toInt_inj.mp
  rw [Int64.toInt_div_of_ne_right _ _ (by rw [show (-1 : Int64) = Int64.ofInt (-1) from rfl, Ne, ol_eq hb.2 (by unfold inl; omega)]; omega), ol_toInt ha.2, ol_toInt hb.2, ol_toInt hq, Int.tdiv_eq_ediv_of_nonneg ha.1]
theorem oi_rem {a b : Int} (ha : 0 ≤ a ∧ inr a) (hb : 0 < b ∧ inr b) : Int32.ofInt a - Int32.ofInt a / Int32.ofInt b * Int32.ofInt b = Int32.ofInt (a % b) := by
  rw [oi_div ha hb, ← Int32.ofInt_mul, ← Int32.ofInt_sub]
  congr 1
  rw [Int.emod_def, Int.mul_comm b]
theorem ol_rem {a b : Int} (ha : 0 ≤ a ∧ inl a) (hb : 0 < b ∧ inl b) : Int64.ofInt a - Int64.ofInt a / Int64.ofInt b * Int64.ofInt b = Int64.ofInt (a % b) := by
  rw [ol_div ha hb, ← Int64.ofInt_mul, ← Int64.ofInt_sub]
  congr 1
  rw [Int.emod_def, Int.mul_comm b]
theorem x_idiv {a b : Int} (hd : decode cc pc = .ok (.idiv, 1)) (ha : 0 ≤ a ∧ inr a) (hz : 0 < b ∧ inr b) (h : XX G own cc R Fx (pc + 1) L (vi (a / b) :: S) K N I cs ss) : XX G own cc R Fx pc L (vi b :: vi a :: S) K N I cs ss := by
  obtain ⟨p, e, s, m, args, below, meth, c, Q, nL, a0, K0⟩ := Fx
  intro ok al H locs ls st
  obtain ⟨hx, hb, hml, hown, hts, hE, hA⟩ := id ok
  have k := h ok al H locs ls (st.to (fun q => q.tail.tail.cons trivial))
  exact lv_idiv hx hb hd (oi_ne0 hz.2 (by omega)) (by rw [oi_div ha hz]; exact k)
theorem x_irem {a b : Int} (hd : decode cc pc = .ok (.irem, 1)) (ha : 0 ≤ a ∧ inr a) (hz : 0 < b ∧ inr b) (h : XX G own cc R Fx (pc + 1) L (vi (a % b) :: S) K N I cs ss) : XX G own cc R Fx pc L (vi b :: vi a :: S) K N I cs ss := by
  obtain ⟨p, e, s, m, args, below, meth, c, Q, nL, a0, K0⟩ := Fx
  intro ok al H locs ls st
  obtain ⟨hx, hb, hml, hown, hts, hE, hA⟩ := id ok
  have k := h ok al H locs ls (st.to (fun q => q.tail.tail.cons trivial))
  exact lv_irem hx hb hd (oi_ne0 hz.2 (by omega)) (by rw [oi_rem ha hz]; exact k)
theorem x_ldiv {a b : Int} (hd : decode cc pc = .ok (.ldiv, 1)) (ha : 0 ≤ a ∧ inl a) (hz : 0 < b ∧ inl b) (h : XX G own cc R Fx (pc + 1) L (vl (a / b) :: S) K N I cs ss) : XX G own cc R Fx pc L (vl b :: vl a :: S) K N I cs ss := by
  obtain ⟨p, e, s, m, args, below, meth, c, Q, nL, a0, K0⟩ := Fx
  intro ok al H locs ls st
  obtain ⟨hx, hb, hml, hown, hts, hE, hA⟩ := id ok
  have k := h ok al H locs ls (st.to (fun q => q.tail.tail.cons trivial))
  exact lv_ldiv hx hb hd (ol_ne0 hz.2 (by omega)) (by rw [ol_div ha hz]; exact k)
theorem x_lrem {a b : Int} (hd : decode cc pc = .ok (.lrem, 1)) (ha : 0 ≤ a ∧ inl a) (hz : 0 < b ∧ inl b) (h : XX G own cc R Fx (pc + 1) L (vl (a % b) :: S) K N I cs ss) : XX G own cc R Fx pc L (vl b :: vl a :: S) K N I cs ss := by
  obtain ⟨p, e, s, m, args, below, meth, c, Q, nL, a0, K0⟩ := Fx
  intro ok al H locs ls st
  obtain ⟨hx, hb, hml, hown, hts, hE, hA⟩ := id ok
  have k := h ok al H locs ls (st.to (fun q => q.tail.tail.cons trivial))
  exact lv_lrem hx hb hd (ol_ne0 hz.2 (by omega)) (by rw [ol_rem ha hz]; exact k)
theorem x_i2l {a : Int} (hd : decode cc pc = .ok (.i2l, 1)) (ha : inr a) (h : XX G own cc R Fx (pc + 1) L (vl a :: S) K N I cs ss) : XX G own cc R Fx pc L (vi a :: S) K N I cs ss := by
  obtain ⟨p, e, s, m, args, below, meth, c, Q, nL, a0, K0⟩ := Fx
  intro ok al H locs ls st
  obtain ⟨hx, hb, hml, hown, hts, hE, hA⟩ := id ok
  have k := h ok al H locs ls (st.to (fun q => q.tail.cons trivial))
  exact lv_i2l hx hb hd (Int64.toInt_inj.mp (by rw [Int32.toInt_toInt64, oi_toInt ha, ol_toInt (by unfold inr at ha; unfold inl; omega)])) k
theorem x_l2i {a : Int} (hd : decode cc pc = .ok (.l2i, 1)) (h : XX G own cc R Fx (pc + 1) L (vi a :: S) K N I cs ss) : XX G own cc R Fx pc L (vl a :: S) K N I cs ss := by
  obtain ⟨p, e, s, m, args, below, meth, c, Q, nL, a0, K0⟩ := Fx
  intro ok al H locs ls st
  obtain ⟨hx, hb, hml, hown, hts, hE, hA⟩ := id ok
  have k := h ok al H locs ls (st.to (fun q => q.tail.cons trivial))
  exact lv_l2i hx hb hd (Int64.toInt32_ofInt) k
theorem x_dupR {i : Nat} (hd : decode cc pc = .ok (.dup, 1)) (h : XX G own cc R Fx (pc + 1) L (.ref i :: .ref i :: S) K N I cs ss) : XX G own cc R Fx pc L (.ref i :: S) K N I cs ss := by
  obtain ⟨p, e, s, m, args, below, meth, c, Q, nL, a0, K0⟩ := Fx
  intro ok al H locs ls st
  obtain ⟨hx, hb, hml, hown, hts, hE, hA⟩ := id ok
  have k := h ok al H locs ls (st.to (fun q => q.cons q.head))
  exact lv_dup hx hb hd rfl k
theorem x_dupI {a : Int} (hd : decode cc pc = .ok (.dup, 1)) (h : XX G own cc R Fx (pc + 1) L (vi a :: vi a :: S) K N I cs ss) : XX G own cc R Fx pc L (vi a :: S) K N I cs ss := by
  obtain ⟨p, e, s, m, args, below, meth, c, Q, nL, a0, K0⟩ := Fx
  intro ok al H locs ls st
  obtain ⟨hx, hb, hml, hown, hts, hE, hA⟩ := id ok
  have k := h ok al H locs ls (st.to (fun q => q.cons q.head))
  exact lv_dup hx hb hd rfl k
theorem x_dup2 {i : Nat} {a : Int} (hd : decode cc pc = .ok (.dup2, 1)) (h : XX G own cc R Fx (pc + 1) L (vi a :: .ref i :: vi a :: .ref i :: S) K N I cs ss) : XX G own cc R Fx pc L (vi a :: .ref i :: S) K N I cs ss := by
  obtain ⟨p, e, s, m, args, below, meth, c, Q, nL, a0, K0⟩ := Fx
  intro ok al H locs ls st
  obtain ⟨hx, hb, hml, hown, hts, hE, hA⟩ := id ok
  have k := h ok al H locs ls (st.to (fun q => (q.cons q.tail.head).cons trivial))
  exact lv_dup2_11 hx hb hd rfl rfl k
theorem x_iand {a b : Int} (v : Int) (hd : decode cc pc = .ok (.iand, 1)) (hv : Int32.ofInt a &&& Int32.ofInt b = Int32.ofInt v) (h : XX G own cc R Fx (pc + 1) L (vi v :: S) K N I cs ss) : XX G own cc R Fx pc L (vi b :: vi a :: S) K N I cs ss := by
  obtain ⟨p, e, s, m, args, below, meth, c, Q, nL, a0, K0⟩ := Fx
  intro ok al H locs ls st
  obtain ⟨hx, hb, hml, hown, hts, hE, hA⟩ := id ok
  have k := h ok al H locs ls (st.to (fun q => q.tail.tail.cons trivial))
  exact lv_iand hx hb hd (by rw [hv]; exact k)
theorem x_ior {a b : Int} (v : Int) (hd : decode cc pc = .ok (.ior, 1)) (hv : Int32.ofInt a ||| Int32.ofInt b = Int32.ofInt v) (h : XX G own cc R Fx (pc + 1) L (vi v :: S) K N I cs ss) : XX G own cc R Fx pc L (vi b :: vi a :: S) K N I cs ss := by
  obtain ⟨p, e, s, m, args, below, meth, c, Q, nL, a0, K0⟩ := Fx
  intro ok al H locs ls st
  obtain ⟨hx, hb, hml, hown, hts, hE, hA⟩ := id ok
  have k := h ok al H locs ls (st.to (fun q => q.tail.tail.cons trivial))
  exact lv_ior hx hb hd (by rw [hv]; exact k)
theorem x_ixor {a b : Int} (v : Int) (hd : decode cc pc = .ok (.ixor, 1)) (hv : Int32.ofInt a ^^^ Int32.ofInt b = Int32.ofInt v) (h : XX G own cc R Fx (pc + 1) L (vi v :: S) K N I cs ss) : XX G own cc R Fx pc L (vi b :: vi a :: S) K N I cs ss := by
  obtain ⟨p, e, s, m, args, below, meth, c, Q, nL, a0, K0⟩ := Fx
  intro ok al H locs ls st
  obtain ⟨hx, hb, hml, hown, hts, hE, hA⟩ := id ok
  have k := h ok al H locs ls (st.to (fun q => q.tail.tail.cons trivial))
  exact lv_ixor hx hb hd (by rw [hv]; exact k)
theorem x_ishl {a b : Int} (v : Int) (hd : decode cc pc = .ok (.ishl, 1)) (hv : Int32.ofInt a <<< (Int32.ofInt b &&& 31) = Int32.ofInt v) (h : XX G own cc R Fx (pc + 1) L (vi v :: S) K N I cs ss) : XX G own cc R Fx pc L (vi b :: vi a :: S) K N I cs ss := by
  obtain ⟨p, e, s, m, args, below, meth, c, Q, nL, a0, K0⟩ := Fx
  intro ok al H locs ls st
  obtain ⟨hx, hb, hml, hown, hts, hE, hA⟩ := id ok
  have k := h ok al H locs ls (st.to (fun q => q.tail.tail.cons trivial))
  exact lv_ishl hx hb hd (by rw [hv]; exact k)
theorem x_ishr {a b : Int} (v : Int) (hd : decode cc pc = .ok (.ishr, 1)) (hv : Int32.ofInt a >>> (Int32.ofInt b &&& 31) = Int32.ofInt v) (h : XX G own cc R Fx (pc + 1) L (vi v :: S) K N I cs ss) : XX G own cc R Fx pc L (vi b :: vi a :: S) K N I cs ss := by
  obtain ⟨p, e, s, m, args, below, meth, c, Q, nL, a0, K0⟩ := Fx
  intro ok al H locs ls st
  obtain ⟨hx, hb, hml, hown, hts, hE, hA⟩ := id ok
  have k := h ok al H locs ls (st.to (fun q => q.tail.tail.cons trivial))
  exact lv_ishr hx hb hd (by rw [hv]; exact k)
theorem ol_lt {a b : Int} (ha : inl a) (hb : inl b) : Int64.ofInt a < Int64.ofInt b ↔ a < b := by rw [Int64.lt_iff_toInt_lt, ol_toInt ha, ol_toInt hb]
theorem x_lcmp {a b : Int} (hd : decode cc pc = .ok (.lcmp, 1)) (ha : inl a) (hz : inl b) (h : XX G own cc R Fx (pc + 1) L (vi (if a < b then -1 else if a = b then 0 else 1) :: S) K N I cs ss) : XX G own cc R Fx pc L (vl b :: vl a :: S) K N I cs ss := by
  obtain ⟨p, e, s, m, args, below, meth, c, Q, nL, a0, K0⟩ := Fx
  intro ok al H locs ls st
  obtain ⟨hx, hb, hml, hown, hts, hE, hA⟩ := id ok
  have k := h ok al H locs ls (st.to (fun q => q.tail.tail.cons trivial))
  exact W.lcmp hx hb hd (by
    have e : lg_cmp (Int64.ofInt a) (Int64.ofInt b) = Int32.ofInt (if a < b then -1 else if a = b then 0 else 1) := by
      simp only [lg_cmp, ol_lt ha hz, ol_lt hz ha, ol_eq ha hz]
      by_cases h1 : a < b
      · have h2 : ¬ b < a := by omega
        have h3 : ¬ a = b := by omega
        simp [h1, h2, h3]; try rfl
      · by_cases h2 : b < a
        · have h3 : ¬ a = b := by omega
          simp [h1, h2, h3]; try rfl
        · have h3 : a = b := by omega
          subst h3
          simp; try rfl
    rw [e]; exact k)
theorem x_icmp_eq {a b : Int} {off : Int} (tgt : Nat) (hd : decode cc pc = .ok (.if_icmp .eq off, 3)) (ht : (pc : Int) + off = (tgt : Int)) (ha : inr a) (hz : inr b) (kt : a = b → XX G own cc R Fx tgt L S K N I cs ss) (kf : ¬ a = b → XX G own cc R Fx (pc + 3) L S K N I cs ss) : XX G own cc R Fx pc L (vi b :: vi a :: S) K N I cs ss := by
  obtain ⟨p, e, s, m, args, below, meth, c, Q, nL, a0, K0⟩ := Fx
  intro ok al H locs ls st
  obtain ⟨hx, hb, hml, hown, hts, hE, hA⟩ := id ok
  have lv := oi_eq ha hz
  exact lv_icmp_eq hx hb hd ht (fun q => kt (lv.mp q) ok al H locs ls (st.to (fun q => q.tail.tail))) (fun q => kf (fun z => q (lv.mpr z)) ok al H locs ls (st.to (fun q => q.tail.tail)))
theorem x_if_eq {a : Int} {off : Int} (tgt : Nat) (hd : decode cc pc = .ok (.ifCond .eq off, 3)) (ht : (pc : Int) + off = (tgt : Int)) (ha : inr a) (kt : a = 0 → XX G own cc R Fx tgt L S K N I cs ss) (kf : ¬ a = 0 → XX G own cc R Fx (pc + 3) L S K N I cs ss) : XX G own cc R Fx pc L (vi a :: S) K N I cs ss := by
  obtain ⟨p, e, s, m, args, below, meth, c, Q, nL, a0, K0⟩ := Fx
  intro ok al H locs ls st
  obtain ⟨hx, hb, hml, hown, hts, hE, hA⟩ := id ok
  have lv : Int32.ofInt a = 0 ↔ a = 0 := oi_eq ha inr0
  exact lv_if_eq hx hb hd ht (fun q => kt (lv.mp q) ok al H locs ls (st.to (fun q => q.tail))) (fun q => kf (fun z => q (lv.mpr z)) ok al H locs ls (st.to (fun q => q.tail)))
theorem x_icmp_ne {a b : Int} {off : Int} (tgt : Nat) (hd : decode cc pc = .ok (.if_icmp .ne off, 3)) (ht : (pc : Int) + off = (tgt : Int)) (ha : inr a) (hz : inr b) (kt : ¬ a = b → XX G own cc R Fx tgt L S K N I cs ss) (kf : a = b → XX G own cc R Fx (pc + 3) L S K N I cs ss) : XX G own cc R Fx pc L (vi b :: vi a :: S) K N I cs ss := by
  obtain ⟨p, e, s, m, args, below, meth, c, Q, nL, a0, K0⟩ := Fx
  intro ok al H locs ls st
  obtain ⟨hx, hb, hml, hown, hts, hE, hA⟩ := id ok
  have lv := oi_eq ha hz
  exact lv_icmp_ne hx hb hd ht (fun q => kt (fun z => q (lv.mpr z)) ok al H locs ls (st.to (fun q => q.tail.tail))) (fun q => kf (lv.mp q) ok al H locs ls (st.to (fun q => q.tail.tail)))
theorem x_if_ne {a : Int} {off : Int} (tgt : Nat) (hd : decode cc pc = .ok (.ifCond .ne off, 3)) (ht : (pc : Int) + off = (tgt : Int)) (ha : inr a) (kt : ¬ a = 0 → XX G own cc R Fx tgt L S K N I cs ss) (kf : a = 0 → XX G own cc R Fx (pc + 3) L S K N I cs ss) : XX G own cc R Fx pc L (vi a :: S) K N I cs ss := by
  obtain ⟨p, e, s, m, args, below, meth, c, Q, nL, a0, K0⟩ := Fx
  intro ok al H locs ls st
  obtain ⟨hx, hb, hml, hown, hts, hE, hA⟩ := id ok
  have lv : Int32.ofInt a = 0 ↔ a = 0 := oi_eq ha inr0
  exact lv_if_ne hx hb hd ht (fun q => kt (fun z => q (lv.mpr z)) ok al H locs ls (st.to (fun q => q.tail))) (fun q => kf (lv.mp q) ok al H locs ls (st.to (fun q => q.tail)))
theorem x_icmp_lt {a b : Int} {off : Int} (tgt : Nat) (hd : decode cc pc = .ok (.if_icmp .lt off, 3)) (ht : (pc : Int) + off = (tgt : Int)) (ha : inr a) (hz : inr b) (kt : a < b → XX G own cc R Fx tgt L S K N I cs ss) (kf : b ≤ a → XX G own cc R Fx (pc + 3) L S K N I cs ss) : XX G own cc R Fx pc L (vi b :: vi a :: S) K N I cs ss := by
  obtain ⟨p, e, s, m, args, below, meth, c, Q, nL, a0, K0⟩ := Fx
  intro ok al H locs ls st
  obtain ⟨hx, hb, hml, hown, hts, hE, hA⟩ := id ok
  have lv := oi_lt ha hz
  exact lv_icmp_lt hx hb hd ht (fun q => kt (lv.mp q) ok al H locs ls (st.to (fun q => q.tail.tail))) (fun q => kf (Int.not_lt.mp (fun z => q (lv.mpr z))) ok al H locs ls (st.to (fun q => q.tail.tail)))
theorem x_if_lt {a : Int} {off : Int} (tgt : Nat) (hd : decode cc pc = .ok (.ifCond .lt off, 3)) (ht : (pc : Int) + off = (tgt : Int)) (ha : inr a) (kt : a < 0 → XX G own cc R Fx tgt L S K N I cs ss) (kf : 0 ≤ a → XX G own cc R Fx (pc + 3) L S K N I cs ss) : XX G own cc R Fx pc L (vi a :: S) K N I cs ss := by
  obtain ⟨p, e, s, m, args, below, meth, c, Q, nL, a0, K0⟩ := Fx
  intro ok al H locs ls st
  obtain ⟨hx, hb, hml, hown, hts, hE, hA⟩ := id ok
  have lv : Int32.ofInt a < 0 ↔ a < 0 := oi_lt ha inr0
  exact lv_if_lt hx hb hd ht (fun q => kt (lv.mp q) ok al H locs ls (st.to (fun q => q.tail))) (fun q => kf (Int.not_lt.mp (fun z => q (lv.mpr z))) ok al H locs ls (st.to (fun q => q.tail)))
theorem x_icmp_ge {a b : Int} {off : Int} (tgt : Nat) (hd : decode cc pc = .ok (.if_icmp .ge off, 3)) (ht : (pc : Int) + off = (tgt : Int)) (ha : inr a) (hz : inr b) (kt : b ≤ a → XX G own cc R Fx tgt L S K N I cs ss) (kf : a < b → XX G own cc R Fx (pc + 3) L S K N I cs ss) : XX G own cc R Fx pc L (vi b :: vi a :: S) K N I cs ss := by
  obtain ⟨p, e, s, m, args, below, meth, c, Q, nL, a0, K0⟩ := Fx
  intro ok al H locs ls st
  obtain ⟨hx, hb, hml, hown, hts, hE, hA⟩ := id ok
  have lv := oi_le hz ha
  exact lv_icmp_ge hx hb hd ht (fun q => kt (lv.mp q) ok al H locs ls (st.to (fun q => q.tail.tail))) (fun q => kf (Int.not_le.mp (fun z => q (lv.mpr z))) ok al H locs ls (st.to (fun q => q.tail.tail)))
theorem x_if_ge {a : Int} {off : Int} (tgt : Nat) (hd : decode cc pc = .ok (.ifCond .ge off, 3)) (ht : (pc : Int) + off = (tgt : Int)) (ha : inr a) (kt : 0 ≤ a → XX G own cc R Fx tgt L S K N I cs ss) (kf : a < 0 → XX G own cc R Fx (pc + 3) L S K N I cs ss) : XX G own cc R Fx pc L (vi a :: S) K N I cs ss := by
  obtain ⟨p, e, s, m, args, below, meth, c, Q, nL, a0, K0⟩ := Fx
  intro ok al H locs ls st
  obtain ⟨hx, hb, hml, hown, hts, hE, hA⟩ := id ok
  have lv : (0 : Int32) ≤ Int32.ofInt a ↔ 0 ≤ a := oi_le inr0 ha
  exact lv_if_ge hx hb hd ht (fun q => kt (lv.mp q) ok al H locs ls (st.to (fun q => q.tail))) (fun q => kf (Int.not_le.mp (fun z => q (lv.mpr z))) ok al H locs ls (st.to (fun q => q.tail)))
theorem x_icmp_gt {a b : Int} {off : Int} (tgt : Nat) (hd : decode cc pc = .ok (.if_icmp .gt off, 3)) (ht : (pc : Int) + off = (tgt : Int)) (ha : inr a) (hz : inr b) (kt : b < a → XX G own cc R Fx tgt L S K N I cs ss) (kf : a ≤ b → XX G own cc R Fx (pc + 3) L S K N I cs ss) : XX G own cc R Fx pc L (vi b :: vi a :: S) K N I cs ss := by
  obtain ⟨p, e, s, m, args, below, meth, c, Q, nL, a0, K0⟩ := Fx
  intro ok al H locs ls st
  obtain ⟨hx, hb, hml, hown, hts, hE, hA⟩ := id ok
  have lv := oi_lt hz ha
  exact lv_icmp_gt hx hb hd ht (fun q => kt (lv.mp q) ok al H locs ls (st.to (fun q => q.tail.tail))) (fun q => kf (Int.not_lt.mp (fun z => q (lv.mpr z))) ok al H locs ls (st.to (fun q => q.tail.tail)))
theorem x_if_gt {a : Int} {off : Int} (tgt : Nat) (hd : decode cc pc = .ok (.ifCond .gt off, 3)) (ht : (pc : Int) + off = (tgt : Int)) (ha : inr a) (kt : 0 < a → XX G own cc R Fx tgt L S K N I cs ss) (kf : a ≤ 0 → XX G own cc R Fx (pc + 3) L S K N I cs ss) : XX G own cc R Fx pc L (vi a :: S) K N I cs ss := by
  obtain ⟨p, e, s, m, args, below, meth, c, Q, nL, a0, K0⟩ := Fx
  intro ok al H locs ls st
  obtain ⟨hx, hb, hml, hown, hts, hE, hA⟩ := id ok
  have lv : (0 : Int32) < Int32.ofInt a ↔ 0 < a := oi_lt inr0 ha
  exact lv_if_gt hx hb hd ht (fun q => kt (lv.mp q) ok al H locs ls (st.to (fun q => q.tail))) (fun q => kf (Int.not_lt.mp (fun z => q (lv.mpr z))) ok al H locs ls (st.to (fun q => q.tail)))
theorem x_icmp_le {a b : Int} {off : Int} (tgt : Nat) (hd : decode cc pc = .ok (.if_icmp .le off, 3)) (ht : (pc : Int) + off = (tgt : Int)) (ha : inr a) (hz : inr b) (kt : a ≤ b → XX G own cc R Fx tgt L S K N I cs ss) (kf : b < a → XX G own cc R Fx (pc + 3) L S K N I cs ss) : XX G own cc R Fx pc L (vi b :: vi a :: S) K N I cs ss := by
  obtain ⟨p, e, s, m, args, below, meth, c, Q, nL, a0, K0⟩ := Fx
  intro ok al H locs ls st
  obtain ⟨hx, hb, hml, hown, hts, hE, hA⟩ := id ok
  have lv := oi_le ha hz
  exact lv_icmp_le hx hb hd ht (fun q => kt (lv.mp q) ok al H locs ls (st.to (fun q => q.tail.tail))) (fun q => kf (Int.not_le.mp (fun z => q (lv.mpr z))) ok al H locs ls (st.to (fun q => q.tail.tail)))
theorem x_if_le {a : Int} {off : Int} (tgt : Nat) (hd : decode cc pc = .ok (.ifCond .le off, 3)) (ht : (pc : Int) + off = (tgt : Int)) (ha : inr a) (kt : a ≤ 0 → XX G own cc R Fx tgt L S K N I cs ss) (kf : 0 < a → XX G own cc R Fx (pc + 3) L S K N I cs ss) : XX G own cc R Fx pc L (vi a :: S) K N I cs ss := by
  obtain ⟨p, e, s, m, args, below, meth, c, Q, nL, a0, K0⟩ := Fx
  intro ok al H locs ls st
  obtain ⟨hx, hb, hml, hown, hts, hE, hA⟩ := id ok
  have lv : Int32.ofInt a ≤ 0 ↔ a ≤ 0 := oi_le ha inr0
  exact lv_if_le hx hb hd ht (fun q => kt (lv.mp q) ok al H locs ls (st.to (fun q => q.tail))) (fun q => kf (Int.not_le.mp (fun z => q (lv.mpr z))) ok al H locs ls (st.to (fun q => q.tail)))
theorem x_goto {off : Int} (tgt : Nat) (hd : decode cc pc = .ok (.goto off, 3)) (ht : (pc : Int) + off = (tgt : Int)) (h : XX G own cc R Fx tgt L S K N I cs ss) : XX G own cc R Fx pc L S K N I cs ss := by
  obtain ⟨p, e, s, m, args, below, meth, c, Q, nL, a0, K0⟩ := Fx
  intro ok al H locs ls st
  obtain ⟨hx, hb, hml, hown, hts, hE, hA⟩ := id ok
  exact lv_goto hx hb hd ht (h ok al H locs ls st)
theorem x_nonnullR {i : Nat} {off : Int} (tgt : Nat) (hd : decode cc pc = .ok (.ifnonnull off, 3)) (ht : (pc : Int) + off = (tgt : Int)) (h : XX G own cc R Fx tgt L S K N I cs ss) : XX G own cc R Fx pc L (.ref i :: S) K N I cs ss := by
  obtain ⟨p, e, s, m, args, below, meth, c, Q, nL, a0, K0⟩ := Fx
  intro ok al H locs ls st
  obtain ⟨hx, hb, hml, hown, hts, hE, hA⟩ := id ok
  exact lv_ifnonnull hx hb hd ht (h ok al H locs ls (st.to (fun q => q.tail)))
theorem x_nonnullN {off : Int} (hd : decode cc pc = .ok (.ifnonnull off, 3)) (h : XX G own cc R Fx (pc + 3) L S K N I cs ss) : XX G own cc R Fx pc L (.null :: S) K N I cs ss := by
  obtain ⟨p, e, s, m, args, below, meth, c, Q, nL, a0, K0⟩ := Fx
  intro ok al H locs ls st
  obtain ⟨hx, hb, hml, hown, hts, hE, hA⟩ := id ok
  exact lv_ifnonnullN hx hb hd (h ok al H locs ls (st.to (fun q => q.tail)))
theorem x_tabOut {dflt lo hi : Int} {offs : Array Int} {len : Nat} {a : Int} (tgt : Nat) (hd : decode cc pc = .ok (.tableswitch dflt lo hi offs, len)) (ha : inr a) (hz : a < lo ∨ hi < a) (ht : (pc : Int) + dflt = (tgt : Int)) (h : XX G own cc R Fx tgt L S K N I cs ss) : XX G own cc R Fx pc L (vi a :: S) K N I cs ss := by
  obtain ⟨p, e, s, m, args, below, meth, c, Q, nL, a0, K0⟩ := Fx
  intro ok al H locs ls st
  obtain ⟨hx, hb, hml, hown, hts, hE, hA⟩ := id ok
  exact lv_tableOut hx hb hd (by rw [oi_toInt ha]; exact hz) ht (h ok al H locs ls (st.to (fun q => q.tail)))
theorem x_tabIn {dflt lo hi : Int} {offs : Array Int} {len : Nat} {a off : Int} (tgt : Nat) (hd : decode cc pc = .ok (.tableswitch dflt lo hi offs, len)) (ha : inr a) (hz : lo ≤ a ∧ a ≤ hi) (ho : offs[(a - lo).toNat]? = some off) (ht : (pc : Int) + off = (tgt : Int)) (h : XX G own cc R Fx tgt L S K N I cs ss) : XX G own cc R Fx pc L (vi a :: S) K N I cs ss := by
  obtain ⟨p, e, s, m, args, below, meth, c, Q, nL, a0, K0⟩ := Fx
  intro ok al H locs ls st
  obtain ⟨hx, hb, hml, hown, hts, hE, hA⟩ := id ok
  exact lv_tableIn hx hb hd (by rw [oi_toInt ha]; omega) (by rw [oi_toInt ha]; omega) (by rw [oi_toInt ha]; exact ho) ht (h ok al H locs ls (st.to (fun q => q.tail)))
theorem x_lookup {dflt : Int} {ps : Array (Int × Int)} {len : Nat} {a off : Int} (tgt : Nat) (hd : decode cc pc = .ok (.lookupswitch dflt ps, len)) (ha : inr a) (hp : (ps.toList.zip (ps.toList.drop 1)).all (fun (a, next) => a.1 < next.1) = true) (ho : Op.lookupswitch.offset ps.toList dflt a = off) (ht : (pc : Int) + off = (tgt : Int)) (h : XX G own cc R Fx tgt L S K N I cs ss) : XX G own cc R Fx pc L (vi a :: S) K N I cs ss := by
  obtain ⟨p, e, s, m, args, below, meth, c, Q, nL, a0, K0⟩ := Fx
  intro ok al H locs ls st
  obtain ⟨hx, hb, hml, hown, hts, hE, hA⟩ := id ok
  exact lv_lookup hx hb hd hp (by rw [oi_toInt ha]; exact ho) ht (h ok al H locs ls (st.to (fun q => q.tail)))
theorem x_widen {k n : Nat} (h1 : cs ≤ k) (h2 : ss ≤ n) (h : XX G own cc R Fx pc L S K N I k n) : XX G own cc R Fx pc L S K N I cs ss := by
  obtain ⟨p, e, s, m, args, below, meth, c, Q, nL, a0, K0⟩ := Fx
  intro ok al H locs ls st
  exact W.widen h1 h2 (h ok al H locs ls st)
end FR
end
section
/-! ===== stores, the heap, calls ===== -/
def asc (al : Nat → Nat) (L : List (Option Value)) : List (Nat × Value) := (List.range L.length).filterMap (fun j => match L[j]? with
  | some (some v) => some (j, gm al v)
  | _ => none)
theorem asc_in {al : Nat → Nat} {L : List (Option Value)} {j : Nat} {v : Value} (h : L[j]? = some (some v)) : (j, gm al v) ∈ asc al L :=
  List.mem_filterMap.mpr ⟨j, List.mem_range.mpr (List.getElem?_eq_some_iff.mp h).1, by rw [h]⟩
theorem asc_of {al : Nat → Nat} {L : List (Option Value)} {q : Nat × Value} (h : q ∈ asc al L) : ∃ v, L[q.1]? = some (some v) ∧ q.2 = gm al v := by
  obtain ⟨j, -, h2⟩ := List.mem_filterMap.mp h
  cases hj : L[j]? with
  | none => rw [hj] at h2; cases h2
  | some o =>
    cases o with
    | none => rw [hj] at h2; cases h2
    | some v => rw [hj] at h2; cases h2; exact ⟨v, hj, rfl⟩
theorem LocW.has {al : Nat → Nat} {nL : Nat} {ls : Array Slot} {L : List (Option Value)} (h : LocW al nL ls L) : lv_has ls nL (asc al L) := by
  refine ⟨h.1, h.2.1, fun q hq => ?_⟩
  obtain ⟨v, h1, h2⟩ := asc_of hq
  rw [h2]; exact h.2.2.2 _ _ h1
theorem gm_cat (al : Nat → Nat) (v : Value) : (gm al v).category = v.category := by cases v <;> rfl
/-- no long's second half stands there -/
def pvk (L : List (Option Value)) (i : Nat) : Bool := match i with
  | 0 => true
  | j + 1 => match L[j]? with
    | some (some v) => v.category == 1
    | _ => true
theorem pvk_at {L : List (Option Value)} {i j : Nat} {v : Value} (h : pvk L i = true) (hj : L[j]? = some (some v)) (e : j + 1 = i) : ¬ v.category = 2 := by
  subst e
  simp only [pvk, hj, beq_iff_eq] at h
  omega
theorem LocW.set1 {al : Nat → Nat} {nL i : Nat} {ls ls' : Array Slot} {L : List (Option Value)} {v : Value} (h : LocW al nL ls L) (hi : i < L.length) (hp : pvk L i = true) (h' : lv_has ls' nL ((i, gm al v) :: (asc al L).filter (fun q => !(q.1 == i) && !(q.1 + 1 == i && q.2.category == 2)))) : LocW al nL ls' (L.set i (some v)) := by
  refine ⟨h'.1, h'.2.1, by rw [List.length_set]; exact h.2.2.1, fun j w hj => ?_⟩
  by_cases e : j = i
  · subst e
    rw [List.getElem?_set_self hi] at hj
    cases hj
    exact h'.2.2 (j, gm al v) List.mem_cons_self
  · rw [List.getElem?_set_ne (Ne.symm e)] at hj
    refine h'.2.2 (j, gm al w) (List.mem_cons_of_mem _ (List.mem_filter.mpr ⟨asc_in hj, ?_⟩))
    by_cases e2 : j + 1 = i
    · have := pvk_at hp hj e2
      simp [e, e2, gm_cat, this]
    · simp [e, e2]
theorem LocW.set2 {al : Nat → Nat} {nL i : Nat} {ls ls' : Array Slot} {L : List (Option Value)} {v : Value} (h : LocW al nL ls L) (hi : i + 1 < L.length) (hp : pvk L i = true) (h' : lv_has ls' nL ((i, gm al v) :: (asc al L).filter (fun q => !(q.1 == i) && (!(q.1 == i + 1) && !(q.1 + 1 == i && q.2.category == 2))))) : LocW al nL ls' ((L.set i (some v)).set (i + 1) none) := by
  refine ⟨h'.1, h'.2.1, by rw [List.length_set, List.length_set]; exact h.2.2.1, fun j w hj => ?_⟩
  by_cases e3 : j = i + 1
  · subst e3
    rw [List.getElem?_set_self (by rw [List.length_set]; exact hi)] at hj
    cases hj
  · rw [List.getElem?_set_ne (Ne.symm e3)] at hj
    by_cases e : j = i
    · subst e
      rw [List.getElem?_set_self (by omega)] at hj
      cases hj
      exact h'.2.2 (j, gm al v) List.mem_cons_self
    · rw [List.getElem?_set_ne (Ne.symm e)] at hj
      refine h'.2.2 (j, gm al w) (List.mem_cons_of_mem _ (List.mem_filter.mpr ⟨asc_in hj, ?_⟩))
      by_cases e2 : j + 1 = i
      · have := pvk_at hp hj e2
        simp [e, e2, e3, gm_cat, this]
      · simp [e, e2, e3]
theorem okL.set {K : List Nat} {L : List (Option Value)} {i : Nat} {v : Value} (h : okL K L) (hv : okv K v) : okL K (L.set i (some v)) := fun j w hj => by
  by_cases e : i = j
  · subst e
    rw [List.getElem?_set] at hj
    simp at hj
    obtain ⟨-, rfl⟩ := hj
    exact hv
  · rw [List.getElem?_set_ne e] at hj
    exact h j w hj
theorem okL.setN {K : List Nat} {L : List (Option Value)} {i : Nat} (h : okL K L) : okL K (L.set i none) := fun j w hj => by
  by_cases e : i = j
  · subst e
    rw [List.getElem?_set] at hj
    simp at hj
  · rw [List.getElem?_set_ne e] at hj
    exact h j w hj
theorem StW.tl {G : GT} {a0 : Nat → Nat} {K0 : List Nat} {nL : Nat} {s : State} {al : Nat → Nat} {H : Heap} {locs : List Loc} {ls ls' : Array Slot} {L L' : List (Option Value)} {v : Value} {S : List Value} {K : List Nat} {N : NN} {I : MM} (h : StW G a0 K0 nL s al H locs ls L (v :: S) K N I) (f : LocW al nL ls' L') (g : okv K v → okL K L → okL K L') : StW G a0 K0 nL s al H locs ls' L' S K N I := ⟨h.1, h.2.1, f, g h.2.2.2.2.1.head h.2.2.2.1, h.2.2.2.2.1.tail, h.2.2.2.2.2⟩
section FR
variable {G : GT} {own : String} {cc : ByteArray} {R : Room} {Fx : FxT} {pc : Nat} {L : List (Option Value)} {S : List Value} {K : List Nat} {N : NN} {I : MM} {cs ss : Nat}

theorem x_istore_n {k : Fin 4} {i : Nat} {z : Int} (hd : decode cc pc = .ok (.istore_n k, 1)) (hk : (k : Nat) = i) (hi : i < L.length) (hp : pvk L i = true) (h : XX G own cc R Fx (pc + 1) (L.set i (some (vi z))) S K N I cs ss) : XX G own cc R Fx pc L (vi z :: S) K N I cs ss := by
  obtain ⟨p, e, s, m, args, below, meth, c, Q, nL, a0, K0⟩ := Fx
  intro ok al H locs ls st
  obtain ⟨hx, hb, hml, hown, hts, hE, hA⟩ := id ok
  exact lv_istore_n hx hb hd hk st.2.2.1.has (Nat.lt_of_lt_of_le hi st.2.2.1.2.2.1) rfl (fun ls' hl' => h ok al H locs ls' (st.tl (st.2.2.1.set1 hi hp hl') (fun a b => b.set a)))
theorem x_istore {i : Nat} {z : Int} (hd : decode cc pc = .ok (.istore i, 2)) (hi : i < L.length) (hp : pvk L i = true) (h : XX G own cc R Fx (pc + 2) (L.set i (some (vi z))) S K N I cs ss) : XX G own cc R Fx pc L (vi z :: S) K N I cs ss := by
  obtain ⟨p, e, s, m, args, below, meth, c, Q, nL, a0, K0⟩ := Fx
  intro ok al H locs ls st
  obtain ⟨hx, hb, hml, hown, hts, hE, hA⟩ := id ok
  exact lv_istore hx hb hd st.2.2.1.has (Nat.lt_of_lt_of_le hi st.2.2.1.2.2.1) rfl (fun ls' hl' => h ok al H locs ls' (st.tl (st.2.2.1.set1 hi hp hl') (fun a b => b.set a)))
theorem x_astore_n {k : Fin 4} {i : Nat} {z : Nat} (hd : decode cc pc = .ok (.astore_n k, 1)) (hk : (k : Nat) = i) (hi : i < L.length) (hp : pvk L i = true) (h : XX G own cc R Fx (pc + 1) (L.set i (some (.ref z))) S K N I cs ss) : XX G own cc R Fx pc L (.ref z :: S) K N I cs ss := by
  obtain ⟨p, e, s, m, args, below, meth, c, Q, nL, a0, K0⟩ := Fx
  intro ok al H locs ls st
  obtain ⟨hx, hb, hml, hown, hts, hE, hA⟩ := id ok
  exact lv_astore_n hx hb hd hk st.2.2.1.has (Nat.lt_of_lt_of_le hi st.2.2.1.2.2.1) rfl (fun ls' hl' => h ok al H locs ls' (st.tl (st.2.2.1.set1 hi hp hl') (fun a b => b.set a)))
theorem x_astore {i : Nat} {z : Nat} (hd : decode cc pc = .ok (.astore i, 2)) (hi : i < L.length) (hp : pvk L i = true) (h : XX G own cc R Fx (pc + 2) (L.set i (some (.ref z))) S K N I cs ss) : XX G own cc R Fx pc L (.ref z :: S) K N I cs ss := by
  obtain ⟨p, e, s, m, args, below, meth, c, Q, nL, a0, K0⟩ := Fx
  intro ok al H locs ls st
  obtain ⟨hx, hb, hml, hown, hts, hE, hA⟩ := id ok
  exact lv_astore hx hb hd st.2.2.1.has (Nat.lt_of_lt_of_le hi st.2.2.1.2.2.1) rfl (fun ls' hl' => h ok al H locs ls' (st.tl (st.2.2.1.set1 hi hp hl') (fun a b => b.set a)))
theorem x_lstore_n {k : Fin 4} {i : Nat} {z : Int} (hd : decode cc pc = .ok (.lstore_n k, 1)) (hk : (k : Nat) = i) (hi : i + 1 < L.length) (hp : pvk L i = true) (h : XX G own cc R Fx (pc + 1) ((L.set i (some (vl z))).set (i + 1) none) S K N I cs ss) : XX G own cc R Fx pc L (vl z :: S) K N I cs ss := by
  obtain ⟨p, e, s, m, args, below, meth, c, Q, nL, a0, K0⟩ := Fx
  intro ok al H locs ls st
  obtain ⟨hx, hb, hml, hown, hts, hE, hA⟩ := id ok
  exact lv_lstore_n hx hb hd hk st.2.2.1.has (Nat.lt_of_lt_of_le hi st.2.2.1.2.2.1) rfl (fun ls' hl' => h ok al H locs ls' (st.tl (st.2.2.1.set2 hi hp hl') (fun a b => (b.set a).setN)))
theorem x_lstore {i : Nat} {z : Int} (hd : decode cc pc = .ok (.lstore i, 2)) (hi : i + 1 < L.length) (hp : pvk L i = true) (h : XX G own cc R Fx (pc + 2) ((L.set i (some (vl z))).set (i + 1) none) S K N I cs ss) : XX G own cc R Fx pc L (vl z :: S) K N I cs ss := by
  obtain ⟨p, e, s, m, args, below, meth, c, Q, nL, a0, K0⟩ := Fx
  intro ok al H locs ls st
  obtain ⟨hx, hb, hml, hown, hts, hE, hA⟩ := id ok
  exact lv_lstore hx hb hd st.2.2.1.has (Nat.lt_of_lt_of_le hi st.2.2.1.2.2.1) rfl (fun ls' hl' => h ok al H locs ls' (st.tl (st.2.2.1.set2 hi hp hl') (fun a b => (b.set a).setN)))
theorem x_iinc {i : Nat} {n z : Int} (hd : decode cc pc = .ok (.iinc i n, 3)) (hz : L[i]? = some (some (vi z))) (hp : pvk L i = true) (h : XX G own cc R Fx (pc + 3) (L.set i (some (vi (z + n)))) S K N I cs ss) : XX G own cc R Fx pc L S K N I cs ss := by
  obtain ⟨p, e, s, m, args, below, meth, c, Q, nL, a0, K0⟩ := Fx
  intro ok al H locs ls st
  obtain ⟨hx, hb, hml, hown, hts, hE, hA⟩ := id ok
  have hi : i < L.length := (List.getElem?_eq_some_iff.mp hz).1
  obtain ⟨k, hk⟩ := List.getElem?_of_mem (asc_in (al := al) hz)
  exact lv_iinc hx hb hd st.2.2.1.has hk (by rw [← Int32.ofInt_add]) (Nat.lt_of_lt_of_le hi st.2.2.1.2.2.1) rfl (fun ls' hl' => h ok al H locs ls' ⟨st.1, st.2.1, st.2.2.1.set1 hi hp hl', st.2.2.2.1.set trivial, st.2.2.2.2⟩)
end FR
theorem x_ist0 {G : GT} {own : String} {cc : ByteArray} {R : Room} {Fx : FxT} {pc : Nat} {l0 : Option Value} {r : List (Option Value)} {S : List Value} {K : List Nat} {N : NN} {I : MM} {cs ss : Nat} {z : Int} (hd : decode cc pc = .ok (.istore_n 0, 1)) (h : XX G own cc R Fx (pc + 1) (some (vi z) :: r) S K N I cs ss) (hp : pvk (l0 :: r) 0 = true := by rfl) : XX G own cc R Fx pc (l0 :: r) (vi z :: S) K N I cs ss := x_istore_n (i := 0) hd rfl (by simp) hp h
theorem x_ast0 {G : GT} {own : String} {cc : ByteArray} {R : Room} {Fx : FxT} {pc : Nat} {l0 : Option Value} {r : List (Option Value)} {S : List Value} {K : List Nat} {N : NN} {I : MM} {cs ss : Nat} {z : Nat} (hd : decode cc pc = .ok (.astore_n 0, 1)) (h : XX G own cc R Fx (pc + 1) (some (.ref z) :: r) S K N I cs ss) (hp : pvk (l0 :: r) 0 = true := by rfl) : XX G own cc R Fx pc (l0 :: r) (.ref z :: S) K N I cs ss := x_astore_n (i := 0) hd rfl (by simp) hp h
theorem x_inc0 {G : GT} {own : String} {cc : ByteArray} {R : Room} {Fx : FxT} {pc : Nat} {r : List (Option Value)} {S : List Value} {K : List Nat} {N : NN} {I : MM} {cs ss : Nat} {n z : Int} (hd : decode cc pc = .ok (.iinc 0 n, 3)) (h : XX G own cc R Fx (pc + 3) (some (vi (z + n)) :: r) S K N I cs ss) (hp : pvk (some (vi z) :: r) 0 = true := by rfl) : XX G own cc R Fx pc (some (vi z) :: r) S K N I cs ss := x_iinc hd rfl hp h
theorem x_lst0 {G : GT} {own : String} {cc : ByteArray} {R : Room} {Fx : FxT} {pc : Nat} {l0 l1 : Option Value} {r : List (Option Value)} {S : List Value} {K : List Nat} {N : NN} {I : MM} {cs ss : Nat} {z : Int} (hd : decode cc pc = .ok (.lstore_n 0, 1)) (h : XX G own cc R Fx (pc + 1) (some (vl z) :: none :: r) S K N I cs ss) (hp : pvk (l0 :: l1 :: r) 0 = true := by rfl) : XX G own cc R Fx pc (l0 :: l1 :: r) (vl z :: S) K N I cs ss := x_lstore_n (i := 0) hd rfl (by simp) hp h
theorem x_ist1 {G : GT} {own : String} {cc : ByteArray} {R : Room} {Fx : FxT} {pc : Nat} {l0 l1 : Option Value} {r : List (Option Value)} {S : List Value} {K : List Nat} {N : NN} {I : MM} {cs ss : Nat} {z : Int} (hd : decode cc pc = .ok (.istore_n 1, 1)) (h : XX G own cc R Fx (pc + 1) (l0 :: some (vi z) :: r) S K N I cs ss) (hp : pvk (l0 :: l1 :: r) 1 = true := by rfl) : XX G own cc R Fx pc (l0 :: l1 :: r) (vi z :: S) K N I cs ss := x_istore_n (i := 1) hd rfl (by simp) hp h
theorem x_ast1 {G : GT} {own : String} {cc : ByteArray} {R : Room} {Fx : FxT} {pc : Nat} {l0 l1 : Option Value} {r : List (Option Value)} {S : List Value} {K : List Nat} {N : NN} {I : MM} {cs ss : Nat} {z : Nat} (hd : decode cc pc = .ok (.astore_n 1, 1)) (h : XX G own cc R Fx (pc + 1) (l0 :: some (.ref z) :: r) S K N I cs ss) (hp : pvk (l0 :: l1 :: r) 1 = true := by rfl) : XX G own cc R Fx pc (l0 :: l1 :: r) (.ref z :: S) K N I cs ss := x_astore_n (i := 1) hd rfl (by simp) hp h
theorem x_inc1 {G : GT} {own : String} {cc : ByteArray} {R : Room} {Fx : FxT} {pc : Nat} {l0 : Option Value} {r : List (Option Value)} {S : List Value} {K : List Nat} {N : NN} {I : MM} {cs ss : Nat} {n z : Int} (hd : decode cc pc = .ok (.iinc 1 n, 3)) (h : XX G own cc R Fx (pc + 3) (l0 :: some (vi (z + n)) :: r) S K N I cs ss) (hp : pvk (l0 :: some (vi z) :: r) 1 = true := by rfl) : XX G own cc R Fx pc (l0 :: some (vi z) :: r) S K N I cs ss := x_iinc hd rfl hp h
theorem x_lst1 {G : GT} {own : String} {cc : ByteArray} {R : Room} {Fx : FxT} {pc : Nat} {l0 l1 l2 : Option Value} {r : List (Option Value)} {S : List Value} {K : List Nat} {N : NN} {I : MM} {cs ss : Nat} {z : Int} (hd : decode cc pc = .ok (.lstore_n 1, 1)) (h : XX G own cc R Fx (pc + 1) (l0 :: some (vl z) :: none :: r) S K N I cs ss) (hp : pvk (l0 :: l1 :: l2 :: r) 1 = true := by rfl) : XX G own cc R Fx pc (l0 :: l1 :: l2 :: r) (vl z :: S) K N I cs ss := x_lstore_n (i := 1) hd rfl (by simp) hp h
theorem x_ist2 {G : GT} {own : String} {cc : ByteArray} {R : Room} {Fx : FxT} {pc : Nat} {l0 l1 l2 : Option Value} {r : List (Option Value)} {S : List Value} {K : List Nat} {N : NN} {I : MM} {cs ss : Nat} {z : Int} (hd : decode cc pc = .ok (.istore_n 2, 1)) (h : XX G own cc R Fx (pc + 1) (l0 :: l1 :: some (vi z) :: r) S K N I cs ss) (hp : pvk (l0 :: l1 :: l2 :: r) 2 = true := by rfl) : XX G own cc R Fx pc (l0 :: l1 :: l2 :: r) (vi z :: S) K N I cs ss := x_istore_n (i := 2) hd rfl (by simp) hp h
theorem x_ast2 {G : GT} {own : String} {cc : ByteArray} {R : Room} {Fx : FxT} {pc : Nat} {l0 l1 l2 : Option Value} {r : List (Option Value)} {S : List Value} {K : List Nat} {N : NN} {I : MM} {cs ss : Nat} {z : Nat} (hd : decode cc pc = .ok (.astore_n 2, 1)) (h : XX G own cc R Fx (pc + 1) (l0 :: l1 :: some (.ref z) :: r) S K N I cs ss) (hp : pvk (l0 :: l1 :: l2 :: r) 2 = true := by rfl) : XX G own cc R Fx pc (l0 :: l1 :: l2 :: r) (.ref z :: S) K N I cs ss := x_astore_n (i := 2) hd rfl (by simp) hp h
theorem x_inc2 {G : GT} {own : String} {cc : ByteArray} {R : Room} {Fx : FxT} {pc : Nat} {l0 l1 : Option Value} {r : List (Option Value)} {S : List Value} {K : List Nat} {N : NN} {I : MM} {cs ss : Nat} {n z : Int} (hd : decode cc pc = .ok (.iinc 2 n, 3)) (h : XX G own cc R Fx (pc + 3) (l0 :: l1 :: some (vi (z + n)) :: r) S K N I cs ss) (hp : pvk (l0 :: l1 :: some (vi z) :: r) 2 = true := by rfl) : XX G own cc R Fx pc (l0 :: l1 :: some (vi z) :: r) S K N I cs ss := x_iinc hd rfl hp h
theorem x_lst2 {G : GT} {own : String} {cc : ByteArray} {R : Room} {Fx : FxT} {pc : Nat} {l0 l1 l2 l3 : Option Value} {r : List (Option Value)} {S : List Value} {K : List Nat} {N : NN} {I : MM} {cs ss : Nat} {z : Int} (hd : decode cc pc = .ok (.lstore_n 2, 1)) (h : XX G own cc R Fx (pc + 1) (l0 :: l1 :: some (vl z) :: none :: r) S K N I cs ss) (hp : pvk (l0 :: l1 :: l2 :: l3 :: r) 2 = true := by rfl) : XX G own cc R Fx pc (l0 :: l1 :: l2 :: l3 :: r) (vl z :: S) K N I cs ss := x_lstore_n (i := 2) hd rfl (by simp) hp h
theorem x_ist3 {G : GT} {own : String} {cc : ByteArray} {R : Room} {Fx : FxT} {pc : Nat} {l0 l1 l2 l3 : Option Value} {r : List (Option Value)} {S : List Value} {K : List Nat} {N : NN} {I : MM} {cs ss : Nat} {z : Int} (hd : decode cc pc = .ok (.istore_n 3, 1)) (h : XX G own cc R Fx (pc + 1) (l0 :: l1 :: l2 :: some (vi z) :: r) S K N I cs ss) (hp : pvk (l0 :: l1 :: l2 :: l3 :: r) 3 = true := by rfl) : XX G own cc R Fx pc (l0 :: l1 :: l2 :: l3 :: r) (vi z :: S) K N I cs ss := x_istore_n (i := 3) hd rfl (by simp) hp h
theorem x_ast3 {G : GT} {own : String} {cc : ByteArray} {R : Room} {Fx : FxT} {pc : Nat} {l0 l1 l2 l3 : Option Value} {r : List (Option Value)} {S : List Value} {K : List Nat} {N : NN} {I : MM} {cs ss : Nat} {z : Nat} (hd : decode cc pc = .ok (.astore_n 3, 1)) (h : XX G own cc R Fx (pc + 1) (l0 :: l1 :: l2 :: some (.ref z) :: r) S K N I cs ss) (hp : pvk (l0 :: l1 :: l2 :: l3 :: r) 3 = true := by rfl) : XX G own cc R Fx pc (l0 :: l1 :: l2 :: l3 :: r) (.ref z :: S) K N I cs ss := x_astore_n (i := 3) hd rfl (by simp) hp h
theorem x_inc3 {G : GT} {own : String} {cc : ByteArray} {R : Room} {Fx : FxT} {pc : Nat} {l0 l1 l2 : Option Value} {r : List (Option Value)} {S : List Value} {K : List Nat} {N : NN} {I : MM} {cs ss : Nat} {n z : Int} (hd : decode cc pc = .ok (.iinc 3 n, 3)) (h : XX G own cc R Fx (pc + 3) (l0 :: l1 :: l2 :: some (vi (z + n)) :: r) S K N I cs ss) (hp : pvk (l0 :: l1 :: l2 :: some (vi z) :: r) 3 = true := by rfl) : XX G own cc R Fx pc (l0 :: l1 :: l2 :: some (vi z) :: r) S K N I cs ss := x_iinc hd rfl hp h
theorem x_lst3 {G : GT} {own : String} {cc : ByteArray} {R : Room} {Fx : FxT} {pc : Nat} {l0 l1 l2 l3 l4 : Option Value} {r : List (Option Value)} {S : List Value} {K : List Nat} {N : NN} {I : MM} {cs ss : Nat} {z : Int} (hd : decode cc pc = .ok (.lstore_n 3, 1)) (h : XX G own cc R Fx (pc + 1) (l0 :: l1 :: l2 :: some (vl z) :: none :: r) S K N I cs ss) (hp : pvk (l0 :: l1 :: l2 :: l3 :: l4 :: r) 3 = true := by rfl) : XX G own cc R Fx pc (l0 :: l1 :: l2 :: l3 :: l4 :: r) (vl z :: S) K N I cs ss := x_lstore_n (i := 3) hd rfl (by simp) hp h
theorem x_ist4 {G : GT} {own : String} {cc : ByteArray} {R : Room} {Fx : FxT} {pc : Nat} {l0 l1 l2 l3 l4 : Option Value} {r : List (Option Value)} {S : List Value} {K : List Nat} {N : NN} {I : MM} {cs ss : Nat} {z : Int} (hd : decode cc pc = .ok (.istore 4, 2)) (h : XX G own cc R Fx (pc + 2) (l0 :: l1 :: l2 :: l3 :: some (vi z) :: r) S K N I cs ss) (hp : pvk (l0 :: l1 :: l2 :: l3 :: l4 :: r) 4 = true := by rfl) : XX G own cc R Fx pc (l0 :: l1 :: l2 :: l3 :: l4 :: r) (vi z :: S) K N I cs ss := x_istore (i := 4) hd (by simp) hp h
theorem x_ast4 {G : GT} {own : String} {cc : ByteArray} {R : Room} {Fx : FxT} {pc : Nat} {l0 l1 l2 l3 l4 : Option Value} {r : List (Option Value)} {S : List Value} {K : List Nat} {N : NN} {I : MM} {cs ss : Nat} {z : Nat} (hd : decode cc pc = .ok (.astore 4, 2)) (h : XX G own cc R Fx (pc + 2) (l0 :: l1 :: l2 :: l3 :: some (.ref z) :: r) S K N I cs ss) (hp : pvk (l0 :: l1 :: l2 :: l3 :: l4 :: r) 4 = true := by rfl) : XX G own cc R Fx pc (l0 :: l1 :: l2 :: l3 :: l4 :: r) (.ref z :: S) K N I cs ss := x_astore (i := 4) hd (by simp) hp h
theorem x_inc4 {G : GT} {own : String} {cc : ByteArray} {R : Room} {Fx : FxT} {pc : Nat} {l0 l1 l2 l3 : Option Value} {r : List (Option Value)} {S : List Value} {K : List Nat} {N : NN} {I : MM} {cs ss : Nat} {n z : Int} (hd : decode cc pc = .ok (.iinc 4 n, 3)) (h : XX G own cc R Fx (pc + 3) (l0 :: l1 :: l2 :: l3 :: some (vi (z + n)) :: r) S K N I cs ss) (hp : pvk (l0 :: l1 :: l2 :: l3 :: some (vi z) :: r) 4 = true := by rfl) : XX G own cc R Fx pc (l0 :: l1 :: l2 :: l3 :: some (vi z) :: r) S K N I cs ss := x_iinc hd rfl hp h
theorem x_lst4 {G : GT} {own : String} {cc : ByteArray} {R : Room} {Fx : FxT} {pc : Nat} {l0 l1 l2 l3 l4 l5 : Option Value} {r : List (Option Value)} {S : List Value} {K : List Nat} {N : NN} {I : MM} {cs ss : Nat} {z : Int} (hd : decode cc pc = .ok (.lstore 4, 2)) (h : XX G own cc R Fx (pc + 2) (l0 :: l1 :: l2 :: l3 :: some (vl z) :: none :: r) S K N I cs ss) (hp : pvk (l0 :: l1 :: l2 :: l3 :: l4 :: l5 :: r) 4 = true := by rfl) : XX G own cc R Fx pc (l0 :: l1 :: l2 :: l3 :: l4 :: l5 :: r) (vl z :: S) K N I cs ss := x_lstore (i := 4) hd (by simp) hp h
theorem x_ist5 {G : GT} {own : String} {cc : ByteArray} {R : Room} {Fx : FxT} {pc : Nat} {l0 l1 l2 l3 l4 l5 : Option Value} {r : List (Option Value)} {S : List Value} {K : List Nat} {N : NN} {I : MM} {cs ss : Nat} {z : Int} (hd : decode cc pc = .ok (.istore 5, 2)) (h : XX G own cc R Fx (pc + 2) (l0 :: l1 :: l2 :: l3 :: l4 :: some (vi z) :: r) S K N I cs ss) (hp : pvk (l0 :: l1 :: l2 :: l3 :: l4 :: l5 :: r) 5 = true := by rfl) : XX G own cc R Fx pc (l0 :: l1 :: l2 :: l3 :: l4 :: l5 :: r) (vi z :: S) K N I cs ss := x_istore (i := 5) hd (by simp) hp h
theorem x_ast5 {G : GT} {own : String} {cc : ByteArray} {R : Room} {Fx : FxT} {pc : Nat} {l0 l1 l2 l3 l4 l5 : Option Value} {r : List (Option Value)} {S : List Value} {K : List Nat} {N : NN} {I : MM} {cs ss : Nat} {z : Nat} (hd : decode cc pc = .ok (.astore 5, 2)) (h : XX G own cc R Fx (pc + 2) (l0 :: l1 :: l2 :: l3 :: l4 :: some (.ref z) :: r) S K N I cs ss) (hp : pvk (l0 :: l1 :: l2 :: l3 :: l4 :: l5 :: r) 5 = true := by rfl) : XX G own cc R Fx pc (l0 :: l1 :: l2 :: l3 :: l4 :: l5 :: r) (.ref z :: S) K N I cs ss := x_astore (i := 5) hd (by simp) hp h
theorem x_inc5 {G : GT} {own : String} {cc : ByteArray} {R : Room} {Fx : FxT} {pc : Nat} {l0 l1 l2 l3 l4 : Option Value} {r : List (Option Value)} {S : List Value} {K : List Nat} {N : NN} {I : MM} {cs ss : Nat} {n z : Int} (hd : decode cc pc = .ok (.iinc 5 n, 3)) (h : XX G own cc R Fx (pc + 3) (l0 :: l1 :: l2 :: l3 :: l4 :: some (vi (z + n)) :: r) S K N I cs ss) (hp : pvk (l0 :: l1 :: l2 :: l3 :: l4 :: some (vi z) :: r) 5 = true := by rfl) : XX G own cc R Fx pc (l0 :: l1 :: l2 :: l3 :: l4 :: some (vi z) :: r) S K N I cs ss := x_iinc hd rfl hp h
theorem x_lst5 {G : GT} {own : String} {cc : ByteArray} {R : Room} {Fx : FxT} {pc : Nat} {l0 l1 l2 l3 l4 l5 l6 : Option Value} {r : List (Option Value)} {S : List Value} {K : List Nat} {N : NN} {I : MM} {cs ss : Nat} {z : Int} (hd : decode cc pc = .ok (.lstore 5, 2)) (h : XX G own cc R Fx (pc + 2) (l0 :: l1 :: l2 :: l3 :: l4 :: some (vl z) :: none :: r) S K N I cs ss) (hp : pvk (l0 :: l1 :: l2 :: l3 :: l4 :: l5 :: l6 :: r) 5 = true := by rfl) : XX G own cc R Fx pc (l0 :: l1 :: l2 :: l3 :: l4 :: l5 :: l6 :: r) (vl z :: S) K N I cs ss := x_lstore (i := 5) hd (by simp) hp h
theorem x_ist6 {G : GT} {own : String} {cc : ByteArray} {R : Room} {Fx : FxT} {pc : Nat} {l0 l1 l2 l3 l4 l5 l6 : Option Value} {r : List (Option Value)} {S : List Value} {K : List Nat} {N : NN} {I : MM} {cs ss : Nat} {z : Int} (hd : decode cc pc = .ok (.istore 6, 2)) (h : XX G own cc R Fx (pc + 2) (l0 :: l1 :: l2 :: l3 :: l4 :: l5 :: some (vi z) :: r) S K N I cs ss) (hp : pvk (l0 :: l1 :: l2 :: l3 :: l4 :: l5 :: l6 :: r) 6 = true := by rfl) : XX G own cc R Fx pc (l0 :: l1 :: l2 :: l3 :: l4 :: l5 :: l6 :: r) (vi z :: S) K N I cs ss := x_istore (i := 6) hd (by simp) hp h
theorem x_ast6 {G : GT} {own : String} {cc : ByteArray} {R : Room} {Fx : FxT} {pc : Nat} {l0 l1 l2 l3 l4 l5 l6 : Option Value} {r : List (Option Value)} {S : List Value} {K : List Nat} {N : NN} {I : MM} {cs ss : Nat} {z : Nat} (hd : decode cc pc = .ok (.astore 6, 2)) (h : XX G own cc R Fx (pc + 2) (l0 :: l1 :: l2 :: l3 :: l4 :: l5 :: some (.ref z) :: r) S K N I cs ss) (hp : pvk (l0 :: l1 :: l2 :: l3 :: l4 :: l5 :: l6 :: r) 6 = true := by rfl) : XX G own cc R Fx pc (l0 :: l1 :: l2 :: l3 :: l4 :: l5 :: l6 :: r) (.ref z :: S) K N I cs ss := x_astore (i := 6) hd (by simp) hp h
theorem x_inc6 {G : GT} {own : String} {cc : ByteArray} {R : Room} {Fx : FxT} {pc : Nat} {l0 l1 l2 l3 l4 l5 : Option Value} {r : List (Option Value)} {S : List Value} {K : List Nat} {N : NN} {I : MM} {cs ss : Nat} {n z : Int} (hd : decode cc pc = .ok (.iinc 6 n, 3)) (h : XX G own cc R Fx (pc + 3) (l0 :: l1 :: l2 :: l3 :: l4 :: l5 :: some (vi (z + n)) :: r) S K N I cs ss) (hp : pvk (l0 :: l1 :: l2 :: l3 :: l4 :: l5 :: some (vi z) :: r) 6 = true := by rfl) : XX G own cc R Fx pc (l0 :: l1 :: l2 :: l3 :: l4 :: l5 :: some (vi z) :: r) S K N I cs ss := x_iinc hd rfl hp h
theorem x_lst6 {G : GT} {own : String} {cc : ByteArray} {R : Room} {Fx : FxT} {pc : Nat} {l0 l1 l2 l3 l4 l5 l6 l7 : Option Value} {r : List (Option Value)} {S : List Value} {K : List Nat} {N : NN} {I : MM} {cs ss : Nat} {z : Int} (hd : decode cc pc = .ok (.lstore 6, 2)) (h : XX G own cc R Fx (pc + 2) (l0 :: l1 :: l2 :: l3 :: l4 :: l5 :: some (vl z) :: none :: r) S K N I cs ss) (hp : pvk (l0 :: l1 :: l2 :: l3 :: l4 :: l5 :: l6 :: l7 :: r) 6 = true := by rfl) : XX G own cc R Fx pc (l0 :: l1 :: l2 :: l3 :: l4 :: l5 :: l6 :: l7 :: r) (vl z :: S) K N I cs ss := x_lstore (i := 6) hd (by simp) hp h
theorem x_ist7 {G : GT} {own : String} {cc : ByteArray} {R : Room} {Fx : FxT} {pc : Nat} {l0 l1 l2 l3 l4 l5 l6 l7 : Option Value} {r : List (Option Value)} {S : List Value} {K : List Nat} {N : NN} {I : MM} {cs ss : Nat} {z : Int} (hd : decode cc pc = .ok (.istore 7, 2)) (h : XX G own cc R Fx (pc + 2) (l0 :: l1 :: l2 :: l3 :: l4 :: l5 :: l6 :: some (vi z) :: r) S K N I cs ss) (hp : pvk (l0 :: l1 :: l2 :: l3 :: l4 :: l5 :: l6 :: l7 :: r) 7 = true := by rfl) : XX G own cc R Fx pc (l0 :: l1 :: l2 :: l3 :: l4 :: l5 :: l6 :: l7 :: r) (vi z :: S) K N I cs ss := x_istore (i := 7) hd (by simp) hp h
theorem x_ast7 {G : GT} {own : String} {cc : ByteArray} {R : Room} {Fx : FxT} {pc : Nat} {l0 l1 l2 l3 l4 l5 l6 l7 : Option Value} {r : List (Option Value)} {S : List Value} {K : List Nat} {N : NN} {I : MM} {cs ss : Nat} {z : Nat} (hd : decode cc pc = .ok (.astore 7, 2)) (h : XX G own cc R Fx (pc + 2) (l0 :: l1 :: l2 :: l3 :: l4 :: l5 :: l6 :: some (.ref z) :: r) S K N I cs ss) (hp : pvk (l0 :: l1 :: l2 :: l3 :: l4 :: l5 :: l6 :: l7 :: r) 7 = true := by rfl) : XX G own cc R Fx pc (l0 :: l1 :: l2 :: l3 :: l4 :: l5 :: l6 :: l7 :: r) (.ref z :: S) K N I cs ss := x_astore (i := 7) hd (by simp) hp h
theorem x_inc7 {G : GT} {own : String} {cc : ByteArray} {R : Room} {Fx : FxT} {pc : Nat} {l0 l1 l2 l3 l4 l5 l6 : Option Value} {r : List (Option Value)} {S : List Value} {K : List Nat} {N : NN} {I : MM} {cs ss : Nat} {n z : Int} (hd : decode cc pc = .ok (.iinc 7 n, 3)) (h : XX G own cc R Fx (pc + 3) (l0 :: l1 :: l2 :: l3 :: l4 :: l5 :: l6 :: some (vi (z + n)) :: r) S K N I cs ss) (hp : pvk (l0 :: l1 :: l2 :: l3 :: l4 :: l5 :: l6 :: some (vi z) :: r) 7 = true := by rfl) : XX G own cc R Fx pc (l0 :: l1 :: l2 :: l3 :: l4 :: l5 :: l6 :: some (vi z) :: r) S K N I cs ss := x_iinc hd rfl hp h
theorem x_lst7 {G : GT} {own : String} {cc : ByteArray} {R : Room} {Fx : FxT} {pc : Nat} {l0 l1 l2 l3 l4 l5 l6 l7 l8 : Option Value} {r : List (Option Value)} {S : List Value} {K : List Nat} {N : NN} {I : MM} {cs ss : Nat} {z : Int} (hd : decode cc pc = .ok (.lstore 7, 2)) (h : XX G own cc R Fx (pc + 2) (l0 :: l1 :: l2 :: l3 :: l4 :: l5 :: l6 :: some (vl z) :: none :: r) S K N I cs ss) (hp : pvk (l0 :: l1 :: l2 :: l3 :: l4 :: l5 :: l6 :: l7 :: l8 :: r) 7 = true := by rfl) : XX G own cc R Fx pc (l0 :: l1 :: l2 :: l3 :: l4 :: l5 :: l6 :: l7 :: l8 :: r) (vl z :: S) K N I cs ss := x_lstore (i := 7) hd (by simp) hp h
theorem x_ist8 {G : GT} {own : String} {cc : ByteArray} {R : Room} {Fx : FxT} {pc : Nat} {l0 l1 l2 l3 l4 l5 l6 l7 l8 : Option Value} {r : List (Option Value)} {S : List Value} {K : List Nat} {N : NN} {I : MM} {cs ss : Nat} {z : Int} (hd : decode cc pc = .ok (.istore 8, 2)) (h : XX G own cc R Fx (pc + 2) (l0 :: l1 :: l2 :: l3 :: l4 :: l5 :: l6 :: l7 :: some (vi z) :: r) S K N I cs ss) (hp : pvk (l0 :: l1 :: l2 :: l3 :: l4 :: l5 :: l6 :: l7 :: l8 :: r) 8 = true := by rfl) : XX G own cc R Fx pc (l0 :: l1 :: l2 :: l3 :: l4 :: l5 :: l6 :: l7 :: l8 :: r) (vi z :: S) K N I cs ss := x_istore (i := 8) hd (by simp) hp h
theorem x_inc8 {G : GT} {own : String} {cc : ByteArray} {R : Room} {Fx : FxT} {pc : Nat} {l0 l1 l2 l3 l4 l5 l6 l7 : Option Value} {r : List (Option Value)} {S : List Value} {K : List Nat} {N : NN} {I : MM} {cs ss : Nat} {n z : Int} (hd : decode cc pc = .ok (.iinc 8 n, 3)) (h : XX G own cc R Fx (pc + 3) (l0 :: l1 :: l2 :: l3 :: l4 :: l5 :: l6 :: l7 :: some (vi (z + n)) :: r) S K N I cs ss) (hp : pvk (l0 :: l1 :: l2 :: l3 :: l4 :: l5 :: l6 :: l7 :: some (vi z) :: r) 8 = true := by rfl) : XX G own cc R Fx pc (l0 :: l1 :: l2 :: l3 :: l4 :: l5 :: l6 :: l7 :: some (vi z) :: r) S K N I cs ss := x_iinc hd rfl hp h
theorem x_lst8 {G : GT} {own : String} {cc : ByteArray} {R : Room} {Fx : FxT} {pc : Nat} {l0 l1 l2 l3 l4 l5 l6 l7 l8 l9 : Option Value} {r : List (Option Value)} {S : List Value} {K : List Nat} {N : NN} {I : MM} {cs ss : Nat} {z : Int} (hd : decode cc pc = .ok (.lstore 8, 2)) (h : XX G own cc R Fx (pc + 2) (l0 :: l1 :: l2 :: l3 :: l4 :: l5 :: l6 :: l7 :: some (vl z) :: none :: r) S K N I cs ss) (hp : pvk (l0 :: l1 :: l2 :: l3 :: l4 :: l5 :: l6 :: l7 :: l8 :: l9 :: r) 8 = true := by rfl) : XX G own cc R Fx pc (l0 :: l1 :: l2 :: l3 :: l4 :: l5 :: l6 :: l7 :: l8 :: l9 :: r) (vl z :: S) K N I cs ss := x_lstore (i := 8) hd (by simp) hp h
theorem x_ist9 {G : GT} {own : String} {cc : ByteArray} {R : Room} {Fx : FxT} {pc : Nat} {l0 l1 l2 l3 l4 l5 l6 l7 l8 l9 : Option Value} {r : List (Option Value)} {S : List Value} {K : List Nat} {N : NN} {I : MM} {cs ss : Nat} {z : Int} (hd : decode cc pc = .ok (.istore 9, 2)) (h : XX G own cc R Fx (pc + 2) (l0 :: l1 :: l2 :: l3 :: l4 :: l5 :: l6 :: l7 :: l8 :: some (vi z) :: r) S K N I cs ss) (hp : pvk (l0 :: l1 :: l2 :: l3 :: l4 :: l5 :: l6 :: l7 :: l8 :: l9 :: r) 9 = true := by rfl) : XX G own cc R Fx pc (l0 :: l1 :: l2 :: l3 :: l4 :: l5 :: l6 :: l7 :: l8 :: l9 :: r) (vi z :: S) K N I cs ss := x_istore (i := 9) hd (by simp) hp h
theorem x_inc9 {G : GT} {own : String} {cc : ByteArray} {R : Room} {Fx : FxT} {pc : Nat} {l0 l1 l2 l3 l4 l5 l6 l7 l8 : Option Value} {r : List (Option Value)} {S : List Value} {K : List Nat} {N : NN} {I : MM} {cs ss : Nat} {n z : Int} (hd : decode cc pc = .ok (.iinc 9 n, 3)) (h : XX G own cc R Fx (pc + 3) (l0 :: l1 :: l2 :: l3 :: l4 :: l5 :: l6 :: l7 :: l8 :: some (vi (z + n)) :: r) S K N I cs ss) (hp : pvk (l0 :: l1 :: l2 :: l3 :: l4 :: l5 :: l6 :: l7 :: l8 :: some (vi z) :: r) 9 = true := by rfl) : XX G own cc R Fx pc (l0 :: l1 :: l2 :: l3 :: l4 :: l5 :: l6 :: l7 :: l8 :: some (vi z) :: r) S K N I cs ss := x_iinc hd rfl hp h
theorem x_lst9 {G : GT} {own : String} {cc : ByteArray} {R : Room} {Fx : FxT} {pc : Nat} {l0 l1 l2 l3 l4 l5 l6 l7 l8 l9 l10 : Option Value} {r : List (Option Value)} {S : List Value} {K : List Nat} {N : NN} {I : MM} {cs ss : Nat} {z : Int} (hd : decode cc pc = .ok (.lstore 9, 2)) (h : XX G own cc R Fx (pc + 2) (l0 :: l1 :: l2 :: l3 :: l4 :: l5 :: l6 :: l7 :: l8 :: some (vl z) :: none :: r) S K N I cs ss) (hp : pvk (l0 :: l1 :: l2 :: l3 :: l4 :: l5 :: l6 :: l7 :: l8 :: l9 :: l10 :: r) 9 = true := by rfl) : XX G own cc R Fx pc (l0 :: l1 :: l2 :: l3 :: l4 :: l5 :: l6 :: l7 :: l8 :: l9 :: l10 :: r) (vl z :: S) K N I cs ss := x_lstore (i := 9) hd (by simp) hp h
theorem x_ist10 {G : GT} {own : String} {cc : ByteArray} {R : Room} {Fx : FxT} {pc : Nat} {l0 l1 l2 l3 l4 l5 l6 l7 l8 l9 l10 : Option Value} {r : List (Option Value)} {S : List Value} {K : List Nat} {N : NN} {I : MM} {cs ss : Nat} {z : Int} (hd : decode cc pc = .ok (.istore 10, 2)) (h : XX G own cc R Fx (pc + 2) (l0 :: l1 :: l2 :: l3 :: l4 :: l5 :: l6 :: l7 :: l8 :: l9 :: some (vi z) :: r) S K N I cs ss) (hp : pvk (l0 :: l1 :: l2 :: l3 :: l4 :: l5 :: l6 :: l7 :: l8 :: l9 :: l10 :: r) 10 = true := by rfl) : XX G own cc R Fx pc (l0 :: l1 :: l2 :: l3 :: l4 :: l5 :: l6 :: l7 :: l8 :: l9 :: l10 :: r) (vi z :: S) K N I cs ss := x_istore (i := 10) hd (by simp) hp h
theorem x_inc10 {G : GT} {own : String} {cc : ByteArray} {R : Room} {Fx : FxT} {pc : Nat} {l0 l1 l2 l3 l4 l5 l6 l7 l8 l9 : Option Value} {r : List (Option Value)} {S : List Value} {K : List Nat} {N : NN} {I : MM} {cs ss : Nat} {n z : Int} (hd : decode cc pc = .ok (.iinc 10 n, 3)) (h : XX G own cc R Fx (pc + 3) (l0 :: l1 :: l2 :: l3 :: l4 :: l5 :: l6 :: l7 :: l8 :: l9 :: some (vi (z + n)) :: r) S K N I cs ss) (hp : pvk (l0 :: l1 :: l2 :: l3 :: l4 :: l5 :: l6 :: l7 :: l8 :: l9 :: some (vi z) :: r) 10 = true := by rfl) : XX G own cc R Fx pc (l0 :: l1 :: l2 :: l3 :: l4 :: l5 :: l6 :: l7 :: l8 :: l9 :: some (vi z) :: r) S K N I cs ss := x_iinc hd rfl hp h
theorem x_lst10 {G : GT} {own : String} {cc : ByteArray} {R : Room} {Fx : FxT} {pc : Nat} {l0 l1 l2 l3 l4 l5 l6 l7 l8 l9 l10 l11 : Option Value} {r : List (Option Value)} {S : List Value} {K : List Nat} {N : NN} {I : MM} {cs ss : Nat} {z : Int} (hd : decode cc pc = .ok (.lstore 10, 2)) (h : XX G own cc R Fx (pc + 2) (l0 :: l1 :: l2 :: l3 :: l4 :: l5 :: l6 :: l7 :: l8 :: l9 :: some (vl z) :: none :: r) S K N I cs ss) (hp : pvk (l0 :: l1 :: l2 :: l3 :: l4 :: l5 :: l6 :: l7 :: l8 :: l9 :: l10 :: l11 :: r) 10 = true := by rfl) : XX G own cc R Fx pc (l0 :: l1 :: l2 :: l3 :: l4 :: l5 :: l6 :: l7 :: l8 :: l9 :: l10 :: l11 :: r) (vl z :: S) K N I cs ss := x_lstore (i := 10) hd (by simp) hp h
theorem x_ist11 {G : GT} {own : String} {cc : ByteArray} {R : Room} {Fx : FxT} {pc : Nat} {l0 l1 l2 l3 l4 l5 l6 l7 l8 l9 l10 l11 : Option Value} {r : List (Option Value)} {S : List Value} {K : List Nat} {N : NN} {I : MM} {cs ss : Nat} {z : Int} (hd : decode cc pc = .ok (.istore 11, 2)) (h : XX G own cc R Fx (pc + 2) (l0 :: l1 :: l2 :: l3 :: l4 :: l5 :: l6 :: l7 :: l8 :: l9 :: l10 :: some (vi z) :: r) S K N I cs ss) (hp : pvk (l0 :: l1 :: l2 :: l3 :: l4 :: l5 :: l6 :: l7 :: l8 :: l9 :: l10 :: l11 :: r) 11 = true := by rfl) : XX G own cc R Fx pc (l0 :: l1 :: l2 :: l3 :: l4 :: l5 :: l6 :: l7 :: l8 :: l9 :: l10 :: l11 :: r) (vi z :: S) K N I cs ss := x_istore (i := 11) hd (by simp) hp h
theorem x_inc11 {G : GT} {own : String} {cc : ByteArray} {R : Room} {Fx : FxT} {pc : Nat} {l0 l1 l2 l3 l4 l5 l6 l7 l8 l9 l10 : Option Value} {r : List (Option Value)} {S : List Value} {K : List Nat} {N : NN} {I : MM} {cs ss : Nat} {n z : Int} (hd : decode cc pc = .ok (.iinc 11 n, 3)) (h : XX G own cc R Fx (pc + 3) (l0 :: l1 :: l2 :: l3 :: l4 :: l5 :: l6 :: l7 :: l8 :: l9 :: l10 :: some (vi (z + n)) :: r) S K N I cs ss) (hp : pvk (l0 :: l1 :: l2 :: l3 :: l4 :: l5 :: l6 :: l7 :: l8 :: l9 :: l10 :: some (vi z) :: r) 11 = true := by rfl) : XX G own cc R Fx pc (l0 :: l1 :: l2 :: l3 :: l4 :: l5 :: l6 :: l7 :: l8 :: l9 :: l10 :: some (vi z) :: r) S K N I cs ss := x_iinc hd rfl hp h
theorem x_lst11 {G : GT} {own : String} {cc : ByteArray} {R : Room} {Fx : FxT} {pc : Nat} {l0 l1 l2 l3 l4 l5 l6 l7 l8 l9 l10 l11 l12 : Option Value} {r : List (Option Value)} {S : List Value} {K : List Nat} {N : NN} {I : MM} {cs ss : Nat} {z : Int} (hd : decode cc pc = .ok (.lstore 11, 2)) (h : XX G own cc R Fx (pc + 2) (l0 :: l1 :: l2 :: l3 :: l4 :: l5 :: l6 :: l7 :: l8 :: l9 :: l10 :: some (vl z) :: none :: r) S K N I cs ss) (hp : pvk (l0 :: l1 :: l2 :: l3 :: l4 :: l5 :: l6 :: l7 :: l8 :: l9 :: l10 :: l11 :: l12 :: r) 11 = true := by rfl) : XX G own cc R Fx pc (l0 :: l1 :: l2 :: l3 :: l4 :: l5 :: l6 :: l7 :: l8 :: l9 :: l10 :: l11 :: l12 :: r) (vl z :: S) K N I cs ss := x_lstore (i := 11) hd (by simp) hp h
theorem x_ist12 {G : GT} {own : String} {cc : ByteArray} {R : Room} {Fx : FxT} {pc : Nat} {l0 l1 l2 l3 l4 l5 l6 l7 l8 l9 l10 l11 l12 : Option Value} {r : List (Option Value)} {S : List Value} {K : List Nat} {N : NN} {I : MM} {cs ss : Nat} {z : Int} (hd : decode cc pc = .ok (.istore 12, 2)) (h : XX G own cc R Fx (pc + 2) (l0 :: l1 :: l2 :: l3 :: l4 :: l5 :: l6 :: l7 :: l8 :: l9 :: l10 :: l11 :: some (vi z) :: r) S K N I cs ss) (hp : pvk (l0 :: l1 :: l2 :: l3 :: l4 :: l5 :: l6 :: l7 :: l8 :: l9 :: l10 :: l11 :: l12 :: r) 12 = true := by rfl) : XX G own cc R Fx pc (l0 :: l1 :: l2 :: l3 :: l4 :: l5 :: l6 :: l7 :: l8 :: l9 :: l10 :: l11 :: l12 :: r) (vi z :: S) K N I cs ss := x_istore (i := 12) hd (by simp) hp h
theorem x_inc12 {G : GT} {own : String} {cc : ByteArray} {R : Room} {Fx : FxT} {pc : Nat} {l0 l1 l2 l3 l4 l5 l6 l7 l8 l9 l10 l11 : Option Value} {r : List (Option Value)} {S : List Value} {K : List Nat} {N : NN} {I : MM} {cs ss : Nat} {n z : Int} (hd : decode cc pc = .ok (.iinc 12 n, 3)) (h : XX G own cc R Fx (pc + 3) (l0 :: l1 :: l2 :: l3 :: l4 :: l5 :: l6 :: l7 :: l8 :: l9 :: l10 :: l11 :: some (vi (z + n)) :: r) S K N I cs ss) (hp : pvk (l0 :: l1 :: l2 :: l3 :: l4 :: l5 :: l6 :: l7 :: l8 :: l9 :: l10 :: l11 :: some (vi z) :: r) 12 = true := by rfl) : XX G own cc R Fx pc (l0 :: l1 :: l2 :: l3 :: l4 :: l5 :: l6 :: l7 :: l8 :: l9 :: l10 :: l11 :: some (vi z) :: r) S K N I cs ss := x_iinc hd rfl hp h
theorem x_lst12 {G : GT} {own : String} {cc : ByteArray} {R : Room} {Fx : FxT} {pc : Nat} {l0 l1 l2 l3 l4 l5 l6 l7 l8 l9 l10 l11 l12 l13 : Option Value} {r : List (Option Value)} {S : List Value} {K : List Nat} {N : NN} {I : MM} {cs ss : Nat} {z : Int} (hd : decode cc pc = .ok (.lstore 12, 2)) (h : XX G own cc R Fx (pc + 2) (l0 :: l1 :: l2 :: l3 :: l4 :: l5 :: l6 :: l7 :: l8 :: l9 :: l10 :: l11 :: some (vl z) :: none :: r) S K N I cs ss) (hp : pvk (l0 :: l1 :: l2 :: l3 :: l4 :: l5 :: l6 :: l7 :: l8 :: l9 :: l10 :: l11 :: l12 :: l13 :: r) 12 = true := by rfl) : XX G own cc R Fx pc (l0 :: l1 :: l2 :: l3 :: l4 :: l5 :: l6 :: l7 :: l8 :: l9 :: l10 :: l11 :: l12 :: l13 :: r) (vl z :: S) K N I cs ss := x_lstore (i := 12) hd (by simp) hp h
theorem x_ist13 {G : GT} {own : String} {cc : ByteArray} {R : Room} {Fx : FxT} {pc : Nat} {l0 l1 l2 l3 l4 l5 l6 l7 l8 l9 l10 l11 l12 l13 : Option Value} {r : List (Option Value)} {S : List Value} {K : List Nat} {N : NN} {I : MM} {cs ss : Nat} {z : Int} (hd : decode cc pc = .ok (.istore 13, 2)) (h : XX G own cc R Fx (pc + 2) (l0 :: l1 :: l2 :: l3 :: l4 :: l5 :: l6 :: l7 :: l8 :: l9 :: l10 :: l11 :: l12 :: some (vi z) :: r) S K N I cs ss) (hp : pvk (l0 :: l1 :: l2 :: l3 :: l4 :: l5 :: l6 :: l7 :: l8 :: l9 :: l10 :: l11 :: l12 :: l13 :: r) 13 = true := by rfl) : XX G own cc R Fx pc (l0 :: l1 :: l2 :: l3 :: l4 :: l5 :: l6 :: l7 :: l8 :: l9 :: l10 :: l11 :: l12 :: l13 :: r) (vi z :: S) K N I cs ss := x_istore (i := 13) hd (by simp) hp h
theorem x_inc13 {G : GT} {own : String} {cc : ByteArray} {R : Room} {Fx : FxT} {pc : Nat} {l0 l1 l2 l3 l4 l5 l6 l7 l8 l9 l10 l11 l12 : Option Value} {r : List (Option Value)} {S : List Value} {K : List Nat} {N : NN} {I : MM} {cs ss : Nat} {n z : Int} (hd : decode cc pc = .ok (.iinc 13 n, 3)) (h : XX G own cc R Fx (pc + 3) (l0 :: l1 :: l2 :: l3 :: l4 :: l5 :: l6 :: l7 :: l8 :: l9 :: l10 :: l11 :: l12 :: some (vi (z + n)) :: r) S K N I cs ss) (hp : pvk (l0 :: l1 :: l2 :: l3 :: l4 :: l5 :: l6 :: l7 :: l8 :: l9 :: l10 :: l11 :: l12 :: some (vi z) :: r) 13 = true := by rfl) : XX G own cc R Fx pc (l0 :: l1 :: l2 :: l3 :: l4 :: l5 :: l6 :: l7 :: l8 :: l9 :: l10 :: l11 :: l12 :: some (vi z) :: r) S K N I cs ss := x_iinc hd rfl hp h
theorem x_lst13 {G : GT} {own : String} {cc : ByteArray} {R : Room} {Fx : FxT} {pc : Nat} {l0 l1 l2 l3 l4 l5 l6 l7 l8 l9 l10 l11 l12 l13 l14 : Option Value} {r : List (Option Value)} {S : List Value} {K : List Nat} {N : NN} {I : MM} {cs ss : Nat} {z : Int} (hd : decode cc pc = .ok (.lstore 13, 2)) (h : XX G own cc R Fx (pc + 2) (l0 :: l1 :: l2 :: l3 :: l4 :: l5 :: l6 :: l7 :: l8 :: l9 :: l10 :: l11 :: l12 :: some (vl z) :: none :: r) S K N I cs ss) (hp : pvk (l0 :: l1 :: l2 :: l3 :: l4 :: l5 :: l6 :: l7 :: l8 :: l9 :: l10 :: l11 :: l12 :: l13 :: l14 :: r) 13 = true := by rfl) : XX G own cc R Fx pc (l0 :: l1 :: l2 :: l3 :: l4 :: l5 :: l6 :: l7 :: l8 :: l9 :: l10 :: l11 :: l12 :: l13 :: l14 :: r) (vl z :: S) K N I cs ss := x_lstore (i := 13) hd (by simp) hp h
theorem x_ist14 {G : GT} {own : String} {cc : ByteArray} {R : Room} {Fx : FxT} {pc : Nat} {l0 l1 l2 l3 l4 l5 l6 l7 l8 l9 l10 l11 l12 l13 l14 : Option Value} {r : List (Option Value)} {S : List Value} {K : List Nat} {N : NN} {I : MM} {cs ss : Nat} {z : Int} (hd : decode cc pc = .ok (.istore 14, 2)) (h : XX G own cc R Fx (pc + 2) (l0 :: l1 :: l2 :: l3 :: l4 :: l5 :: l6 :: l7 :: l8 :: l9 :: l10 :: l11 :: l12 :: l13 :: some (vi z) :: r) S K N I cs ss) (hp : pvk (l0 :: l1 :: l2 :: l3 :: l4 :: l5 :: l6 :: l7 :: l8 :: l9 :: l10 :: l11 :: l12 :: l13 :: l14 :: r) 14 = true := by rfl) : XX G own cc R Fx pc (l0 :: l1 :: l2 :: l3 :: l4 :: l5 :: l6 :: l7 :: l8 :: l9 :: l10 :: l11 :: l12 :: l13 :: l14 :: r) (vi z :: S) K N I cs ss := x_istore (i := 14) hd (by simp) hp h
theorem x_inc14 {G : GT} {own : String} {cc : ByteArray} {R : Room} {Fx : FxT} {pc : Nat} {l0 l1 l2 l3 l4 l5 l6 l7 l8 l9 l10 l11 l12 l13 : Option Value} {r : List (Option Value)} {S : List Value} {K : List Nat} {N : NN} {I : MM} {cs ss : Nat} {n z : Int} (hd : decode cc pc = .ok (.iinc 14 n, 3)) (h : XX G own cc R Fx (pc + 3) (l0 :: l1 :: l2 :: l3 :: l4 :: l5 :: l6 :: l7 :: l8 :: l9 :: l10 :: l11 :: l12 :: l13 :: some (vi (z + n)) :: r) S K N I cs ss) (hp : pvk (l0 :: l1 :: l2 :: l3 :: l4 :: l5 :: l6 :: l7 :: l8 :: l9 :: l10 :: l11 :: l12 :: l13 :: some (vi z) :: r) 14 = true := by rfl) : XX G own cc R Fx pc (l0 :: l1 :: l2 :: l3 :: l4 :: l5 :: l6 :: l7 :: l8 :: l9 :: l10 :: l11 :: l12 :: l13 :: some (vi z) :: r) S K N I cs ss := x_iinc hd rfl hp h
theorem x_ist15 {G : GT} {own : String} {cc : ByteArray} {R : Room} {Fx : FxT} {pc : Nat} {l0 l1 l2 l3 l4 l5 l6 l7 l8 l9 l10 l11 l12 l13 l14 l15 : Option Value} {r : List (Option Value)} {S : List Value} {K : List Nat} {N : NN} {I : MM} {cs ss : Nat} {z : Int} (hd : decode cc pc = .ok (.istore 15, 2)) (h : XX G own cc R Fx (pc + 2) (l0 :: l1 :: l2 :: l3 :: l4 :: l5 :: l6 :: l7 :: l8 :: l9 :: l10 :: l11 :: l12 :: l13 :: l14 :: some (vi z) :: r) S K N I cs ss) (hp : pvk (l0 :: l1 :: l2 :: l3 :: l4 :: l5 :: l6 :: l7 :: l8 :: l9 :: l10 :: l11 :: l12 :: l13 :: l14 :: l15 :: r) 15 = true := by rfl) : XX G own cc R Fx pc (l0 :: l1 :: l2 :: l3 :: l4 :: l5 :: l6 :: l7 :: l8 :: l9 :: l10 :: l11 :: l12 :: l13 :: l14 :: l15 :: r) (vi z :: S) K N I cs ss := x_istore (i := 15) hd (by simp) hp h
theorem x_inc15 {G : GT} {own : String} {cc : ByteArray} {R : Room} {Fx : FxT} {pc : Nat} {l0 l1 l2 l3 l4 l5 l6 l7 l8 l9 l10 l11 l12 l13 l14 : Option Value} {r : List (Option Value)} {S : List Value} {K : List Nat} {N : NN} {I : MM} {cs ss : Nat} {n z : Int} (hd : decode cc pc = .ok (.iinc 15 n, 3)) (h : XX G own cc R Fx (pc + 3) (l0 :: l1 :: l2 :: l3 :: l4 :: l5 :: l6 :: l7 :: l8 :: l9 :: l10 :: l11 :: l12 :: l13 :: l14 :: some (vi (z + n)) :: r) S K N I cs ss) (hp : pvk (l0 :: l1 :: l2 :: l3 :: l4 :: l5 :: l6 :: l7 :: l8 :: l9 :: l10 :: l11 :: l12 :: l13 :: l14 :: some (vi z) :: r) 15 = true := by rfl) : XX G own cc R Fx pc (l0 :: l1 :: l2 :: l3 :: l4 :: l5 :: l6 :: l7 :: l8 :: l9 :: l10 :: l11 :: l12 :: l13 :: l14 :: some (vi z) :: r) S K N I cs ss := x_iinc hd rfl hp h
end
section
/-! ===== the heap: fields, arrays, what is made ===== -/
theorem wl_at {cA : Nat → ClassId} {al : Nat → Nat} {K : List Nat} {N : NN} {I : MM} {q0 i : Nat} (h : K[q0]? = some i) : (wl cA al K N I)[q0]? = some (al i, ent cA al N I i) := by simp [wl, h]
theorem wl_of {cA : Nat → ClassId} {al : Nat → Nat} {K : List Nat} {N : NN} {I : MM} {q0 : Nat} {x : Nat × va_E} (h : (wl cA al K N I)[q0]? = some x) : ∃ i, K[q0]? = some i ∧ x = (al i, ent cA al N I i) := by
  rw [wl, List.getElem?_map] at h
  cases hk : K[q0]? with
  | none => rw [hk] at h; cases h
  | some i => rw [hk] at h; cases h; exact ⟨i, rfl, rfl⟩
theorem wl_set {A : Nat → Prop} {cA : Nat → ClassId} {al : Nat → Nat} {K : List Nat} {N N' : NN} {I I' : MM} {q0 i : Nat} {e' : va_E} (hD : va_D A (wl cA al K N I)) (hq : K[q0]? = some i) (he : ent cA al N' I' i = e') (ho : ∀ j, j ≠ i → ent cA al N' I' j = ent cA al N I j) : (wl cA al K N I).set q0 (al i, e') = wl cA al K N' I' := by
  apply List.ext_getElem?
  intro n
  by_cases e : q0 = n
  · subst e
    rw [List.getElem?_set_self (by simpa [wl] using (List.getElem?_eq_some_iff.mp hq).1), wl_at hq, he]
  · rw [List.getElem?_set_ne e]
    cases hn : K[n]? with
    | none => simp [wl, hn]
    | some j =>
      rw [wl_at hn, wl_at hn, ho j (fun z => ?_)]
      subst z
      exact e (hD.1 q0 n _ _ (wl_at hq) (wl_at hn) rfl)
theorem ent_obj {cA : Nat → ClassId} {al : Nat → Nat} {N : NN} {I : MM} {i ci : Nat} (h : kd i = ci) (h6 : ci < 6) : ent cA al N I i = .inr (ci, (List.range (ln i)).map (sv al N I i)) := by
  subst h
  unfold ent
  rw [if_neg (by omega), if_neg (by omega), if_neg (by omega)]
theorem ent_int {cA : Nat → ClassId} {al : Nat → Nat} {N : NN} {I : MM} {i : Nat} (h : kd i = 10) : ent cA al N I i = .inl (cA 0, ln i, .inl (ia I i)) := by unfold ent; rw [if_pos h]
theorem ent_boo {cA : Nat → ClassId} {al : Nat → Nat} {N : NN} {I : MM} {i : Nat} (h : kd i = 11) : ent cA al N I i = .inl (cA 1, ln i, .inl (ia I i)) := by unfold ent; rw [if_neg (by omega), if_pos h]
theorem ent_row {cA : Nat → ClassId} {al : Nat → Nat} {N : NN} {I : MM} {i : Nat} (h : kd i = 12) : ent cA al N I i = .inl (cA 2, ln i, .inr (.inr (.inr (.inr (rq al N i))))) := by unfold ent; rw [if_neg (by omega), if_neg (by omega), if_pos h]
theorem fs_get {α : Type} {n k : Nat} {f : Nat → α} (hk : k < n) : ((List.range n).map f)[k]? = some (f k) := by simp [hk]
theorem fs_set {α : Type} {n k : Nat} {f g : Nat → α} {v : α} (hg : g k = v) (ho : ∀ j, j ≠ k → g j = f j) : ((List.range n).map f).set k v = (List.range n).map g := by
  apply List.ext_getElem?
  intro m
  by_cases e : k = m
  · subst e
    by_cases hk : k < n
    · rw [List.getElem?_set_self (by simpa using hk), fs_get hk, hg]
    · simp [hk]
  · rw [List.getElem?_set_ne e]
    by_cases hk : m < n
    · rw [fs_get hk, fs_get hk, ho m (Ne.symm e)]
    · simp [hk]
theorem up_s {I : MM} {i k : Nat} {v : Int} : up I i k v i k = v := by simp [up]
theorem up_n1 {I : MM} {i k a b : Nat} {v : Int} (h : a ≠ i) : up I i k v a b = I a b := by simp [up, h]
theorem up_n2 {I : MM} {i k a b : Nat} {v : Int} (h : b ≠ k) : up I i k v a b = I a b := by simp [up, h]
theorem ent_congr {cA : Nat → ClassId} {al : Nat → Nat} {N N' : NN} {I I' : MM} {j : Nat} (hI : ∀ b, I' j b = I j b) (hN : ∀ b, N' j b = N j b) : ent cA al N' I' j = ent cA al N I j := by
  have h1 : ia I' j = ia I j := by funext b; simp [ia, hI]
  have h2 : rq al N' j = rq al N j := by funext b; simp [rq, hN]
  have h3 : sv al N' I' j = sv al N I j := by funext b; simp [sv, hN, hI]
  unfold ent
  rw [h1, h2, h3]
theorem RepW.put {G : GT} {al : Nat → Nat} {K : List Nat} {N N' : NN} {I I' : MM} {H H1 : Heap} (h : RepW G al K N I H) (h1 : va_P G.1 classes (wl G.2.1 al K N' I') H1) (h2 : va_D (Ab G) (wl G.2.1 al K N' I')) (hc : ∀ i, i ∈ K → ∀ k j, tg i k = some j → N' i k = false → j ∈ K) : RepW G al K N' I' H1 := ⟨h1, h2, h.2.2.1, h.2.2.2.1, hc⟩
/-- what a class's objects are: its place, name, fields, how many; its words stand in the tables -/
def CI (ci : Nat) (C : String) (T : u_T) (Nn : Nat) (ty : Nat → FieldType) : Prop := classes[ci]? = some (C, T, Nn) ∧ (∀ w ∈ u_ws C T Nn, w ∈ Wd) ∧ (∀ i, kd i = ci → ln i = Nn) ∧ ci < 6 ∧ (∀ a, a < Nn → ∀ b, b < Nn → a ≠ b → (T a).2.1 ≠ (T b).2.1) ∧ (∀ k, k < Nn → parseFieldDescriptor (T k).2.2.1 = some (ty k))
/-- a field's entry in the pool -/
def GF (own : String) (x ci k : Nat) : Prop := ∃ C T Nn ty, CI ci C T Nn ty ∧ k < Nn ∧ Cond.fieldLink own x (T k).1 (T k).2.1 (T k).2.2.1 ∈ Wd
def PI (own : String) (x ci k : Nat) : Prop := ∃ C T Nn ty, CI ci C T Nn ty ∧ k < Nn ∧ Cond.fieldLink own x (T k).1 (T k).2.1 (T k).2.2.1 ∈ Wd ∧ (T k).2.2.2 = false ∧ parseFieldDescriptor (T k).2.2.1 = some .int
def PZ (own : String) (x ci k : Nat) : Prop := ∃ C T Nn ty, CI ci C T Nn ty ∧ k < Nn ∧ Cond.fieldLink own x (T k).1 (T k).2.1 (T k).2.2.1 ∈ Wd ∧ (T k).2.2.2 = false ∧ parseFieldDescriptor (T k).2.2.1 = some .boolean
def PR (own : String) (x ci k : Nat) : Prop := ∃ C T Nn ty t, CI ci C T Nn ty ∧ k < Nn ∧ Cond.fieldLink own x (T k).1 (T k).2.1 (T k).2.2.1 ∈ Wd ∧ (T k).2.2.2 = true ∧ (T k).1 = own ∧ parseFieldDescriptor (T k).2.2.1 = some t ∧ ∀ a : Nat, narrow t (.ref a) = .ref a ∧ fits t (.ref a) = true
theorem kd_small {i ci : Nat} (h : kd i = ci) (h6 : ci < 6) : kd i ≠ 99 := by omega
section FR
variable {G : GT} {own : String} {cc : ByteArray} {R : Room} {Fx : FxT} {pc : Nat} {L : List (Option Value)} {S : List Value} {K : List Nat} {N : NN} {I : MM} {cs ss : Nat}

theorem x_getI {x i ci k : Nat} (hd : decode cc pc = .ok (.getfield x, 3)) (hf : GF own x ci k) (hk : kd i = ci) (ht : tg i k = none) (h : XX G own cc R Fx (pc + 3) L (vi (I i k) :: S) K N I cs ss) : XX G own cc R Fx pc L (.ref i :: S) K N I cs ss := by
  obtain ⟨p, e, s, m, args, below, meth, c, Q, nL, a0, K0⟩ := Fx
  intro ok al H locs ls st
  obtain ⟨hx, hb, hml, hown, hts, hE, hA⟩ := id ok
  obtain ⟨C, T, Nn, ty, ⟨hc, hin, hln, h6, -, -⟩, hkn, hl⟩ := hf
  have hi : i ∈ K := st.2.2.2.2.1.head.mem (kd_small hk h6)
  obtain ⟨q0, hq⟩ := List.getElem?_of_mem hi
  have k1 := h ok al H locs ls (st.to (fun q => q.tail.cons trivial))
  exact va_get hx hb hts hin hown hE.1 st.1.1 q0 (by rw [wl_at hq, ent_obj hk h6]) hc k hkn (hts _ hl) (fun _ z => z) (v := vi (I i k)) (by rw [hln i hk, fs_get hkn]; simp [sv, ht]) hd k1
theorem x_getR {x i ci k j : Nat} (hd : decode cc pc = .ok (.getfield x, 3)) (hf : GF own x ci k) (hk : kd i = ci) (ht : tg i k = some j) (hn : N i k = false) (h : XX G own cc R Fx (pc + 3) L (.ref j :: S) K N I cs ss) : XX G own cc R Fx pc L (.ref i :: S) K N I cs ss := by
  obtain ⟨p, e, s, m, args, below, meth, c, Q, nL, a0, K0⟩ := Fx
  intro ok al H locs ls st
  obtain ⟨hx, hb, hml, hown, hts, hE, hA⟩ := id ok
  obtain ⟨C, T, Nn, ty, ⟨hc, hin, hln, h6, -, -⟩, hkn, hl⟩ := hf
  have hi : i ∈ K := st.2.2.2.2.1.head.mem (kd_small hk h6)
  obtain ⟨q0, hq⟩ := List.getElem?_of_mem hi
  have k1 := h ok al H locs ls (st.to (fun q => q.tail.cons (Or.inl (st.1.2.2.2.2 i hi k j ht hn))))
  exact va_get hx hb hts hin hown hE.1 st.1.1 q0 (by rw [wl_at hq, ent_obj hk h6]) hc k hkn (hts _ hl) (fun _ z => z) (v := .ref (al j)) (by rw [hln i hk, fs_get hkn]; simp [sv, ht, hn]) hd k1
theorem x_putI {x i ci k : Nat} {z : Int} (hd : decode cc pc = .ok (.putfield x, 3)) (hf : PI own x ci k) (hk : kd i = ci) (ht : tg i k = none) (h : XX G own cc R Fx (pc + 3) L S K N (up I i k z) cs ss) : XX G own cc R Fx pc L (vi z :: .ref i :: S) K N I cs ss := by
  obtain ⟨p, e, s, m, args, below, meth, c, Q, nL, a0, K0⟩ := Fx
  intro ok al H locs ls st
  obtain ⟨hx, hb, hml, hown, hts, hE, hA⟩ := id ok
  obtain ⟨C, T, Nn, ty, ⟨hc, hin, hln, h6, hnm, hty⟩, hkn, hl, hfin, hpd⟩ := hf
  have hi : i ∈ K := st.2.2.2.2.1.tail.head.mem (kd_small hk h6)
  obtain ⟨q0, hq⟩ := List.getElem?_of_mem hi
  refine va_put hx hb hts hin ty hty hnm hown hE.1 st.1.1 st.1.2.1 st.2.1 q0 (by rw [wl_at hq, ent_obj hk h6]) hc k hkn (hts _ hl) (fun _ z => z) hfin hpd rfl rfl (by simp [hln i hk, hkn]) hd (fun H1 locs1 g1 g2 g3 => ?_)
  have e : (wl G.2.1 al K N I).set q0 (al i, .inr (ci, ((List.range (ln i)).map (sv al N I i)).set k (vi z))) = wl G.2.1 al K N (up I i k z) := wl_set st.1.2.1 hq (by rw [ent_obj hk h6, fs_set (g := sv al N (up I i k z) i) (by simp [sv, ht, up_s]) (fun j hj => by simp [sv, up_n2 hj])]) (fun j hj => ent_congr (fun b => up_n1 hj) (fun b => rfl))
  exact h ok al H1 locs1 ls ⟨st.1.put (e ▸ g1) (e ▸ g2) st.1.2.2.2.2, g3, st.2.2.1, st.2.2.2.1, st.2.2.2.2.1.tail.tail, st.2.2.2.2.2⟩
theorem x_putZ {x i ci k : Nat} {z : Int} (hd : decode cc pc = .ok (.putfield x, 3)) (hf : PZ own x ci k) (hz : z = 0 ∨ z = 1) (hk : kd i = ci) (ht : tg i k = none) (h : XX G own cc R Fx (pc + 3) L S K N (up I i k z) cs ss) : XX G own cc R Fx pc L (vi z :: .ref i :: S) K N I cs ss := by
  obtain ⟨p, e, s, m, args, below, meth, c, Q, nL, a0, K0⟩ := Fx
  intro ok al H locs ls st
  obtain ⟨hx, hb, hml, hown, hts, hE, hA⟩ := id ok
  obtain ⟨C, T, Nn, ty, ⟨hc, hin, hln, h6, hnm, hty⟩, hkn, hl, hfin, hpd⟩ := hf
  have hi : i ∈ K := st.2.2.2.2.1.tail.head.mem (kd_small hk h6)
  obtain ⟨q0, hq⟩ := List.getElem?_of_mem hi
  refine va_put hx hb hts hin ty hty hnm hown hE.1 st.1.1 st.1.2.1 st.2.1 q0 (by rw [wl_at hq, ent_obj hk h6]) hc k hkn (hts _ hl) (fun _ z => z) hfin hpd (by rcases hz with rfl | rfl <;> rfl) (by rcases hz with rfl | rfl <;> rfl) (by simp [hln i hk, hkn]) hd (fun H1 locs1 g1 g2 g3 => ?_)
  have e : (wl G.2.1 al K N I).set q0 (al i, .inr (ci, ((List.range (ln i)).map (sv al N I i)).set k (vi z))) = wl G.2.1 al K N (up I i k z) := wl_set st.1.2.1 hq (by rw [ent_obj hk h6, fs_set (g := sv al N (up I i k z) i) (by simp [sv, ht, up_s]) (fun j hj => by simp [sv, up_n2 hj])]) (fun j hj => ent_congr (fun b => up_n1 hj) (fun b => rfl))
  exact h ok al H1 locs1 ls ⟨st.1.put (e ▸ g1) (e ▸ g2) st.1.2.2.2.2, g3, st.2.2.1, st.2.2.2.1, st.2.2.2.2.1.tail.tail, st.2.2.2.2.2⟩
theorem x_putR {x i ci k j : Nat} (hd : decode cc pc = .ok (.putfield x, 3)) (hf : PR own x ci k) (hini : Fx.2.2.2.2.2.2.1.name = "<init>") (hk : kd i = ci) (ht : tg i k = some j) (hj : kd j ≠ 99) (h : XX G own cc R Fx (pc + 3) L S K (upN N i k) I cs ss) : XX G own cc R Fx pc L (.ref j :: .ref i :: S) K N I cs ss := by
  obtain ⟨p, e, s, m, args, below, meth, c, Q, nL, a0, K0⟩ := Fx
  intro ok al H locs ls st
  obtain ⟨hx, hb, hml, hown, hts, hE, hA⟩ := id ok
  obtain ⟨C, T, Nn, ty, t, ⟨hc, hin, hln, h6, hnm, hty⟩, hkn, hl, hfin, hdc, hpd, hnf⟩ := hf
  have hi : i ∈ K := st.2.2.2.2.1.tail.head.mem (kd_small hk h6)
  have hjK : j ∈ K := st.2.2.2.2.1.head.mem hj
  obtain ⟨q0, hq⟩ := List.getElem?_of_mem hi
  refine va_putF hx hb hts hin ty hty hnm hown hE.1 st.1.1 st.1.2.1 st.2.1 q0 (by rw [wl_at hq, ent_obj hk h6]) hc k hkn (hts _ hl) (fun _ z => z) hfin hini hdc hpd (hnf _).1 (hnf _).2 (by simp [hln i hk, hkn]) hd (fun H1 locs1 g1 g2 g3 => ?_)
  have e : (wl G.2.1 al K N I).set q0 (al i, .inr (ci, ((List.range (ln i)).map (sv al N I i)).set k (.ref (al j)))) = wl G.2.1 al K (upN N i k) I := wl_set st.1.2.1 hq (by rw [ent_obj hk h6, fs_set (g := sv al (upN N i k) I i) (by simp [sv, ht, upN]) (fun a ha => by simp [sv, upN, ha])]) (fun a ha => ent_congr (fun b => rfl) (fun b => by simp [upN, ha]))
  refine h ok al H1 locs1 ls ⟨st.1.put (e ▸ g1) (e ▸ g2) (fun a ha b t hab hn => ?_), g3, st.2.2.1, st.2.2.2.1, st.2.2.2.2.1.tail.tail, st.2.2.2.2.2⟩
  by_cases q : a = i ∧ b = k
  · obtain ⟨rfl, rfl⟩ := q
    rw [ht] at hab
    cases hab
    exact hjK
  · exact st.1.2.2.2.2 a ha b t hab (by simpa [upN, q] using hn)
theorem x_iald {i : Nat} {z : Int} (j : Nat) (hd : decode cc pc = .ok (.iaload, 1)) (hk : kd i = 10) (hz : z = (j : Int)) (hj : j < ln i) (h : XX G own cc R Fx (pc + 1) L (vi (I i j) :: S) K N I cs ss) : XX G own cc R Fx pc L (vi z :: .ref i :: S) K N I cs ss := by
  obtain ⟨p, e, s, m, args, below, meth, c, Q, nL, a0, K0⟩ := Fx
  intro ok al H locs ls st
  obtain ⟨hx, hb, hml, hown, hts, hE, hA⟩ := id ok
  subst hz
  have hi : i ∈ K := st.2.2.2.2.1.tail.head.mem (by omega)
  have hj3 := ln_lt i
  obtain ⟨q0, hq⟩ := List.getElem?_of_mem hi
  have k1 := h ok al H locs ls (st.to (fun q => q.tail.tail.cons trivial))
  refine va_iald hx hb hE.1 st.1.1 q0 0 (by rw [wl_at hq, ent_int hk]) rfl (oi_in hj (by omega)) hd ?_
  rw [oi_clamp (by omega)]
  exact k1
theorem x_bald {i : Nat} {z : Int} (j : Nat) (hd : decode cc pc = .ok (.baload, 1)) (hk : kd i = 11) (hz : z = (j : Int)) (hj : j < ln i) (h : XX G own cc R Fx (pc + 1) L (vi (I i j) :: S) K N I cs ss) : XX G own cc R Fx pc L (vi z :: .ref i :: S) K N I cs ss := by
  obtain ⟨p, e, s, m, args, below, meth, c, Q, nL, a0, K0⟩ := Fx
  intro ok al H locs ls st
  obtain ⟨hx, hb, hml, hown, hts, hE, hA⟩ := id ok
  subst hz
  have hi : i ∈ K := st.2.2.2.2.1.tail.head.mem (by omega)
  have hj3 := ln_lt i
  obtain ⟨q0, hq⟩ := List.getElem?_of_mem hi
  have k1 := h ok al H locs ls (st.to (fun q => q.tail.tail.cons trivial))
  refine va_zald hx hb hE.1 st.1.1 q0 1 (by rw [wl_at hq, ent_boo hk]) rfl (oi_in hj (by omega)) hd ?_
  rw [oi_clamp (by omega)]
  exact k1
theorem ia_up {i k : Nat} {z : Int} : ia (up I i k z) i = upd (ia I i) k (Int32.ofInt z) := by
  funext b
  by_cases e : b = k <;> simp [ia, upd, up, e]
theorem x_iast {i : Nat} {z v : Int} (j : Nat) (hd : decode cc pc = .ok (.iastore, 1)) (hk : kd i = 10) (hz : z = (j : Int)) (hj : j < ln i) (h : XX G own cc R Fx (pc + 1) L S K N (up I i j v) cs ss) : XX G own cc R Fx pc L (vi v :: vi z :: .ref i :: S) K N I cs ss := by
  obtain ⟨p, e, s, m, args, below, meth, c, Q, nL, a0, K0⟩ := Fx
  intro ok al H locs ls st
  obtain ⟨hx, hb, hml, hown, hts, hE, hA⟩ := id ok
  subst hz
  have hi : i ∈ K := st.2.2.2.2.1.tail.tail.head.mem (by omega)
  have hj3 := ln_lt i
  obtain ⟨q0, hq⟩ := List.getElem?_of_mem hi
  refine va_iast hx hb hE.1 st.1.1 st.1.2.1 st.2.1 q0 0 (by rw [wl_at hq, ent_int hk]) rfl (oi_in hj (by omega)) hd (fun H1 locs1 g1 g2 g3 => ?_)
  rw [oi_clamp (by omega)] at g1 g2
  have e : (wl G.2.1 al K N I).set q0 (al i, .inl (G.2.1 0, ln i, .inl (upd (ia I i) j (Int32.ofInt v)))) = wl G.2.1 al K N (up I i j v) := wl_set st.1.2.1 hq (by rw [ent_int hk, ia_up]) (fun j hj => ent_congr (fun b => up_n1 hj) (fun b => rfl))
  exact h ok al H1 locs1 ls ⟨st.1.put (e ▸ g1) (e ▸ g2) st.1.2.2.2.2, g3, st.2.2.1, st.2.2.2.1, st.2.2.2.2.1.tail.tail.tail, st.2.2.2.2.2⟩
theorem x_alen {i : Nat} (hd : decode cc pc = .ok (.arraylength, 1)) (hk : kd i = 10) (h : XX G own cc R Fx (pc + 1) L (vi (ln i) :: S) K N I cs ss) : XX G own cc R Fx pc L (.ref i :: S) K N I cs ss := by
  obtain ⟨p, e, s, m, args, below, meth, c, Q, nL, a0, K0⟩ := Fx
  intro ok al H locs ls st
  obtain ⟨hx, hb, hml, hown, hts, hE, hA⟩ := id ok
  have hi : i ∈ K := st.2.2.2.2.1.head.mem (by omega)
  obtain ⟨q0, hq⟩ := List.getElem?_of_mem hi
  have k1 := h ok al H locs ls (st.to (fun q => q.tail.cons trivial))
  exact va_alen (x := (ln i, .inl (ia I i))) hx hb hE.1 st.1.1 q0 0 (by rw [wl_at hq, ent_int hk]) rfl Int32.ofInt_eq_ofNat.symm hd k1
theorem x_aaldR {i t : Nat} {z : Int} (j : Nat) (hd : decode cc pc = .ok (.aaload, 1)) (hk : kd i = 12) (hz : z = (j : Int)) (hj : j < ln i) (ht : tg i j = some t) (hn : N i j = false) (h : XX G own cc R Fx (pc + 1) L (.ref t :: S) K N I cs ss) : XX G own cc R Fx pc L (vi z :: .ref i :: S) K N I cs ss := by
  obtain ⟨p, e, s, m, args, below, meth, c, Q, nL, a0, K0⟩ := Fx
  intro ok al H locs ls st
  obtain ⟨hx, hb, hml, hown, hts, hE, hA⟩ := id ok
  subst hz
  have hi : i ∈ K := st.2.2.2.2.1.tail.head.mem (by omega)
  have hj3 := ln_lt i
  obtain ⟨q0, hq⟩ := List.getElem?_of_mem hi
  have k1 := h ok al H locs ls (st.to (fun q => q.tail.tail.cons (Or.inl (st.1.2.2.2.2 i hi j t ht hn))))
  refine va_aldq hx hb hE.1 st.1.1 q0 2 (by rw [wl_at hq, ent_row hk]) rfl (oi_in hj (by omega)) hd ?_
  rw [oi_clamp (by omega)]
  have e : va_rf (rq al N i j) = .ref (al t) := by simp [rq, ht, hn, va_rf]
  rw [e]
  exact k1
theorem x_aaldN {i t : Nat} {z : Int} (j : Nat) (hd : decode cc pc = .ok (.aaload, 1)) (hk : kd i = 12) (hz : z = (j : Int)) (hj : j < ln i) (ht : tg i j = some t) (hn : N i j = true) (h : XX G own cc R Fx (pc + 1) L (.null :: S) K N I cs ss) : XX G own cc R Fx pc L (vi z :: .ref i :: S) K N I cs ss := by
  obtain ⟨p, e, s, m, args, below, meth, c, Q, nL, a0, K0⟩ := Fx
  intro ok al H locs ls st
  obtain ⟨hx, hb, hml, hown, hts, hE, hA⟩ := id ok
  subst hz
  have hi : i ∈ K := st.2.2.2.2.1.tail.head.mem (by omega)
  have hj3 := ln_lt i
  obtain ⟨q0, hq⟩ := List.getElem?_of_mem hi
  have k1 := h ok al H locs ls (st.to (fun q => q.tail.tail.cons trivial))
  refine va_aldq hx hb hE.1 st.1.1 q0 2 (by rw [wl_at hq, ent_row hk]) rfl (oi_in hj (by omega)) hd ?_
  rw [oi_clamp (by omega)]
  have e : va_rf (rq al N i j) = .null := by simp [rq, ht, hn, va_rf]
  rw [e]
  exact k1
theorem x_aast {i t : Nat} {z : Int} (j : Nat) (hd : decode cc pc = .ok (.aastore, 1)) (hk : kd i = 12) (hz : z = (j : Int)) (hj : j < ln i) (ht : tg i j = some t) (hkt : kd t = 3) (h : XX G own cc R Fx (pc + 1) L S K (upN N i j) I cs ss) : XX G own cc R Fx pc L (.ref t :: vi z :: .ref i :: S) K N I cs ss := by
  obtain ⟨p, e, s, m, args, below, meth, c, Q, nL, a0, K0⟩ := Fx
  intro ok al H locs ls st
  obtain ⟨hx, hb, hml, hown, hts, hE, hA⟩ := id ok
  subst hz
  have hi : i ∈ K := st.2.2.2.2.1.tail.tail.head.mem (by omega)
  have htK : t ∈ K := st.2.2.2.2.1.head.mem (by omega)
  have hj3 := ln_lt i
  obtain ⟨q0, hq⟩ := List.getElem?_of_mem hi
  obtain ⟨q1, hq1⟩ := List.getElem?_of_mem htK
  refine va_astq hx hb hE.1 st.1.1 st.1.2.1 st.2.1 q0 2 q1 3 (r := (RX3, TX3, 7)) (by rw [wl_at hq, ent_row hk]) rfl (by rw [wl_at hq1, ent_obj hkt (by decide)]) rfl (oi_in hj (by omega)) hd (fun H1 locs1 g1 g2 g3 => ?_)
  rw [oi_clamp (by omega)] at g1 g2
  have e : (wl G.2.1 al K N I).set q0 (al i, .inl (G.2.1 2, ln i, .inr (.inr (.inr (.inr (va_up (rq al N i) j (some (al t)))))))) = wl G.2.1 al K (upN N i j) I := wl_set st.1.2.1 hq (by
    have e1 : rq al (upN N i j) i = va_up (rq al N i) j (some (al t)) := by
      funext b
      by_cases e : b = j
      · subst e; simp [rq, va_up, upN, ht]
      · simp [rq, va_up, upN, e]
    rw [ent_row hk, e1]) (fun j hj => ent_congr (fun b => rfl) (fun b => by simp [upN, hj]))
  refine h ok al H1 locs1 ls ⟨st.1.put (e ▸ g1) (e ▸ g2) (fun a ha b t' hab hn => ?_), g3, st.2.2.1, st.2.2.2.1, st.2.2.2.2.1.tail.tail.tail, st.2.2.2.2.2⟩
  by_cases q : a = i ∧ b = j
  · obtain ⟨rfl, rfl⟩ := q
    rw [ht] at hab
    cases hab
    exact htK
  · exact st.1.2.2.2.2 a ha b t' hab (by simpa [upN, q] using hn)
theorem ia_cp {i sp j dp n : Nat} : ia (cpI I i sp j dp n) j = va_cpy (ia I i) (ia I j) sp dp n := by
  funext b
  by_cases e : dp ≤ b ∧ b < dp + n <;> simp [ia, va_cpy, cpI, e]
theorem x_acpy {x i j : Nat} {zs zd zn : Int} (sp dp n : Nat) (hd : decode cc pc = .ok (.invokestatic x, 3)) (hl : Cond.methodLink own x arraycopyName ∈ Wd) (hn1 : Cond.native arraycopyName ∈ Wd) (hn2 : Cond.static arraycopyName ∈ Wd) (hn3 : Cond.initialized "java/lang/System" ∈ Wd) (hi : kd i = 10) (hj : kd j = 10) (e1 : zs = (sp : Int)) (e2 : zd = (dp : Int)) (e3 : zn = (n : Int)) (b1 : sp + n ≤ ln i) (b2 : dp + n ≤ ln j) (hR : 1 ≤ R.frames ∧ (S.map fun v => v.category).sum + (nativeFrameWords "java/lang/System" "arraycopy" 5 + 11) ≤ R.locals) (h : XX G own cc R Fx (pc + 3) L S K N (cpI I i sp j dp n) cs ss) : XX G own cc R Fx pc L (vi zn :: vi zd :: .ref j :: vi zs :: .ref i :: S) K N I cs ss := by
  obtain ⟨p, e, s, m, args, below, meth, c, Q, nL, a0, K0⟩ := Fx
  intro ok al H locs ls st
  obtain ⟨hx, hb, hml, hown, hts, hE, hA⟩ := id ok
  subst e1; subst e2; subst e3
  have hiK : i ∈ K := st.2.2.2.2.1.tail.tail.tail.tail.head.mem (by omega)
  have hjK : j ∈ K := st.2.2.2.2.1.tail.tail.head.mem (by omega)
  have l1 := ln_lt i
  have l2 := ln_lt j
  obtain ⟨q0, hq⟩ := List.getElem?_of_mem hiK
  obtain ⟨q1, hq1⟩ := List.getElem?_of_mem hjK
  have nz : ∀ a : Nat, a < 1000 → ¬ Int32.ofInt (a : Int) < 0 := fun a ha q => by
    rw [← oi_0, oi_lt (by unfold inr; omega) inr0] at q; omega
  have hsum : ((S.map (gm al)).map fun v => v.category).sum = (S.map fun v => v.category).sum := by rw [List.map_map]; congr 1; apply List.map_congr_left; intro v _; exact gm_cat al v
  refine va_copyi hx hb (hml.trans st.2.2.1.1.symm) hown (hts _ hl) (hts _ hn1) (hts _ hn2) (hts _ hn3) hE.1 st.1.1 st.1.2.1 st.2.1 q0 q1 0 0 (ty := .int) (by rw [wl_at hq, ent_int hi]) (by rw [wl_at hq1, ent_int hj]) rfl rfl rfl (nz sp (by omega)) (nz dp (by omega)) (nz n (by omega)) (by rw [oi_clamp (by omega), oi_clamp (by omega)]; exact b1) (by rw [oi_clamp (by omega), oi_clamp (by omega)]; exact b2) (fun _ _ => rfl) hR.1 (by rw [hsum]; exact hR.2) hd (fun H1 locs1 g1 g2 g3 => ?_)
  rw [oi_clamp (by omega), oi_clamp (by omega), oi_clamp (by omega)] at g1 g2
  have e : (wl G.2.1 al K N I).set q1 (al j, .inl (G.2.1 0, ln j, .inl (va_cpy (ia I i) (ia I j) sp dp n))) = wl G.2.1 al K N (cpI I i sp j dp n) := wl_set st.1.2.1 hq1 (by rw [ent_int hj, ia_cp]) (fun a ha => ent_congr (fun b => by simp [cpI, ha]) (fun b => rfl))
  exact h ok al H1 locs1 ls ⟨st.1.put (e ▸ g1) (e ▸ g2) st.1.2.2.2.2, g3, st.2.2.1, st.2.2.2.1, st.2.2.2.2.1.tail.tail.tail.tail.tail, st.2.2.2.2.2⟩
end FR
end
section
/-! ===== statics, what is made, calls, contracts ===== -/
theorem gm_agree {K : List Nat} {al al' : Nat → Nat} (ha : ∀ j, (j ∈ K ∨ 70 ≤ j) → al' j = al j) {v : Value} (h : okv K v) : gm al' v = gm al v := by
  cases v <;> first | rfl | (show Value.ref (al' _) = Value.ref (al _); rw [ha _ h])
theorem gmS_agree {K : List Nat} {al al' : Nat → Nat} (ha : ∀ j, (j ∈ K ∨ 70 ≤ j) → al' j = al j) {S : List Value} (h : okS K S) : S.map (gm al') = S.map (gm al) := List.map_congr_left fun v hv => gm_agree ha (h v hv)
theorem LocW.agree {K : List Nat} {al al' : Nat → Nat} {nL : Nat} {ls : Array Slot} {L : List (Option Value)} (ha : ∀ j, (j ∈ K ∨ 70 ≤ j) → al' j = al j) (h : LocW al nL ls L) (hl : okL K L) : LocW al' nL ls L := ⟨h.1, h.2.1, h.2.2.1, fun i v hv => by rw [gm_agree ha (hl i v hv)]; exact h.2.2.2 i v hv⟩
theorem okv.mono {K K' : List Nat} (hK : ∀ i, i ∈ K → i ∈ K') {v : Value} (h : okv K v) : okv K' v := by
  cases v with
  | ref i => exact h.elim (fun z => Or.inl (hK i z)) Or.inr
  | _ => trivial
theorem okS.mono {K K' : List Nat} (hK : ∀ i, i ∈ K → i ∈ K') {S : List Value} (h : okS K S) : okS K' S := fun v hv => (h v hv).mono hK
theorem okL.mono {K K' : List Nat} (hK : ∀ i, i ∈ K → i ∈ K') {L : List (Option Value)} (h : okL K L) : okL K' L := fun i v hv => (h i v hv).mono hK
theorem cat_gm {al : Nat → Nat} {S : List Value} : ((S.map (gm al)).map fun v => v.category).sum = (S.map fun v => v.category).sum := by
  rw [List.map_map]; congr 1; apply List.map_congr_left; intro v _; exact gm_cat al v
/-- a cell made: everything that stood stays -/
theorem wl_new {G : GT} {al : Nat → Nat} {K : List Nat} {N : NN} {I : MM} {H : Heap} {i q : Nat} (h : RepW G al K N I H) (hi : i ∉ K) : wl G.2.1 (fun j => if j = i then q else al j) (K ++ [i]) (nwN N i) (nwI I i) = wl G.2.1 al K N I ++ [(q, ent G.2.1 (fun j => if j = i then q else al j) (nwN N i) (nwI I i) i)] := by
  simp only [wl, List.map_append, List.map_cons, List.map_nil, if_true]
  congr 1
  apply List.map_congr_left
  intro j hj
  have hji : j ≠ i := fun e => hi (e ▸ hj)
  rw [if_neg hji]
  congr 1
  have e1 : ia (nwI I i) j = ia I j := by funext b; simp [ia, nwI, hji]
  have hc := h.2.2.2.2 j hj
  have e2 : rq (fun j => if j = i then q else al j) (nwN N i) j = rq al N j := by
    funext b
    have e0 : nwN N i j b = N j b := by simp [nwN, hji]
    simp only [rq, e0]
    cases ht : tg j b with
    | none => rfl
    | some t =>
      cases hn : N j b with
      | true => rfl
      | false =>
        have htK := hc b t ht hn
        have : t ≠ i := fun e => hi (e ▸ htK)
        simp [this]
  have e3 : sv (fun j => if j = i then q else al j) (nwN N i) (nwI I i) j = sv al N I j := by
    funext b
    have e0 : nwN N i j b = N j b := by simp [nwN, hji]
    have e4 : nwI I i j b = I j b := by simp [nwI, hji]
    simp only [sv, e0, e4]
    cases ht : tg j b with
    | none => rfl
    | some t =>
      cases hn : N j b with
      | true => rfl
      | false =>
        have htK := hc b t ht hn
        have : t ≠ i := fun e => hi (e ▸ htK)
        simp [this]
  unfold ent
  rw [e1, e2, e3]
theorem StW.made {G : GT} {a0 : Nat → Nat} {K0 : List Nat} {nL : Nat} {s : State} {al : Nat → Nat} {H H1 : Heap} {locs : List Loc} {ls : Array Slot} {L : List (Option Value)} {S S' : List Value} {K : List Nat} {N : NN} {I : MM} {i q : Nat} (h : StW G a0 K0 nL s al H locs ls L S K N I) (hi : i ∉ K) (h70 : i < 70) (hS' : okS K S → okS K S')
    (h1 : va_P G.1 classes (wl G.2.1 al K N I ++ [(q, ent G.2.1 (fun j => if j = i then q else al j) (nwN N i) (nwI I i) i)]) H1) (h2 : va_D (Ab G) (wl G.2.1 al K N I ++ [(q, ent G.2.1 (fun j => if j = i then q else al j) (nwN N i) (nwI I i) i)])) (h3 : va_S (Ab G) s.heap H1 locs) :
    StW G a0 K0 nL s (fun j => if j = i then q else al j) H1 locs ls L (.ref i :: S') (K ++ [i]) (nwN N i) (nwI I i) ∧ S'.map (gm (fun j => if j = i then q else al j)) = S'.map (gm al) := by
  have ha : ∀ j, (j ∈ K ∨ 70 ≤ j) → (fun j => if j = i then q else al j) j = al j := fun j hj => by
    have : j ≠ i := by
      rcases hj with hj | hj
      · exact fun e => hi (e ▸ hj)
      · omega
    simp [this]
  have hKK : ∀ j, j ∈ K → j ∈ K ++ [i] := fun j hj => List.mem_append_left _ hj
  have hS2 := hS' h.2.2.2.2.1
  have e := wl_new (q := q) h.1 hi
  refine ⟨⟨⟨e ▸ h1, e ▸ h2, fun k => by rw [ha _ (Or.inr (by omega))]; exact h.1.2.2.1 k, fun j hj => ?_, fun j hj k t ht hn => ?_⟩, h3, h.2.2.1.agree ha h.2.2.2.1, h.2.2.2.1.mono hKK, (hS2.mono hKK).cons (Or.inl (by simp)), fun j hj => ?_, fun j hj => hKK j (h.2.2.2.2.2.2 j hj)⟩, gmS_agree ha hS2⟩
  · rcases List.mem_append.mp hj with hj | hj
    · exact h.1.2.2.2.1 j hj
    · rw [List.mem_singleton.mp hj]; exact h70
  · rcases List.mem_append.mp hj with hj | hj
    · have hji : j ≠ i := fun e => hi (e ▸ hj)
      exact hKK t (h.1.2.2.2.2 j hj k t ht (by simpa [nwN, hji] using hn))
    · rw [List.mem_singleton.mp hj] at hn ht
      simp [nwN, ht] at hn
  · rw [ha j (hj.imp (fun z => h.2.2.2.2.2.2 j z) id)]
    exact h.2.2.2.2.2.1 j hj
section FR
variable {G : GT} {own : String} {cc : ByteArray} {R : Room} {Fx : FxT} {pc : Nat} {L : List (Option Value)} {S : List Value} {K : List Nat} {N : NN} {I : MM} {cs ss : Nat}

theorem x_gets {x i k : Nat} (hd : decode cc pc = .ok (.getstatic x, 3)) (hl : Cond.fieldLink own x RX4 (stn k) "[I" ∈ Wd) (hk : k < 5) (hi : 70 + k = i) (h : XX G own cc R Fx (pc + 3) L (.ref i :: S) K N I cs ss) : XX G own cc R Fx pc L S K N I cs ss := by
  obtain ⟨p, e, s, m, args, below, meth, c, Q, nL, a0, K0⟩ := Fx
  intro ok al H locs ls st
  obtain ⟨hx, hb, hml, hown, hts, hE, hA⟩ := id ok
  subst hi
  have k1 := h ok al H locs ls (st.to (fun q => q.cons (Or.inr (Nat.le_add_right 70 k))))
  exact va_gets hx hb (hE.2.1 k hk).1 st.2.1 hown (hts _ hl) (fun _ z => z) hd (by rw [← st.1.2.2.1 k]; exact k1)
theorem x_getsN {x i k : Nat} (hd : decode cc pc = .ok (.getstatic x, 3)) (hl : Cond.fieldLinkNest own x RX4 (stn k) "[I" RX4 ∈ nests) (hk : k < 5) (hi : 70 + k = i) (h : XX G own cc R Fx (pc + 3) L (.ref i :: S) K N I cs ss) : XX G own cc R Fx pc L S K N I cs ss := by
  obtain ⟨p, e, s, m, args, below, meth, c, Q, nL, a0, K0⟩ := Fx
  intro ok al H locs ls st
  obtain ⟨hx, hb, hml, hown, hts, hE, hA⟩ := id ok
  subst hi
  have k1 := h ok al H locs ls (st.to (fun q => q.cons (Or.inr (Nat.le_add_right 70 k))))
  exact va_getsN hx hb (hE.2.1 k hk).1 st.2.1 hown (va_Nw.use rfl (hE.2.2.1 _ hl)) (fun _ z => z) hd (by rw [← st.1.2.2.1 k]; exact k1)
theorem x_sald {i k : Nat} {z : Int} (j : Nat) (hd : decode cc pc = .ok (.iaload, 1)) (hk : k < 5) (hi : 70 + k = i) (hz : z = (j : Int)) (hj : j < (stl k).length) (h : XX G own cc R Fx (pc + 1) L (vi ((stl k).getD j 0) :: S) K N I cs ss) : XX G own cc R Fx pc L (vi z :: .ref i :: S) K N I cs ss := by
  obtain ⟨p, e, s, m, args, below, meth, c, Q, nL, a0, K0⟩ := Fx
  intro ok al H locs ls st
  obtain ⟨hx, hb, hml, hown, hts, hE, hA⟩ := id ok
  subst hz; subst hi
  have l5 : (stl k).length < 8 := by
    rcases (by omega : k = 0 ∨ k = 1 ∨ k = 2 ∨ k = 3 ∨ k = 4) with rfl | rfl | rfl | rfl | rfl <;> decide
  have k1 := h ok al H locs ls (st.to (fun q => q.tail.tail.cons trivial))
  have e : (F0 m pc ls (List.map (gm al) (vi j :: .ref (70 + k) :: S))) = F0 m pc ls (.int (Int32.ofInt j) :: .ref (G.2.2.1 k) :: S.map (gm al)) := by rw [← st.1.2.2.1 k]; rfl
  rw [e]
  refine va_ti hx hb (hE.2.1 k hk).2 st.2.1 (oi_in hj (by omega)) rfl hd ?_
  rw [oi_clamp (by omega)]
  exact k1
theorem x_slen {i k : Nat} (hd : decode cc pc = .ok (.arraylength, 1)) (hk : k < 5) (hi : 70 + k = i) (h : XX G own cc R Fx (pc + 1) L (vi (stl k).length :: S) K N I cs ss) : XX G own cc R Fx pc L (.ref i :: S) K N I cs ss := by
  obtain ⟨p, e, s, m, args, below, meth, c, Q, nL, a0, K0⟩ := Fx
  intro ok al H locs ls st
  obtain ⟨hx, hb, hml, hown, hts, hE, hA⟩ := id ok
  subst hi
  have k1 := h ok al H locs ls (st.to (fun q => q.tail.cons trivial))
  have e : (F0 m pc ls (List.map (gm al) (.ref (70 + k) :: S))) = F0 m pc ls (.ref (G.2.2.1 k) :: S.map (gm al)) := by rw [← st.1.2.2.1 k]; rfl
  rw [e]
  exact va_tlen hx hb (hE.2.1 k hk).2 st.2.1 Int32.ofInt_eq_ofNat.symm hd k1
theorem x_objInit {x i : Nat} (hd : decode cc pc = .ok (.invokespecial x, 3)) (hl : Cond.methodLink own x objectInit ∈ Wd) (hn1 : Cond.instanceMethod objectInit ∈ Wd) (hn2 : Cond.code objectInit ⟨#[0xb1]⟩ 1 none ∈ Wd) (hR : 1 ≤ R.frames ∧ (S.map fun v => v.category).sum + 12 ≤ R.locals) (h : XX G own cc R Fx (pc + 3) L S K N I cs ss) : XX G own cc R Fx pc L (.ref i :: S) K N I cs ss := by
  obtain ⟨p, e, s, m, args, below, meth, c, Q, nL, a0, K0⟩ := Fx
  intro ok al H locs ls st
  obtain ⟨hx, hb, hml, hown, hts, hE, hA⟩ := id ok
  have k1 := h ok al H locs ls (st.to (fun q => q.tail))
  exact W.objInit hx hb hown (hts _ hl) (hts _ hn1) (hts _ hn2) rfl (by rw [hml]; exact st.2.2.1.1) rfl hd hR.1 (by show 2 * 0 + _ + 12 ≤ _; rw [cat_gm]; omega) k1
theorem oi_max {a b : Int} (ha : inr a) (hz : inr b) : (if Int32.ofInt a < Int32.ofInt b then Int32.ofInt b else Int32.ofInt a) = Int32.ofInt (max a b) := by
  by_cases q : a < b
  · rw [if_pos ((oi_lt ha hz).mpr q)]; congr 1; omega
  · rw [if_neg (fun z => q ((oi_lt ha hz).mp z))]; congr 1; omega
theorem oi_min {a b : Int} (ha : inr a) (hz : inr b) : (if Int32.ofInt b < Int32.ofInt a then Int32.ofInt b else Int32.ofInt a) = Int32.ofInt (min a b) := by
  by_cases q : b < a
  · rw [if_pos ((oi_lt hz ha).mpr q)]; congr 1; omega
  · rw [if_neg (fun z => q ((oi_lt hz ha).mp z))]; congr 1; omega
theorem x_max {x : Nat} {a b : Int} (hd : decode cc pc = .ok (.invokestatic x, 3)) (hl : Cond.methodLink own x Lib.Math.max.name ∈ Wd) (hn1 : Cond.static Lib.Math.max.name ∈ Wd) (hn2 : Cond.initialized "java/lang/Math" ∈ Wd) (hn3 : Cond.code Lib.Math.max.name Lib.Math.max.code 2 (some .int) ∈ Wd) (ha : inr a) (hz : inr b) (hR : 1 ≤ R.frames ∧ (S.map fun v => v.category).sum + 13 ≤ R.locals ∧ cs ≤ R.cells ∧ ss ≤ R.slots) (h : XX G own cc R Fx (pc + 3) L (vi (max a b) :: S) K N I cs ss) : XX G own cc R Fx pc L (vi b :: vi a :: S) K N I cs ss := by
  obtain ⟨p, e, s, m, args, below, meth, c, Q, nL, a0, K0⟩ := Fx
  intro ok al H locs ls st
  obtain ⟨hx, hb, hml, hown, hts, hE, hA⟩ := id ok
  have k1 := h ok al H locs ls (st.to (fun q => q.tail.tail.cons trivial))
  exact va_mmax hx hb (hml.trans st.2.2.1.1.symm) hown (hts _ hl) (hts _ hn1) (hts _ hn2) (hts _ hn3) hR.1 (by rw [cat_gm]; exact hR.2.1) hR.2.2.1 hR.2.2.2 hd (by rw [oi_max ha hz]; exact k1)
theorem x_min {x : Nat} {a b : Int} (hd : decode cc pc = .ok (.invokestatic x, 3)) (hl : Cond.methodLink own x Lib.Math.min.name ∈ Wd) (hn1 : Cond.static Lib.Math.min.name ∈ Wd) (hn2 : Cond.initialized "java/lang/Math" ∈ Wd) (hn3 : Cond.code Lib.Math.min.name Lib.Math.min.code 2 (some .int) ∈ Wd) (ha : inr a) (hz : inr b) (hR : 1 ≤ R.frames ∧ (S.map fun v => v.category).sum + 13 ≤ R.locals ∧ cs ≤ R.cells ∧ ss ≤ R.slots) (h : XX G own cc R Fx (pc + 3) L (vi (min a b) :: S) K N I cs ss) : XX G own cc R Fx pc L (vi b :: vi a :: S) K N I cs ss := by
  obtain ⟨p, e, s, m, args, below, meth, c, Q, nL, a0, K0⟩ := Fx
  intro ok al H locs ls st
  obtain ⟨hx, hb, hml, hown, hts, hE, hA⟩ := id ok
  have k1 := h ok al H locs ls (st.to (fun q => q.tail.tail.cons trivial))
  exact va_mmin hx hb (hml.trans st.2.2.1.1.symm) hown (hts _ hl) (hts _ hn1) (hts _ hn2) (hts _ hn3) hR.1 (by rw [cat_gm]; exact hR.2.1) hR.2.2.1 hR.2.2.2 hd (by rw [oi_min ha hz]; exact k1)
theorem x_acpyS {x i j k : Nat} {zs zd zn : Int} (sp dp n : Nat) (hd : decode cc pc = .ok (.invokestatic x, 3)) (hl : Cond.methodLink own x arraycopyName ∈ Wd) (hn1 : Cond.native arraycopyName ∈ Wd) (hn2 : Cond.static arraycopyName ∈ Wd) (hn3 : Cond.initialized "java/lang/System" ∈ Wd) (hk : k < 5) (hi : 70 + k = i) (hj : kd j = 10) (e1 : zs = (sp : Int)) (e2 : zd = (dp : Int)) (e3 : zn = (n : Int)) (b1 : sp + n ≤ (stl k).length) (b2 : dp + n ≤ ln j) (hR : 1 ≤ R.frames ∧ (S.map fun v => v.category).sum + (nativeFrameWords "java/lang/System" "arraycopy" 5 + 11) ≤ R.locals) (h : XX G own cc R Fx (pc + 3) L S K N (fun a b => if a = j ∧ dp ≤ b ∧ b < dp + n then (stl k).getD (sp + (b - dp)) 0 else I a b) cs ss) : XX G own cc R Fx pc L (vi zn :: vi zd :: .ref j :: vi zs :: .ref i :: S) K N I cs ss := by
  obtain ⟨p, e, s, m, args, below, meth, c, Q, nL, a0, K0⟩ := Fx
  intro ok al H locs ls st
  obtain ⟨hx, hb, hml, hown, hts, hE, hA⟩ := id ok
  subst e1; subst e2; subst e3; subst hi
  have l5 : (stl k).length < 8 := by
    rcases (by omega : k = 0 ∨ k = 1 ∨ k = 2 ∨ k = 3 ∨ k = 4) with rfl | rfl | rfl | rfl | rfl <;> decide
  have hjK : j ∈ K := st.2.2.2.2.1.tail.tail.head.mem (by omega)
  have l2 := ln_lt j
  obtain ⟨q1, hq1⟩ := List.getElem?_of_mem hjK
  have nz : ∀ a : Nat, a < 1000 → ¬ Int32.ofInt (a : Int) < 0 := fun a ha q => by
    rw [← oi_0, oi_lt (by unfold inr; omega) inr0] at q; omega
  have ti : ∀ a : Nat, a < 1000 → (Int32.ofInt (a : Int)).toInt = (a : Int) := fun a ha => oi_toInt (by unfold inr; omega)
  have es : (F0 m pc ls (List.map (gm al) (vi n :: vi dp :: .ref j :: vi sp :: .ref (70 + k) :: S))) = F0 m pc ls (.int (Int32.ofInt n) :: .int (Int32.ofInt dp) :: .ref (al j) :: .int (Int32.ofInt sp) :: .ref (G.2.2.1 k) :: S.map (gm al)) := by rw [← st.1.2.2.1 k]; rfl
  rw [es]
  obtain ⟨cell, c1, c2, c3, c4, c5, c6, c7⟩ := (hE.2.1 k hk).2
  have hc0 : H[G.2.2.1 k]? = some cell := by rw [st.2.1.2.1 _ (Array.getElem?_eq_some_iff.mp c1).1 c7]; exact c1
  have ha1 : (wl G.2.1 al K N I)[q1]? = some (al j, .inl (G.2.1 0, ln j, .inl (ia I j))) := by rw [wl_at hq1, ent_int hj]
  have hc1 : H[al j]? = some (vp_cell (G.2.1 0) (ln j, .inl (ia I j))) := st.1.1 q1 _ ha1
  obtain ⟨hs6, k0, hk0, cm0, hkk0⟩ := c2
  obtain ⟨-, k1, hk1, cm1, hkk1⟩ := (hE.1.2 0 _ rfl).1 (ln j) (fun b => .int (ia I j b))
  intro T hT X
  obtain ⟨vm', X', step⟩ := X.arraycopy hx hown (hts _ hl) (hts _ hn1) (hts _ hn2) (hts _ hn3) (src := G.2.2.1 k) (dst := al j) (cs := cell) (cd := vp_cell (G.2.1 0) (ln j, .inl (ia I j))) (srcPos := Int32.ofInt sp) (destPos := Int32.ofInt dp) (n := Int32.ofInt n) (by rw [hT]; exact hc0) (by rw [hT]; exact hc1)
    hs6 (fun _ h => by cases h) c3 (fun h => by cases h) hk0 hk1 hkk0 hkk1 (by simp [refKind]) (nz sp (by omega)) (nz dp (by omega)) (nz n (by omega))
    (by rw [ti sp (by omega), ti n (by omega)]; omega)
    (by rw [ti dp (by omega), ti n (by omega)]; show ¬ _ > ((arrV (G.2.1 0) (ln j) (fun b => .int (ia I j b))).slots.size : Int); rw [arrV_size]; omega)
    (fun vm₁ _ a ha => by
      rw [oi_clamp (by omega)] at ha
      have e : cell.slots.getD ((Int32.ofInt (sp : Int)).toNatClampNeg + a) .null = vi ((stl k).getD (sp + a) 0) := by
        rw [oi_clamp (by omega), Array.getD_eq_getD_getElem?, c6 _ (by omega)]
        rfl
      rw [e]
      exact ⟨rfl, trivial⟩)
    (g := F0 m pc ls (.int (Int32.ofInt n) :: .int (Int32.ofInt dp) :: .ref (al j) :: .int (Int32.ofInt sp) :: .ref (G.2.2.1 k) :: S.map (gm al))) rfl (by rw [hml]; exact st.2.2.1.1) (rest := S.map (gm al)) rfl (by rw [hb]; exact hd) hR.1 (by show 2 * 0 + _ + _ ≤ _; rw [cat_gm]; omega)
  have e1 : copied cell (vp_cell (G.2.1 0) (ln j, .inl (ia I j))) (Int32.ofInt sp) (Int32.ofInt dp) (Int32.ofInt n) = vp_cell (G.2.1 0) (ln j, .inl (va_cpy (fun b => Int32.ofInt ((stl k).getD b 0)) (ia I j) (Int32.ofInt (sp : Int)).toNatClampNeg (Int32.ofInt (dp : Int)).toNatClampNeg (Int32.ofInt (n : Int)).toNatClampNeg)) := va_copiedX (fun z => .int z) cell (G.2.1 0) (fun b => Int32.ofInt ((stl k).getD b 0)) (ia I j) c6 (by rw [oi_clamp (by omega), oi_clamp (by omega)]; exact b1)
  rw [e1, oi_clamp (by omega), oi_clamp (by omega), oi_clamp (by omega)] at X' step
  generalize hI' : (fun a b => if a = j ∧ dp ≤ b ∧ b < dp + n then (stl k).getD (sp + (b - dp)) 0 else I a b : MM) = I' at h
  have e2 : va_cpy (fun b => Int32.ofInt ((stl k).getD b 0)) (ia I j) sp dp n = ia I' j := by
    funext b
    rw [← hI']
    by_cases e : dp ≤ b ∧ b < dp + n <;> simp [ia, va_cpy, e]
  rw [e2] at X' step
  have hl' : al j < H.size := (Array.getElem?_eq_some_iff.mp hc1).1
  have hheap : ((T.setVm vm').setCell (al j) (vp_cell (G.2.1 0) (ln j, .inl (ia I' j)))).heap = H.setIfInBounds (al j) (vp_cell (G.2.1 0) (ln j, .inl (ia I' j))) := by rw [← hT]; rfl
  have oq : ∀ q : Nat, q ≠ al j → (H.setIfInBounds (al j) (vp_cell (G.2.1 0) (ln j, .inl (ia I' j))))[q]? = H[q]? := fun q hq => by simp [Array.getElem?_setIfInBounds, Ne.symm hq]
  have e3 : (wl G.2.1 al K N I).set q1 (al j, .inl (G.2.1 0, ln j, .inl (ia I' j))) = wl G.2.1 al K N I' := wl_set st.1.2.1 hq1 (by rw [ent_int hj]) (fun a ha => ent_congr (fun b => by rw [← hI']; simp [ha]) (fun b => rfl))
  have hAj : Ab G (al j) := st.1.2.1.2 q1 _ ha1
  have g1 := st.1.1.set st.1.2.1 ha1 (e := .inl (G.2.1 0, ln j, .inl (ia I' j))) (show (H.setIfInBounds (al j) _)[al j]? = some _ by simp [Array.getElem?_setIfInBounds, hl']) oq
  have g2 := st.1.2.1.set ha1 (e := .inl (G.2.1 0, ln j, .inl (ia I' j)))
  rw [e3] at g1 g2
  obtain ⟨t, a1, b1⟩ := h ok al _ _ ls ⟨st.1.put g1 g2 st.1.2.2.2.2, ⟨by simp; exact st.2.1.1, fun q g1 g2 => by
      rw [oq q (fun e => g2 (by rw [e]; exact hAj))]
      exact st.2.1.2.1 q g1 g2, fun q hq => by
      rcases List.mem_append.mp hq with h | h
      · exact st.2.1.2.2 q h
      · obtain ⟨z, -, hz⟩ := List.mem_map.mp h
        rw [← hz]
        exact hAj⟩, st.2.2.1, st.2.2.2.1, st.2.2.2.2.1.tail.tail.tail.tail.tail, st.2.2.2.2.2⟩ _ hheap X'
  exact ⟨t, step t a1, b1⟩
theorem x_new {x i ci : Nat} {C : String} {T : u_T} {Nn : Nat} {ty : Nat → FieldType} (hd : decode cc pc = .ok (.new x, 3)) (hci : CI ci C T Nn ty) (hl : Cond.classLink own x C ∈ Wd) (hn1 : Cond.instantiable C Nn ∈ Wd) (hn2 : Cond.initialized C ∈ Wd) (hk : kd i = ci) (hiK : i ∉ K) (h70 : i < 70) (hdv : ∀ j, j < Nn → defaultValue (ty j) = if (tg i j).isSome = true then .null else vi 0) (hR : cs + 1 ≤ R.cells ∧ ss + Nn ≤ R.slots) (h : XX G own cc R Fx (pc + 3) L (.ref i :: S) (K ++ [i]) (nwN N i) (nwI I i) (cs + 1) (ss + Nn)) : XX G own cc R Fx pc L S K N I cs ss := by
  obtain ⟨p, e, s, m, args, below, meth, c, Q, nL, a0, K0⟩ := Fx
  intro ok al H locs ls st
  obtain ⟨hx, hb, hml, hown, hts, hE, hA⟩ := id ok
  obtain ⟨hc, hin, hln, h6, hnm, hty⟩ := hci
  refine va_new (fs := (List.range (ln i)).map (sv (fun j => if j = i then 0 else al j) (nwN N i) (nwI I i) i)) hx hb hts hin ty hty hown (hts _ hl) (hts _ hn1) (hts _ hn2) hE.1 st.1.1 st.1.2.1 st.2.1 hA hc (fun j hj => ?_) hR.1 hR.2 hd (fun q H1 g1 g2 g3 => ?_)
  · rw [hdv j hj]
    show _ = ((List.range (ln i)).map _).getD j Value.null
    rw [hln i hk, List.getD_eq_getElem?_getD, fs_get hj]
    cases ht : tg i j <;> simp [sv, nwN, nwI, ht]
  · have e : ent G.2.1 (fun j => if j = i then q else al j) (nwN N i) (nwI I i) i = .inr (ci, (List.range (ln i)).map (sv (fun j => if j = i then 0 else al j) (nwN N i) (nwI I i) i)) := by
      rw [ent_obj hk h6]
      congr 2
      apply List.map_congr_left
      intro b _
      cases ht : tg i b <;> simp [sv, nwN, nwI, ht]
    rw [← e] at g1 g2
    obtain ⟨r1, r2⟩ := st.made hiK h70 (fun z => z) g1 g2 g3
    have k1 := h ok _ H1 locs ls r1
    simp only [List.map_cons, r2, gm, if_true] at k1
    exact k1
theorem x_newa {i : Nat} {z : Int} (n : Nat) (hd : decode cc pc = .ok (.newarray .int, 2)) (hw : Cond.arrayClass .int ∈ Wd) (hz : z = (n : Int)) (hk : kd i = 10) (hn : ln i = n) (hiK : i ∉ K) (h70 : i < 70) (hR : cs + 1 ≤ R.cells ∧ ss + n ≤ R.slots) (h : XX G own cc R Fx (pc + 2) L (.ref i :: S) (K ++ [i]) (nwN N i) (nwI I i) (cs + 1) (ss + n)) : XX G own cc R Fx pc L (vi z :: S) K N I cs ss := by
  obtain ⟨p, e, s, m, args, below, meth, c, Q, nL, a0, K0⟩ := Fx
  intro ok al H locs ls st
  obtain ⟨hx, hb, hml, hown, hts, hE, hA⟩ := id ok
  subst hz
  have l2 := ln_lt i
  refine va_newa (atype := .int) (ty := .int) (a0 := (n, .inl (fun _ => 0))) hx hb (hts _ hw) rfl hE.1 st.1.1 st.1.2.1 st.2.1 hA (fun _ => rfl) (fun q => by rw [← oi_0, oi_lt (by unfold inr; omega) inr0] at q; omega) (oi_clamp (by omega)) (by show n * 4 ≤ _; omega) hR.1 hR.2 hd (fun q c1 H1 g0 g1 g2 g3 => ?_)
  have ec : c1 = G.2.1 0 := by
    have z1 := (g0.2 3 _ rfl).2
    have z2 := (g0.2 0 _ rfl).2
    exact Option.some.inj (z1.symm.trans z2)
  subst ec
  have e : ent G.2.1 (fun j => if j = i then q else al j) (nwN N i) (nwI I i) i = .inl (G.2.1 0, n, .inl (fun _ => 0)) := by
    rw [ent_int hk, hn]
    congr 4
    funext b
    simp [ia, nwI]
  rw [← e] at g1 g2
  obtain ⟨r1, r2⟩ := st.made (S' := S) hiK h70 (fun z => z.tail) g1 g2 g3
  have k1 := h ok _ H1 locs ls r1
  simp only [List.map_cons, r2, gm, if_true] at k1
  exact k1
theorem x_newz {i : Nat} {z : Int} (n : Nat) (hd : decode cc pc = .ok (.newarray .boolean, 2)) (hw : Cond.arrayClass .boolean ∈ Wd) (hz : z = (n : Int)) (hk : kd i = 11) (hn : ln i = n) (hiK : i ∉ K) (h70 : i < 70) (hR : cs + 1 ≤ R.cells ∧ ss + n ≤ R.slots) (h : XX G own cc R Fx (pc + 2) L (.ref i :: S) (K ++ [i]) (nwN N i) (nwI I i) (cs + 1) (ss + n)) : XX G own cc R Fx pc L (vi z :: S) K N I cs ss := by
  obtain ⟨p, e, s, m, args, below, meth, c, Q, nL, a0, K0⟩ := Fx
  intro ok al H locs ls st
  obtain ⟨hx, hb, hml, hown, hts, hE, hA⟩ := id ok
  subst hz
  have l2 := ln_lt i
  refine va_newa (atype := .boolean) (ty := .boolean) (a0 := (n, .inl (fun _ => 0))) hx hb (hts _ hw) rfl hE.1 st.1.1 st.1.2.1 st.2.1 hA (fun _ => rfl) (fun q => by rw [← oi_0, oi_lt (by unfold inr; omega) inr0] at q; omega) (oi_clamp (by omega)) (by show n * 1 ≤ _; omega) hR.1 hR.2 hd (fun q c1 H1 g0 g1 g2 g3 => ?_)
  have ec : c1 = G.2.1 1 := by
    have z1 := (g0.2 3 _ rfl).2
    have z2 := (g0.2 1 _ rfl).2
    exact Option.some.inj (z1.symm.trans z2)
  subst ec
  have e : ent G.2.1 (fun j => if j = i then q else al j) (nwN N i) (nwI I i) i = .inl (G.2.1 1, n, .inl (fun _ => 0)) := by
    rw [ent_boo hk, hn]
    congr 4
    funext b
    simp [ia, nwI]
  rw [← e] at g1 g2
  obtain ⟨r1, r2⟩ := st.made (S' := S) hiK h70 (fun z => z.tail) g1 g2 g3
  have k1 := h ok _ H1 locs ls r1
  simp only [List.map_cons, r2, gm, if_true] at k1
  exact k1
theorem x_newq {x i : Nat} {z : Int} (n : Nat) (hd : decode cc pc = .ok (.anewarray x, 3)) (hw : Cond.classLink own x RX3 ∈ Wd) (hz : z = (n : Int)) (hk : kd i = 12) (hn : ln i = n) (hiK : i ∉ K) (h70 : i < 70) (hR : cs + 1 ≤ R.cells ∧ ss + n ≤ R.slots) (h : XX G own cc R Fx (pc + 3) L (.ref i :: S) (K ++ [i]) (nwN N i) (nwI I i) (cs + 1) (ss + n)) : XX G own cc R Fx pc L (vi z :: S) K N I cs ss := by
  obtain ⟨p, e, s, m, args, below, meth, c, Q, nL, a0, K0⟩ := Fx
  intro ok al H locs ls st
  obtain ⟨hx, hb, hml, hown, hts, hE, hA⟩ := id ok
  subst hz
  have l2 := ln_lt i
  refine va_newq hx hb hown (hts _ hw) hE.2.2.2 hE.1 st.1.1 st.1.2.1 st.2.1 hA (fun q => by rw [← oi_0, oi_lt (by unfold inr; omega) inr0] at q; omega) (oi_clamp (by omega)) (by omega) hR.1 hR.2 hd (fun q c1 H1 g0 g1 g2 g3 => ?_)
  have ec : c1 = G.2.1 2 := by
    obtain ⟨_, _, -, -, -, z1⟩ := (g0.2 3 _ rfl).2
    obtain ⟨_, _, -, -, -, z2⟩ := (g0.2 2 _ rfl).2
    exact Option.some.inj (z1.symm.trans z2)
  subst ec
  have e : ent G.2.1 (fun j => if j = i then q else al j) (nwN N i) (nwI I i) i = .inl (G.2.1 2, n, .inr (.inr (.inr (.inr (fun _ => none))))) := by
    rw [ent_row hk, hn]
    congr 7
    funext b
    cases ht : tg i b <;> simp [rq, nwN, ht]
  rw [← e] at g1 g2
  obtain ⟨r1, r2⟩ := st.made (S' := S) hiK h70 (fun z => z.tail) g1 g2 g3
  have k1 := h ok _ H1 locs ls r1
  simp only [List.map_cons, r2, gm, if_true] at k1
  exact k1
end FR
end
section
/-! ===== contracts and calls ===== -/
abbrev MT : Type := MethodName × ByteArray × Nat
abbrev UT : Type := List Nat × NN × MM × (Nat → Nat)
def agW (al : Nat → Nat) (K : List Nat) (u : UT) : Prop := (∀ i, i ∈ K → i ∈ u.1) ∧ ∀ i, (i ∈ K ∨ 70 ≤ i) → u.2.2.2 i = al i
abbrev PcW (G : GT) (al : Nat → Nat) (As : List Value) (K : List Nat) (N : NN) (I : MM) : Array Value → State → Prop := va_Pc (As.map (gm al)) (fun U => EnvW G U ∧ (∀ q : Nat, U.heap.size ≤ q → Ab G q) ∧ RepW G al K N I U.heap)
abbrev BhW (G : GT) : UT → State → Prop := fun u t => RepW G u.2.2.2 u.1 u.2.1 u.2.2.1 t.heap
abbrev QiW (G : GT) (al : Nat → Nat) (K : List Nat) (Q : Int → List Nat → NN → MM → Prop) : Array Value → State → Outcome → State → Prop := va_Qi (fun (r : Int32) (u : UT) => (∃ z : Int, r = Int32.ofInt z ∧ Q z u.1 u.2.1 u.2.2.1) ∧ agW al K u) (BhW G) (Ab G)
abbrev QlW (G : GT) (al : Nat → Nat) (K : List Nat) (Q : Int → List Nat → NN → MM → Prop) : Array Value → State → Outcome → State → Prop := va_Ql (fun (r : Int64) (u : UT) => (∃ z : Int, r = Int64.ofInt z ∧ Q z u.1 u.2.1 u.2.2.1) ∧ agW al K u) (BhW G) (Ab G)
abbrev QvW (G : GT) (al : Nat → Nat) (K : List Nat) (Q : List Nat → NN → MM → Prop) : Array Value → State → Outcome → State → Prop := va_Qv (fun (u : UT) => Q u.1 u.2.1 u.2.2.1 ∧ agW al K u) (BhW G) (Ab G)
def RmW (fr lo mc ms : Nat) : Room := { frames := fr, cells := mc, slots := ms, locals := lo }
/-- a method's contract: the world as it stands, the answer and the world behind it -/
def SpI (G : GT) (m : MT) (ty : FieldType) (fr lo mc ms : Nat) (As : List Value) (K : List Nat) (N : NN) (I : MM) (Q : Int → List Nat → NN → MM → Prop) : Prop := ∀ al, okS K As → Met G.2.2.2.2 m.1 (Cond.code m.1 m.2.1 m.2.2 (some ty) :: Wd) (RmW fr lo mc ms) (PcW G al As K N I) (QiW G al K Q) mc ms (Ab G)
def SpL (G : GT) (m : MT) (ty : FieldType) (fr lo mc ms : Nat) (As : List Value) (K : List Nat) (N : NN) (I : MM) (Q : Int → List Nat → NN → MM → Prop) : Prop := ∀ al, okS K As → Met G.2.2.2.2 m.1 (Cond.code m.1 m.2.1 m.2.2 (some ty) :: Wd) (RmW fr lo mc ms) (PcW G al As K N I) (QlW G al K Q) mc ms (Ab G)
def SpV (G : GT) (m : MT) (fr lo mc ms : Nat) (As : List Value) (K : List Nat) (N : NN) (I : MM) (Q : List Nat → NN → MM → Prop) : Prop := ∀ al, okS K As → Met G.2.2.2.2 m.1 (Cond.code m.1 m.2.1 m.2.2 none :: Wd) (RmW fr lo mc ms) (PcW G al As K N I) (QvW G al K Q) mc ms (Ab G)
theorem Wd_good : ∀ w, w ∈ Wd → goodWord w = true := fun w hw => (List.mem_filter.mp hw).2
theorem Wd_in {w : Cond} (ws : List Cond) (i : Nat) (h : lw_tbl[i]? = some w) (hg : goodWord w = true) : w ∈ Wd := List.mem_filter.mpr ⟨List.mem_of_getElem? h, hg⟩
theorem GoodIn.Wd {w : Cond} (h : w ∈ Wd) : GoodIn Wd (w :: Wd) := fun v hv => by
  rcases List.mem_cons.mp hv with rfl | hv
  · exact ⟨h, good_of_word (Wd_good _ h)⟩
  · exact ⟨hv, good_of_word (Wd_good _ hv)⟩
theorem RepW.blind {G : GT} {al : Nat → Nat} {As : List Value} {K : List Nat} {N : NN} {I : MM} : FrameBlind (PcW G al As K N I) := fun a U g mk q => ⟨q.1, EnvW.moved (u := U) (U := U.calling g mk a) (State.WarmedH.refl U) (Nat.le_refl _) (fun _ _ _ => rfl) q.2.1, q.2.2.1, q.2.2.2⟩
/-- what the tables must say of a method that is called -/
def VW (m : MT) (ret : Option FieldType) (n : Nat) : Prop := Cond.initialized m.1.cls ∈ Wd ∧ Cond.code m.1 m.2.1 m.2.2 ret ∈ Wd ∧ m.1.cls ≠ "java/lang/invoke/MethodHandle" ∧ m.1.cls ≠ "java/lang/invoke/VarHandle" ∧ (parseMethodDescriptor m.1.desc).map (fun d => d.parameters.length) = some n
def VVW (m : MT) : Prop := Cond.instanceMethod m.1 ∈ Wd ∧ Cond.selects m.1.cls m.1 m.1 ∈ Wd ∧ ∃ ci T Nn, classes[ci]? = some (m.1.cls, T, Nn) ∧ ci < 6
section FR
variable {G : GT} {own : String} {cc : ByteArray} {R : Room} {Fx : FxT} {pc : Nat} {L : List (Option Value)} {S : List Value} {K : List Nat} {N : NN} {I : MM} {cs ss : Nat}

theorem StW.behind {a0 : Nat → Nat} {K0 : List Nat} {nL : Nat} {s : State} {al : Nat → Nat} {H H1 : Heap} {locs locs1 : List Loc} {ls : Array Slot} {S0 S' : List Value} {u : UT} (h : StW G a0 K0 nL s al H locs ls L S0 K N I) (hag : agW al K u) (hR : RepW G u.2.2.2 u.1 u.2.1 u.2.2.1 H1) (hS : va_S (Ab G) s.heap H1 locs1) (hS' : okS K S0 → okS K S') : StW G a0 K0 nL s u.2.2.2 H1 locs1 ls L S' u.1 u.2.1 u.2.2.1 ∧ S'.map (gm u.2.2.2) = S'.map (gm al) := by
  have h5 := hS' h.2.2.2.2.1
  exact ⟨⟨hR, hS, h.2.2.1.agree hag.2 h.2.2.2.1, h.2.2.2.1.mono hag.1, h5.mono hag.1, fun j hj => by rw [hag.2 j (hj.imp (fun z => h.2.2.2.2.2.2 j z) id)]; exact h.2.2.2.2.2.1 j hj, fun j hj => hag.1 j (h.2.2.2.2.2.2 j hj)⟩, gmS_agree hag.2 h5⟩
theorem PcW.at {al : Nat → Nat} {s : State} {H : Heap} {locs : List Loc} {As : List Value} (hE : EnvW G s) (hA : ∀ q : Nat, s.heap.size ≤ q → Ab G q) (hS : va_S (Ab G) s.heap H locs) (hR : RepW G al K N I H) : ∀ U : State, U.heap = H → s.WarmedH U.vm → PcW G al As K N I (As.map (gm al)).toArray U := fun U hU hW => ⟨rfl, EnvW.moved hW (by rw [hU]; exact hS.1) (fun a h1 h2 => by rw [hU]; exact hS.2.1 a h1 h2) hE, fun q hq => hA q (Nat.le_trans (by rw [← hU] at hS; exact hS.1) hq), by rw [hU]; exact hR⟩
theorem x_cVI0 {x : Nat} {mt : MT} {ty : FieldType} {fr lo mc ms : Nat} {i : Nat} {Q : Int → List Nat → NN → MM → Prop} (hd : decode cc pc = .ok (.invokevirtual x, 3)) (hl : Cond.methodLink own x mt.1 ∈ Wd) (hv : VW mt (some ty) 0) (hvv : VVW mt) (hk : (classes[kd i]?).map (fun q => q.1) = some mt.1.cls) (sp : SpI G mt ty fr lo mc ms [.ref i] K N I Q) (hR : fr + 1 ≤ R.frames ∧ 8 + (mt.2.2 + 11) + lo ≤ R.locals ∧ cs + mc ≤ R.cells ∧ ss + ms ≤ R.slots ∧ (S.map fun v => v.category).sum ≤ 8) (kk : ∀ z K1 N1 I1, Q z K1 N1 I1 → (∀ i, i ∈ K → i ∈ K1) → XX G own cc R Fx (pc + 3) L (vi z :: S) K1 N1 I1 (cs + mc) (ss + ms)) : XX G own cc R Fx pc L (.ref i :: S) K N I cs ss := by
  obtain ⟨p, e, s, m, args, below, meth, c, Q, nL, a0, K0⟩ := Fx
  intro ok al H locs ls st
  obtain ⟨hx, hb, hml, hown, hts, hE, hA⟩ := id ok
  have okN : okS K [] := fun w hw => nomatch hw
  have hoA : okS K [.ref i] := by
    have q := st.2.2.2.2.1
    exact (okN).cons q.head
  obtain ⟨ci, T, Nn, hc, h6⟩ := hvv.2.2
  have recv : ∃ cellB : Cell, H[al i]? = some cellB ∧ cellB.vm.isStatics = false ∧ s.vm.findClass mt.1.cls = some cellB.cls := by
    cases hq : classes[kd i]? with
    | none => rw [hq] at hk; cases hk
    | some r =>
      rw [hq] at hk
      have hkd : kd i < 6 := (List.getElem?_eq_some_iff.mp hq).1
      obtain ⟨q0, hq0⟩ := List.getElem?_of_mem ((okS.head (fun w hw => hoA w hw : okS K [.ref i])).mem (by omega))
      have z := va_recv hE.1 st.1.1 hq (by rw [wl_at hq0, ent_obj rfl hkd])
      have hk2 : r.1 = mt.1.cls := Option.some.inj hk
      rw [hk2] at z
      exact z
  refine va_calli (va_runV (As := []) (rest := S.map (gm al)) (C := mt.1.cls) (b := al i) ⟨hx, hb, hml, hown, hts⟩ (sp al hoA) ⟨callB_of 0 hts (GoodIn.Wd hv.2.1) rfl rfl rfl (hts _ hv.1) (hts _ hl) hv.2.2 ⟨hR.1, hR.2.1⟩, hts _ hvv.1, hts _ hvv.2.1⟩ ⟨RepW.blind, recv, fun U hU hW => PcW.at (As := [.ref i]) hE hA st.2.1 st.1 U hU hW⟩ rfl rfl st.2.2.1.1 rfl (lv_room (by rw [cat_gm]; exact hR.2.2.2.2)) hd ⟨hR.2.2.1, hR.2.2.2.1⟩) st.2.1 (fun q _ h => h) (fun q h => h) (fun r u t H1 locs1 ht hvm hp hB hz1 hk1 hS1 => ?_)
  obtain ⟨⟨z, rfl, hq⟩, hag⟩ := hp
  have hB : RepW G u.2.2.2 u.1 u.2.1 u.2.2.1 H1 := ht ▸ hB
  obtain ⟨r1, r2⟩ := st.behind (S' := vi z :: S) hag hB hS1 (fun q => (q.tail).cons trivial)
  have k1 := kk z u.1 u.2.1 u.2.2.1 hq hag.1 ok u.2.2.2 H1 locs1 ls r1
  rw [r2] at k1
  exact k1
theorem x_cVI1 {x : Nat} {mt : MT} {ty : FieldType} {fr lo mc ms : Nat} {i : Nat} {v1 : Value} {Q : Int → List Nat → NN → MM → Prop} (hd : decode cc pc = .ok (.invokevirtual x, 3)) (hl : Cond.methodLink own x mt.1 ∈ Wd) (hv : VW mt (some ty) 1) (hvv : VVW mt) (hk : (classes[kd i]?).map (fun q => q.1) = some mt.1.cls) (sp : SpI G mt ty fr lo mc ms [.ref i, v1] K N I Q) (hR : fr + 1 ≤ R.frames ∧ 8 + (mt.2.2 + 11) + lo ≤ R.locals ∧ cs + mc ≤ R.cells ∧ ss + ms ≤ R.slots ∧ (S.map fun v => v.category).sum ≤ 8) (kk : ∀ z K1 N1 I1, Q z K1 N1 I1 → (∀ i, i ∈ K → i ∈ K1) → XX G own cc R Fx (pc + 3) L (vi z :: S) K1 N1 I1 (cs + mc) (ss + ms)) : XX G own cc R Fx pc L (v1 :: .ref i :: S) K N I cs ss := by
  obtain ⟨p, e, s, m, args, below, meth, c, Q, nL, a0, K0⟩ := Fx
  intro ok al H locs ls st
  obtain ⟨hx, hb, hml, hown, hts, hE, hA⟩ := id ok
  have okN : okS K [] := fun w hw => nomatch hw
  have hoA : okS K [.ref i, v1] := by
    have q := st.2.2.2.2.1
    exact ((okN).cons q.head).cons q.tail.head
  obtain ⟨ci, T, Nn, hc, h6⟩ := hvv.2.2
  have recv : ∃ cellB : Cell, H[al i]? = some cellB ∧ cellB.vm.isStatics = false ∧ s.vm.findClass mt.1.cls = some cellB.cls := by
    cases hq : classes[kd i]? with
    | none => rw [hq] at hk; cases hk
    | some r =>
      rw [hq] at hk
      have hkd : kd i < 6 := (List.getElem?_eq_some_iff.mp hq).1
      obtain ⟨q0, hq0⟩ := List.getElem?_of_mem ((okS.head (fun w hw => hoA w hw : okS K [.ref i, v1])).mem (by omega))
      have z := va_recv hE.1 st.1.1 hq (by rw [wl_at hq0, ent_obj rfl hkd])
      have hk2 : r.1 = mt.1.cls := Option.some.inj hk
      rw [hk2] at z
      exact z
  refine va_calli (va_runV (As := [gm al v1]) (rest := S.map (gm al)) (C := mt.1.cls) (b := al i) ⟨hx, hb, hml, hown, hts⟩ (sp al hoA) ⟨callB_of 1 hts (GoodIn.Wd hv.2.1) rfl rfl rfl (hts _ hv.1) (hts _ hl) hv.2.2 ⟨hR.1, hR.2.1⟩, hts _ hvv.1, hts _ hvv.2.1⟩ ⟨RepW.blind, recv, fun U hU hW => PcW.at (As := [.ref i, v1]) hE hA st.2.1 st.1 U hU hW⟩ rfl rfl st.2.2.1.1 rfl (lv_room (by rw [cat_gm]; exact hR.2.2.2.2)) hd ⟨hR.2.2.1, hR.2.2.2.1⟩) st.2.1 (fun q _ h => h) (fun q h => h) (fun r u t H1 locs1 ht hvm hp hB hz1 hk1 hS1 => ?_)
  obtain ⟨⟨z, rfl, hq⟩, hag⟩ := hp
  have hB : RepW G u.2.2.2 u.1 u.2.1 u.2.2.1 H1 := ht ▸ hB
  obtain ⟨r1, r2⟩ := st.behind (S' := vi z :: S) hag hB hS1 (fun q => (q.tail.tail).cons trivial)
  have k1 := kk z u.1 u.2.1 u.2.2.1 hq hag.1 ok u.2.2.2 H1 locs1 ls r1
  rw [r2] at k1
  exact k1
theorem x_cVI2 {x : Nat} {mt : MT} {ty : FieldType} {fr lo mc ms : Nat} {i : Nat} {v1 v2 : Value} {Q : Int → List Nat → NN → MM → Prop} (hd : decode cc pc = .ok (.invokevirtual x, 3)) (hl : Cond.methodLink own x mt.1 ∈ Wd) (hv : VW mt (some ty) 2) (hvv : VVW mt) (hk : (classes[kd i]?).map (fun q => q.1) = some mt.1.cls) (sp : SpI G mt ty fr lo mc ms [.ref i, v1, v2] K N I Q) (hR : fr + 1 ≤ R.frames ∧ 8 + (mt.2.2 + 11) + lo ≤ R.locals ∧ cs + mc ≤ R.cells ∧ ss + ms ≤ R.slots ∧ (S.map fun v => v.category).sum ≤ 8) (kk : ∀ z K1 N1 I1, Q z K1 N1 I1 → (∀ i, i ∈ K → i ∈ K1) → XX G own cc R Fx (pc + 3) L (vi z :: S) K1 N1 I1 (cs + mc) (ss + ms)) : XX G own cc R Fx pc L (v2 :: v1 :: .ref i :: S) K N I cs ss := by
  obtain ⟨p, e, s, m, args, below, meth, c, Q, nL, a0, K0⟩ := Fx
  intro ok al H locs ls st
  obtain ⟨hx, hb, hml, hown, hts, hE, hA⟩ := id ok
  have okN : okS K [] := fun w hw => nomatch hw
  have hoA : okS K [.ref i, v1, v2] := by
    have q := st.2.2.2.2.1
    exact (((okN).cons q.head).cons q.tail.head).cons q.tail.tail.head
  obtain ⟨ci, T, Nn, hc, h6⟩ := hvv.2.2
  have recv : ∃ cellB : Cell, H[al i]? = some cellB ∧ cellB.vm.isStatics = false ∧ s.vm.findClass mt.1.cls = some cellB.cls := by
    cases hq : classes[kd i]? with
    | none => rw [hq] at hk; cases hk
    | some r =>
      rw [hq] at hk
      have hkd : kd i < 6 := (List.getElem?_eq_some_iff.mp hq).1
      obtain ⟨q0, hq0⟩ := List.getElem?_of_mem ((okS.head (fun w hw => hoA w hw : okS K [.ref i, v1, v2])).mem (by omega))
      have z := va_recv hE.1 st.1.1 hq (by rw [wl_at hq0, ent_obj rfl hkd])
      have hk2 : r.1 = mt.1.cls := Option.some.inj hk
      rw [hk2] at z
      exact z
  refine va_calli (va_runV (As := [gm al v1, gm al v2]) (rest := S.map (gm al)) (C := mt.1.cls) (b := al i) ⟨hx, hb, hml, hown, hts⟩ (sp al hoA) ⟨callB_of 2 hts (GoodIn.Wd hv.2.1) rfl rfl rfl (hts _ hv.1) (hts _ hl) hv.2.2 ⟨hR.1, hR.2.1⟩, hts _ hvv.1, hts _ hvv.2.1⟩ ⟨RepW.blind, recv, fun U hU hW => PcW.at (As := [.ref i, v1, v2]) hE hA st.2.1 st.1 U hU hW⟩ rfl rfl st.2.2.1.1 rfl (lv_room (by rw [cat_gm]; exact hR.2.2.2.2)) hd ⟨hR.2.2.1, hR.2.2.2.1⟩) st.2.1 (fun q _ h => h) (fun q h => h) (fun r u t H1 locs1 ht hvm hp hB hz1 hk1 hS1 => ?_)
  obtain ⟨⟨z, rfl, hq⟩, hag⟩ := hp
  have hB : RepW G u.2.2.2 u.1 u.2.1 u.2.2.1 H1 := ht ▸ hB
  obtain ⟨r1, r2⟩ := st.behind (S' := vi z :: S) hag hB hS1 (fun q => (q.tail.tail.tail).cons trivial)
  have k1 := kk z u.1 u.2.1 u.2.2.1 hq hag.1 ok u.2.2.2 H1 locs1 ls r1
  rw [r2] at k1
  exact k1
theorem x_cVI3 {x : Nat} {mt : MT} {ty : FieldType} {fr lo mc ms : Nat} {i : Nat} {v1 v2 v3 : Value} {Q : Int → List Nat → NN → MM → Prop} (hd : decode cc pc = .ok (.invokevirtual x, 3)) (hl : Cond.methodLink own x mt.1 ∈ Wd) (hv : VW mt (some ty) 3) (hvv : VVW mt) (hk : (classes[kd i]?).map (fun q => q.1) = some mt.1.cls) (sp : SpI G mt ty fr lo mc ms [.ref i, v1, v2, v3] K N I Q) (hR : fr + 1 ≤ R.frames ∧ 8 + (mt.2.2 + 11) + lo ≤ R.locals ∧ cs + mc ≤ R.cells ∧ ss + ms ≤ R.slots ∧ (S.map fun v => v.category).sum ≤ 8) (kk : ∀ z K1 N1 I1, Q z K1 N1 I1 → (∀ i, i ∈ K → i ∈ K1) → XX G own cc R Fx (pc + 3) L (vi z :: S) K1 N1 I1 (cs + mc) (ss + ms)) : XX G own cc R Fx pc L (v3 :: v2 :: v1 :: .ref i :: S) K N I cs ss := by
  obtain ⟨p, e, s, m, args, below, meth, c, Q, nL, a0, K0⟩ := Fx
  intro ok al H locs ls st
  obtain ⟨hx, hb, hml, hown, hts, hE, hA⟩ := id ok
  have okN : okS K [] := fun w hw => nomatch hw
  have hoA : okS K [.ref i, v1, v2, v3] := by
    have q := st.2.2.2.2.1
    exact ((((okN).cons q.head).cons q.tail.head).cons q.tail.tail.head).cons q.tail.tail.tail.head
  obtain ⟨ci, T, Nn, hc, h6⟩ := hvv.2.2
  have recv : ∃ cellB : Cell, H[al i]? = some cellB ∧ cellB.vm.isStatics = false ∧ s.vm.findClass mt.1.cls = some cellB.cls := by
    cases hq : classes[kd i]? with
    | none => rw [hq] at hk; cases hk
    | some r =>
      rw [hq] at hk
      have hkd : kd i < 6 := (List.getElem?_eq_some_iff.mp hq).1
      obtain ⟨q0, hq0⟩ := List.getElem?_of_mem ((okS.head (fun w hw => hoA w hw : okS K [.ref i, v1, v2, v3])).mem (by omega))
      have z := va_recv hE.1 st.1.1 hq (by rw [wl_at hq0, ent_obj rfl hkd])
      have hk2 : r.1 = mt.1.cls := Option.some.inj hk
      rw [hk2] at z
      exact z
  refine va_calli (va_runV (As := [gm al v1, gm al v2, gm al v3]) (rest := S.map (gm al)) (C := mt.1.cls) (b := al i) ⟨hx, hb, hml, hown, hts⟩ (sp al hoA) ⟨callB_of 3 hts (GoodIn.Wd hv.2.1) rfl rfl rfl (hts _ hv.1) (hts _ hl) hv.2.2 ⟨hR.1, hR.2.1⟩, hts _ hvv.1, hts _ hvv.2.1⟩ ⟨RepW.blind, recv, fun U hU hW => PcW.at (As := [.ref i, v1, v2, v3]) hE hA st.2.1 st.1 U hU hW⟩ rfl rfl st.2.2.1.1 rfl (lv_room (by rw [cat_gm]; exact hR.2.2.2.2)) hd ⟨hR.2.2.1, hR.2.2.2.1⟩) st.2.1 (fun q _ h => h) (fun q h => h) (fun r u t H1 locs1 ht hvm hp hB hz1 hk1 hS1 => ?_)
  obtain ⟨⟨z, rfl, hq⟩, hag⟩ := hp
  have hB : RepW G u.2.2.2 u.1 u.2.1 u.2.2.1 H1 := ht ▸ hB
  obtain ⟨r1, r2⟩ := st.behind (S' := vi z :: S) hag hB hS1 (fun q => (q.tail.tail.tail.tail).cons trivial)
  have k1 := kk z u.1 u.2.1 u.2.2.1 hq hag.1 ok u.2.2.2 H1 locs1 ls r1
  rw [r2] at k1
  exact k1
theorem x_cVI4 {x : Nat} {mt : MT} {ty : FieldType} {fr lo mc ms : Nat} {i : Nat} {v1 v2 v3 v4 : Value} {Q : Int → List Nat → NN → MM → Prop} (hd : decode cc pc = .ok (.invokevirtual x, 3)) (hl : Cond.methodLink own x mt.1 ∈ Wd) (hv : VW mt (some ty) 4) (hvv : VVW mt) (hk : (classes[kd i]?).map (fun q => q.1) = some mt.1.cls) (sp : SpI G mt ty fr lo mc ms [.ref i, v1, v2, v3, v4] K N I Q) (hR : fr + 1 ≤ R.frames ∧ 8 + (mt.2.2 + 11) + lo ≤ R.locals ∧ cs + mc ≤ R.cells ∧ ss + ms ≤ R.slots ∧ (S.map fun v => v.category).sum ≤ 8) (kk : ∀ z K1 N1 I1, Q z K1 N1 I1 → (∀ i, i ∈ K → i ∈ K1) → XX G own cc R Fx (pc + 3) L (vi z :: S) K1 N1 I1 (cs + mc) (ss + ms)) : XX G own cc R Fx pc L (v4 :: v3 :: v2 :: v1 :: .ref i :: S) K N I cs ss := by
  obtain ⟨p, e, s, m, args, below, meth, c, Q, nL, a0, K0⟩ := Fx
  intro ok al H locs ls st
  obtain ⟨hx, hb, hml, hown, hts, hE, hA⟩ := id ok
  have okN : okS K [] := fun w hw => nomatch hw
  have hoA : okS K [.ref i, v1, v2, v3, v4] := by
    have q := st.2.2.2.2.1
    exact (((((okN).cons q.head).cons q.tail.head).cons q.tail.tail.head).cons q.tail.tail.tail.head).cons q.tail.tail.tail.tail.head
  obtain ⟨ci, T, Nn, hc, h6⟩ := hvv.2.2
  have recv : ∃ cellB : Cell, H[al i]? = some cellB ∧ cellB.vm.isStatics = false ∧ s.vm.findClass mt.1.cls = some cellB.cls := by
    cases hq : classes[kd i]? with
    | none => rw [hq] at hk; cases hk
    | some r =>
      rw [hq] at hk
      have hkd : kd i < 6 := (List.getElem?_eq_some_iff.mp hq).1
      obtain ⟨q0, hq0⟩ := List.getElem?_of_mem ((okS.head (fun w hw => hoA w hw : okS K [.ref i, v1, v2, v3, v4])).mem (by omega))
      have z := va_recv hE.1 st.1.1 hq (by rw [wl_at hq0, ent_obj rfl hkd])
      have hk2 : r.1 = mt.1.cls := Option.some.inj hk
      rw [hk2] at z
      exact z
  refine va_calli (va_runV (As := [gm al v1, gm al v2, gm al v3, gm al v4]) (rest := S.map (gm al)) (C := mt.1.cls) (b := al i) ⟨hx, hb, hml, hown, hts⟩ (sp al hoA) ⟨callB_of 4 hts (GoodIn.Wd hv.2.1) rfl rfl rfl (hts _ hv.1) (hts _ hl) hv.2.2 ⟨hR.1, hR.2.1⟩, hts _ hvv.1, hts _ hvv.2.1⟩ ⟨RepW.blind, recv, fun U hU hW => PcW.at (As := [.ref i, v1, v2, v3, v4]) hE hA st.2.1 st.1 U hU hW⟩ rfl rfl st.2.2.1.1 rfl (lv_room (by rw [cat_gm]; exact hR.2.2.2.2)) hd ⟨hR.2.2.1, hR.2.2.2.1⟩) st.2.1 (fun q _ h => h) (fun q h => h) (fun r u t H1 locs1 ht hvm hp hB hz1 hk1 hS1 => ?_)
  obtain ⟨⟨z, rfl, hq⟩, hag⟩ := hp
  have hB : RepW G u.2.2.2 u.1 u.2.1 u.2.2.1 H1 := ht ▸ hB
  obtain ⟨r1, r2⟩ := st.behind (S' := vi z :: S) hag hB hS1 (fun q => (q.tail.tail.tail.tail.tail).cons trivial)
  have k1 := kk z u.1 u.2.1 u.2.2.1 hq hag.1 ok u.2.2.2 H1 locs1 ls r1
  rw [r2] at k1
  exact k1
theorem x_cVI5 {x : Nat} {mt : MT} {ty : FieldType} {fr lo mc ms : Nat} {i : Nat} {v1 v2 v3 v4 v5 : Value} {Q : Int → List Nat → NN → MM → Prop} (hd : decode cc pc = .ok (.invokevirtual x, 3)) (hl : Cond.methodLink own x mt.1 ∈ Wd) (hv : VW mt (some ty) 5) (hvv : VVW mt) (hk : (classes[kd i]?).map (fun q => q.1) = some mt.1.cls) (sp : SpI G mt ty fr lo mc ms [.ref i, v1, v2, v3, v4, v5] K N I Q) (hR : fr + 1 ≤ R.frames ∧ 8 + (mt.2.2 + 11) + lo ≤ R.locals ∧ cs + mc ≤ R.cells ∧ ss + ms ≤ R.slots ∧ (S.map fun v => v.category).sum ≤ 8) (kk : ∀ z K1 N1 I1, Q z K1 N1 I1 → (∀ i, i ∈ K → i ∈ K1) → XX G own cc R Fx (pc + 3) L (vi z :: S) K1 N1 I1 (cs + mc) (ss + ms)) : XX G own cc R Fx pc L (v5 :: v4 :: v3 :: v2 :: v1 :: .ref i :: S) K N I cs ss := by
  obtain ⟨p, e, s, m, args, below, meth, c, Q, nL, a0, K0⟩ := Fx
  intro ok al H locs ls st
  obtain ⟨hx, hb, hml, hown, hts, hE, hA⟩ := id ok
  have okN : okS K [] := fun w hw => nomatch hw
  have hoA : okS K [.ref i, v1, v2, v3, v4, v5] := by
    have q := st.2.2.2.2.1
    exact ((((((okN).cons q.head).cons q.tail.head).cons q.tail.tail.head).cons q.tail.tail.tail.head).cons q.tail.tail.tail.tail.head).cons q.tail.tail.tail.tail.tail.head
  obtain ⟨ci, T, Nn, hc, h6⟩ := hvv.2.2
  have recv : ∃ cellB : Cell, H[al i]? = some cellB ∧ cellB.vm.isStatics = false ∧ s.vm.findClass mt.1.cls = some cellB.cls := by
    cases hq : classes[kd i]? with
    | none => rw [hq] at hk; cases hk
    | some r =>
      rw [hq] at hk
      have hkd : kd i < 6 := (List.getElem?_eq_some_iff.mp hq).1
      obtain ⟨q0, hq0⟩ := List.getElem?_of_mem ((okS.head (fun w hw => hoA w hw : okS K [.ref i, v1, v2, v3, v4, v5])).mem (by omega))
      have z := va_recv hE.1 st.1.1 hq (by rw [wl_at hq0, ent_obj rfl hkd])
      have hk2 : r.1 = mt.1.cls := Option.some.inj hk
      rw [hk2] at z
      exact z
  refine va_calli (va_runV (As := [gm al v1, gm al v2, gm al v3, gm al v4, gm al v5]) (rest := S.map (gm al)) (C := mt.1.cls) (b := al i) ⟨hx, hb, hml, hown, hts⟩ (sp al hoA) ⟨callB_of 5 hts (GoodIn.Wd hv.2.1) rfl rfl rfl (hts _ hv.1) (hts _ hl) hv.2.2 ⟨hR.1, hR.2.1⟩, hts _ hvv.1, hts _ hvv.2.1⟩ ⟨RepW.blind, recv, fun U hU hW => PcW.at (As := [.ref i, v1, v2, v3, v4, v5]) hE hA st.2.1 st.1 U hU hW⟩ rfl rfl st.2.2.1.1 rfl (lv_room (by rw [cat_gm]; exact hR.2.2.2.2)) hd ⟨hR.2.2.1, hR.2.2.2.1⟩) st.2.1 (fun q _ h => h) (fun q h => h) (fun r u t H1 locs1 ht hvm hp hB hz1 hk1 hS1 => ?_)
  obtain ⟨⟨z, rfl, hq⟩, hag⟩ := hp
  have hB : RepW G u.2.2.2 u.1 u.2.1 u.2.2.1 H1 := ht ▸ hB
  obtain ⟨r1, r2⟩ := st.behind (S' := vi z :: S) hag hB hS1 (fun q => (q.tail.tail.tail.tail.tail.tail).cons trivial)
  have k1 := kk z u.1 u.2.1 u.2.2.1 hq hag.1 ok u.2.2.2 H1 locs1 ls r1
  rw [r2] at k1
  exact k1
theorem x_cVL0 {x : Nat} {mt : MT} {ty : FieldType} {fr lo mc ms : Nat} {i : Nat} {Q : Int → List Nat → NN → MM → Prop} (hd : decode cc pc = .ok (.invokevirtual x, 3)) (hl : Cond.methodLink own x mt.1 ∈ Wd) (hv : VW mt (some ty) 0) (hvv : VVW mt) (hk : (classes[kd i]?).map (fun q => q.1) = some mt.1.cls) (sp : SpL G mt ty fr lo mc ms [.ref i] K N I Q) (hR : fr + 1 ≤ R.frames ∧ 8 + (mt.2.2 + 11) + lo ≤ R.locals ∧ cs + mc ≤ R.cells ∧ ss + ms ≤ R.slots ∧ (S.map fun v => v.category).sum ≤ 8) (kk : ∀ z K1 N1 I1, Q z K1 N1 I1 → (∀ i, i ∈ K → i ∈ K1) → XX G own cc R Fx (pc + 3) L (vl z :: S) K1 N1 I1 (cs + mc) (ss + ms)) : XX G own cc R Fx pc L (.ref i :: S) K N I cs ss := by
  obtain ⟨p, e, s, m, args, below, meth, c, Q, nL, a0, K0⟩ := Fx
  intro ok al H locs ls st
  obtain ⟨hx, hb, hml, hown, hts, hE, hA⟩ := id ok
  have okN : okS K [] := fun w hw => nomatch hw
  have hoA : okS K [.ref i] := by
    have q := st.2.2.2.2.1
    exact (okN).cons q.head
  obtain ⟨ci, T, Nn, hc, h6⟩ := hvv.2.2
  have recv : ∃ cellB : Cell, H[al i]? = some cellB ∧ cellB.vm.isStatics = false ∧ s.vm.findClass mt.1.cls = some cellB.cls := by
    cases hq : classes[kd i]? with
    | none => rw [hq] at hk; cases hk
    | some r =>
      rw [hq] at hk
      have hkd : kd i < 6 := (List.getElem?_eq_some_iff.mp hq).1
      obtain ⟨q0, hq0⟩ := List.getElem?_of_mem ((okS.head (fun w hw => hoA w hw : okS K [.ref i])).mem (by omega))
      have z := va_recv hE.1 st.1.1 hq (by rw [wl_at hq0, ent_obj rfl hkd])
      have hk2 : r.1 = mt.1.cls := Option.some.inj hk
      rw [hk2] at z
      exact z
  refine va_calll (va_runV (As := []) (rest := S.map (gm al)) (C := mt.1.cls) (b := al i) ⟨hx, hb, hml, hown, hts⟩ (sp al hoA) ⟨callB_of 0 hts (GoodIn.Wd hv.2.1) rfl rfl rfl (hts _ hv.1) (hts _ hl) hv.2.2 ⟨hR.1, hR.2.1⟩, hts _ hvv.1, hts _ hvv.2.1⟩ ⟨RepW.blind, recv, fun U hU hW => PcW.at (As := [.ref i]) hE hA st.2.1 st.1 U hU hW⟩ rfl rfl st.2.2.1.1 rfl (lv_room (by rw [cat_gm]; exact hR.2.2.2.2)) hd ⟨hR.2.2.1, hR.2.2.2.1⟩) st.2.1 (fun q _ h => h) (fun q h => h) (fun r u t H1 locs1 ht hvm hp hB hz1 hk1 hS1 => ?_)
  obtain ⟨⟨z, rfl, hq⟩, hag⟩ := hp
  have hB : RepW G u.2.2.2 u.1 u.2.1 u.2.2.1 H1 := ht ▸ hB
  obtain ⟨r1, r2⟩ := st.behind (S' := vl z :: S) hag hB hS1 (fun q => (q.tail).cons trivial)
  have k1 := kk z u.1 u.2.1 u.2.2.1 hq hag.1 ok u.2.2.2 H1 locs1 ls r1
  rw [r2] at k1
  exact k1
theorem x_cVL1 {x : Nat} {mt : MT} {ty : FieldType} {fr lo mc ms : Nat} {i : Nat} {v1 : Value} {Q : Int → List Nat → NN → MM → Prop} (hd : decode cc pc = .ok (.invokevirtual x, 3)) (hl : Cond.methodLink own x mt.1 ∈ Wd) (hv : VW mt (some ty) 1) (hvv : VVW mt) (hk : (classes[kd i]?).map (fun q => q.1) = some mt.1.cls) (sp : SpL G mt ty fr lo mc ms [.ref i, v1] K N I Q) (hR : fr + 1 ≤ R.frames ∧ 8 + (mt.2.2 + 11) + lo ≤ R.locals ∧ cs + mc ≤ R.cells ∧ ss + ms ≤ R.slots ∧ (S.map fun v => v.category).sum ≤ 8) (kk : ∀ z K1 N1 I1, Q z K1 N1 I1 → (∀ i, i ∈ K → i ∈ K1) → XX G own cc R Fx (pc + 3) L (vl z :: S) K1 N1 I1 (cs + mc) (ss + ms)) : XX G own cc R Fx pc L (v1 :: .ref i :: S) K N I cs ss := by
  obtain ⟨p, e, s, m, args, below, meth, c, Q, nL, a0, K0⟩ := Fx
  intro ok al H locs ls st
  obtain ⟨hx, hb, hml, hown, hts, hE, hA⟩ := id ok
  have okN : okS K [] := fun w hw => nomatch hw
  have hoA : okS K [.ref i, v1] := by
    have q := st.2.2.2.2.1
    exact ((okN).cons q.head).cons q.tail.head
  obtain ⟨ci, T, Nn, hc, h6⟩ := hvv.2.2
  have recv : ∃ cellB : Cell, H[al i]? = some cellB ∧ cellB.vm.isStatics = false ∧ s.vm.findClass mt.1.cls = some cellB.cls := by
    cases hq : classes[kd i]? with
    | none => rw [hq] at hk; cases hk
    | some r =>
      rw [hq] at hk
      have hkd : kd i < 6 := (List.getElem?_eq_some_iff.mp hq).1
      obtain ⟨q0, hq0⟩ := List.getElem?_of_mem ((okS.head (fun w hw => hoA w hw : okS K [.ref i, v1])).mem (by omega))
      have z := va_recv hE.1 st.1.1 hq (by rw [wl_at hq0, ent_obj rfl hkd])
      have hk2 : r.1 = mt.1.cls := Option.some.inj hk
      rw [hk2] at z
      exact z
  refine va_calll (va_runV (As := [gm al v1]) (rest := S.map (gm al)) (C := mt.1.cls) (b := al i) ⟨hx, hb, hml, hown, hts⟩ (sp al hoA) ⟨callB_of 1 hts (GoodIn.Wd hv.2.1) rfl rfl rfl (hts _ hv.1) (hts _ hl) hv.2.2 ⟨hR.1, hR.2.1⟩, hts _ hvv.1, hts _ hvv.2.1⟩ ⟨RepW.blind, recv, fun U hU hW => PcW.at (As := [.ref i, v1]) hE hA st.2.1 st.1 U hU hW⟩ rfl rfl st.2.2.1.1 rfl (lv_room (by rw [cat_gm]; exact hR.2.2.2.2)) hd ⟨hR.2.2.1, hR.2.2.2.1⟩) st.2.1 (fun q _ h => h) (fun q h => h) (fun r u t H1 locs1 ht hvm hp hB hz1 hk1 hS1 => ?_)
  obtain ⟨⟨z, rfl, hq⟩, hag⟩ := hp
  have hB : RepW G u.2.2.2 u.1 u.2.1 u.2.2.1 H1 := ht ▸ hB
  obtain ⟨r1, r2⟩ := st.behind (S' := vl z :: S) hag hB hS1 (fun q => (q.tail.tail).cons trivial)
  have k1 := kk z u.1 u.2.1 u.2.2.1 hq hag.1 ok u.2.2.2 H1 locs1 ls r1
  rw [r2] at k1
  exact k1
theorem x_cVL2 {x : Nat} {mt : MT} {ty : FieldType} {fr lo mc ms : Nat} {i : Nat} {v1 v2 : Value} {Q : Int → List Nat → NN → MM → Prop} (hd : decode cc pc = .ok (.invokevirtual x, 3)) (hl : Cond.methodLink own x mt.1 ∈ Wd) (hv : VW mt (some ty) 2) (hvv : VVW mt) (hk : (classes[kd i]?).map (fun q => q.1) = some mt.1.cls) (sp : SpL G mt ty fr lo mc ms [.ref i, v1, v2] K N I Q) (hR : fr + 1 ≤ R.frames ∧ 8 + (mt.2.2 + 11) + lo ≤ R.locals ∧ cs + mc ≤ R.cells ∧ ss + ms ≤ R.slots ∧ (S.map fun v => v.category).sum ≤ 8) (kk : ∀ z K1 N1 I1, Q z K1 N1 I1 → (∀ i, i ∈ K → i ∈ K1) → XX G own cc R Fx (pc + 3) L (vl z :: S) K1 N1 I1 (cs + mc) (ss + ms)) : XX G own cc R Fx pc L (v2 :: v1 :: .ref i :: S) K N I cs ss := by
  obtain ⟨p, e, s, m, args, below, meth, c, Q, nL, a0, K0⟩ := Fx
  intro ok al H locs ls st
  obtain ⟨hx, hb, hml, hown, hts, hE, hA⟩ := id ok
  have okN : okS K [] := fun w hw => nomatch hw
  have hoA : okS K [.ref i, v1, v2] := by
    have q := st.2.2.2.2.1
    exact (((okN).cons q.head).cons q.tail.head).cons q.tail.tail.head
  obtain ⟨ci, T, Nn, hc, h6⟩ := hvv.2.2
  have recv : ∃ cellB : Cell, H[al i]? = some cellB ∧ cellB.vm.isStatics = false ∧ s.vm.findClass mt.1.cls = some cellB.cls := by
    cases hq : classes[kd i]? with
    | none => rw [hq] at hk; cases hk
    | some r =>
      rw [hq] at hk
      have hkd : kd i < 6 := (List.getElem?_eq_some_iff.mp hq).1
      obtain ⟨q0, hq0⟩ := List.getElem?_of_mem ((okS.head (fun w hw => hoA w hw : okS K [.ref i, v1, v2])).mem (by omega))
      have z := va_recv hE.1 st.1.1 hq (by rw [wl_at hq0, ent_obj rfl hkd])
      have hk2 : r.1 = mt.1.cls := Option.some.inj hk
      rw [hk2] at z
      exact z
  refine va_calll (va_runV (As := [gm al v1, gm al v2]) (rest := S.map (gm al)) (C := mt.1.cls) (b := al i) ⟨hx, hb, hml, hown, hts⟩ (sp al hoA) ⟨callB_of 2 hts (GoodIn.Wd hv.2.1) rfl rfl rfl (hts _ hv.1) (hts _ hl) hv.2.2 ⟨hR.1, hR.2.1⟩, hts _ hvv.1, hts _ hvv.2.1⟩ ⟨RepW.blind, recv, fun U hU hW => PcW.at (As := [.ref i, v1, v2]) hE hA st.2.1 st.1 U hU hW⟩ rfl rfl st.2.2.1.1 rfl (lv_room (by rw [cat_gm]; exact hR.2.2.2.2)) hd ⟨hR.2.2.1, hR.2.2.2.1⟩) st.2.1 (fun q _ h => h) (fun q h => h) (fun r u t H1 locs1 ht hvm hp hB hz1 hk1 hS1 => ?_)
  obtain ⟨⟨z, rfl, hq⟩, hag⟩ := hp
  have hB : RepW G u.2.2.2 u.1 u.2.1 u.2.2.1 H1 := ht ▸ hB
  obtain ⟨r1, r2⟩ := st.behind (S' := vl z :: S) hag hB hS1 (fun q => (q.tail.tail.tail).cons trivial)
  have k1 := kk z u.1 u.2.1 u.2.2.1 hq hag.1 ok u.2.2.2 H1 locs1 ls r1
  rw [r2] at k1
  exact k1
theorem x_cVL3 {x : Nat} {mt : MT} {ty : FieldType} {fr lo mc ms : Nat} {i : Nat} {v1 v2 v3 : Value} {Q : Int → List Nat → NN → MM → Prop} (hd : decode cc pc = .ok (.invokevirtual x, 3)) (hl : Cond.methodLink own x mt.1 ∈ Wd) (hv : VW mt (some ty) 3) (hvv : VVW mt) (hk : (classes[kd i]?).map (fun q => q.1) = some mt.1.cls) (sp : SpL G mt ty fr lo mc ms [.ref i, v1, v2, v3] K N I Q) (hR : fr + 1 ≤ R.frames ∧ 8 + (mt.2.2 + 11) + lo ≤ R.locals ∧ cs + mc ≤ R.cells ∧ ss + ms ≤ R.slots ∧ (S.map fun v => v.category).sum ≤ 8) (kk : ∀ z K1 N1 I1, Q z K1 N1 I1 → (∀ i, i ∈ K → i ∈ K1) → XX G own cc R Fx (pc + 3) L (vl z :: S) K1 N1 I1 (cs + mc) (ss + ms)) : XX G own cc R Fx pc L (v3 :: v2 :: v1 :: .ref i :: S) K N I cs ss := by
  obtain ⟨p, e, s, m, args, below, meth, c, Q, nL, a0, K0⟩ := Fx
  intro ok al H locs ls st
  obtain ⟨hx, hb, hml, hown, hts, hE, hA⟩ := id ok
  have okN : okS K [] := fun w hw => nomatch hw
  have hoA : okS K [.ref i, v1, v2, v3] := by
    have q := st.2.2.2.2.1
    exact ((((okN).cons q.head).cons q.tail.head).cons q.tail.tail.head).cons q.tail.tail.tail.head
  obtain ⟨ci, T, Nn, hc, h6⟩ := hvv.2.2
  have recv : ∃ cellB : Cell, H[al i]? = some cellB ∧ cellB.vm.isStatics = false ∧ s.vm.findClass mt.1.cls = some cellB.cls := by
    cases hq : classes[kd i]? with
    | none => rw [hq] at hk; cases hk
    | some r =>
      rw [hq] at hk
      have hkd : kd i < 6 := (List.getElem?_eq_some_iff.mp hq).1
      obtain ⟨q0, hq0⟩ := List.getElem?_of_mem ((okS.head (fun w hw => hoA w hw : okS K [.ref i, v1, v2, v3])).mem (by omega))
      have z := va_recv hE.1 st.1.1 hq (by rw [wl_at hq0, ent_obj rfl hkd])
      have hk2 : r.1 = mt.1.cls := Option.some.inj hk
      rw [hk2] at z
      exact z
  refine va_calll (va_runV (As := [gm al v1, gm al v2, gm al v3]) (rest := S.map (gm al)) (C := mt.1.cls) (b := al i) ⟨hx, hb, hml, hown, hts⟩ (sp al hoA) ⟨callB_of 3 hts (GoodIn.Wd hv.2.1) rfl rfl rfl (hts _ hv.1) (hts _ hl) hv.2.2 ⟨hR.1, hR.2.1⟩, hts _ hvv.1, hts _ hvv.2.1⟩ ⟨RepW.blind, recv, fun U hU hW => PcW.at (As := [.ref i, v1, v2, v3]) hE hA st.2.1 st.1 U hU hW⟩ rfl rfl st.2.2.1.1 rfl (lv_room (by rw [cat_gm]; exact hR.2.2.2.2)) hd ⟨hR.2.2.1, hR.2.2.2.1⟩) st.2.1 (fun q _ h => h) (fun q h => h) (fun r u t H1 locs1 ht hvm hp hB hz1 hk1 hS1 => ?_)
  obtain ⟨⟨z, rfl, hq⟩, hag⟩ := hp
  have hB : RepW G u.2.2.2 u.1 u.2.1 u.2.2.1 H1 := ht ▸ hB
  obtain ⟨r1, r2⟩ := st.behind (S' := vl z :: S) hag hB hS1 (fun q => (q.tail.tail.tail.tail).cons trivial)
  have k1 := kk z u.1 u.2.1 u.2.2.1 hq hag.1 ok u.2.2.2 H1 locs1 ls r1
  rw [r2] at k1
  exact k1
theorem x_cVL4 {x : Nat} {mt : MT} {ty : FieldType} {fr lo mc ms : Nat} {i : Nat} {v1 v2 v3 v4 : Value} {Q : Int → List Nat → NN → MM → Prop} (hd : decode cc pc = .ok (.invokevirtual x, 3)) (hl : Cond.methodLink own x mt.1 ∈ Wd) (hv : VW mt (some ty) 4) (hvv : VVW mt) (hk : (classes[kd i]?).map (fun q => q.1) = some mt.1.cls) (sp : SpL G mt ty fr lo mc ms [.ref i, v1, v2, v3, v4] K N I Q) (hR : fr + 1 ≤ R.frames ∧ 8 + (mt.2.2 + 11) + lo ≤ R.locals ∧ cs + mc ≤ R.cells ∧ ss + ms ≤ R.slots ∧ (S.map fun v => v.category).sum ≤ 8) (kk : ∀ z K1 N1 I1, Q z K1 N1 I1 → (∀ i, i ∈ K → i ∈ K1) → XX G own cc R Fx (pc + 3) L (vl z :: S) K1 N1 I1 (cs + mc) (ss + ms)) : XX G own cc R Fx pc L (v4 :: v3 :: v2 :: v1 :: .ref i :: S) K N I cs ss := by
  obtain ⟨p, e, s, m, args, below, meth, c, Q, nL, a0, K0⟩ := Fx
  intro ok al H locs ls st
  obtain ⟨hx, hb, hml, hown, hts, hE, hA⟩ := id ok
  have okN : okS K [] := fun w hw => nomatch hw
  have hoA : okS K [.ref i, v1, v2, v3, v4] := by
    have q := st.2.2.2.2.1
    exact (((((okN).cons q.head).cons q.tail.head).cons q.tail.tail.head).cons q.tail.tail.tail.head).cons q.tail.tail.tail.tail.head
  obtain ⟨ci, T, Nn, hc, h6⟩ := hvv.2.2
  have recv : ∃ cellB : Cell, H[al i]? = some cellB ∧ cellB.vm.isStatics = false ∧ s.vm.findClass mt.1.cls = some cellB.cls := by
    cases hq : classes[kd i]? with
    | none => rw [hq] at hk; cases hk
    | some r =>
      rw [hq] at hk
      have hkd : kd i < 6 := (List.getElem?_eq_some_iff.mp hq).1
      obtain ⟨q0, hq0⟩ := List.getElem?_of_mem ((okS.head (fun w hw => hoA w hw : okS K [.ref i, v1, v2, v3, v4])).mem (by omega))
      have z := va_recv hE.1 st.1.1 hq (by rw [wl_at hq0, ent_obj rfl hkd])
      have hk2 : r.1 = mt.1.cls := Option.some.inj hk
      rw [hk2] at z
      exact z
  refine va_calll (va_runV (As := [gm al v1, gm al v2, gm al v3, gm al v4]) (rest := S.map (gm al)) (C := mt.1.cls) (b := al i) ⟨hx, hb, hml, hown, hts⟩ (sp al hoA) ⟨callB_of 4 hts (GoodIn.Wd hv.2.1) rfl rfl rfl (hts _ hv.1) (hts _ hl) hv.2.2 ⟨hR.1, hR.2.1⟩, hts _ hvv.1, hts _ hvv.2.1⟩ ⟨RepW.blind, recv, fun U hU hW => PcW.at (As := [.ref i, v1, v2, v3, v4]) hE hA st.2.1 st.1 U hU hW⟩ rfl rfl st.2.2.1.1 rfl (lv_room (by rw [cat_gm]; exact hR.2.2.2.2)) hd ⟨hR.2.2.1, hR.2.2.2.1⟩) st.2.1 (fun q _ h => h) (fun q h => h) (fun r u t H1 locs1 ht hvm hp hB hz1 hk1 hS1 => ?_)
  obtain ⟨⟨z, rfl, hq⟩, hag⟩ := hp
  have hB : RepW G u.2.2.2 u.1 u.2.1 u.2.2.1 H1 := ht ▸ hB
  obtain ⟨r1, r2⟩ := st.behind (S' := vl z :: S) hag hB hS1 (fun q => (q.tail.tail.tail.tail.tail).cons trivial)
  have k1 := kk z u.1 u.2.1 u.2.2.1 hq hag.1 ok u.2.2.2 H1 locs1 ls r1
  rw [r2] at k1
  exact k1
theorem x_cVL5 {x : Nat} {mt : MT} {ty : FieldType} {fr lo mc ms : Nat} {i : Nat} {v1 v2 v3 v4 v5 : Value} {Q : Int → List Nat → NN → MM → Prop} (hd : decode cc pc = .ok (.invokevirtual x, 3)) (hl : Cond.methodLink own x mt.1 ∈ Wd) (hv : VW mt (some ty) 5) (hvv : VVW mt) (hk : (classes[kd i]?).map (fun q => q.1) = some mt.1.cls) (sp : SpL G mt ty fr lo mc ms [.ref i, v1, v2, v3, v4, v5] K N I Q) (hR : fr + 1 ≤ R.frames ∧ 8 + (mt.2.2 + 11) + lo ≤ R.locals ∧ cs + mc ≤ R.cells ∧ ss + ms ≤ R.slots ∧ (S.map fun v => v.category).sum ≤ 8) (kk : ∀ z K1 N1 I1, Q z K1 N1 I1 → (∀ i, i ∈ K → i ∈ K1) → XX G own cc R Fx (pc + 3) L (vl z :: S) K1 N1 I1 (cs + mc) (ss + ms)) : XX G own cc R Fx pc L (v5 :: v4 :: v3 :: v2 :: v1 :: .ref i :: S) K N I cs ss := by
  obtain ⟨p, e, s, m, args, below, meth, c, Q, nL, a0, K0⟩ := Fx
  intro ok al H locs ls st
  obtain ⟨hx, hb, hml, hown, hts, hE, hA⟩ := id ok
  have okN : okS K [] := fun w hw => nomatch hw
  have hoA : okS K [.ref i, v1, v2, v3, v4, v5] := by
    have q := st.2.2.2.2.1
    exact ((((((okN).cons q.head).cons q.tail.head).cons q.tail.tail.head).cons q.tail.tail.tail.head).cons q.tail.tail.tail.tail.head).cons q.tail.tail.tail.tail.tail.head
  obtain ⟨ci, T, Nn, hc, h6⟩ := hvv.2.2
  have recv : ∃ cellB : Cell, H[al i]? = some cellB ∧ cellB.vm.isStatics = false ∧ s.vm.findClass mt.1.cls = some cellB.cls := by
    cases hq : classes[kd i]? with
    | none => rw [hq] at hk; cases hk
    | some r =>
      rw [hq] at hk
      have hkd : kd i < 6 := (List.getElem?_eq_some_iff.mp hq).1
      obtain ⟨q0, hq0⟩ := List.getElem?_of_mem ((okS.head (fun w hw => hoA w hw : okS K [.ref i, v1, v2, v3, v4, v5])).mem (by omega))
      have z := va_recv hE.1 st.1.1 hq (by rw [wl_at hq0, ent_obj rfl hkd])
      have hk2 : r.1 = mt.1.cls := Option.some.inj hk
      rw [hk2] at z
      exact z
  refine va_calll (va_runV (As := [gm al v1, gm al v2, gm al v3, gm al v4, gm al v5]) (rest := S.map (gm al)) (C := mt.1.cls) (b := al i) ⟨hx, hb, hml, hown, hts⟩ (sp al hoA) ⟨callB_of 5 hts (GoodIn.Wd hv.2.1) rfl rfl rfl (hts _ hv.1) (hts _ hl) hv.2.2 ⟨hR.1, hR.2.1⟩, hts _ hvv.1, hts _ hvv.2.1⟩ ⟨RepW.blind, recv, fun U hU hW => PcW.at (As := [.ref i, v1, v2, v3, v4, v5]) hE hA st.2.1 st.1 U hU hW⟩ rfl rfl st.2.2.1.1 rfl (lv_room (by rw [cat_gm]; exact hR.2.2.2.2)) hd ⟨hR.2.2.1, hR.2.2.2.1⟩) st.2.1 (fun q _ h => h) (fun q h => h) (fun r u t H1 locs1 ht hvm hp hB hz1 hk1 hS1 => ?_)
  obtain ⟨⟨z, rfl, hq⟩, hag⟩ := hp
  have hB : RepW G u.2.2.2 u.1 u.2.1 u.2.2.1 H1 := ht ▸ hB
  obtain ⟨r1, r2⟩ := st.behind (S' := vl z :: S) hag hB hS1 (fun q => (q.tail.tail.tail.tail.tail.tail).cons trivial)
  have k1 := kk z u.1 u.2.1 u.2.2.1 hq hag.1 ok u.2.2.2 H1 locs1 ls r1
  rw [r2] at k1
  exact k1
theorem x_cVV0 {x : Nat} {mt : MT} {fr lo mc ms : Nat} {i : Nat} {Q : List Nat → NN → MM → Prop} (hd : decode cc pc = .ok (.invokevirtual x, 3)) (hl : Cond.methodLink own x mt.1 ∈ Wd) (hv : VW mt none 0) (hvv : VVW mt) (hk : (classes[kd i]?).map (fun q => q.1) = some mt.1.cls) (sp : SpV G mt fr lo mc ms [.ref i] K N I Q) (hR : fr + 1 ≤ R.frames ∧ 8 + (mt.2.2 + 11) + lo ≤ R.locals ∧ cs + mc ≤ R.cells ∧ ss + ms ≤ R.slots ∧ (S.map fun v => v.category).sum ≤ 8) (kk : ∀ K1 N1 I1, Q K1 N1 I1 → (∀ i, i ∈ K → i ∈ K1) → XX G own cc R Fx (pc + 3) L S K1 N1 I1 (cs + mc) (ss + ms)) : XX G own cc R Fx pc L (.ref i :: S) K N I cs ss := by
  obtain ⟨p, e, s, m, args, below, meth, c, Q, nL, a0, K0⟩ := Fx
  intro ok al H locs ls st
  obtain ⟨hx, hb, hml, hown, hts, hE, hA⟩ := id ok
  have okN : okS K [] := fun w hw => nomatch hw
  have hoA : okS K [.ref i] := by
    have q := st.2.2.2.2.1
    exact (okN).cons q.head
  obtain ⟨ci, T, Nn, hc, h6⟩ := hvv.2.2
  have recv : ∃ cellB : Cell, H[al i]? = some cellB ∧ cellB.vm.isStatics = false ∧ s.vm.findClass mt.1.cls = some cellB.cls := by
    cases hq : classes[kd i]? with
    | none => rw [hq] at hk; cases hk
    | some r =>
      rw [hq] at hk
      have hkd : kd i < 6 := (List.getElem?_eq_some_iff.mp hq).1
      obtain ⟨q0, hq0⟩ := List.getElem?_of_mem ((okS.head (fun w hw => hoA w hw : okS K [.ref i])).mem (by omega))
      have z := va_recv hE.1 st.1.1 hq (by rw [wl_at hq0, ent_obj rfl hkd])
      have hk2 : r.1 = mt.1.cls := Option.some.inj hk
      rw [hk2] at z
      exact z
  refine va_callv (va_runV (As := []) (rest := S.map (gm al)) (C := mt.1.cls) (b := al i) ⟨hx, hb, hml, hown, hts⟩ (sp al hoA) ⟨callB_of 0 hts (GoodIn.Wd hv.2.1) rfl rfl rfl (hts _ hv.1) (hts _ hl) hv.2.2 ⟨hR.1, hR.2.1⟩, hts _ hvv.1, hts _ hvv.2.1⟩ ⟨RepW.blind, recv, fun U hU hW => PcW.at (As := [.ref i]) hE hA st.2.1 st.1 U hU hW⟩ rfl rfl st.2.2.1.1 rfl (lv_room (by rw [cat_gm]; exact hR.2.2.2.2)) hd ⟨hR.2.2.1, hR.2.2.2.1⟩) st.2.1 (fun q _ h => h) (fun q h => h) (fun u t H1 locs1 ht hvm hp hB hz1 hk1 hS1 => ?_)
  obtain ⟨hq, hag⟩ := hp
  have hB : RepW G u.2.2.2 u.1 u.2.1 u.2.2.1 H1 := ht ▸ hB
  obtain ⟨r1, r2⟩ := st.behind hag hB hS1 (fun q => q.tail)
  have k1 := kk u.1 u.2.1 u.2.2.1 hq hag.1 ok u.2.2.2 H1 locs1 ls r1
  rw [r2] at k1
  exact k1
theorem x_cVV1 {x : Nat} {mt : MT} {fr lo mc ms : Nat} {i : Nat} {v1 : Value} {Q : List Nat → NN → MM → Prop} (hd : decode cc pc = .ok (.invokevirtual x, 3)) (hl : Cond.methodLink own x mt.1 ∈ Wd) (hv : VW mt none 1) (hvv : VVW mt) (hk : (classes[kd i]?).map (fun q => q.1) = some mt.1.cls) (sp : SpV G mt fr lo mc ms [.ref i, v1] K N I Q) (hR : fr + 1 ≤ R.frames ∧ 8 + (mt.2.2 + 11) + lo ≤ R.locals ∧ cs + mc ≤ R.cells ∧ ss + ms ≤ R.slots ∧ (S.map fun v => v.category).sum ≤ 8) (kk : ∀ K1 N1 I1, Q K1 N1 I1 → (∀ i, i ∈ K → i ∈ K1) → XX G own cc R Fx (pc + 3) L S K1 N1 I1 (cs + mc) (ss + ms)) : XX G own cc R Fx pc L (v1 :: .ref i :: S) K N I cs ss := by
  obtain ⟨p, e, s, m, args, below, meth, c, Q, nL, a0, K0⟩ := Fx
  intro ok al H locs ls st
  obtain ⟨hx, hb, hml, hown, hts, hE, hA⟩ := id ok
  have okN : okS K [] := fun w hw => nomatch hw
  have hoA : okS K [.ref i, v1] := by
    have q := st.2.2.2.2.1
    exact ((okN).cons q.head).cons q.tail.head
  obtain ⟨ci, T, Nn, hc, h6⟩ := hvv.2.2
  have recv : ∃ cellB : Cell, H[al i]? = some cellB ∧ cellB.vm.isStatics = false ∧ s.vm.findClass mt.1.cls = some cellB.cls := by
    cases hq : classes[kd i]? with
    | none => rw [hq] at hk; cases hk
    | some r =>
      rw [hq] at hk
      have hkd : kd i < 6 := (List.getElem?_eq_some_iff.mp hq).1
      obtain ⟨q0, hq0⟩ := List.getElem?_of_mem ((okS.head (fun w hw => hoA w hw : okS K [.ref i, v1])).mem (by omega))
      have z := va_recv hE.1 st.1.1 hq (by rw [wl_at hq0, ent_obj rfl hkd])
      have hk2 : r.1 = mt.1.cls := Option.some.inj hk
      rw [hk2] at z
      exact z
  refine va_callv (va_runV (As := [gm al v1]) (rest := S.map (gm al)) (C := mt.1.cls) (b := al i) ⟨hx, hb, hml, hown, hts⟩ (sp al hoA) ⟨callB_of 1 hts (GoodIn.Wd hv.2.1) rfl rfl rfl (hts _ hv.1) (hts _ hl) hv.2.2 ⟨hR.1, hR.2.1⟩, hts _ hvv.1, hts _ hvv.2.1⟩ ⟨RepW.blind, recv, fun U hU hW => PcW.at (As := [.ref i, v1]) hE hA st.2.1 st.1 U hU hW⟩ rfl rfl st.2.2.1.1 rfl (lv_room (by rw [cat_gm]; exact hR.2.2.2.2)) hd ⟨hR.2.2.1, hR.2.2.2.1⟩) st.2.1 (fun q _ h => h) (fun q h => h) (fun u t H1 locs1 ht hvm hp hB hz1 hk1 hS1 => ?_)
  obtain ⟨hq, hag⟩ := hp
  have hB : RepW G u.2.2.2 u.1 u.2.1 u.2.2.1 H1 := ht ▸ hB
  obtain ⟨r1, r2⟩ := st.behind hag hB hS1 (fun q => q.tail.tail)
  have k1 := kk u.1 u.2.1 u.2.2.1 hq hag.1 ok u.2.2.2 H1 locs1 ls r1
  rw [r2] at k1
  exact k1
theorem x_cVV2 {x : Nat} {mt : MT} {fr lo mc ms : Nat} {i : Nat} {v1 v2 : Value} {Q : List Nat → NN → MM → Prop} (hd : decode cc pc = .ok (.invokevirtual x, 3)) (hl : Cond.methodLink own x mt.1 ∈ Wd) (hv : VW mt none 2) (hvv : VVW mt) (hk : (classes[kd i]?).map (fun q => q.1) = some mt.1.cls) (sp : SpV G mt fr lo mc ms [.ref i, v1, v2] K N I Q) (hR : fr + 1 ≤ R.frames ∧ 8 + (mt.2.2 + 11) + lo ≤ R.locals ∧ cs + mc ≤ R.cells ∧ ss + ms ≤ R.slots ∧ (S.map fun v => v.category).sum ≤ 8) (kk : ∀ K1 N1 I1, Q K1 N1 I1 → (∀ i, i ∈ K → i ∈ K1) → XX G own cc R Fx (pc + 3) L S K1 N1 I1 (cs + mc) (ss + ms)) : XX G own cc R Fx pc L (v2 :: v1 :: .ref i :: S) K N I cs ss := by
  obtain ⟨p, e, s, m, args, below, meth, c, Q, nL, a0, K0⟩ := Fx
  intro ok al H locs ls st
  obtain ⟨hx, hb, hml, hown, hts, hE, hA⟩ := id ok
  have okN : okS K [] := fun w hw => nomatch hw
  have hoA : okS K [.ref i, v1, v2] := by
    have q := st.2.2.2.2.1
    exact (((okN).cons q.head).cons q.tail.head).cons q.tail.tail.head
  obtain ⟨ci, T, Nn, hc, h6⟩ := hvv.2.2
  have recv : ∃ cellB : Cell, H[al i]? = some cellB ∧ cellB.vm.isStatics = false ∧ s.vm.findClass mt.1.cls = some cellB.cls := by
    cases hq : classes[kd i]? with
    | none => rw [hq] at hk; cases hk
    | some r =>
      rw [hq] at hk
      have hkd : kd i < 6 := (List.getElem?_eq_some_iff.mp hq).1
      obtain ⟨q0, hq0⟩ := List.getElem?_of_mem ((okS.head (fun w hw => hoA w hw : okS K [.ref i, v1, v2])).mem (by omega))
      have z := va_recv hE.1 st.1.1 hq (by rw [wl_at hq0, ent_obj rfl hkd])
      have hk2 : r.1 = mt.1.cls := Option.some.inj hk
      rw [hk2] at z
      exact z
  refine va_callv (va_runV (As := [gm al v1, gm al v2]) (rest := S.map (gm al)) (C := mt.1.cls) (b := al i) ⟨hx, hb, hml, hown, hts⟩ (sp al hoA) ⟨callB_of 2 hts (GoodIn.Wd hv.2.1) rfl rfl rfl (hts _ hv.1) (hts _ hl) hv.2.2 ⟨hR.1, hR.2.1⟩, hts _ hvv.1, hts _ hvv.2.1⟩ ⟨RepW.blind, recv, fun U hU hW => PcW.at (As := [.ref i, v1, v2]) hE hA st.2.1 st.1 U hU hW⟩ rfl rfl st.2.2.1.1 rfl (lv_room (by rw [cat_gm]; exact hR.2.2.2.2)) hd ⟨hR.2.2.1, hR.2.2.2.1⟩) st.2.1 (fun q _ h => h) (fun q h => h) (fun u t H1 locs1 ht hvm hp hB hz1 hk1 hS1 => ?_)
  obtain ⟨hq, hag⟩ := hp
  have hB : RepW G u.2.2.2 u.1 u.2.1 u.2.2.1 H1 := ht ▸ hB
  obtain ⟨r1, r2⟩ := st.behind hag hB hS1 (fun q => q.tail.tail.tail)
  have k1 := kk u.1 u.2.1 u.2.2.1 hq hag.1 ok u.2.2.2 H1 locs1 ls r1
  rw [r2] at k1
  exact k1
theorem x_cVV3 {x : Nat} {mt : MT} {fr lo mc ms : Nat} {i : Nat} {v1 v2 v3 : Value} {Q : List Nat → NN → MM → Prop} (hd : decode cc pc = .ok (.invokevirtual x, 3)) (hl : Cond.methodLink own x mt.1 ∈ Wd) (hv : VW mt none 3) (hvv : VVW mt) (hk : (classes[kd i]?).map (fun q => q.1) = some mt.1.cls) (sp : SpV G mt fr lo mc ms [.ref i, v1, v2, v3] K N I Q) (hR : fr + 1 ≤ R.frames ∧ 8 + (mt.2.2 + 11) + lo ≤ R.locals ∧ cs + mc ≤ R.cells ∧ ss + ms ≤ R.slots ∧ (S.map fun v => v.category).sum ≤ 8) (kk : ∀ K1 N1 I1, Q K1 N1 I1 → (∀ i, i ∈ K → i ∈ K1) → XX G own cc R Fx (pc + 3) L S K1 N1 I1 (cs + mc) (ss + ms)) : XX G own cc R Fx pc L (v3 :: v2 :: v1 :: .ref i :: S) K N I cs ss := by
  obtain ⟨p, e, s, m, args, below, meth, c, Q, nL, a0, K0⟩ := Fx
  intro ok al H locs ls st
  obtain ⟨hx, hb, hml, hown, hts, hE, hA⟩ := id ok
  have okN : okS K [] := fun w hw => nomatch hw
  have hoA : okS K [.ref i, v1, v2, v3] := by
    have q := st.2.2.2.2.1
    exact ((((okN).cons q.head).cons q.tail.head).cons q.tail.tail.head).cons q.tail.tail.tail.head
  obtain ⟨ci, T, Nn, hc, h6⟩ := hvv.2.2
  have recv : ∃ cellB : Cell, H[al i]? = some cellB ∧ cellB.vm.isStatics = false ∧ s.vm.findClass mt.1.cls = some cellB.cls := by
    cases hq : classes[kd i]? with
    | none => rw [hq] at hk; cases hk
    | some r =>
      rw [hq] at hk
      have hkd : kd i < 6 := (List.getElem?_eq_some_iff.mp hq).1
      obtain ⟨q0, hq0⟩ := List.getElem?_of_mem ((okS.head (fun w hw => hoA w hw : okS K [.ref i, v1, v2, v3])).mem (by omega))
      have z := va_recv hE.1 st.1.1 hq (by rw [wl_at hq0, ent_obj rfl hkd])
      have hk2 : r.1 = mt.1.cls := Option.some.inj hk
      rw [hk2] at z
      exact z
  refine va_callv (va_runV (As := [gm al v1, gm al v2, gm al v3]) (rest := S.map (gm al)) (C := mt.1.cls) (b := al i) ⟨hx, hb, hml, hown, hts⟩ (sp al hoA) ⟨callB_of 3 hts (GoodIn.Wd hv.2.1) rfl rfl rfl (hts _ hv.1) (hts _ hl) hv.2.2 ⟨hR.1, hR.2.1⟩, hts _ hvv.1, hts _ hvv.2.1⟩ ⟨RepW.blind, recv, fun U hU hW => PcW.at (As := [.ref i, v1, v2, v3]) hE hA st.2.1 st.1 U hU hW⟩ rfl rfl st.2.2.1.1 rfl (lv_room (by rw [cat_gm]; exact hR.2.2.2.2)) hd ⟨hR.2.2.1, hR.2.2.2.1⟩) st.2.1 (fun q _ h => h) (fun q h => h) (fun u t H1 locs1 ht hvm hp hB hz1 hk1 hS1 => ?_)
  obtain ⟨hq, hag⟩ := hp
  have hB : RepW G u.2.2.2 u.1 u.2.1 u.2.2.1 H1 := ht ▸ hB
  obtain ⟨r1, r2⟩ := st.behind hag hB hS1 (fun q => q.tail.tail.tail.tail)
  have k1 := kk u.1 u.2.1 u.2.2.1 hq hag.1 ok u.2.2.2 H1 locs1 ls r1
  rw [r2] at k1
  exact k1
theorem x_cVV4 {x : Nat} {mt : MT} {fr lo mc ms : Nat} {i : Nat} {v1 v2 v3 v4 : Value} {Q : List Nat → NN → MM → Prop} (hd : decode cc pc = .ok (.invokevirtual x, 3)) (hl : Cond.methodLink own x mt.1 ∈ Wd) (hv : VW mt none 4) (hvv : VVW mt) (hk : (classes[kd i]?).map (fun q => q.1) = some mt.1.cls) (sp : SpV G mt fr lo mc ms [.ref i, v1, v2, v3, v4] K N I Q) (hR : fr + 1 ≤ R.frames ∧ 8 + (mt.2.2 + 11) + lo ≤ R.locals ∧ cs + mc ≤ R.cells ∧ ss + ms ≤ R.slots ∧ (S.map fun v => v.category).sum ≤ 8) (kk : ∀ K1 N1 I1, Q K1 N1 I1 → (∀ i, i ∈ K → i ∈ K1) → XX G own cc R Fx (pc + 3) L S K1 N1 I1 (cs + mc) (ss + ms)) : XX G own cc R Fx pc L (v4 :: v3 :: v2 :: v1 :: .ref i :: S) K N I cs ss := by
  obtain ⟨p, e, s, m, args, below, meth, c, Q, nL, a0, K0⟩ := Fx
  intro ok al H locs ls st
  obtain ⟨hx, hb, hml, hown, hts, hE, hA⟩ := id ok
  have okN : okS K [] := fun w hw => nomatch hw
  have hoA : okS K [.ref i, v1, v2, v3, v4] := by
    have q := st.2.2.2.2.1
    exact (((((okN).cons q.head).cons q.tail.head).cons q.tail.tail.head).cons q.tail.tail.tail.head).cons q.tail.tail.tail.tail.head
  obtain ⟨ci, T, Nn, hc, h6⟩ := hvv.2.2
  have recv : ∃ cellB : Cell, H[al i]? = some cellB ∧ cellB.vm.isStatics = false ∧ s.vm.findClass mt.1.cls = some cellB.cls := by
    cases hq : classes[kd i]? with
    | none => rw [hq] at hk; cases hk
    | some r =>
      rw [hq] at hk
      have hkd : kd i < 6 := (List.getElem?_eq_some_iff.mp hq).1
      obtain ⟨q0, hq0⟩ := List.getElem?_of_mem ((okS.head (fun w hw => hoA w hw : okS K [.ref i, v1, v2, v3, v4])).mem (by omega))
      have z := va_recv hE.1 st.1.1 hq (by rw [wl_at hq0, ent_obj rfl hkd])
      have hk2 : r.1 = mt.1.cls := Option.some.inj hk
      rw [hk2] at z
      exact z
  refine va_callv (va_runV (As := [gm al v1, gm al v2, gm al v3, gm al v4]) (rest := S.map (gm al)) (C := mt.1.cls) (b := al i) ⟨hx, hb, hml, hown, hts⟩ (sp al hoA) ⟨callB_of 4 hts (GoodIn.Wd hv.2.1) rfl rfl rfl (hts _ hv.1) (hts _ hl) hv.2.2 ⟨hR.1, hR.2.1⟩, hts _ hvv.1, hts _ hvv.2.1⟩ ⟨RepW.blind, recv, fun U hU hW => PcW.at (As := [.ref i, v1, v2, v3, v4]) hE hA st.2.1 st.1 U hU hW⟩ rfl rfl st.2.2.1.1 rfl (lv_room (by rw [cat_gm]; exact hR.2.2.2.2)) hd ⟨hR.2.2.1, hR.2.2.2.1⟩) st.2.1 (fun q _ h => h) (fun q h => h) (fun u t H1 locs1 ht hvm hp hB hz1 hk1 hS1 => ?_)
  obtain ⟨hq, hag⟩ := hp
  have hB : RepW G u.2.2.2 u.1 u.2.1 u.2.2.1 H1 := ht ▸ hB
  obtain ⟨r1, r2⟩ := st.behind hag hB hS1 (fun q => q.tail.tail.tail.tail.tail)
  have k1 := kk u.1 u.2.1 u.2.2.1 hq hag.1 ok u.2.2.2 H1 locs1 ls r1
  rw [r2] at k1
  exact k1
theorem x_cVV5 {x : Nat} {mt : MT} {fr lo mc ms : Nat} {i : Nat} {v1 v2 v3 v4 v5 : Value} {Q : List Nat → NN → MM → Prop} (hd : decode cc pc = .ok (.invokevirtual x, 3)) (hl : Cond.methodLink own x mt.1 ∈ Wd) (hv : VW mt none 5) (hvv : VVW mt) (hk : (classes[kd i]?).map (fun q => q.1) = some mt.1.cls) (sp : SpV G mt fr lo mc ms [.ref i, v1, v2, v3, v4, v5] K N I Q) (hR : fr + 1 ≤ R.frames ∧ 8 + (mt.2.2 + 11) + lo ≤ R.locals ∧ cs + mc ≤ R.cells ∧ ss + ms ≤ R.slots ∧ (S.map fun v => v.category).sum ≤ 8) (kk : ∀ K1 N1 I1, Q K1 N1 I1 → (∀ i, i ∈ K → i ∈ K1) → XX G own cc R Fx (pc + 3) L S K1 N1 I1 (cs + mc) (ss + ms)) : XX G own cc R Fx pc L (v5 :: v4 :: v3 :: v2 :: v1 :: .ref i :: S) K N I cs ss := by
  obtain ⟨p, e, s, m, args, below, meth, c, Q, nL, a0, K0⟩ := Fx
  intro ok al H locs ls st
  obtain ⟨hx, hb, hml, hown, hts, hE, hA⟩ := id ok
  have okN : okS K [] := fun w hw => nomatch hw
  have hoA : okS K [.ref i, v1, v2, v3, v4, v5] := by
    have q := st.2.2.2.2.1
    exact ((((((okN).cons q.head).cons q.tail.head).cons q.tail.tail.head).cons q.tail.tail.tail.head).cons q.tail.tail.tail.tail.head).cons q.tail.tail.tail.tail.tail.head
  obtain ⟨ci, T, Nn, hc, h6⟩ := hvv.2.2
  have recv : ∃ cellB : Cell, H[al i]? = some cellB ∧ cellB.vm.isStatics = false ∧ s.vm.findClass mt.1.cls = some cellB.cls := by
    cases hq : classes[kd i]? with
    | none => rw [hq] at hk; cases hk
    | some r =>
      rw [hq] at hk
      have hkd : kd i < 6 := (List.getElem?_eq_some_iff.mp hq).1
      obtain ⟨q0, hq0⟩ := List.getElem?_of_mem ((okS.head (fun w hw => hoA w hw : okS K [.ref i, v1, v2, v3, v4, v5])).mem (by omega))
      have z := va_recv hE.1 st.1.1 hq (by rw [wl_at hq0, ent_obj rfl hkd])
      have hk2 : r.1 = mt.1.cls := Option.some.inj hk
      rw [hk2] at z
      exact z
  refine va_callv (va_runV (As := [gm al v1, gm al v2, gm al v3, gm al v4, gm al v5]) (rest := S.map (gm al)) (C := mt.1.cls) (b := al i) ⟨hx, hb, hml, hown, hts⟩ (sp al hoA) ⟨callB_of 5 hts (GoodIn.Wd hv.2.1) rfl rfl rfl (hts _ hv.1) (hts _ hl) hv.2.2 ⟨hR.1, hR.2.1⟩, hts _ hvv.1, hts _ hvv.2.1⟩ ⟨RepW.blind, recv, fun U hU hW => PcW.at (As := [.ref i, v1, v2, v3, v4, v5]) hE hA st.2.1 st.1 U hU hW⟩ rfl rfl st.2.2.1.1 rfl (lv_room (by rw [cat_gm]; exact hR.2.2.2.2)) hd ⟨hR.2.2.1, hR.2.2.2.1⟩) st.2.1 (fun q _ h => h) (fun q h => h) (fun u t H1 locs1 ht hvm hp hB hz1 hk1 hS1 => ?_)
  obtain ⟨hq, hag⟩ := hp
  have hB : RepW G u.2.2.2 u.1 u.2.1 u.2.2.1 H1 := ht ▸ hB
  obtain ⟨r1, r2⟩ := st.behind hag hB hS1 (fun q => q.tail.tail.tail.tail.tail.tail)
  have k1 := kk u.1 u.2.1 u.2.2.1 hq hag.1 ok u.2.2.2 H1 locs1 ls r1
  rw [r2] at k1
  exact k1
theorem x_cSI1 {x : Nat} {mt : MT} {ty : FieldType} {fr lo mc ms : Nat} {v1 : Value} {Q : Int → List Nat → NN → MM → Prop} (hd : decode cc pc = .ok (.invokestatic x, 3)) (hl : Cond.methodLink own x mt.1 ∈ Wd) (hv : VW mt (some ty) 1) (hvv : Cond.static mt.1 ∈ Wd) (sp : SpI G mt ty fr lo mc ms [v1] K N I Q) (hR : fr + 1 ≤ R.frames ∧ 8 + (mt.2.2 + 11) + lo ≤ R.locals ∧ cs + mc ≤ R.cells ∧ ss + ms ≤ R.slots ∧ (S.map fun v => v.category).sum ≤ 8) (kk : ∀ z K1 N1 I1, Q z K1 N1 I1 → (∀ i, i ∈ K → i ∈ K1) → XX G own cc R Fx (pc + 3) L (vi z :: S) K1 N1 I1 (cs + mc) (ss + ms)) : XX G own cc R Fx pc L (v1 :: S) K N I cs ss := by
  obtain ⟨p, e, s, m, args, below, meth, c, Q, nL, a0, K0⟩ := Fx
  intro ok al H locs ls st
  obtain ⟨hx, hb, hml, hown, hts, hE, hA⟩ := id ok
  have okN : okS K [] := fun w hw => nomatch hw
  have hoA : okS K [v1] := by
    have q := st.2.2.2.2.1
    exact (okN).cons q.head
  refine va_calli (va_runS (As := [gm al v1]) (rest := S.map (gm al)) ⟨hx, hb, hml, hown, hts⟩ (sp al hoA) ⟨callB_of 1 hts (GoodIn.Wd hv.2.1) rfl rfl rfl (hts _ hv.1) (hts _ hl) hv.2.2 ⟨hR.1, hR.2.1⟩, hts _ hvv⟩ ⟨RepW.blind, fun U hU hW => PcW.at (As := [v1]) hE hA st.2.1 st.1 U hU hW⟩ rfl rfl st.2.2.1.1 rfl (lv_room (by rw [cat_gm]; exact hR.2.2.2.2)) hd ⟨hR.2.2.1, hR.2.2.2.1⟩) st.2.1 (fun q _ h => h) (fun q h => h) (fun r u t H1 locs1 ht hvm hp hB hz1 hk1 hS1 => ?_)
  obtain ⟨⟨z, rfl, hq⟩, hag⟩ := hp
  have hB : RepW G u.2.2.2 u.1 u.2.1 u.2.2.1 H1 := ht ▸ hB
  obtain ⟨r1, r2⟩ := st.behind (S' := vi z :: S) hag hB hS1 (fun q => (q.tail).cons trivial)
  have k1 := kk z u.1 u.2.1 u.2.2.1 hq hag.1 ok u.2.2.2 H1 locs1 ls r1
  rw [r2] at k1
  exact k1
theorem x_cSI2 {x : Nat} {mt : MT} {ty : FieldType} {fr lo mc ms : Nat} {v1 v2 : Value} {Q : Int → List Nat → NN → MM → Prop} (hd : decode cc pc = .ok (.invokestatic x, 3)) (hl : Cond.methodLink own x mt.1 ∈ Wd) (hv : VW mt (some ty) 2) (hvv : Cond.static mt.1 ∈ Wd) (sp : SpI G mt ty fr lo mc ms [v1, v2] K N I Q) (hR : fr + 1 ≤ R.frames ∧ 8 + (mt.2.2 + 11) + lo ≤ R.locals ∧ cs + mc ≤ R.cells ∧ ss + ms ≤ R.slots ∧ (S.map fun v => v.category).sum ≤ 8) (kk : ∀ z K1 N1 I1, Q z K1 N1 I1 → (∀ i, i ∈ K → i ∈ K1) → XX G own cc R Fx (pc + 3) L (vi z :: S) K1 N1 I1 (cs + mc) (ss + ms)) : XX G own cc R Fx pc L (v2 :: v1 :: S) K N I cs ss := by
  obtain ⟨p, e, s, m, args, below, meth, c, Q, nL, a0, K0⟩ := Fx
  intro ok al H locs ls st
  obtain ⟨hx, hb, hml, hown, hts, hE, hA⟩ := id ok
  have okN : okS K [] := fun w hw => nomatch hw
  have hoA : okS K [v1, v2] := by
    have q := st.2.2.2.2.1
    exact ((okN).cons q.head).cons q.tail.head
  refine va_calli (va_runS (As := [gm al v1, gm al v2]) (rest := S.map (gm al)) ⟨hx, hb, hml, hown, hts⟩ (sp al hoA) ⟨callB_of 2 hts (GoodIn.Wd hv.2.1) rfl rfl rfl (hts _ hv.1) (hts _ hl) hv.2.2 ⟨hR.1, hR.2.1⟩, hts _ hvv⟩ ⟨RepW.blind, fun U hU hW => PcW.at (As := [v1, v2]) hE hA st.2.1 st.1 U hU hW⟩ rfl rfl st.2.2.1.1 rfl (lv_room (by rw [cat_gm]; exact hR.2.2.2.2)) hd ⟨hR.2.2.1, hR.2.2.2.1⟩) st.2.1 (fun q _ h => h) (fun q h => h) (fun r u t H1 locs1 ht hvm hp hB hz1 hk1 hS1 => ?_)
  obtain ⟨⟨z, rfl, hq⟩, hag⟩ := hp
  have hB : RepW G u.2.2.2 u.1 u.2.1 u.2.2.1 H1 := ht ▸ hB
  obtain ⟨r1, r2⟩ := st.behind (S' := vi z :: S) hag hB hS1 (fun q => (q.tail.tail).cons trivial)
  have k1 := kk z u.1 u.2.1 u.2.2.1 hq hag.1 ok u.2.2.2 H1 locs1 ls r1
  rw [r2] at k1
  exact k1
theorem x_cSI3 {x : Nat} {mt : MT} {ty : FieldType} {fr lo mc ms : Nat} {v1 v2 v3 : Value} {Q : Int → List Nat → NN → MM → Prop} (hd : decode cc pc = .ok (.invokestatic x, 3)) (hl : Cond.methodLink own x mt.1 ∈ Wd) (hv : VW mt (some ty) 3) (hvv : Cond.static mt.1 ∈ Wd) (sp : SpI G mt ty fr lo mc ms [v1, v2, v3] K N I Q) (hR : fr + 1 ≤ R.frames ∧ 8 + (mt.2.2 + 11) + lo ≤ R.locals ∧ cs + mc ≤ R.cells ∧ ss + ms ≤ R.slots ∧ (S.map fun v => v.category).sum ≤ 8) (kk : ∀ z K1 N1 I1, Q z K1 N1 I1 → (∀ i, i ∈ K → i ∈ K1) → XX G own cc R Fx (pc + 3) L (vi z :: S) K1 N1 I1 (cs + mc) (ss + ms)) : XX G own cc R Fx pc L (v3 :: v2 :: v1 :: S) K N I cs ss := by
  obtain ⟨p, e, s, m, args, below, meth, c, Q, nL, a0, K0⟩ := Fx
  intro ok al H locs ls st
  obtain ⟨hx, hb, hml, hown, hts, hE, hA⟩ := id ok
  have okN : okS K [] := fun w hw => nomatch hw
  have hoA : okS K [v1, v2, v3] := by
    have q := st.2.2.2.2.1
    exact (((okN).cons q.head).cons q.tail.head).cons q.tail.tail.head
  refine va_calli (va_runS (As := [gm al v1, gm al v2, gm al v3]) (rest := S.map (gm al)) ⟨hx, hb, hml, hown, hts⟩ (sp al hoA) ⟨callB_of 3 hts (GoodIn.Wd hv.2.1) rfl rfl rfl (hts _ hv.1) (hts _ hl) hv.2.2 ⟨hR.1, hR.2.1⟩, hts _ hvv⟩ ⟨RepW.blind, fun U hU hW => PcW.at (As := [v1, v2, v3]) hE hA st.2.1 st.1 U hU hW⟩ rfl rfl st.2.2.1.1 rfl (lv_room (by rw [cat_gm]; exact hR.2.2.2.2)) hd ⟨hR.2.2.1, hR.2.2.2.1⟩) st.2.1 (fun q _ h => h) (fun q h => h) (fun r u t H1 locs1 ht hvm hp hB hz1 hk1 hS1 => ?_)
  obtain ⟨⟨z, rfl, hq⟩, hag⟩ := hp
  have hB : RepW G u.2.2.2 u.1 u.2.1 u.2.2.1 H1 := ht ▸ hB
  obtain ⟨r1, r2⟩ := st.behind (S' := vi z :: S) hag hB hS1 (fun q => (q.tail.tail.tail).cons trivial)
  have k1 := kk z u.1 u.2.1 u.2.2.1 hq hag.1 ok u.2.2.2 H1 locs1 ls r1
  rw [r2] at k1
  exact k1
theorem x_cSI4 {x : Nat} {mt : MT} {ty : FieldType} {fr lo mc ms : Nat} {v1 v2 v3 v4 : Value} {Q : Int → List Nat → NN → MM → Prop} (hd : decode cc pc = .ok (.invokestatic x, 3)) (hl : Cond.methodLink own x mt.1 ∈ Wd) (hv : VW mt (some ty) 4) (hvv : Cond.static mt.1 ∈ Wd) (sp : SpI G mt ty fr lo mc ms [v1, v2, v3, v4] K N I Q) (hR : fr + 1 ≤ R.frames ∧ 8 + (mt.2.2 + 11) + lo ≤ R.locals ∧ cs + mc ≤ R.cells ∧ ss + ms ≤ R.slots ∧ (S.map fun v => v.category).sum ≤ 8) (kk : ∀ z K1 N1 I1, Q z K1 N1 I1 → (∀ i, i ∈ K → i ∈ K1) → XX G own cc R Fx (pc + 3) L (vi z :: S) K1 N1 I1 (cs + mc) (ss + ms)) : XX G own cc R Fx pc L (v4 :: v3 :: v2 :: v1 :: S) K N I cs ss := by
  obtain ⟨p, e, s, m, args, below, meth, c, Q, nL, a0, K0⟩ := Fx
  intro ok al H locs ls st
  obtain ⟨hx, hb, hml, hown, hts, hE, hA⟩ := id ok
  have okN : okS K [] := fun w hw => nomatch hw
  have hoA : okS K [v1, v2, v3, v4] := by
    have q := st.2.2.2.2.1
    exact ((((okN).cons q.head).cons q.tail.head).cons q.tail.tail.head).cons q.tail.tail.tail.head
  refine va_calli (va_runS (As := [gm al v1, gm al v2, gm al v3, gm al v4]) (rest := S.map (gm al)) ⟨hx, hb, hml, hown, hts⟩ (sp al hoA) ⟨callB_of 4 hts (GoodIn.Wd hv.2.1) rfl rfl rfl (hts _ hv.1) (hts _ hl) hv.2.2 ⟨hR.1, hR.2.1⟩, hts _ hvv⟩ ⟨RepW.blind, fun U hU hW => PcW.at (As := [v1, v2, v3, v4]) hE hA st.2.1 st.1 U hU hW⟩ rfl rfl st.2.2.1.1 rfl (lv_room (by rw [cat_gm]; exact hR.2.2.2.2)) hd ⟨hR.2.2.1, hR.2.2.2.1⟩) st.2.1 (fun q _ h => h) (fun q h => h) (fun r u t H1 locs1 ht hvm hp hB hz1 hk1 hS1 => ?_)
  obtain ⟨⟨z, rfl, hq⟩, hag⟩ := hp
  have hB : RepW G u.2.2.2 u.1 u.2.1 u.2.2.1 H1 := ht ▸ hB
  obtain ⟨r1, r2⟩ := st.behind (S' := vi z :: S) hag hB hS1 (fun q => (q.tail.tail.tail.tail).cons trivial)
  have k1 := kk z u.1 u.2.1 u.2.2.1 hq hag.1 ok u.2.2.2 H1 locs1 ls r1
  rw [r2] at k1
  exact k1
theorem x_cSI5 {x : Nat} {mt : MT} {ty : FieldType} {fr lo mc ms : Nat} {v1 v2 v3 v4 v5 : Value} {Q : Int → List Nat → NN → MM → Prop} (hd : decode cc pc = .ok (.invokestatic x, 3)) (hl : Cond.methodLink own x mt.1 ∈ Wd) (hv : VW mt (some ty) 5) (hvv : Cond.static mt.1 ∈ Wd) (sp : SpI G mt ty fr lo mc ms [v1, v2, v3, v4, v5] K N I Q) (hR : fr + 1 ≤ R.frames ∧ 8 + (mt.2.2 + 11) + lo ≤ R.locals ∧ cs + mc ≤ R.cells ∧ ss + ms ≤ R.slots ∧ (S.map fun v => v.category).sum ≤ 8) (kk : ∀ z K1 N1 I1, Q z K1 N1 I1 → (∀ i, i ∈ K → i ∈ K1) → XX G own cc R Fx (pc + 3) L (vi z :: S) K1 N1 I1 (cs + mc) (ss + ms)) : XX G own cc R Fx pc L (v5 :: v4 :: v3 :: v2 :: v1 :: S) K N I cs ss := by
  obtain ⟨p, e, s, m, args, below, meth, c, Q, nL, a0, K0⟩ := Fx
  intro ok al H locs ls st
  obtain ⟨hx, hb, hml, hown, hts, hE, hA⟩ := id ok
  have okN : okS K [] := fun w hw => nomatch hw
  have hoA : okS K [v1, v2, v3, v4, v5] := by
    have q := st.2.2.2.2.1
    exact (((((okN).cons q.head).cons q.tail.head).cons q.tail.tail.head).cons q.tail.tail.tail.head).cons q.tail.tail.tail.tail.head
  refine va_calli (va_runS (As := [gm al v1, gm al v2, gm al v3, gm al v4, gm al v5]) (rest := S.map (gm al)) ⟨hx, hb, hml, hown, hts⟩ (sp al hoA) ⟨callB_of 5 hts (GoodIn.Wd hv.2.1) rfl rfl rfl (hts _ hv.1) (hts _ hl) hv.2.2 ⟨hR.1, hR.2.1⟩, hts _ hvv⟩ ⟨RepW.blind, fun U hU hW => PcW.at (As := [v1, v2, v3, v4, v5]) hE hA st.2.1 st.1 U hU hW⟩ rfl rfl st.2.2.1.1 rfl (lv_room (by rw [cat_gm]; exact hR.2.2.2.2)) hd ⟨hR.2.2.1, hR.2.2.2.1⟩) st.2.1 (fun q _ h => h) (fun q h => h) (fun r u t H1 locs1 ht hvm hp hB hz1 hk1 hS1 => ?_)
  obtain ⟨⟨z, rfl, hq⟩, hag⟩ := hp
  have hB : RepW G u.2.2.2 u.1 u.2.1 u.2.2.1 H1 := ht ▸ hB
  obtain ⟨r1, r2⟩ := st.behind (S' := vi z :: S) hag hB hS1 (fun q => (q.tail.tail.tail.tail.tail).cons trivial)
  have k1 := kk z u.1 u.2.1 u.2.2.1 hq hag.1 ok u.2.2.2 H1 locs1 ls r1
  rw [r2] at k1
  exact k1
theorem x_cSL1 {x : Nat} {mt : MT} {ty : FieldType} {fr lo mc ms : Nat} {v1 : Value} {Q : Int → List Nat → NN → MM → Prop} (hd : decode cc pc = .ok (.invokestatic x, 3)) (hl : Cond.methodLink own x mt.1 ∈ Wd) (hv : VW mt (some ty) 1) (hvv : Cond.static mt.1 ∈ Wd) (sp : SpL G mt ty fr lo mc ms [v1] K N I Q) (hR : fr + 1 ≤ R.frames ∧ 8 + (mt.2.2 + 11) + lo ≤ R.locals ∧ cs + mc ≤ R.cells ∧ ss + ms ≤ R.slots ∧ (S.map fun v => v.category).sum ≤ 8) (kk : ∀ z K1 N1 I1, Q z K1 N1 I1 → (∀ i, i ∈ K → i ∈ K1) → XX G own cc R Fx (pc + 3) L (vl z :: S) K1 N1 I1 (cs + mc) (ss + ms)) : XX G own cc R Fx pc L (v1 :: S) K N I cs ss := by
  obtain ⟨p, e, s, m, args, below, meth, c, Q, nL, a0, K0⟩ := Fx
  intro ok al H locs ls st
  obtain ⟨hx, hb, hml, hown, hts, hE, hA⟩ := id ok
  have okN : okS K [] := fun w hw => nomatch hw
  have hoA : okS K [v1] := by
    have q := st.2.2.2.2.1
    exact (okN).cons q.head
  refine va_calll (va_runS (As := [gm al v1]) (rest := S.map (gm al)) ⟨hx, hb, hml, hown, hts⟩ (sp al hoA) ⟨callB_of 1 hts (GoodIn.Wd hv.2.1) rfl rfl rfl (hts _ hv.1) (hts _ hl) hv.2.2 ⟨hR.1, hR.2.1⟩, hts _ hvv⟩ ⟨RepW.blind, fun U hU hW => PcW.at (As := [v1]) hE hA st.2.1 st.1 U hU hW⟩ rfl rfl st.2.2.1.1 rfl (lv_room (by rw [cat_gm]; exact hR.2.2.2.2)) hd ⟨hR.2.2.1, hR.2.2.2.1⟩) st.2.1 (fun q _ h => h) (fun q h => h) (fun r u t H1 locs1 ht hvm hp hB hz1 hk1 hS1 => ?_)
  obtain ⟨⟨z, rfl, hq⟩, hag⟩ := hp
  have hB : RepW G u.2.2.2 u.1 u.2.1 u.2.2.1 H1 := ht ▸ hB
  obtain ⟨r1, r2⟩ := st.behind (S' := vl z :: S) hag hB hS1 (fun q => (q.tail).cons trivial)
  have k1 := kk z u.1 u.2.1 u.2.2.1 hq hag.1 ok u.2.2.2 H1 locs1 ls r1
  rw [r2] at k1
  exact k1
theorem x_cSL2 {x : Nat} {mt : MT} {ty : FieldType} {fr lo mc ms : Nat} {v1 v2 : Value} {Q : Int → List Nat → NN → MM → Prop} (hd : decode cc pc = .ok (.invokestatic x, 3)) (hl : Cond.methodLink own x mt.1 ∈ Wd) (hv : VW mt (some ty) 2) (hvv : Cond.static mt.1 ∈ Wd) (sp : SpL G mt ty fr lo mc ms [v1, v2] K N I Q) (hR : fr + 1 ≤ R.frames ∧ 8 + (mt.2.2 + 11) + lo ≤ R.locals ∧ cs + mc ≤ R.cells ∧ ss + ms ≤ R.slots ∧ (S.map fun v => v.category).sum ≤ 8) (kk : ∀ z K1 N1 I1, Q z K1 N1 I1 → (∀ i, i ∈ K → i ∈ K1) → XX G own cc R Fx (pc + 3) L (vl z :: S) K1 N1 I1 (cs + mc) (ss + ms)) : XX G own cc R Fx pc L (v2 :: v1 :: S) K N I cs ss := by
  obtain ⟨p, e, s, m, args, below, meth, c, Q, nL, a0, K0⟩ := Fx
  intro ok al H locs ls st
  obtain ⟨hx, hb, hml, hown, hts, hE, hA⟩ := id ok
  have okN : okS K [] := fun w hw => nomatch hw
  have hoA : okS K [v1, v2] := by
    have q := st.2.2.2.2.1
    exact ((okN).cons q.head).cons q.tail.head
  refine va_calll (va_runS (As := [gm al v1, gm al v2]) (rest := S.map (gm al)) ⟨hx, hb, hml, hown, hts⟩ (sp al hoA) ⟨callB_of 2 hts (GoodIn.Wd hv.2.1) rfl rfl rfl (hts _ hv.1) (hts _ hl) hv.2.2 ⟨hR.1, hR.2.1⟩, hts _ hvv⟩ ⟨RepW.blind, fun U hU hW => PcW.at (As := [v1, v2]) hE hA st.2.1 st.1 U hU hW⟩ rfl rfl st.2.2.1.1 rfl (lv_room (by rw [cat_gm]; exact hR.2.2.2.2)) hd ⟨hR.2.2.1, hR.2.2.2.1⟩) st.2.1 (fun q _ h => h) (fun q h => h) (fun r u t H1 locs1 ht hvm hp hB hz1 hk1 hS1 => ?_)
  obtain ⟨⟨z, rfl, hq⟩, hag⟩ := hp
  have hB : RepW G u.2.2.2 u.1 u.2.1 u.2.2.1 H1 := ht ▸ hB
  obtain ⟨r1, r2⟩ := st.behind (S' := vl z :: S) hag hB hS1 (fun q => (q.tail.tail).cons trivial)
  have k1 := kk z u.1 u.2.1 u.2.2.1 hq hag.1 ok u.2.2.2 H1 locs1 ls r1
  rw [r2] at k1
  exact k1
theorem x_cSL3 {x : Nat} {mt : MT} {ty : FieldType} {fr lo mc ms : Nat} {v1 v2 v3 : Value} {Q : Int → List Nat → NN → MM → Prop} (hd : decode cc pc = .ok (.invokestatic x, 3)) (hl : Cond.methodLink own x mt.1 ∈ Wd) (hv : VW mt (some ty) 3) (hvv : Cond.static mt.1 ∈ Wd) (sp : SpL G mt ty fr lo mc ms [v1, v2, v3] K N I Q) (hR : fr + 1 ≤ R.frames ∧ 8 + (mt.2.2 + 11) + lo ≤ R.locals ∧ cs + mc ≤ R.cells ∧ ss + ms ≤ R.slots ∧ (S.map fun v => v.category).sum ≤ 8) (kk : ∀ z K1 N1 I1, Q z K1 N1 I1 → (∀ i, i ∈ K → i ∈ K1) → XX G own cc R Fx (pc + 3) L (vl z :: S) K1 N1 I1 (cs + mc) (ss + ms)) : XX G own cc R Fx pc L (v3 :: v2 :: v1 :: S) K N I cs ss := by
  obtain ⟨p, e, s, m, args, below, meth, c, Q, nL, a0, K0⟩ := Fx
  intro ok al H locs ls st
  obtain ⟨hx, hb, hml, hown, hts, hE, hA⟩ := id ok
  have okN : okS K [] := fun w hw => nomatch hw
  have hoA : okS K [v1, v2, v3] := by
    have q := st.2.2.2.2.1
    exact (((okN).cons q.head).cons q.tail.head).cons q.tail.tail.head
  refine va_calll (va_runS (As := [gm al v1, gm al v2, gm al v3]) (rest := S.map (gm al)) ⟨hx, hb, hml, hown, hts⟩ (sp al hoA) ⟨callB_of 3 hts (GoodIn.Wd hv.2.1) rfl rfl rfl (hts _ hv.1) (hts _ hl) hv.2.2 ⟨hR.1, hR.2.1⟩, hts _ hvv⟩ ⟨RepW.blind, fun U hU hW => PcW.at (As := [v1, v2, v3]) hE hA st.2.1 st.1 U hU hW⟩ rfl rfl st.2.2.1.1 rfl (lv_room (by rw [cat_gm]; exact hR.2.2.2.2)) hd ⟨hR.2.2.1, hR.2.2.2.1⟩) st.2.1 (fun q _ h => h) (fun q h => h) (fun r u t H1 locs1 ht hvm hp hB hz1 hk1 hS1 => ?_)
  obtain ⟨⟨z, rfl, hq⟩, hag⟩ := hp
  have hB : RepW G u.2.2.2 u.1 u.2.1 u.2.2.1 H1 := ht ▸ hB
  obtain ⟨r1, r2⟩ := st.behind (S' := vl z :: S) hag hB hS1 (fun q => (q.tail.tail.tail).cons trivial)
  have k1 := kk z u.1 u.2.1 u.2.2.1 hq hag.1 ok u.2.2.2 H1 locs1 ls r1
  rw [r2] at k1
  exact k1
theorem x_cSL4 {x : Nat} {mt : MT} {ty : FieldType} {fr lo mc ms : Nat} {v1 v2 v3 v4 : Value} {Q : Int → List Nat → NN → MM → Prop} (hd : decode cc pc = .ok (.invokestatic x, 3)) (hl : Cond.methodLink own x mt.1 ∈ Wd) (hv : VW mt (some ty) 4) (hvv : Cond.static mt.1 ∈ Wd) (sp : SpL G mt ty fr lo mc ms [v1, v2, v3, v4] K N I Q) (hR : fr + 1 ≤ R.frames ∧ 8 + (mt.2.2 + 11) + lo ≤ R.locals ∧ cs + mc ≤ R.cells ∧ ss + ms ≤ R.slots ∧ (S.map fun v => v.category).sum ≤ 8) (kk : ∀ z K1 N1 I1, Q z K1 N1 I1 → (∀ i, i ∈ K → i ∈ K1) → XX G own cc R Fx (pc + 3) L (vl z :: S) K1 N1 I1 (cs + mc) (ss + ms)) : XX G own cc R Fx pc L (v4 :: v3 :: v2 :: v1 :: S) K N I cs ss := by
  obtain ⟨p, e, s, m, args, below, meth, c, Q, nL, a0, K0⟩ := Fx
  intro ok al H locs ls st
  obtain ⟨hx, hb, hml, hown, hts, hE, hA⟩ := id ok
  have okN : okS K [] := fun w hw => nomatch hw
  have hoA : okS K [v1, v2, v3, v4] := by
    have q := st.2.2.2.2.1
    exact ((((okN).cons q.head).cons q.tail.head).cons q.tail.tail.head).cons q.tail.tail.tail.head
  refine va_calll (va_runS (As := [gm al v1, gm al v2, gm al v3, gm al v4]) (rest := S.map (gm al)) ⟨hx, hb, hml, hown, hts⟩ (sp al hoA) ⟨callB_of 4 hts (GoodIn.Wd hv.2.1) rfl rfl rfl (hts _ hv.1) (hts _ hl) hv.2.2 ⟨hR.1, hR.2.1⟩, hts _ hvv⟩ ⟨RepW.blind, fun U hU hW => PcW.at (As := [v1, v2, v3, v4]) hE hA st.2.1 st.1 U hU hW⟩ rfl rfl st.2.2.1.1 rfl (lv_room (by rw [cat_gm]; exact hR.2.2.2.2)) hd ⟨hR.2.2.1, hR.2.2.2.1⟩) st.2.1 (fun q _ h => h) (fun q h => h) (fun r u t H1 locs1 ht hvm hp hB hz1 hk1 hS1 => ?_)
  obtain ⟨⟨z, rfl, hq⟩, hag⟩ := hp
  have hB : RepW G u.2.2.2 u.1 u.2.1 u.2.2.1 H1 := ht ▸ hB
  obtain ⟨r1, r2⟩ := st.behind (S' := vl z :: S) hag hB hS1 (fun q => (q.tail.tail.tail.tail).cons trivial)
  have k1 := kk z u.1 u.2.1 u.2.2.1 hq hag.1 ok u.2.2.2 H1 locs1 ls r1
  rw [r2] at k1
  exact k1
theorem x_cSL5 {x : Nat} {mt : MT} {ty : FieldType} {fr lo mc ms : Nat} {v1 v2 v3 v4 v5 : Value} {Q : Int → List Nat → NN → MM → Prop} (hd : decode cc pc = .ok (.invokestatic x, 3)) (hl : Cond.methodLink own x mt.1 ∈ Wd) (hv : VW mt (some ty) 5) (hvv : Cond.static mt.1 ∈ Wd) (sp : SpL G mt ty fr lo mc ms [v1, v2, v3, v4, v5] K N I Q) (hR : fr + 1 ≤ R.frames ∧ 8 + (mt.2.2 + 11) + lo ≤ R.locals ∧ cs + mc ≤ R.cells ∧ ss + ms ≤ R.slots ∧ (S.map fun v => v.category).sum ≤ 8) (kk : ∀ z K1 N1 I1, Q z K1 N1 I1 → (∀ i, i ∈ K → i ∈ K1) → XX G own cc R Fx (pc + 3) L (vl z :: S) K1 N1 I1 (cs + mc) (ss + ms)) : XX G own cc R Fx pc L (v5 :: v4 :: v3 :: v2 :: v1 :: S) K N I cs ss := by
  obtain ⟨p, e, s, m, args, below, meth, c, Q, nL, a0, K0⟩ := Fx
  intro ok al H locs ls st
  obtain ⟨hx, hb, hml, hown, hts, hE, hA⟩ := id ok
  have okN : okS K [] := fun w hw => nomatch hw
  have hoA : okS K [v1, v2, v3, v4, v5] := by
    have q := st.2.2.2.2.1
    exact (((((okN).cons q.head).cons q.tail.head).cons q.tail.tail.head).cons q.tail.tail.tail.head).cons q.tail.tail.tail.tail.head
  refine va_calll (va_runS (As := [gm al v1, gm al v2, gm al v3, gm al v4, gm al v5]) (rest := S.map (gm al)) ⟨hx, hb, hml, hown, hts⟩ (sp al hoA) ⟨callB_of 5 hts (GoodIn.Wd hv.2.1) rfl rfl rfl (hts _ hv.1) (hts _ hl) hv.2.2 ⟨hR.1, hR.2.1⟩, hts _ hvv⟩ ⟨RepW.blind, fun U hU hW => PcW.at (As := [v1, v2, v3, v4, v5]) hE hA st.2.1 st.1 U hU hW⟩ rfl rfl st.2.2.1.1 rfl (lv_room (by rw [cat_gm]; exact hR.2.2.2.2)) hd ⟨hR.2.2.1, hR.2.2.2.1⟩) st.2.1 (fun q _ h => h) (fun q h => h) (fun r u t H1 locs1 ht hvm hp hB hz1 hk1 hS1 => ?_)
  obtain ⟨⟨z, rfl, hq⟩, hag⟩ := hp
  have hB : RepW G u.2.2.2 u.1 u.2.1 u.2.2.1 H1 := ht ▸ hB
  obtain ⟨r1, r2⟩ := st.behind (S' := vl z :: S) hag hB hS1 (fun q => (q.tail.tail.tail.tail.tail).cons trivial)
  have k1 := kk z u.1 u.2.1 u.2.2.1 hq hag.1 ok u.2.2.2 H1 locs1 ls r1
  rw [r2] at k1
  exact k1
theorem x_cSV1 {x : Nat} {mt : MT} {fr lo mc ms : Nat} {v1 : Value} {Q : List Nat → NN → MM → Prop} (hd : decode cc pc = .ok (.invokestatic x, 3)) (hl : Cond.methodLink own x mt.1 ∈ Wd) (hv : VW mt none 1) (hvv : Cond.static mt.1 ∈ Wd) (sp : SpV G mt fr lo mc ms [v1] K N I Q) (hR : fr + 1 ≤ R.frames ∧ 8 + (mt.2.2 + 11) + lo ≤ R.locals ∧ cs + mc ≤ R.cells ∧ ss + ms ≤ R.slots ∧ (S.map fun v => v.category).sum ≤ 8) (kk : ∀ K1 N1 I1, Q K1 N1 I1 → (∀ i, i ∈ K → i ∈ K1) → XX G own cc R Fx (pc + 3) L S K1 N1 I1 (cs + mc) (ss + ms)) : XX G own cc R Fx pc L (v1 :: S) K N I cs ss := by
  obtain ⟨p, e, s, m, args, below, meth, c, Q, nL, a0, K0⟩ := Fx
  intro ok al H locs ls st
  obtain ⟨hx, hb, hml, hown, hts, hE, hA⟩ := id ok
  have okN : okS K [] := fun w hw => nomatch hw
  have hoA : okS K [v1] := by
    have q := st.2.2.2.2.1
    exact (okN).cons q.head
  refine va_callv (va_runS (As := [gm al v1]) (rest := S.map (gm al)) ⟨hx, hb, hml, hown, hts⟩ (sp al hoA) ⟨callB_of 1 hts (GoodIn.Wd hv.2.1) rfl rfl rfl (hts _ hv.1) (hts _ hl) hv.2.2 ⟨hR.1, hR.2.1⟩, hts _ hvv⟩ ⟨RepW.blind, fun U hU hW => PcW.at (As := [v1]) hE hA st.2.1 st.1 U hU hW⟩ rfl rfl st.2.2.1.1 rfl (lv_room (by rw [cat_gm]; exact hR.2.2.2.2)) hd ⟨hR.2.2.1, hR.2.2.2.1⟩) st.2.1 (fun q _ h => h) (fun q h => h) (fun u t H1 locs1 ht hvm hp hB hz1 hk1 hS1 => ?_)
  obtain ⟨hq, hag⟩ := hp
  have hB : RepW G u.2.2.2 u.1 u.2.1 u.2.2.1 H1 := ht ▸ hB
  obtain ⟨r1, r2⟩ := st.behind hag hB hS1 (fun q => q.tail)
  have k1 := kk u.1 u.2.1 u.2.2.1 hq hag.1 ok u.2.2.2 H1 locs1 ls r1
  rw [r2] at k1
  exact k1
theorem x_cSV2 {x : Nat} {mt : MT} {fr lo mc ms : Nat} {v1 v2 : Value} {Q : List Nat → NN → MM → Prop} (hd : decode cc pc = .ok (.invokestatic x, 3)) (hl : Cond.methodLink own x mt.1 ∈ Wd) (hv : VW mt none 2) (hvv : Cond.static mt.1 ∈ Wd) (sp : SpV G mt fr lo mc ms [v1, v2] K N I Q) (hR : fr + 1 ≤ R.frames ∧ 8 + (mt.2.2 + 11) + lo ≤ R.locals ∧ cs + mc ≤ R.cells ∧ ss + ms ≤ R.slots ∧ (S.map fun v => v.category).sum ≤ 8) (kk : ∀ K1 N1 I1, Q K1 N1 I1 → (∀ i, i ∈ K → i ∈ K1) → XX G own cc R Fx (pc + 3) L S K1 N1 I1 (cs + mc) (ss + ms)) : XX G own cc R Fx pc L (v2 :: v1 :: S) K N I cs ss := by
  obtain ⟨p, e, s, m, args, below, meth, c, Q, nL, a0, K0⟩ := Fx
  intro ok al H locs ls st
  obtain ⟨hx, hb, hml, hown, hts, hE, hA⟩ := id ok
  have okN : okS K [] := fun w hw => nomatch hw
  have hoA : okS K [v1, v2] := by
    have q := st.2.2.2.2.1
    exact ((okN).cons q.head).cons q.tail.head
  refine va_callv (va_runS (As := [gm al v1, gm al v2]) (rest := S.map (gm al)) ⟨hx, hb, hml, hown, hts⟩ (sp al hoA) ⟨callB_of 2 hts (GoodIn.Wd hv.2.1) rfl rfl rfl (hts _ hv.1) (hts _ hl) hv.2.2 ⟨hR.1, hR.2.1⟩, hts _ hvv⟩ ⟨RepW.blind, fun U hU hW => PcW.at (As := [v1, v2]) hE hA st.2.1 st.1 U hU hW⟩ rfl rfl st.2.2.1.1 rfl (lv_room (by rw [cat_gm]; exact hR.2.2.2.2)) hd ⟨hR.2.2.1, hR.2.2.2.1⟩) st.2.1 (fun q _ h => h) (fun q h => h) (fun u t H1 locs1 ht hvm hp hB hz1 hk1 hS1 => ?_)
  obtain ⟨hq, hag⟩ := hp
  have hB : RepW G u.2.2.2 u.1 u.2.1 u.2.2.1 H1 := ht ▸ hB
  obtain ⟨r1, r2⟩ := st.behind hag hB hS1 (fun q => q.tail.tail)
  have k1 := kk u.1 u.2.1 u.2.2.1 hq hag.1 ok u.2.2.2 H1 locs1 ls r1
  rw [r2] at k1
  exact k1
theorem x_cSV3 {x : Nat} {mt : MT} {fr lo mc ms : Nat} {v1 v2 v3 : Value} {Q : List Nat → NN → MM → Prop} (hd : decode cc pc = .ok (.invokestatic x, 3)) (hl : Cond.methodLink own x mt.1 ∈ Wd) (hv : VW mt none 3) (hvv : Cond.static mt.1 ∈ Wd) (sp : SpV G mt fr lo mc ms [v1, v2, v3] K N I Q) (hR : fr + 1 ≤ R.frames ∧ 8 + (mt.2.2 + 11) + lo ≤ R.locals ∧ cs + mc ≤ R.cells ∧ ss + ms ≤ R.slots ∧ (S.map fun v => v.category).sum ≤ 8) (kk : ∀ K1 N1 I1, Q K1 N1 I1 → (∀ i, i ∈ K → i ∈ K1) → XX G own cc R Fx (pc + 3) L S K1 N1 I1 (cs + mc) (ss + ms)) : XX G own cc R Fx pc L (v3 :: v2 :: v1 :: S) K N I cs ss := by
  obtain ⟨p, e, s, m, args, below, meth, c, Q, nL, a0, K0⟩ := Fx
  intro ok al H locs ls st
  obtain ⟨hx, hb, hml, hown, hts, hE, hA⟩ := id ok
  have okN : okS K [] := fun w hw => nomatch hw
  have hoA : okS K [v1, v2, v3] := by
    have q := st.2.2.2.2.1
    exact (((okN).cons q.head).cons q.tail.head).cons q.tail.tail.head
  refine va_callv (va_runS (As := [gm al v1, gm al v2, gm al v3]) (rest := S.map (gm al)) ⟨hx, hb, hml, hown, hts⟩ (sp al hoA) ⟨callB_of 3 hts (GoodIn.Wd hv.2.1) rfl rfl rfl (hts _ hv.1) (hts _ hl) hv.2.2 ⟨hR.1, hR.2.1⟩, hts _ hvv⟩ ⟨RepW.blind, fun U hU hW => PcW.at (As := [v1, v2, v3]) hE hA st.2.1 st.1 U hU hW⟩ rfl rfl st.2.2.1.1 rfl (lv_room (by rw [cat_gm]; exact hR.2.2.2.2)) hd ⟨hR.2.2.1, hR.2.2.2.1⟩) st.2.1 (fun q _ h => h) (fun q h => h) (fun u t H1 locs1 ht hvm hp hB hz1 hk1 hS1 => ?_)
  obtain ⟨hq, hag⟩ := hp
  have hB : RepW G u.2.2.2 u.1 u.2.1 u.2.2.1 H1 := ht ▸ hB
  obtain ⟨r1, r2⟩ := st.behind hag hB hS1 (fun q => q.tail.tail.tail)
  have k1 := kk u.1 u.2.1 u.2.2.1 hq hag.1 ok u.2.2.2 H1 locs1 ls r1
  rw [r2] at k1
  exact k1
theorem x_cSV4 {x : Nat} {mt : MT} {fr lo mc ms : Nat} {v1 v2 v3 v4 : Value} {Q : List Nat → NN → MM → Prop} (hd : decode cc pc = .ok (.invokestatic x, 3)) (hl : Cond.methodLink own x mt.1 ∈ Wd) (hv : VW mt none 4) (hvv : Cond.static mt.1 ∈ Wd) (sp : SpV G mt fr lo mc ms [v1, v2, v3, v4] K N I Q) (hR : fr + 1 ≤ R.frames ∧ 8 + (mt.2.2 + 11) + lo ≤ R.locals ∧ cs + mc ≤ R.cells ∧ ss + ms ≤ R.slots ∧ (S.map fun v => v.category).sum ≤ 8) (kk : ∀ K1 N1 I1, Q K1 N1 I1 → (∀ i, i ∈ K → i ∈ K1) → XX G own cc R Fx (pc + 3) L S K1 N1 I1 (cs + mc) (ss + ms)) : XX G own cc R Fx pc L (v4 :: v3 :: v2 :: v1 :: S) K N I cs ss := by
  obtain ⟨p, e, s, m, args, below, meth, c, Q, nL, a0, K0⟩ := Fx
  intro ok al H locs ls st
  obtain ⟨hx, hb, hml, hown, hts, hE, hA⟩ := id ok
  have okN : okS K [] := fun w hw => nomatch hw
  have hoA : okS K [v1, v2, v3, v4] := by
    have q := st.2.2.2.2.1
    exact ((((okN).cons q.head).cons q.tail.head).cons q.tail.tail.head).cons q.tail.tail.tail.head
  refine va_callv (va_runS (As := [gm al v1, gm al v2, gm al v3, gm al v4]) (rest := S.map (gm al)) ⟨hx, hb, hml, hown, hts⟩ (sp al hoA) ⟨callB_of 4 hts (GoodIn.Wd hv.2.1) rfl rfl rfl (hts _ hv.1) (hts _ hl) hv.2.2 ⟨hR.1, hR.2.1⟩, hts _ hvv⟩ ⟨RepW.blind, fun U hU hW => PcW.at (As := [v1, v2, v3, v4]) hE hA st.2.1 st.1 U hU hW⟩ rfl rfl st.2.2.1.1 rfl (lv_room (by rw [cat_gm]; exact hR.2.2.2.2)) hd ⟨hR.2.2.1, hR.2.2.2.1⟩) st.2.1 (fun q _ h => h) (fun q h => h) (fun u t H1 locs1 ht hvm hp hB hz1 hk1 hS1 => ?_)
  obtain ⟨hq, hag⟩ := hp
  have hB : RepW G u.2.2.2 u.1 u.2.1 u.2.2.1 H1 := ht ▸ hB
  obtain ⟨r1, r2⟩ := st.behind hag hB hS1 (fun q => q.tail.tail.tail.tail)
  have k1 := kk u.1 u.2.1 u.2.2.1 hq hag.1 ok u.2.2.2 H1 locs1 ls r1
  rw [r2] at k1
  exact k1
theorem x_cSV5 {x : Nat} {mt : MT} {fr lo mc ms : Nat} {v1 v2 v3 v4 v5 : Value} {Q : List Nat → NN → MM → Prop} (hd : decode cc pc = .ok (.invokestatic x, 3)) (hl : Cond.methodLink own x mt.1 ∈ Wd) (hv : VW mt none 5) (hvv : Cond.static mt.1 ∈ Wd) (sp : SpV G mt fr lo mc ms [v1, v2, v3, v4, v5] K N I Q) (hR : fr + 1 ≤ R.frames ∧ 8 + (mt.2.2 + 11) + lo ≤ R.locals ∧ cs + mc ≤ R.cells ∧ ss + ms ≤ R.slots ∧ (S.map fun v => v.category).sum ≤ 8) (kk : ∀ K1 N1 I1, Q K1 N1 I1 → (∀ i, i ∈ K → i ∈ K1) → XX G own cc R Fx (pc + 3) L S K1 N1 I1 (cs + mc) (ss + ms)) : XX G own cc R Fx pc L (v5 :: v4 :: v3 :: v2 :: v1 :: S) K N I cs ss := by
  obtain ⟨p, e, s, m, args, below, meth, c, Q, nL, a0, K0⟩ := Fx
  intro ok al H locs ls st
  obtain ⟨hx, hb, hml, hown, hts, hE, hA⟩ := id ok
  have okN : okS K [] := fun w hw => nomatch hw
  have hoA : okS K [v1, v2, v3, v4, v5] := by
    have q := st.2.2.2.2.1
    exact (((((okN).cons q.head).cons q.tail.head).cons q.tail.tail.head).cons q.tail.tail.tail.head).cons q.tail.tail.tail.tail.head
  refine va_callv (va_runS (As := [gm al v1, gm al v2, gm al v3, gm al v4, gm al v5]) (rest := S.map (gm al)) ⟨hx, hb, hml, hown, hts⟩ (sp al hoA) ⟨callB_of 5 hts (GoodIn.Wd hv.2.1) rfl rfl rfl (hts _ hv.1) (hts _ hl) hv.2.2 ⟨hR.1, hR.2.1⟩, hts _ hvv⟩ ⟨RepW.blind, fun U hU hW => PcW.at (As := [v1, v2, v3, v4, v5]) hE hA st.2.1 st.1 U hU hW⟩ rfl rfl st.2.2.1.1 rfl (lv_room (by rw [cat_gm]; exact hR.2.2.2.2)) hd ⟨hR.2.2.1, hR.2.2.2.1⟩) st.2.1 (fun q _ h => h) (fun q h => h) (fun u t H1 locs1 ht hvm hp hB hz1 hk1 hS1 => ?_)
  obtain ⟨hq, hag⟩ := hp
  have hB : RepW G u.2.2.2 u.1 u.2.1 u.2.2.1 H1 := ht ▸ hB
  obtain ⟨r1, r2⟩ := st.behind hag hB hS1 (fun q => q.tail.tail.tail.tail.tail)
  have k1 := kk u.1 u.2.1 u.2.2.1 hq hag.1 ok u.2.2.2 H1 locs1 ls r1
  rw [r2] at k1
  exact k1
theorem x_cIV0 {x : Nat} {mt : MT} {fr lo mc ms : Nat} {i : Nat} {Q : List Nat → NN → MM → Prop} (hd : decode cc pc = .ok (.invokespecial x, 3)) (hl : Cond.methodLink own x mt.1 ∈ Wd) (hv : VW mt none 0) (hvv : Cond.instanceMethod mt.1 ∈ Wd) (hnm : mt.1.name = "<init>") (sp : SpV G mt fr lo mc ms [.ref i] K N I Q) (hR : fr + 1 ≤ R.frames ∧ 8 + (mt.2.2 + 11) + lo ≤ R.locals ∧ cs + mc ≤ R.cells ∧ ss + ms ≤ R.slots ∧ (S.map fun v => v.category).sum ≤ 8) (kk : ∀ K1 N1 I1, Q K1 N1 I1 → (∀ i, i ∈ K → i ∈ K1) → XX G own cc R Fx (pc + 3) L S K1 N1 I1 (cs + mc) (ss + ms)) : XX G own cc R Fx pc L (.ref i :: S) K N I cs ss := by
  obtain ⟨p, e, s, m, args, below, meth, c, Q, nL, a0, K0⟩ := Fx
  intro ok al H locs ls st
  obtain ⟨hx, hb, hml, hown, hts, hE, hA⟩ := id ok
  have okN : okS K [] := fun w hw => nomatch hw
  have hoA : okS K [.ref i] := by
    have q := st.2.2.2.2.1
    exact (okN).cons q.head
  refine va_callv (va_runI (As := []) (rest := S.map (gm al)) (b := al i) ⟨hx, hb, hml, hown, hts⟩ (sp al hoA) ⟨callB_of 0 hts (GoodIn.Wd hv.2.1) rfl rfl rfl (hts _ hv.1) (hts _ hl) hv.2.2 ⟨hR.1, hR.2.1⟩, hnm, hts _ hvv⟩ ⟨RepW.blind, fun U hU hW => PcW.at (As := [.ref i]) hE hA st.2.1 st.1 U hU hW⟩ rfl rfl st.2.2.1.1 rfl (lv_room (by rw [cat_gm]; exact hR.2.2.2.2)) hd ⟨hR.2.2.1, hR.2.2.2.1⟩) st.2.1 (fun q _ h => h) (fun q h => h) (fun u t H1 locs1 ht hvm hp hB hz1 hk1 hS1 => ?_)
  obtain ⟨hq, hag⟩ := hp
  have hB : RepW G u.2.2.2 u.1 u.2.1 u.2.2.1 H1 := ht ▸ hB
  obtain ⟨r1, r2⟩ := st.behind hag hB hS1 (fun q => q.tail)
  have k1 := kk u.1 u.2.1 u.2.2.1 hq hag.1 ok u.2.2.2 H1 locs1 ls r1
  rw [r2] at k1
  exact k1
theorem x_cIN {x i : Nat} {mt : MT} {fr lo mc ms : Nat} {Q : List Nat → NN → MM → Prop} (hd : decode cc pc = .ok (.invokespecial x, 3)) (hl : Cond.methodLinkNest own x mt.1 RX4 ∈ nests) (hv : VW mt none 0) (hvv : Cond.instanceMethod mt.1 ∈ Wd) (hnm : mt.1.name = "<init>") (sp : SpV G mt fr lo mc ms [.ref i] K N I Q) (hR : fr + 1 ≤ R.frames ∧ 8 + (mt.2.2 + 11) + lo ≤ R.locals ∧ cs + mc ≤ R.cells ∧ ss + ms ≤ R.slots ∧ (S.map fun v => v.category).sum ≤ 8) (kk : ∀ K1 N1 I1, Q K1 N1 I1 → (∀ i, i ∈ K → i ∈ K1) → XX G own cc R Fx (pc + 3) L S K1 N1 I1 (cs + mc) (ss + ms)) : XX G own cc R Fx pc L (.ref i :: S) K N I cs ss := by
  obtain ⟨p, e, s, m, args, below, meth, c, Q, nL, a0, K0⟩ := Fx
  intro ok al H locs ls st
  obtain ⟨hx, hb, hml, hown, hts, hE, hA⟩ := id ok
  have okN : okS K [] := fun w hw => nomatch hw
  have hoA : okS K [.ref i] := okN.cons st.2.2.2.2.1.head
  refine va_callv (va_runIN (As := []) (rest := S.map (gm al)) (b := al i) ⟨hx, hb, hml, hown, hts⟩ (sp al hoA) ⟨va_cnB 0 hts (GoodIn.Wd hv.2.1) rfl rfl rfl (hE.2.2.1 _ hl) (hts _ hv.1) hv.2.2 ⟨hR.1, hR.2.1⟩, hnm, hts _ hvv⟩ ⟨RepW.blind, fun U hU hW => PcW.at (As := [.ref i]) hE hA st.2.1 st.1 U hU hW⟩ rfl rfl st.2.2.1.1 rfl (lv_room (by rw [cat_gm]; exact hR.2.2.2.2)) hd ⟨hR.2.2.1, hR.2.2.2.1⟩) st.2.1 (fun q _ h => h) (fun q h => h) (fun u t H1 locs1 ht hvm hp hB hz1 hk1 hS1 => ?_)
  obtain ⟨hq, hag⟩ := hp
  have hB : RepW G u.2.2.2 u.1 u.2.1 u.2.2.1 H1 := ht ▸ hB
  obtain ⟨r1, r2⟩ := st.behind hag hB hS1 (fun q => q.tail)
  have k1 := kk u.1 u.2.1 u.2.2.1 hq hag.1 ok u.2.2.2 H1 locs1 ls r1
  rw [r2] at k1
  exact k1
end FR
/-- a method's locals as it begins -/
def entL (As : List Value) : List (Option Value) := As.flatMap (fun v => if v.category = 2 then [some v, none] else [some v])
theorem entL_at (al : Nat → Nat) : ∀ (As : List Value) (r : List (Option Value)) (q : List Slot), (∀ (i : Nat) (v : Value), r[i]? = some (some v) → q[i]? = some (Slot.val (gm al v))) → ∀ (i : Nat) (v : Value), (entL As ++ r)[i]? = some (some v) → (lg_sl (As.map (gm al)) ++ q)[i]? = some (Slot.val (gm al v))
  | [], r, q, h, i, v, hv => h i v hv
  | a :: As, r, q, h, i, v, hv => by
    have ih := entL_at al As r q h
    by_cases hc : a.category = 2
    · have e1 : entL (a :: As) ++ r = some a :: none :: (entL As ++ r) := by simp [entL, hc]
      have e2 : lg_sl ((a :: As).map (gm al)) ++ q = Slot.val (gm al a) :: Slot.second :: (lg_sl (As.map (gm al)) ++ q) := by simp [lg_sl, gm_cat, hc]
      rw [e1] at hv
      rw [e2]
      match i, hv with
      | 0, hv => cases hv; rfl
      | 1, hv => cases hv
      | i + 2, hv => exact ih i v hv
    · have e1 : entL (a :: As) ++ r = some a :: (entL As ++ r) := by simp [entL, hc]
      have e2 : lg_sl ((a :: As).map (gm al)) ++ q = Slot.val (gm al a) :: (lg_sl (As.map (gm al)) ++ q) := by simp [lg_sl, gm_cat, hc]
      rw [e1] at hv
      rw [e2]
      match i, hv with
      | 0, hv => cases hv; rfl
      | i + 1, hv => exact ih i v hv
theorem entL_len (al : Nat → Nat) : ∀ As : List Value, (lg_sl (As.map (gm al))).length = (entL As).length
  | [] => rfl
  | a :: As => by
    have ih := entL_len al As
    by_cases hc : a.category = 2
    · simp [lg_sl, entL, gm_cat, hc] at ih ⊢; omega
    · simp [lg_sl, entL, gm_cat, hc] at ih ⊢; omega
theorem entL_ok {K : List Nat} : ∀ (As : List Value) (n : Nat), okS K As → okL K (entL As ++ List.replicate n none)
  | [], n, h => fun i v hv => by
    have := List.mem_of_getElem? hv
    simp [entL] at this
  | a :: As, n, h => fun i v hv => by
    have ih := entL_ok As n h.tail
    by_cases hc : a.category = 2
    · have e1 : entL (a :: As) ++ List.replicate n none = some a :: none :: (entL As ++ List.replicate n none) := by simp [entL, hc]
      rw [e1] at hv
      match i, hv with
      | 0, hv => cases hv; exact h.head
      | 1, hv => cases hv
      | i + 2, hv => exact ih i v hv
    · have e1 : entL (a :: As) ++ List.replicate n none = some a :: (entL As ++ List.replicate n none) := by simp [entL, hc]
      rw [e1] at hv
      match i, hv with
      | 0, hv => cases hv; exact h.head
      | i + 1, hv => exact ih i v hv
theorem LocW.entry {al : Nat → Nat} {As : List Value} {n : Nat} (h : (entL As).length ≤ n) : LocW al n ((lg_sl (As.map (gm al)) ++ List.replicate (n - (lg_sl (As.map (gm al))).length) Slot.unset).toArray) (entL As ++ List.replicate (n - (entL As).length) none) := by
  have hl := lv_entry (As.map (gm al)) (n := n) (by rw [entL_len]; exact h)
  refine ⟨hl.1, hl.2.1, by simp; omega, fun i v hv => ?_⟩
  have := entL_at al As (List.replicate (n - (entL As).length) none) (List.replicate (n - (lg_sl (As.map (gm al))).length) Slot.unset) (fun i v hv => by
    have := List.mem_of_getElem? hv
    simp at this) i v hv
  simpa using this

theorem SpI.of {G : GT} {mt : MT} {ty : FieldType} {fr lo mc ms : Nat} {As : List Value} {K : List Nat} {N : NN} {I : MM} {Q : Int → List Nat → NN → MM → Prop} {own : String} {cc : ByteArray} {L : List (Option Value)} (hy : plainName mt.1.cls = true) (ho : mt.1.cls = own) (hc : mt.2.1 = cc) (hlen : (entL As).length ≤ mt.2.2) (hL : entL As ++ List.replicate (mt.2.2 - (entL As).length) none = L)
    (body : ∀ Fx : FxT, Fx.2.2.2.2.2.2.1.name = mt.1.name → (∀ pc L z K1 N1 I1, decode cc pc = .ok (.ireturn, 1) → narrow ty (vi z) = vi z → Q z K1 N1 I1 → XX G own cc (RmW fr lo mc ms) Fx pc L [vi z] K1 N1 I1 mc ms) → XX G own cc (RmW fr lo mc ms) Fx 0 L [] K N I 0 0) : SpI G mt ty fr lo mc ms As K N I Q := by
  intro al hoA
  subst ho; subst hc; subst hL
  refine Met.ofW (cc := mt.2.1) (maxL := mt.2.2) (ret := (some ty)) hy rfl ?_
  intro p e s m args below meth c s₁ B hml hv
  obtain ⟨rfl, hE, hA, hR⟩ := hv
  have hx := B.exec
  have hr := B.returns
  have hts := atoms_spec (ws := Cond.code mt.1 mt.2.1 mt.2.2 (some ty) :: Wd) B.pre
  have hown : s.vm.findClass mt.1.cls = some m.cls := findClass_of_methodNamed B.named
  have hlocks := B.notSynchronized
  have hnm : meth.name = mt.1.name := (name_of_methodNamed B.named B.method).1
  rw [lg_entry_eq]
  have hok : OkW G mt.1.cls mt.2.1 (p, e, s, m, (As.map (gm al)).toArray, below, meth, c, MQ below (QiW G al K Q) (As.map (gm al)).toArray s mc ms (Ab G), mt.2.2, al, K) := ⟨hx, B.bytes, hml, hown, fun w hw => hts w (List.mem_cons_of_mem _ hw), hE, hA⟩
  refine body (p, e, s, m, (As.map (gm al)).toArray, below, meth, c, MQ below (QiW G al K Q) (As.map (gm al)).toArray s mc ms (Ab G), mt.2.2, al, K) hnm ?_ hok al s.heap [] _ ⟨hR, va_S.rf, LocW.entry hlen, entL_ok As _ hoA, fun v hv => (nomatch hv), fun _ _ => rfl, fun _ h => h⟩
  · clear hok
    intro pc L z K1 N1 I1 hd hn hq ok al1 H locs ls st
    exact W.zret hx ok.2.1 hr hn (fun t ht hW => ⟨⟨Int32.ofInt z, (K1, N1, I1, al1), rfl, ⟨⟨z, rfl, hq⟩, st.2.2.2.2.2.2, st.2.2.2.2.2.1⟩, by show RepW G al1 K1 N1 I1 t.heap; rw [ht]; exact st.1⟩, st.2.1.F ht⟩) st.2.1.2.2 hd hlocks
theorem SpL.of {G : GT} {mt : MT} {fr lo mc ms : Nat} {As : List Value} {K : List Nat} {N : NN} {I : MM} {Q : Int → List Nat → NN → MM → Prop} {own : String} {cc : ByteArray} {L : List (Option Value)} (hy : plainName mt.1.cls = true) (ho : mt.1.cls = own) (hc : mt.2.1 = cc) (hlen : (entL As).length ≤ mt.2.2) (hL : entL As ++ List.replicate (mt.2.2 - (entL As).length) none = L)
    (body : ∀ Fx : FxT, Fx.2.2.2.2.2.2.1.name = mt.1.name → (∀ pc L z K1 N1 I1, decode cc pc = .ok (.lreturn, 1) → Q z K1 N1 I1 → XX G own cc (RmW fr lo mc ms) Fx pc L [vl z] K1 N1 I1 mc ms) → XX G own cc (RmW fr lo mc ms) Fx 0 L [] K N I 0 0) : SpL G mt .long fr lo mc ms As K N I Q := by
  intro al hoA
  subst ho; subst hc; subst hL
  refine Met.ofW (cc := mt.2.1) (maxL := mt.2.2) (ret := (some .long)) hy rfl ?_
  intro p e s m args below meth c s₁ B hml hv
  obtain ⟨rfl, hE, hA, hR⟩ := hv
  have hx := B.exec
  have hr := B.returns
  have hts := atoms_spec (ws := Cond.code mt.1 mt.2.1 mt.2.2 (some .long) :: Wd) B.pre
  have hown : s.vm.findClass mt.1.cls = some m.cls := findClass_of_methodNamed B.named
  have hlocks := B.notSynchronized
  have hnm : meth.name = mt.1.name := (name_of_methodNamed B.named B.method).1
  rw [lg_entry_eq]
  have hok : OkW G mt.1.cls mt.2.1 (p, e, s, m, (As.map (gm al)).toArray, below, meth, c, MQ below (QlW G al K Q) (As.map (gm al)).toArray s mc ms (Ab G), mt.2.2, al, K) := ⟨hx, B.bytes, hml, hown, fun w hw => hts w (List.mem_cons_of_mem _ hw), hE, hA⟩
  refine body (p, e, s, m, (As.map (gm al)).toArray, below, meth, c, MQ below (QlW G al K Q) (As.map (gm al)).toArray s mc ms (Ab G), mt.2.2, al, K) hnm ?_ hok al s.heap [] _ ⟨hR, va_S.rf, LocW.entry hlen, entL_ok As _ hoA, fun v hv => (nomatch hv), fun _ _ => rfl, fun _ h => h⟩
  · clear hok
    intro pc L z K1 N1 I1 hd hq ok al1 H locs ls st
    exact W.lret hx ok.2.1 hr (fun t ht hW => ⟨⟨Int64.ofInt z, (K1, N1, I1, al1), rfl, ⟨⟨z, rfl, hq⟩, st.2.2.2.2.2.2, st.2.2.2.2.2.1⟩, by show RepW G al1 K1 N1 I1 t.heap; rw [ht]; exact st.1⟩, st.2.1.F ht⟩) st.2.1.2.2 hd hlocks
theorem SpV.of {G : GT} {mt : MT} {fr lo mc ms : Nat} {As : List Value} {K : List Nat} {N : NN} {I : MM} {Q : List Nat → NN → MM → Prop} {own : String} {cc : ByteArray} {L : List (Option Value)} (hy : plainName mt.1.cls = true) (ho : mt.1.cls = own) (hc : mt.2.1 = cc) (hlen : (entL As).length ≤ mt.2.2) (hL : entL As ++ List.replicate (mt.2.2 - (entL As).length) none = L)
    (body : ∀ Fx : FxT, Fx.2.2.2.2.2.2.1.name = mt.1.name → (∀ pc L K1 N1 I1, decode cc pc = .ok (.return_, 1) → Q K1 N1 I1 → XX G own cc (RmW fr lo mc ms) Fx pc L [] K1 N1 I1 mc ms) → XX G own cc (RmW fr lo mc ms) Fx 0 L [] K N I 0 0) : SpV G mt fr lo mc ms As K N I Q := by
  intro al hoA
  subst ho; subst hc; subst hL
  refine Met.ofW (cc := mt.2.1) (maxL := mt.2.2) (ret := none) hy rfl ?_
  intro p e s m args below meth c s₁ B hml hv
  obtain ⟨rfl, hE, hA, hR⟩ := hv
  have hx := B.exec
  have hr := B.returns
  have hts := atoms_spec (ws := Cond.code mt.1 mt.2.1 mt.2.2 none :: Wd) B.pre
  have hown : s.vm.findClass mt.1.cls = some m.cls := findClass_of_methodNamed B.named
  have hlocks := B.notSynchronized
  have hnm : meth.name = mt.1.name := (name_of_methodNamed B.named B.method).1
  rw [lg_entry_eq]
  have hok : OkW G mt.1.cls mt.2.1 (p, e, s, m, (As.map (gm al)).toArray, below, meth, c, MQ below (QvW G al K Q) (As.map (gm al)).toArray s mc ms (Ab G), mt.2.2, al, K) := ⟨hx, B.bytes, hml, hown, fun w hw => hts w (List.mem_cons_of_mem _ hw), hE, hA⟩
  refine body (p, e, s, m, (As.map (gm al)).toArray, below, meth, c, MQ below (QvW G al K Q) (As.map (gm al)).toArray s mc ms (Ab G), mt.2.2, al, K) hnm ?_ hok al s.heap [] _ ⟨hR, va_S.rf, LocW.entry hlen, entL_ok As _ hoA, fun v hv => (nomatch hv), fun _ _ => rfl, fun _ h => h⟩
  · clear hok
    intro pc L K1 N1 I1 hd hq ok al1 H locs ls st
    exact W.vret hx ok.2.1 hr (fun t ht hW => ⟨⟨(K1, N1, I1, al1), rfl, ⟨hq, st.2.2.2.2.2.2, st.2.2.2.2.2.1⟩, by show RepW G al1 K1 N1 I1 t.heap; rw [ht]; exact st.1⟩, st.2.1.F ht⟩) st.2.1.2.2 hd hlocks
end
section
/-! ===== the words of the tables, by their places ===== -/
theorem ml_RL_9 : Cond.methodLink RL 9 yX4_init ∈ Wd := Wd_in [] 52 (by decide +kernel) rfl
theorem ml_RX4_1 : Cond.methodLink RX4 1 objectInit ∈ Wd := Wd_in [] 55 (by decide +kernel) rfl
theorem ml_RX4_9 : Cond.methodLink RX4 9 yX3_init ∈ Wd := Wd_in [] 60 (by decide +kernel) rfl
theorem ml_RX3_3 : Cond.methodLink RX3 3 objectInit ∈ Wd := Wd_in [] 63 (by decide +kernel) rfl
theorem ml_RX3_27 : Cond.methodLink RX3 27 arraycopyName ∈ Wd := Wd_in [] 66 (by decide +kernel) rfl
theorem ml_RX3_33 : Cond.methodLink RX3 33 yX3_begin ∈ Wd := Wd_in [] 69 (by decide +kernel) rfl
theorem ml_RX2_3 : Cond.methodLink RX2 3 objectInit ∈ Wd := Wd_in [] 112 (by decide +kernel) rfl
theorem ml_RX1_3 : Cond.methodLink RX1 3 objectInit ∈ Wd := Wd_in [] 133 (by decide +kernel) rfl
theorem ml_RX0_3 : Cond.methodLink RX0 3 objectInit ∈ Wd := Wd_in [] 160 (by decide +kernel) rfl
theorem ml_RX0_11 : Cond.methodLink RX0 11 yX3_init ∈ Wd := Wd_in [] 162 (by decide +kernel) rfl
theorem ml_RL_13 : Cond.methodLink RL 13 yX4_farms ∈ Wd := Wd_in [] 226 (by decide +kernel) rfl
theorem ml_RX4_64 : Cond.methodLink RX4 64 yX3_begin ∈ Wd := Wd_in [] 230 (by decide +kernel) rfl
theorem ml_RL_18 : Cond.methodLink RL 18 yX4_farm ∈ Wd := Wd_in [] 231 (by decide +kernel) rfl
theorem ml_RX4_68 : Cond.methodLink RX4 68 yX3_has ∈ Wd := Wd_in [] 235 (by decide +kernel) rfl
theorem ml_RX4_72 : Cond.methodLink RX4 72 yX4_within ∈ Wd := Wd_in [] 239 (by decide +kernel) rfl
theorem ml_RX4_79 : Cond.methodLink RX4 79 yX3_fact ∈ Wd := Wd_in [] 244 (by decide +kernel) rfl
theorem ml_RX4_83 : Cond.methodLink RX4 83 yX3_put ∈ Wd := Wd_in [] 248 (by decide +kernel) rfl
theorem ml_RL_23 : Cond.methodLink RL 23 yX4_set ∈ Wd := Wd_in [] 252 (by decide +kernel) rfl
theorem ml_RL_28 : Cond.methodLink RL 28 yX4_say ∈ Wd := Wd_in [] 258 (by decide +kernel) rfl
theorem ml_RX4_96 : Cond.methodLink RX4 96 yX1_add ∈ Wd := Wd_in [] 262 (by decide +kernel) rfl
theorem ml_RL_32 : Cond.methodLink RL 32 yX4_wipe ∈ Wd := Wd_in [] 266 (by decide +kernel) rfl
theorem ml_RL_37 : Cond.methodLink RL 37 yX4_fault ∈ Wd := Wd_in [] 270 (by decide +kernel) rfl
theorem ml_RX4_99 : Cond.methodLink RX4 99 yX1_read ∈ Wd := Wd_in [] 274 (by decide +kernel) rfl
theorem ml_RX1_28 : Cond.methodLink RX1 28 yX1_actOn ∈ Wd := Wd_in [] 278 (by decide +kernel) rfl
theorem ml_RX1_32 : Cond.methodLink RX1 32 yX1_hourOf ∈ Wd := Wd_in [] 282 (by decide +kernel) rfl
theorem ml_RL_41 : Cond.methodLink RL 41 yX4_judge ∈ Wd := Wd_in [] 285 (by decide +kernel) rfl
theorem ml_RX4_103 : Cond.methodLink RX4 103 yX4_liveDay ∈ Wd := Wd_in [] 289 (by decide +kernel) rfl
theorem ml_RX4_148 : Cond.methodLink RX4 148 yX0_live ∈ Wd := Wd_in [] 293 (by decide +kernel) rfl
theorem ml_RX0_29 : Cond.methodLink RX0 29 yX3_copy ∈ Wd := Wd_in [] 297 (by decide +kernel) rfl
theorem ml_RX0_43 : Cond.methodLink RX0 43 yX0_noteEnough ∈ Wd := Wd_in [] 301 (by decide +kernel) rfl
theorem ml_RX0_79 : Cond.methodLink RX0 79 yX3_lack ∈ Wd := Wd_in [] 305 (by decide +kernel) rfl
theorem ml_RX3_50 : Cond.methodLink RX3 50 yX3_fact ∈ Wd := Wd_in [] 309 (by decide +kernel) rfl
theorem ml_RX3_58 : Cond.methodLink RX3 58 Lib.Math.max.name ∈ Wd := Wd_in [] 310 (by decide +kernel) rfl
theorem ml_RX0_57 : Cond.methodLink RX0 57 yX3_reasonAgainst ∈ Wd := Wd_in [] 313 (by decide +kernel) rfl
theorem ml_RX0_61 : Cond.methodLink RX0 61 yX0_pass ∈ Wd := Wd_in [] 318 (by decide +kernel) rfl
theorem ml_RX0_65 : Cond.methodLink RX0 65 yX3_apply ∈ Wd := Wd_in [] 322 (by decide +kernel) rfl
theorem ml_RX3_70 : Cond.methodLink RX3 70 yX3_turnPlug ∈ Wd := Wd_in [] 326 (by decide +kernel) rfl
theorem ml_RX3_54 : Cond.methodLink RX3 54 yX3_put ∈ Wd := Wd_in [] 330 (by decide +kernel) rfl
theorem ml_RX0_68 : Cond.methodLink RX0 68 yX2_flow ∈ Wd := Wd_in [] 331 (by decide +kernel) rfl
theorem ml_RX2_18 : Cond.methodLink RX2 18 yX3_levelAtSpring ∈ Wd := Wd_in [] 335 (by decide +kernel) rfl
theorem ml_RX2_28 : Cond.methodLink RX2 28 yX3_fact ∈ Wd := Wd_in [] 339 (by decide +kernel) rfl
theorem ml_RX2_32 : Cond.methodLink RX2 32 Lib.Math.max.name ∈ Wd := Wd_in [] 340 (by decide +kernel) rfl
theorem ml_RX2_37 : Cond.methodLink RX2 37 yX3_takesNone ∈ Wd := Wd_in [] 341 (by decide +kernel) rfl
theorem ml_RX2_41 : Cond.methodLink RX2 41 Lib.Math.min.name ∈ Wd := Wd_in [] 345 (by decide +kernel) rfl
theorem ml_RX0_72 : Cond.methodLink RX0 72 yX3_keep ∈ Wd := Wd_in [] 348 (by decide +kernel) rfl
theorem ml_RL_45 : Cond.methodLink RL 45 yX4_behind ∈ Wd := Wd_in [] 352 (by decide +kernel) rfl
theorem ml_RL_49 : Cond.methodLink RL 49 yX4_ditch ∈ Wd := Wd_in [] 358 (by decide +kernel) rfl
theorem ml_RL_53 : Cond.methodLink RL 53 yX4_done ∈ Wd := Wd_in [] 362 (by decide +kernel) rfl
theorem ml_RX4_125 : Cond.methodLink RX4 125 yX3_copy ∈ Wd := Wd_in [] 366 (by decide +kernel) rfl
theorem ml_RL_57 : Cond.methodLink RL 57 yX4_first ∈ Wd := Wd_in [] 367 (by decide +kernel) rfl
theorem ml_RL_61 : Cond.methodLink RL 61 yX4_takes ∈ Wd := Wd_in [] 371 (by decide +kernel) rfl
theorem ml_RX4_135 : Cond.methodLink RX4 135 yX2_flow ∈ Wd := Wd_in [] 375 (by decide +kernel) rfl
theorem ml_RL_65 : Cond.methodLink RL 65 yX4_takesIf ∈ Wd := Wd_in [] 376 (by decide +kernel) rfl
theorem ml_RX4_145 : Cond.methodLink RX4 145 yX3_turnPlug ∈ Wd := Wd_in [] 380 (by decide +kernel) rfl
theorem ml_RL_69 : Cond.methodLink RL 69 yX4_robbed ∈ Wd := Wd_in [] 381 (by decide +kernel) rfl
theorem ml_RL_73 : Cond.methodLink RL 73 yX4_hours ∈ Wd := Wd_in [] 385 (by decide +kernel) rfl
theorem ml_RX4_152 : Cond.methodLink RX4 152 yX3_lack ∈ Wd := Wd_in [] 389 (by decide +kernel) rfl
theorem ml_RX4_155 : Cond.methodLink RX4 155 Lib.Math.max.name ∈ Wd := Wd_in [] 390 (by decide +kernel) rfl
theorem ml_RL_77 : Cond.methodLink RL 77 yX4_spring ∈ Wd := Wd_in [] 391 (by decide +kernel) rfl
theorem ml_RX4_160 : Cond.methodLink RX4 160 yX4_isHours ∈ Wd := Wd_in [] 395 (by decide +kernel) rfl
theorem ml_RX4_163 : Cond.methodLink RX4 163 yX4_allHaveIn ∈ Wd := Wd_in [] 398 (by decide +kernel) rfl
theorem ml_RL_81 : Cond.methodLink RL 81 yX4_narrow ∈ Wd := Wd_in [] 402 (by decide +kernel) rfl
theorem ml_RL_85 : Cond.methodLink RL 85 yX4_highest ∈ Wd := Wd_in [] 406 (by decide +kernel) rfl
theorem ml_RL_89 : Cond.methodLink RL 89 yX4_bored ∈ Wd := Wd_in [] 410 (by decide +kernel) rfl
theorem ml_RX4_166 : Cond.methodLink RX4 166 yX4_takenIfBoredAt ∈ Wd := Wd_in [] 414 (by decide +kernel) rfl
theorem ml_RX4_173 : Cond.methodLink RX4 173 yX3_copyWithNew ∈ Wd := Wd_in [] 418 (by decide +kernel) rfl
theorem ml_RX3_63 : Cond.methodLink RX3 63 yX3_copy ∈ Wd := Wd_in [] 422 (by decide +kernel) rfl
theorem ml_RL_93 : Cond.methodLink RL 93 yX4_fair ∈ Wd := Wd_in [] 423 (by decide +kernel) rfl
theorem ml_RX4_170 : Cond.methodLink RX4 170 yX4_isFair ∈ Wd := Wd_in [] 427 (by decide +kernel) rfl
theorem ml_RL_97 : Cond.methodLink RL 97 yX4_dry ∈ Wd := Wd_in [] 431 (by decide +kernel) rfl
theorem ml_RL_101 : Cond.methodLink RL 101 yX4_seen ∈ Wd := Wd_in [] 435 (by decide +kernel) rfl
theorem ml_RX4_180 : Cond.methodLink RX4 180 yX3_see ∈ Wd := Wd_in [] 439 (by decide +kernel) rfl
theorem ml_RL_105 : Cond.methodLink RL 105 yX4_forget ∈ Wd := Wd_in [] 443 (by decide +kernel) rfl
theorem ml_RL_109 : Cond.methodLink RL 109 yX4_leak ∈ Wd := Wd_in [] 447 (by decide +kernel) rfl
theorem ml_RX4_184 : Cond.methodLink RX4 184 yX4_findLeaks ∈ Wd := Wd_in [] 451 (by decide +kernel) rfl
theorem ml_RX4_193 : Cond.methodLink RX4 193 yX4_fitsIf ∈ Wd := Wd_in [] 455 (by decide +kernel) rfl
theorem ml_RX4_197 : Cond.methodLink RX4 197 yX4_note ∈ Wd := Wd_in [] 459 (by decide +kernel) rfl
theorem ml_RX4_254 : Cond.methodLink RX4 254 yX4_tallyTaken ∈ Wd := Wd_in [] 463 (by decide +kernel) rfl
theorem ml_RX4_187 : Cond.methodLink RX4 187 yX4_foundAt ∈ Wd := Wd_in [] 467 (by decide +kernel) rfl
theorem ml_RL_113 : Cond.methodLink RL 113 yX4_borer ∈ Wd := Wd_in [] 471 (by decide +kernel) rfl
theorem ml_RL_117 : Cond.methodLink RL 117 yX4_listen ∈ Wd := Wd_in [] 475 (by decide +kernel) rfl
theorem ml_RX4_200 : Cond.methodLink RX4 200 yX4_mostLeft ∈ Wd := Wd_in [] 479 (by decide +kernel) rfl
theorem ml_RL_121 : Cond.methodLink RL 121 yX4_rests ∈ Wd := Wd_in [] 483 (by decide +kernel) rfl
theorem ml_RX4_203 : Cond.methodLink RX4 203 yJ6_bitCount_0f7a4 ∈ Wd := Wd_in [] 487 (by decide +kernel) rfl
theorem ml_RX4_208 : Cond.methodLink RX4 208 yX4_gather ∈ Wd := Wd_in [] 493 (by decide +kernel) rfl
theorem ml_RX4_211 : Cond.methodLink RX4 211 yX4_weighRows ∈ Wd := Wd_in [] 497 (by decide +kernel) rfl
theorem ml_RX4_257 : Cond.methodLink RX4 257 yX4_stride ∈ Wd := Wd_in [] 501 (by decide +kernel) rfl
theorem ml_RX4_260 : Cond.methodLink RX4 260 Lib.Math.min.name ∈ Wd := Wd_in [] 504 (by decide +kernel) rfl
theorem ml_RX4_214 : Cond.methodLink RX4 214 yX4_isAtRest ∈ Wd := Wd_in [] 505 (by decide +kernel) rfl
theorem ml_RX4_217 : Cond.methodLink RX4 217 yX4_asDigits ∈ Wd := Wd_in [] 509 (by decide +kernel) rfl
theorem ml_RL_125 : Cond.methodLink RL 125 yX4_frost ∈ Wd := Wd_in [] 512 (by decide +kernel) rfl
theorem ml_RX4_224 : Cond.methodLink RX4 224 yX4_power ∈ Wd := Wd_in [] 518 (by decide +kernel) rfl
theorem ml_RX4_228 : Cond.methodLink RX4 228 yX4_commonDivisor ∈ Wd := Wd_in [] 521 (by decide +kernel) rfl
theorem ml_RX4_263 : Cond.methodLink RX4 263 yJ9_max_f86c9 ∈ Wd := Wd_in [] 524 (by decide +kernel) rfl
theorem ml_RL_130 : Cond.methodLink RL 130 yX4_year ∈ Wd := Wd_in [] 527 (by decide +kernel) rfl
theorem ml_RX4_233 : Cond.methodLink RX4 233 yX4_kindOfDraw ∈ Wd := Wd_in [] 532 (by decide +kernel) rfl
theorem ml_RX4_236 : Cond.methodLink RX4 236 yX2_sum ∈ Wd := Wd_in [] 535 (by decide +kernel) rfl
theorem ml_RX4_242 : Cond.methodLink RX4 242 yX2_someTookNothing ∈ Wd := Wd_in [] 539 (by decide +kernel) rfl
theorem ml_RL_134 : Cond.methodLink RL 134 yX4_image ∈ Wd := Wd_in [] 543 (by decide +kernel) rfl
theorem ml_RL_138 : Cond.methodLink RL 138 yX4_restore ∈ Wd := Wd_in [] 547 (by decide +kernel) rfl
theorem ml_RL_142 : Cond.methodLink RL 142 yX4_told ∈ Wd := Wd_in [] 551 (by decide +kernel) rfl
theorem ml_RX4_245 : Cond.methodLink RX4 245 yX4_toldOfFarm ∈ Wd := Wd_in [] 555 (by decide +kernel) rfl
theorem ml_RL_12 : Cond.methodLink RL 12 yX5_init ∈ Wd := Wd_in [] 561 (by decide +kernel) rfl
theorem ml_RX5_1 : Cond.methodLink RX5 1 objectInit ∈ Wd := Wd_in [] 564 (by decide +kernel) rfl
theorem ml_RX5_69 : Cond.methodLink RX5 69 yX5_begin ∈ Wd := Wd_in [] 565 (by decide +kernel) rfl
theorem ml_RX5_82 : Cond.methodLink RX5 82 yX5_at ∈ Wd := Wd_in [] 569 (by decide +kernel) rfl
theorem ml_RL_17 : Cond.methodLink RL 17 yX5_farms ∈ Wd := Wd_in [] 670 (by decide +kernel) rfl
theorem ml_RX5_86 : Cond.methodLink RX5 86 yX5_in ∈ Wd := Wd_in [] 675 (by decide +kernel) rfl
theorem ml_RL_22 : Cond.methodLink RL 22 yX5_farm ∈ Wd := Wd_in [] 678 (by decide +kernel) rfl
theorem ml_RX5_92 : Cond.methodLink RX5 92 yX5_isFarm ∈ Wd := Wd_in [] 682 (by decide +kernel) rfl
theorem ml_RX5_98 : Cond.methodLink RX5 98 yX5_greatest ∈ Wd := Wd_in [] 687 (by decide +kernel) rfl
theorem ml_RL_27 : Cond.methodLink RL 27 yX5_set ∈ Wd := Wd_in [] 690 (by decide +kernel) rfl
theorem ml_RL_31 : Cond.methodLink RL 31 yX5_say ∈ Wd := Wd_in [] 697 (by decide +kernel) rfl
theorem ml_RL_36 : Cond.methodLink RL 36 yX5_wipe ∈ Wd := Wd_in [] 703 (by decide +kernel) rfl
theorem ml_RL_40 : Cond.methodLink RL 40 yX5_fault ∈ Wd := Wd_in [] 707 (by decide +kernel) rfl
theorem ml_RX5_118 : Cond.methodLink RX5 118 yX5_isDeed ∈ Wd := Wd_in [] 711 (by decide +kernel) rfl
theorem ml_RX5_121 : Cond.methodLink RX5 121 yX5_kindOf ∈ Wd := Wd_in [] 714 (by decide +kernel) rfl
theorem ml_RL_44 : Cond.methodLink RL 44 yX5_judge ∈ Wd := Wd_in [] 717 (by decide +kernel) rfl
theorem ml_RX5_168 : Cond.methodLink RX5 168 yX5_refusal ∈ Wd := Wd_in [] 721 (by decide +kernel) rfl
theorem ml_RX5_155 : Cond.methodLink RX5 155 yX5_fault ∈ Wd := Wd_in [] 725 (by decide +kernel) rfl
theorem ml_RX5_159 : Cond.methodLink RX5 159 yX5_keepNow ∈ Wd := Wd_in [] 726 (by decide +kernel) rfl
theorem ml_RX5_162 : Cond.methodLink RX5 162 yX5_goDay ∈ Wd := Wd_in [] 730 (by decide +kernel) rfl
theorem ml_RX5_146 : Cond.methodLink RX5 146 yX5_lookWhoHas ∈ Wd := Wd_in [] 734 (by decide +kernel) rfl
theorem ml_RX5_149 : Cond.methodLink RX5 149 yX5_passHour ∈ Wd := Wd_in [] 738 (by decide +kernel) rfl
theorem ml_RX5_131 : Cond.methodLink RX5 131 yX5_flow ∈ Wd := Wd_in [] 742 (by decide +kernel) rfl
theorem ml_RX5_124 : Cond.methodLink RX5 124 yX5_takenAt ∈ Wd := Wd_in [] 746 (by decide +kernel) rfl
theorem ml_RX5_152 : Cond.methodLink RX5 152 yX5_deed ∈ Wd := Wd_in [] 750 (by decide +kernel) rfl
theorem ml_RX5_165 : Cond.methodLink RX5 165 yX5_putBack ∈ Wd := Wd_in [] 754 (by decide +kernel) rfl
theorem ml_RL_48 : Cond.methodLink RL 48 yX5_behind ∈ Wd := Wd_in [] 758 (by decide +kernel) rfl
theorem ml_RL_52 : Cond.methodLink RL 52 yX5_ditch ∈ Wd := Wd_in [] 763 (by decide +kernel) rfl
theorem ml_RL_56 : Cond.methodLink RL 56 yX5_done ∈ Wd := Wd_in [] 767 (by decide +kernel) rfl
theorem ml_RL_60 : Cond.methodLink RL 60 yX5_first ∈ Wd := Wd_in [] 771 (by decide +kernel) rfl
theorem ml_RL_64 : Cond.methodLink RL 64 yX5_takes ∈ Wd := Wd_in [] 775 (by decide +kernel) rfl
theorem ml_RL_68 : Cond.methodLink RL 68 yX5_takesIf ∈ Wd := Wd_in [] 779 (by decide +kernel) rfl
theorem ml_RL_72 : Cond.methodLink RL 72 yX5_robbed ∈ Wd := Wd_in [] 783 (by decide +kernel) rfl
theorem ml_RX5_173 : Cond.methodLink RX5 173 yX5_layNow ∈ Wd := Wd_in [] 787 (by decide +kernel) rfl
theorem ml_RL_76 : Cond.methodLink RL 76 yX5_hours ∈ Wd := Wd_in [] 791 (by decide +kernel) rfl
theorem ml_RX5_179 : Cond.methodLink RX5 179 yX5_hoursNow ∈ Wd := Wd_in [] 795 (by decide +kernel) rfl
theorem ml_RX5_176 : Cond.methodLink RX5 176 yX5_wanting ∈ Wd := Wd_in [] 799 (by decide +kernel) rfl
theorem ml_RL_80 : Cond.methodLink RL 80 yX5_spring ∈ Wd := Wd_in [] 803 (by decide +kernel) rfl
theorem ml_RX5_184 : Cond.methodLink RX5 184 yX5_isTerm ∈ Wd := Wd_in [] 807 (by decide +kernel) rfl
theorem ml_RX5_187 : Cond.methodLink RX5 187 yX5_isEnoughIn ∈ Wd := Wd_in [] 811 (by decide +kernel) rfl
theorem ml_RL_84 : Cond.methodLink RL 84 yX5_narrow ∈ Wd := Wd_in [] 815 (by decide +kernel) rfl
theorem ml_RL_88 : Cond.methodLink RL 88 yX5_highest ∈ Wd := Wd_in [] 819 (by decide +kernel) rfl
theorem ml_RL_92 : Cond.methodLink RL 92 yX5_bored ∈ Wd := Wd_in [] 823 (by decide +kernel) rfl
theorem ml_RX5_190 : Cond.methodLink RX5 190 yX5_takesNew ∈ Wd := Wd_in [] 827 (by decide +kernel) rfl
theorem ml_RL_96 : Cond.methodLink RL 96 yX5_fair ∈ Wd := Wd_in [] 831 (by decide +kernel) rfl
theorem ml_RX5_193 : Cond.methodLink RX5 193 yX5_isFairBy ∈ Wd := Wd_in [] 835 (by decide +kernel) rfl
theorem ml_RL_100 : Cond.methodLink RL 100 yX5_dry ∈ Wd := Wd_in [] 839 (by decide +kernel) rfl
theorem ml_RL_104 : Cond.methodLink RL 104 yX5_seen ∈ Wd := Wd_in [] 843 (by decide +kernel) rfl
theorem ml_RL_108 : Cond.methodLink RL 108 yX5_forget ∈ Wd := Wd_in [] 847 (by decide +kernel) rfl
theorem ml_RL_112 : Cond.methodLink RL 112 yX5_leak ∈ Wd := Wd_in [] 851 (by decide +kernel) rfl
theorem ml_RX5_200 : Cond.methodLink RX5 200 yX5_leaksBy ∈ Wd := Wd_in [] 855 (by decide +kernel) rfl
theorem ml_RX5_196 : Cond.methodLink RX5 196 yX5_isHeardSo ∈ Wd := Wd_in [] 859 (by decide +kernel) rfl
theorem ml_RL_116 : Cond.methodLink RL 116 yX5_borer ∈ Wd := Wd_in [] 863 (by decide +kernel) rfl
theorem ml_RL_120 : Cond.methodLink RL 120 yX5_listen ∈ Wd := Wd_in [] 867 (by decide +kernel) rfl
theorem ml_RX5_204 : Cond.methodLink RX5 204 yX5_mostLeftAt ∈ Wd := Wd_in [] 871 (by decide +kernel) rfl
theorem ml_RL_124 : Cond.methodLink RL 124 yX5_rests ∈ Wd := Wd_in [] 875 (by decide +kernel) rfl
theorem ml_RX5_213 : Cond.methodLink RX5 213 yX5_ones ∈ Wd := Wd_in [] 879 (by decide +kernel) rfl
theorem ml_RX5_216 : Cond.methodLink RX5 216 yX5_layMembers ∈ Wd := Wd_in [] 882 (by decide +kernel) rfl
theorem ml_RX5_219 : Cond.methodLink RX5 219 yX5_layWidths ∈ Wd := Wd_in [] 886 (by decide +kernel) rfl
theorem ml_RX5_222 : Cond.methodLink RX5 222 yX5_isRest ∈ Wd := Wd_in [] 890 (by decide +kernel) rfl
theorem ml_RX5_210 : Cond.methodLink RX5 210 yX5_gainOf ∈ Wd := Wd_in [] 894 (by decide +kernel) rfl
theorem ml_RL_129 : Cond.methodLink RL 129 yX5_frost ∈ Wd := Wd_in [] 898 (by decide +kernel) rfl
theorem ml_RX5_233 : Cond.methodLink RX5 233 yX5_power ∈ Wd := Wd_in [] 906 (by decide +kernel) rfl
theorem ml_RX5_237 : Cond.methodLink RX5 237 yX5_lowest ∈ Wd := Wd_in [] 909 (by decide +kernel) rfl
theorem ml_RL_133 : Cond.methodLink RL 133 yX5_year ∈ Wd := Wd_in [] 912 (by decide +kernel) rfl
theorem ml_RX5_249 : Cond.methodLink RX5 249 yX5_kindBy ∈ Wd := Wd_in [] 920 (by decide +kernel) rfl
theorem ml_RL_137 : Cond.methodLink RL 137 yX5_image ∈ Wd := Wd_in [] 923 (by decide +kernel) rfl
theorem ml_RX5_262 : Cond.methodLink RX5 262 yX5_passAll ∈ Wd := Wd_in [] 927 (by decide +kernel) rfl
theorem ml_RX5_259 : Cond.methodLink RX5 259 yX5_pass ∈ Wd := Wd_in [] 931 (by decide +kernel) rfl
theorem ml_RL_141 : Cond.methodLink RL 141 yX5_restore ∈ Wd := Wd_in [] 935 (by decide +kernel) rfl
theorem ml_RL_145 : Cond.methodLink RL 145 yX5_told ∈ Wd := Wd_in [] 939 (by decide +kernel) rfl
theorem fl_RX3_37 : Cond.fieldLink RX3 37 RX3 "count" "I" ∈ Wd := Wd_in [] 75 (by decide +kernel) rfl
theorem fl_RX2_24 : Cond.fieldLink RX2 24 RX3 "count" "I" ∈ Wd := Wd_in [] 76 (by decide +kernel) rfl
theorem fl_RX4_60 : Cond.fieldLink RX4 60 RX3 "count" "I" ∈ Wd := Wd_in [] 77 (by decide +kernel) rfl
theorem fl_RX0_76 : Cond.fieldLink RX0 76 RX3 "count" "I" ∈ Wd := Wd_in [] 78 (by decide +kernel) rfl
theorem fl_RX3_41 : Cond.fieldLink RX3 41 RX3 "ditch" "I" ∈ Wd := Wd_in [] 79 (by decide +kernel) rfl
theorem fl_RX4_122 : Cond.fieldLink RX4 122 RX3 "ditch" "I" ∈ Wd := Wd_in [] 80 (by decide +kernel) rfl
theorem fl_RX3_44 : Cond.fieldLink RX3 44 RX3 "sights" "I" ∈ Wd := Wd_in [] 81 (by decide +kernel) rfl
theorem fl_RX4_177 : Cond.fieldLink RX4 177 RX3 "sights" "I" ∈ Wd := Wd_in [] 82 (by decide +kernel) rfl
theorem fl_RX3_9 : Cond.fieldLink RX3 9 RX3 "facts" "[I" ∈ Wd := Wd_in [] 83 (by decide +kernel) rfl
theorem fl_RX3_15 : Cond.fieldLink RX3 15 RX3 "rates" "[I" ∈ Wd := Wd_in [] 84 (by decide +kernel) rfl
theorem fl_RX4_90 : Cond.fieldLink RX4 90 RX3 "rates" "[I" ∈ Wd := Wd_in [] 85 (by decide +kernel) rfl
theorem fl_RX3_18 : Cond.fieldLink RX3 18 RX3 "sightFarm" "[I" ∈ Wd := Wd_in [] 86 (by decide +kernel) rfl
theorem fl_RX4_248 : Cond.fieldLink RX4 248 RX3 "sightFarm" "[I" ∈ Wd := Wd_in [] 87 (by decide +kernel) rfl
theorem fl_RX3_21 : Cond.fieldLink RX3 21 RX3 "sightTook" "[I" ∈ Wd := Wd_in [] 88 (by decide +kernel) rfl
theorem fl_RX4_251 : Cond.fieldLink RX4 251 RX3 "sightTook" "[I" ∈ Wd := Wd_in [] 89 (by decide +kernel) rfl
theorem fl_RX2_9 : Cond.fieldLink RX2 9 RX2 "taken" "[I" ∈ Wd := Wd_in [] 113 (by decide +kernel) rfl
theorem fl_RX4_139 : Cond.fieldLink RX4 139 RX2 "taken" "[I" ∈ Wd := Wd_in [] 114 (by decide +kernel) rfl
theorem fl_RX3_73 : Cond.fieldLink RX3 73 RX2 "taken" "[I" ∈ Wd := Wd_in [] 115 (by decide +kernel) rfl
theorem fl_RX2_15 : Cond.fieldLink RX2 15 RX2 "levels" "[I" ∈ Wd := Wd_in [] 116 (by decide +kernel) rfl
theorem fl_RX4_142 : Cond.fieldLink RX4 142 RX2 "levels" "[I" ∈ Wd := Wd_in [] 117 (by decide +kernel) rfl
theorem fl_RX2_44 : Cond.fieldLink RX2 44 RX2 "left" "I" ∈ Wd := Wd_in [] 118 (by decide +kernel) rfl
theorem fl_RX3_78 : Cond.fieldLink RX3 78 RX2 "left" "I" ∈ Wd := Wd_in [] 119 (by decide +kernel) rfl
theorem fl_RX4_239 : Cond.fieldLink RX4 239 RX2 "left" "I" ∈ Wd := Wd_in [] 120 (by decide +kernel) rfl
theorem fl_RX1_9 : Cond.fieldLink RX1 9 RX1 "signs" "[I" ∈ Wd := Wd_in [] 134 (by decide +kernel) rfl
theorem fl_RX1_21 : Cond.fieldLink RX1 21 RX1 "length" "I" ∈ Wd := Wd_in [] 135 (by decide +kernel) rfl
theorem fl_RX4_93 : Cond.fieldLink RX4 93 RX1 "length" "I" ∈ Wd := Wd_in [] 136 (by decide +kernel) rfl
theorem fl_RX1_15 : Cond.fieldLink RX1 15 RX1 "acts" "[I" ∈ Wd := Wd_in [] 137 (by decide +kernel) rfl
theorem fl_RX0_51 : Cond.fieldLink RX0 51 RX1 "acts" "[I" ∈ Wd := Wd_in [] 138 (by decide +kernel) rfl
theorem fl_RX1_18 : Cond.fieldLink RX1 18 RX1 "farmOf" "[I" ∈ Wd := Wd_in [] 139 (by decide +kernel) rfl
theorem fl_RX0_54 : Cond.fieldLink RX0 54 RX1 "farmOf" "[I" ∈ Wd := Wd_in [] 140 (by decide +kernel) rfl
theorem fl_RX0_46 : Cond.fieldLink RX0 46 RX1 "parts" "I" ∈ Wd := Wd_in [] 141 (by decide +kernel) rfl
theorem fl_RX1_25 : Cond.fieldLink RX1 25 RX1 "parts" "I" ∈ Wd := Wd_in [] 142 (by decide +kernel) rfl
theorem fl_RX4_129 : Cond.fieldLink RX4 129 RX1 "parts" "I" ∈ Wd := Wd_in [] 143 (by decide +kernel) rfl
theorem fl_RX0_12 : Cond.fieldLink RX0 12 RX0 "row" "LSpringFarms$Row;" ∈ Wd := Wd_in [] 165 (by decide +kernel) rfl
theorem fl_RX4_119 : Cond.fieldLink RX4 119 RX0 "row" "LSpringFarms$Row;" ∈ Wd := Wd_in [] 166 (by decide +kernel) rfl
theorem fl_RX0_21 : Cond.fieldLink RX0 21 RX0 "hour" "LSpringFarms$Hour;" ∈ Wd := Wd_in [] 167 (by decide +kernel) rfl
theorem fl_RX0_25 : Cond.fieldLink RX0 25 RX0 "enoughAt" "[I" ∈ Wd := Wd_in [] 168 (by decide +kernel) rfl
theorem fl_RX4_132 : Cond.fieldLink RX4 132 RX0 "enoughAt" "[I" ∈ Wd := Wd_in [] 169 (by decide +kernel) rfl
theorem fl_RX0_33 : Cond.fieldLink RX0 33 RX0 "badPart" "I" ∈ Wd := Wd_in [] 170 (by decide +kernel) rfl
theorem fl_RX4_107 : Cond.fieldLink RX4 107 RX0 "badPart" "I" ∈ Wd := Wd_in [] 171 (by decide +kernel) rfl
theorem fl_RX0_37 : Cond.fieldLink RX0 37 RX0 "why" "I" ∈ Wd := Wd_in [] 172 (by decide +kernel) rfl
theorem fl_RX4_110 : Cond.fieldLink RX4 110 RX0 "why" "I" ∈ Wd := Wd_in [] 173 (by decide +kernel) rfl
theorem fl_RX0_40 : Cond.fieldLink RX0 40 RX0 "hourCount" "I" ∈ Wd := Wd_in [] 174 (by decide +kernel) rfl
theorem fl_RX4_113 : Cond.fieldLink RX4 113 RX0 "hourCount" "I" ∈ Wd := Wd_in [] 175 (by decide +kernel) rfl
theorem fl_RX4_10 : Cond.fieldLink RX4 10 RX4 "now" "LSpringFarms$Row;" ∈ Wd := Wd_in [] 189 (by decide +kernel) rfl
theorem fl_RX4_16 : Cond.fieldLink RX4 16 RX4 "trial" "LSpringFarms$Row;" ∈ Wd := Wd_in [] 190 (by decide +kernel) rfl
theorem fl_RX4_19 : Cond.fieldLink RX4 19 RX4 "images" "[LSpringFarms$Row;" ∈ Wd := Wd_in [] 191 (by decide +kernel) rfl
theorem fl_RX4_26 : Cond.fieldLink RX4 26 RX4 "asIs" "LSpringFarms$Hour;" ∈ Wd := Wd_in [] 192 (by decide +kernel) rfl
theorem fl_RX4_30 : Cond.fieldLink RX4 30 RX4 "other" "LSpringFarms$Hour;" ∈ Wd := Wd_in [] 193 (by decide +kernel) rfl
theorem fl_RX4_36 : Cond.fieldLink RX4 36 RX4 "day" "LSpringFarms$Day;" ∈ Wd := Wd_in [] 194 (by decide +kernel) rfl
theorem fl_RX4_43 : Cond.fieldLink RX4 43 RX4 "course" "LSpringFarms$Course;" ∈ Wd := Wd_in [] 195 (by decide +kernel) rfl
theorem fl_RX4_47 : Cond.fieldLink RX4 47 RX4 "tally" "[I" ∈ Wd := Wd_in [] 196 (by decide +kernel) rfl
theorem fl_RX4_51 : Cond.fieldLink RX4 51 RX4 "choosers" "[I" ∈ Wd := Wd_in [] 197 (by decide +kernel) rfl
theorem fl_RX4_54 : Cond.fieldLink RX4 54 RX4 "gains" "[I" ∈ Wd := Wd_in [] 198 (by decide +kernel) rfl
theorem fl_RX4_57 : Cond.fieldLink RX4 57 RX4 "found" "[I" ∈ Wd := Wd_in [] 199 (by decide +kernel) rfl
theorem fl_RX4_190 : Cond.fieldLink RX4 190 RX4 "foundCount" "I" ∈ Wd := Wd_in [] 200 (by decide +kernel) rfl
theorem fl_RX4_76 : Cond.fieldLink RX4 76 RX4 "FACT_MOST" "[I" ∈ Wd := Wd_in [] 242 (by decide +kernel) rfl
theorem fl_RX4_87 : Cond.fieldLink RX4 87 RX4 "RATE_MOST" "[I" ∈ Wd := Wd_in [] 256 (by decide +kernel) rfl
theorem fl_RX4_116 : Cond.fieldLink RX4 116 RX4 "FACT_BEHIND" "[I" ∈ Wd := Wd_in [] 356 (by decide +kernel) rfl
theorem fl_RX5_73 : Cond.fieldLink RX5 73 RX5 "farms" "I" ∈ Wd := Wd_in [] 572 (by decide +kernel) rfl
theorem fl_RX5_7 : Cond.fieldLink RX5 7 RX5 "is" "[I" ∈ Wd := Wd_in [] 573 (by decide +kernel) rfl
theorem fl_RX5_66 : Cond.fieldLink RX5 66 RX5 "spring" "I" ∈ Wd := Wd_in [] 574 (by decide +kernel) rfl
theorem fl_RX5_59 : Cond.fieldLink RX5 59 RX5 "rain" "I" ∈ Wd := Wd_in [] 575 (by decide +kernel) rfl
theorem fl_RX5_63 : Cond.fieldLink RX5 63 RX5 "cows" "I" ∈ Wd := Wd_in [] 576 (by decide +kernel) rfl
theorem fl_RX5_76 : Cond.fieldLink RX5 76 RX5 "ditch" "I" ∈ Wd := Wd_in [] 577 (by decide +kernel) rfl
theorem fl_RX5_13 : Cond.fieldLink RX5 13 RX5 "sightFarm" "[I" ∈ Wd := Wd_in [] 578 (by decide +kernel) rfl
theorem fl_RX5_16 : Cond.fieldLink RX5 16 RX5 "sightTook" "[I" ∈ Wd := Wd_in [] 579 (by decide +kernel) rfl
theorem fl_RX5_79 : Cond.fieldLink RX5 79 RX5 "sights" "I" ∈ Wd := Wd_in [] 580 (by decide +kernel) rfl
theorem fl_RX5_19 : Cond.fieldLink RX5 19 RX5 "pad" "[I" ∈ Wd := Wd_in [] 581 (by decide +kernel) rfl
theorem fl_RX5_112 : Cond.fieldLink RX5 112 RX5 "padMany" "I" ∈ Wd := Wd_in [] 582 (by decide +kernel) rfl
theorem fl_RX5_22 : Cond.fieldLink RX5 22 RX5 "part" "[I" ∈ Wd := Wd_in [] 583 (by decide +kernel) rfl
theorem fl_RX5_25 : Cond.fieldLink RX5 25 RX5 "partFarm" "[I" ∈ Wd := Wd_in [] 584 (by decide +kernel) rfl
theorem fl_RX5_115 : Cond.fieldLink RX5 115 RX5 "parts" "I" ∈ Wd := Wd_in [] 585 (by decide +kernel) rfl
theorem fl_RX5_28 : Cond.fieldLink RX5 28 RX5 "took" "[I" ∈ Wd := Wd_in [] 586 (by decide +kernel) rfl
theorem fl_RX5_31 : Cond.fieldLink RX5 31 RX5 "stood" "[I" ∈ Wd := Wd_in [] 587 (by decide +kernel) rfl
theorem fl_RX5_128 : Cond.fieldLink RX5 128 RX5 "left" "I" ∈ Wd := Wd_in [] 588 (by decide +kernel) rfl
theorem fl_RX5_34 : Cond.fieldLink RX5 34 RX5 "had" "[I" ∈ Wd := Wd_in [] 589 (by decide +kernel) rfl
theorem fl_RX5_134 : Cond.fieldLink RX5 134 RX5 "hadDitch" "I" ∈ Wd := Wd_in [] 590 (by decide +kernel) rfl
theorem fl_RX5_140 : Cond.fieldLink RX5 140 RX5 "badPart" "I" ∈ Wd := Wd_in [] 591 (by decide +kernel) rfl
theorem fl_RX5_143 : Cond.fieldLink RX5 143 RX5 "badWhy" "I" ∈ Wd := Wd_in [] 592 (by decide +kernel) rfl
theorem fl_RX5_137 : Cond.fieldLink RX5 137 RX5 "hours" "I" ∈ Wd := Wd_in [] 593 (by decide +kernel) rfl
theorem fl_RX5_37 : Cond.fieldLink RX5 37 RX5 "firstHour" "[I" ∈ Wd := Wd_in [] 594 (by decide +kernel) rfl
theorem fl_RX5_40 : Cond.fieldLink RX5 40 RX5 "now" "[I" ∈ Wd := Wd_in [] 595 (by decide +kernel) rfl
theorem fl_RX5_43 : Cond.fieldLink RX5 43 RX5 "narrow" "[I" ∈ Wd := Wd_in [] 596 (by decide +kernel) rfl
theorem fl_RX5_46 : Cond.fieldLink RX5 46 RX5 "twos" "[I" ∈ Wd := Wd_in [] 597 (by decide +kernel) rfl
theorem fl_RX5_49 : Cond.fieldLink RX5 49 RX5 "member" "[I" ∈ Wd := Wd_in [] 598 (by decide +kernel) rfl
theorem fl_RX5_207 : Cond.fieldLink RX5 207 RX5 "members" "I" ∈ Wd := Wd_in [] 599 (by decide +kernel) rfl
theorem fl_RX5_52 : Cond.fieldLink RX5 52 RX5 "kept" "[I" ∈ Wd := Wd_in [] 600 (by decide +kernel) rfl
theorem fl_RX5_55 : Cond.fieldLink RX5 55 RX5 "isKept" "[Z" ∈ Wd := Wd_in [] 601 (by decide +kernel) rfl
theorem fl_RX5_256 : Cond.fieldLink RX5 256 RX5 "keptAt" "I" ∈ Wd := Wd_in [] 602 (by decide +kernel) rfl
theorem fl_RX5_252 : Cond.fieldLink RX5 252 RX5 "isWriting" "Z" ∈ Wd := Wd_in [] 603 (by decide +kernel) rfl
theorem ini_SpringFarmsLaw : Cond.initialized RL ∈ Wd := Wd_in [] 40 (by decide +kernel) rfl
theorem ini_SpringFarms : Cond.initialized RX4 ∈ Wd := Wd_in [] 41 (by decide +kernel) rfl
theorem ini_SpringFarms_Row : Cond.initialized RX3 ∈ Wd := Wd_in [] 42 (by decide +kernel) rfl
theorem ini_java_lang_System : Cond.initialized RJ10 ∈ Wd := Wd_in [] 43 (by decide +kernel) rfl
theorem ini_SpringFarms_Hour : Cond.initialized RX2 ∈ Wd := Wd_in [] 44 (by decide +kernel) rfl
theorem ini_SpringFarms_Day : Cond.initialized RX1 ∈ Wd := Wd_in [] 45 (by decide +kernel) rfl
theorem ini_SpringFarms_Course : Cond.initialized RX0 ∈ Wd := Wd_in [] 46 (by decide +kernel) rfl
theorem ini_SpringFarmsModel : Cond.initialized RX5 ∈ Wd := Wd_in [] 47 (by decide +kernel) rfl
theorem ini_java_lang_Math : Cond.initialized RJ9 ∈ Wd := Wd_in [] 48 (by decide +kernel) rfl
theorem ini_java_lang_Integer : Cond.initialized RJ6 ∈ Wd := Wd_in [] 49 (by decide +kernel) rfl
theorem cl_RL_7 : Cond.classLink RL 7 RX4 ∈ Wd := Wd_in [] 50 (by decide +kernel) rfl
theorem cl_RX4_7 : Cond.classLink RX4 7 RX3 ∈ Wd := Wd_in [] 58 (by decide +kernel) rfl
theorem cl_RX4_23 : Cond.classLink RX4 23 RX2 ∈ Wd := Wd_in [] 107 (by decide +kernel) rfl
theorem cl_RX4_33 : Cond.classLink RX4 33 RX1 ∈ Wd := Wd_in [] 128 (by decide +kernel) rfl
theorem cl_RX4_40 : Cond.classLink RX4 40 RX0 ∈ Wd := Wd_in [] 155 (by decide +kernel) rfl
theorem cl_RX0_9 : Cond.classLink RX0 9 RX3 ∈ Wd := Wd_in [] 161 (by decide +kernel) rfl
theorem cl_RX0_18 : Cond.classLink RX0 18 RX2 ∈ Wd := Wd_in [] 163 (by decide +kernel) rfl
theorem cl_RL_10 : Cond.classLink RL 10 RX5 ∈ Wd := Wd_in [] 559 (by decide +kernel) rfl
theorem ib_RX4 : Cond.instantiable RX4 12 ∈ Wd := Wd_in [] 51 (by decide +kernel) rfl
theorem ib_RX3 : Cond.instantiable RX3 7 ∈ Wd := Wd_in [] 59 (by decide +kernel) rfl
theorem ib_RX2 : Cond.instantiable RX2 3 ∈ Wd := Wd_in [] 108 (by decide +kernel) rfl
theorem ib_RX1 : Cond.instantiable RX1 5 ∈ Wd := Wd_in [] 129 (by decide +kernel) rfl
theorem ib_RX0 : Cond.instantiable RX0 6 ∈ Wd := Wd_in [] 156 (by decide +kernel) rfl
theorem ib_RX5 : Cond.instantiable RX5 32 ∈ Wd := Wd_in [] 560 (by decide +kernel) rfl
theorem ct_RJ6_265 : Cond.constant RJ6 265 (Int32.ofInt (1431655765)) ∈ Wd := Wd_in [] 490 (by decide +kernel) rfl
theorem ct_RJ6_266 : Cond.constant RJ6 266 (Int32.ofInt (858993459)) ∈ Wd := Wd_in [] 491 (by decide +kernel) rfl
theorem ct_RJ6_267 : Cond.constant RJ6 267 (Int32.ofInt (252645135)) ∈ Wd := Wd_in [] 492 (by decide +kernel) rfl
theorem ct_RX4_232 : Cond.constant RX4 232 (Int32.ofInt (65537)) ∈ Wd := Wd_in [] 531 (by decide +kernel) rfl
theorem ct_RX4_220 : Cond.constantLong RX4 220 (Int64.ofInt (-1000000000000000001)) ∈ Wd := Wd_in [] 516 (by decide +kernel) rfl
theorem ct_RX4_222 : Cond.constantLong RX4 222 (Int64.ofInt (-1000000000000000002)) ∈ Wd := Wd_in [] 517 (by decide +kernel) rfl
theorem ct_RX5_90 : Cond.constantLong RX5 90 (Int64.ofInt (9)) ∈ Wd := Wd_in [] 674 (by decide +kernel) rfl
theorem ct_RX5_96 : Cond.constantLong RX5 96 (Int64.ofInt (6)) ∈ Wd := Wd_in [] 686 (by decide +kernel) rfl
theorem ct_RX5_102 : Cond.constantLong RX5 102 (Int64.ofInt (2)) ∈ Wd := Wd_in [] 694 (by decide +kernel) rfl
theorem ct_RX5_104 : Cond.constantLong RX5 104 (Int64.ofInt (99)) ∈ Wd := Wd_in [] 695 (by decide +kernel) rfl
theorem ct_RX5_106 : Cond.constantLong RX5 106 (Int64.ofInt (50)) ∈ Wd := Wd_in [] 696 (by decide +kernel) rfl
theorem ct_RX5_108 : Cond.constantLong RX5 108 (Int64.ofInt (33)) ∈ Wd := Wd_in [] 701 (by decide +kernel) rfl
theorem ct_RX5_110 : Cond.constantLong RX5 110 (Int64.ofInt (126)) ∈ Wd := Wd_in [] 702 (by decide +kernel) rfl
theorem ct_RX5_171 : Cond.constantLong RX5 171 (Int64.ofInt (3)) ∈ Wd := Wd_in [] 762 (by decide +kernel) rfl
theorem ct_RX5_182 : Cond.constantLong RX5 182 (Int64.ofInt (24)) ∈ Wd := Wd_in [] 810 (by decide +kernel) rfl
theorem ct_RX5_225 : Cond.constantLong RX5 225 (Int64.ofInt (-1000000000000000001)) ∈ Wd := Wd_in [] 902 (by decide +kernel) rfl
theorem ct_RX5_227 : Cond.constantLong RX5 227 (Int64.ofInt (10)) ∈ Wd := Wd_in [] 903 (by decide +kernel) rfl
theorem ct_RX5_229 : Cond.constantLong RX5 229 (Int64.ofInt (12)) ∈ Wd := Wd_in [] 904 (by decide +kernel) rfl
theorem ct_RX5_231 : Cond.constantLong RX5 231 (Int64.ofInt (-1000000000000000002)) ∈ Wd := Wd_in [] 905 (by decide +kernel) rfl
theorem ct_RX5_241 : Cond.constantLong RX5 241 (Int64.ofInt (9999)) ∈ Wd := Wd_in [] 916 (by decide +kernel) rfl
theorem ct_RX5_243 : Cond.constantLong RX5 243 (Int64.ofInt (75)) ∈ Wd := Wd_in [] 917 (by decide +kernel) rfl
theorem ct_RX5_245 : Cond.constantLong RX5 245 (Int64.ofInt (74)) ∈ Wd := Wd_in [] 918 (by decide +kernel) rfl
theorem ct_RX5_247 : Cond.constantLong RX5 247 (Int64.ofInt (65537)) ∈ Wd := Wd_in [] 919 (by decide +kernel) rfl
theorem ac_int : Cond.arrayClass .int ∈ Wd := Wd_in [] 105 (by decide +kernel) rfl
theorem ac_boolean : Cond.arrayClass .boolean ∈ Wd := Wd_in [] 669 (by decide +kernel) rfl
theorem cd_X4_init : Cond.code yX4_init cX4_init 1 none ∈ Wd := Wd_in [] 54 (by decide +kernel) rfl
theorem in_X4_init : Cond.instanceMethod yX4_init ∈ Wd := Wd_in [] 53 (by decide +kernel) rfl
theorem cd_X3_init : Cond.code yX3_init cX3_init 1 none ∈ Wd := Wd_in [] 62 (by decide +kernel) rfl
theorem in_X3_init : Cond.instanceMethod yX3_init ∈ Wd := Wd_in [] 61 (by decide +kernel) rfl
theorem cd_X3_begin : Cond.code yX3_begin cX3_begin 3 none ∈ Wd := Wd_in [] 72 (by decide +kernel) rfl
theorem in_X3_begin : Cond.instanceMethod yX3_begin ∈ Wd := Wd_in [] 70 (by decide +kernel) rfl
theorem se_X3_begin : Cond.selects yX3_begin.cls yX3_begin yX3_begin ∈ Wd := Wd_in [] 71 (by decide +kernel) rfl
theorem cd_X2_init : Cond.code yX2_init cX2_init 1 none ∈ Wd := Wd_in [] 111 (by decide +kernel) rfl
theorem in_X2_init : Cond.instanceMethod yX2_init ∈ Wd := Wd_in [] 110 (by decide +kernel) rfl
theorem cd_X1_init : Cond.code yX1_init cX1_init 1 none ∈ Wd := Wd_in [] 132 (by decide +kernel) rfl
theorem in_X1_init : Cond.instanceMethod yX1_init ∈ Wd := Wd_in [] 131 (by decide +kernel) rfl
theorem cd_X0_init : Cond.code yX0_init cX0_init 1 none ∈ Wd := Wd_in [] 159 (by decide +kernel) rfl
theorem in_X0_init : Cond.instanceMethod yX0_init ∈ Wd := Wd_in [] 158 (by decide +kernel) rfl
theorem cd_X4_farms : Cond.code yX4_farms cX4_farms 3 (some .int) ∈ Wd := Wd_in [] 229 (by decide +kernel) rfl
theorem in_X4_farms : Cond.instanceMethod yX4_farms ∈ Wd := Wd_in [] 227 (by decide +kernel) rfl
theorem se_X4_farms : Cond.selects yX4_farms.cls yX4_farms yX4_farms ∈ Wd := Wd_in [] 228 (by decide +kernel) rfl
theorem cd_X4_farm : Cond.code yX4_farm cX4_farm 5 (some .int) ∈ Wd := Wd_in [] 234 (by decide +kernel) rfl
theorem in_X4_farm : Cond.instanceMethod yX4_farm ∈ Wd := Wd_in [] 232 (by decide +kernel) rfl
theorem se_X4_farm : Cond.selects yX4_farm.cls yX4_farm yX4_farm ∈ Wd := Wd_in [] 233 (by decide +kernel) rfl
theorem cd_X3_has : Cond.code yX3_has cX3_has 2 (some .boolean) ∈ Wd := Wd_in [] 238 (by decide +kernel) rfl
theorem in_X3_has : Cond.instanceMethod yX3_has ∈ Wd := Wd_in [] 236 (by decide +kernel) rfl
theorem se_X3_has : Cond.selects yX3_has.cls yX3_has yX3_has ∈ Wd := Wd_in [] 237 (by decide +kernel) rfl
theorem cd_X4_within : Cond.code yX4_within cX4_within 2 (some .boolean) ∈ Wd := Wd_in [] 241 (by decide +kernel) rfl
theorem st_X4_within : Cond.static yX4_within ∈ Wd := Wd_in [] 240 (by decide +kernel) rfl
theorem cd_X3_fact : Cond.code yX3_fact cX3_fact 3 (some .int) ∈ Wd := Wd_in [] 247 (by decide +kernel) rfl
theorem in_X3_fact : Cond.instanceMethod yX3_fact ∈ Wd := Wd_in [] 245 (by decide +kernel) rfl
theorem se_X3_fact : Cond.selects yX3_fact.cls yX3_fact yX3_fact ∈ Wd := Wd_in [] 246 (by decide +kernel) rfl
theorem cd_X3_put : Cond.code yX3_put cX3_put 4 none ∈ Wd := Wd_in [] 251 (by decide +kernel) rfl
theorem in_X3_put : Cond.instanceMethod yX3_put ∈ Wd := Wd_in [] 249 (by decide +kernel) rfl
theorem se_X3_put : Cond.selects yX3_put.cls yX3_put yX3_put ∈ Wd := Wd_in [] 250 (by decide +kernel) rfl
theorem cd_X4_set : Cond.code yX4_set cX4_set 4 (some .int) ∈ Wd := Wd_in [] 255 (by decide +kernel) rfl
theorem in_X4_set : Cond.instanceMethod yX4_set ∈ Wd := Wd_in [] 253 (by decide +kernel) rfl
theorem se_X4_set : Cond.selects yX4_set.cls yX4_set yX4_set ∈ Wd := Wd_in [] 254 (by decide +kernel) rfl
theorem cd_X4_say : Cond.code yX4_say cX4_say 2 (some .int) ∈ Wd := Wd_in [] 261 (by decide +kernel) rfl
theorem in_X4_say : Cond.instanceMethod yX4_say ∈ Wd := Wd_in [] 259 (by decide +kernel) rfl
theorem se_X4_say : Cond.selects yX4_say.cls yX4_say yX4_say ∈ Wd := Wd_in [] 260 (by decide +kernel) rfl
theorem cd_X1_add : Cond.code yX1_add cX1_add 2 none ∈ Wd := Wd_in [] 265 (by decide +kernel) rfl
theorem in_X1_add : Cond.instanceMethod yX1_add ∈ Wd := Wd_in [] 263 (by decide +kernel) rfl
theorem se_X1_add : Cond.selects yX1_add.cls yX1_add yX1_add ∈ Wd := Wd_in [] 264 (by decide +kernel) rfl
theorem cd_X4_wipe : Cond.code yX4_wipe cX4_wipe 2 (some .int) ∈ Wd := Wd_in [] 269 (by decide +kernel) rfl
theorem in_X4_wipe : Cond.instanceMethod yX4_wipe ∈ Wd := Wd_in [] 267 (by decide +kernel) rfl
theorem se_X4_wipe : Cond.selects yX4_wipe.cls yX4_wipe yX4_wipe ∈ Wd := Wd_in [] 268 (by decide +kernel) rfl
theorem cd_X4_fault : Cond.code yX4_fault cX4_fault 1 (some .int) ∈ Wd := Wd_in [] 273 (by decide +kernel) rfl
theorem in_X4_fault : Cond.instanceMethod yX4_fault ∈ Wd := Wd_in [] 271 (by decide +kernel) rfl
theorem se_X4_fault : Cond.selects yX4_fault.cls yX4_fault yX4_fault ∈ Wd := Wd_in [] 272 (by decide +kernel) rfl
theorem cd_X1_read : Cond.code yX1_read cX1_read 7 (some .int) ∈ Wd := Wd_in [] 277 (by decide +kernel) rfl
theorem in_X1_read : Cond.instanceMethod yX1_read ∈ Wd := Wd_in [] 275 (by decide +kernel) rfl
theorem se_X1_read : Cond.selects yX1_read.cls yX1_read yX1_read ∈ Wd := Wd_in [] 276 (by decide +kernel) rfl
theorem cd_X1_actOn : Cond.code yX1_actOn cX1_actOn 2 (some .int) ∈ Wd := Wd_in [] 281 (by decide +kernel) rfl
theorem in_X1_actOn : Cond.instanceMethod yX1_actOn ∈ Wd := Wd_in [] 279 (by decide +kernel) rfl
theorem se_X1_actOn : Cond.selects yX1_actOn.cls yX1_actOn yX1_actOn ∈ Wd := Wd_in [] 280 (by decide +kernel) rfl
theorem cd_X1_hourOf : Cond.code yX1_hourOf cX1_hourOf 1 (some .int) ∈ Wd := Wd_in [] 284 (by decide +kernel) rfl
theorem st_X1_hourOf : Cond.static yX1_hourOf ∈ Wd := Wd_in [] 283 (by decide +kernel) rfl
theorem cd_X4_judge : Cond.code yX4_judge cX4_judge 3 (some .int) ∈ Wd := Wd_in [] 288 (by decide +kernel) rfl
theorem in_X4_judge : Cond.instanceMethod yX4_judge ∈ Wd := Wd_in [] 286 (by decide +kernel) rfl
theorem se_X4_judge : Cond.selects yX4_judge.cls yX4_judge yX4_judge ∈ Wd := Wd_in [] 287 (by decide +kernel) rfl
theorem cd_X4_liveDay : Cond.code yX4_liveDay cX4_liveDay 1 (some .int) ∈ Wd := Wd_in [] 292 (by decide +kernel) rfl
theorem in_X4_liveDay : Cond.instanceMethod yX4_liveDay ∈ Wd := Wd_in [] 291 (by decide +kernel) rfl
theorem se_X4_liveDay : Cond.selects yX4_liveDay.cls yX4_liveDay yX4_liveDay ∈ Wd := Wd_in [] 0 (by decide +kernel) rfl
theorem cd_X0_live : Cond.code yX0_live cX0_live 5 none ∈ Wd := Wd_in [] 296 (by decide +kernel) rfl
theorem in_X0_live : Cond.instanceMethod yX0_live ∈ Wd := Wd_in [] 294 (by decide +kernel) rfl
theorem se_X0_live : Cond.selects yX0_live.cls yX0_live yX0_live ∈ Wd := Wd_in [] 295 (by decide +kernel) rfl
theorem cd_X3_copy : Cond.code yX3_copy cX3_copy 2 none ∈ Wd := Wd_in [] 300 (by decide +kernel) rfl
theorem in_X3_copy : Cond.instanceMethod yX3_copy ∈ Wd := Wd_in [] 298 (by decide +kernel) rfl
theorem se_X3_copy : Cond.selects yX3_copy.cls yX3_copy yX3_copy ∈ Wd := Wd_in [] 299 (by decide +kernel) rfl
theorem cd_X0_noteEnough : Cond.code yX0_noteEnough cX0_noteEnough 2 none ∈ Wd := Wd_in [] 304 (by decide +kernel) rfl
theorem in_X0_noteEnough : Cond.instanceMethod yX0_noteEnough ∈ Wd := Wd_in [] 302 (by decide +kernel) rfl
theorem se_X0_noteEnough : Cond.selects yX0_noteEnough.cls yX0_noteEnough yX0_noteEnough ∈ Wd := Wd_in [] 303 (by decide +kernel) rfl
theorem cd_X3_lack : Cond.code yX3_lack cX3_lack 2 (some .int) ∈ Wd := Wd_in [] 308 (by decide +kernel) rfl
theorem in_X3_lack : Cond.instanceMethod yX3_lack ∈ Wd := Wd_in [] 306 (by decide +kernel) rfl
theorem se_X3_lack : Cond.selects yX3_lack.cls yX3_lack yX3_lack ∈ Wd := Wd_in [] 307 (by decide +kernel) rfl
theorem cd_J9_max_7cf53 : Cond.code yJ9_max_7cf53 cJ9_max_7cf53 2 (some .int) ∈ Wd := Wd_in [] 312 (by decide +kernel) rfl
theorem st_J9_max_7cf53 : Cond.static yJ9_max_7cf53 ∈ Wd := Wd_in [] 311 (by decide +kernel) rfl
theorem cd_X3_reasonAgainst : Cond.code yX3_reasonAgainst cX3_reasonAgainst 3 (some .int) ∈ Wd := Wd_in [] 316 (by decide +kernel) rfl
theorem in_X3_reasonAgainst : Cond.instanceMethod yX3_reasonAgainst ∈ Wd := Wd_in [] 314 (by decide +kernel) rfl
theorem se_X3_reasonAgainst : Cond.selects yX3_reasonAgainst.cls yX3_reasonAgainst yX3_reasonAgainst ∈ Wd := Wd_in [] 315 (by decide +kernel) rfl
theorem cd_X0_pass : Cond.code yX0_pass cX0_pass 3 none ∈ Wd := Wd_in [] 321 (by decide +kernel) rfl
theorem in_X0_pass : Cond.instanceMethod yX0_pass ∈ Wd := Wd_in [] 319 (by decide +kernel) rfl
theorem se_X0_pass : Cond.selects yX0_pass.cls yX0_pass yX0_pass ∈ Wd := Wd_in [] 320 (by decide +kernel) rfl
theorem cd_X3_apply : Cond.code yX3_apply cX3_apply 3 none ∈ Wd := Wd_in [] 325 (by decide +kernel) rfl
theorem in_X3_apply : Cond.instanceMethod yX3_apply ∈ Wd := Wd_in [] 323 (by decide +kernel) rfl
theorem se_X3_apply : Cond.selects yX3_apply.cls yX3_apply yX3_apply ∈ Wd := Wd_in [] 324 (by decide +kernel) rfl
theorem cd_X3_turnPlug : Cond.code yX3_turnPlug cX3_turnPlug 2 none ∈ Wd := Wd_in [] 329 (by decide +kernel) rfl
theorem in_X3_turnPlug : Cond.instanceMethod yX3_turnPlug ∈ Wd := Wd_in [] 327 (by decide +kernel) rfl
theorem se_X3_turnPlug : Cond.selects yX3_turnPlug.cls yX3_turnPlug yX3_turnPlug ∈ Wd := Wd_in [] 328 (by decide +kernel) rfl
theorem cd_X2_flow : Cond.code yX2_flow cX2_flow 6 none ∈ Wd := Wd_in [] 334 (by decide +kernel) rfl
theorem in_X2_flow : Cond.instanceMethod yX2_flow ∈ Wd := Wd_in [] 332 (by decide +kernel) rfl
theorem se_X2_flow : Cond.selects yX2_flow.cls yX2_flow yX2_flow ∈ Wd := Wd_in [] 333 (by decide +kernel) rfl
theorem cd_X3_levelAtSpring : Cond.code yX3_levelAtSpring cX3_levelAtSpring 3 (some .int) ∈ Wd := Wd_in [] 338 (by decide +kernel) rfl
theorem in_X3_levelAtSpring : Cond.instanceMethod yX3_levelAtSpring ∈ Wd := Wd_in [] 336 (by decide +kernel) rfl
theorem se_X3_levelAtSpring : Cond.selects yX3_levelAtSpring.cls yX3_levelAtSpring yX3_levelAtSpring ∈ Wd := Wd_in [] 337 (by decide +kernel) rfl
theorem cd_X3_takesNone : Cond.code yX3_takesNone cX3_takesNone 3 (some .boolean) ∈ Wd := Wd_in [] 344 (by decide +kernel) rfl
theorem in_X3_takesNone : Cond.instanceMethod yX3_takesNone ∈ Wd := Wd_in [] 342 (by decide +kernel) rfl
theorem se_X3_takesNone : Cond.selects yX3_takesNone.cls yX3_takesNone yX3_takesNone ∈ Wd := Wd_in [] 343 (by decide +kernel) rfl
theorem cd_J9_min_7cf53 : Cond.code yJ9_min_7cf53 cJ9_min_7cf53 2 (some .int) ∈ Wd := Wd_in [] 347 (by decide +kernel) rfl
theorem st_J9_min_7cf53 : Cond.static yJ9_min_7cf53 ∈ Wd := Wd_in [] 346 (by decide +kernel) rfl
theorem cd_X3_keep : Cond.code yX3_keep cX3_keep 3 none ∈ Wd := Wd_in [] 351 (by decide +kernel) rfl
theorem in_X3_keep : Cond.instanceMethod yX3_keep ∈ Wd := Wd_in [] 349 (by decide +kernel) rfl
theorem se_X3_keep : Cond.selects yX3_keep.cls yX3_keep yX3_keep ∈ Wd := Wd_in [] 350 (by decide +kernel) rfl
theorem cd_X4_behind : Cond.code yX4_behind cX4_behind 4 (some .int) ∈ Wd := Wd_in [] 355 (by decide +kernel) rfl
theorem in_X4_behind : Cond.instanceMethod yX4_behind ∈ Wd := Wd_in [] 353 (by decide +kernel) rfl
theorem se_X4_behind : Cond.selects yX4_behind.cls yX4_behind yX4_behind ∈ Wd := Wd_in [] 354 (by decide +kernel) rfl
theorem cd_X4_ditch : Cond.code yX4_ditch cX4_ditch 2 (some .int) ∈ Wd := Wd_in [] 361 (by decide +kernel) rfl
theorem in_X4_ditch : Cond.instanceMethod yX4_ditch ∈ Wd := Wd_in [] 359 (by decide +kernel) rfl
theorem se_X4_ditch : Cond.selects yX4_ditch.cls yX4_ditch yX4_ditch ∈ Wd := Wd_in [] 360 (by decide +kernel) rfl
theorem cd_X4_done : Cond.code yX4_done cX4_done 2 (some .int) ∈ Wd := Wd_in [] 365 (by decide +kernel) rfl
theorem in_X4_done : Cond.instanceMethod yX4_done ∈ Wd := Wd_in [] 363 (by decide +kernel) rfl
theorem se_X4_done : Cond.selects yX4_done.cls yX4_done yX4_done ∈ Wd := Wd_in [] 364 (by decide +kernel) rfl
theorem cd_X4_first : Cond.code yX4_first cX4_first 3 (some .int) ∈ Wd := Wd_in [] 370 (by decide +kernel) rfl
theorem in_X4_first : Cond.instanceMethod yX4_first ∈ Wd := Wd_in [] 368 (by decide +kernel) rfl
theorem se_X4_first : Cond.selects yX4_first.cls yX4_first yX4_first ∈ Wd := Wd_in [] 369 (by decide +kernel) rfl
theorem cd_X4_takes : Cond.code yX4_takes cX4_takes 3 (some .int) ∈ Wd := Wd_in [] 374 (by decide +kernel) rfl
theorem in_X4_takes : Cond.instanceMethod yX4_takes ∈ Wd := Wd_in [] 372 (by decide +kernel) rfl
theorem se_X4_takes : Cond.selects yX4_takes.cls yX4_takes yX4_takes ∈ Wd := Wd_in [] 373 (by decide +kernel) rfl
theorem cd_X4_takesIf : Cond.code yX4_takesIf cX4_takesIf 3 (some .int) ∈ Wd := Wd_in [] 379 (by decide +kernel) rfl
theorem in_X4_takesIf : Cond.instanceMethod yX4_takesIf ∈ Wd := Wd_in [] 377 (by decide +kernel) rfl
theorem se_X4_takesIf : Cond.selects yX4_takesIf.cls yX4_takesIf yX4_takesIf ∈ Wd := Wd_in [] 378 (by decide +kernel) rfl
theorem cd_X4_robbed : Cond.code yX4_robbed cX4_robbed 4 (some .int) ∈ Wd := Wd_in [] 384 (by decide +kernel) rfl
theorem in_X4_robbed : Cond.instanceMethod yX4_robbed ∈ Wd := Wd_in [] 382 (by decide +kernel) rfl
theorem se_X4_robbed : Cond.selects yX4_robbed.cls yX4_robbed yX4_robbed ∈ Wd := Wd_in [] 383 (by decide +kernel) rfl
theorem cd_X4_hours : Cond.code yX4_hours cX4_hours 5 (some .int) ∈ Wd := Wd_in [] 388 (by decide +kernel) rfl
theorem in_X4_hours : Cond.instanceMethod yX4_hours ∈ Wd := Wd_in [] 386 (by decide +kernel) rfl
theorem se_X4_hours : Cond.selects yX4_hours.cls yX4_hours yX4_hours ∈ Wd := Wd_in [] 387 (by decide +kernel) rfl
theorem cd_X4_spring : Cond.code yX4_spring cX4_spring 3 (some .int) ∈ Wd := Wd_in [] 394 (by decide +kernel) rfl
theorem in_X4_spring : Cond.instanceMethod yX4_spring ∈ Wd := Wd_in [] 392 (by decide +kernel) rfl
theorem se_X4_spring : Cond.selects yX4_spring.cls yX4_spring yX4_spring ∈ Wd := Wd_in [] 393 (by decide +kernel) rfl
theorem cd_X4_isHours : Cond.code yX4_isHours cX4_isHours 1 (some .boolean) ∈ Wd := Wd_in [] 397 (by decide +kernel) rfl
theorem st_X4_isHours : Cond.static yX4_isHours ∈ Wd := Wd_in [] 396 (by decide +kernel) rfl
theorem cd_X4_allHaveIn : Cond.code yX4_allHaveIn cX4_allHaveIn 3 (some .boolean) ∈ Wd := Wd_in [] 401 (by decide +kernel) rfl
theorem in_X4_allHaveIn : Cond.instanceMethod yX4_allHaveIn ∈ Wd := Wd_in [] 400 (by decide +kernel) rfl
theorem se_X4_allHaveIn : Cond.selects yX4_allHaveIn.cls yX4_allHaveIn yX4_allHaveIn ∈ Wd := Wd_in [] 1 (by decide +kernel) rfl
theorem cd_X4_narrow : Cond.code yX4_narrow cX4_narrow 6 (some .int) ∈ Wd := Wd_in [] 405 (by decide +kernel) rfl
theorem in_X4_narrow : Cond.instanceMethod yX4_narrow ∈ Wd := Wd_in [] 403 (by decide +kernel) rfl
theorem se_X4_narrow : Cond.selects yX4_narrow.cls yX4_narrow yX4_narrow ∈ Wd := Wd_in [] 404 (by decide +kernel) rfl
theorem cd_X4_highest : Cond.code yX4_highest cX4_highest 4 (some .int) ∈ Wd := Wd_in [] 409 (by decide +kernel) rfl
theorem in_X4_highest : Cond.instanceMethod yX4_highest ∈ Wd := Wd_in [] 407 (by decide +kernel) rfl
theorem se_X4_highest : Cond.selects yX4_highest.cls yX4_highest yX4_highest ∈ Wd := Wd_in [] 408 (by decide +kernel) rfl
theorem cd_X4_bored : Cond.code yX4_bored cX4_bored 8 (some .int) ∈ Wd := Wd_in [] 413 (by decide +kernel) rfl
theorem in_X4_bored : Cond.instanceMethod yX4_bored ∈ Wd := Wd_in [] 411 (by decide +kernel) rfl
theorem se_X4_bored : Cond.selects yX4_bored.cls yX4_bored yX4_bored ∈ Wd := Wd_in [] 412 (by decide +kernel) rfl
theorem cd_X4_takenIfBoredAt : Cond.code yX4_takenIfBoredAt cX4_takenIfBoredAt 6 (some .int) ∈ Wd := Wd_in [] 417 (by decide +kernel) rfl
theorem in_X4_takenIfBoredAt : Cond.instanceMethod yX4_takenIfBoredAt ∈ Wd := Wd_in [] 416 (by decide +kernel) rfl
theorem se_X4_takenIfBoredAt : Cond.selects yX4_takenIfBoredAt.cls yX4_takenIfBoredAt yX4_takenIfBoredAt ∈ Wd := Wd_in [] 2 (by decide +kernel) rfl
theorem cd_X3_copyWithNew : Cond.code yX3_copyWithNew cX3_copyWithNew 6 none ∈ Wd := Wd_in [] 421 (by decide +kernel) rfl
theorem in_X3_copyWithNew : Cond.instanceMethod yX3_copyWithNew ∈ Wd := Wd_in [] 419 (by decide +kernel) rfl
theorem se_X3_copyWithNew : Cond.selects yX3_copyWithNew.cls yX3_copyWithNew yX3_copyWithNew ∈ Wd := Wd_in [] 420 (by decide +kernel) rfl
theorem cd_X4_fair : Cond.code yX4_fair cX4_fair 2 (some .int) ∈ Wd := Wd_in [] 426 (by decide +kernel) rfl
theorem in_X4_fair : Cond.instanceMethod yX4_fair ∈ Wd := Wd_in [] 424 (by decide +kernel) rfl
theorem se_X4_fair : Cond.selects yX4_fair.cls yX4_fair yX4_fair ∈ Wd := Wd_in [] 425 (by decide +kernel) rfl
theorem cd_X4_isFair : Cond.code yX4_isFair cX4_isFair 3 (some .boolean) ∈ Wd := Wd_in [] 430 (by decide +kernel) rfl
theorem in_X4_isFair : Cond.instanceMethod yX4_isFair ∈ Wd := Wd_in [] 429 (by decide +kernel) rfl
theorem se_X4_isFair : Cond.selects yX4_isFair.cls yX4_isFair yX4_isFair ∈ Wd := Wd_in [] 3 (by decide +kernel) rfl
theorem cd_X4_dry : Cond.code yX4_dry cX4_dry 3 (some .int) ∈ Wd := Wd_in [] 434 (by decide +kernel) rfl
theorem in_X4_dry : Cond.instanceMethod yX4_dry ∈ Wd := Wd_in [] 432 (by decide +kernel) rfl
theorem se_X4_dry : Cond.selects yX4_dry.cls yX4_dry yX4_dry ∈ Wd := Wd_in [] 433 (by decide +kernel) rfl
theorem cd_X4_seen : Cond.code yX4_seen cX4_seen 3 (some .int) ∈ Wd := Wd_in [] 438 (by decide +kernel) rfl
theorem in_X4_seen : Cond.instanceMethod yX4_seen ∈ Wd := Wd_in [] 436 (by decide +kernel) rfl
theorem se_X4_seen : Cond.selects yX4_seen.cls yX4_seen yX4_seen ∈ Wd := Wd_in [] 437 (by decide +kernel) rfl
theorem cd_X3_see : Cond.code yX3_see cX3_see 3 none ∈ Wd := Wd_in [] 442 (by decide +kernel) rfl
theorem in_X3_see : Cond.instanceMethod yX3_see ∈ Wd := Wd_in [] 440 (by decide +kernel) rfl
theorem se_X3_see : Cond.selects yX3_see.cls yX3_see yX3_see ∈ Wd := Wd_in [] 441 (by decide +kernel) rfl
theorem cd_X4_forget : Cond.code yX4_forget cX4_forget 2 (some .int) ∈ Wd := Wd_in [] 446 (by decide +kernel) rfl
theorem in_X4_forget : Cond.instanceMethod yX4_forget ∈ Wd := Wd_in [] 444 (by decide +kernel) rfl
theorem se_X4_forget : Cond.selects yX4_forget.cls yX4_forget yX4_forget ∈ Wd := Wd_in [] 445 (by decide +kernel) rfl
theorem cd_X4_leak : Cond.code yX4_leak cX4_leak 2 (some .int) ∈ Wd := Wd_in [] 450 (by decide +kernel) rfl
theorem in_X4_leak : Cond.instanceMethod yX4_leak ∈ Wd := Wd_in [] 448 (by decide +kernel) rfl
theorem se_X4_leak : Cond.selects yX4_leak.cls yX4_leak yX4_leak ∈ Wd := Wd_in [] 449 (by decide +kernel) rfl
theorem cd_X4_findLeaks : Cond.code yX4_findLeaks cX4_findLeaks 4 none ∈ Wd := Wd_in [] 454 (by decide +kernel) rfl
theorem in_X4_findLeaks : Cond.instanceMethod yX4_findLeaks ∈ Wd := Wd_in [] 453 (by decide +kernel) rfl
theorem se_X4_findLeaks : Cond.selects yX4_findLeaks.cls yX4_findLeaks yX4_findLeaks ∈ Wd := Wd_in [] 4 (by decide +kernel) rfl
theorem cd_X4_fitsIf : Cond.code yX4_fitsIf cX4_fitsIf 5 (some .boolean) ∈ Wd := Wd_in [] 458 (by decide +kernel) rfl
theorem in_X4_fitsIf : Cond.instanceMethod yX4_fitsIf ∈ Wd := Wd_in [] 457 (by decide +kernel) rfl
theorem se_X4_fitsIf : Cond.selects yX4_fitsIf.cls yX4_fitsIf yX4_fitsIf ∈ Wd := Wd_in [] 5 (by decide +kernel) rfl
theorem cd_X4_note : Cond.code yX4_note cX4_note 2 none ∈ Wd := Wd_in [] 462 (by decide +kernel) rfl
theorem in_X4_note : Cond.instanceMethod yX4_note ∈ Wd := Wd_in [] 461 (by decide +kernel) rfl
theorem se_X4_note : Cond.selects yX4_note.cls yX4_note yX4_note ∈ Wd := Wd_in [] 6 (by decide +kernel) rfl
theorem cd_X4_tallyTaken : Cond.code yX4_tallyTaken cX4_tallyTaken 2 none ∈ Wd := Wd_in [] 466 (by decide +kernel) rfl
theorem in_X4_tallyTaken : Cond.instanceMethod yX4_tallyTaken ∈ Wd := Wd_in [] 465 (by decide +kernel) rfl
theorem se_X4_tallyTaken : Cond.selects yX4_tallyTaken.cls yX4_tallyTaken yX4_tallyTaken ∈ Wd := Wd_in [] 7 (by decide +kernel) rfl
theorem cd_X4_foundAt : Cond.code yX4_foundAt cX4_foundAt 2 (some .int) ∈ Wd := Wd_in [] 470 (by decide +kernel) rfl
theorem in_X4_foundAt : Cond.instanceMethod yX4_foundAt ∈ Wd := Wd_in [] 469 (by decide +kernel) rfl
theorem se_X4_foundAt : Cond.selects yX4_foundAt.cls yX4_foundAt yX4_foundAt ∈ Wd := Wd_in [] 8 (by decide +kernel) rfl
theorem cd_X4_borer : Cond.code yX4_borer cX4_borer 4 (some .int) ∈ Wd := Wd_in [] 474 (by decide +kernel) rfl
theorem in_X4_borer : Cond.instanceMethod yX4_borer ∈ Wd := Wd_in [] 472 (by decide +kernel) rfl
theorem se_X4_borer : Cond.selects yX4_borer.cls yX4_borer yX4_borer ∈ Wd := Wd_in [] 473 (by decide +kernel) rfl
theorem cd_X4_listen : Cond.code yX4_listen cX4_listen 4 (some .int) ∈ Wd := Wd_in [] 478 (by decide +kernel) rfl
theorem in_X4_listen : Cond.instanceMethod yX4_listen ∈ Wd := Wd_in [] 476 (by decide +kernel) rfl
theorem se_X4_listen : Cond.selects yX4_listen.cls yX4_listen yX4_listen ∈ Wd := Wd_in [] 477 (by decide +kernel) rfl
theorem cd_X4_mostLeft : Cond.code yX4_mostLeft cX4_mostLeft 4 (some .int) ∈ Wd := Wd_in [] 482 (by decide +kernel) rfl
theorem in_X4_mostLeft : Cond.instanceMethod yX4_mostLeft ∈ Wd := Wd_in [] 481 (by decide +kernel) rfl
theorem se_X4_mostLeft : Cond.selects yX4_mostLeft.cls yX4_mostLeft yX4_mostLeft ∈ Wd := Wd_in [] 9 (by decide +kernel) rfl
theorem cd_X4_rests : Cond.code yX4_rests cX4_rests 6 (some .int) ∈ Wd := Wd_in [] 486 (by decide +kernel) rfl
theorem in_X4_rests : Cond.instanceMethod yX4_rests ∈ Wd := Wd_in [] 484 (by decide +kernel) rfl
theorem se_X4_rests : Cond.selects yX4_rests.cls yX4_rests yX4_rests ∈ Wd := Wd_in [] 485 (by decide +kernel) rfl
theorem cd_J6_bitCount_0f7a4 : Cond.code yJ6_bitCount_0f7a4 cJ6_bitCount_0f7a4 1 (some .int) ∈ Wd := Wd_in [] 489 (by decide +kernel) rfl
theorem st_J6_bitCount_0f7a4 : Cond.static yJ6_bitCount_0f7a4 ∈ Wd := Wd_in [] 488 (by decide +kernel) rfl
theorem cd_X4_gather : Cond.code yX4_gather cX4_gather 4 (some .int) ∈ Wd := Wd_in [] 496 (by decide +kernel) rfl
theorem in_X4_gather : Cond.instanceMethod yX4_gather ∈ Wd := Wd_in [] 495 (by decide +kernel) rfl
theorem se_X4_gather : Cond.selects yX4_gather.cls yX4_gather yX4_gather ∈ Wd := Wd_in [] 10 (by decide +kernel) rfl
theorem cd_X4_weighRows : Cond.code yX4_weighRows cX4_weighRows 6 (some .int) ∈ Wd := Wd_in [] 500 (by decide +kernel) rfl
theorem in_X4_weighRows : Cond.instanceMethod yX4_weighRows ∈ Wd := Wd_in [] 499 (by decide +kernel) rfl
theorem se_X4_weighRows : Cond.selects yX4_weighRows.cls yX4_weighRows yX4_weighRows ∈ Wd := Wd_in [] 11 (by decide +kernel) rfl
theorem cd_X4_stride : Cond.code yX4_stride cX4_stride 4 (some .int) ∈ Wd := Wd_in [] 503 (by decide +kernel) rfl
theorem st_X4_stride : Cond.static yX4_stride ∈ Wd := Wd_in [] 502 (by decide +kernel) rfl
theorem cd_X4_isAtRest : Cond.code yX4_isAtRest cX4_isAtRest 8 (some .boolean) ∈ Wd := Wd_in [] 508 (by decide +kernel) rfl
theorem in_X4_isAtRest : Cond.instanceMethod yX4_isAtRest ∈ Wd := Wd_in [] 507 (by decide +kernel) rfl
theorem se_X4_isAtRest : Cond.selects yX4_isAtRest.cls yX4_isAtRest yX4_isAtRest ∈ Wd := Wd_in [] 12 (by decide +kernel) rfl
theorem cd_X4_asDigits : Cond.code yX4_asDigits cX4_asDigits 1 (some .int) ∈ Wd := Wd_in [] 511 (by decide +kernel) rfl
theorem st_X4_asDigits : Cond.static yX4_asDigits ∈ Wd := Wd_in [] 510 (by decide +kernel) rfl
theorem cd_X4_frost : Cond.code yX4_frost cX4_frost 14 (some .long) ∈ Wd := Wd_in [] 515 (by decide +kernel) rfl
theorem in_X4_frost : Cond.instanceMethod yX4_frost ∈ Wd := Wd_in [] 513 (by decide +kernel) rfl
theorem se_X4_frost : Cond.selects yX4_frost.cls yX4_frost yX4_frost ∈ Wd := Wd_in [] 514 (by decide +kernel) rfl
theorem cd_X4_power : Cond.code yX4_power cX4_power 5 (some .long) ∈ Wd := Wd_in [] 520 (by decide +kernel) rfl
theorem st_X4_power : Cond.static yX4_power ∈ Wd := Wd_in [] 519 (by decide +kernel) rfl
theorem cd_X4_commonDivisor : Cond.code yX4_commonDivisor cX4_commonDivisor 11 (some .long) ∈ Wd := Wd_in [] 523 (by decide +kernel) rfl
theorem st_X4_commonDivisor : Cond.static yX4_commonDivisor ∈ Wd := Wd_in [] 522 (by decide +kernel) rfl
theorem cd_J9_max_f86c9 : Cond.code yJ9_max_f86c9 cJ9_max_f86c9 4 (some .long) ∈ Wd := Wd_in [] 526 (by decide +kernel) rfl
theorem st_J9_max_f86c9 : Cond.static yJ9_max_f86c9 ∈ Wd := Wd_in [] 525 (by decide +kernel) rfl
theorem cd_X4_year : Cond.code yX4_year cX4_year 9 (some .int) ∈ Wd := Wd_in [] 530 (by decide +kernel) rfl
theorem in_X4_year : Cond.instanceMethod yX4_year ∈ Wd := Wd_in [] 528 (by decide +kernel) rfl
theorem se_X4_year : Cond.selects yX4_year.cls yX4_year yX4_year ∈ Wd := Wd_in [] 529 (by decide +kernel) rfl
theorem cd_X4_kindOfDraw : Cond.code yX4_kindOfDraw cX4_kindOfDraw 1 (some .int) ∈ Wd := Wd_in [] 534 (by decide +kernel) rfl
theorem st_X4_kindOfDraw : Cond.static yX4_kindOfDraw ∈ Wd := Wd_in [] 533 (by decide +kernel) rfl
theorem cd_X2_sum : Cond.code yX2_sum cX2_sum 4 (some .int) ∈ Wd := Wd_in [] 538 (by decide +kernel) rfl
theorem in_X2_sum : Cond.instanceMethod yX2_sum ∈ Wd := Wd_in [] 536 (by decide +kernel) rfl
theorem se_X2_sum : Cond.selects yX2_sum.cls yX2_sum yX2_sum ∈ Wd := Wd_in [] 537 (by decide +kernel) rfl
theorem cd_X2_someTookNothing : Cond.code yX2_someTookNothing cX2_someTookNothing 3 (some .boolean) ∈ Wd := Wd_in [] 542 (by decide +kernel) rfl
theorem in_X2_someTookNothing : Cond.instanceMethod yX2_someTookNothing ∈ Wd := Wd_in [] 540 (by decide +kernel) rfl
theorem se_X2_someTookNothing : Cond.selects yX2_someTookNothing.cls yX2_someTookNothing yX2_someTookNothing ∈ Wd := Wd_in [] 541 (by decide +kernel) rfl
theorem cd_X4_image : Cond.code yX4_image cX4_image 3 (some .int) ∈ Wd := Wd_in [] 546 (by decide +kernel) rfl
theorem in_X4_image : Cond.instanceMethod yX4_image ∈ Wd := Wd_in [] 544 (by decide +kernel) rfl
theorem se_X4_image : Cond.selects yX4_image.cls yX4_image yX4_image ∈ Wd := Wd_in [] 545 (by decide +kernel) rfl
theorem cd_X4_restore : Cond.code yX4_restore cX4_restore 3 (some .int) ∈ Wd := Wd_in [] 550 (by decide +kernel) rfl
theorem in_X4_restore : Cond.instanceMethod yX4_restore ∈ Wd := Wd_in [] 548 (by decide +kernel) rfl
theorem se_X4_restore : Cond.selects yX4_restore.cls yX4_restore yX4_restore ∈ Wd := Wd_in [] 549 (by decide +kernel) rfl
theorem cd_X4_told : Cond.code yX4_told cX4_told 2 (some .int) ∈ Wd := Wd_in [] 554 (by decide +kernel) rfl
theorem in_X4_told : Cond.instanceMethod yX4_told ∈ Wd := Wd_in [] 552 (by decide +kernel) rfl
theorem se_X4_told : Cond.selects yX4_told.cls yX4_told yX4_told ∈ Wd := Wd_in [] 553 (by decide +kernel) rfl
theorem cd_X4_toldOfFarm : Cond.code yX4_toldOfFarm cX4_toldOfFarm 4 (some .int) ∈ Wd := Wd_in [] 558 (by decide +kernel) rfl
theorem in_X4_toldOfFarm : Cond.instanceMethod yX4_toldOfFarm ∈ Wd := Wd_in [] 557 (by decide +kernel) rfl
theorem se_X4_toldOfFarm : Cond.selects yX4_toldOfFarm.cls yX4_toldOfFarm yX4_toldOfFarm ∈ Wd := Wd_in [] 13 (by decide +kernel) rfl
theorem cd_X5_init : Cond.code yX5_init cX5_init 1 none ∈ Wd := Wd_in [] 563 (by decide +kernel) rfl
theorem in_X5_init : Cond.instanceMethod yX5_init ∈ Wd := Wd_in [] 562 (by decide +kernel) rfl
theorem cd_X5_begin : Cond.code yX5_begin cX5_begin 4 none ∈ Wd := Wd_in [] 568 (by decide +kernel) rfl
theorem in_X5_begin : Cond.instanceMethod yX5_begin ∈ Wd := Wd_in [] 567 (by decide +kernel) rfl
theorem se_X5_begin : Cond.selects yX5_begin.cls yX5_begin yX5_begin ∈ Wd := Wd_in [] 14 (by decide +kernel) rfl
theorem cd_X5_at : Cond.code yX5_at cX5_at 2 (some .int) ∈ Wd := Wd_in [] 571 (by decide +kernel) rfl
theorem st_X5_at : Cond.static yX5_at ∈ Wd := Wd_in [] 570 (by decide +kernel) rfl
theorem cd_X5_farms : Cond.code yX5_farms cX5_farms 3 (some .int) ∈ Wd := Wd_in [] 673 (by decide +kernel) rfl
theorem in_X5_farms : Cond.instanceMethod yX5_farms ∈ Wd := Wd_in [] 671 (by decide +kernel) rfl
theorem se_X5_farms : Cond.selects yX5_farms.cls yX5_farms yX5_farms ∈ Wd := Wd_in [] 672 (by decide +kernel) rfl
theorem cd_X5_in : Cond.code yX5_in cX5_in 6 (some .boolean) ∈ Wd := Wd_in [] 677 (by decide +kernel) rfl
theorem st_X5_in : Cond.static yX5_in ∈ Wd := Wd_in [] 676 (by decide +kernel) rfl
theorem cd_X5_farm : Cond.code yX5_farm cX5_farm 5 (some .int) ∈ Wd := Wd_in [] 681 (by decide +kernel) rfl
theorem in_X5_farm : Cond.instanceMethod yX5_farm ∈ Wd := Wd_in [] 679 (by decide +kernel) rfl
theorem se_X5_farm : Cond.selects yX5_farm.cls yX5_farm yX5_farm ∈ Wd := Wd_in [] 680 (by decide +kernel) rfl
theorem cd_X5_isFarm : Cond.code yX5_isFarm cX5_isFarm 2 (some .boolean) ∈ Wd := Wd_in [] 685 (by decide +kernel) rfl
theorem in_X5_isFarm : Cond.instanceMethod yX5_isFarm ∈ Wd := Wd_in [] 684 (by decide +kernel) rfl
theorem se_X5_isFarm : Cond.selects yX5_isFarm.cls yX5_isFarm yX5_isFarm ∈ Wd := Wd_in [] 15 (by decide +kernel) rfl
theorem cd_X5_greatest : Cond.code yX5_greatest cX5_greatest 1 (some .int) ∈ Wd := Wd_in [] 689 (by decide +kernel) rfl
theorem st_X5_greatest : Cond.static yX5_greatest ∈ Wd := Wd_in [] 688 (by decide +kernel) rfl
theorem cd_X5_set : Cond.code yX5_set cX5_set 4 (some .int) ∈ Wd := Wd_in [] 693 (by decide +kernel) rfl
theorem in_X5_set : Cond.instanceMethod yX5_set ∈ Wd := Wd_in [] 691 (by decide +kernel) rfl
theorem se_X5_set : Cond.selects yX5_set.cls yX5_set yX5_set ∈ Wd := Wd_in [] 692 (by decide +kernel) rfl
theorem cd_X5_say : Cond.code yX5_say cX5_say 2 (some .int) ∈ Wd := Wd_in [] 700 (by decide +kernel) rfl
theorem in_X5_say : Cond.instanceMethod yX5_say ∈ Wd := Wd_in [] 698 (by decide +kernel) rfl
theorem se_X5_say : Cond.selects yX5_say.cls yX5_say yX5_say ∈ Wd := Wd_in [] 699 (by decide +kernel) rfl
theorem cd_X5_wipe : Cond.code yX5_wipe cX5_wipe 2 (some .int) ∈ Wd := Wd_in [] 706 (by decide +kernel) rfl
theorem in_X5_wipe : Cond.instanceMethod yX5_wipe ∈ Wd := Wd_in [] 704 (by decide +kernel) rfl
theorem se_X5_wipe : Cond.selects yX5_wipe.cls yX5_wipe yX5_wipe ∈ Wd := Wd_in [] 705 (by decide +kernel) rfl
theorem cd_X5_fault : Cond.code yX5_fault cX5_fault 6 (some .int) ∈ Wd := Wd_in [] 710 (by decide +kernel) rfl
theorem in_X5_fault : Cond.instanceMethod yX5_fault ∈ Wd := Wd_in [] 708 (by decide +kernel) rfl
theorem se_X5_fault : Cond.selects yX5_fault.cls yX5_fault yX5_fault ∈ Wd := Wd_in [] 709 (by decide +kernel) rfl
theorem cd_X5_isDeed : Cond.code yX5_isDeed cX5_isDeed 1 (some .boolean) ∈ Wd := Wd_in [] 713 (by decide +kernel) rfl
theorem st_X5_isDeed : Cond.static yX5_isDeed ∈ Wd := Wd_in [] 712 (by decide +kernel) rfl
theorem cd_X5_kindOf : Cond.code yX5_kindOf cX5_kindOf 1 (some .int) ∈ Wd := Wd_in [] 716 (by decide +kernel) rfl
theorem st_X5_kindOf : Cond.static yX5_kindOf ∈ Wd := Wd_in [] 715 (by decide +kernel) rfl
theorem cd_X5_judge : Cond.code yX5_judge cX5_judge 3 (some .int) ∈ Wd := Wd_in [] 720 (by decide +kernel) rfl
theorem in_X5_judge : Cond.instanceMethod yX5_judge ∈ Wd := Wd_in [] 718 (by decide +kernel) rfl
theorem se_X5_judge : Cond.selects yX5_judge.cls yX5_judge yX5_judge ∈ Wd := Wd_in [] 719 (by decide +kernel) rfl
theorem cd_X5_refusal : Cond.code yX5_refusal cX5_refusal 1 (some .int) ∈ Wd := Wd_in [] 724 (by decide +kernel) rfl
theorem in_X5_refusal : Cond.instanceMethod yX5_refusal ∈ Wd := Wd_in [] 723 (by decide +kernel) rfl
theorem se_X5_refusal : Cond.selects yX5_refusal.cls yX5_refusal yX5_refusal ∈ Wd := Wd_in [] 16 (by decide +kernel) rfl
theorem cd_X5_keepNow : Cond.code yX5_keepNow cX5_keepNow 2 none ∈ Wd := Wd_in [] 729 (by decide +kernel) rfl
theorem in_X5_keepNow : Cond.instanceMethod yX5_keepNow ∈ Wd := Wd_in [] 728 (by decide +kernel) rfl
theorem se_X5_keepNow : Cond.selects yX5_keepNow.cls yX5_keepNow yX5_keepNow ∈ Wd := Wd_in [] 17 (by decide +kernel) rfl
theorem cd_X5_goDay : Cond.code yX5_goDay cX5_goDay 3 none ∈ Wd := Wd_in [] 733 (by decide +kernel) rfl
theorem in_X5_goDay : Cond.instanceMethod yX5_goDay ∈ Wd := Wd_in [] 732 (by decide +kernel) rfl
theorem se_X5_goDay : Cond.selects yX5_goDay.cls yX5_goDay yX5_goDay ∈ Wd := Wd_in [] 18 (by decide +kernel) rfl
theorem cd_X5_lookWhoHas : Cond.code yX5_lookWhoHas cX5_lookWhoHas 3 none ∈ Wd := Wd_in [] 737 (by decide +kernel) rfl
theorem in_X5_lookWhoHas : Cond.instanceMethod yX5_lookWhoHas ∈ Wd := Wd_in [] 736 (by decide +kernel) rfl
theorem se_X5_lookWhoHas : Cond.selects yX5_lookWhoHas.cls yX5_lookWhoHas yX5_lookWhoHas ∈ Wd := Wd_in [] 19 (by decide +kernel) rfl
theorem cd_X5_passHour : Cond.code yX5_passHour cX5_passHour 3 none ∈ Wd := Wd_in [] 741 (by decide +kernel) rfl
theorem in_X5_passHour : Cond.instanceMethod yX5_passHour ∈ Wd := Wd_in [] 740 (by decide +kernel) rfl
theorem se_X5_passHour : Cond.selects yX5_passHour.cls yX5_passHour yX5_passHour ∈ Wd := Wd_in [] 20 (by decide +kernel) rfl
theorem cd_X5_flow : Cond.code yX5_flow cX5_flow 4 none ∈ Wd := Wd_in [] 745 (by decide +kernel) rfl
theorem in_X5_flow : Cond.instanceMethod yX5_flow ∈ Wd := Wd_in [] 744 (by decide +kernel) rfl
theorem se_X5_flow : Cond.selects yX5_flow.cls yX5_flow yX5_flow ∈ Wd := Wd_in [] 21 (by decide +kernel) rfl
theorem cd_X5_takenAt : Cond.code yX5_takenAt cX5_takenAt 6 (some .int) ∈ Wd := Wd_in [] 749 (by decide +kernel) rfl
theorem in_X5_takenAt : Cond.instanceMethod yX5_takenAt ∈ Wd := Wd_in [] 748 (by decide +kernel) rfl
theorem se_X5_takenAt : Cond.selects yX5_takenAt.cls yX5_takenAt yX5_takenAt ∈ Wd := Wd_in [] 22 (by decide +kernel) rfl
theorem cd_X5_deed : Cond.code yX5_deed cX5_deed 4 (some .int) ∈ Wd := Wd_in [] 753 (by decide +kernel) rfl
theorem in_X5_deed : Cond.instanceMethod yX5_deed ∈ Wd := Wd_in [] 752 (by decide +kernel) rfl
theorem se_X5_deed : Cond.selects yX5_deed.cls yX5_deed yX5_deed ∈ Wd := Wd_in [] 23 (by decide +kernel) rfl
theorem cd_X5_putBack : Cond.code yX5_putBack cX5_putBack 2 none ∈ Wd := Wd_in [] 757 (by decide +kernel) rfl
theorem in_X5_putBack : Cond.instanceMethod yX5_putBack ∈ Wd := Wd_in [] 756 (by decide +kernel) rfl
theorem se_X5_putBack : Cond.selects yX5_putBack.cls yX5_putBack yX5_putBack ∈ Wd := Wd_in [] 24 (by decide +kernel) rfl
theorem cd_X5_behind : Cond.code yX5_behind cX5_behind 5 (some .int) ∈ Wd := Wd_in [] 761 (by decide +kernel) rfl
theorem in_X5_behind : Cond.instanceMethod yX5_behind ∈ Wd := Wd_in [] 759 (by decide +kernel) rfl
theorem se_X5_behind : Cond.selects yX5_behind.cls yX5_behind yX5_behind ∈ Wd := Wd_in [] 760 (by decide +kernel) rfl
theorem cd_X5_ditch : Cond.code yX5_ditch cX5_ditch 3 (some .int) ∈ Wd := Wd_in [] 766 (by decide +kernel) rfl
theorem in_X5_ditch : Cond.instanceMethod yX5_ditch ∈ Wd := Wd_in [] 764 (by decide +kernel) rfl
theorem se_X5_ditch : Cond.selects yX5_ditch.cls yX5_ditch yX5_ditch ∈ Wd := Wd_in [] 765 (by decide +kernel) rfl
theorem cd_X5_done : Cond.code yX5_done cX5_done 2 (some .int) ∈ Wd := Wd_in [] 770 (by decide +kernel) rfl
theorem in_X5_done : Cond.instanceMethod yX5_done ∈ Wd := Wd_in [] 768 (by decide +kernel) rfl
theorem se_X5_done : Cond.selects yX5_done.cls yX5_done yX5_done ∈ Wd := Wd_in [] 769 (by decide +kernel) rfl
theorem cd_X5_first : Cond.code yX5_first cX5_first 3 (some .int) ∈ Wd := Wd_in [] 774 (by decide +kernel) rfl
theorem in_X5_first : Cond.instanceMethod yX5_first ∈ Wd := Wd_in [] 772 (by decide +kernel) rfl
theorem se_X5_first : Cond.selects yX5_first.cls yX5_first yX5_first ∈ Wd := Wd_in [] 773 (by decide +kernel) rfl
theorem cd_X5_takes : Cond.code yX5_takes cX5_takes 3 (some .int) ∈ Wd := Wd_in [] 778 (by decide +kernel) rfl
theorem in_X5_takes : Cond.instanceMethod yX5_takes ∈ Wd := Wd_in [] 776 (by decide +kernel) rfl
theorem se_X5_takes : Cond.selects yX5_takes.cls yX5_takes yX5_takes ∈ Wd := Wd_in [] 777 (by decide +kernel) rfl
theorem cd_X5_takesIf : Cond.code yX5_takesIf cX5_takesIf 3 (some .int) ∈ Wd := Wd_in [] 782 (by decide +kernel) rfl
theorem in_X5_takesIf : Cond.instanceMethod yX5_takesIf ∈ Wd := Wd_in [] 780 (by decide +kernel) rfl
theorem se_X5_takesIf : Cond.selects yX5_takesIf.cls yX5_takesIf yX5_takesIf ∈ Wd := Wd_in [] 781 (by decide +kernel) rfl
theorem cd_X5_robbed : Cond.code yX5_robbed cX5_robbed 5 (some .int) ∈ Wd := Wd_in [] 786 (by decide +kernel) rfl
theorem in_X5_robbed : Cond.instanceMethod yX5_robbed ∈ Wd := Wd_in [] 784 (by decide +kernel) rfl
theorem se_X5_robbed : Cond.selects yX5_robbed.cls yX5_robbed yX5_robbed ∈ Wd := Wd_in [] 785 (by decide +kernel) rfl
theorem cd_X5_layNow : Cond.code yX5_layNow cX5_layNow 2 none ∈ Wd := Wd_in [] 790 (by decide +kernel) rfl
theorem in_X5_layNow : Cond.instanceMethod yX5_layNow ∈ Wd := Wd_in [] 789 (by decide +kernel) rfl
theorem se_X5_layNow : Cond.selects yX5_layNow.cls yX5_layNow yX5_layNow ∈ Wd := Wd_in [] 25 (by decide +kernel) rfl
theorem cd_X5_hours : Cond.code yX5_hours cX5_hours 1 (some .int) ∈ Wd := Wd_in [] 794 (by decide +kernel) rfl
theorem in_X5_hours : Cond.instanceMethod yX5_hours ∈ Wd := Wd_in [] 792 (by decide +kernel) rfl
theorem se_X5_hours : Cond.selects yX5_hours.cls yX5_hours yX5_hours ∈ Wd := Wd_in [] 793 (by decide +kernel) rfl
theorem cd_X5_hoursNow : Cond.code yX5_hoursNow cX5_hoursNow 5 (some .int) ∈ Wd := Wd_in [] 798 (by decide +kernel) rfl
theorem in_X5_hoursNow : Cond.instanceMethod yX5_hoursNow ∈ Wd := Wd_in [] 797 (by decide +kernel) rfl
theorem se_X5_hoursNow : Cond.selects yX5_hoursNow.cls yX5_hoursNow yX5_hoursNow ∈ Wd := Wd_in [] 26 (by decide +kernel) rfl
theorem cd_X5_wanting : Cond.code yX5_wanting cX5_wanting 3 (some .int) ∈ Wd := Wd_in [] 802 (by decide +kernel) rfl
theorem in_X5_wanting : Cond.instanceMethod yX5_wanting ∈ Wd := Wd_in [] 801 (by decide +kernel) rfl
theorem se_X5_wanting : Cond.selects yX5_wanting.cls yX5_wanting yX5_wanting ∈ Wd := Wd_in [] 27 (by decide +kernel) rfl
theorem cd_X5_spring : Cond.code yX5_spring cX5_spring 5 (some .int) ∈ Wd := Wd_in [] 806 (by decide +kernel) rfl
theorem in_X5_spring : Cond.instanceMethod yX5_spring ∈ Wd := Wd_in [] 804 (by decide +kernel) rfl
theorem se_X5_spring : Cond.selects yX5_spring.cls yX5_spring yX5_spring ∈ Wd := Wd_in [] 805 (by decide +kernel) rfl
theorem cd_X5_isTerm : Cond.code yX5_isTerm cX5_isTerm 1 (some .boolean) ∈ Wd := Wd_in [] 809 (by decide +kernel) rfl
theorem st_X5_isTerm : Cond.static yX5_isTerm ∈ Wd := Wd_in [] 808 (by decide +kernel) rfl
theorem cd_X5_isEnoughIn : Cond.code yX5_isEnoughIn cX5_isEnoughIn 3 (some .boolean) ∈ Wd := Wd_in [] 814 (by decide +kernel) rfl
theorem in_X5_isEnoughIn : Cond.instanceMethod yX5_isEnoughIn ∈ Wd := Wd_in [] 813 (by decide +kernel) rfl
theorem se_X5_isEnoughIn : Cond.selects yX5_isEnoughIn.cls yX5_isEnoughIn yX5_isEnoughIn ∈ Wd := Wd_in [] 28 (by decide +kernel) rfl
theorem cd_X5_narrow : Cond.code yX5_narrow cX5_narrow 8 (some .int) ∈ Wd := Wd_in [] 818 (by decide +kernel) rfl
theorem in_X5_narrow : Cond.instanceMethod yX5_narrow ∈ Wd := Wd_in [] 816 (by decide +kernel) rfl
theorem se_X5_narrow : Cond.selects yX5_narrow.cls yX5_narrow yX5_narrow ∈ Wd := Wd_in [] 817 (by decide +kernel) rfl
theorem cd_X5_highest : Cond.code yX5_highest cX5_highest 6 (some .int) ∈ Wd := Wd_in [] 822 (by decide +kernel) rfl
theorem in_X5_highest : Cond.instanceMethod yX5_highest ∈ Wd := Wd_in [] 820 (by decide +kernel) rfl
theorem se_X5_highest : Cond.selects yX5_highest.cls yX5_highest yX5_highest ∈ Wd := Wd_in [] 821 (by decide +kernel) rfl
theorem cd_X5_bored : Cond.code yX5_bored cX5_bored 8 (some .int) ∈ Wd := Wd_in [] 826 (by decide +kernel) rfl
theorem in_X5_bored : Cond.instanceMethod yX5_bored ∈ Wd := Wd_in [] 824 (by decide +kernel) rfl
theorem se_X5_bored : Cond.selects yX5_bored.cls yX5_bored yX5_bored ∈ Wd := Wd_in [] 825 (by decide +kernel) rfl
theorem cd_X5_takesNew : Cond.code yX5_takesNew cX5_takesNew 9 (some .int) ∈ Wd := Wd_in [] 830 (by decide +kernel) rfl
theorem in_X5_takesNew : Cond.instanceMethod yX5_takesNew ∈ Wd := Wd_in [] 829 (by decide +kernel) rfl
theorem se_X5_takesNew : Cond.selects yX5_takesNew.cls yX5_takesNew yX5_takesNew ∈ Wd := Wd_in [] 29 (by decide +kernel) rfl
theorem cd_X5_fair : Cond.code yX5_fair cX5_fair 3 (some .int) ∈ Wd := Wd_in [] 834 (by decide +kernel) rfl
theorem in_X5_fair : Cond.instanceMethod yX5_fair ∈ Wd := Wd_in [] 832 (by decide +kernel) rfl
theorem se_X5_fair : Cond.selects yX5_fair.cls yX5_fair yX5_fair ∈ Wd := Wd_in [] 833 (by decide +kernel) rfl
theorem cd_X5_isFairBy : Cond.code yX5_isFairBy cX5_isFairBy 5 (some .boolean) ∈ Wd := Wd_in [] 838 (by decide +kernel) rfl
theorem in_X5_isFairBy : Cond.instanceMethod yX5_isFairBy ∈ Wd := Wd_in [] 837 (by decide +kernel) rfl
theorem se_X5_isFairBy : Cond.selects yX5_isFairBy.cls yX5_isFairBy yX5_isFairBy ∈ Wd := Wd_in [] 30 (by decide +kernel) rfl
theorem cd_X5_dry : Cond.code yX5_dry cX5_dry 4 (some .int) ∈ Wd := Wd_in [] 842 (by decide +kernel) rfl
theorem in_X5_dry : Cond.instanceMethod yX5_dry ∈ Wd := Wd_in [] 840 (by decide +kernel) rfl
theorem se_X5_dry : Cond.selects yX5_dry.cls yX5_dry yX5_dry ∈ Wd := Wd_in [] 841 (by decide +kernel) rfl
theorem cd_X5_seen : Cond.code yX5_seen cX5_seen 3 (some .int) ∈ Wd := Wd_in [] 846 (by decide +kernel) rfl
theorem in_X5_seen : Cond.instanceMethod yX5_seen ∈ Wd := Wd_in [] 844 (by decide +kernel) rfl
theorem se_X5_seen : Cond.selects yX5_seen.cls yX5_seen yX5_seen ∈ Wd := Wd_in [] 845 (by decide +kernel) rfl
theorem cd_X5_forget : Cond.code yX5_forget cX5_forget 2 (some .int) ∈ Wd := Wd_in [] 850 (by decide +kernel) rfl
theorem in_X5_forget : Cond.instanceMethod yX5_forget ∈ Wd := Wd_in [] 848 (by decide +kernel) rfl
theorem se_X5_forget : Cond.selects yX5_forget.cls yX5_forget yX5_forget ∈ Wd := Wd_in [] 849 (by decide +kernel) rfl
theorem cd_X5_leak : Cond.code yX5_leak cX5_leak 5 (some .int) ∈ Wd := Wd_in [] 854 (by decide +kernel) rfl
theorem in_X5_leak : Cond.instanceMethod yX5_leak ∈ Wd := Wd_in [] 852 (by decide +kernel) rfl
theorem se_X5_leak : Cond.selects yX5_leak.cls yX5_leak yX5_leak ∈ Wd := Wd_in [] 853 (by decide +kernel) rfl
theorem cd_X5_leaksBy : Cond.code yX5_leaksBy cX5_leaksBy 4 (some .boolean) ∈ Wd := Wd_in [] 858 (by decide +kernel) rfl
theorem in_X5_leaksBy : Cond.instanceMethod yX5_leaksBy ∈ Wd := Wd_in [] 857 (by decide +kernel) rfl
theorem se_X5_leaksBy : Cond.selects yX5_leaksBy.cls yX5_leaksBy yX5_leaksBy ∈ Wd := Wd_in [] 31 (by decide +kernel) rfl
theorem cd_X5_isHeardSo : Cond.code yX5_isHeardSo cX5_isHeardSo 3 (some .boolean) ∈ Wd := Wd_in [] 862 (by decide +kernel) rfl
theorem in_X5_isHeardSo : Cond.instanceMethod yX5_isHeardSo ∈ Wd := Wd_in [] 861 (by decide +kernel) rfl
theorem se_X5_isHeardSo : Cond.selects yX5_isHeardSo.cls yX5_isHeardSo yX5_isHeardSo ∈ Wd := Wd_in [] 32 (by decide +kernel) rfl
theorem cd_X5_borer : Cond.code yX5_borer cX5_borer 7 (some .int) ∈ Wd := Wd_in [] 866 (by decide +kernel) rfl
theorem in_X5_borer : Cond.instanceMethod yX5_borer ∈ Wd := Wd_in [] 864 (by decide +kernel) rfl
theorem se_X5_borer : Cond.selects yX5_borer.cls yX5_borer yX5_borer ∈ Wd := Wd_in [] 865 (by decide +kernel) rfl
theorem cd_X5_listen : Cond.code yX5_listen cX5_listen 5 (some .int) ∈ Wd := Wd_in [] 870 (by decide +kernel) rfl
theorem in_X5_listen : Cond.instanceMethod yX5_listen ∈ Wd := Wd_in [] 868 (by decide +kernel) rfl
theorem se_X5_listen : Cond.selects yX5_listen.cls yX5_listen yX5_listen ∈ Wd := Wd_in [] 869 (by decide +kernel) rfl
theorem cd_X5_mostLeftAt : Cond.code yX5_mostLeftAt cX5_mostLeftAt 4 (some .int) ∈ Wd := Wd_in [] 874 (by decide +kernel) rfl
theorem in_X5_mostLeftAt : Cond.instanceMethod yX5_mostLeftAt ∈ Wd := Wd_in [] 873 (by decide +kernel) rfl
theorem se_X5_mostLeftAt : Cond.selects yX5_mostLeftAt.cls yX5_mostLeftAt yX5_mostLeftAt ∈ Wd := Wd_in [] 33 (by decide +kernel) rfl
theorem cd_X5_rests : Cond.code yX5_rests cX5_rests 8 (some .int) ∈ Wd := Wd_in [] 878 (by decide +kernel) rfl
theorem in_X5_rests : Cond.instanceMethod yX5_rests ∈ Wd := Wd_in [] 876 (by decide +kernel) rfl
theorem se_X5_rests : Cond.selects yX5_rests.cls yX5_rests yX5_rests ∈ Wd := Wd_in [] 877 (by decide +kernel) rfl
theorem cd_X5_ones : Cond.code yX5_ones cX5_ones 3 (some .int) ∈ Wd := Wd_in [] 881 (by decide +kernel) rfl
theorem st_X5_ones : Cond.static yX5_ones ∈ Wd := Wd_in [] 880 (by decide +kernel) rfl
theorem cd_X5_layMembers : Cond.code yX5_layMembers cX5_layMembers 3 none ∈ Wd := Wd_in [] 885 (by decide +kernel) rfl
theorem in_X5_layMembers : Cond.instanceMethod yX5_layMembers ∈ Wd := Wd_in [] 884 (by decide +kernel) rfl
theorem se_X5_layMembers : Cond.selects yX5_layMembers.cls yX5_layMembers yX5_layMembers ∈ Wd := Wd_in [] 34 (by decide +kernel) rfl
theorem cd_X5_layWidths : Cond.code yX5_layWidths cX5_layWidths 6 (some .int) ∈ Wd := Wd_in [] 889 (by decide +kernel) rfl
theorem in_X5_layWidths : Cond.instanceMethod yX5_layWidths ∈ Wd := Wd_in [] 888 (by decide +kernel) rfl
theorem se_X5_layWidths : Cond.selects yX5_layWidths.cls yX5_layWidths yX5_layWidths ∈ Wd := Wd_in [] 35 (by decide +kernel) rfl
theorem cd_X5_isRest : Cond.code yX5_isRest cX5_isRest 5 (some .boolean) ∈ Wd := Wd_in [] 893 (by decide +kernel) rfl
theorem in_X5_isRest : Cond.instanceMethod yX5_isRest ∈ Wd := Wd_in [] 892 (by decide +kernel) rfl
theorem se_X5_isRest : Cond.selects yX5_isRest.cls yX5_isRest yX5_isRest ∈ Wd := Wd_in [] 36 (by decide +kernel) rfl
theorem cd_X5_gainOf : Cond.code yX5_gainOf cX5_gainOf 4 (some .int) ∈ Wd := Wd_in [] 897 (by decide +kernel) rfl
theorem in_X5_gainOf : Cond.instanceMethod yX5_gainOf ∈ Wd := Wd_in [] 896 (by decide +kernel) rfl
theorem se_X5_gainOf : Cond.selects yX5_gainOf.cls yX5_gainOf yX5_gainOf ∈ Wd := Wd_in [] 37 (by decide +kernel) rfl
theorem cd_X5_frost : Cond.code yX5_frost cX5_frost 14 (some .long) ∈ Wd := Wd_in [] 901 (by decide +kernel) rfl
theorem in_X5_frost : Cond.instanceMethod yX5_frost ∈ Wd := Wd_in [] 899 (by decide +kernel) rfl
theorem se_X5_frost : Cond.selects yX5_frost.cls yX5_frost yX5_frost ∈ Wd := Wd_in [] 900 (by decide +kernel) rfl
theorem cd_X5_power : Cond.code yX5_power cX5_power 5 (some .long) ∈ Wd := Wd_in [] 908 (by decide +kernel) rfl
theorem st_X5_power : Cond.static yX5_power ∈ Wd := Wd_in [] 907 (by decide +kernel) rfl
theorem cd_X5_lowest : Cond.code yX5_lowest cX5_lowest 11 (some .long) ∈ Wd := Wd_in [] 911 (by decide +kernel) rfl
theorem st_X5_lowest : Cond.static yX5_lowest ∈ Wd := Wd_in [] 910 (by decide +kernel) rfl
theorem cd_X5_year : Cond.code yX5_year cX5_year 11 (some .int) ∈ Wd := Wd_in [] 915 (by decide +kernel) rfl
theorem in_X5_year : Cond.instanceMethod yX5_year ∈ Wd := Wd_in [] 913 (by decide +kernel) rfl
theorem se_X5_year : Cond.selects yX5_year.cls yX5_year yX5_year ∈ Wd := Wd_in [] 914 (by decide +kernel) rfl
theorem cd_X5_kindBy : Cond.code yX5_kindBy cX5_kindBy 1 (some .int) ∈ Wd := Wd_in [] 922 (by decide +kernel) rfl
theorem st_X5_kindBy : Cond.static yX5_kindBy ∈ Wd := Wd_in [] 921 (by decide +kernel) rfl
theorem cd_X5_image : Cond.code yX5_image cX5_image 2 (some .int) ∈ Wd := Wd_in [] 926 (by decide +kernel) rfl
theorem in_X5_image : Cond.instanceMethod yX5_image ∈ Wd := Wd_in [] 924 (by decide +kernel) rfl
theorem se_X5_image : Cond.selects yX5_image.cls yX5_image yX5_image ∈ Wd := Wd_in [] 925 (by decide +kernel) rfl
theorem cd_X5_passAll : Cond.code yX5_passAll cX5_passAll 2 none ∈ Wd := Wd_in [] 930 (by decide +kernel) rfl
theorem in_X5_passAll : Cond.instanceMethod yX5_passAll ∈ Wd := Wd_in [] 929 (by decide +kernel) rfl
theorem se_X5_passAll : Cond.selects yX5_passAll.cls yX5_passAll yX5_passAll ∈ Wd := Wd_in [] 38 (by decide +kernel) rfl
theorem cd_X5_pass : Cond.code yX5_pass cX5_pass 3 (some .int) ∈ Wd := Wd_in [] 934 (by decide +kernel) rfl
theorem in_X5_pass : Cond.instanceMethod yX5_pass ∈ Wd := Wd_in [] 933 (by decide +kernel) rfl
theorem se_X5_pass : Cond.selects yX5_pass.cls yX5_pass yX5_pass ∈ Wd := Wd_in [] 39 (by decide +kernel) rfl
theorem cd_X5_restore : Cond.code yX5_restore cX5_restore 2 (some .int) ∈ Wd := Wd_in [] 938 (by decide +kernel) rfl
theorem in_X5_restore : Cond.instanceMethod yX5_restore ∈ Wd := Wd_in [] 936 (by decide +kernel) rfl
theorem se_X5_restore : Cond.selects yX5_restore.cls yX5_restore yX5_restore ∈ Wd := Wd_in [] 937 (by decide +kernel) rfl
theorem cd_X5_told : Cond.code yX5_told cX5_told 3 (some .int) ∈ Wd := Wd_in [] 942 (by decide +kernel) rfl
theorem in_X5_told : Cond.instanceMethod yX5_told ∈ Wd := Wd_in [] 940 (by decide +kernel) rfl
theorem se_X5_told : Cond.selects yX5_told.cls yX5_told yX5_told ∈ Wd := Wd_in [] 941 (by decide +kernel) rfl
theorem st_acpy : Cond.static arraycopyName ∈ Wd := Wd_in [] 67 (by decide +kernel) rfl
theorem na_acpy : Cond.native arraycopyName ∈ Wd := Wd_in [] 68 (by decide +kernel) rfl
theorem in_obj : Cond.instanceMethod objectInit ∈ Wd := Wd_in [] 56 (by decide +kernel) rfl
theorem cd_obj : Cond.code objectInit ⟨#[0xb1]⟩ 1 none ∈ Wd := Wd_in [] 57 (by decide +kernel) rfl
theorem st_mmax : Cond.static Lib.Math.max.name ∈ Wd := Wd_in [] 311 (by decide +kernel) rfl
theorem cd_mmax : Cond.code Lib.Math.max.name Lib.Math.max.code 2 (some .int) ∈ Wd := Wd_in [] 312 (by decide +kernel) rfl
theorem st_mmin : Cond.static Lib.Math.min.name ∈ Wd := Wd_in [] 346 (by decide +kernel) rfl
theorem cd_mmin : Cond.code Lib.Math.min.name Lib.Math.min.code 2 (some .int) ∈ Wd := Wd_in [] 347 (by decide +kernel) rfl
/-! classes -/
theorem ln_0 : ∀ i, kd i = 0 → ln i = 6 := fun i h => by
  by_cases h2 : i < 67
  · exact (by decide : ∀ i, i < 67 → kd i = 0 → ln i = 6) i h2 h
  · rw [kd_big (by omega)] at h; cases h
theorem ci_0 : CI 0 RX0 TX0 6 tyX0 := ⟨rfl, by decide +kernel, ln_0, by decide, by decide +kernel, by decide +kernel⟩
theorem ln_1 : ∀ i, kd i = 1 → ln i = 5 := fun i h => by
  by_cases h2 : i < 67
  · exact (by decide : ∀ i, i < 67 → kd i = 1 → ln i = 5) i h2 h
  · rw [kd_big (by omega)] at h; cases h
theorem ci_1 : CI 1 RX1 TX1 5 tyX1 := ⟨rfl, by decide +kernel, ln_1, by decide, by decide +kernel, by decide +kernel⟩
theorem ln_2 : ∀ i, kd i = 2 → ln i = 3 := fun i h => by
  by_cases h2 : i < 67
  · exact (by decide : ∀ i, i < 67 → kd i = 2 → ln i = 3) i h2 h
  · rw [kd_big (by omega)] at h; cases h
theorem ci_2 : CI 2 RX2 TX2 3 tyX2 := ⟨rfl, by decide +kernel, ln_2, by decide, by decide +kernel, by decide +kernel⟩
theorem ln_3 : ∀ i, kd i = 3 → ln i = 7 := fun i h => by
  by_cases h2 : i < 67
  · exact (by decide : ∀ i, i < 67 → kd i = 3 → ln i = 7) i h2 h
  · rw [kd_big (by omega)] at h; cases h
theorem ci_3 : CI 3 RX3 TX3 7 tyX3 := ⟨rfl, by decide +kernel, ln_3, by decide, by decide +kernel, by decide +kernel⟩
theorem ln_4 : ∀ i, kd i = 4 → ln i = 12 := fun i h => by
  by_cases h2 : i < 67
  · exact (by decide : ∀ i, i < 67 → kd i = 4 → ln i = 12) i h2 h
  · rw [kd_big (by omega)] at h; cases h
theorem ci_4 : CI 4 RX4 TX4 12 tyX4 := ⟨rfl, by decide +kernel, ln_4, by decide, by decide +kernel, by decide +kernel⟩
theorem ln_5 : ∀ i, kd i = 5 → ln i = 32 := fun i h => by
  by_cases h2 : i < 67
  · exact (by decide : ∀ i, i < 67 → kd i = 5 → ln i = 32) i h2 h
  · rw [kd_big (by omega)] at h; cases h
theorem ci_5 : CI 5 RX5 TX5 32 tyX5 := ⟨rfl, by decide +kernel, ln_5, by decide, by decide +kernel, by decide +kernel⟩
/-! fields -/
theorem gf_RX3_37 : GF RX3 37 3 0 := ⟨RX3, TX3, 7, tyX3, ci_3, by decide, fl_RX3_37⟩
theorem pf_RX3_37 : PI RX3 37 3 0 := ⟨RX3, TX3, 7, tyX3, ci_3, by decide, fl_RX3_37, rfl, by decide +kernel⟩
theorem gf_RX2_24 : GF RX2 24 3 0 := ⟨RX3, TX3, 7, tyX3, ci_3, by decide, fl_RX2_24⟩
theorem pf_RX2_24 : PI RX2 24 3 0 := ⟨RX3, TX3, 7, tyX3, ci_3, by decide, fl_RX2_24, rfl, by decide +kernel⟩
theorem gf_RX4_60 : GF RX4 60 3 0 := ⟨RX3, TX3, 7, tyX3, ci_3, by decide, fl_RX4_60⟩
theorem pf_RX4_60 : PI RX4 60 3 0 := ⟨RX3, TX3, 7, tyX3, ci_3, by decide, fl_RX4_60, rfl, by decide +kernel⟩
theorem gf_RX0_76 : GF RX0 76 3 0 := ⟨RX3, TX3, 7, tyX3, ci_3, by decide, fl_RX0_76⟩
theorem pf_RX0_76 : PI RX0 76 3 0 := ⟨RX3, TX3, 7, tyX3, ci_3, by decide, fl_RX0_76, rfl, by decide +kernel⟩
theorem gf_RX3_41 : GF RX3 41 3 1 := ⟨RX3, TX3, 7, tyX3, ci_3, by decide, fl_RX3_41⟩
theorem pf_RX3_41 : PI RX3 41 3 1 := ⟨RX3, TX3, 7, tyX3, ci_3, by decide, fl_RX3_41, rfl, by decide +kernel⟩
theorem gf_RX4_122 : GF RX4 122 3 1 := ⟨RX3, TX3, 7, tyX3, ci_3, by decide, fl_RX4_122⟩
theorem pf_RX4_122 : PI RX4 122 3 1 := ⟨RX3, TX3, 7, tyX3, ci_3, by decide, fl_RX4_122, rfl, by decide +kernel⟩
theorem gf_RX3_44 : GF RX3 44 3 2 := ⟨RX3, TX3, 7, tyX3, ci_3, by decide, fl_RX3_44⟩
theorem pf_RX3_44 : PI RX3 44 3 2 := ⟨RX3, TX3, 7, tyX3, ci_3, by decide, fl_RX3_44, rfl, by decide +kernel⟩
theorem gf_RX4_177 : GF RX4 177 3 2 := ⟨RX3, TX3, 7, tyX3, ci_3, by decide, fl_RX4_177⟩
theorem pf_RX4_177 : PI RX4 177 3 2 := ⟨RX3, TX3, 7, tyX3, ci_3, by decide, fl_RX4_177, rfl, by decide +kernel⟩
theorem gf_RX3_9 : GF RX3 9 3 3 := ⟨RX3, TX3, 7, tyX3, ci_3, by decide, fl_RX3_9⟩
theorem pf_RX3_9 : PR RX3 9 3 3 := ⟨RX3, TX3, 7, tyX3, .array .int, ci_3, by decide, fl_RX3_9, rfl, rfl, by decide +kernel, fun _ => ⟨rfl, rfl⟩⟩
theorem gf_RX3_15 : GF RX3 15 3 4 := ⟨RX3, TX3, 7, tyX3, ci_3, by decide, fl_RX3_15⟩
theorem pf_RX3_15 : PR RX3 15 3 4 := ⟨RX3, TX3, 7, tyX3, .array .int, ci_3, by decide, fl_RX3_15, rfl, rfl, by decide +kernel, fun _ => ⟨rfl, rfl⟩⟩
theorem gf_RX4_90 : GF RX4 90 3 4 := ⟨RX3, TX3, 7, tyX3, ci_3, by decide, fl_RX4_90⟩
theorem gf_RX3_18 : GF RX3 18 3 5 := ⟨RX3, TX3, 7, tyX3, ci_3, by decide, fl_RX3_18⟩
theorem pf_RX3_18 : PR RX3 18 3 5 := ⟨RX3, TX3, 7, tyX3, .array .int, ci_3, by decide, fl_RX3_18, rfl, rfl, by decide +kernel, fun _ => ⟨rfl, rfl⟩⟩
theorem gf_RX4_248 : GF RX4 248 3 5 := ⟨RX3, TX3, 7, tyX3, ci_3, by decide, fl_RX4_248⟩
theorem gf_RX3_21 : GF RX3 21 3 6 := ⟨RX3, TX3, 7, tyX3, ci_3, by decide, fl_RX3_21⟩
theorem pf_RX3_21 : PR RX3 21 3 6 := ⟨RX3, TX3, 7, tyX3, .array .int, ci_3, by decide, fl_RX3_21, rfl, rfl, by decide +kernel, fun _ => ⟨rfl, rfl⟩⟩
theorem gf_RX4_251 : GF RX4 251 3 6 := ⟨RX3, TX3, 7, tyX3, ci_3, by decide, fl_RX4_251⟩
theorem gf_RX2_9 : GF RX2 9 2 0 := ⟨RX2, TX2, 3, tyX2, ci_2, by decide, fl_RX2_9⟩
theorem pf_RX2_9 : PR RX2 9 2 0 := ⟨RX2, TX2, 3, tyX2, .array .int, ci_2, by decide, fl_RX2_9, rfl, rfl, by decide +kernel, fun _ => ⟨rfl, rfl⟩⟩
theorem gf_RX4_139 : GF RX4 139 2 0 := ⟨RX2, TX2, 3, tyX2, ci_2, by decide, fl_RX4_139⟩
theorem gf_RX3_73 : GF RX3 73 2 0 := ⟨RX2, TX2, 3, tyX2, ci_2, by decide, fl_RX3_73⟩
theorem gf_RX2_15 : GF RX2 15 2 1 := ⟨RX2, TX2, 3, tyX2, ci_2, by decide, fl_RX2_15⟩
theorem pf_RX2_15 : PR RX2 15 2 1 := ⟨RX2, TX2, 3, tyX2, .array .int, ci_2, by decide, fl_RX2_15, rfl, rfl, by decide +kernel, fun _ => ⟨rfl, rfl⟩⟩
theorem gf_RX4_142 : GF RX4 142 2 1 := ⟨RX2, TX2, 3, tyX2, ci_2, by decide, fl_RX4_142⟩
theorem gf_RX2_44 : GF RX2 44 2 2 := ⟨RX2, TX2, 3, tyX2, ci_2, by decide, fl_RX2_44⟩
theorem pf_RX2_44 : PI RX2 44 2 2 := ⟨RX2, TX2, 3, tyX2, ci_2, by decide, fl_RX2_44, rfl, by decide +kernel⟩
theorem gf_RX3_78 : GF RX3 78 2 2 := ⟨RX2, TX2, 3, tyX2, ci_2, by decide, fl_RX3_78⟩
theorem pf_RX3_78 : PI RX3 78 2 2 := ⟨RX2, TX2, 3, tyX2, ci_2, by decide, fl_RX3_78, rfl, by decide +kernel⟩
theorem gf_RX4_239 : GF RX4 239 2 2 := ⟨RX2, TX2, 3, tyX2, ci_2, by decide, fl_RX4_239⟩
theorem pf_RX4_239 : PI RX4 239 2 2 := ⟨RX2, TX2, 3, tyX2, ci_2, by decide, fl_RX4_239, rfl, by decide +kernel⟩
theorem gf_RX1_9 : GF RX1 9 1 0 := ⟨RX1, TX1, 5, tyX1, ci_1, by decide, fl_RX1_9⟩
theorem pf_RX1_9 : PR RX1 9 1 0 := ⟨RX1, TX1, 5, tyX1, .array .int, ci_1, by decide, fl_RX1_9, rfl, rfl, by decide +kernel, fun _ => ⟨rfl, rfl⟩⟩
theorem gf_RX1_21 : GF RX1 21 1 1 := ⟨RX1, TX1, 5, tyX1, ci_1, by decide, fl_RX1_21⟩
theorem pf_RX1_21 : PI RX1 21 1 1 := ⟨RX1, TX1, 5, tyX1, ci_1, by decide, fl_RX1_21, rfl, by decide +kernel⟩
theorem gf_RX4_93 : GF RX4 93 1 1 := ⟨RX1, TX1, 5, tyX1, ci_1, by decide, fl_RX4_93⟩
theorem pf_RX4_93 : PI RX4 93 1 1 := ⟨RX1, TX1, 5, tyX1, ci_1, by decide, fl_RX4_93, rfl, by decide +kernel⟩
theorem gf_RX1_15 : GF RX1 15 1 2 := ⟨RX1, TX1, 5, tyX1, ci_1, by decide, fl_RX1_15⟩
theorem pf_RX1_15 : PR RX1 15 1 2 := ⟨RX1, TX1, 5, tyX1, .array .int, ci_1, by decide, fl_RX1_15, rfl, rfl, by decide +kernel, fun _ => ⟨rfl, rfl⟩⟩
theorem gf_RX0_51 : GF RX0 51 1 2 := ⟨RX1, TX1, 5, tyX1, ci_1, by decide, fl_RX0_51⟩
theorem gf_RX1_18 : GF RX1 18 1 3 := ⟨RX1, TX1, 5, tyX1, ci_1, by decide, fl_RX1_18⟩
theorem pf_RX1_18 : PR RX1 18 1 3 := ⟨RX1, TX1, 5, tyX1, .array .int, ci_1, by decide, fl_RX1_18, rfl, rfl, by decide +kernel, fun _ => ⟨rfl, rfl⟩⟩
theorem gf_RX0_54 : GF RX0 54 1 3 := ⟨RX1, TX1, 5, tyX1, ci_1, by decide, fl_RX0_54⟩
theorem gf_RX0_46 : GF RX0 46 1 4 := ⟨RX1, TX1, 5, tyX1, ci_1, by decide, fl_RX0_46⟩
theorem pf_RX0_46 : PI RX0 46 1 4 := ⟨RX1, TX1, 5, tyX1, ci_1, by decide, fl_RX0_46, rfl, by decide +kernel⟩
theorem gf_RX1_25 : GF RX1 25 1 4 := ⟨RX1, TX1, 5, tyX1, ci_1, by decide, fl_RX1_25⟩
theorem pf_RX1_25 : PI RX1 25 1 4 := ⟨RX1, TX1, 5, tyX1, ci_1, by decide, fl_RX1_25, rfl, by decide +kernel⟩
theorem gf_RX4_129 : GF RX4 129 1 4 := ⟨RX1, TX1, 5, tyX1, ci_1, by decide, fl_RX4_129⟩
theorem pf_RX4_129 : PI RX4 129 1 4 := ⟨RX1, TX1, 5, tyX1, ci_1, by decide, fl_RX4_129, rfl, by decide +kernel⟩
theorem gf_RX0_12 : GF RX0 12 0 0 := ⟨RX0, TX0, 6, tyX0, ci_0, by decide, fl_RX0_12⟩
theorem pf_RX0_12 : PR RX0 12 0 0 := ⟨RX0, TX0, 6, tyX0, .object "SpringFarms$Row", ci_0, by decide, fl_RX0_12, rfl, rfl, by decide +kernel, fun _ => ⟨rfl, rfl⟩⟩
theorem gf_RX4_119 : GF RX4 119 0 0 := ⟨RX0, TX0, 6, tyX0, ci_0, by decide, fl_RX4_119⟩
theorem gf_RX0_21 : GF RX0 21 0 1 := ⟨RX0, TX0, 6, tyX0, ci_0, by decide, fl_RX0_21⟩
theorem pf_RX0_21 : PR RX0 21 0 1 := ⟨RX0, TX0, 6, tyX0, .object "SpringFarms$Hour", ci_0, by decide, fl_RX0_21, rfl, rfl, by decide +kernel, fun _ => ⟨rfl, rfl⟩⟩
theorem gf_RX0_25 : GF RX0 25 0 2 := ⟨RX0, TX0, 6, tyX0, ci_0, by decide, fl_RX0_25⟩
theorem pf_RX0_25 : PR RX0 25 0 2 := ⟨RX0, TX0, 6, tyX0, .array .int, ci_0, by decide, fl_RX0_25, rfl, rfl, by decide +kernel, fun _ => ⟨rfl, rfl⟩⟩
theorem gf_RX4_132 : GF RX4 132 0 2 := ⟨RX0, TX0, 6, tyX0, ci_0, by decide, fl_RX4_132⟩
theorem gf_RX0_33 : GF RX0 33 0 3 := ⟨RX0, TX0, 6, tyX0, ci_0, by decide, fl_RX0_33⟩
theorem pf_RX0_33 : PI RX0 33 0 3 := ⟨RX0, TX0, 6, tyX0, ci_0, by decide, fl_RX0_33, rfl, by decide +kernel⟩
theorem gf_RX4_107 : GF RX4 107 0 3 := ⟨RX0, TX0, 6, tyX0, ci_0, by decide, fl_RX4_107⟩
theorem pf_RX4_107 : PI RX4 107 0 3 := ⟨RX0, TX0, 6, tyX0, ci_0, by decide, fl_RX4_107, rfl, by decide +kernel⟩
theorem gf_RX0_37 : GF RX0 37 0 4 := ⟨RX0, TX0, 6, tyX0, ci_0, by decide, fl_RX0_37⟩
theorem pf_RX0_37 : PI RX0 37 0 4 := ⟨RX0, TX0, 6, tyX0, ci_0, by decide, fl_RX0_37, rfl, by decide +kernel⟩
theorem gf_RX4_110 : GF RX4 110 0 4 := ⟨RX0, TX0, 6, tyX0, ci_0, by decide, fl_RX4_110⟩
theorem pf_RX4_110 : PI RX4 110 0 4 := ⟨RX0, TX0, 6, tyX0, ci_0, by decide, fl_RX4_110, rfl, by decide +kernel⟩
theorem gf_RX0_40 : GF RX0 40 0 5 := ⟨RX0, TX0, 6, tyX0, ci_0, by decide, fl_RX0_40⟩
theorem pf_RX0_40 : PI RX0 40 0 5 := ⟨RX0, TX0, 6, tyX0, ci_0, by decide, fl_RX0_40, rfl, by decide +kernel⟩
theorem gf_RX4_113 : GF RX4 113 0 5 := ⟨RX0, TX0, 6, tyX0, ci_0, by decide, fl_RX4_113⟩
theorem pf_RX4_113 : PI RX4 113 0 5 := ⟨RX0, TX0, 6, tyX0, ci_0, by decide, fl_RX4_113, rfl, by decide +kernel⟩
theorem gf_RX4_10 : GF RX4 10 4 0 := ⟨RX4, TX4, 12, tyX4, ci_4, by decide, fl_RX4_10⟩
theorem pf_RX4_10 : PR RX4 10 4 0 := ⟨RX4, TX4, 12, tyX4, .object "SpringFarms$Row", ci_4, by decide, fl_RX4_10, rfl, rfl, by decide +kernel, fun _ => ⟨rfl, rfl⟩⟩
theorem gf_RX4_16 : GF RX4 16 4 1 := ⟨RX4, TX4, 12, tyX4, ci_4, by decide, fl_RX4_16⟩
theorem pf_RX4_16 : PR RX4 16 4 1 := ⟨RX4, TX4, 12, tyX4, .object "SpringFarms$Row", ci_4, by decide, fl_RX4_16, rfl, rfl, by decide +kernel, fun _ => ⟨rfl, rfl⟩⟩
theorem gf_RX4_19 : GF RX4 19 4 2 := ⟨RX4, TX4, 12, tyX4, ci_4, by decide, fl_RX4_19⟩
theorem pf_RX4_19 : PR RX4 19 4 2 := ⟨RX4, TX4, 12, tyX4, .array (.object "SpringFarms$Row"), ci_4, by decide, fl_RX4_19, rfl, rfl, by decide +kernel, fun _ => ⟨rfl, rfl⟩⟩
theorem gf_RX4_26 : GF RX4 26 4 3 := ⟨RX4, TX4, 12, tyX4, ci_4, by decide, fl_RX4_26⟩
theorem pf_RX4_26 : PR RX4 26 4 3 := ⟨RX4, TX4, 12, tyX4, .object "SpringFarms$Hour", ci_4, by decide, fl_RX4_26, rfl, rfl, by decide +kernel, fun _ => ⟨rfl, rfl⟩⟩
theorem gf_RX4_30 : GF RX4 30 4 4 := ⟨RX4, TX4, 12, tyX4, ci_4, by decide, fl_RX4_30⟩
theorem pf_RX4_30 : PR RX4 30 4 4 := ⟨RX4, TX4, 12, tyX4, .object "SpringFarms$Hour", ci_4, by decide, fl_RX4_30, rfl, rfl, by decide +kernel, fun _ => ⟨rfl, rfl⟩⟩
theorem gf_RX4_36 : GF RX4 36 4 5 := ⟨RX4, TX4, 12, tyX4, ci_4, by decide, fl_RX4_36⟩
theorem pf_RX4_36 : PR RX4 36 4 5 := ⟨RX4, TX4, 12, tyX4, .object "SpringFarms$Day", ci_4, by decide, fl_RX4_36, rfl, rfl, by decide +kernel, fun _ => ⟨rfl, rfl⟩⟩
theorem gf_RX4_43 : GF RX4 43 4 6 := ⟨RX4, TX4, 12, tyX4, ci_4, by decide, fl_RX4_43⟩
theorem pf_RX4_43 : PR RX4 43 4 6 := ⟨RX4, TX4, 12, tyX4, .object "SpringFarms$Course", ci_4, by decide, fl_RX4_43, rfl, rfl, by decide +kernel, fun _ => ⟨rfl, rfl⟩⟩
theorem gf_RX4_47 : GF RX4 47 4 7 := ⟨RX4, TX4, 12, tyX4, ci_4, by decide, fl_RX4_47⟩
theorem pf_RX4_47 : PR RX4 47 4 7 := ⟨RX4, TX4, 12, tyX4, .array .int, ci_4, by decide, fl_RX4_47, rfl, rfl, by decide +kernel, fun _ => ⟨rfl, rfl⟩⟩
theorem gf_RX4_51 : GF RX4 51 4 8 := ⟨RX4, TX4, 12, tyX4, ci_4, by decide, fl_RX4_51⟩
theorem pf_RX4_51 : PR RX4 51 4 8 := ⟨RX4, TX4, 12, tyX4, .array .int, ci_4, by decide, fl_RX4_51, rfl, rfl, by decide +kernel, fun _ => ⟨rfl, rfl⟩⟩
theorem gf_RX4_54 : GF RX4 54 4 9 := ⟨RX4, TX4, 12, tyX4, ci_4, by decide, fl_RX4_54⟩
theorem pf_RX4_54 : PR RX4 54 4 9 := ⟨RX4, TX4, 12, tyX4, .array .int, ci_4, by decide, fl_RX4_54, rfl, rfl, by decide +kernel, fun _ => ⟨rfl, rfl⟩⟩
theorem gf_RX4_57 : GF RX4 57 4 10 := ⟨RX4, TX4, 12, tyX4, ci_4, by decide, fl_RX4_57⟩
theorem pf_RX4_57 : PR RX4 57 4 10 := ⟨RX4, TX4, 12, tyX4, .array .int, ci_4, by decide, fl_RX4_57, rfl, rfl, by decide +kernel, fun _ => ⟨rfl, rfl⟩⟩
theorem gf_RX4_190 : GF RX4 190 4 11 := ⟨RX4, TX4, 12, tyX4, ci_4, by decide, fl_RX4_190⟩
theorem pf_RX4_190 : PI RX4 190 4 11 := ⟨RX4, TX4, 12, tyX4, ci_4, by decide, fl_RX4_190, rfl, by decide +kernel⟩
theorem gf_RX5_73 : GF RX5 73 5 0 := ⟨RX5, TX5, 32, tyX5, ci_5, by decide, fl_RX5_73⟩
theorem pf_RX5_73 : PI RX5 73 5 0 := ⟨RX5, TX5, 32, tyX5, ci_5, by decide, fl_RX5_73, rfl, by decide +kernel⟩
theorem gf_RX5_7 : GF RX5 7 5 1 := ⟨RX5, TX5, 32, tyX5, ci_5, by decide, fl_RX5_7⟩
theorem pf_RX5_7 : PR RX5 7 5 1 := ⟨RX5, TX5, 32, tyX5, .array .int, ci_5, by decide, fl_RX5_7, rfl, rfl, by decide +kernel, fun _ => ⟨rfl, rfl⟩⟩
theorem gf_RX5_66 : GF RX5 66 5 2 := ⟨RX5, TX5, 32, tyX5, ci_5, by decide, fl_RX5_66⟩
theorem pf_RX5_66 : PI RX5 66 5 2 := ⟨RX5, TX5, 32, tyX5, ci_5, by decide, fl_RX5_66, rfl, by decide +kernel⟩
theorem gf_RX5_59 : GF RX5 59 5 3 := ⟨RX5, TX5, 32, tyX5, ci_5, by decide, fl_RX5_59⟩
theorem pf_RX5_59 : PI RX5 59 5 3 := ⟨RX5, TX5, 32, tyX5, ci_5, by decide, fl_RX5_59, rfl, by decide +kernel⟩
theorem gf_RX5_63 : GF RX5 63 5 4 := ⟨RX5, TX5, 32, tyX5, ci_5, by decide, fl_RX5_63⟩
theorem pf_RX5_63 : PI RX5 63 5 4 := ⟨RX5, TX5, 32, tyX5, ci_5, by decide, fl_RX5_63, rfl, by decide +kernel⟩
theorem gf_RX5_76 : GF RX5 76 5 5 := ⟨RX5, TX5, 32, tyX5, ci_5, by decide, fl_RX5_76⟩
theorem pf_RX5_76 : PI RX5 76 5 5 := ⟨RX5, TX5, 32, tyX5, ci_5, by decide, fl_RX5_76, rfl, by decide +kernel⟩
theorem gf_RX5_13 : GF RX5 13 5 6 := ⟨RX5, TX5, 32, tyX5, ci_5, by decide, fl_RX5_13⟩
theorem pf_RX5_13 : PR RX5 13 5 6 := ⟨RX5, TX5, 32, tyX5, .array .int, ci_5, by decide, fl_RX5_13, rfl, rfl, by decide +kernel, fun _ => ⟨rfl, rfl⟩⟩
theorem gf_RX5_16 : GF RX5 16 5 7 := ⟨RX5, TX5, 32, tyX5, ci_5, by decide, fl_RX5_16⟩
theorem pf_RX5_16 : PR RX5 16 5 7 := ⟨RX5, TX5, 32, tyX5, .array .int, ci_5, by decide, fl_RX5_16, rfl, rfl, by decide +kernel, fun _ => ⟨rfl, rfl⟩⟩
theorem gf_RX5_79 : GF RX5 79 5 8 := ⟨RX5, TX5, 32, tyX5, ci_5, by decide, fl_RX5_79⟩
theorem pf_RX5_79 : PI RX5 79 5 8 := ⟨RX5, TX5, 32, tyX5, ci_5, by decide, fl_RX5_79, rfl, by decide +kernel⟩
theorem gf_RX5_19 : GF RX5 19 5 9 := ⟨RX5, TX5, 32, tyX5, ci_5, by decide, fl_RX5_19⟩
theorem pf_RX5_19 : PR RX5 19 5 9 := ⟨RX5, TX5, 32, tyX5, .array .int, ci_5, by decide, fl_RX5_19, rfl, rfl, by decide +kernel, fun _ => ⟨rfl, rfl⟩⟩
theorem gf_RX5_112 : GF RX5 112 5 10 := ⟨RX5, TX5, 32, tyX5, ci_5, by decide, fl_RX5_112⟩
theorem pf_RX5_112 : PI RX5 112 5 10 := ⟨RX5, TX5, 32, tyX5, ci_5, by decide, fl_RX5_112, rfl, by decide +kernel⟩
theorem gf_RX5_22 : GF RX5 22 5 11 := ⟨RX5, TX5, 32, tyX5, ci_5, by decide, fl_RX5_22⟩
theorem pf_RX5_22 : PR RX5 22 5 11 := ⟨RX5, TX5, 32, tyX5, .array .int, ci_5, by decide, fl_RX5_22, rfl, rfl, by decide +kernel, fun _ => ⟨rfl, rfl⟩⟩
theorem gf_RX5_25 : GF RX5 25 5 12 := ⟨RX5, TX5, 32, tyX5, ci_5, by decide, fl_RX5_25⟩
theorem pf_RX5_25 : PR RX5 25 5 12 := ⟨RX5, TX5, 32, tyX5, .array .int, ci_5, by decide, fl_RX5_25, rfl, rfl, by decide +kernel, fun _ => ⟨rfl, rfl⟩⟩
theorem gf_RX5_115 : GF RX5 115 5 13 := ⟨RX5, TX5, 32, tyX5, ci_5, by decide, fl_RX5_115⟩
theorem pf_RX5_115 : PI RX5 115 5 13 := ⟨RX5, TX5, 32, tyX5, ci_5, by decide, fl_RX5_115, rfl, by decide +kernel⟩
theorem gf_RX5_28 : GF RX5 28 5 14 := ⟨RX5, TX5, 32, tyX5, ci_5, by decide, fl_RX5_28⟩
theorem pf_RX5_28 : PR RX5 28 5 14 := ⟨RX5, TX5, 32, tyX5, .array .int, ci_5, by decide, fl_RX5_28, rfl, rfl, by decide +kernel, fun _ => ⟨rfl, rfl⟩⟩
theorem gf_RX5_31 : GF RX5 31 5 15 := ⟨RX5, TX5, 32, tyX5, ci_5, by decide, fl_RX5_31⟩
theorem pf_RX5_31 : PR RX5 31 5 15 := ⟨RX5, TX5, 32, tyX5, .array .int, ci_5, by decide, fl_RX5_31, rfl, rfl, by decide +kernel, fun _ => ⟨rfl, rfl⟩⟩
theorem gf_RX5_128 : GF RX5 128 5 16 := ⟨RX5, TX5, 32, tyX5, ci_5, by decide, fl_RX5_128⟩
theorem pf_RX5_128 : PI RX5 128 5 16 := ⟨RX5, TX5, 32, tyX5, ci_5, by decide, fl_RX5_128, rfl, by decide +kernel⟩
theorem gf_RX5_34 : GF RX5 34 5 17 := ⟨RX5, TX5, 32, tyX5, ci_5, by decide, fl_RX5_34⟩
theorem pf_RX5_34 : PR RX5 34 5 17 := ⟨RX5, TX5, 32, tyX5, .array .int, ci_5, by decide, fl_RX5_34, rfl, rfl, by decide +kernel, fun _ => ⟨rfl, rfl⟩⟩
theorem gf_RX5_134 : GF RX5 134 5 18 := ⟨RX5, TX5, 32, tyX5, ci_5, by decide, fl_RX5_134⟩
theorem pf_RX5_134 : PI RX5 134 5 18 := ⟨RX5, TX5, 32, tyX5, ci_5, by decide, fl_RX5_134, rfl, by decide +kernel⟩
theorem gf_RX5_140 : GF RX5 140 5 19 := ⟨RX5, TX5, 32, tyX5, ci_5, by decide, fl_RX5_140⟩
theorem pf_RX5_140 : PI RX5 140 5 19 := ⟨RX5, TX5, 32, tyX5, ci_5, by decide, fl_RX5_140, rfl, by decide +kernel⟩
theorem gf_RX5_143 : GF RX5 143 5 20 := ⟨RX5, TX5, 32, tyX5, ci_5, by decide, fl_RX5_143⟩
theorem pf_RX5_143 : PI RX5 143 5 20 := ⟨RX5, TX5, 32, tyX5, ci_5, by decide, fl_RX5_143, rfl, by decide +kernel⟩
theorem gf_RX5_137 : GF RX5 137 5 21 := ⟨RX5, TX5, 32, tyX5, ci_5, by decide, fl_RX5_137⟩
theorem pf_RX5_137 : PI RX5 137 5 21 := ⟨RX5, TX5, 32, tyX5, ci_5, by decide, fl_RX5_137, rfl, by decide +kernel⟩
theorem gf_RX5_37 : GF RX5 37 5 22 := ⟨RX5, TX5, 32, tyX5, ci_5, by decide, fl_RX5_37⟩
theorem pf_RX5_37 : PR RX5 37 5 22 := ⟨RX5, TX5, 32, tyX5, .array .int, ci_5, by decide, fl_RX5_37, rfl, rfl, by decide +kernel, fun _ => ⟨rfl, rfl⟩⟩
theorem gf_RX5_40 : GF RX5 40 5 23 := ⟨RX5, TX5, 32, tyX5, ci_5, by decide, fl_RX5_40⟩
theorem pf_RX5_40 : PR RX5 40 5 23 := ⟨RX5, TX5, 32, tyX5, .array .int, ci_5, by decide, fl_RX5_40, rfl, rfl, by decide +kernel, fun _ => ⟨rfl, rfl⟩⟩
theorem gf_RX5_43 : GF RX5 43 5 24 := ⟨RX5, TX5, 32, tyX5, ci_5, by decide, fl_RX5_43⟩
theorem pf_RX5_43 : PR RX5 43 5 24 := ⟨RX5, TX5, 32, tyX5, .array .int, ci_5, by decide, fl_RX5_43, rfl, rfl, by decide +kernel, fun _ => ⟨rfl, rfl⟩⟩
theorem gf_RX5_46 : GF RX5 46 5 25 := ⟨RX5, TX5, 32, tyX5, ci_5, by decide, fl_RX5_46⟩
theorem pf_RX5_46 : PR RX5 46 5 25 := ⟨RX5, TX5, 32, tyX5, .array .int, ci_5, by decide, fl_RX5_46, rfl, rfl, by decide +kernel, fun _ => ⟨rfl, rfl⟩⟩
theorem gf_RX5_49 : GF RX5 49 5 26 := ⟨RX5, TX5, 32, tyX5, ci_5, by decide, fl_RX5_49⟩
theorem pf_RX5_49 : PR RX5 49 5 26 := ⟨RX5, TX5, 32, tyX5, .array .int, ci_5, by decide, fl_RX5_49, rfl, rfl, by decide +kernel, fun _ => ⟨rfl, rfl⟩⟩
theorem gf_RX5_207 : GF RX5 207 5 27 := ⟨RX5, TX5, 32, tyX5, ci_5, by decide, fl_RX5_207⟩
theorem pf_RX5_207 : PI RX5 207 5 27 := ⟨RX5, TX5, 32, tyX5, ci_5, by decide, fl_RX5_207, rfl, by decide +kernel⟩
theorem gf_RX5_52 : GF RX5 52 5 28 := ⟨RX5, TX5, 32, tyX5, ci_5, by decide, fl_RX5_52⟩
theorem pf_RX5_52 : PR RX5 52 5 28 := ⟨RX5, TX5, 32, tyX5, .array .int, ci_5, by decide, fl_RX5_52, rfl, rfl, by decide +kernel, fun _ => ⟨rfl, rfl⟩⟩
theorem gf_RX5_55 : GF RX5 55 5 29 := ⟨RX5, TX5, 32, tyX5, ci_5, by decide, fl_RX5_55⟩
theorem pf_RX5_55 : PR RX5 55 5 29 := ⟨RX5, TX5, 32, tyX5, .array .boolean, ci_5, by decide, fl_RX5_55, rfl, rfl, by decide +kernel, fun _ => ⟨rfl, rfl⟩⟩
theorem gf_RX5_256 : GF RX5 256 5 30 := ⟨RX5, TX5, 32, tyX5, ci_5, by decide, fl_RX5_256⟩
theorem pf_RX5_256 : PI RX5 256 5 30 := ⟨RX5, TX5, 32, tyX5, ci_5, by decide, fl_RX5_256, rfl, by decide +kernel⟩
theorem gf_RX5_252 : GF RX5 252 5 31 := ⟨RX5, TX5, 32, tyX5, ci_5, by decide, fl_RX5_252⟩
theorem pf_RX5_252 : PZ RX5 252 5 31 := ⟨RX5, TX5, 32, tyX5, ci_5, by decide, fl_RX5_252, rfl, by decide +kernel⟩
/-! methods -/
abbrev mX4_init : MT := (yX4_init, cX4_init, 1)
theorem vw_X4_init : VW mX4_init none 0 := ⟨ini_SpringFarms, cd_X4_init, by decide +kernel, by decide +kernel, by decide +kernel⟩
abbrev mX3_init : MT := (yX3_init, cX3_init, 1)
theorem vw_X3_init : VW mX3_init none 0 := ⟨ini_SpringFarms_Row, cd_X3_init, by decide +kernel, by decide +kernel, by decide +kernel⟩
abbrev mX3_begin : MT := (yX3_begin, cX3_begin, 3)
theorem vw_X3_begin : VW mX3_begin none 1 := ⟨ini_SpringFarms_Row, cd_X3_begin, by decide +kernel, by decide +kernel, by decide +kernel⟩
theorem vv_X3_begin : VVW mX3_begin := ⟨in_X3_begin, se_X3_begin, 3, TX3, 7, rfl, by decide⟩
abbrev mX2_init : MT := (yX2_init, cX2_init, 1)
theorem vw_X2_init : VW mX2_init none 0 := ⟨ini_SpringFarms_Hour, cd_X2_init, by decide +kernel, by decide +kernel, by decide +kernel⟩
abbrev mX1_init : MT := (yX1_init, cX1_init, 1)
theorem vw_X1_init : VW mX1_init none 0 := ⟨ini_SpringFarms_Day, cd_X1_init, by decide +kernel, by decide +kernel, by decide +kernel⟩
abbrev mX0_init : MT := (yX0_init, cX0_init, 1)
theorem vw_X0_init : VW mX0_init none 0 := ⟨ini_SpringFarms_Course, cd_X0_init, by decide +kernel, by decide +kernel, by decide +kernel⟩
abbrev mX4_farms : MT := (yX4_farms, cX4_farms, 3)
theorem vw_X4_farms : VW mX4_farms (some .int) 1 := ⟨ini_SpringFarms, cd_X4_farms, by decide +kernel, by decide +kernel, by decide +kernel⟩
theorem vv_X4_farms : VVW mX4_farms := ⟨in_X4_farms, se_X4_farms, 4, TX4, 12, rfl, by decide⟩
abbrev mX4_farm : MT := (yX4_farm, cX4_farm, 5)
theorem vw_X4_farm : VW mX4_farm (some .int) 3 := ⟨ini_SpringFarms, cd_X4_farm, by decide +kernel, by decide +kernel, by decide +kernel⟩
theorem vv_X4_farm : VVW mX4_farm := ⟨in_X4_farm, se_X4_farm, 4, TX4, 12, rfl, by decide⟩
abbrev mX3_has : MT := (yX3_has, cX3_has, 2)
theorem vw_X3_has : VW mX3_has (some .boolean) 1 := ⟨ini_SpringFarms_Row, cd_X3_has, by decide +kernel, by decide +kernel, by decide +kernel⟩
theorem vv_X3_has : VVW mX3_has := ⟨in_X3_has, se_X3_has, 3, TX3, 7, rfl, by decide⟩
abbrev mX4_within : MT := (yX4_within, cX4_within, 2)
theorem vw_X4_within : VW mX4_within (some .boolean) 2 := ⟨ini_SpringFarms, cd_X4_within, by decide +kernel, by decide +kernel, by decide +kernel⟩
abbrev mX3_fact : MT := (yX3_fact, cX3_fact, 3)
theorem vw_X3_fact : VW mX3_fact (some .int) 2 := ⟨ini_SpringFarms_Row, cd_X3_fact, by decide +kernel, by decide +kernel, by decide +kernel⟩
theorem vv_X3_fact : VVW mX3_fact := ⟨in_X3_fact, se_X3_fact, 3, TX3, 7, rfl, by decide⟩
abbrev mX3_put : MT := (yX3_put, cX3_put, 4)
theorem vw_X3_put : VW mX3_put none 3 := ⟨ini_SpringFarms_Row, cd_X3_put, by decide +kernel, by decide +kernel, by decide +kernel⟩
theorem vv_X3_put : VVW mX3_put := ⟨in_X3_put, se_X3_put, 3, TX3, 7, rfl, by decide⟩
abbrev mX4_set : MT := (yX4_set, cX4_set, 4)
theorem vw_X4_set : VW mX4_set (some .int) 2 := ⟨ini_SpringFarms, cd_X4_set, by decide +kernel, by decide +kernel, by decide +kernel⟩
theorem vv_X4_set : VVW mX4_set := ⟨in_X4_set, se_X4_set, 4, TX4, 12, rfl, by decide⟩
abbrev mX4_say : MT := (yX4_say, cX4_say, 2)
theorem vw_X4_say : VW mX4_say (some .int) 1 := ⟨ini_SpringFarms, cd_X4_say, by decide +kernel, by decide +kernel, by decide +kernel⟩
theorem vv_X4_say : VVW mX4_say := ⟨in_X4_say, se_X4_say, 4, TX4, 12, rfl, by decide⟩
abbrev mX1_add : MT := (yX1_add, cX1_add, 2)
theorem vw_X1_add : VW mX1_add none 1 := ⟨ini_SpringFarms_Day, cd_X1_add, by decide +kernel, by decide +kernel, by decide +kernel⟩
theorem vv_X1_add : VVW mX1_add := ⟨in_X1_add, se_X1_add, 1, TX1, 5, rfl, by decide⟩
abbrev mX4_wipe : MT := (yX4_wipe, cX4_wipe, 2)
theorem vw_X4_wipe : VW mX4_wipe (some .int) 0 := ⟨ini_SpringFarms, cd_X4_wipe, by decide +kernel, by decide +kernel, by decide +kernel⟩
theorem vv_X4_wipe : VVW mX4_wipe := ⟨in_X4_wipe, se_X4_wipe, 4, TX4, 12, rfl, by decide⟩
abbrev mX4_fault : MT := (yX4_fault, cX4_fault, 1)
theorem vw_X4_fault : VW mX4_fault (some .int) 0 := ⟨ini_SpringFarms, cd_X4_fault, by decide +kernel, by decide +kernel, by decide +kernel⟩
theorem vv_X4_fault : VVW mX4_fault := ⟨in_X4_fault, se_X4_fault, 4, TX4, 12, rfl, by decide⟩
abbrev mX1_read : MT := (yX1_read, cX1_read, 7)
theorem vw_X1_read : VW mX1_read (some .int) 1 := ⟨ini_SpringFarms_Day, cd_X1_read, by decide +kernel, by decide +kernel, by decide +kernel⟩
theorem vv_X1_read : VVW mX1_read := ⟨in_X1_read, se_X1_read, 1, TX1, 5, rfl, by decide⟩
abbrev mX1_actOn : MT := (yX1_actOn, cX1_actOn, 2)
theorem vw_X1_actOn : VW mX1_actOn (some .int) 1 := ⟨ini_SpringFarms_Day, cd_X1_actOn, by decide +kernel, by decide +kernel, by decide +kernel⟩
theorem vv_X1_actOn : VVW mX1_actOn := ⟨in_X1_actOn, se_X1_actOn, 1, TX1, 5, rfl, by decide⟩
abbrev mX1_hourOf : MT := (yX1_hourOf, cX1_hourOf, 1)
theorem vw_X1_hourOf : VW mX1_hourOf (some .int) 1 := ⟨ini_SpringFarms_Day, cd_X1_hourOf, by decide +kernel, by decide +kernel, by decide +kernel⟩
abbrev mX4_judge : MT := (yX4_judge, cX4_judge, 3)
theorem vw_X4_judge : VW mX4_judge (some .int) 1 := ⟨ini_SpringFarms, cd_X4_judge, by decide +kernel, by decide +kernel, by decide +kernel⟩
theorem vv_X4_judge : VVW mX4_judge := ⟨in_X4_judge, se_X4_judge, 4, TX4, 12, rfl, by decide⟩
abbrev mX4_liveDay : MT := (yX4_liveDay, cX4_liveDay, 1)
theorem vw_X4_liveDay : VW mX4_liveDay (some .int) 0 := ⟨ini_SpringFarms, cd_X4_liveDay, by decide +kernel, by decide +kernel, by decide +kernel⟩
theorem vv_X4_liveDay : VVW mX4_liveDay := ⟨in_X4_liveDay, se_X4_liveDay, 4, TX4, 12, rfl, by decide⟩
abbrev mX0_live : MT := (yX0_live, cX0_live, 5)
theorem vw_X0_live : VW mX0_live none 2 := ⟨ini_SpringFarms_Course, cd_X0_live, by decide +kernel, by decide +kernel, by decide +kernel⟩
theorem vv_X0_live : VVW mX0_live := ⟨in_X0_live, se_X0_live, 0, TX0, 6, rfl, by decide⟩
abbrev mX3_copy : MT := (yX3_copy, cX3_copy, 2)
theorem vw_X3_copy : VW mX3_copy none 1 := ⟨ini_SpringFarms_Row, cd_X3_copy, by decide +kernel, by decide +kernel, by decide +kernel⟩
theorem vv_X3_copy : VVW mX3_copy := ⟨in_X3_copy, se_X3_copy, 3, TX3, 7, rfl, by decide⟩
abbrev mX0_noteEnough : MT := (yX0_noteEnough, cX0_noteEnough, 2)
theorem vw_X0_noteEnough : VW mX0_noteEnough none 0 := ⟨ini_SpringFarms_Course, cd_X0_noteEnough, by decide +kernel, by decide +kernel, by decide +kernel⟩
theorem vv_X0_noteEnough : VVW mX0_noteEnough := ⟨in_X0_noteEnough, se_X0_noteEnough, 0, TX0, 6, rfl, by decide⟩
abbrev mX3_lack : MT := (yX3_lack, cX3_lack, 2)
theorem vw_X3_lack : VW mX3_lack (some .int) 1 := ⟨ini_SpringFarms_Row, cd_X3_lack, by decide +kernel, by decide +kernel, by decide +kernel⟩
theorem vv_X3_lack : VVW mX3_lack := ⟨in_X3_lack, se_X3_lack, 3, TX3, 7, rfl, by decide⟩
abbrev mX3_reasonAgainst : MT := (yX3_reasonAgainst, cX3_reasonAgainst, 3)
theorem vw_X3_reasonAgainst : VW mX3_reasonAgainst (some .int) 2 := ⟨ini_SpringFarms_Row, cd_X3_reasonAgainst, by decide +kernel, by decide +kernel, by decide +kernel⟩
theorem vv_X3_reasonAgainst : VVW mX3_reasonAgainst := ⟨in_X3_reasonAgainst, se_X3_reasonAgainst, 3, TX3, 7, rfl, by decide⟩
abbrev mX0_pass : MT := (yX0_pass, cX0_pass, 3)
theorem vw_X0_pass : VW mX0_pass none 2 := ⟨ini_SpringFarms_Course, cd_X0_pass, by decide +kernel, by decide +kernel, by decide +kernel⟩
theorem vv_X0_pass : VVW mX0_pass := ⟨in_X0_pass, se_X0_pass, 0, TX0, 6, rfl, by decide⟩
abbrev mX3_apply : MT := (yX3_apply, cX3_apply, 3)
theorem vw_X3_apply : VW mX3_apply none 2 := ⟨ini_SpringFarms_Row, cd_X3_apply, by decide +kernel, by decide +kernel, by decide +kernel⟩
theorem vv_X3_apply : VVW mX3_apply := ⟨in_X3_apply, se_X3_apply, 3, TX3, 7, rfl, by decide⟩
abbrev mX3_turnPlug : MT := (yX3_turnPlug, cX3_turnPlug, 2)
theorem vw_X3_turnPlug : VW mX3_turnPlug none 1 := ⟨ini_SpringFarms_Row, cd_X3_turnPlug, by decide +kernel, by decide +kernel, by decide +kernel⟩
theorem vv_X3_turnPlug : VVW mX3_turnPlug := ⟨in_X3_turnPlug, se_X3_turnPlug, 3, TX3, 7, rfl, by decide⟩
abbrev mX2_flow : MT := (yX2_flow, cX2_flow, 6)
theorem vw_X2_flow : VW mX2_flow none 2 := ⟨ini_SpringFarms_Hour, cd_X2_flow, by decide +kernel, by decide +kernel, by decide +kernel⟩
theorem vv_X2_flow : VVW mX2_flow := ⟨in_X2_flow, se_X2_flow, 2, TX2, 3, rfl, by decide⟩
abbrev mX3_levelAtSpring : MT := (yX3_levelAtSpring, cX3_levelAtSpring, 3)
theorem vw_X3_levelAtSpring : VW mX3_levelAtSpring (some .int) 1 := ⟨ini_SpringFarms_Row, cd_X3_levelAtSpring, by decide +kernel, by decide +kernel, by decide +kernel⟩
theorem vv_X3_levelAtSpring : VVW mX3_levelAtSpring := ⟨in_X3_levelAtSpring, se_X3_levelAtSpring, 3, TX3, 7, rfl, by decide⟩
abbrev mX3_takesNone : MT := (yX3_takesNone, cX3_takesNone, 3)
theorem vw_X3_takesNone : VW mX3_takesNone (some .boolean) 2 := ⟨ini_SpringFarms_Row, cd_X3_takesNone, by decide +kernel, by decide +kernel, by decide +kernel⟩
theorem vv_X3_takesNone : VVW mX3_takesNone := ⟨in_X3_takesNone, se_X3_takesNone, 3, TX3, 7, rfl, by decide⟩
abbrev mX3_keep : MT := (yX3_keep, cX3_keep, 3)
theorem vw_X3_keep : VW mX3_keep none 1 := ⟨ini_SpringFarms_Row, cd_X3_keep, by decide +kernel, by decide +kernel, by decide +kernel⟩
theorem vv_X3_keep : VVW mX3_keep := ⟨in_X3_keep, se_X3_keep, 3, TX3, 7, rfl, by decide⟩
abbrev mX4_behind : MT := (yX4_behind, cX4_behind, 4)
theorem vw_X4_behind : VW mX4_behind (some .int) 2 := ⟨ini_SpringFarms, cd_X4_behind, by decide +kernel, by decide +kernel, by decide +kernel⟩
theorem vv_X4_behind : VVW mX4_behind := ⟨in_X4_behind, se_X4_behind, 4, TX4, 12, rfl, by decide⟩
abbrev mX4_ditch : MT := (yX4_ditch, cX4_ditch, 2)
theorem vw_X4_ditch : VW mX4_ditch (some .int) 0 := ⟨ini_SpringFarms, cd_X4_ditch, by decide +kernel, by decide +kernel, by decide +kernel⟩
theorem vv_X4_ditch : VVW mX4_ditch := ⟨in_X4_ditch, se_X4_ditch, 4, TX4, 12, rfl, by decide⟩
abbrev mX4_done : MT := (yX4_done, cX4_done, 2)
theorem vw_X4_done : VW mX4_done (some .int) 0 := ⟨ini_SpringFarms, cd_X4_done, by decide +kernel, by decide +kernel, by decide +kernel⟩
theorem vv_X4_done : VVW mX4_done := ⟨in_X4_done, se_X4_done, 4, TX4, 12, rfl, by decide⟩
abbrev mX4_first : MT := (yX4_first, cX4_first, 3)
theorem vw_X4_first : VW mX4_first (some .int) 1 := ⟨ini_SpringFarms, cd_X4_first, by decide +kernel, by decide +kernel, by decide +kernel⟩
theorem vv_X4_first : VVW mX4_first := ⟨in_X4_first, se_X4_first, 4, TX4, 12, rfl, by decide⟩
abbrev mX4_takes : MT := (yX4_takes, cX4_takes, 3)
theorem vw_X4_takes : VW mX4_takes (some .int) 2 := ⟨ini_SpringFarms, cd_X4_takes, by decide +kernel, by decide +kernel, by decide +kernel⟩
theorem vv_X4_takes : VVW mX4_takes := ⟨in_X4_takes, se_X4_takes, 4, TX4, 12, rfl, by decide⟩
abbrev mX4_takesIf : MT := (yX4_takesIf, cX4_takesIf, 3)
theorem vw_X4_takesIf : VW mX4_takesIf (some .int) 2 := ⟨ini_SpringFarms, cd_X4_takesIf, by decide +kernel, by decide +kernel, by decide +kernel⟩
theorem vv_X4_takesIf : VVW mX4_takesIf := ⟨in_X4_takesIf, se_X4_takesIf, 4, TX4, 12, rfl, by decide⟩
abbrev mX4_robbed : MT := (yX4_robbed, cX4_robbed, 4)
theorem vw_X4_robbed : VW mX4_robbed (some .int) 1 := ⟨ini_SpringFarms, cd_X4_robbed, by decide +kernel, by decide +kernel, by decide +kernel⟩
theorem vv_X4_robbed : VVW mX4_robbed := ⟨in_X4_robbed, se_X4_robbed, 4, TX4, 12, rfl, by decide⟩
abbrev mX4_hours : MT := (yX4_hours, cX4_hours, 5)
theorem vw_X4_hours : VW mX4_hours (some .int) 0 := ⟨ini_SpringFarms, cd_X4_hours, by decide +kernel, by decide +kernel, by decide +kernel⟩
theorem vv_X4_hours : VVW mX4_hours := ⟨in_X4_hours, se_X4_hours, 4, TX4, 12, rfl, by decide⟩
abbrev mX4_spring : MT := (yX4_spring, cX4_spring, 3)
theorem vw_X4_spring : VW mX4_spring (some .int) 1 := ⟨ini_SpringFarms, cd_X4_spring, by decide +kernel, by decide +kernel, by decide +kernel⟩
theorem vv_X4_spring : VVW mX4_spring := ⟨in_X4_spring, se_X4_spring, 4, TX4, 12, rfl, by decide⟩
abbrev mX4_isHours : MT := (yX4_isHours, cX4_isHours, 1)
theorem vw_X4_isHours : VW mX4_isHours (some .boolean) 1 := ⟨ini_SpringFarms, cd_X4_isHours, by decide +kernel, by decide +kernel, by decide +kernel⟩
abbrev mX4_allHaveIn : MT := (yX4_allHaveIn, cX4_allHaveIn, 3)
theorem vw_X4_allHaveIn : VW mX4_allHaveIn (some .boolean) 1 := ⟨ini_SpringFarms, cd_X4_allHaveIn, by decide +kernel, by decide +kernel, by decide +kernel⟩
theorem vv_X4_allHaveIn : VVW mX4_allHaveIn := ⟨in_X4_allHaveIn, se_X4_allHaveIn, 4, TX4, 12, rfl, by decide⟩
abbrev mX4_narrow : MT := (yX4_narrow, cX4_narrow, 6)
theorem vw_X4_narrow : VW mX4_narrow (some .int) 2 := ⟨ini_SpringFarms, cd_X4_narrow, by decide +kernel, by decide +kernel, by decide +kernel⟩
theorem vv_X4_narrow : VVW mX4_narrow := ⟨in_X4_narrow, se_X4_narrow, 4, TX4, 12, rfl, by decide⟩
abbrev mX4_highest : MT := (yX4_highest, cX4_highest, 4)
theorem vw_X4_highest : VW mX4_highest (some .int) 2 := ⟨ini_SpringFarms, cd_X4_highest, by decide +kernel, by decide +kernel, by decide +kernel⟩
theorem vv_X4_highest : VVW mX4_highest := ⟨in_X4_highest, se_X4_highest, 4, TX4, 12, rfl, by decide⟩
abbrev mX4_bored : MT := (yX4_bored, cX4_bored, 8)
theorem vw_X4_bored : VW mX4_bored (some .int) 3 := ⟨ini_SpringFarms, cd_X4_bored, by decide +kernel, by decide +kernel, by decide +kernel⟩
theorem vv_X4_bored : VVW mX4_bored := ⟨in_X4_bored, se_X4_bored, 4, TX4, 12, rfl, by decide⟩
abbrev mX4_takenIfBoredAt : MT := (yX4_takenIfBoredAt, cX4_takenIfBoredAt, 6)
theorem vw_X4_takenIfBoredAt : VW mX4_takenIfBoredAt (some .int) 3 := ⟨ini_SpringFarms, cd_X4_takenIfBoredAt, by decide +kernel, by decide +kernel, by decide +kernel⟩
theorem vv_X4_takenIfBoredAt : VVW mX4_takenIfBoredAt := ⟨in_X4_takenIfBoredAt, se_X4_takenIfBoredAt, 4, TX4, 12, rfl, by decide⟩
abbrev mX3_copyWithNew : MT := (yX3_copyWithNew, cX3_copyWithNew, 6)
theorem vw_X3_copyWithNew : VW mX3_copyWithNew none 4 := ⟨ini_SpringFarms_Row, cd_X3_copyWithNew, by decide +kernel, by decide +kernel, by decide +kernel⟩
theorem vv_X3_copyWithNew : VVW mX3_copyWithNew := ⟨in_X3_copyWithNew, se_X3_copyWithNew, 3, TX3, 7, rfl, by decide⟩
abbrev mX4_fair : MT := (yX4_fair, cX4_fair, 2)
theorem vw_X4_fair : VW mX4_fair (some .int) 0 := ⟨ini_SpringFarms, cd_X4_fair, by decide +kernel, by decide +kernel, by decide +kernel⟩
theorem vv_X4_fair : VVW mX4_fair := ⟨in_X4_fair, se_X4_fair, 4, TX4, 12, rfl, by decide⟩
abbrev mX4_isFair : MT := (yX4_isFair, cX4_isFair, 3)
theorem vw_X4_isFair : VW mX4_isFair (some .boolean) 1 := ⟨ini_SpringFarms, cd_X4_isFair, by decide +kernel, by decide +kernel, by decide +kernel⟩
theorem vv_X4_isFair : VVW mX4_isFair := ⟨in_X4_isFair, se_X4_isFair, 4, TX4, 12, rfl, by decide⟩
abbrev mX4_dry : MT := (yX4_dry, cX4_dry, 3)
theorem vw_X4_dry : VW mX4_dry (some .int) 1 := ⟨ini_SpringFarms, cd_X4_dry, by decide +kernel, by decide +kernel, by decide +kernel⟩
theorem vv_X4_dry : VVW mX4_dry := ⟨in_X4_dry, se_X4_dry, 4, TX4, 12, rfl, by decide⟩
abbrev mX4_seen : MT := (yX4_seen, cX4_seen, 3)
theorem vw_X4_seen : VW mX4_seen (some .int) 2 := ⟨ini_SpringFarms, cd_X4_seen, by decide +kernel, by decide +kernel, by decide +kernel⟩
theorem vv_X4_seen : VVW mX4_seen := ⟨in_X4_seen, se_X4_seen, 4, TX4, 12, rfl, by decide⟩
abbrev mX3_see : MT := (yX3_see, cX3_see, 3)
theorem vw_X3_see : VW mX3_see none 2 := ⟨ini_SpringFarms_Row, cd_X3_see, by decide +kernel, by decide +kernel, by decide +kernel⟩
theorem vv_X3_see : VVW mX3_see := ⟨in_X3_see, se_X3_see, 3, TX3, 7, rfl, by decide⟩
abbrev mX4_forget : MT := (yX4_forget, cX4_forget, 2)
theorem vw_X4_forget : VW mX4_forget (some .int) 0 := ⟨ini_SpringFarms, cd_X4_forget, by decide +kernel, by decide +kernel, by decide +kernel⟩
theorem vv_X4_forget : VVW mX4_forget := ⟨in_X4_forget, se_X4_forget, 4, TX4, 12, rfl, by decide⟩
abbrev mX4_leak : MT := (yX4_leak, cX4_leak, 2)
theorem vw_X4_leak : VW mX4_leak (some .int) 1 := ⟨ini_SpringFarms, cd_X4_leak, by decide +kernel, by decide +kernel, by decide +kernel⟩
theorem vv_X4_leak : VVW mX4_leak := ⟨in_X4_leak, se_X4_leak, 4, TX4, 12, rfl, by decide⟩
abbrev mX4_findLeaks : MT := (yX4_findLeaks, cX4_findLeaks, 4)
theorem vw_X4_findLeaks : VW mX4_findLeaks none 0 := ⟨ini_SpringFarms, cd_X4_findLeaks, by decide +kernel, by decide +kernel, by decide +kernel⟩
theorem vv_X4_findLeaks : VVW mX4_findLeaks := ⟨in_X4_findLeaks, se_X4_findLeaks, 4, TX4, 12, rfl, by decide⟩
abbrev mX4_fitsIf : MT := (yX4_fitsIf, cX4_fitsIf, 5)
theorem vw_X4_fitsIf : VW mX4_fitsIf (some .boolean) 3 := ⟨ini_SpringFarms, cd_X4_fitsIf, by decide +kernel, by decide +kernel, by decide +kernel⟩
theorem vv_X4_fitsIf : VVW mX4_fitsIf := ⟨in_X4_fitsIf, se_X4_fitsIf, 4, TX4, 12, rfl, by decide⟩
abbrev mX4_note : MT := (yX4_note, cX4_note, 2)
theorem vw_X4_note : VW mX4_note none 1 := ⟨ini_SpringFarms, cd_X4_note, by decide +kernel, by decide +kernel, by decide +kernel⟩
theorem vv_X4_note : VVW mX4_note := ⟨in_X4_note, se_X4_note, 4, TX4, 12, rfl, by decide⟩
abbrev mX4_tallyTaken : MT := (yX4_tallyTaken, cX4_tallyTaken, 2)
theorem vw_X4_tallyTaken : VW mX4_tallyTaken none 0 := ⟨ini_SpringFarms, cd_X4_tallyTaken, by decide +kernel, by decide +kernel, by decide +kernel⟩
theorem vv_X4_tallyTaken : VVW mX4_tallyTaken := ⟨in_X4_tallyTaken, se_X4_tallyTaken, 4, TX4, 12, rfl, by decide⟩
abbrev mX4_foundAt : MT := (yX4_foundAt, cX4_foundAt, 2)
theorem vw_X4_foundAt : VW mX4_foundAt (some .int) 1 := ⟨ini_SpringFarms, cd_X4_foundAt, by decide +kernel, by decide +kernel, by decide +kernel⟩
theorem vv_X4_foundAt : VVW mX4_foundAt := ⟨in_X4_foundAt, se_X4_foundAt, 4, TX4, 12, rfl, by decide⟩
abbrev mX4_borer : MT := (yX4_borer, cX4_borer, 4)
theorem vw_X4_borer : VW mX4_borer (some .int) 1 := ⟨ini_SpringFarms, cd_X4_borer, by decide +kernel, by decide +kernel, by decide +kernel⟩
theorem vv_X4_borer : VVW mX4_borer := ⟨in_X4_borer, se_X4_borer, 4, TX4, 12, rfl, by decide⟩
abbrev mX4_listen : MT := (yX4_listen, cX4_listen, 4)
theorem vw_X4_listen : VW mX4_listen (some .int) 1 := ⟨ini_SpringFarms, cd_X4_listen, by decide +kernel, by decide +kernel, by decide +kernel⟩
theorem vv_X4_listen : VVW mX4_listen := ⟨in_X4_listen, se_X4_listen, 4, TX4, 12, rfl, by decide⟩
abbrev mX4_mostLeft : MT := (yX4_mostLeft, cX4_mostLeft, 4)
theorem vw_X4_mostLeft : VW mX4_mostLeft (some .int) 1 := ⟨ini_SpringFarms, cd_X4_mostLeft, by decide +kernel, by decide +kernel, by decide +kernel⟩
theorem vv_X4_mostLeft : VVW mX4_mostLeft := ⟨in_X4_mostLeft, se_X4_mostLeft, 4, TX4, 12, rfl, by decide⟩
abbrev mX4_rests : MT := (yX4_rests, cX4_rests, 6)
theorem vw_X4_rests : VW mX4_rests (some .int) 2 := ⟨ini_SpringFarms, cd_X4_rests, by decide +kernel, by decide +kernel, by decide +kernel⟩
theorem vv_X4_rests : VVW mX4_rests := ⟨in_X4_rests, se_X4_rests, 4, TX4, 12, rfl, by decide⟩
abbrev mJ6_bitCount_0f7a4 : MT := (yJ6_bitCount_0f7a4, cJ6_bitCount_0f7a4, 1)
theorem vw_J6_bitCount_0f7a4 : VW mJ6_bitCount_0f7a4 (some .int) 1 := ⟨ini_java_lang_Integer, cd_J6_bitCount_0f7a4, by decide +kernel, by decide +kernel, by decide +kernel⟩
abbrev mX4_gather : MT := (yX4_gather, cX4_gather, 4)
theorem vw_X4_gather : VW mX4_gather (some .int) 1 := ⟨ini_SpringFarms, cd_X4_gather, by decide +kernel, by decide +kernel, by decide +kernel⟩
theorem vv_X4_gather : VVW mX4_gather := ⟨in_X4_gather, se_X4_gather, 4, TX4, 12, rfl, by decide⟩
abbrev mX4_weighRows : MT := (yX4_weighRows, cX4_weighRows, 6)
theorem vw_X4_weighRows : VW mX4_weighRows (some .int) 1 := ⟨ini_SpringFarms, cd_X4_weighRows, by decide +kernel, by decide +kernel, by decide +kernel⟩
theorem vv_X4_weighRows : VVW mX4_weighRows := ⟨in_X4_weighRows, se_X4_weighRows, 4, TX4, 12, rfl, by decide⟩
abbrev mX4_stride : MT := (yX4_stride, cX4_stride, 4)
theorem vw_X4_stride : VW mX4_stride (some .int) 2 := ⟨ini_SpringFarms, cd_X4_stride, by decide +kernel, by decide +kernel, by decide +kernel⟩
abbrev mX4_isAtRest : MT := (yX4_isAtRest, cX4_isAtRest, 8)
theorem vw_X4_isAtRest : VW mX4_isAtRest (some .boolean) 2 := ⟨ini_SpringFarms, cd_X4_isAtRest, by decide +kernel, by decide +kernel, by decide +kernel⟩
theorem vv_X4_isAtRest : VVW mX4_isAtRest := ⟨in_X4_isAtRest, se_X4_isAtRest, 4, TX4, 12, rfl, by decide⟩
abbrev mX4_asDigits : MT := (yX4_asDigits, cX4_asDigits, 1)
theorem vw_X4_asDigits : VW mX4_asDigits (some .int) 1 := ⟨ini_SpringFarms, cd_X4_asDigits, by decide +kernel, by decide +kernel, by decide +kernel⟩
abbrev mX4_frost : MT := (yX4_frost, cX4_frost, 14)
theorem vw_X4_frost : VW mX4_frost (some .long) 5 := ⟨ini_SpringFarms, cd_X4_frost, by decide +kernel, by decide +kernel, by decide +kernel⟩
theorem vv_X4_frost : VVW mX4_frost := ⟨in_X4_frost, se_X4_frost, 4, TX4, 12, rfl, by decide⟩
abbrev mX4_power : MT := (yX4_power, cX4_power, 5)
theorem vw_X4_power : VW mX4_power (some .long) 2 := ⟨ini_SpringFarms, cd_X4_power, by decide +kernel, by decide +kernel, by decide +kernel⟩
abbrev mX4_commonDivisor : MT := (yX4_commonDivisor, cX4_commonDivisor, 11)
theorem vw_X4_commonDivisor : VW mX4_commonDivisor (some .long) 2 := ⟨ini_SpringFarms, cd_X4_commonDivisor, by decide +kernel, by decide +kernel, by decide +kernel⟩
abbrev mX4_year : MT := (yX4_year, cX4_year, 9)
theorem vw_X4_year : VW mX4_year (some .int) 3 := ⟨ini_SpringFarms, cd_X4_year, by decide +kernel, by decide +kernel, by decide +kernel⟩
theorem vv_X4_year : VVW mX4_year := ⟨in_X4_year, se_X4_year, 4, TX4, 12, rfl, by decide⟩
abbrev mX4_kindOfDraw : MT := (yX4_kindOfDraw, cX4_kindOfDraw, 1)
theorem vw_X4_kindOfDraw : VW mX4_kindOfDraw (some .int) 1 := ⟨ini_SpringFarms, cd_X4_kindOfDraw, by decide +kernel, by decide +kernel, by decide +kernel⟩
abbrev mX2_sum : MT := (yX2_sum, cX2_sum, 4)
theorem vw_X2_sum : VW mX2_sum (some .int) 1 := ⟨ini_SpringFarms_Hour, cd_X2_sum, by decide +kernel, by decide +kernel, by decide +kernel⟩
theorem vv_X2_sum : VVW mX2_sum := ⟨in_X2_sum, se_X2_sum, 2, TX2, 3, rfl, by decide⟩
abbrev mX2_someTookNothing : MT := (yX2_someTookNothing, cX2_someTookNothing, 3)
theorem vw_X2_someTookNothing : VW mX2_someTookNothing (some .boolean) 1 := ⟨ini_SpringFarms_Hour, cd_X2_someTookNothing, by decide +kernel, by decide +kernel, by decide +kernel⟩
theorem vv_X2_someTookNothing : VVW mX2_someTookNothing := ⟨in_X2_someTookNothing, se_X2_someTookNothing, 2, TX2, 3, rfl, by decide⟩
abbrev mX4_image : MT := (yX4_image, cX4_image, 3)
theorem vw_X4_image : VW mX4_image (some .int) 1 := ⟨ini_SpringFarms, cd_X4_image, by decide +kernel, by decide +kernel, by decide +kernel⟩
theorem vv_X4_image : VVW mX4_image := ⟨in_X4_image, se_X4_image, 4, TX4, 12, rfl, by decide⟩
abbrev mX4_restore : MT := (yX4_restore, cX4_restore, 3)
theorem vw_X4_restore : VW mX4_restore (some .int) 1 := ⟨ini_SpringFarms, cd_X4_restore, by decide +kernel, by decide +kernel, by decide +kernel⟩
theorem vv_X4_restore : VVW mX4_restore := ⟨in_X4_restore, se_X4_restore, 4, TX4, 12, rfl, by decide⟩
abbrev mX4_told : MT := (yX4_told, cX4_told, 2)
theorem vw_X4_told : VW mX4_told (some .int) 1 := ⟨ini_SpringFarms, cd_X4_told, by decide +kernel, by decide +kernel, by decide +kernel⟩
theorem vv_X4_told : VVW mX4_told := ⟨in_X4_told, se_X4_told, 4, TX4, 12, rfl, by decide⟩
abbrev mX4_toldOfFarm : MT := (yX4_toldOfFarm, cX4_toldOfFarm, 4)
theorem vw_X4_toldOfFarm : VW mX4_toldOfFarm (some .int) 1 := ⟨ini_SpringFarms, cd_X4_toldOfFarm, by decide +kernel, by decide +kernel, by decide +kernel⟩
theorem vv_X4_toldOfFarm : VVW mX4_toldOfFarm := ⟨in_X4_toldOfFarm, se_X4_toldOfFarm, 4, TX4, 12, rfl, by decide⟩
abbrev mX5_init : MT := (yX5_init, cX5_init, 1)
theorem vw_X5_init : VW mX5_init none 0 := ⟨ini_SpringFarmsModel, cd_X5_init, by decide +kernel, by decide +kernel, by decide +kernel⟩
abbrev mX5_begin : MT := (yX5_begin, cX5_begin, 4)
theorem vw_X5_begin : VW mX5_begin none 1 := ⟨ini_SpringFarmsModel, cd_X5_begin, by decide +kernel, by decide +kernel, by decide +kernel⟩
theorem vv_X5_begin : VVW mX5_begin := ⟨in_X5_begin, se_X5_begin, 5, TX5, 32, rfl, by decide⟩
abbrev mX5_at : MT := (yX5_at, cX5_at, 2)
theorem vw_X5_at : VW mX5_at (some .int) 2 := ⟨ini_SpringFarmsModel, cd_X5_at, by decide +kernel, by decide +kernel, by decide +kernel⟩
abbrev mX5_farms : MT := (yX5_farms, cX5_farms, 3)
theorem vw_X5_farms : VW mX5_farms (some .int) 1 := ⟨ini_SpringFarmsModel, cd_X5_farms, by decide +kernel, by decide +kernel, by decide +kernel⟩
theorem vv_X5_farms : VVW mX5_farms := ⟨in_X5_farms, se_X5_farms, 5, TX5, 32, rfl, by decide⟩
abbrev mX5_in : MT := (yX5_in, cX5_in, 6)
theorem vw_X5_in : VW mX5_in (some .boolean) 3 := ⟨ini_SpringFarmsModel, cd_X5_in, by decide +kernel, by decide +kernel, by decide +kernel⟩
abbrev mX5_farm : MT := (yX5_farm, cX5_farm, 5)
theorem vw_X5_farm : VW mX5_farm (some .int) 3 := ⟨ini_SpringFarmsModel, cd_X5_farm, by decide +kernel, by decide +kernel, by decide +kernel⟩
theorem vv_X5_farm : VVW mX5_farm := ⟨in_X5_farm, se_X5_farm, 5, TX5, 32, rfl, by decide⟩
abbrev mX5_isFarm : MT := (yX5_isFarm, cX5_isFarm, 2)
theorem vw_X5_isFarm : VW mX5_isFarm (some .boolean) 1 := ⟨ini_SpringFarmsModel, cd_X5_isFarm, by decide +kernel, by decide +kernel, by decide +kernel⟩
theorem vv_X5_isFarm : VVW mX5_isFarm := ⟨in_X5_isFarm, se_X5_isFarm, 5, TX5, 32, rfl, by decide⟩
abbrev mX5_greatest : MT := (yX5_greatest, cX5_greatest, 1)
theorem vw_X5_greatest : VW mX5_greatest (some .int) 1 := ⟨ini_SpringFarmsModel, cd_X5_greatest, by decide +kernel, by decide +kernel, by decide +kernel⟩
abbrev mX5_set : MT := (yX5_set, cX5_set, 4)
theorem vw_X5_set : VW mX5_set (some .int) 2 := ⟨ini_SpringFarmsModel, cd_X5_set, by decide +kernel, by decide +kernel, by decide +kernel⟩
theorem vv_X5_set : VVW mX5_set := ⟨in_X5_set, se_X5_set, 5, TX5, 32, rfl, by decide⟩
abbrev mX5_say : MT := (yX5_say, cX5_say, 2)
theorem vw_X5_say : VW mX5_say (some .int) 1 := ⟨ini_SpringFarmsModel, cd_X5_say, by decide +kernel, by decide +kernel, by decide +kernel⟩
theorem vv_X5_say : VVW mX5_say := ⟨in_X5_say, se_X5_say, 5, TX5, 32, rfl, by decide⟩
abbrev mX5_wipe : MT := (yX5_wipe, cX5_wipe, 2)
theorem vw_X5_wipe : VW mX5_wipe (some .int) 0 := ⟨ini_SpringFarmsModel, cd_X5_wipe, by decide +kernel, by decide +kernel, by decide +kernel⟩
theorem vv_X5_wipe : VVW mX5_wipe := ⟨in_X5_wipe, se_X5_wipe, 5, TX5, 32, rfl, by decide⟩
abbrev mX5_fault : MT := (yX5_fault, cX5_fault, 6)
theorem vw_X5_fault : VW mX5_fault (some .int) 0 := ⟨ini_SpringFarmsModel, cd_X5_fault, by decide +kernel, by decide +kernel, by decide +kernel⟩
theorem vv_X5_fault : VVW mX5_fault := ⟨in_X5_fault, se_X5_fault, 5, TX5, 32, rfl, by decide⟩
abbrev mX5_isDeed : MT := (yX5_isDeed, cX5_isDeed, 1)
theorem vw_X5_isDeed : VW mX5_isDeed (some .boolean) 1 := ⟨ini_SpringFarmsModel, cd_X5_isDeed, by decide +kernel, by decide +kernel, by decide +kernel⟩
abbrev mX5_kindOf : MT := (yX5_kindOf, cX5_kindOf, 1)
theorem vw_X5_kindOf : VW mX5_kindOf (some .int) 1 := ⟨ini_SpringFarmsModel, cd_X5_kindOf, by decide +kernel, by decide +kernel, by decide +kernel⟩
abbrev mX5_judge : MT := (yX5_judge, cX5_judge, 3)
theorem vw_X5_judge : VW mX5_judge (some .int) 1 := ⟨ini_SpringFarmsModel, cd_X5_judge, by decide +kernel, by decide +kernel, by decide +kernel⟩
theorem vv_X5_judge : VVW mX5_judge := ⟨in_X5_judge, se_X5_judge, 5, TX5, 32, rfl, by decide⟩
abbrev mX5_refusal : MT := (yX5_refusal, cX5_refusal, 1)
theorem vw_X5_refusal : VW mX5_refusal (some .int) 0 := ⟨ini_SpringFarmsModel, cd_X5_refusal, by decide +kernel, by decide +kernel, by decide +kernel⟩
theorem vv_X5_refusal : VVW mX5_refusal := ⟨in_X5_refusal, se_X5_refusal, 5, TX5, 32, rfl, by decide⟩
abbrev mX5_keepNow : MT := (yX5_keepNow, cX5_keepNow, 2)
theorem vw_X5_keepNow : VW mX5_keepNow none 0 := ⟨ini_SpringFarmsModel, cd_X5_keepNow, by decide +kernel, by decide +kernel, by decide +kernel⟩
theorem vv_X5_keepNow : VVW mX5_keepNow := ⟨in_X5_keepNow, se_X5_keepNow, 5, TX5, 32, rfl, by decide⟩
abbrev mX5_goDay : MT := (yX5_goDay, cX5_goDay, 3)
theorem vw_X5_goDay : VW mX5_goDay none 0 := ⟨ini_SpringFarmsModel, cd_X5_goDay, by decide +kernel, by decide +kernel, by decide +kernel⟩
theorem vv_X5_goDay : VVW mX5_goDay := ⟨in_X5_goDay, se_X5_goDay, 5, TX5, 32, rfl, by decide⟩
abbrev mX5_lookWhoHas : MT := (yX5_lookWhoHas, cX5_lookWhoHas, 3)
theorem vw_X5_lookWhoHas : VW mX5_lookWhoHas none 0 := ⟨ini_SpringFarmsModel, cd_X5_lookWhoHas, by decide +kernel, by decide +kernel, by decide +kernel⟩
theorem vv_X5_lookWhoHas : VVW mX5_lookWhoHas := ⟨in_X5_lookWhoHas, se_X5_lookWhoHas, 5, TX5, 32, rfl, by decide⟩
abbrev mX5_passHour : MT := (yX5_passHour, cX5_passHour, 3)
theorem vw_X5_passHour : VW mX5_passHour none 1 := ⟨ini_SpringFarmsModel, cd_X5_passHour, by decide +kernel, by decide +kernel, by decide +kernel⟩
theorem vv_X5_passHour : VVW mX5_passHour := ⟨in_X5_passHour, se_X5_passHour, 5, TX5, 32, rfl, by decide⟩
abbrev mX5_flow : MT := (yX5_flow, cX5_flow, 4)
theorem vw_X5_flow : VW mX5_flow none 1 := ⟨ini_SpringFarmsModel, cd_X5_flow, by decide +kernel, by decide +kernel, by decide +kernel⟩
theorem vv_X5_flow : VVW mX5_flow := ⟨in_X5_flow, se_X5_flow, 5, TX5, 32, rfl, by decide⟩
abbrev mX5_takenAt : MT := (yX5_takenAt, cX5_takenAt, 6)
theorem vw_X5_takenAt : VW mX5_takenAt (some .int) 3 := ⟨ini_SpringFarmsModel, cd_X5_takenAt, by decide +kernel, by decide +kernel, by decide +kernel⟩
theorem vv_X5_takenAt : VVW mX5_takenAt := ⟨in_X5_takenAt, se_X5_takenAt, 5, TX5, 32, rfl, by decide⟩
abbrev mX5_deed : MT := (yX5_deed, cX5_deed, 4)
theorem vw_X5_deed : VW mX5_deed (some .int) 2 := ⟨ini_SpringFarmsModel, cd_X5_deed, by decide +kernel, by decide +kernel, by decide +kernel⟩
theorem vv_X5_deed : VVW mX5_deed := ⟨in_X5_deed, se_X5_deed, 5, TX5, 32, rfl, by decide⟩
abbrev mX5_putBack : MT := (yX5_putBack, cX5_putBack, 2)
theorem vw_X5_putBack : VW mX5_putBack none 0 := ⟨ini_SpringFarmsModel, cd_X5_putBack, by decide +kernel, by decide +kernel, by decide +kernel⟩
theorem vv_X5_putBack : VVW mX5_putBack := ⟨in_X5_putBack, se_X5_putBack, 5, TX5, 32, rfl, by decide⟩
abbrev mX5_behind : MT := (yX5_behind, cX5_behind, 5)
theorem vw_X5_behind : VW mX5_behind (some .int) 2 := ⟨ini_SpringFarmsModel, cd_X5_behind, by decide +kernel, by decide +kernel, by decide +kernel⟩
theorem vv_X5_behind : VVW mX5_behind := ⟨in_X5_behind, se_X5_behind, 5, TX5, 32, rfl, by decide⟩
abbrev mX5_ditch : MT := (yX5_ditch, cX5_ditch, 3)
theorem vw_X5_ditch : VW mX5_ditch (some .int) 0 := ⟨ini_SpringFarmsModel, cd_X5_ditch, by decide +kernel, by decide +kernel, by decide +kernel⟩
theorem vv_X5_ditch : VVW mX5_ditch := ⟨in_X5_ditch, se_X5_ditch, 5, TX5, 32, rfl, by decide⟩
abbrev mX5_done : MT := (yX5_done, cX5_done, 2)
theorem vw_X5_done : VW mX5_done (some .int) 0 := ⟨ini_SpringFarmsModel, cd_X5_done, by decide +kernel, by decide +kernel, by decide +kernel⟩
theorem vv_X5_done : VVW mX5_done := ⟨in_X5_done, se_X5_done, 5, TX5, 32, rfl, by decide⟩
abbrev mX5_first : MT := (yX5_first, cX5_first, 3)
theorem vw_X5_first : VW mX5_first (some .int) 1 := ⟨ini_SpringFarmsModel, cd_X5_first, by decide +kernel, by decide +kernel, by decide +kernel⟩
theorem vv_X5_first : VVW mX5_first := ⟨in_X5_first, se_X5_first, 5, TX5, 32, rfl, by decide⟩
abbrev mX5_takes : MT := (yX5_takes, cX5_takes, 3)
theorem vw_X5_takes : VW mX5_takes (some .int) 2 := ⟨ini_SpringFarmsModel, cd_X5_takes, by decide +kernel, by decide +kernel, by decide +kernel⟩
theorem vv_X5_takes : VVW mX5_takes := ⟨in_X5_takes, se_X5_takes, 5, TX5, 32, rfl, by decide⟩
abbrev mX5_takesIf : MT := (yX5_takesIf, cX5_takesIf, 3)
theorem vw_X5_takesIf : VW mX5_takesIf (some .int) 2 := ⟨ini_SpringFarmsModel, cd_X5_takesIf, by decide +kernel, by decide +kernel, by decide +kernel⟩
theorem vv_X5_takesIf : VVW mX5_takesIf := ⟨in_X5_takesIf, se_X5_takesIf, 5, TX5, 32, rfl, by decide⟩
abbrev mX5_robbed : MT := (yX5_robbed, cX5_robbed, 5)
theorem vw_X5_robbed : VW mX5_robbed (some .int) 1 := ⟨ini_SpringFarmsModel, cd_X5_robbed, by decide +kernel, by decide +kernel, by decide +kernel⟩
theorem vv_X5_robbed : VVW mX5_robbed := ⟨in_X5_robbed, se_X5_robbed, 5, TX5, 32, rfl, by decide⟩
abbrev mX5_layNow : MT := (yX5_layNow, cX5_layNow, 2)
theorem vw_X5_layNow : VW mX5_layNow none 0 := ⟨ini_SpringFarmsModel, cd_X5_layNow, by decide +kernel, by decide +kernel, by decide +kernel⟩
theorem vv_X5_layNow : VVW mX5_layNow := ⟨in_X5_layNow, se_X5_layNow, 5, TX5, 32, rfl, by decide⟩
abbrev mX5_hours : MT := (yX5_hours, cX5_hours, 1)
theorem vw_X5_hours : VW mX5_hours (some .int) 0 := ⟨ini_SpringFarmsModel, cd_X5_hours, by decide +kernel, by decide +kernel, by decide +kernel⟩
theorem vv_X5_hours : VVW mX5_hours := ⟨in_X5_hours, se_X5_hours, 5, TX5, 32, rfl, by decide⟩
abbrev mX5_hoursNow : MT := (yX5_hoursNow, cX5_hoursNow, 5)
theorem vw_X5_hoursNow : VW mX5_hoursNow (some .int) 0 := ⟨ini_SpringFarmsModel, cd_X5_hoursNow, by decide +kernel, by decide +kernel, by decide +kernel⟩
theorem vv_X5_hoursNow : VVW mX5_hoursNow := ⟨in_X5_hoursNow, se_X5_hoursNow, 5, TX5, 32, rfl, by decide⟩
abbrev mX5_wanting : MT := (yX5_wanting, cX5_wanting, 3)
theorem vw_X5_wanting : VW mX5_wanting (some .int) 1 := ⟨ini_SpringFarmsModel, cd_X5_wanting, by decide +kernel, by decide +kernel, by decide +kernel⟩
theorem vv_X5_wanting : VVW mX5_wanting := ⟨in_X5_wanting, se_X5_wanting, 5, TX5, 32, rfl, by decide⟩
abbrev mX5_spring : MT := (yX5_spring, cX5_spring, 5)
theorem vw_X5_spring : VW mX5_spring (some .int) 1 := ⟨ini_SpringFarmsModel, cd_X5_spring, by decide +kernel, by decide +kernel, by decide +kernel⟩
theorem vv_X5_spring : VVW mX5_spring := ⟨in_X5_spring, se_X5_spring, 5, TX5, 32, rfl, by decide⟩
abbrev mX5_isTerm : MT := (yX5_isTerm, cX5_isTerm, 1)
theorem vw_X5_isTerm : VW mX5_isTerm (some .boolean) 1 := ⟨ini_SpringFarmsModel, cd_X5_isTerm, by decide +kernel, by decide +kernel, by decide +kernel⟩
abbrev mX5_isEnoughIn : MT := (yX5_isEnoughIn, cX5_isEnoughIn, 3)
theorem vw_X5_isEnoughIn : VW mX5_isEnoughIn (some .boolean) 1 := ⟨ini_SpringFarmsModel, cd_X5_isEnoughIn, by decide +kernel, by decide +kernel, by decide +kernel⟩
theorem vv_X5_isEnoughIn : VVW mX5_isEnoughIn := ⟨in_X5_isEnoughIn, se_X5_isEnoughIn, 5, TX5, 32, rfl, by decide⟩
abbrev mX5_narrow : MT := (yX5_narrow, cX5_narrow, 8)
theorem vw_X5_narrow : VW mX5_narrow (some .int) 2 := ⟨ini_SpringFarmsModel, cd_X5_narrow, by decide +kernel, by decide +kernel, by decide +kernel⟩
theorem vv_X5_narrow : VVW mX5_narrow := ⟨in_X5_narrow, se_X5_narrow, 5, TX5, 32, rfl, by decide⟩
abbrev mX5_highest : MT := (yX5_highest, cX5_highest, 6)
theorem vw_X5_highest : VW mX5_highest (some .int) 2 := ⟨ini_SpringFarmsModel, cd_X5_highest, by decide +kernel, by decide +kernel, by decide +kernel⟩
theorem vv_X5_highest : VVW mX5_highest := ⟨in_X5_highest, se_X5_highest, 5, TX5, 32, rfl, by decide⟩
abbrev mX5_bored : MT := (yX5_bored, cX5_bored, 8)
theorem vw_X5_bored : VW mX5_bored (some .int) 3 := ⟨ini_SpringFarmsModel, cd_X5_bored, by decide +kernel, by decide +kernel, by decide +kernel⟩
theorem vv_X5_bored : VVW mX5_bored := ⟨in_X5_bored, se_X5_bored, 5, TX5, 32, rfl, by decide⟩
abbrev mX5_takesNew : MT := (yX5_takesNew, cX5_takesNew, 9)
theorem vw_X5_takesNew : VW mX5_takesNew (some .int) 3 := ⟨ini_SpringFarmsModel, cd_X5_takesNew, by decide +kernel, by decide +kernel, by decide +kernel⟩
theorem vv_X5_takesNew : VVW mX5_takesNew := ⟨in_X5_takesNew, se_X5_takesNew, 5, TX5, 32, rfl, by decide⟩
abbrev mX5_fair : MT := (yX5_fair, cX5_fair, 3)
theorem vw_X5_fair : VW mX5_fair (some .int) 0 := ⟨ini_SpringFarmsModel, cd_X5_fair, by decide +kernel, by decide +kernel, by decide +kernel⟩
theorem vv_X5_fair : VVW mX5_fair := ⟨in_X5_fair, se_X5_fair, 5, TX5, 32, rfl, by decide⟩
abbrev mX5_isFairBy : MT := (yX5_isFairBy, cX5_isFairBy, 5)
theorem vw_X5_isFairBy : VW mX5_isFairBy (some .boolean) 1 := ⟨ini_SpringFarmsModel, cd_X5_isFairBy, by decide +kernel, by decide +kernel, by decide +kernel⟩
theorem vv_X5_isFairBy : VVW mX5_isFairBy := ⟨in_X5_isFairBy, se_X5_isFairBy, 5, TX5, 32, rfl, by decide⟩
abbrev mX5_dry : MT := (yX5_dry, cX5_dry, 4)
theorem vw_X5_dry : VW mX5_dry (some .int) 1 := ⟨ini_SpringFarmsModel, cd_X5_dry, by decide +kernel, by decide +kernel, by decide +kernel⟩
theorem vv_X5_dry : VVW mX5_dry := ⟨in_X5_dry, se_X5_dry, 5, TX5, 32, rfl, by decide⟩
abbrev mX5_seen : MT := (yX5_seen, cX5_seen, 3)
theorem vw_X5_seen : VW mX5_seen (some .int) 2 := ⟨ini_SpringFarmsModel, cd_X5_seen, by decide +kernel, by decide +kernel, by decide +kernel⟩
theorem vv_X5_seen : VVW mX5_seen := ⟨in_X5_seen, se_X5_seen, 5, TX5, 32, rfl, by decide⟩
abbrev mX5_forget : MT := (yX5_forget, cX5_forget, 2)
theorem vw_X5_forget : VW mX5_forget (some .int) 0 := ⟨ini_SpringFarmsModel, cd_X5_forget, by decide +kernel, by decide +kernel, by decide +kernel⟩
theorem vv_X5_forget : VVW mX5_forget := ⟨in_X5_forget, se_X5_forget, 5, TX5, 32, rfl, by decide⟩
abbrev mX5_leak : MT := (yX5_leak, cX5_leak, 5)
theorem vw_X5_leak : VW mX5_leak (some .int) 1 := ⟨ini_SpringFarmsModel, cd_X5_leak, by decide +kernel, by decide +kernel, by decide +kernel⟩
theorem vv_X5_leak : VVW mX5_leak := ⟨in_X5_leak, se_X5_leak, 5, TX5, 32, rfl, by decide⟩
abbrev mX5_leaksBy : MT := (yX5_leaksBy, cX5_leaksBy, 4)
theorem vw_X5_leaksBy : VW mX5_leaksBy (some .boolean) 2 := ⟨ini_SpringFarmsModel, cd_X5_leaksBy, by decide +kernel, by decide +kernel, by decide +kernel⟩
theorem vv_X5_leaksBy : VVW mX5_leaksBy := ⟨in_X5_leaksBy, se_X5_leaksBy, 5, TX5, 32, rfl, by decide⟩
abbrev mX5_isHeardSo : MT := (yX5_isHeardSo, cX5_isHeardSo, 3)
theorem vw_X5_isHeardSo : VW mX5_isHeardSo (some .boolean) 0 := ⟨ini_SpringFarmsModel, cd_X5_isHeardSo, by decide +kernel, by decide +kernel, by decide +kernel⟩
theorem vv_X5_isHeardSo : VVW mX5_isHeardSo := ⟨in_X5_isHeardSo, se_X5_isHeardSo, 5, TX5, 32, rfl, by decide⟩
abbrev mX5_borer : MT := (yX5_borer, cX5_borer, 7)
theorem vw_X5_borer : VW mX5_borer (some .int) 1 := ⟨ini_SpringFarmsModel, cd_X5_borer, by decide +kernel, by decide +kernel, by decide +kernel⟩
theorem vv_X5_borer : VVW mX5_borer := ⟨in_X5_borer, se_X5_borer, 5, TX5, 32, rfl, by decide⟩
abbrev mX5_listen : MT := (yX5_listen, cX5_listen, 5)
theorem vw_X5_listen : VW mX5_listen (some .int) 1 := ⟨ini_SpringFarmsModel, cd_X5_listen, by decide +kernel, by decide +kernel, by decide +kernel⟩
theorem vv_X5_listen : VVW mX5_listen := ⟨in_X5_listen, se_X5_listen, 5, TX5, 32, rfl, by decide⟩
abbrev mX5_mostLeftAt : MT := (yX5_mostLeftAt, cX5_mostLeftAt, 4)
theorem vw_X5_mostLeftAt : VW mX5_mostLeftAt (some .int) 1 := ⟨ini_SpringFarmsModel, cd_X5_mostLeftAt, by decide +kernel, by decide +kernel, by decide +kernel⟩
theorem vv_X5_mostLeftAt : VVW mX5_mostLeftAt := ⟨in_X5_mostLeftAt, se_X5_mostLeftAt, 5, TX5, 32, rfl, by decide⟩
abbrev mX5_rests : MT := (yX5_rests, cX5_rests, 8)
theorem vw_X5_rests : VW mX5_rests (some .int) 2 := ⟨ini_SpringFarmsModel, cd_X5_rests, by decide +kernel, by decide +kernel, by decide +kernel⟩
theorem vv_X5_rests : VVW mX5_rests := ⟨in_X5_rests, se_X5_rests, 5, TX5, 32, rfl, by decide⟩
abbrev mX5_ones : MT := (yX5_ones, cX5_ones, 3)
theorem vw_X5_ones : VW mX5_ones (some .int) 1 := ⟨ini_SpringFarmsModel, cd_X5_ones, by decide +kernel, by decide +kernel, by decide +kernel⟩
abbrev mX5_layMembers : MT := (yX5_layMembers, cX5_layMembers, 3)
theorem vw_X5_layMembers : VW mX5_layMembers none 1 := ⟨ini_SpringFarmsModel, cd_X5_layMembers, by decide +kernel, by decide +kernel, by decide +kernel⟩
theorem vv_X5_layMembers : VVW mX5_layMembers := ⟨in_X5_layMembers, se_X5_layMembers, 5, TX5, 32, rfl, by decide⟩
abbrev mX5_layWidths : MT := (yX5_layWidths, cX5_layWidths, 6)
theorem vw_X5_layWidths : VW mX5_layWidths (some .int) 1 := ⟨ini_SpringFarmsModel, cd_X5_layWidths, by decide +kernel, by decide +kernel, by decide +kernel⟩
theorem vv_X5_layWidths : VVW mX5_layWidths := ⟨in_X5_layWidths, se_X5_layWidths, 5, TX5, 32, rfl, by decide⟩
abbrev mX5_isRest : MT := (yX5_isRest, cX5_isRest, 5)
theorem vw_X5_isRest : VW mX5_isRest (some .boolean) 0 := ⟨ini_SpringFarmsModel, cd_X5_isRest, by decide +kernel, by decide +kernel, by decide +kernel⟩
theorem vv_X5_isRest : VVW mX5_isRest := ⟨in_X5_isRest, se_X5_isRest, 5, TX5, 32, rfl, by decide⟩
abbrev mX5_gainOf : MT := (yX5_gainOf, cX5_gainOf, 4)
theorem vw_X5_gainOf : VW mX5_gainOf (some .int) 2 := ⟨ini_SpringFarmsModel, cd_X5_gainOf, by decide +kernel, by decide +kernel, by decide +kernel⟩
theorem vv_X5_gainOf : VVW mX5_gainOf := ⟨in_X5_gainOf, se_X5_gainOf, 5, TX5, 32, rfl, by decide⟩
abbrev mX5_frost : MT := (yX5_frost, cX5_frost, 14)
theorem vw_X5_frost : VW mX5_frost (some .long) 5 := ⟨ini_SpringFarmsModel, cd_X5_frost, by decide +kernel, by decide +kernel, by decide +kernel⟩
theorem vv_X5_frost : VVW mX5_frost := ⟨in_X5_frost, se_X5_frost, 5, TX5, 32, rfl, by decide⟩
abbrev mX5_power : MT := (yX5_power, cX5_power, 5)
theorem vw_X5_power : VW mX5_power (some .long) 2 := ⟨ini_SpringFarmsModel, cd_X5_power, by decide +kernel, by decide +kernel, by decide +kernel⟩
abbrev mX5_lowest : MT := (yX5_lowest, cX5_lowest, 11)
theorem vw_X5_lowest : VW mX5_lowest (some .long) 3 := ⟨ini_SpringFarmsModel, cd_X5_lowest, by decide +kernel, by decide +kernel, by decide +kernel⟩
abbrev mX5_year : MT := (yX5_year, cX5_year, 11)
theorem vw_X5_year : VW mX5_year (some .int) 3 := ⟨ini_SpringFarmsModel, cd_X5_year, by decide +kernel, by decide +kernel, by decide +kernel⟩
theorem vv_X5_year : VVW mX5_year := ⟨in_X5_year, se_X5_year, 5, TX5, 32, rfl, by decide⟩
abbrev mX5_kindBy : MT := (yX5_kindBy, cX5_kindBy, 1)
theorem vw_X5_kindBy : VW mX5_kindBy (some .int) 1 := ⟨ini_SpringFarmsModel, cd_X5_kindBy, by decide +kernel, by decide +kernel, by decide +kernel⟩
abbrev mX5_image : MT := (yX5_image, cX5_image, 2)
theorem vw_X5_image : VW mX5_image (some .int) 1 := ⟨ini_SpringFarmsModel, cd_X5_image, by decide +kernel, by decide +kernel, by decide +kernel⟩
theorem vv_X5_image : VVW mX5_image := ⟨in_X5_image, se_X5_image, 5, TX5, 32, rfl, by decide⟩
abbrev mX5_passAll : MT := (yX5_passAll, cX5_passAll, 2)
theorem vw_X5_passAll : VW mX5_passAll none 0 := ⟨ini_SpringFarmsModel, cd_X5_passAll, by decide +kernel, by decide +kernel, by decide +kernel⟩
theorem vv_X5_passAll : VVW mX5_passAll := ⟨in_X5_passAll, se_X5_passAll, 5, TX5, 32, rfl, by decide⟩
abbrev mX5_pass : MT := (yX5_pass, cX5_pass, 3)
theorem vw_X5_pass : VW mX5_pass (some .int) 1 := ⟨ini_SpringFarmsModel, cd_X5_pass, by decide +kernel, by decide +kernel, by decide +kernel⟩
theorem vv_X5_pass : VVW mX5_pass := ⟨in_X5_pass, se_X5_pass, 5, TX5, 32, rfl, by decide⟩
abbrev mX5_restore : MT := (yX5_restore, cX5_restore, 2)
theorem vw_X5_restore : VW mX5_restore (some .int) 1 := ⟨ini_SpringFarmsModel, cd_X5_restore, by decide +kernel, by decide +kernel, by decide +kernel⟩
theorem vv_X5_restore : VVW mX5_restore := ⟨in_X5_restore, se_X5_restore, 5, TX5, 32, rfl, by decide⟩
abbrev mX5_told : MT := (yX5_told, cX5_told, 3)
theorem vw_X5_told : VW mX5_told (some .int) 1 := ⟨ini_SpringFarmsModel, cd_X5_told, by decide +kernel, by decide +kernel, by decide +kernel⟩
theorem vv_X5_told : VVW mX5_told := ⟨in_X5_told, se_X5_told, 5, TX5, 32, rfl, by decide⟩
end
section
/-! ===== what each instruction is ===== -/
theorem dX0_init_0 : decode cX0_init 0 = .ok (.aload_n 0, 1) := by decide +kernel
theorem dX0_init_1 : decode cX0_init 1 = .ok (.invokespecial 3, 3) := by decide +kernel
theorem dX0_init_4 : decode cX0_init 4 = .ok (.aload_n 0, 1) := by decide +kernel
theorem dX0_init_5 : decode cX0_init 5 = .ok (.new 9, 3) := by decide +kernel
theorem dX0_init_8 : decode cX0_init 8 = .ok (.dup, 1) := by decide +kernel
theorem dX0_init_9 : decode cX0_init 9 = .ok (.invokespecial 11, 3) := by decide +kernel
theorem dX0_init_12 : decode cX0_init 12 = .ok (.putfield 12, 3) := by decide +kernel
theorem dX0_init_15 : decode cX0_init 15 = .ok (.aload_n 0, 1) := by decide +kernel
theorem dX0_init_16 : decode cX0_init 16 = .ok (.new 18, 3) := by decide +kernel
theorem dX0_init_19 : decode cX0_init 19 = .ok (.dup, 1) := by decide +kernel
theorem dX0_init_20 : decode cX0_init 20 = .ok (.invokespecial 20, 3) := by decide +kernel
theorem dX0_init_23 : decode cX0_init 23 = .ok (.putfield 21, 3) := by decide +kernel
theorem dX0_init_26 : decode cX0_init 26 = .ok (.aload_n 0, 1) := by decide +kernel
theorem dX0_init_27 : decode cX0_init 27 = .ok (.bipush 9, 2) := by decide +kernel
theorem dX0_init_29 : decode cX0_init 29 = .ok (.newarray .int, 2) := by decide +kernel
theorem dX0_init_31 : decode cX0_init 31 = .ok (.putfield 25, 3) := by decide +kernel
theorem dX0_init_34 : decode cX0_init 34 = .ok (.return_, 1) := by decide +kernel
theorem dX0_live_0 : decode cX0_live 0 = .ok (.aload_n 0, 1) := by decide +kernel
theorem dX0_live_1 : decode cX0_live 1 = .ok (.getfield 12, 3) := by decide +kernel
theorem dX0_live_4 : decode cX0_live 4 = .ok (.aload_n 1, 1) := by decide +kernel
theorem dX0_live_5 : decode cX0_live 5 = .ok (.invokevirtual 29, 3) := by decide +kernel
theorem dX0_live_8 : decode cX0_live 8 = .ok (.aload_n 0, 1) := by decide +kernel
theorem dX0_live_9 : decode cX0_live 9 = .ok (.bipush (-6), 2) := by decide +kernel
theorem dX0_live_11 : decode cX0_live 11 = .ok (.putfield 33, 3) := by decide +kernel
theorem dX0_live_14 : decode cX0_live 14 = .ok (.aload_n 0, 1) := by decide +kernel
theorem dX0_live_15 : decode cX0_live 15 = .ok (.bipush (-6), 2) := by decide +kernel
theorem dX0_live_17 : decode cX0_live 17 = .ok (.putfield 37, 3) := by decide +kernel
theorem dX0_live_20 : decode cX0_live 20 = .ok (.aload_n 0, 1) := by decide +kernel
theorem dX0_live_21 : decode cX0_live 21 = .ok (.iconst 0, 1) := by decide +kernel
theorem dX0_live_22 : decode cX0_live 22 = .ok (.putfield 40, 3) := by decide +kernel
theorem dX0_live_25 : decode cX0_live 25 = .ok (.iconst 0, 1) := by decide +kernel
theorem dX0_live_26 : decode cX0_live 26 = .ok (.istore_n 3, 1) := by decide +kernel
theorem dX0_live_27 : decode cX0_live 27 = .ok (.iload_n 3, 1) := by decide +kernel
theorem dX0_live_28 : decode cX0_live 28 = .ok (.bipush 9, 2) := by decide +kernel
theorem dX0_live_30 : decode cX0_live 30 = .ok (.if_icmp .ge 17, 3) := by decide +kernel
theorem dX0_live_33 : decode cX0_live 33 = .ok (.aload_n 0, 1) := by decide +kernel
theorem dX0_live_34 : decode cX0_live 34 = .ok (.getfield 25, 3) := by decide +kernel
theorem dX0_live_37 : decode cX0_live 37 = .ok (.iload_n 3, 1) := by decide +kernel
theorem dX0_live_38 : decode cX0_live 38 = .ok (.bipush (-6), 2) := by decide +kernel
theorem dX0_live_40 : decode cX0_live 40 = .ok (.iastore, 1) := by decide +kernel
theorem dX0_live_41 : decode cX0_live 41 = .ok (.iinc 3 1, 3) := by decide +kernel
theorem dX0_live_44 : decode cX0_live 44 = .ok (.goto (-17), 3) := by decide +kernel
theorem dX0_live_47 : decode cX0_live 47 = .ok (.aload_n 0, 1) := by decide +kernel
theorem dX0_live_48 : decode cX0_live 48 = .ok (.invokevirtual 43, 3) := by decide +kernel
theorem dX0_live_51 : decode cX0_live 51 = .ok (.iconst 0, 1) := by decide +kernel
theorem dX0_live_52 : decode cX0_live 52 = .ok (.istore_n 3, 1) := by decide +kernel
theorem dX0_live_53 : decode cX0_live 53 = .ok (.iload_n 3, 1) := by decide +kernel
theorem dX0_live_54 : decode cX0_live 54 = .ok (.aload_n 2, 1) := by decide +kernel
theorem dX0_live_55 : decode cX0_live 55 = .ok (.getfield 46, 3) := by decide +kernel
theorem dX0_live_58 : decode cX0_live 58 = .ok (.if_icmp .ge 63, 3) := by decide +kernel
theorem dX0_live_61 : decode cX0_live 61 = .ok (.aload_n 0, 1) := by decide +kernel
theorem dX0_live_62 : decode cX0_live 62 = .ok (.getfield 12, 3) := by decide +kernel
theorem dX0_live_65 : decode cX0_live 65 = .ok (.aload_n 2, 1) := by decide +kernel
theorem dX0_live_66 : decode cX0_live 66 = .ok (.getfield 51, 3) := by decide +kernel
theorem dX0_live_69 : decode cX0_live 69 = .ok (.iload_n 3, 1) := by decide +kernel
theorem dX0_live_70 : decode cX0_live 70 = .ok (.iaload, 1) := by decide +kernel
theorem dX0_live_71 : decode cX0_live 71 = .ok (.aload_n 2, 1) := by decide +kernel
theorem dX0_live_72 : decode cX0_live 72 = .ok (.getfield 54, 3) := by decide +kernel
theorem dX0_live_75 : decode cX0_live 75 = .ok (.iload_n 3, 1) := by decide +kernel
theorem dX0_live_76 : decode cX0_live 76 = .ok (.iaload, 1) := by decide +kernel
theorem dX0_live_77 : decode cX0_live 77 = .ok (.invokevirtual 57, 3) := by decide +kernel
theorem dX0_live_80 : decode cX0_live 80 = .ok (.istore 4, 2) := by decide +kernel
theorem dX0_live_82 : decode cX0_live 82 = .ok (.iload 4, 2) := by decide +kernel
theorem dX0_live_84 : decode cX0_live 84 = .ok (.ifCond .eq 15, 3) := by decide +kernel
theorem dX0_live_87 : decode cX0_live 87 = .ok (.aload_n 0, 1) := by decide +kernel
theorem dX0_live_88 : decode cX0_live 88 = .ok (.iload_n 3, 1) := by decide +kernel
theorem dX0_live_89 : decode cX0_live 89 = .ok (.putfield 33, 3) := by decide +kernel
theorem dX0_live_92 : decode cX0_live 92 = .ok (.aload_n 0, 1) := by decide +kernel
theorem dX0_live_93 : decode cX0_live 93 = .ok (.iload 4, 2) := by decide +kernel
theorem dX0_live_95 : decode cX0_live 95 = .ok (.putfield 37, 3) := by decide +kernel
theorem dX0_live_98 : decode cX0_live 98 = .ok (.return_, 1) := by decide +kernel
theorem dX0_live_99 : decode cX0_live 99 = .ok (.aload_n 0, 1) := by decide +kernel
theorem dX0_live_100 : decode cX0_live 100 = .ok (.aload_n 2, 1) := by decide +kernel
theorem dX0_live_101 : decode cX0_live 101 = .ok (.getfield 51, 3) := by decide +kernel
theorem dX0_live_104 : decode cX0_live 104 = .ok (.iload_n 3, 1) := by decide +kernel
theorem dX0_live_105 : decode cX0_live 105 = .ok (.iaload, 1) := by decide +kernel
theorem dX0_live_106 : decode cX0_live 106 = .ok (.aload_n 2, 1) := by decide +kernel
theorem dX0_live_107 : decode cX0_live 107 = .ok (.getfield 54, 3) := by decide +kernel
theorem dX0_live_110 : decode cX0_live 110 = .ok (.iload_n 3, 1) := by decide +kernel
theorem dX0_live_111 : decode cX0_live 111 = .ok (.iaload, 1) := by decide +kernel
theorem dX0_live_112 : decode cX0_live 112 = .ok (.invokevirtual 61, 3) := by decide +kernel
theorem dX0_live_115 : decode cX0_live 115 = .ok (.iinc 3 1, 3) := by decide +kernel
theorem dX0_live_118 : decode cX0_live 118 = .ok (.goto (-65), 3) := by decide +kernel
theorem dX0_live_121 : decode cX0_live 121 = .ok (.return_, 1) := by decide +kernel
theorem dX0_pass_0 : decode cX0_pass 0 = .ok (.iload_n 1, 1) := by decide +kernel
theorem dX0_pass_1 : decode cX0_pass 1 = .ok (.iconst 3, 1) := by decide +kernel
theorem dX0_pass_2 : decode cX0_pass 2 = .ok (.if_icmp .le 13, 3) := by decide +kernel
theorem dX0_pass_5 : decode cX0_pass 5 = .ok (.aload_n 0, 1) := by decide +kernel
theorem dX0_pass_6 : decode cX0_pass 6 = .ok (.getfield 12, 3) := by decide +kernel
theorem dX0_pass_9 : decode cX0_pass 9 = .ok (.iload_n 1, 1) := by decide +kernel
theorem dX0_pass_10 : decode cX0_pass 10 = .ok (.iload_n 2, 1) := by decide +kernel
theorem dX0_pass_11 : decode cX0_pass 11 = .ok (.invokevirtual 65, 3) := by decide +kernel
theorem dX0_pass_14 : decode cX0_pass 14 = .ok (.return_, 1) := by decide +kernel
theorem dX0_pass_15 : decode cX0_pass 15 = .ok (.aload_n 0, 1) := by decide +kernel
theorem dX0_pass_16 : decode cX0_pass 16 = .ok (.getfield 21, 3) := by decide +kernel
theorem dX0_pass_19 : decode cX0_pass 19 = .ok (.aload_n 0, 1) := by decide +kernel
theorem dX0_pass_20 : decode cX0_pass 20 = .ok (.getfield 12, 3) := by decide +kernel
theorem dX0_pass_23 : decode cX0_pass 23 = .ok (.iload_n 1, 1) := by decide +kernel
theorem dX0_pass_24 : decode cX0_pass 24 = .ok (.invokevirtual 68, 3) := by decide +kernel
theorem dX0_pass_27 : decode cX0_pass 27 = .ok (.aload_n 0, 1) := by decide +kernel
theorem dX0_pass_28 : decode cX0_pass 28 = .ok (.getfield 12, 3) := by decide +kernel
theorem dX0_pass_31 : decode cX0_pass 31 = .ok (.aload_n 0, 1) := by decide +kernel
theorem dX0_pass_32 : decode cX0_pass 32 = .ok (.getfield 21, 3) := by decide +kernel
theorem dX0_pass_35 : decode cX0_pass 35 = .ok (.invokevirtual 72, 3) := by decide +kernel
theorem dX0_pass_38 : decode cX0_pass 38 = .ok (.aload_n 0, 1) := by decide +kernel
theorem dX0_pass_39 : decode cX0_pass 39 = .ok (.dup, 1) := by decide +kernel
theorem dX0_pass_40 : decode cX0_pass 40 = .ok (.getfield 40, 3) := by decide +kernel
theorem dX0_pass_43 : decode cX0_pass 43 = .ok (.iconst 1, 1) := by decide +kernel
theorem dX0_pass_44 : decode cX0_pass 44 = .ok (.iadd, 1) := by decide +kernel
theorem dX0_pass_45 : decode cX0_pass 45 = .ok (.putfield 40, 3) := by decide +kernel
theorem dX0_pass_48 : decode cX0_pass 48 = .ok (.aload_n 0, 1) := by decide +kernel
theorem dX0_pass_49 : decode cX0_pass 49 = .ok (.invokevirtual 43, 3) := by decide +kernel
theorem dX0_pass_52 : decode cX0_pass 52 = .ok (.return_, 1) := by decide +kernel
theorem dX0_noteEnough_0 : decode cX0_noteEnough 0 = .ok (.iconst 0, 1) := by decide +kernel
theorem dX0_noteEnough_1 : decode cX0_noteEnough 1 = .ok (.istore_n 1, 1) := by decide +kernel
theorem dX0_noteEnough_2 : decode cX0_noteEnough 2 = .ok (.iload_n 1, 1) := by decide +kernel
theorem dX0_noteEnough_3 : decode cX0_noteEnough 3 = .ok (.aload_n 0, 1) := by decide +kernel
theorem dX0_noteEnough_4 : decode cX0_noteEnough 4 = .ok (.getfield 12, 3) := by decide +kernel
theorem dX0_noteEnough_7 : decode cX0_noteEnough 7 = .ok (.getfield 76, 3) := by decide +kernel
theorem dX0_noteEnough_10 : decode cX0_noteEnough 10 = .ok (.if_icmp .ge 41, 3) := by decide +kernel
theorem dX0_noteEnough_13 : decode cX0_noteEnough 13 = .ok (.aload_n 0, 1) := by decide +kernel
theorem dX0_noteEnough_14 : decode cX0_noteEnough 14 = .ok (.getfield 25, 3) := by decide +kernel
theorem dX0_noteEnough_17 : decode cX0_noteEnough 17 = .ok (.iload_n 1, 1) := by decide +kernel
theorem dX0_noteEnough_18 : decode cX0_noteEnough 18 = .ok (.iaload, 1) := by decide +kernel
theorem dX0_noteEnough_19 : decode cX0_noteEnough 19 = .ok (.bipush (-6), 2) := by decide +kernel
theorem dX0_noteEnough_21 : decode cX0_noteEnough 21 = .ok (.if_icmp .ne 24, 3) := by decide +kernel
theorem dX0_noteEnough_24 : decode cX0_noteEnough 24 = .ok (.aload_n 0, 1) := by decide +kernel
theorem dX0_noteEnough_25 : decode cX0_noteEnough 25 = .ok (.getfield 12, 3) := by decide +kernel
theorem dX0_noteEnough_28 : decode cX0_noteEnough 28 = .ok (.iload_n 1, 1) := by decide +kernel
theorem dX0_noteEnough_29 : decode cX0_noteEnough 29 = .ok (.invokevirtual 79, 3) := by decide +kernel
theorem dX0_noteEnough_32 : decode cX0_noteEnough 32 = .ok (.ifCond .ne 13, 3) := by decide +kernel
theorem dX0_noteEnough_35 : decode cX0_noteEnough 35 = .ok (.aload_n 0, 1) := by decide +kernel
theorem dX0_noteEnough_36 : decode cX0_noteEnough 36 = .ok (.getfield 25, 3) := by decide +kernel
theorem dX0_noteEnough_39 : decode cX0_noteEnough 39 = .ok (.iload_n 1, 1) := by decide +kernel
theorem dX0_noteEnough_40 : decode cX0_noteEnough 40 = .ok (.aload_n 0, 1) := by decide +kernel
theorem dX0_noteEnough_41 : decode cX0_noteEnough 41 = .ok (.getfield 40, 3) := by decide +kernel
theorem dX0_noteEnough_44 : decode cX0_noteEnough 44 = .ok (.iastore, 1) := by decide +kernel
theorem dX0_noteEnough_45 : decode cX0_noteEnough 45 = .ok (.iinc 1 1, 3) := by decide +kernel
theorem dX0_noteEnough_48 : decode cX0_noteEnough 48 = .ok (.goto (-46), 3) := by decide +kernel
theorem dX0_noteEnough_51 : decode cX0_noteEnough 51 = .ok (.return_, 1) := by decide +kernel
theorem dX1_init_0 : decode cX1_init 0 = .ok (.aload_n 0, 1) := by decide +kernel
theorem dX1_init_1 : decode cX1_init 1 = .ok (.invokespecial 3, 3) := by decide +kernel
theorem dX1_init_4 : decode cX1_init 4 = .ok (.aload_n 0, 1) := by decide +kernel
theorem dX1_init_5 : decode cX1_init 5 = .ok (.bipush 60, 2) := by decide +kernel
theorem dX1_init_7 : decode cX1_init 7 = .ok (.newarray .int, 2) := by decide +kernel
theorem dX1_init_9 : decode cX1_init 9 = .ok (.putfield 9, 3) := by decide +kernel
theorem dX1_init_12 : decode cX1_init 12 = .ok (.aload_n 0, 1) := by decide +kernel
theorem dX1_init_13 : decode cX1_init 13 = .ok (.bipush 60, 2) := by decide +kernel
theorem dX1_init_15 : decode cX1_init 15 = .ok (.newarray .int, 2) := by decide +kernel
theorem dX1_init_17 : decode cX1_init 17 = .ok (.putfield 15, 3) := by decide +kernel
theorem dX1_init_20 : decode cX1_init 20 = .ok (.aload_n 0, 1) := by decide +kernel
theorem dX1_init_21 : decode cX1_init 21 = .ok (.bipush 60, 2) := by decide +kernel
theorem dX1_init_23 : decode cX1_init 23 = .ok (.newarray .int, 2) := by decide +kernel
theorem dX1_init_25 : decode cX1_init 25 = .ok (.putfield 18, 3) := by decide +kernel
theorem dX1_init_28 : decode cX1_init 28 = .ok (.return_, 1) := by decide +kernel
theorem dX1_add_0 : decode cX1_add 0 = .ok (.aload_n 0, 1) := by decide +kernel
theorem dX1_add_1 : decode cX1_add 1 = .ok (.getfield 9, 3) := by decide +kernel
theorem dX1_add_4 : decode cX1_add 4 = .ok (.aload_n 0, 1) := by decide +kernel
theorem dX1_add_5 : decode cX1_add 5 = .ok (.getfield 21, 3) := by decide +kernel
theorem dX1_add_8 : decode cX1_add 8 = .ok (.iload_n 1, 1) := by decide +kernel
theorem dX1_add_9 : decode cX1_add 9 = .ok (.iastore, 1) := by decide +kernel
theorem dX1_add_10 : decode cX1_add 10 = .ok (.aload_n 0, 1) := by decide +kernel
theorem dX1_add_11 : decode cX1_add 11 = .ok (.dup, 1) := by decide +kernel
theorem dX1_add_12 : decode cX1_add 12 = .ok (.getfield 21, 3) := by decide +kernel
theorem dX1_add_15 : decode cX1_add 15 = .ok (.iconst 1, 1) := by decide +kernel
theorem dX1_add_16 : decode cX1_add 16 = .ok (.iadd, 1) := by decide +kernel
theorem dX1_add_17 : decode cX1_add 17 = .ok (.putfield 21, 3) := by decide +kernel
theorem dX1_add_20 : decode cX1_add 20 = .ok (.return_, 1) := by decide +kernel
theorem dX1_read_0 : decode cX1_read 0 = .ok (.aload_n 0, 1) := by decide +kernel
theorem dX1_read_1 : decode cX1_read 1 = .ok (.iconst 0, 1) := by decide +kernel
theorem dX1_read_2 : decode cX1_read 2 = .ok (.putfield 25, 3) := by decide +kernel
theorem dX1_read_5 : decode cX1_read 5 = .ok (.iconst 0, 1) := by decide +kernel
theorem dX1_read_6 : decode cX1_read 6 = .ok (.istore_n 2, 1) := by decide +kernel
theorem dX1_read_7 : decode cX1_read 7 = .ok (.iconst 0, 1) := by decide +kernel
theorem dX1_read_8 : decode cX1_read 8 = .ok (.istore_n 3, 1) := by decide +kernel
theorem dX1_read_9 : decode cX1_read 9 = .ok (.iload_n 3, 1) := by decide +kernel
theorem dX1_read_10 : decode cX1_read 10 = .ok (.bipush 60, 2) := by decide +kernel
theorem dX1_read_12 : decode cX1_read 12 = .ok (.if_icmp .ge 140, 3) := by decide +kernel
theorem dX1_read_15 : decode cX1_read 15 = .ok (.iload_n 2, 1) := by decide +kernel
theorem dX1_read_16 : decode cX1_read 16 = .ok (.aload_n 0, 1) := by decide +kernel
theorem dX1_read_17 : decode cX1_read 17 = .ok (.getfield 21, 3) := by decide +kernel
theorem dX1_read_20 : decode cX1_read 20 = .ok (.if_icmp .ge 132, 3) := by decide +kernel
theorem dX1_read_23 : decode cX1_read 23 = .ok (.aload_n 0, 1) := by decide +kernel
theorem dX1_read_24 : decode cX1_read 24 = .ok (.getfield 9, 3) := by decide +kernel
theorem dX1_read_27 : decode cX1_read 27 = .ok (.iload_n 2, 1) := by decide +kernel
theorem dX1_read_28 : decode cX1_read 28 = .ok (.iaload, 1) := by decide +kernel
theorem dX1_read_29 : decode cX1_read 29 = .ok (.bipush 65, 2) := by decide +kernel
theorem dX1_read_31 : decode cX1_read 31 = .ok (.isub, 1) := by decide +kernel
theorem dX1_read_32 : decode cX1_read 32 = .ok (.istore 4, 2) := by decide +kernel
theorem dX1_read_34 : decode cX1_read 34 = .ok (.iload 4, 2) := by decide +kernel
theorem dX1_read_36 : decode cX1_read 36 = .ok (.ifCond .lt 13, 3) := by decide +kernel
theorem dX1_read_39 : decode cX1_read 39 = .ok (.iload 4, 2) := by decide +kernel
theorem dX1_read_41 : decode cX1_read 41 = .ok (.iload_n 1, 1) := by decide +kernel
theorem dX1_read_42 : decode cX1_read 42 = .ok (.if_icmp .ge 7, 3) := by decide +kernel
theorem dX1_read_45 : decode cX1_read 45 = .ok (.iconst 1, 1) := by decide +kernel
theorem dX1_read_46 : decode cX1_read 46 = .ok (.goto 4, 3) := by decide +kernel
theorem dX1_read_49 : decode cX1_read 49 = .ok (.iconst 0, 1) := by decide +kernel
theorem dX1_read_50 : decode cX1_read 50 = .ok (.istore 5, 2) := by decide +kernel
theorem dX1_read_52 : decode cX1_read 52 = .ok (.iload 5, 2) := by decide +kernel
theorem dX1_read_54 : decode cX1_read 54 = .ok (.ifCond .eq 13, 3) := by decide +kernel
theorem dX1_read_57 : decode cX1_read 57 = .ok (.aload_n 0, 1) := by decide +kernel
theorem dX1_read_58 : decode cX1_read 58 = .ok (.iload_n 2, 1) := by decide +kernel
theorem dX1_read_59 : decode cX1_read 59 = .ok (.iconst 1, 1) := by decide +kernel
theorem dX1_read_60 : decode cX1_read 60 = .ok (.iadd, 1) := by decide +kernel
theorem dX1_read_61 : decode cX1_read 61 = .ok (.invokevirtual 28, 3) := by decide +kernel
theorem dX1_read_64 : decode cX1_read 64 = .ok (.goto 12, 3) := by decide +kernel
theorem dX1_read_67 : decode cX1_read 67 = .ok (.aload_n 0, 1) := by decide +kernel
theorem dX1_read_68 : decode cX1_read 68 = .ok (.getfield 9, 3) := by decide +kernel
theorem dX1_read_71 : decode cX1_read 71 = .ok (.iload_n 2, 1) := by decide +kernel
theorem dX1_read_72 : decode cX1_read 72 = .ok (.iaload, 1) := by decide +kernel
theorem dX1_read_73 : decode cX1_read 73 = .ok (.invokestatic 32, 3) := by decide +kernel
theorem dX1_read_76 : decode cX1_read 76 = .ok (.istore 6, 2) := by decide +kernel
theorem dX1_read_78 : decode cX1_read 78 = .ok (.iload 6, 2) := by decide +kernel
theorem dX1_read_80 : decode cX1_read 80 = .ok (.iconst (-1), 1) := by decide +kernel
theorem dX1_read_81 : decode cX1_read 81 = .ok (.if_icmp .ne 5, 3) := by decide +kernel
theorem dX1_read_84 : decode cX1_read 84 = .ok (.iload_n 2, 1) := by decide +kernel
theorem dX1_read_85 : decode cX1_read 85 = .ok (.ireturn, 1) := by decide +kernel
theorem dX1_read_86 : decode cX1_read 86 = .ok (.aload_n 0, 1) := by decide +kernel
theorem dX1_read_87 : decode cX1_read 87 = .ok (.getfield 15, 3) := by decide +kernel
theorem dX1_read_90 : decode cX1_read 90 = .ok (.aload_n 0, 1) := by decide +kernel
theorem dX1_read_91 : decode cX1_read 91 = .ok (.getfield 25, 3) := by decide +kernel
theorem dX1_read_94 : decode cX1_read 94 = .ok (.iload 6, 2) := by decide +kernel
theorem dX1_read_96 : decode cX1_read 96 = .ok (.iastore, 1) := by decide +kernel
theorem dX1_read_97 : decode cX1_read 97 = .ok (.aload_n 0, 1) := by decide +kernel
theorem dX1_read_98 : decode cX1_read 98 = .ok (.getfield 18, 3) := by decide +kernel
theorem dX1_read_101 : decode cX1_read 101 = .ok (.aload_n 0, 1) := by decide +kernel
theorem dX1_read_102 : decode cX1_read 102 = .ok (.getfield 25, 3) := by decide +kernel
theorem dX1_read_105 : decode cX1_read 105 = .ok (.iload 5, 2) := by decide +kernel
theorem dX1_read_107 : decode cX1_read 107 = .ok (.ifCond .eq 8, 3) := by decide +kernel
theorem dX1_read_110 : decode cX1_read 110 = .ok (.iload 4, 2) := by decide +kernel
theorem dX1_read_112 : decode cX1_read 112 = .ok (.goto 4, 3) := by decide +kernel
theorem dX1_read_115 : decode cX1_read 115 = .ok (.iconst 0, 1) := by decide +kernel
theorem dX1_read_116 : decode cX1_read 116 = .ok (.iastore, 1) := by decide +kernel
theorem dX1_read_117 : decode cX1_read 117 = .ok (.aload_n 0, 1) := by decide +kernel
theorem dX1_read_118 : decode cX1_read 118 = .ok (.dup, 1) := by decide +kernel
theorem dX1_read_119 : decode cX1_read 119 = .ok (.getfield 25, 3) := by decide +kernel
theorem dX1_read_122 : decode cX1_read 122 = .ok (.iconst 1, 1) := by decide +kernel
theorem dX1_read_123 : decode cX1_read 123 = .ok (.iadd, 1) := by decide +kernel
theorem dX1_read_124 : decode cX1_read 124 = .ok (.putfield 25, 3) := by decide +kernel
theorem dX1_read_127 : decode cX1_read 127 = .ok (.iload_n 2, 1) := by decide +kernel
theorem dX1_read_128 : decode cX1_read 128 = .ok (.iload 5, 2) := by decide +kernel
theorem dX1_read_130 : decode cX1_read 130 = .ok (.ifCond .eq 13, 3) := by decide +kernel
theorem dX1_read_133 : decode cX1_read 133 = .ok (.iload 6, 2) := by decide +kernel
theorem dX1_read_135 : decode cX1_read 135 = .ok (.iconst 4, 1) := by decide +kernel
theorem dX1_read_136 : decode cX1_read 136 = .ok (.if_icmp .eq 7, 3) := by decide +kernel
theorem dX1_read_139 : decode cX1_read 139 = .ok (.iconst 2, 1) := by decide +kernel
theorem dX1_read_140 : decode cX1_read 140 = .ok (.goto 4, 3) := by decide +kernel
theorem dX1_read_143 : decode cX1_read 143 = .ok (.iconst 1, 1) := by decide +kernel
theorem dX1_read_144 : decode cX1_read 144 = .ok (.iadd, 1) := by decide +kernel
theorem dX1_read_145 : decode cX1_read 145 = .ok (.istore_n 2, 1) := by decide +kernel
theorem dX1_read_146 : decode cX1_read 146 = .ok (.iinc 3 1, 3) := by decide +kernel
theorem dX1_read_149 : decode cX1_read 149 = .ok (.goto (-140), 3) := by decide +kernel
theorem dX1_read_152 : decode cX1_read 152 = .ok (.bipush (-6), 2) := by decide +kernel
theorem dX1_read_154 : decode cX1_read 154 = .ok (.ireturn, 1) := by decide +kernel
theorem dX1_actOn_0 : decode cX1_actOn 0 = .ok (.iload_n 1, 1) := by decide +kernel
theorem dX1_actOn_1 : decode cX1_actOn 1 = .ok (.aload_n 0, 1) := by decide +kernel
theorem dX1_actOn_2 : decode cX1_actOn 2 = .ok (.getfield 21, 3) := by decide +kernel
theorem dX1_actOn_5 : decode cX1_actOn 5 = .ok (.if_icmp .ge 12, 3) := by decide +kernel
theorem dX1_actOn_8 : decode cX1_actOn 8 = .ok (.aload_n 0, 1) := by decide +kernel
theorem dX1_actOn_9 : decode cX1_actOn 9 = .ok (.getfield 9, 3) := by decide +kernel
theorem dX1_actOn_12 : decode cX1_actOn 12 = .ok (.iload_n 1, 1) := by decide +kernel
theorem dX1_actOn_13 : decode cX1_actOn 13 = .ok (.iaload, 1) := by decide +kernel
theorem dX1_actOn_14 : decode cX1_actOn 14 = .ok (.goto 4, 3) := by decide +kernel
theorem dX1_actOn_17 : decode cX1_actOn 17 = .ok (.iconst 0, 1) := by decide +kernel
theorem dX1_actOn_18 : decode cX1_actOn 18 = .ok (.lookupswitch 42 #[(60, 34), (62, 36), (119, 39)], 34) := by decide +kernel
theorem dX1_actOn_52 : decode cX1_actOn 52 = .ok (.iconst 5, 1) := by decide +kernel
theorem dX1_actOn_53 : decode cX1_actOn 53 = .ok (.ireturn, 1) := by decide +kernel
theorem dX1_actOn_54 : decode cX1_actOn 54 = .ok (.bipush 6, 2) := by decide +kernel
theorem dX1_actOn_56 : decode cX1_actOn 56 = .ok (.ireturn, 1) := by decide +kernel
theorem dX1_actOn_57 : decode cX1_actOn 57 = .ok (.bipush 7, 2) := by decide +kernel
theorem dX1_actOn_59 : decode cX1_actOn 59 = .ok (.ireturn, 1) := by decide +kernel
theorem dX1_actOn_60 : decode cX1_actOn 60 = .ok (.iconst 4, 1) := by decide +kernel
theorem dX1_actOn_61 : decode cX1_actOn 61 = .ok (.ireturn, 1) := by decide +kernel
theorem dX1_hourOf_0 : decode cX1_hourOf 0 = .ok (.iload_n 0, 1) := by decide +kernel
theorem dX1_hourOf_1 : decode cX1_hourOf 1 = .ok (.lookupswitch 51 #[(42, 47), (43, 49), (46, 43), (110, 45)], 43) := by decide +kernel
theorem dX1_hourOf_44 : decode cX1_hourOf 44 = .ok (.iconst 0, 1) := by decide +kernel
theorem dX1_hourOf_45 : decode cX1_hourOf 45 = .ok (.ireturn, 1) := by decide +kernel
theorem dX1_hourOf_46 : decode cX1_hourOf 46 = .ok (.iconst 1, 1) := by decide +kernel
theorem dX1_hourOf_47 : decode cX1_hourOf 47 = .ok (.ireturn, 1) := by decide +kernel
theorem dX1_hourOf_48 : decode cX1_hourOf 48 = .ok (.iconst 2, 1) := by decide +kernel
theorem dX1_hourOf_49 : decode cX1_hourOf 49 = .ok (.ireturn, 1) := by decide +kernel
theorem dX1_hourOf_50 : decode cX1_hourOf 50 = .ok (.iconst 3, 1) := by decide +kernel
theorem dX1_hourOf_51 : decode cX1_hourOf 51 = .ok (.ireturn, 1) := by decide +kernel
theorem dX1_hourOf_52 : decode cX1_hourOf 52 = .ok (.iconst (-1), 1) := by decide +kernel
theorem dX1_hourOf_53 : decode cX1_hourOf 53 = .ok (.ireturn, 1) := by decide +kernel
theorem dX2_init_0 : decode cX2_init 0 = .ok (.aload_n 0, 1) := by decide +kernel
theorem dX2_init_1 : decode cX2_init 1 = .ok (.invokespecial 3, 3) := by decide +kernel
theorem dX2_init_4 : decode cX2_init 4 = .ok (.aload_n 0, 1) := by decide +kernel
theorem dX2_init_5 : decode cX2_init 5 = .ok (.bipush 9, 2) := by decide +kernel
theorem dX2_init_7 : decode cX2_init 7 = .ok (.newarray .int, 2) := by decide +kernel
theorem dX2_init_9 : decode cX2_init 9 = .ok (.putfield 9, 3) := by decide +kernel
theorem dX2_init_12 : decode cX2_init 12 = .ok (.aload_n 0, 1) := by decide +kernel
theorem dX2_init_13 : decode cX2_init 13 = .ok (.bipush 9, 2) := by decide +kernel
theorem dX2_init_15 : decode cX2_init 15 = .ok (.newarray .int, 2) := by decide +kernel
theorem dX2_init_17 : decode cX2_init 17 = .ok (.putfield 15, 3) := by decide +kernel
theorem dX2_init_20 : decode cX2_init 20 = .ok (.return_, 1) := by decide +kernel
theorem dX2_flow_0 : decode cX2_flow 0 = .ok (.aload_n 1, 1) := by decide +kernel
theorem dX2_flow_1 : decode cX2_flow 1 = .ok (.iload_n 2, 1) := by decide +kernel
theorem dX2_flow_2 : decode cX2_flow 2 = .ok (.invokevirtual 18, 3) := by decide +kernel
theorem dX2_flow_5 : decode cX2_flow 5 = .ok (.istore_n 3, 1) := by decide +kernel
theorem dX2_flow_6 : decode cX2_flow 6 = .ok (.iconst 0, 1) := by decide +kernel
theorem dX2_flow_7 : decode cX2_flow 7 = .ok (.istore 4, 2) := by decide +kernel
theorem dX2_flow_9 : decode cX2_flow 9 = .ok (.iload 4, 2) := by decide +kernel
theorem dX2_flow_11 : decode cX2_flow 11 = .ok (.aload_n 1, 1) := by decide +kernel
theorem dX2_flow_12 : decode cX2_flow 12 = .ok (.getfield 24, 3) := by decide +kernel
theorem dX2_flow_15 : decode cX2_flow 15 = .ok (.if_icmp .ge 89, 3) := by decide +kernel
theorem dX2_flow_18 : decode cX2_flow 18 = .ok (.iconst 0, 1) := by decide +kernel
theorem dX2_flow_19 : decode cX2_flow 19 = .ok (.iload_n 3, 1) := by decide +kernel
theorem dX2_flow_20 : decode cX2_flow 20 = .ok (.aload_n 1, 1) := by decide +kernel
theorem dX2_flow_21 : decode cX2_flow 21 = .ok (.iload 4, 2) := by decide +kernel
theorem dX2_flow_23 : decode cX2_flow 23 = .ok (.iconst 5, 1) := by decide +kernel
theorem dX2_flow_24 : decode cX2_flow 24 = .ok (.invokevirtual 28, 3) := by decide +kernel
theorem dX2_flow_27 : decode cX2_flow 27 = .ok (.isub, 1) := by decide +kernel
theorem dX2_flow_28 : decode cX2_flow 28 = .ok (.invokestatic 32, 3) := by decide +kernel
theorem dX2_flow_31 : decode cX2_flow 31 = .ok (.istore_n 3, 1) := by decide +kernel
theorem dX2_flow_32 : decode cX2_flow 32 = .ok (.iconst 0, 1) := by decide +kernel
theorem dX2_flow_33 : decode cX2_flow 33 = .ok (.iload_n 3, 1) := by decide +kernel
theorem dX2_flow_34 : decode cX2_flow 34 = .ok (.aload_n 1, 1) := by decide +kernel
theorem dX2_flow_35 : decode cX2_flow 35 = .ok (.iload 4, 2) := by decide +kernel
theorem dX2_flow_37 : decode cX2_flow 37 = .ok (.iconst 0, 1) := by decide +kernel
theorem dX2_flow_38 : decode cX2_flow 38 = .ok (.invokevirtual 28, 3) := by decide +kernel
theorem dX2_flow_41 : decode cX2_flow 41 = .ok (.isub, 1) := by decide +kernel
theorem dX2_flow_42 : decode cX2_flow 42 = .ok (.invokestatic 32, 3) := by decide +kernel
theorem dX2_flow_45 : decode cX2_flow 45 = .ok (.istore 5, 2) := by decide +kernel
theorem dX2_flow_47 : decode cX2_flow 47 = .ok (.aload_n 0, 1) := by decide +kernel
theorem dX2_flow_48 : decode cX2_flow 48 = .ok (.getfield 15, 3) := by decide +kernel
theorem dX2_flow_51 : decode cX2_flow 51 = .ok (.iload 4, 2) := by decide +kernel
theorem dX2_flow_53 : decode cX2_flow 53 = .ok (.iload_n 3, 1) := by decide +kernel
theorem dX2_flow_54 : decode cX2_flow 54 = .ok (.iastore, 1) := by decide +kernel
theorem dX2_flow_55 : decode cX2_flow 55 = .ok (.aload_n 0, 1) := by decide +kernel
theorem dX2_flow_56 : decode cX2_flow 56 = .ok (.getfield 9, 3) := by decide +kernel
theorem dX2_flow_59 : decode cX2_flow 59 = .ok (.iload 4, 2) := by decide +kernel
theorem dX2_flow_61 : decode cX2_flow 61 = .ok (.aload_n 1, 1) := by decide +kernel
theorem dX2_flow_62 : decode cX2_flow 62 = .ok (.iload 4, 2) := by decide +kernel
theorem dX2_flow_64 : decode cX2_flow 64 = .ok (.iload_n 2, 1) := by decide +kernel
theorem dX2_flow_65 : decode cX2_flow 65 = .ok (.invokevirtual 37, 3) := by decide +kernel
theorem dX2_flow_68 : decode cX2_flow 68 = .ok (.ifCond .eq 7, 3) := by decide +kernel
theorem dX2_flow_71 : decode cX2_flow 71 = .ok (.iconst 0, 1) := by decide +kernel
theorem dX2_flow_72 : decode cX2_flow 72 = .ok (.goto 15, 3) := by decide +kernel
theorem dX2_flow_75 : decode cX2_flow 75 = .ok (.aload_n 1, 1) := by decide +kernel
theorem dX2_flow_76 : decode cX2_flow 76 = .ok (.iload 4, 2) := by decide +kernel
theorem dX2_flow_78 : decode cX2_flow 78 = .ok (.iconst 1, 1) := by decide +kernel
theorem dX2_flow_79 : decode cX2_flow 79 = .ok (.invokevirtual 28, 3) := by decide +kernel
theorem dX2_flow_82 : decode cX2_flow 82 = .ok (.iload 5, 2) := by decide +kernel
theorem dX2_flow_84 : decode cX2_flow 84 = .ok (.invokestatic 41, 3) := by decide +kernel
theorem dX2_flow_87 : decode cX2_flow 87 = .ok (.iastore, 1) := by decide +kernel
theorem dX2_flow_88 : decode cX2_flow 88 = .ok (.iload_n 3, 1) := by decide +kernel
theorem dX2_flow_89 : decode cX2_flow 89 = .ok (.aload_n 0, 1) := by decide +kernel
theorem dX2_flow_90 : decode cX2_flow 90 = .ok (.getfield 9, 3) := by decide +kernel
theorem dX2_flow_93 : decode cX2_flow 93 = .ok (.iload 4, 2) := by decide +kernel
theorem dX2_flow_95 : decode cX2_flow 95 = .ok (.iaload, 1) := by decide +kernel
theorem dX2_flow_96 : decode cX2_flow 96 = .ok (.isub, 1) := by decide +kernel
theorem dX2_flow_97 : decode cX2_flow 97 = .ok (.istore_n 3, 1) := by decide +kernel
theorem dX2_flow_98 : decode cX2_flow 98 = .ok (.iinc 4 1, 3) := by decide +kernel
theorem dX2_flow_101 : decode cX2_flow 101 = .ok (.goto (-92), 3) := by decide +kernel
theorem dX2_flow_104 : decode cX2_flow 104 = .ok (.aload_n 0, 1) := by decide +kernel
theorem dX2_flow_105 : decode cX2_flow 105 = .ok (.iload_n 3, 1) := by decide +kernel
theorem dX2_flow_106 : decode cX2_flow 106 = .ok (.putfield 44, 3) := by decide +kernel
theorem dX2_flow_109 : decode cX2_flow 109 = .ok (.return_, 1) := by decide +kernel
theorem dX2_sum_0 : decode cX2_sum 0 = .ok (.iconst 0, 1) := by decide +kernel
theorem dX2_sum_1 : decode cX2_sum 1 = .ok (.istore_n 2, 1) := by decide +kernel
theorem dX2_sum_2 : decode cX2_sum 2 = .ok (.iconst 0, 1) := by decide +kernel
theorem dX2_sum_3 : decode cX2_sum 3 = .ok (.istore_n 3, 1) := by decide +kernel
theorem dX2_sum_4 : decode cX2_sum 4 = .ok (.iload_n 3, 1) := by decide +kernel
theorem dX2_sum_5 : decode cX2_sum 5 = .ok (.iload_n 1, 1) := by decide +kernel
theorem dX2_sum_6 : decode cX2_sum 6 = .ok (.if_icmp .ge 18, 3) := by decide +kernel
theorem dX2_sum_9 : decode cX2_sum 9 = .ok (.iload_n 2, 1) := by decide +kernel
theorem dX2_sum_10 : decode cX2_sum 10 = .ok (.aload_n 0, 1) := by decide +kernel
theorem dX2_sum_11 : decode cX2_sum 11 = .ok (.getfield 9, 3) := by decide +kernel
theorem dX2_sum_14 : decode cX2_sum 14 = .ok (.iload_n 3, 1) := by decide +kernel
theorem dX2_sum_15 : decode cX2_sum 15 = .ok (.iaload, 1) := by decide +kernel
theorem dX2_sum_16 : decode cX2_sum 16 = .ok (.iadd, 1) := by decide +kernel
theorem dX2_sum_17 : decode cX2_sum 17 = .ok (.istore_n 2, 1) := by decide +kernel
theorem dX2_sum_18 : decode cX2_sum 18 = .ok (.iinc 3 1, 3) := by decide +kernel
theorem dX2_sum_21 : decode cX2_sum 21 = .ok (.goto (-17), 3) := by decide +kernel
theorem dX2_sum_24 : decode cX2_sum 24 = .ok (.iload_n 2, 1) := by decide +kernel
theorem dX2_sum_25 : decode cX2_sum 25 = .ok (.ireturn, 1) := by decide +kernel
theorem dX2_someTookNothing_0 : decode cX2_someTookNothing 0 = .ok (.iconst 0, 1) := by decide +kernel
theorem dX2_someTookNothing_1 : decode cX2_someTookNothing 1 = .ok (.istore_n 2, 1) := by decide +kernel
theorem dX2_someTookNothing_2 : decode cX2_someTookNothing 2 = .ok (.iload_n 2, 1) := by decide +kernel
theorem dX2_someTookNothing_3 : decode cX2_someTookNothing 3 = .ok (.iload_n 1, 1) := by decide +kernel
theorem dX2_someTookNothing_4 : decode cX2_someTookNothing 4 = .ok (.if_icmp .ge 20, 3) := by decide +kernel
theorem dX2_someTookNothing_7 : decode cX2_someTookNothing 7 = .ok (.aload_n 0, 1) := by decide +kernel
theorem dX2_someTookNothing_8 : decode cX2_someTookNothing 8 = .ok (.getfield 9, 3) := by decide +kernel
theorem dX2_someTookNothing_11 : decode cX2_someTookNothing 11 = .ok (.iload_n 2, 1) := by decide +kernel
theorem dX2_someTookNothing_12 : decode cX2_someTookNothing 12 = .ok (.iaload, 1) := by decide +kernel
theorem dX2_someTookNothing_13 : decode cX2_someTookNothing 13 = .ok (.ifCond .ne 5, 3) := by decide +kernel
theorem dX2_someTookNothing_16 : decode cX2_someTookNothing 16 = .ok (.iconst 1, 1) := by decide +kernel
theorem dX2_someTookNothing_17 : decode cX2_someTookNothing 17 = .ok (.ireturn, 1) := by decide +kernel
theorem dX2_someTookNothing_18 : decode cX2_someTookNothing 18 = .ok (.iinc 2 1, 3) := by decide +kernel
theorem dX2_someTookNothing_21 : decode cX2_someTookNothing 21 = .ok (.goto (-19), 3) := by decide +kernel
theorem dX2_someTookNothing_24 : decode cX2_someTookNothing 24 = .ok (.iconst 0, 1) := by decide +kernel
theorem dX2_someTookNothing_25 : decode cX2_someTookNothing 25 = .ok (.ireturn, 1) := by decide +kernel
theorem dX3_init_0 : decode cX3_init 0 = .ok (.aload_n 0, 1) := by decide +kernel
theorem dX3_init_1 : decode cX3_init 1 = .ok (.invokespecial 3, 3) := by decide +kernel
theorem dX3_init_4 : decode cX3_init 4 = .ok (.aload_n 0, 1) := by decide +kernel
theorem dX3_init_5 : decode cX3_init 5 = .ok (.bipush 63, 2) := by decide +kernel
theorem dX3_init_7 : decode cX3_init 7 = .ok (.newarray .int, 2) := by decide +kernel
theorem dX3_init_9 : decode cX3_init 9 = .ok (.putfield 9, 3) := by decide +kernel
theorem dX3_init_12 : decode cX3_init 12 = .ok (.aload_n 0, 1) := by decide +kernel
theorem dX3_init_13 : decode cX3_init 13 = .ok (.iconst 3, 1) := by decide +kernel
theorem dX3_init_14 : decode cX3_init 14 = .ok (.newarray .int, 2) := by decide +kernel
theorem dX3_init_16 : decode cX3_init 16 = .ok (.putfield 15, 3) := by decide +kernel
theorem dX3_init_19 : decode cX3_init 19 = .ok (.aload_n 0, 1) := by decide +kernel
theorem dX3_init_20 : decode cX3_init 20 = .ok (.bipush 8, 2) := by decide +kernel
theorem dX3_init_22 : decode cX3_init 22 = .ok (.newarray .int, 2) := by decide +kernel
theorem dX3_init_24 : decode cX3_init 24 = .ok (.putfield 18, 3) := by decide +kernel
theorem dX3_init_27 : decode cX3_init 27 = .ok (.aload_n 0, 1) := by decide +kernel
theorem dX3_init_28 : decode cX3_init 28 = .ok (.bipush 8, 2) := by decide +kernel
theorem dX3_init_30 : decode cX3_init 30 = .ok (.newarray .int, 2) := by decide +kernel
theorem dX3_init_32 : decode cX3_init 32 = .ok (.putfield 21, 3) := by decide +kernel
theorem dX3_init_35 : decode cX3_init 35 = .ok (.getstatic 24, 3) := by decide +kernel
theorem dX3_init_38 : decode cX3_init 38 = .ok (.iconst 0, 1) := by decide +kernel
theorem dX3_init_39 : decode cX3_init 39 = .ok (.aload_n 0, 1) := by decide +kernel
theorem dX3_init_40 : decode cX3_init 40 = .ok (.getfield 15, 3) := by decide +kernel
theorem dX3_init_43 : decode cX3_init 43 = .ok (.iconst 0, 1) := by decide +kernel
theorem dX3_init_44 : decode cX3_init 44 = .ok (.iconst 3, 1) := by decide +kernel
theorem dX3_init_45 : decode cX3_init 45 = .ok (.invokestatic 27, 3) := by decide +kernel
theorem dX3_init_48 : decode cX3_init 48 = .ok (.aload_n 0, 1) := by decide +kernel
theorem dX3_init_49 : decode cX3_init 49 = .ok (.bipush 9, 2) := by decide +kernel
theorem dX3_init_51 : decode cX3_init 51 = .ok (.invokevirtual 33, 3) := by decide +kernel
theorem dX3_init_54 : decode cX3_init 54 = .ok (.return_, 1) := by decide +kernel
theorem dX3_begin_0 : decode cX3_begin 0 = .ok (.aload_n 0, 1) := by decide +kernel
theorem dX3_begin_1 : decode cX3_begin 1 = .ok (.iload_n 1, 1) := by decide +kernel
theorem dX3_begin_2 : decode cX3_begin 2 = .ok (.putfield 37, 3) := by decide +kernel
theorem dX3_begin_5 : decode cX3_begin 5 = .ok (.aload_n 0, 1) := by decide +kernel
theorem dX3_begin_6 : decode cX3_begin 6 = .ok (.iconst 0, 1) := by decide +kernel
theorem dX3_begin_7 : decode cX3_begin 7 = .ok (.putfield 41, 3) := by decide +kernel
theorem dX3_begin_10 : decode cX3_begin 10 = .ok (.aload_n 0, 1) := by decide +kernel
theorem dX3_begin_11 : decode cX3_begin 11 = .ok (.iconst 0, 1) := by decide +kernel
theorem dX3_begin_12 : decode cX3_begin 12 = .ok (.putfield 44, 3) := by decide +kernel
theorem dX3_begin_15 : decode cX3_begin 15 = .ok (.iconst 0, 1) := by decide +kernel
theorem dX3_begin_16 : decode cX3_begin 16 = .ok (.istore_n 2, 1) := by decide +kernel
theorem dX3_begin_17 : decode cX3_begin 17 = .ok (.iload_n 2, 1) := by decide +kernel
theorem dX3_begin_18 : decode cX3_begin 18 = .ok (.bipush 9, 2) := by decide +kernel
theorem dX3_begin_20 : decode cX3_begin 20 = .ok (.if_icmp .ge 26, 3) := by decide +kernel
theorem dX3_begin_23 : decode cX3_begin 23 = .ok (.getstatic 47, 3) := by decide +kernel
theorem dX3_begin_26 : decode cX3_begin 26 = .ok (.iconst 0, 1) := by decide +kernel
theorem dX3_begin_27 : decode cX3_begin 27 = .ok (.aload_n 0, 1) := by decide +kernel
theorem dX3_begin_28 : decode cX3_begin 28 = .ok (.getfield 9, 3) := by decide +kernel
theorem dX3_begin_31 : decode cX3_begin 31 = .ok (.iload_n 2, 1) := by decide +kernel
theorem dX3_begin_32 : decode cX3_begin 32 = .ok (.bipush 7, 2) := by decide +kernel
theorem dX3_begin_34 : decode cX3_begin 34 = .ok (.imul, 1) := by decide +kernel
theorem dX3_begin_35 : decode cX3_begin 35 = .ok (.bipush 7, 2) := by decide +kernel
theorem dX3_begin_37 : decode cX3_begin 37 = .ok (.invokestatic 27, 3) := by decide +kernel
theorem dX3_begin_40 : decode cX3_begin 40 = .ok (.iinc 2 1, 3) := by decide +kernel
theorem dX3_begin_43 : decode cX3_begin 43 = .ok (.goto (-26), 3) := by decide +kernel
theorem dX3_begin_46 : decode cX3_begin 46 = .ok (.return_, 1) := by decide +kernel
theorem dX3_copy_0 : decode cX3_copy 0 = .ok (.aload_n 0, 1) := by decide +kernel
theorem dX3_copy_1 : decode cX3_copy 1 = .ok (.aload_n 1, 1) := by decide +kernel
theorem dX3_copy_2 : decode cX3_copy 2 = .ok (.getfield 37, 3) := by decide +kernel
theorem dX3_copy_5 : decode cX3_copy 5 = .ok (.putfield 37, 3) := by decide +kernel
theorem dX3_copy_8 : decode cX3_copy 8 = .ok (.aload_n 0, 1) := by decide +kernel
theorem dX3_copy_9 : decode cX3_copy 9 = .ok (.aload_n 1, 1) := by decide +kernel
theorem dX3_copy_10 : decode cX3_copy 10 = .ok (.getfield 41, 3) := by decide +kernel
theorem dX3_copy_13 : decode cX3_copy 13 = .ok (.putfield 41, 3) := by decide +kernel
theorem dX3_copy_16 : decode cX3_copy 16 = .ok (.aload_n 0, 1) := by decide +kernel
theorem dX3_copy_17 : decode cX3_copy 17 = .ok (.aload_n 1, 1) := by decide +kernel
theorem dX3_copy_18 : decode cX3_copy 18 = .ok (.getfield 44, 3) := by decide +kernel
theorem dX3_copy_21 : decode cX3_copy 21 = .ok (.putfield 44, 3) := by decide +kernel
theorem dX3_copy_24 : decode cX3_copy 24 = .ok (.aload_n 1, 1) := by decide +kernel
theorem dX3_copy_25 : decode cX3_copy 25 = .ok (.getfield 9, 3) := by decide +kernel
theorem dX3_copy_28 : decode cX3_copy 28 = .ok (.iconst 0, 1) := by decide +kernel
theorem dX3_copy_29 : decode cX3_copy 29 = .ok (.aload_n 0, 1) := by decide +kernel
theorem dX3_copy_30 : decode cX3_copy 30 = .ok (.getfield 9, 3) := by decide +kernel
theorem dX3_copy_33 : decode cX3_copy 33 = .ok (.iconst 0, 1) := by decide +kernel
theorem dX3_copy_34 : decode cX3_copy 34 = .ok (.aload_n 0, 1) := by decide +kernel
theorem dX3_copy_35 : decode cX3_copy 35 = .ok (.getfield 9, 3) := by decide +kernel
theorem dX3_copy_38 : decode cX3_copy 38 = .ok (.arraylength, 1) := by decide +kernel
theorem dX3_copy_39 : decode cX3_copy 39 = .ok (.invokestatic 27, 3) := by decide +kernel
theorem dX3_copy_42 : decode cX3_copy 42 = .ok (.aload_n 1, 1) := by decide +kernel
theorem dX3_copy_43 : decode cX3_copy 43 = .ok (.getfield 15, 3) := by decide +kernel
theorem dX3_copy_46 : decode cX3_copy 46 = .ok (.iconst 0, 1) := by decide +kernel
theorem dX3_copy_47 : decode cX3_copy 47 = .ok (.aload_n 0, 1) := by decide +kernel
theorem dX3_copy_48 : decode cX3_copy 48 = .ok (.getfield 15, 3) := by decide +kernel
theorem dX3_copy_51 : decode cX3_copy 51 = .ok (.iconst 0, 1) := by decide +kernel
theorem dX3_copy_52 : decode cX3_copy 52 = .ok (.iconst 3, 1) := by decide +kernel
theorem dX3_copy_53 : decode cX3_copy 53 = .ok (.invokestatic 27, 3) := by decide +kernel
theorem dX3_copy_56 : decode cX3_copy 56 = .ok (.aload_n 1, 1) := by decide +kernel
theorem dX3_copy_57 : decode cX3_copy 57 = .ok (.getfield 18, 3) := by decide +kernel
theorem dX3_copy_60 : decode cX3_copy 60 = .ok (.iconst 0, 1) := by decide +kernel
theorem dX3_copy_61 : decode cX3_copy 61 = .ok (.aload_n 0, 1) := by decide +kernel
theorem dX3_copy_62 : decode cX3_copy 62 = .ok (.getfield 18, 3) := by decide +kernel
theorem dX3_copy_65 : decode cX3_copy 65 = .ok (.iconst 0, 1) := by decide +kernel
theorem dX3_copy_66 : decode cX3_copy 66 = .ok (.bipush 8, 2) := by decide +kernel
theorem dX3_copy_68 : decode cX3_copy 68 = .ok (.invokestatic 27, 3) := by decide +kernel
theorem dX3_copy_71 : decode cX3_copy 71 = .ok (.aload_n 1, 1) := by decide +kernel
theorem dX3_copy_72 : decode cX3_copy 72 = .ok (.getfield 21, 3) := by decide +kernel
theorem dX3_copy_75 : decode cX3_copy 75 = .ok (.iconst 0, 1) := by decide +kernel
theorem dX3_copy_76 : decode cX3_copy 76 = .ok (.aload_n 0, 1) := by decide +kernel
theorem dX3_copy_77 : decode cX3_copy 77 = .ok (.getfield 21, 3) := by decide +kernel
theorem dX3_copy_80 : decode cX3_copy 80 = .ok (.iconst 0, 1) := by decide +kernel
theorem dX3_copy_81 : decode cX3_copy 81 = .ok (.bipush 8, 2) := by decide +kernel
theorem dX3_copy_83 : decode cX3_copy 83 = .ok (.invokestatic 27, 3) := by decide +kernel
theorem dX3_copy_86 : decode cX3_copy 86 = .ok (.return_, 1) := by decide +kernel
theorem dX3_has_0 : decode cX3_has 0 = .ok (.iload_n 1, 1) := by decide +kernel
theorem dX3_has_1 : decode cX3_has 1 = .ok (.ifCond .lt 15, 3) := by decide +kernel
theorem dX3_has_4 : decode cX3_has 4 = .ok (.iload_n 1, 1) := by decide +kernel
theorem dX3_has_5 : decode cX3_has 5 = .ok (.aload_n 0, 1) := by decide +kernel
theorem dX3_has_6 : decode cX3_has 6 = .ok (.getfield 37, 3) := by decide +kernel
theorem dX3_has_9 : decode cX3_has 9 = .ok (.if_icmp .ge 7, 3) := by decide +kernel
theorem dX3_has_12 : decode cX3_has 12 = .ok (.iconst 1, 1) := by decide +kernel
theorem dX3_has_13 : decode cX3_has 13 = .ok (.goto 4, 3) := by decide +kernel
theorem dX3_has_16 : decode cX3_has 16 = .ok (.iconst 0, 1) := by decide +kernel
theorem dX3_has_17 : decode cX3_has 17 = .ok (.ireturn, 1) := by decide +kernel
theorem dX3_fact_0 : decode cX3_fact 0 = .ok (.aload_n 0, 1) := by decide +kernel
theorem dX3_fact_1 : decode cX3_fact 1 = .ok (.getfield 9, 3) := by decide +kernel
theorem dX3_fact_4 : decode cX3_fact 4 = .ok (.iload_n 1, 1) := by decide +kernel
theorem dX3_fact_5 : decode cX3_fact 5 = .ok (.bipush 7, 2) := by decide +kernel
theorem dX3_fact_7 : decode cX3_fact 7 = .ok (.imul, 1) := by decide +kernel
theorem dX3_fact_8 : decode cX3_fact 8 = .ok (.iload_n 2, 1) := by decide +kernel
theorem dX3_fact_9 : decode cX3_fact 9 = .ok (.iadd, 1) := by decide +kernel
theorem dX3_fact_10 : decode cX3_fact 10 = .ok (.iaload, 1) := by decide +kernel
theorem dX3_fact_11 : decode cX3_fact 11 = .ok (.ireturn, 1) := by decide +kernel
theorem dX3_put_0 : decode cX3_put 0 = .ok (.aload_n 0, 1) := by decide +kernel
theorem dX3_put_1 : decode cX3_put 1 = .ok (.getfield 9, 3) := by decide +kernel
theorem dX3_put_4 : decode cX3_put 4 = .ok (.iload_n 1, 1) := by decide +kernel
theorem dX3_put_5 : decode cX3_put 5 = .ok (.bipush 7, 2) := by decide +kernel
theorem dX3_put_7 : decode cX3_put 7 = .ok (.imul, 1) := by decide +kernel
theorem dX3_put_8 : decode cX3_put 8 = .ok (.iload_n 2, 1) := by decide +kernel
theorem dX3_put_9 : decode cX3_put 9 = .ok (.iadd, 1) := by decide +kernel
theorem dX3_put_10 : decode cX3_put 10 = .ok (.iload_n 3, 1) := by decide +kernel
theorem dX3_put_11 : decode cX3_put 11 = .ok (.iastore, 1) := by decide +kernel
theorem dX3_put_12 : decode cX3_put 12 = .ok (.return_, 1) := by decide +kernel
theorem dX3_turnPlug_0 : decode cX3_turnPlug 0 = .ok (.aload_n 0, 1) := by decide +kernel
theorem dX3_turnPlug_1 : decode cX3_turnPlug 1 = .ok (.iload_n 1, 1) := by decide +kernel
theorem dX3_turnPlug_2 : decode cX3_turnPlug 2 = .ok (.iconst 4, 1) := by decide +kernel
theorem dX3_turnPlug_3 : decode cX3_turnPlug 3 = .ok (.iconst 1, 1) := by decide +kernel
theorem dX3_turnPlug_4 : decode cX3_turnPlug 4 = .ok (.aload_n 0, 1) := by decide +kernel
theorem dX3_turnPlug_5 : decode cX3_turnPlug 5 = .ok (.iload_n 1, 1) := by decide +kernel
theorem dX3_turnPlug_6 : decode cX3_turnPlug 6 = .ok (.iconst 4, 1) := by decide +kernel
theorem dX3_turnPlug_7 : decode cX3_turnPlug 7 = .ok (.invokevirtual 50, 3) := by decide +kernel
theorem dX3_turnPlug_10 : decode cX3_turnPlug 10 = .ok (.isub, 1) := by decide +kernel
theorem dX3_turnPlug_11 : decode cX3_turnPlug 11 = .ok (.invokevirtual 54, 3) := by decide +kernel
theorem dX3_turnPlug_14 : decode cX3_turnPlug 14 = .ok (.return_, 1) := by decide +kernel
theorem dX3_lack_0 : decode cX3_lack 0 = .ok (.iconst 0, 1) := by decide +kernel
theorem dX3_lack_1 : decode cX3_lack 1 = .ok (.aload_n 0, 1) := by decide +kernel
theorem dX3_lack_2 : decode cX3_lack 2 = .ok (.iload_n 1, 1) := by decide +kernel
theorem dX3_lack_3 : decode cX3_lack 3 = .ok (.iconst 2, 1) := by decide +kernel
theorem dX3_lack_4 : decode cX3_lack 4 = .ok (.invokevirtual 50, 3) := by decide +kernel
theorem dX3_lack_7 : decode cX3_lack 7 = .ok (.aload_n 0, 1) := by decide +kernel
theorem dX3_lack_8 : decode cX3_lack 8 = .ok (.iload_n 1, 1) := by decide +kernel
theorem dX3_lack_9 : decode cX3_lack 9 = .ok (.bipush 6, 2) := by decide +kernel
theorem dX3_lack_11 : decode cX3_lack 11 = .ok (.invokevirtual 50, 3) := by decide +kernel
theorem dX3_lack_14 : decode cX3_lack 14 = .ok (.isub, 1) := by decide +kernel
theorem dX3_lack_15 : decode cX3_lack 15 = .ok (.invokestatic 58, 3) := by decide +kernel
theorem dX3_lack_18 : decode cX3_lack 18 = .ok (.ireturn, 1) := by decide +kernel
theorem dX3_see_0 : decode cX3_see 0 = .ok (.aload_n 0, 1) := by decide +kernel
theorem dX3_see_1 : decode cX3_see 1 = .ok (.getfield 18, 3) := by decide +kernel
theorem dX3_see_4 : decode cX3_see 4 = .ok (.aload_n 0, 1) := by decide +kernel
theorem dX3_see_5 : decode cX3_see 5 = .ok (.getfield 44, 3) := by decide +kernel
theorem dX3_see_8 : decode cX3_see 8 = .ok (.iload_n 1, 1) := by decide +kernel
theorem dX3_see_9 : decode cX3_see 9 = .ok (.iastore, 1) := by decide +kernel
theorem dX3_see_10 : decode cX3_see 10 = .ok (.aload_n 0, 1) := by decide +kernel
theorem dX3_see_11 : decode cX3_see 11 = .ok (.getfield 21, 3) := by decide +kernel
theorem dX3_see_14 : decode cX3_see 14 = .ok (.aload_n 0, 1) := by decide +kernel
theorem dX3_see_15 : decode cX3_see 15 = .ok (.getfield 44, 3) := by decide +kernel
theorem dX3_see_18 : decode cX3_see 18 = .ok (.iload_n 2, 1) := by decide +kernel
theorem dX3_see_19 : decode cX3_see 19 = .ok (.iastore, 1) := by decide +kernel
theorem dX3_see_20 : decode cX3_see 20 = .ok (.aload_n 0, 1) := by decide +kernel
theorem dX3_see_21 : decode cX3_see 21 = .ok (.dup, 1) := by decide +kernel
theorem dX3_see_22 : decode cX3_see 22 = .ok (.getfield 44, 3) := by decide +kernel
theorem dX3_see_25 : decode cX3_see 25 = .ok (.iconst 1, 1) := by decide +kernel
theorem dX3_see_26 : decode cX3_see 26 = .ok (.iadd, 1) := by decide +kernel
theorem dX3_see_27 : decode cX3_see 27 = .ok (.putfield 44, 3) := by decide +kernel
theorem dX3_see_30 : decode cX3_see 30 = .ok (.return_, 1) := by decide +kernel
theorem dX3_copyWithNew_0 : decode cX3_copyWithNew 0 = .ok (.aload_n 0, 1) := by decide +kernel
theorem dX3_copyWithNew_1 : decode cX3_copyWithNew 1 = .ok (.aload_n 1, 1) := by decide +kernel
theorem dX3_copyWithNew_2 : decode cX3_copyWithNew 2 = .ok (.invokevirtual 63, 3) := by decide +kernel
theorem dX3_copyWithNew_5 : decode cX3_copyWithNew 5 = .ok (.iload_n 2, 1) := by decide +kernel
theorem dX3_copyWithNew_6 : decode cX3_copyWithNew 6 = .ok (.bipush 7, 2) := by decide +kernel
theorem dX3_copyWithNew_8 : decode cX3_copyWithNew 8 = .ok (.imul, 1) := by decide +kernel
theorem dX3_copyWithNew_9 : decode cX3_copyWithNew 9 = .ok (.istore 5, 2) := by decide +kernel
theorem dX3_copyWithNew_11 : decode cX3_copyWithNew 11 = .ok (.aload_n 1, 1) := by decide +kernel
theorem dX3_copyWithNew_12 : decode cX3_copyWithNew 12 = .ok (.getfield 9, 3) := by decide +kernel
theorem dX3_copyWithNew_15 : decode cX3_copyWithNew 15 = .ok (.iload 5, 2) := by decide +kernel
theorem dX3_copyWithNew_17 : decode cX3_copyWithNew 17 = .ok (.aload_n 0, 1) := by decide +kernel
theorem dX3_copyWithNew_18 : decode cX3_copyWithNew 18 = .ok (.getfield 9, 3) := by decide +kernel
theorem dX3_copyWithNew_21 : decode cX3_copyWithNew 21 = .ok (.iload 5, 2) := by decide +kernel
theorem dX3_copyWithNew_23 : decode cX3_copyWithNew 23 = .ok (.bipush 7, 2) := by decide +kernel
theorem dX3_copyWithNew_25 : decode cX3_copyWithNew 25 = .ok (.iadd, 1) := by decide +kernel
theorem dX3_copyWithNew_26 : decode cX3_copyWithNew 26 = .ok (.aload_n 1, 1) := by decide +kernel
theorem dX3_copyWithNew_27 : decode cX3_copyWithNew 27 = .ok (.getfield 37, 3) := by decide +kernel
theorem dX3_copyWithNew_30 : decode cX3_copyWithNew 30 = .ok (.iload_n 2, 1) := by decide +kernel
theorem dX3_copyWithNew_31 : decode cX3_copyWithNew 31 = .ok (.isub, 1) := by decide +kernel
theorem dX3_copyWithNew_32 : decode cX3_copyWithNew 32 = .ok (.bipush 7, 2) := by decide +kernel
theorem dX3_copyWithNew_34 : decode cX3_copyWithNew 34 = .ok (.imul, 1) := by decide +kernel
theorem dX3_copyWithNew_35 : decode cX3_copyWithNew 35 = .ok (.invokestatic 27, 3) := by decide +kernel
theorem dX3_copyWithNew_38 : decode cX3_copyWithNew 38 = .ok (.getstatic 47, 3) := by decide +kernel
theorem dX3_copyWithNew_41 : decode cX3_copyWithNew 41 = .ok (.iconst 0, 1) := by decide +kernel
theorem dX3_copyWithNew_42 : decode cX3_copyWithNew 42 = .ok (.aload_n 0, 1) := by decide +kernel
theorem dX3_copyWithNew_43 : decode cX3_copyWithNew 43 = .ok (.getfield 9, 3) := by decide +kernel
theorem dX3_copyWithNew_46 : decode cX3_copyWithNew 46 = .ok (.iload 5, 2) := by decide +kernel
theorem dX3_copyWithNew_48 : decode cX3_copyWithNew 48 = .ok (.bipush 7, 2) := by decide +kernel
theorem dX3_copyWithNew_50 : decode cX3_copyWithNew 50 = .ok (.invokestatic 27, 3) := by decide +kernel
theorem dX3_copyWithNew_53 : decode cX3_copyWithNew 53 = .ok (.aload_n 0, 1) := by decide +kernel
theorem dX3_copyWithNew_54 : decode cX3_copyWithNew 54 = .ok (.iload_n 2, 1) := by decide +kernel
theorem dX3_copyWithNew_55 : decode cX3_copyWithNew 55 = .ok (.iconst 0, 1) := by decide +kernel
theorem dX3_copyWithNew_56 : decode cX3_copyWithNew 56 = .ok (.iload_n 3, 1) := by decide +kernel
theorem dX3_copyWithNew_57 : decode cX3_copyWithNew 57 = .ok (.invokevirtual 54, 3) := by decide +kernel
theorem dX3_copyWithNew_60 : decode cX3_copyWithNew 60 = .ok (.aload_n 0, 1) := by decide +kernel
theorem dX3_copyWithNew_61 : decode cX3_copyWithNew 61 = .ok (.iload_n 2, 1) := by decide +kernel
theorem dX3_copyWithNew_62 : decode cX3_copyWithNew 62 = .ok (.iconst 1, 1) := by decide +kernel
theorem dX3_copyWithNew_63 : decode cX3_copyWithNew 63 = .ok (.iload 4, 2) := by decide +kernel
theorem dX3_copyWithNew_65 : decode cX3_copyWithNew 65 = .ok (.invokevirtual 54, 3) := by decide +kernel
theorem dX3_copyWithNew_68 : decode cX3_copyWithNew 68 = .ok (.aload_n 0, 1) := by decide +kernel
theorem dX3_copyWithNew_69 : decode cX3_copyWithNew 69 = .ok (.aload_n 1, 1) := by decide +kernel
theorem dX3_copyWithNew_70 : decode cX3_copyWithNew 70 = .ok (.getfield 37, 3) := by decide +kernel
theorem dX3_copyWithNew_73 : decode cX3_copyWithNew 73 = .ok (.iconst 1, 1) := by decide +kernel
theorem dX3_copyWithNew_74 : decode cX3_copyWithNew 74 = .ok (.iadd, 1) := by decide +kernel
theorem dX3_copyWithNew_75 : decode cX3_copyWithNew 75 = .ok (.putfield 37, 3) := by decide +kernel
theorem dX3_copyWithNew_78 : decode cX3_copyWithNew 78 = .ok (.return_, 1) := by decide +kernel
theorem dX3_levelAtSpring_0 : decode cX3_levelAtSpring 0 = .ok (.aload_n 0, 1) := by decide +kernel
theorem dX3_levelAtSpring_1 : decode cX3_levelAtSpring 1 = .ok (.getfield 15, 3) := by decide +kernel
theorem dX3_levelAtSpring_4 : decode cX3_levelAtSpring 4 = .ok (.iconst 0, 1) := by decide +kernel
theorem dX3_levelAtSpring_5 : decode cX3_levelAtSpring 5 = .ok (.iaload, 1) := by decide +kernel
theorem dX3_levelAtSpring_6 : decode cX3_levelAtSpring 6 = .ok (.istore_n 2, 1) := by decide +kernel
theorem dX3_levelAtSpring_7 : decode cX3_levelAtSpring 7 = .ok (.iload_n 1, 1) := by decide +kernel
theorem dX3_levelAtSpring_8 : decode cX3_levelAtSpring 8 = .ok (.iconst 3, 1) := by decide +kernel
theorem dX3_levelAtSpring_9 : decode cX3_levelAtSpring 9 = .ok (.if_icmp .ne 12, 3) := by decide +kernel
theorem dX3_levelAtSpring_12 : decode cX3_levelAtSpring 12 = .ok (.iload_n 2, 1) := by decide +kernel
theorem dX3_levelAtSpring_13 : decode cX3_levelAtSpring 13 = .ok (.aload_n 0, 1) := by decide +kernel
theorem dX3_levelAtSpring_14 : decode cX3_levelAtSpring 14 = .ok (.getfield 15, 3) := by decide +kernel
theorem dX3_levelAtSpring_17 : decode cX3_levelAtSpring 17 = .ok (.iconst 1, 1) := by decide +kernel
theorem dX3_levelAtSpring_18 : decode cX3_levelAtSpring 18 = .ok (.iaload, 1) := by decide +kernel
theorem dX3_levelAtSpring_19 : decode cX3_levelAtSpring 19 = .ok (.iadd, 1) := by decide +kernel
theorem dX3_levelAtSpring_20 : decode cX3_levelAtSpring 20 = .ok (.istore_n 2, 1) := by decide +kernel
theorem dX3_levelAtSpring_21 : decode cX3_levelAtSpring 21 = .ok (.iload_n 1, 1) := by decide +kernel
theorem dX3_levelAtSpring_22 : decode cX3_levelAtSpring 22 = .ok (.iconst 1, 1) := by decide +kernel
theorem dX3_levelAtSpring_23 : decode cX3_levelAtSpring 23 = .ok (.if_icmp .ne 12, 3) := by decide +kernel
theorem dX3_levelAtSpring_26 : decode cX3_levelAtSpring 26 = .ok (.iload_n 2, 1) := by decide +kernel
theorem dX3_levelAtSpring_27 : decode cX3_levelAtSpring 27 = .ok (.aload_n 0, 1) := by decide +kernel
theorem dX3_levelAtSpring_28 : decode cX3_levelAtSpring 28 = .ok (.getfield 15, 3) := by decide +kernel
theorem dX3_levelAtSpring_31 : decode cX3_levelAtSpring 31 = .ok (.iconst 2, 1) := by decide +kernel
theorem dX3_levelAtSpring_32 : decode cX3_levelAtSpring 32 = .ok (.iaload, 1) := by decide +kernel
theorem dX3_levelAtSpring_33 : decode cX3_levelAtSpring 33 = .ok (.isub, 1) := by decide +kernel
theorem dX3_levelAtSpring_34 : decode cX3_levelAtSpring 34 = .ok (.istore_n 2, 1) := by decide +kernel
theorem dX3_levelAtSpring_35 : decode cX3_levelAtSpring 35 = .ok (.iconst 0, 1) := by decide +kernel
theorem dX3_levelAtSpring_36 : decode cX3_levelAtSpring 36 = .ok (.iload_n 2, 1) := by decide +kernel
theorem dX3_levelAtSpring_37 : decode cX3_levelAtSpring 37 = .ok (.invokestatic 58, 3) := by decide +kernel
theorem dX3_levelAtSpring_40 : decode cX3_levelAtSpring 40 = .ok (.ireturn, 1) := by decide +kernel
theorem dX3_takesNone_0 : decode cX3_takesNone 0 = .ok (.aload_n 0, 1) := by decide +kernel
theorem dX3_takesNone_1 : decode cX3_takesNone 1 = .ok (.iload_n 1, 1) := by decide +kernel
theorem dX3_takesNone_2 : decode cX3_takesNone 2 = .ok (.iconst 4, 1) := by decide +kernel
theorem dX3_takesNone_3 : decode cX3_takesNone 3 = .ok (.invokevirtual 50, 3) := by decide +kernel
theorem dX3_takesNone_6 : decode cX3_takesNone 6 = .ok (.ifCond .ne 17, 3) := by decide +kernel
theorem dX3_takesNone_9 : decode cX3_takesNone 9 = .ok (.iload_n 2, 1) := by decide +kernel
theorem dX3_takesNone_10 : decode cX3_takesNone 10 = .ok (.iconst 2, 1) := by decide +kernel
theorem dX3_takesNone_11 : decode cX3_takesNone 11 = .ok (.if_icmp .ne 16, 3) := by decide +kernel
theorem dX3_takesNone_14 : decode cX3_takesNone 14 = .ok (.aload_n 0, 1) := by decide +kernel
theorem dX3_takesNone_15 : decode cX3_takesNone 15 = .ok (.iload_n 1, 1) := by decide +kernel
theorem dX3_takesNone_16 : decode cX3_takesNone 16 = .ok (.iconst 3, 1) := by decide +kernel
theorem dX3_takesNone_17 : decode cX3_takesNone 17 = .ok (.invokevirtual 50, 3) := by decide +kernel
theorem dX3_takesNone_20 : decode cX3_takesNone 20 = .ok (.ifCond .eq 7, 3) := by decide +kernel
theorem dX3_takesNone_23 : decode cX3_takesNone 23 = .ok (.iconst 1, 1) := by decide +kernel
theorem dX3_takesNone_24 : decode cX3_takesNone 24 = .ok (.goto 4, 3) := by decide +kernel
theorem dX3_takesNone_27 : decode cX3_takesNone 27 = .ok (.iconst 0, 1) := by decide +kernel
theorem dX3_takesNone_28 : decode cX3_takesNone 28 = .ok (.ireturn, 1) := by decide +kernel
theorem dX3_reasonAgainst_0 : decode cX3_reasonAgainst 0 = .ok (.iload_n 1, 1) := by decide +kernel
theorem dX3_reasonAgainst_1 : decode cX3_reasonAgainst 1 = .ok (.iconst 5, 1) := by decide +kernel
theorem dX3_reasonAgainst_2 : decode cX3_reasonAgainst 2 = .ok (.if_icmp .ne 14, 3) := by decide +kernel
theorem dX3_reasonAgainst_5 : decode cX3_reasonAgainst 5 = .ok (.aload_n 0, 1) := by decide +kernel
theorem dX3_reasonAgainst_6 : decode cX3_reasonAgainst 6 = .ok (.iload_n 2, 1) := by decide +kernel
theorem dX3_reasonAgainst_7 : decode cX3_reasonAgainst 7 = .ok (.iconst 0, 1) := by decide +kernel
theorem dX3_reasonAgainst_8 : decode cX3_reasonAgainst 8 = .ok (.invokevirtual 50, 3) := by decide +kernel
theorem dX3_reasonAgainst_11 : decode cX3_reasonAgainst 11 = .ok (.ifCond .gt 5, 3) := by decide +kernel
theorem dX3_reasonAgainst_14 : decode cX3_reasonAgainst 14 = .ok (.iconst 1, 1) := by decide +kernel
theorem dX3_reasonAgainst_15 : decode cX3_reasonAgainst 15 = .ok (.ireturn, 1) := by decide +kernel
theorem dX3_reasonAgainst_16 : decode cX3_reasonAgainst 16 = .ok (.iload_n 1, 1) := by decide +kernel
theorem dX3_reasonAgainst_17 : decode cX3_reasonAgainst 17 = .ok (.bipush 6, 2) := by decide +kernel
theorem dX3_reasonAgainst_19 : decode cX3_reasonAgainst 19 = .ok (.if_icmp .ne 19, 3) := by decide +kernel
theorem dX3_reasonAgainst_22 : decode cX3_reasonAgainst 22 = .ok (.aload_n 0, 1) := by decide +kernel
theorem dX3_reasonAgainst_23 : decode cX3_reasonAgainst 23 = .ok (.iload_n 2, 1) := by decide +kernel
theorem dX3_reasonAgainst_24 : decode cX3_reasonAgainst 24 = .ok (.iconst 0, 1) := by decide +kernel
theorem dX3_reasonAgainst_25 : decode cX3_reasonAgainst 25 = .ok (.invokevirtual 50, 3) := by decide +kernel
theorem dX3_reasonAgainst_28 : decode cX3_reasonAgainst 28 = .ok (.getstatic 67, 3) := by decide +kernel
theorem dX3_reasonAgainst_31 : decode cX3_reasonAgainst 31 = .ok (.iconst 0, 1) := by decide +kernel
theorem dX3_reasonAgainst_32 : decode cX3_reasonAgainst 32 = .ok (.iaload, 1) := by decide +kernel
theorem dX3_reasonAgainst_33 : decode cX3_reasonAgainst 33 = .ok (.if_icmp .lt 5, 3) := by decide +kernel
theorem dX3_reasonAgainst_36 : decode cX3_reasonAgainst 36 = .ok (.iconst 1, 1) := by decide +kernel
theorem dX3_reasonAgainst_37 : decode cX3_reasonAgainst 37 = .ok (.ireturn, 1) := by decide +kernel
theorem dX3_reasonAgainst_38 : decode cX3_reasonAgainst 38 = .ok (.iload_n 1, 1) := by decide +kernel
theorem dX3_reasonAgainst_39 : decode cX3_reasonAgainst 39 = .ok (.bipush 7, 2) := by decide +kernel
theorem dX3_reasonAgainst_41 : decode cX3_reasonAgainst 41 = .ok (.if_icmp .ne 19, 3) := by decide +kernel
theorem dX3_reasonAgainst_44 : decode cX3_reasonAgainst 44 = .ok (.aload_n 0, 1) := by decide +kernel
theorem dX3_reasonAgainst_45 : decode cX3_reasonAgainst 45 = .ok (.iload_n 2, 1) := by decide +kernel
theorem dX3_reasonAgainst_46 : decode cX3_reasonAgainst 46 = .ok (.iconst 1, 1) := by decide +kernel
theorem dX3_reasonAgainst_47 : decode cX3_reasonAgainst 47 = .ok (.invokevirtual 50, 3) := by decide +kernel
theorem dX3_reasonAgainst_50 : decode cX3_reasonAgainst 50 = .ok (.getstatic 67, 3) := by decide +kernel
theorem dX3_reasonAgainst_53 : decode cX3_reasonAgainst 53 = .ok (.iconst 1, 1) := by decide +kernel
theorem dX3_reasonAgainst_54 : decode cX3_reasonAgainst 54 = .ok (.iaload, 1) := by decide +kernel
theorem dX3_reasonAgainst_55 : decode cX3_reasonAgainst 55 = .ok (.if_icmp .lt 5, 3) := by decide +kernel
theorem dX3_reasonAgainst_58 : decode cX3_reasonAgainst 58 = .ok (.iconst 2, 1) := by decide +kernel
theorem dX3_reasonAgainst_59 : decode cX3_reasonAgainst 59 = .ok (.ireturn, 1) := by decide +kernel
theorem dX3_reasonAgainst_60 : decode cX3_reasonAgainst 60 = .ok (.iconst 0, 1) := by decide +kernel
theorem dX3_reasonAgainst_61 : decode cX3_reasonAgainst 61 = .ok (.ireturn, 1) := by decide +kernel
theorem dX3_apply_0 : decode cX3_apply 0 = .ok (.iload_n 1, 1) := by decide +kernel
theorem dX3_apply_1 : decode cX3_apply 1 = .ok (.tableswitch 90 4 7 #[31, 39, 56, 73], 31) := by decide +kernel
theorem dX3_apply_32 : decode cX3_apply 32 = .ok (.aload_n 0, 1) := by decide +kernel
theorem dX3_apply_33 : decode cX3_apply 33 = .ok (.iload_n 2, 1) := by decide +kernel
theorem dX3_apply_34 : decode cX3_apply 34 = .ok (.invokevirtual 70, 3) := by decide +kernel
theorem dX3_apply_37 : decode cX3_apply 37 = .ok (.goto 54, 3) := by decide +kernel
theorem dX3_apply_40 : decode cX3_apply 40 = .ok (.aload_n 0, 1) := by decide +kernel
theorem dX3_apply_41 : decode cX3_apply 41 = .ok (.iload_n 2, 1) := by decide +kernel
theorem dX3_apply_42 : decode cX3_apply 42 = .ok (.iconst 0, 1) := by decide +kernel
theorem dX3_apply_43 : decode cX3_apply 43 = .ok (.aload_n 0, 1) := by decide +kernel
theorem dX3_apply_44 : decode cX3_apply 44 = .ok (.iload_n 2, 1) := by decide +kernel
theorem dX3_apply_45 : decode cX3_apply 45 = .ok (.iconst 0, 1) := by decide +kernel
theorem dX3_apply_46 : decode cX3_apply 46 = .ok (.invokevirtual 50, 3) := by decide +kernel
theorem dX3_apply_49 : decode cX3_apply 49 = .ok (.iconst 1, 1) := by decide +kernel
theorem dX3_apply_50 : decode cX3_apply 50 = .ok (.isub, 1) := by decide +kernel
theorem dX3_apply_51 : decode cX3_apply 51 = .ok (.invokevirtual 54, 3) := by decide +kernel
theorem dX3_apply_54 : decode cX3_apply 54 = .ok (.goto 37, 3) := by decide +kernel
theorem dX3_apply_57 : decode cX3_apply 57 = .ok (.aload_n 0, 1) := by decide +kernel
theorem dX3_apply_58 : decode cX3_apply 58 = .ok (.iload_n 2, 1) := by decide +kernel
theorem dX3_apply_59 : decode cX3_apply 59 = .ok (.iconst 0, 1) := by decide +kernel
theorem dX3_apply_60 : decode cX3_apply 60 = .ok (.aload_n 0, 1) := by decide +kernel
theorem dX3_apply_61 : decode cX3_apply 61 = .ok (.iload_n 2, 1) := by decide +kernel
theorem dX3_apply_62 : decode cX3_apply 62 = .ok (.iconst 0, 1) := by decide +kernel
theorem dX3_apply_63 : decode cX3_apply 63 = .ok (.invokevirtual 50, 3) := by decide +kernel
theorem dX3_apply_66 : decode cX3_apply 66 = .ok (.iconst 1, 1) := by decide +kernel
theorem dX3_apply_67 : decode cX3_apply 67 = .ok (.iadd, 1) := by decide +kernel
theorem dX3_apply_68 : decode cX3_apply 68 = .ok (.invokevirtual 54, 3) := by decide +kernel
theorem dX3_apply_71 : decode cX3_apply 71 = .ok (.goto 20, 3) := by decide +kernel
theorem dX3_apply_74 : decode cX3_apply 74 = .ok (.aload_n 0, 1) := by decide +kernel
theorem dX3_apply_75 : decode cX3_apply 75 = .ok (.iload_n 2, 1) := by decide +kernel
theorem dX3_apply_76 : decode cX3_apply 76 = .ok (.iconst 1, 1) := by decide +kernel
theorem dX3_apply_77 : decode cX3_apply 77 = .ok (.aload_n 0, 1) := by decide +kernel
theorem dX3_apply_78 : decode cX3_apply 78 = .ok (.iload_n 2, 1) := by decide +kernel
theorem dX3_apply_79 : decode cX3_apply 79 = .ok (.iconst 1, 1) := by decide +kernel
theorem dX3_apply_80 : decode cX3_apply 80 = .ok (.invokevirtual 50, 3) := by decide +kernel
theorem dX3_apply_83 : decode cX3_apply 83 = .ok (.iconst 1, 1) := by decide +kernel
theorem dX3_apply_84 : decode cX3_apply 84 = .ok (.iadd, 1) := by decide +kernel
theorem dX3_apply_85 : decode cX3_apply 85 = .ok (.invokevirtual 54, 3) := by decide +kernel
theorem dX3_apply_88 : decode cX3_apply 88 = .ok (.goto 3, 3) := by decide +kernel
theorem dX3_apply_91 : decode cX3_apply 91 = .ok (.return_, 1) := by decide +kernel
theorem dX3_keep_0 : decode cX3_keep 0 = .ok (.iconst 0, 1) := by decide +kernel
theorem dX3_keep_1 : decode cX3_keep 1 = .ok (.istore_n 2, 1) := by decide +kernel
theorem dX3_keep_2 : decode cX3_keep 2 = .ok (.iload_n 2, 1) := by decide +kernel
theorem dX3_keep_3 : decode cX3_keep 3 = .ok (.aload_n 0, 1) := by decide +kernel
theorem dX3_keep_4 : decode cX3_keep 4 = .ok (.getfield 37, 3) := by decide +kernel
theorem dX3_keep_7 : decode cX3_keep 7 = .ok (.if_icmp .ge 30, 3) := by decide +kernel
theorem dX3_keep_10 : decode cX3_keep 10 = .ok (.aload_n 0, 1) := by decide +kernel
theorem dX3_keep_11 : decode cX3_keep 11 = .ok (.iload_n 2, 1) := by decide +kernel
theorem dX3_keep_12 : decode cX3_keep 12 = .ok (.bipush 6, 2) := by decide +kernel
theorem dX3_keep_14 : decode cX3_keep 14 = .ok (.aload_n 0, 1) := by decide +kernel
theorem dX3_keep_15 : decode cX3_keep 15 = .ok (.iload_n 2, 1) := by decide +kernel
theorem dX3_keep_16 : decode cX3_keep 16 = .ok (.bipush 6, 2) := by decide +kernel
theorem dX3_keep_18 : decode cX3_keep 18 = .ok (.invokevirtual 50, 3) := by decide +kernel
theorem dX3_keep_21 : decode cX3_keep 21 = .ok (.aload_n 1, 1) := by decide +kernel
theorem dX3_keep_22 : decode cX3_keep 22 = .ok (.getfield 73, 3) := by decide +kernel
theorem dX3_keep_25 : decode cX3_keep 25 = .ok (.iload_n 2, 1) := by decide +kernel
theorem dX3_keep_26 : decode cX3_keep 26 = .ok (.iaload, 1) := by decide +kernel
theorem dX3_keep_27 : decode cX3_keep 27 = .ok (.iadd, 1) := by decide +kernel
theorem dX3_keep_28 : decode cX3_keep 28 = .ok (.invokevirtual 54, 3) := by decide +kernel
theorem dX3_keep_31 : decode cX3_keep 31 = .ok (.iinc 2 1, 3) := by decide +kernel
theorem dX3_keep_34 : decode cX3_keep 34 = .ok (.goto (-32), 3) := by decide +kernel
theorem dX3_keep_37 : decode cX3_keep 37 = .ok (.aload_n 0, 1) := by decide +kernel
theorem dX3_keep_38 : decode cX3_keep 38 = .ok (.dup, 1) := by decide +kernel
theorem dX3_keep_39 : decode cX3_keep 39 = .ok (.getfield 41, 3) := by decide +kernel
theorem dX3_keep_42 : decode cX3_keep 42 = .ok (.aload_n 1, 1) := by decide +kernel
theorem dX3_keep_43 : decode cX3_keep 43 = .ok (.getfield 78, 3) := by decide +kernel
theorem dX3_keep_46 : decode cX3_keep 46 = .ok (.iadd, 1) := by decide +kernel
theorem dX3_keep_47 : decode cX3_keep 47 = .ok (.putfield 41, 3) := by decide +kernel
theorem dX3_keep_50 : decode cX3_keep 50 = .ok (.return_, 1) := by decide +kernel
end
section
/-! ===== rows and hours by their first cell; calls of contracts whose end is told ===== -/
abbrev NS (N : NN) : Prop := ∀ i k, i ≠ 11 → N i k = false
abbrev qI (K : List Nat) (N : NN) (J : MM) (v : Int) : Int → List Nat → NN → MM → Prop := fun z K1 N1 I1 => K1 = K ∧ N1 = N ∧ I1 = J ∧ z = v
abbrev qV (K : List Nat) (N : NN) (J : MM) : List Nat → NN → MM → Prop := fun K1 N1 I1 => K1 = K ∧ N1 = N ∧ I1 = J
abbrev pI (K : List Nat) (N : NN) (q : Int → MM → Prop) : Int → List Nat → NN → MM → Prop := fun z K1 N1 I1 => K1 = K ∧ N1 = N ∧ q z I1
abbrev pV (K : List Nat) (N : NN) (q : MM → Prop) : List Nat → NN → MM → Prop := fun K1 N1 I1 => K1 = K ∧ N1 = N ∧ q I1
theorem row_of {b : Nat} (h : kd b = 3) : b = 1 ∨ b = 6 ∨ b = 23 ∨ b = 36 ∨ b = 41 := by
  by_cases h2 : b < 67
  · exact (by decide : ∀ b, b < 67 → kd b = 3 → b = 1 ∨ b = 6 ∨ b = 23 ∨ b = 36 ∨ b = 41) b h2 h
  · rw [kd_big (by omega)] at h; cases h
theorem hour_of {b : Nat} (h : kd b = 2) : b = 12 ∨ b = 15 ∨ b = 28 := by
  by_cases h2 : b < 67
  · exact (by decide : ∀ b, b < 67 → kd b = 2 → b = 12 ∨ b = 15 ∨ b = 28) b h2 h
  · rw [kd_big (by omega)] at h; cases h
theorem ne11_R {b : Nat} (h : kd b = 3) : b ≠ 11 := by rcases row_of h with rfl | rfl | rfl | rfl | rfl <;> decide
theorem ne11_H {b : Nat} (h : kd b = 2) : b ≠ 11 := by rcases hour_of h with rfl | rfl | rfl <;> decide
theorem apart_RR {b c : Nat} (h : kd b = 3) (h2 : kd c = 3) (hne : b ≠ c) : b + 4 < c ∨ c + 4 < b := by rcases row_of h with rfl | rfl | rfl | rfl | rfl <;> rcases row_of h2 with rfl | rfl | rfl | rfl | rfl <;> omega
theorem apart_RH {b c : Nat} (h : kd b = 3) (h2 : kd c = 2) : b + 4 < c ∨ c + 2 < b := by rcases row_of h with rfl | rfl | rfl | rfl | rfl <;> rcases hour_of h2 with rfl | rfl | rfl <;> omega
theorem kd_R1 {b : Nat} (h : kd b = 3) : kd (b + 1) = 10 := by rcases row_of h with rfl | rfl | rfl | rfl | rfl <;> rfl
theorem ln_R1 {b : Nat} (h : kd b = 3) : ln (b + 1) = 63 := by rcases row_of h with rfl | rfl | rfl | rfl | rfl <;> rfl
theorem kd_R2 {b : Nat} (h : kd b = 3) : kd (b + 2) = 10 := by rcases row_of h with rfl | rfl | rfl | rfl | rfl <;> rfl
theorem ln_R2 {b : Nat} (h : kd b = 3) : ln (b + 2) = 3 := by rcases row_of h with rfl | rfl | rfl | rfl | rfl <;> rfl
theorem kd_R3 {b : Nat} (h : kd b = 3) : kd (b + 3) = 10 := by rcases row_of h with rfl | rfl | rfl | rfl | rfl <;> rfl
theorem ln_R3 {b : Nat} (h : kd b = 3) : ln (b + 3) = 8 := by rcases row_of h with rfl | rfl | rfl | rfl | rfl <;> rfl
theorem kd_R4 {b : Nat} (h : kd b = 3) : kd (b + 4) = 10 := by rcases row_of h with rfl | rfl | rfl | rfl | rfl <;> rfl
theorem ln_R4 {b : Nat} (h : kd b = 3) : ln (b + 4) = 8 := by rcases row_of h with rfl | rfl | rfl | rfl | rfl <;> rfl
theorem tg_R0 {b : Nat} (h : kd b = 3) : tg b 0 = none := by rcases row_of h with rfl | rfl | rfl | rfl | rfl <;> rfl
theorem tg_R1 {b : Nat} (h : kd b = 3) : tg b 1 = none := by rcases row_of h with rfl | rfl | rfl | rfl | rfl <;> rfl
theorem tg_R2 {b : Nat} (h : kd b = 3) : tg b 2 = none := by rcases row_of h with rfl | rfl | rfl | rfl | rfl <;> rfl
theorem tg_R3 {b : Nat} (h : kd b = 3) : tg b 3 = some (b + 1) := by rcases row_of h with rfl | rfl | rfl | rfl | rfl <;> rfl
theorem tg_R4 {b : Nat} (h : kd b = 3) : tg b 4 = some (b + 2) := by rcases row_of h with rfl | rfl | rfl | rfl | rfl <;> rfl
theorem tg_R5 {b : Nat} (h : kd b = 3) : tg b 5 = some (b + 3) := by rcases row_of h with rfl | rfl | rfl | rfl | rfl <;> rfl
theorem tg_R6 {b : Nat} (h : kd b = 3) : tg b 6 = some (b + 4) := by rcases row_of h with rfl | rfl | rfl | rfl | rfl <;> rfl
theorem kd_H1 {b : Nat} (h : kd b = 2) : kd (b + 1) = 10 := by rcases hour_of h with rfl | rfl | rfl <;> rfl
theorem ln_H1 {b : Nat} (h : kd b = 2) : ln (b + 1) = 9 := by rcases hour_of h with rfl | rfl | rfl <;> rfl
theorem kd_H2 {b : Nat} (h : kd b = 2) : kd (b + 2) = 10 := by rcases hour_of h with rfl | rfl | rfl <;> rfl
theorem ln_H2 {b : Nat} (h : kd b = 2) : ln (b + 2) = 9 := by rcases hour_of h with rfl | rfl | rfl <;> rfl
theorem tg_H0 {b : Nat} (h : kd b = 2) : tg b 0 = some (b + 1) := by rcases hour_of h with rfl | rfl | rfl <;> rfl
theorem tg_H1 {b : Nat} (h : kd b = 2) : tg b 1 = some (b + 2) := by rcases hour_of h with rfl | rfl | rfl <;> rfl
theorem tg_H2 {b : Nat} (h : kd b = 2) : tg b 2 = none := by rcases hour_of h with rfl | rfl | rfl <;> rfl
section FR
variable {G : GT} {own : String} {cc : ByteArray} {R : Room} {Fx : FxT} {pc : Nat} {L : List (Option Value)} {S : List Value} {K : List Nat} {N : NN} {I J : MM} {cs ss : Nat}
theorem xf_VI0 {x : Nat} {mt : MT} {ty : FieldType} {fr lo : Nat} {i : Nat} {z : Int} (hd : decode cc pc = .ok (.invokevirtual x, 3)) (hl : Cond.methodLink own x mt.1 ∈ Wd) (hv : VW mt (some ty) 0) (hvv : VVW mt) (hk : (classes[kd i]?).map (fun q => q.1) = some mt.1.cls) (sp : SpI G mt ty fr lo 0 0 [.ref i] K N I (qI K N J z)) (hR : fr + 1 ≤ R.frames ∧ 8 + (mt.2.2 + 11) + lo ≤ R.locals ∧ cs + 0 ≤ R.cells ∧ ss + 0 ≤ R.slots ∧ (S.map fun v => v.category).sum ≤ 8) (h : XX G own cc R Fx (pc + 3) L (vi z :: S) K N J cs ss) : XX G own cc R Fx pc L (.ref i :: S) K N I cs ss :=
  x_cVI0 hd hl hv hvv hk sp hR (fun z1 K1 N1 I1 hq _ => by obtain ⟨rfl, rfl, rfl, rfl⟩ := hq; exact h)
theorem xp_VI0 {x : Nat} {mt : MT} {ty : FieldType} {fr lo : Nat} {i : Nat} {q : Int → MM → Prop} (hd : decode cc pc = .ok (.invokevirtual x, 3)) (hl : Cond.methodLink own x mt.1 ∈ Wd) (hv : VW mt (some ty) 0) (hvv : VVW mt) (hk : (classes[kd i]?).map (fun q => q.1) = some mt.1.cls) (sp : SpI G mt ty fr lo 0 0 [.ref i] K N I (pI K N q)) (hR : fr + 1 ≤ R.frames ∧ 8 + (mt.2.2 + 11) + lo ≤ R.locals ∧ cs + 0 ≤ R.cells ∧ ss + 0 ≤ R.slots ∧ (S.map fun v => v.category).sum ≤ 8) (h : ∀ z I1, q z I1 → XX G own cc R Fx (pc + 3) L (vi z :: S) K N I1 cs ss) : XX G own cc R Fx pc L (.ref i :: S) K N I cs ss :=
  x_cVI0 hd hl hv hvv hk sp hR (fun z1 K1 N1 I1 hq _ => by obtain ⟨rfl, rfl, hq⟩ := hq; exact h z1 I1 hq)
theorem xf_VI1 {x : Nat} {mt : MT} {ty : FieldType} {fr lo : Nat} {i : Nat} {v1 : Value} {z : Int} (hd : decode cc pc = .ok (.invokevirtual x, 3)) (hl : Cond.methodLink own x mt.1 ∈ Wd) (hv : VW mt (some ty) 1) (hvv : VVW mt) (hk : (classes[kd i]?).map (fun q => q.1) = some mt.1.cls) (sp : SpI G mt ty fr lo 0 0 [.ref i, v1] K N I (qI K N J z)) (hR : fr + 1 ≤ R.frames ∧ 8 + (mt.2.2 + 11) + lo ≤ R.locals ∧ cs + 0 ≤ R.cells ∧ ss + 0 ≤ R.slots ∧ (S.map fun v => v.category).sum ≤ 8) (h : XX G own cc R Fx (pc + 3) L (vi z :: S) K N J cs ss) : XX G own cc R Fx pc L (v1 :: .ref i :: S) K N I cs ss :=
  x_cVI1 hd hl hv hvv hk sp hR (fun z1 K1 N1 I1 hq _ => by obtain ⟨rfl, rfl, rfl, rfl⟩ := hq; exact h)
theorem xp_VI1 {x : Nat} {mt : MT} {ty : FieldType} {fr lo : Nat} {i : Nat} {v1 : Value} {q : Int → MM → Prop} (hd : decode cc pc = .ok (.invokevirtual x, 3)) (hl : Cond.methodLink own x mt.1 ∈ Wd) (hv : VW mt (some ty) 1) (hvv : VVW mt) (hk : (classes[kd i]?).map (fun q => q.1) = some mt.1.cls) (sp : SpI G mt ty fr lo 0 0 [.ref i, v1] K N I (pI K N q)) (hR : fr + 1 ≤ R.frames ∧ 8 + (mt.2.2 + 11) + lo ≤ R.locals ∧ cs + 0 ≤ R.cells ∧ ss + 0 ≤ R.slots ∧ (S.map fun v => v.category).sum ≤ 8) (h : ∀ z I1, q z I1 → XX G own cc R Fx (pc + 3) L (vi z :: S) K N I1 cs ss) : XX G own cc R Fx pc L (v1 :: .ref i :: S) K N I cs ss :=
  x_cVI1 hd hl hv hvv hk sp hR (fun z1 K1 N1 I1 hq _ => by obtain ⟨rfl, rfl, hq⟩ := hq; exact h z1 I1 hq)
theorem xf_VI2 {x : Nat} {mt : MT} {ty : FieldType} {fr lo : Nat} {i : Nat} {v1 v2 : Value} {z : Int} (hd : decode cc pc = .ok (.invokevirtual x, 3)) (hl : Cond.methodLink own x mt.1 ∈ Wd) (hv : VW mt (some ty) 2) (hvv : VVW mt) (hk : (classes[kd i]?).map (fun q => q.1) = some mt.1.cls) (sp : SpI G mt ty fr lo 0 0 [.ref i, v1, v2] K N I (qI K N J z)) (hR : fr + 1 ≤ R.frames ∧ 8 + (mt.2.2 + 11) + lo ≤ R.locals ∧ cs + 0 ≤ R.cells ∧ ss + 0 ≤ R.slots ∧ (S.map fun v => v.category).sum ≤ 8) (h : XX G own cc R Fx (pc + 3) L (vi z :: S) K N J cs ss) : XX G own cc R Fx pc L (v2 :: v1 :: .ref i :: S) K N I cs ss :=
  x_cVI2 hd hl hv hvv hk sp hR (fun z1 K1 N1 I1 hq _ => by obtain ⟨rfl, rfl, rfl, rfl⟩ := hq; exact h)
theorem xp_VI2 {x : Nat} {mt : MT} {ty : FieldType} {fr lo : Nat} {i : Nat} {v1 v2 : Value} {q : Int → MM → Prop} (hd : decode cc pc = .ok (.invokevirtual x, 3)) (hl : Cond.methodLink own x mt.1 ∈ Wd) (hv : VW mt (some ty) 2) (hvv : VVW mt) (hk : (classes[kd i]?).map (fun q => q.1) = some mt.1.cls) (sp : SpI G mt ty fr lo 0 0 [.ref i, v1, v2] K N I (pI K N q)) (hR : fr + 1 ≤ R.frames ∧ 8 + (mt.2.2 + 11) + lo ≤ R.locals ∧ cs + 0 ≤ R.cells ∧ ss + 0 ≤ R.slots ∧ (S.map fun v => v.category).sum ≤ 8) (h : ∀ z I1, q z I1 → XX G own cc R Fx (pc + 3) L (vi z :: S) K N I1 cs ss) : XX G own cc R Fx pc L (v2 :: v1 :: .ref i :: S) K N I cs ss :=
  x_cVI2 hd hl hv hvv hk sp hR (fun z1 K1 N1 I1 hq _ => by obtain ⟨rfl, rfl, hq⟩ := hq; exact h z1 I1 hq)
theorem xf_VI3 {x : Nat} {mt : MT} {ty : FieldType} {fr lo : Nat} {i : Nat} {v1 v2 v3 : Value} {z : Int} (hd : decode cc pc = .ok (.invokevirtual x, 3)) (hl : Cond.methodLink own x mt.1 ∈ Wd) (hv : VW mt (some ty) 3) (hvv : VVW mt) (hk : (classes[kd i]?).map (fun q => q.1) = some mt.1.cls) (sp : SpI G mt ty fr lo 0 0 [.ref i, v1, v2, v3] K N I (qI K N J z)) (hR : fr + 1 ≤ R.frames ∧ 8 + (mt.2.2 + 11) + lo ≤ R.locals ∧ cs + 0 ≤ R.cells ∧ ss + 0 ≤ R.slots ∧ (S.map fun v => v.category).sum ≤ 8) (h : XX G own cc R Fx (pc + 3) L (vi z :: S) K N J cs ss) : XX G own cc R Fx pc L (v3 :: v2 :: v1 :: .ref i :: S) K N I cs ss :=
  x_cVI3 hd hl hv hvv hk sp hR (fun z1 K1 N1 I1 hq _ => by obtain ⟨rfl, rfl, rfl, rfl⟩ := hq; exact h)
theorem xp_VI3 {x : Nat} {mt : MT} {ty : FieldType} {fr lo : Nat} {i : Nat} {v1 v2 v3 : Value} {q : Int → MM → Prop} (hd : decode cc pc = .ok (.invokevirtual x, 3)) (hl : Cond.methodLink own x mt.1 ∈ Wd) (hv : VW mt (some ty) 3) (hvv : VVW mt) (hk : (classes[kd i]?).map (fun q => q.1) = some mt.1.cls) (sp : SpI G mt ty fr lo 0 0 [.ref i, v1, v2, v3] K N I (pI K N q)) (hR : fr + 1 ≤ R.frames ∧ 8 + (mt.2.2 + 11) + lo ≤ R.locals ∧ cs + 0 ≤ R.cells ∧ ss + 0 ≤ R.slots ∧ (S.map fun v => v.category).sum ≤ 8) (h : ∀ z I1, q z I1 → XX G own cc R Fx (pc + 3) L (vi z :: S) K N I1 cs ss) : XX G own cc R Fx pc L (v3 :: v2 :: v1 :: .ref i :: S) K N I cs ss :=
  x_cVI3 hd hl hv hvv hk sp hR (fun z1 K1 N1 I1 hq _ => by obtain ⟨rfl, rfl, hq⟩ := hq; exact h z1 I1 hq)
theorem xf_VI4 {x : Nat} {mt : MT} {ty : FieldType} {fr lo : Nat} {i : Nat} {v1 v2 v3 v4 : Value} {z : Int} (hd : decode cc pc = .ok (.invokevirtual x, 3)) (hl : Cond.methodLink own x mt.1 ∈ Wd) (hv : VW mt (some ty) 4) (hvv : VVW mt) (hk : (classes[kd i]?).map (fun q => q.1) = some mt.1.cls) (sp : SpI G mt ty fr lo 0 0 [.ref i, v1, v2, v3, v4] K N I (qI K N J z)) (hR : fr + 1 ≤ R.frames ∧ 8 + (mt.2.2 + 11) + lo ≤ R.locals ∧ cs + 0 ≤ R.cells ∧ ss + 0 ≤ R.slots ∧ (S.map fun v => v.category).sum ≤ 8) (h : XX G own cc R Fx (pc + 3) L (vi z :: S) K N J cs ss) : XX G own cc R Fx pc L (v4 :: v3 :: v2 :: v1 :: .ref i :: S) K N I cs ss :=
  x_cVI4 hd hl hv hvv hk sp hR (fun z1 K1 N1 I1 hq _ => by obtain ⟨rfl, rfl, rfl, rfl⟩ := hq; exact h)
theorem xp_VI4 {x : Nat} {mt : MT} {ty : FieldType} {fr lo : Nat} {i : Nat} {v1 v2 v3 v4 : Value} {q : Int → MM → Prop} (hd : decode cc pc = .ok (.invokevirtual x, 3)) (hl : Cond.methodLink own x mt.1 ∈ Wd) (hv : VW mt (some ty) 4) (hvv : VVW mt) (hk : (classes[kd i]?).map (fun q => q.1) = some mt.1.cls) (sp : SpI G mt ty fr lo 0 0 [.ref i, v1, v2, v3, v4] K N I (pI K N q)) (hR : fr + 1 ≤ R.frames ∧ 8 + (mt.2.2 + 11) + lo ≤ R.locals ∧ cs + 0 ≤ R.cells ∧ ss + 0 ≤ R.slots ∧ (S.map fun v => v.category).sum ≤ 8) (h : ∀ z I1, q z I1 → XX G own cc R Fx (pc + 3) L (vi z :: S) K N I1 cs ss) : XX G own cc R Fx pc L (v4 :: v3 :: v2 :: v1 :: .ref i :: S) K N I cs ss :=
  x_cVI4 hd hl hv hvv hk sp hR (fun z1 K1 N1 I1 hq _ => by obtain ⟨rfl, rfl, hq⟩ := hq; exact h z1 I1 hq)
theorem xf_VI5 {x : Nat} {mt : MT} {ty : FieldType} {fr lo : Nat} {i : Nat} {v1 v2 v3 v4 v5 : Value} {z : Int} (hd : decode cc pc = .ok (.invokevirtual x, 3)) (hl : Cond.methodLink own x mt.1 ∈ Wd) (hv : VW mt (some ty) 5) (hvv : VVW mt) (hk : (classes[kd i]?).map (fun q => q.1) = some mt.1.cls) (sp : SpI G mt ty fr lo 0 0 [.ref i, v1, v2, v3, v4, v5] K N I (qI K N J z)) (hR : fr + 1 ≤ R.frames ∧ 8 + (mt.2.2 + 11) + lo ≤ R.locals ∧ cs + 0 ≤ R.cells ∧ ss + 0 ≤ R.slots ∧ (S.map fun v => v.category).sum ≤ 8) (h : XX G own cc R Fx (pc + 3) L (vi z :: S) K N J cs ss) : XX G own cc R Fx pc L (v5 :: v4 :: v3 :: v2 :: v1 :: .ref i :: S) K N I cs ss :=
  x_cVI5 hd hl hv hvv hk sp hR (fun z1 K1 N1 I1 hq _ => by obtain ⟨rfl, rfl, rfl, rfl⟩ := hq; exact h)
theorem xp_VI5 {x : Nat} {mt : MT} {ty : FieldType} {fr lo : Nat} {i : Nat} {v1 v2 v3 v4 v5 : Value} {q : Int → MM → Prop} (hd : decode cc pc = .ok (.invokevirtual x, 3)) (hl : Cond.methodLink own x mt.1 ∈ Wd) (hv : VW mt (some ty) 5) (hvv : VVW mt) (hk : (classes[kd i]?).map (fun q => q.1) = some mt.1.cls) (sp : SpI G mt ty fr lo 0 0 [.ref i, v1, v2, v3, v4, v5] K N I (pI K N q)) (hR : fr + 1 ≤ R.frames ∧ 8 + (mt.2.2 + 11) + lo ≤ R.locals ∧ cs + 0 ≤ R.cells ∧ ss + 0 ≤ R.slots ∧ (S.map fun v => v.category).sum ≤ 8) (h : ∀ z I1, q z I1 → XX G own cc R Fx (pc + 3) L (vi z :: S) K N I1 cs ss) : XX G own cc R Fx pc L (v5 :: v4 :: v3 :: v2 :: v1 :: .ref i :: S) K N I cs ss :=
  x_cVI5 hd hl hv hvv hk sp hR (fun z1 K1 N1 I1 hq _ => by obtain ⟨rfl, rfl, hq⟩ := hq; exact h z1 I1 hq)
theorem xf_VL0 {x : Nat} {mt : MT} {ty : FieldType} {fr lo : Nat} {i : Nat} {z : Int} (hd : decode cc pc = .ok (.invokevirtual x, 3)) (hl : Cond.methodLink own x mt.1 ∈ Wd) (hv : VW mt (some ty) 0) (hvv : VVW mt) (hk : (classes[kd i]?).map (fun q => q.1) = some mt.1.cls) (sp : SpL G mt ty fr lo 0 0 [.ref i] K N I (qI K N J z)) (hR : fr + 1 ≤ R.frames ∧ 8 + (mt.2.2 + 11) + lo ≤ R.locals ∧ cs + 0 ≤ R.cells ∧ ss + 0 ≤ R.slots ∧ (S.map fun v => v.category).sum ≤ 8) (h : XX G own cc R Fx (pc + 3) L (vl z :: S) K N J cs ss) : XX G own cc R Fx pc L (.ref i :: S) K N I cs ss :=
  x_cVL0 hd hl hv hvv hk sp hR (fun z1 K1 N1 I1 hq _ => by obtain ⟨rfl, rfl, rfl, rfl⟩ := hq; exact h)
theorem xp_VL0 {x : Nat} {mt : MT} {ty : FieldType} {fr lo : Nat} {i : Nat} {q : Int → MM → Prop} (hd : decode cc pc = .ok (.invokevirtual x, 3)) (hl : Cond.methodLink own x mt.1 ∈ Wd) (hv : VW mt (some ty) 0) (hvv : VVW mt) (hk : (classes[kd i]?).map (fun q => q.1) = some mt.1.cls) (sp : SpL G mt ty fr lo 0 0 [.ref i] K N I (pI K N q)) (hR : fr + 1 ≤ R.frames ∧ 8 + (mt.2.2 + 11) + lo ≤ R.locals ∧ cs + 0 ≤ R.cells ∧ ss + 0 ≤ R.slots ∧ (S.map fun v => v.category).sum ≤ 8) (h : ∀ z I1, q z I1 → XX G own cc R Fx (pc + 3) L (vl z :: S) K N I1 cs ss) : XX G own cc R Fx pc L (.ref i :: S) K N I cs ss :=
  x_cVL0 hd hl hv hvv hk sp hR (fun z1 K1 N1 I1 hq _ => by obtain ⟨rfl, rfl, hq⟩ := hq; exact h z1 I1 hq)
theorem xf_VL1 {x : Nat} {mt : MT} {ty : FieldType} {fr lo : Nat} {i : Nat} {v1 : Value} {z : Int} (hd : decode cc pc = .ok (.invokevirtual x, 3)) (hl : Cond.methodLink own x mt.1 ∈ Wd) (hv : VW mt (some ty) 1) (hvv : VVW mt) (hk : (classes[kd i]?).map (fun q => q.1) = some mt.1.cls) (sp : SpL G mt ty fr lo 0 0 [.ref i, v1] K N I (qI K N J z)) (hR : fr + 1 ≤ R.frames ∧ 8 + (mt.2.2 + 11) + lo ≤ R.locals ∧ cs + 0 ≤ R.cells ∧ ss + 0 ≤ R.slots ∧ (S.map fun v => v.category).sum ≤ 8) (h : XX G own cc R Fx (pc + 3) L (vl z :: S) K N J cs ss) : XX G own cc R Fx pc L (v1 :: .ref i :: S) K N I cs ss :=
  x_cVL1 hd hl hv hvv hk sp hR (fun z1 K1 N1 I1 hq _ => by obtain ⟨rfl, rfl, rfl, rfl⟩ := hq; exact h)
theorem xp_VL1 {x : Nat} {mt : MT} {ty : FieldType} {fr lo : Nat} {i : Nat} {v1 : Value} {q : Int → MM → Prop} (hd : decode cc pc = .ok (.invokevirtual x, 3)) (hl : Cond.methodLink own x mt.1 ∈ Wd) (hv : VW mt (some ty) 1) (hvv : VVW mt) (hk : (classes[kd i]?).map (fun q => q.1) = some mt.1.cls) (sp : SpL G mt ty fr lo 0 0 [.ref i, v1] K N I (pI K N q)) (hR : fr + 1 ≤ R.frames ∧ 8 + (mt.2.2 + 11) + lo ≤ R.locals ∧ cs + 0 ≤ R.cells ∧ ss + 0 ≤ R.slots ∧ (S.map fun v => v.category).sum ≤ 8) (h : ∀ z I1, q z I1 → XX G own cc R Fx (pc + 3) L (vl z :: S) K N I1 cs ss) : XX G own cc R Fx pc L (v1 :: .ref i :: S) K N I cs ss :=
  x_cVL1 hd hl hv hvv hk sp hR (fun z1 K1 N1 I1 hq _ => by obtain ⟨rfl, rfl, hq⟩ := hq; exact h z1 I1 hq)
theorem xf_VL2 {x : Nat} {mt : MT} {ty : FieldType} {fr lo : Nat} {i : Nat} {v1 v2 : Value} {z : Int} (hd : decode cc pc = .ok (.invokevirtual x, 3)) (hl : Cond.methodLink own x mt.1 ∈ Wd) (hv : VW mt (some ty) 2) (hvv : VVW mt) (hk : (classes[kd i]?).map (fun q => q.1) = some mt.1.cls) (sp : SpL G mt ty fr lo 0 0 [.ref i, v1, v2] K N I (qI K N J z)) (hR : fr + 1 ≤ R.frames ∧ 8 + (mt.2.2 + 11) + lo ≤ R.locals ∧ cs + 0 ≤ R.cells ∧ ss + 0 ≤ R.slots ∧ (S.map fun v => v.category).sum ≤ 8) (h : XX G own cc R Fx (pc + 3) L (vl z :: S) K N J cs ss) : XX G own cc R Fx pc L (v2 :: v1 :: .ref i :: S) K N I cs ss :=
  x_cVL2 hd hl hv hvv hk sp hR (fun z1 K1 N1 I1 hq _ => by obtain ⟨rfl, rfl, rfl, rfl⟩ := hq; exact h)
theorem xp_VL2 {x : Nat} {mt : MT} {ty : FieldType} {fr lo : Nat} {i : Nat} {v1 v2 : Value} {q : Int → MM → Prop} (hd : decode cc pc = .ok (.invokevirtual x, 3)) (hl : Cond.methodLink own x mt.1 ∈ Wd) (hv : VW mt (some ty) 2) (hvv : VVW mt) (hk : (classes[kd i]?).map (fun q => q.1) = some mt.1.cls) (sp : SpL G mt ty fr lo 0 0 [.ref i, v1, v2] K N I (pI K N q)) (hR : fr + 1 ≤ R.frames ∧ 8 + (mt.2.2 + 11) + lo ≤ R.locals ∧ cs + 0 ≤ R.cells ∧ ss + 0 ≤ R.slots ∧ (S.map fun v => v.category).sum ≤ 8) (h : ∀ z I1, q z I1 → XX G own cc R Fx (pc + 3) L (vl z :: S) K N I1 cs ss) : XX G own cc R Fx pc L (v2 :: v1 :: .ref i :: S) K N I cs ss :=
  x_cVL2 hd hl hv hvv hk sp hR (fun z1 K1 N1 I1 hq _ => by obtain ⟨rfl, rfl, hq⟩ := hq; exact h z1 I1 hq)
theorem xf_VL3 {x : Nat} {mt : MT} {ty : FieldType} {fr lo : Nat} {i : Nat} {v1 v2 v3 : Value} {z : Int} (hd : decode cc pc = .ok (.invokevirtual x, 3)) (hl : Cond.methodLink own x mt.1 ∈ Wd) (hv : VW mt (some ty) 3) (hvv : VVW mt) (hk : (classes[kd i]?).map (fun q => q.1) = some mt.1.cls) (sp : SpL G mt ty fr lo 0 0 [.ref i, v1, v2, v3] K N I (qI K N J z)) (hR : fr + 1 ≤ R.frames ∧ 8 + (mt.2.2 + 11) + lo ≤ R.locals ∧ cs + 0 ≤ R.cells ∧ ss + 0 ≤ R.slots ∧ (S.map fun v => v.category).sum ≤ 8) (h : XX G own cc R Fx (pc + 3) L (vl z :: S) K N J cs ss) : XX G own cc R Fx pc L (v3 :: v2 :: v1 :: .ref i :: S) K N I cs ss :=
  x_cVL3 hd hl hv hvv hk sp hR (fun z1 K1 N1 I1 hq _ => by obtain ⟨rfl, rfl, rfl, rfl⟩ := hq; exact h)
theorem xp_VL3 {x : Nat} {mt : MT} {ty : FieldType} {fr lo : Nat} {i : Nat} {v1 v2 v3 : Value} {q : Int → MM → Prop} (hd : decode cc pc = .ok (.invokevirtual x, 3)) (hl : Cond.methodLink own x mt.1 ∈ Wd) (hv : VW mt (some ty) 3) (hvv : VVW mt) (hk : (classes[kd i]?).map (fun q => q.1) = some mt.1.cls) (sp : SpL G mt ty fr lo 0 0 [.ref i, v1, v2, v3] K N I (pI K N q)) (hR : fr + 1 ≤ R.frames ∧ 8 + (mt.2.2 + 11) + lo ≤ R.locals ∧ cs + 0 ≤ R.cells ∧ ss + 0 ≤ R.slots ∧ (S.map fun v => v.category).sum ≤ 8) (h : ∀ z I1, q z I1 → XX G own cc R Fx (pc + 3) L (vl z :: S) K N I1 cs ss) : XX G own cc R Fx pc L (v3 :: v2 :: v1 :: .ref i :: S) K N I cs ss :=
  x_cVL3 hd hl hv hvv hk sp hR (fun z1 K1 N1 I1 hq _ => by obtain ⟨rfl, rfl, hq⟩ := hq; exact h z1 I1 hq)
theorem xf_VL4 {x : Nat} {mt : MT} {ty : FieldType} {fr lo : Nat} {i : Nat} {v1 v2 v3 v4 : Value} {z : Int} (hd : decode cc pc = .ok (.invokevirtual x, 3)) (hl : Cond.methodLink own x mt.1 ∈ Wd) (hv : VW mt (some ty) 4) (hvv : VVW mt) (hk : (classes[kd i]?).map (fun q => q.1) = some mt.1.cls) (sp : SpL G mt ty fr lo 0 0 [.ref i, v1, v2, v3, v4] K N I (qI K N J z)) (hR : fr + 1 ≤ R.frames ∧ 8 + (mt.2.2 + 11) + lo ≤ R.locals ∧ cs + 0 ≤ R.cells ∧ ss + 0 ≤ R.slots ∧ (S.map fun v => v.category).sum ≤ 8) (h : XX G own cc R Fx (pc + 3) L (vl z :: S) K N J cs ss) : XX G own cc R Fx pc L (v4 :: v3 :: v2 :: v1 :: .ref i :: S) K N I cs ss :=
  x_cVL4 hd hl hv hvv hk sp hR (fun z1 K1 N1 I1 hq _ => by obtain ⟨rfl, rfl, rfl, rfl⟩ := hq; exact h)
theorem xp_VL4 {x : Nat} {mt : MT} {ty : FieldType} {fr lo : Nat} {i : Nat} {v1 v2 v3 v4 : Value} {q : Int → MM → Prop} (hd : decode cc pc = .ok (.invokevirtual x, 3)) (hl : Cond.methodLink own x mt.1 ∈ Wd) (hv : VW mt (some ty) 4) (hvv : VVW mt) (hk : (classes[kd i]?).map (fun q => q.1) = some mt.1.cls) (sp : SpL G mt ty fr lo 0 0 [.ref i, v1, v2, v3, v4] K N I (pI K N q)) (hR : fr + 1 ≤ R.frames ∧ 8 + (mt.2.2 + 11) + lo ≤ R.locals ∧ cs + 0 ≤ R.cells ∧ ss + 0 ≤ R.slots ∧ (S.map fun v => v.category).sum ≤ 8) (h : ∀ z I1, q z I1 → XX G own cc R Fx (pc + 3) L (vl z :: S) K N I1 cs ss) : XX G own cc R Fx pc L (v4 :: v3 :: v2 :: v1 :: .ref i :: S) K N I cs ss :=
  x_cVL4 hd hl hv hvv hk sp hR (fun z1 K1 N1 I1 hq _ => by obtain ⟨rfl, rfl, hq⟩ := hq; exact h z1 I1 hq)
theorem xf_VL5 {x : Nat} {mt : MT} {ty : FieldType} {fr lo : Nat} {i : Nat} {v1 v2 v3 v4 v5 : Value} {z : Int} (hd : decode cc pc = .ok (.invokevirtual x, 3)) (hl : Cond.methodLink own x mt.1 ∈ Wd) (hv : VW mt (some ty) 5) (hvv : VVW mt) (hk : (classes[kd i]?).map (fun q => q.1) = some mt.1.cls) (sp : SpL G mt ty fr lo 0 0 [.ref i, v1, v2, v3, v4, v5] K N I (qI K N J z)) (hR : fr + 1 ≤ R.frames ∧ 8 + (mt.2.2 + 11) + lo ≤ R.locals ∧ cs + 0 ≤ R.cells ∧ ss + 0 ≤ R.slots ∧ (S.map fun v => v.category).sum ≤ 8) (h : XX G own cc R Fx (pc + 3) L (vl z :: S) K N J cs ss) : XX G own cc R Fx pc L (v5 :: v4 :: v3 :: v2 :: v1 :: .ref i :: S) K N I cs ss :=
  x_cVL5 hd hl hv hvv hk sp hR (fun z1 K1 N1 I1 hq _ => by obtain ⟨rfl, rfl, rfl, rfl⟩ := hq; exact h)
theorem xp_VL5 {x : Nat} {mt : MT} {ty : FieldType} {fr lo : Nat} {i : Nat} {v1 v2 v3 v4 v5 : Value} {q : Int → MM → Prop} (hd : decode cc pc = .ok (.invokevirtual x, 3)) (hl : Cond.methodLink own x mt.1 ∈ Wd) (hv : VW mt (some ty) 5) (hvv : VVW mt) (hk : (classes[kd i]?).map (fun q => q.1) = some mt.1.cls) (sp : SpL G mt ty fr lo 0 0 [.ref i, v1, v2, v3, v4, v5] K N I (pI K N q)) (hR : fr + 1 ≤ R.frames ∧ 8 + (mt.2.2 + 11) + lo ≤ R.locals ∧ cs + 0 ≤ R.cells ∧ ss + 0 ≤ R.slots ∧ (S.map fun v => v.category).sum ≤ 8) (h : ∀ z I1, q z I1 → XX G own cc R Fx (pc + 3) L (vl z :: S) K N I1 cs ss) : XX G own cc R Fx pc L (v5 :: v4 :: v3 :: v2 :: v1 :: .ref i :: S) K N I cs ss :=
  x_cVL5 hd hl hv hvv hk sp hR (fun z1 K1 N1 I1 hq _ => by obtain ⟨rfl, rfl, hq⟩ := hq; exact h z1 I1 hq)
theorem xf_VV0 {x : Nat} {mt : MT} {fr lo : Nat} {i : Nat} (hd : decode cc pc = .ok (.invokevirtual x, 3)) (hl : Cond.methodLink own x mt.1 ∈ Wd) (hv : VW mt none 0) (hvv : VVW mt) (hk : (classes[kd i]?).map (fun q => q.1) = some mt.1.cls) (sp : SpV G mt fr lo 0 0 [.ref i] K N I (qV K N J)) (hR : fr + 1 ≤ R.frames ∧ 8 + (mt.2.2 + 11) + lo ≤ R.locals ∧ cs + 0 ≤ R.cells ∧ ss + 0 ≤ R.slots ∧ (S.map fun v => v.category).sum ≤ 8) (h : XX G own cc R Fx (pc + 3) L S K N J cs ss) : XX G own cc R Fx pc L (.ref i :: S) K N I cs ss :=
  x_cVV0 hd hl hv hvv hk sp hR (fun K1 N1 I1 hq _ => by obtain ⟨rfl, rfl, rfl⟩ := hq; exact h)
theorem xp_VV0 {x : Nat} {mt : MT} {fr lo : Nat} {i : Nat} {q : MM → Prop} (hd : decode cc pc = .ok (.invokevirtual x, 3)) (hl : Cond.methodLink own x mt.1 ∈ Wd) (hv : VW mt none 0) (hvv : VVW mt) (hk : (classes[kd i]?).map (fun q => q.1) = some mt.1.cls) (sp : SpV G mt fr lo 0 0 [.ref i] K N I (pV K N q)) (hR : fr + 1 ≤ R.frames ∧ 8 + (mt.2.2 + 11) + lo ≤ R.locals ∧ cs + 0 ≤ R.cells ∧ ss + 0 ≤ R.slots ∧ (S.map fun v => v.category).sum ≤ 8) (h : ∀ I1, q I1 → XX G own cc R Fx (pc + 3) L S K N I1 cs ss) : XX G own cc R Fx pc L (.ref i :: S) K N I cs ss :=
  x_cVV0 hd hl hv hvv hk sp hR (fun K1 N1 I1 hq _ => by obtain ⟨rfl, rfl, hq⟩ := hq; exact h I1 hq)
theorem xf_VV1 {x : Nat} {mt : MT} {fr lo : Nat} {i : Nat} {v1 : Value} (hd : decode cc pc = .ok (.invokevirtual x, 3)) (hl : Cond.methodLink own x mt.1 ∈ Wd) (hv : VW mt none 1) (hvv : VVW mt) (hk : (classes[kd i]?).map (fun q => q.1) = some mt.1.cls) (sp : SpV G mt fr lo 0 0 [.ref i, v1] K N I (qV K N J)) (hR : fr + 1 ≤ R.frames ∧ 8 + (mt.2.2 + 11) + lo ≤ R.locals ∧ cs + 0 ≤ R.cells ∧ ss + 0 ≤ R.slots ∧ (S.map fun v => v.category).sum ≤ 8) (h : XX G own cc R Fx (pc + 3) L S K N J cs ss) : XX G own cc R Fx pc L (v1 :: .ref i :: S) K N I cs ss :=
  x_cVV1 hd hl hv hvv hk sp hR (fun K1 N1 I1 hq _ => by obtain ⟨rfl, rfl, rfl⟩ := hq; exact h)
theorem xp_VV1 {x : Nat} {mt : MT} {fr lo : Nat} {i : Nat} {v1 : Value} {q : MM → Prop} (hd : decode cc pc = .ok (.invokevirtual x, 3)) (hl : Cond.methodLink own x mt.1 ∈ Wd) (hv : VW mt none 1) (hvv : VVW mt) (hk : (classes[kd i]?).map (fun q => q.1) = some mt.1.cls) (sp : SpV G mt fr lo 0 0 [.ref i, v1] K N I (pV K N q)) (hR : fr + 1 ≤ R.frames ∧ 8 + (mt.2.2 + 11) + lo ≤ R.locals ∧ cs + 0 ≤ R.cells ∧ ss + 0 ≤ R.slots ∧ (S.map fun v => v.category).sum ≤ 8) (h : ∀ I1, q I1 → XX G own cc R Fx (pc + 3) L S K N I1 cs ss) : XX G own cc R Fx pc L (v1 :: .ref i :: S) K N I cs ss :=
  x_cVV1 hd hl hv hvv hk sp hR (fun K1 N1 I1 hq _ => by obtain ⟨rfl, rfl, hq⟩ := hq; exact h I1 hq)
theorem xf_VV2 {x : Nat} {mt : MT} {fr lo : Nat} {i : Nat} {v1 v2 : Value} (hd : decode cc pc = .ok (.invokevirtual x, 3)) (hl : Cond.methodLink own x mt.1 ∈ Wd) (hv : VW mt none 2) (hvv : VVW mt) (hk : (classes[kd i]?).map (fun q => q.1) = some mt.1.cls) (sp : SpV G mt fr lo 0 0 [.ref i, v1, v2] K N I (qV K N J)) (hR : fr + 1 ≤ R.frames ∧ 8 + (mt.2.2 + 11) + lo ≤ R.locals ∧ cs + 0 ≤ R.cells ∧ ss + 0 ≤ R.slots ∧ (S.map fun v => v.category).sum ≤ 8) (h : XX G own cc R Fx (pc + 3) L S K N J cs ss) : XX G own cc R Fx pc L (v2 :: v1 :: .ref i :: S) K N I cs ss :=
  x_cVV2 hd hl hv hvv hk sp hR (fun K1 N1 I1 hq _ => by obtain ⟨rfl, rfl, rfl⟩ := hq; exact h)
theorem xp_VV2 {x : Nat} {mt : MT} {fr lo : Nat} {i : Nat} {v1 v2 : Value} {q : MM → Prop} (hd : decode cc pc = .ok (.invokevirtual x, 3)) (hl : Cond.methodLink own x mt.1 ∈ Wd) (hv : VW mt none 2) (hvv : VVW mt) (hk : (classes[kd i]?).map (fun q => q.1) = some mt.1.cls) (sp : SpV G mt fr lo 0 0 [.ref i, v1, v2] K N I (pV K N q)) (hR : fr + 1 ≤ R.frames ∧ 8 + (mt.2.2 + 11) + lo ≤ R.locals ∧ cs + 0 ≤ R.cells ∧ ss + 0 ≤ R.slots ∧ (S.map fun v => v.category).sum ≤ 8) (h : ∀ I1, q I1 → XX G own cc R Fx (pc + 3) L S K N I1 cs ss) : XX G own cc R Fx pc L (v2 :: v1 :: .ref i :: S) K N I cs ss :=
  x_cVV2 hd hl hv hvv hk sp hR (fun K1 N1 I1 hq _ => by obtain ⟨rfl, rfl, hq⟩ := hq; exact h I1 hq)
theorem xf_VV3 {x : Nat} {mt : MT} {fr lo : Nat} {i : Nat} {v1 v2 v3 : Value} (hd : decode cc pc = .ok (.invokevirtual x, 3)) (hl : Cond.methodLink own x mt.1 ∈ Wd) (hv : VW mt none 3) (hvv : VVW mt) (hk : (classes[kd i]?).map (fun q => q.1) = some mt.1.cls) (sp : SpV G mt fr lo 0 0 [.ref i, v1, v2, v3] K N I (qV K N J)) (hR : fr + 1 ≤ R.frames ∧ 8 + (mt.2.2 + 11) + lo ≤ R.locals ∧ cs + 0 ≤ R.cells ∧ ss + 0 ≤ R.slots ∧ (S.map fun v => v.category).sum ≤ 8) (h : XX G own cc R Fx (pc + 3) L S K N J cs ss) : XX G own cc R Fx pc L (v3 :: v2 :: v1 :: .ref i :: S) K N I cs ss :=
  x_cVV3 hd hl hv hvv hk sp hR (fun K1 N1 I1 hq _ => by obtain ⟨rfl, rfl, rfl⟩ := hq; exact h)
theorem xp_VV3 {x : Nat} {mt : MT} {fr lo : Nat} {i : Nat} {v1 v2 v3 : Value} {q : MM → Prop} (hd : decode cc pc = .ok (.invokevirtual x, 3)) (hl : Cond.methodLink own x mt.1 ∈ Wd) (hv : VW mt none 3) (hvv : VVW mt) (hk : (classes[kd i]?).map (fun q => q.1) = some mt.1.cls) (sp : SpV G mt fr lo 0 0 [.ref i, v1, v2, v3] K N I (pV K N q)) (hR : fr + 1 ≤ R.frames ∧ 8 + (mt.2.2 + 11) + lo ≤ R.locals ∧ cs + 0 ≤ R.cells ∧ ss + 0 ≤ R.slots ∧ (S.map fun v => v.category).sum ≤ 8) (h : ∀ I1, q I1 → XX G own cc R Fx (pc + 3) L S K N I1 cs ss) : XX G own cc R Fx pc L (v3 :: v2 :: v1 :: .ref i :: S) K N I cs ss :=
  x_cVV3 hd hl hv hvv hk sp hR (fun K1 N1 I1 hq _ => by obtain ⟨rfl, rfl, hq⟩ := hq; exact h I1 hq)
theorem xf_VV4 {x : Nat} {mt : MT} {fr lo : Nat} {i : Nat} {v1 v2 v3 v4 : Value} (hd : decode cc pc = .ok (.invokevirtual x, 3)) (hl : Cond.methodLink own x mt.1 ∈ Wd) (hv : VW mt none 4) (hvv : VVW mt) (hk : (classes[kd i]?).map (fun q => q.1) = some mt.1.cls) (sp : SpV G mt fr lo 0 0 [.ref i, v1, v2, v3, v4] K N I (qV K N J)) (hR : fr + 1 ≤ R.frames ∧ 8 + (mt.2.2 + 11) + lo ≤ R.locals ∧ cs + 0 ≤ R.cells ∧ ss + 0 ≤ R.slots ∧ (S.map fun v => v.category).sum ≤ 8) (h : XX G own cc R Fx (pc + 3) L S K N J cs ss) : XX G own cc R Fx pc L (v4 :: v3 :: v2 :: v1 :: .ref i :: S) K N I cs ss :=
  x_cVV4 hd hl hv hvv hk sp hR (fun K1 N1 I1 hq _ => by obtain ⟨rfl, rfl, rfl⟩ := hq; exact h)
theorem xp_VV4 {x : Nat} {mt : MT} {fr lo : Nat} {i : Nat} {v1 v2 v3 v4 : Value} {q : MM → Prop} (hd : decode cc pc = .ok (.invokevirtual x, 3)) (hl : Cond.methodLink own x mt.1 ∈ Wd) (hv : VW mt none 4) (hvv : VVW mt) (hk : (classes[kd i]?).map (fun q => q.1) = some mt.1.cls) (sp : SpV G mt fr lo 0 0 [.ref i, v1, v2, v3, v4] K N I (pV K N q)) (hR : fr + 1 ≤ R.frames ∧ 8 + (mt.2.2 + 11) + lo ≤ R.locals ∧ cs + 0 ≤ R.cells ∧ ss + 0 ≤ R.slots ∧ (S.map fun v => v.category).sum ≤ 8) (h : ∀ I1, q I1 → XX G own cc R Fx (pc + 3) L S K N I1 cs ss) : XX G own cc R Fx pc L (v4 :: v3 :: v2 :: v1 :: .ref i :: S) K N I cs ss :=
  x_cVV4 hd hl hv hvv hk sp hR (fun K1 N1 I1 hq _ => by obtain ⟨rfl, rfl, hq⟩ := hq; exact h I1 hq)
theorem xf_VV5 {x : Nat} {mt : MT} {fr lo : Nat} {i : Nat} {v1 v2 v3 v4 v5 : Value} (hd : decode cc pc = .ok (.invokevirtual x, 3)) (hl : Cond.methodLink own x mt.1 ∈ Wd) (hv : VW mt none 5) (hvv : VVW mt) (hk : (classes[kd i]?).map (fun q => q.1) = some mt.1.cls) (sp : SpV G mt fr lo 0 0 [.ref i, v1, v2, v3, v4, v5] K N I (qV K N J)) (hR : fr + 1 ≤ R.frames ∧ 8 + (mt.2.2 + 11) + lo ≤ R.locals ∧ cs + 0 ≤ R.cells ∧ ss + 0 ≤ R.slots ∧ (S.map fun v => v.category).sum ≤ 8) (h : XX G own cc R Fx (pc + 3) L S K N J cs ss) : XX G own cc R Fx pc L (v5 :: v4 :: v3 :: v2 :: v1 :: .ref i :: S) K N I cs ss :=
  x_cVV5 hd hl hv hvv hk sp hR (fun K1 N1 I1 hq _ => by obtain ⟨rfl, rfl, rfl⟩ := hq; exact h)
theorem xp_VV5 {x : Nat} {mt : MT} {fr lo : Nat} {i : Nat} {v1 v2 v3 v4 v5 : Value} {q : MM → Prop} (hd : decode cc pc = .ok (.invokevirtual x, 3)) (hl : Cond.methodLink own x mt.1 ∈ Wd) (hv : VW mt none 5) (hvv : VVW mt) (hk : (classes[kd i]?).map (fun q => q.1) = some mt.1.cls) (sp : SpV G mt fr lo 0 0 [.ref i, v1, v2, v3, v4, v5] K N I (pV K N q)) (hR : fr + 1 ≤ R.frames ∧ 8 + (mt.2.2 + 11) + lo ≤ R.locals ∧ cs + 0 ≤ R.cells ∧ ss + 0 ≤ R.slots ∧ (S.map fun v => v.category).sum ≤ 8) (h : ∀ I1, q I1 → XX G own cc R Fx (pc + 3) L S K N I1 cs ss) : XX G own cc R Fx pc L (v5 :: v4 :: v3 :: v2 :: v1 :: .ref i :: S) K N I cs ss :=
  x_cVV5 hd hl hv hvv hk sp hR (fun K1 N1 I1 hq _ => by obtain ⟨rfl, rfl, hq⟩ := hq; exact h I1 hq)
theorem xf_SI1 {x : Nat} {mt : MT} {ty : FieldType} {fr lo : Nat} {v1 : Value} {z : Int} (hd : decode cc pc = .ok (.invokestatic x, 3)) (hl : Cond.methodLink own x mt.1 ∈ Wd) (hv : VW mt (some ty) 1) (hvv : Cond.static mt.1 ∈ Wd) (sp : SpI G mt ty fr lo 0 0 [v1] K N I (qI K N J z)) (hR : fr + 1 ≤ R.frames ∧ 8 + (mt.2.2 + 11) + lo ≤ R.locals ∧ cs + 0 ≤ R.cells ∧ ss + 0 ≤ R.slots ∧ (S.map fun v => v.category).sum ≤ 8) (h : XX G own cc R Fx (pc + 3) L (vi z :: S) K N J cs ss) : XX G own cc R Fx pc L (v1 :: S) K N I cs ss :=
  x_cSI1 hd hl hv hvv sp hR (fun z1 K1 N1 I1 hq _ => by obtain ⟨rfl, rfl, rfl, rfl⟩ := hq; exact h)
theorem xp_SI1 {x : Nat} {mt : MT} {ty : FieldType} {fr lo : Nat} {v1 : Value} {q : Int → MM → Prop} (hd : decode cc pc = .ok (.invokestatic x, 3)) (hl : Cond.methodLink own x mt.1 ∈ Wd) (hv : VW mt (some ty) 1) (hvv : Cond.static mt.1 ∈ Wd) (sp : SpI G mt ty fr lo 0 0 [v1] K N I (pI K N q)) (hR : fr + 1 ≤ R.frames ∧ 8 + (mt.2.2 + 11) + lo ≤ R.locals ∧ cs + 0 ≤ R.cells ∧ ss + 0 ≤ R.slots ∧ (S.map fun v => v.category).sum ≤ 8) (h : ∀ z I1, q z I1 → XX G own cc R Fx (pc + 3) L (vi z :: S) K N I1 cs ss) : XX G own cc R Fx pc L (v1 :: S) K N I cs ss :=
  x_cSI1 hd hl hv hvv sp hR (fun z1 K1 N1 I1 hq _ => by obtain ⟨rfl, rfl, hq⟩ := hq; exact h z1 I1 hq)
theorem xf_SI2 {x : Nat} {mt : MT} {ty : FieldType} {fr lo : Nat} {v1 v2 : Value} {z : Int} (hd : decode cc pc = .ok (.invokestatic x, 3)) (hl : Cond.methodLink own x mt.1 ∈ Wd) (hv : VW mt (some ty) 2) (hvv : Cond.static mt.1 ∈ Wd) (sp : SpI G mt ty fr lo 0 0 [v1, v2] K N I (qI K N J z)) (hR : fr + 1 ≤ R.frames ∧ 8 + (mt.2.2 + 11) + lo ≤ R.locals ∧ cs + 0 ≤ R.cells ∧ ss + 0 ≤ R.slots ∧ (S.map fun v => v.category).sum ≤ 8) (h : XX G own cc R Fx (pc + 3) L (vi z :: S) K N J cs ss) : XX G own cc R Fx pc L (v2 :: v1 :: S) K N I cs ss :=
  x_cSI2 hd hl hv hvv sp hR (fun z1 K1 N1 I1 hq _ => by obtain ⟨rfl, rfl, rfl, rfl⟩ := hq; exact h)
theorem xp_SI2 {x : Nat} {mt : MT} {ty : FieldType} {fr lo : Nat} {v1 v2 : Value} {q : Int → MM → Prop} (hd : decode cc pc = .ok (.invokestatic x, 3)) (hl : Cond.methodLink own x mt.1 ∈ Wd) (hv : VW mt (some ty) 2) (hvv : Cond.static mt.1 ∈ Wd) (sp : SpI G mt ty fr lo 0 0 [v1, v2] K N I (pI K N q)) (hR : fr + 1 ≤ R.frames ∧ 8 + (mt.2.2 + 11) + lo ≤ R.locals ∧ cs + 0 ≤ R.cells ∧ ss + 0 ≤ R.slots ∧ (S.map fun v => v.category).sum ≤ 8) (h : ∀ z I1, q z I1 → XX G own cc R Fx (pc + 3) L (vi z :: S) K N I1 cs ss) : XX G own cc R Fx pc L (v2 :: v1 :: S) K N I cs ss :=
  x_cSI2 hd hl hv hvv sp hR (fun z1 K1 N1 I1 hq _ => by obtain ⟨rfl, rfl, hq⟩ := hq; exact h z1 I1 hq)
theorem xf_SI3 {x : Nat} {mt : MT} {ty : FieldType} {fr lo : Nat} {v1 v2 v3 : Value} {z : Int} (hd : decode cc pc = .ok (.invokestatic x, 3)) (hl : Cond.methodLink own x mt.1 ∈ Wd) (hv : VW mt (some ty) 3) (hvv : Cond.static mt.1 ∈ Wd) (sp : SpI G mt ty fr lo 0 0 [v1, v2, v3] K N I (qI K N J z)) (hR : fr + 1 ≤ R.frames ∧ 8 + (mt.2.2 + 11) + lo ≤ R.locals ∧ cs + 0 ≤ R.cells ∧ ss + 0 ≤ R.slots ∧ (S.map fun v => v.category).sum ≤ 8) (h : XX G own cc R Fx (pc + 3) L (vi z :: S) K N J cs ss) : XX G own cc R Fx pc L (v3 :: v2 :: v1 :: S) K N I cs ss :=
  x_cSI3 hd hl hv hvv sp hR (fun z1 K1 N1 I1 hq _ => by obtain ⟨rfl, rfl, rfl, rfl⟩ := hq; exact h)
theorem xp_SI3 {x : Nat} {mt : MT} {ty : FieldType} {fr lo : Nat} {v1 v2 v3 : Value} {q : Int → MM → Prop} (hd : decode cc pc = .ok (.invokestatic x, 3)) (hl : Cond.methodLink own x mt.1 ∈ Wd) (hv : VW mt (some ty) 3) (hvv : Cond.static mt.1 ∈ Wd) (sp : SpI G mt ty fr lo 0 0 [v1, v2, v3] K N I (pI K N q)) (hR : fr + 1 ≤ R.frames ∧ 8 + (mt.2.2 + 11) + lo ≤ R.locals ∧ cs + 0 ≤ R.cells ∧ ss + 0 ≤ R.slots ∧ (S.map fun v => v.category).sum ≤ 8) (h : ∀ z I1, q z I1 → XX G own cc R Fx (pc + 3) L (vi z :: S) K N I1 cs ss) : XX G own cc R Fx pc L (v3 :: v2 :: v1 :: S) K N I cs ss :=
  x_cSI3 hd hl hv hvv sp hR (fun z1 K1 N1 I1 hq _ => by obtain ⟨rfl, rfl, hq⟩ := hq; exact h z1 I1 hq)
theorem xf_SI4 {x : Nat} {mt : MT} {ty : FieldType} {fr lo : Nat} {v1 v2 v3 v4 : Value} {z : Int} (hd : decode cc pc = .ok (.invokestatic x, 3)) (hl : Cond.methodLink own x mt.1 ∈ Wd) (hv : VW mt (some ty) 4) (hvv : Cond.static mt.1 ∈ Wd) (sp : SpI G mt ty fr lo 0 0 [v1, v2, v3, v4] K N I (qI K N J z)) (hR : fr + 1 ≤ R.frames ∧ 8 + (mt.2.2 + 11) + lo ≤ R.locals ∧ cs + 0 ≤ R.cells ∧ ss + 0 ≤ R.slots ∧ (S.map fun v => v.category).sum ≤ 8) (h : XX G own cc R Fx (pc + 3) L (vi z :: S) K N J cs ss) : XX G own cc R Fx pc L (v4 :: v3 :: v2 :: v1 :: S) K N I cs ss :=
  x_cSI4 hd hl hv hvv sp hR (fun z1 K1 N1 I1 hq _ => by obtain ⟨rfl, rfl, rfl, rfl⟩ := hq; exact h)
theorem xp_SI4 {x : Nat} {mt : MT} {ty : FieldType} {fr lo : Nat} {v1 v2 v3 v4 : Value} {q : Int → MM → Prop} (hd : decode cc pc = .ok (.invokestatic x, 3)) (hl : Cond.methodLink own x mt.1 ∈ Wd) (hv : VW mt (some ty) 4) (hvv : Cond.static mt.1 ∈ Wd) (sp : SpI G mt ty fr lo 0 0 [v1, v2, v3, v4] K N I (pI K N q)) (hR : fr + 1 ≤ R.frames ∧ 8 + (mt.2.2 + 11) + lo ≤ R.locals ∧ cs + 0 ≤ R.cells ∧ ss + 0 ≤ R.slots ∧ (S.map fun v => v.category).sum ≤ 8) (h : ∀ z I1, q z I1 → XX G own cc R Fx (pc + 3) L (vi z :: S) K N I1 cs ss) : XX G own cc R Fx pc L (v4 :: v3 :: v2 :: v1 :: S) K N I cs ss :=
  x_cSI4 hd hl hv hvv sp hR (fun z1 K1 N1 I1 hq _ => by obtain ⟨rfl, rfl, hq⟩ := hq; exact h z1 I1 hq)
theorem xf_SI5 {x : Nat} {mt : MT} {ty : FieldType} {fr lo : Nat} {v1 v2 v3 v4 v5 : Value} {z : Int} (hd : decode cc pc = .ok (.invokestatic x, 3)) (hl : Cond.methodLink own x mt.1 ∈ Wd) (hv : VW mt (some ty) 5) (hvv : Cond.static mt.1 ∈ Wd) (sp : SpI G mt ty fr lo 0 0 [v1, v2, v3, v4, v5] K N I (qI K N J z)) (hR : fr + 1 ≤ R.frames ∧ 8 + (mt.2.2 + 11) + lo ≤ R.locals ∧ cs + 0 ≤ R.cells ∧ ss + 0 ≤ R.slots ∧ (S.map fun v => v.category).sum ≤ 8) (h : XX G own cc R Fx (pc + 3) L (vi z :: S) K N J cs ss) : XX G own cc R Fx pc L (v5 :: v4 :: v3 :: v2 :: v1 :: S) K N I cs ss :=
  x_cSI5 hd hl hv hvv sp hR (fun z1 K1 N1 I1 hq _ => by obtain ⟨rfl, rfl, rfl, rfl⟩ := hq; exact h)
theorem xp_SI5 {x : Nat} {mt : MT} {ty : FieldType} {fr lo : Nat} {v1 v2 v3 v4 v5 : Value} {q : Int → MM → Prop} (hd : decode cc pc = .ok (.invokestatic x, 3)) (hl : Cond.methodLink own x mt.1 ∈ Wd) (hv : VW mt (some ty) 5) (hvv : Cond.static mt.1 ∈ Wd) (sp : SpI G mt ty fr lo 0 0 [v1, v2, v3, v4, v5] K N I (pI K N q)) (hR : fr + 1 ≤ R.frames ∧ 8 + (mt.2.2 + 11) + lo ≤ R.locals ∧ cs + 0 ≤ R.cells ∧ ss + 0 ≤ R.slots ∧ (S.map fun v => v.category).sum ≤ 8) (h : ∀ z I1, q z I1 → XX G own cc R Fx (pc + 3) L (vi z :: S) K N I1 cs ss) : XX G own cc R Fx pc L (v5 :: v4 :: v3 :: v2 :: v1 :: S) K N I cs ss :=
  x_cSI5 hd hl hv hvv sp hR (fun z1 K1 N1 I1 hq _ => by obtain ⟨rfl, rfl, hq⟩ := hq; exact h z1 I1 hq)
theorem xf_SL1 {x : Nat} {mt : MT} {ty : FieldType} {fr lo : Nat} {v1 : Value} {z : Int} (hd : decode cc pc = .ok (.invokestatic x, 3)) (hl : Cond.methodLink own x mt.1 ∈ Wd) (hv : VW mt (some ty) 1) (hvv : Cond.static mt.1 ∈ Wd) (sp : SpL G mt ty fr lo 0 0 [v1] K N I (qI K N J z)) (hR : fr + 1 ≤ R.frames ∧ 8 + (mt.2.2 + 11) + lo ≤ R.locals ∧ cs + 0 ≤ R.cells ∧ ss + 0 ≤ R.slots ∧ (S.map fun v => v.category).sum ≤ 8) (h : XX G own cc R Fx (pc + 3) L (vl z :: S) K N J cs ss) : XX G own cc R Fx pc L (v1 :: S) K N I cs ss :=
  x_cSL1 hd hl hv hvv sp hR (fun z1 K1 N1 I1 hq _ => by obtain ⟨rfl, rfl, rfl, rfl⟩ := hq; exact h)
theorem xp_SL1 {x : Nat} {mt : MT} {ty : FieldType} {fr lo : Nat} {v1 : Value} {q : Int → MM → Prop} (hd : decode cc pc = .ok (.invokestatic x, 3)) (hl : Cond.methodLink own x mt.1 ∈ Wd) (hv : VW mt (some ty) 1) (hvv : Cond.static mt.1 ∈ Wd) (sp : SpL G mt ty fr lo 0 0 [v1] K N I (pI K N q)) (hR : fr + 1 ≤ R.frames ∧ 8 + (mt.2.2 + 11) + lo ≤ R.locals ∧ cs + 0 ≤ R.cells ∧ ss + 0 ≤ R.slots ∧ (S.map fun v => v.category).sum ≤ 8) (h : ∀ z I1, q z I1 → XX G own cc R Fx (pc + 3) L (vl z :: S) K N I1 cs ss) : XX G own cc R Fx pc L (v1 :: S) K N I cs ss :=
  x_cSL1 hd hl hv hvv sp hR (fun z1 K1 N1 I1 hq _ => by obtain ⟨rfl, rfl, hq⟩ := hq; exact h z1 I1 hq)
theorem xf_SL2 {x : Nat} {mt : MT} {ty : FieldType} {fr lo : Nat} {v1 v2 : Value} {z : Int} (hd : decode cc pc = .ok (.invokestatic x, 3)) (hl : Cond.methodLink own x mt.1 ∈ Wd) (hv : VW mt (some ty) 2) (hvv : Cond.static mt.1 ∈ Wd) (sp : SpL G mt ty fr lo 0 0 [v1, v2] K N I (qI K N J z)) (hR : fr + 1 ≤ R.frames ∧ 8 + (mt.2.2 + 11) + lo ≤ R.locals ∧ cs + 0 ≤ R.cells ∧ ss + 0 ≤ R.slots ∧ (S.map fun v => v.category).sum ≤ 8) (h : XX G own cc R Fx (pc + 3) L (vl z :: S) K N J cs ss) : XX G own cc R Fx pc L (v2 :: v1 :: S) K N I cs ss :=
  x_cSL2 hd hl hv hvv sp hR (fun z1 K1 N1 I1 hq _ => by obtain ⟨rfl, rfl, rfl, rfl⟩ := hq; exact h)
theorem xp_SL2 {x : Nat} {mt : MT} {ty : FieldType} {fr lo : Nat} {v1 v2 : Value} {q : Int → MM → Prop} (hd : decode cc pc = .ok (.invokestatic x, 3)) (hl : Cond.methodLink own x mt.1 ∈ Wd) (hv : VW mt (some ty) 2) (hvv : Cond.static mt.1 ∈ Wd) (sp : SpL G mt ty fr lo 0 0 [v1, v2] K N I (pI K N q)) (hR : fr + 1 ≤ R.frames ∧ 8 + (mt.2.2 + 11) + lo ≤ R.locals ∧ cs + 0 ≤ R.cells ∧ ss + 0 ≤ R.slots ∧ (S.map fun v => v.category).sum ≤ 8) (h : ∀ z I1, q z I1 → XX G own cc R Fx (pc + 3) L (vl z :: S) K N I1 cs ss) : XX G own cc R Fx pc L (v2 :: v1 :: S) K N I cs ss :=
  x_cSL2 hd hl hv hvv sp hR (fun z1 K1 N1 I1 hq _ => by obtain ⟨rfl, rfl, hq⟩ := hq; exact h z1 I1 hq)
theorem xf_SL3 {x : Nat} {mt : MT} {ty : FieldType} {fr lo : Nat} {v1 v2 v3 : Value} {z : Int} (hd : decode cc pc = .ok (.invokestatic x, 3)) (hl : Cond.methodLink own x mt.1 ∈ Wd) (hv : VW mt (some ty) 3) (hvv : Cond.static mt.1 ∈ Wd) (sp : SpL G mt ty fr lo 0 0 [v1, v2, v3] K N I (qI K N J z)) (hR : fr + 1 ≤ R.frames ∧ 8 + (mt.2.2 + 11) + lo ≤ R.locals ∧ cs + 0 ≤ R.cells ∧ ss + 0 ≤ R.slots ∧ (S.map fun v => v.category).sum ≤ 8) (h : XX G own cc R Fx (pc + 3) L (vl z :: S) K N J cs ss) : XX G own cc R Fx pc L (v3 :: v2 :: v1 :: S) K N I cs ss :=
  x_cSL3 hd hl hv hvv sp hR (fun z1 K1 N1 I1 hq _ => by obtain ⟨rfl, rfl, rfl, rfl⟩ := hq; exact h)
theorem xp_SL3 {x : Nat} {mt : MT} {ty : FieldType} {fr lo : Nat} {v1 v2 v3 : Value} {q : Int → MM → Prop} (hd : decode cc pc = .ok (.invokestatic x, 3)) (hl : Cond.methodLink own x mt.1 ∈ Wd) (hv : VW mt (some ty) 3) (hvv : Cond.static mt.1 ∈ Wd) (sp : SpL G mt ty fr lo 0 0 [v1, v2, v3] K N I (pI K N q)) (hR : fr + 1 ≤ R.frames ∧ 8 + (mt.2.2 + 11) + lo ≤ R.locals ∧ cs + 0 ≤ R.cells ∧ ss + 0 ≤ R.slots ∧ (S.map fun v => v.category).sum ≤ 8) (h : ∀ z I1, q z I1 → XX G own cc R Fx (pc + 3) L (vl z :: S) K N I1 cs ss) : XX G own cc R Fx pc L (v3 :: v2 :: v1 :: S) K N I cs ss :=
  x_cSL3 hd hl hv hvv sp hR (fun z1 K1 N1 I1 hq _ => by obtain ⟨rfl, rfl, hq⟩ := hq; exact h z1 I1 hq)
theorem xf_SL4 {x : Nat} {mt : MT} {ty : FieldType} {fr lo : Nat} {v1 v2 v3 v4 : Value} {z : Int} (hd : decode cc pc = .ok (.invokestatic x, 3)) (hl : Cond.methodLink own x mt.1 ∈ Wd) (hv : VW mt (some ty) 4) (hvv : Cond.static mt.1 ∈ Wd) (sp : SpL G mt ty fr lo 0 0 [v1, v2, v3, v4] K N I (qI K N J z)) (hR : fr + 1 ≤ R.frames ∧ 8 + (mt.2.2 + 11) + lo ≤ R.locals ∧ cs + 0 ≤ R.cells ∧ ss + 0 ≤ R.slots ∧ (S.map fun v => v.category).sum ≤ 8) (h : XX G own cc R Fx (pc + 3) L (vl z :: S) K N J cs ss) : XX G own cc R Fx pc L (v4 :: v3 :: v2 :: v1 :: S) K N I cs ss :=
  x_cSL4 hd hl hv hvv sp hR (fun z1 K1 N1 I1 hq _ => by obtain ⟨rfl, rfl, rfl, rfl⟩ := hq; exact h)
theorem xp_SL4 {x : Nat} {mt : MT} {ty : FieldType} {fr lo : Nat} {v1 v2 v3 v4 : Value} {q : Int → MM → Prop} (hd : decode cc pc = .ok (.invokestatic x, 3)) (hl : Cond.methodLink own x mt.1 ∈ Wd) (hv : VW mt (some ty) 4) (hvv : Cond.static mt.1 ∈ Wd) (sp : SpL G mt ty fr lo 0 0 [v1, v2, v3, v4] K N I (pI K N q)) (hR : fr + 1 ≤ R.frames ∧ 8 + (mt.2.2 + 11) + lo ≤ R.locals ∧ cs + 0 ≤ R.cells ∧ ss + 0 ≤ R.slots ∧ (S.map fun v => v.category).sum ≤ 8) (h : ∀ z I1, q z I1 → XX G own cc R Fx (pc + 3) L (vl z :: S) K N I1 cs ss) : XX G own cc R Fx pc L (v4 :: v3 :: v2 :: v1 :: S) K N I cs ss :=
  x_cSL4 hd hl hv hvv sp hR (fun z1 K1 N1 I1 hq _ => by obtain ⟨rfl, rfl, hq⟩ := hq; exact h z1 I1 hq)
theorem xf_SL5 {x : Nat} {mt : MT} {ty : FieldType} {fr lo : Nat} {v1 v2 v3 v4 v5 : Value} {z : Int} (hd : decode cc pc = .ok (.invokestatic x, 3)) (hl : Cond.methodLink own x mt.1 ∈ Wd) (hv : VW mt (some ty) 5) (hvv : Cond.static mt.1 ∈ Wd) (sp : SpL G mt ty fr lo 0 0 [v1, v2, v3, v4, v5] K N I (qI K N J z)) (hR : fr + 1 ≤ R.frames ∧ 8 + (mt.2.2 + 11) + lo ≤ R.locals ∧ cs + 0 ≤ R.cells ∧ ss + 0 ≤ R.slots ∧ (S.map fun v => v.category).sum ≤ 8) (h : XX G own cc R Fx (pc + 3) L (vl z :: S) K N J cs ss) : XX G own cc R Fx pc L (v5 :: v4 :: v3 :: v2 :: v1 :: S) K N I cs ss :=
  x_cSL5 hd hl hv hvv sp hR (fun z1 K1 N1 I1 hq _ => by obtain ⟨rfl, rfl, rfl, rfl⟩ := hq; exact h)
theorem xp_SL5 {x : Nat} {mt : MT} {ty : FieldType} {fr lo : Nat} {v1 v2 v3 v4 v5 : Value} {q : Int → MM → Prop} (hd : decode cc pc = .ok (.invokestatic x, 3)) (hl : Cond.methodLink own x mt.1 ∈ Wd) (hv : VW mt (some ty) 5) (hvv : Cond.static mt.1 ∈ Wd) (sp : SpL G mt ty fr lo 0 0 [v1, v2, v3, v4, v5] K N I (pI K N q)) (hR : fr + 1 ≤ R.frames ∧ 8 + (mt.2.2 + 11) + lo ≤ R.locals ∧ cs + 0 ≤ R.cells ∧ ss + 0 ≤ R.slots ∧ (S.map fun v => v.category).sum ≤ 8) (h : ∀ z I1, q z I1 → XX G own cc R Fx (pc + 3) L (vl z :: S) K N I1 cs ss) : XX G own cc R Fx pc L (v5 :: v4 :: v3 :: v2 :: v1 :: S) K N I cs ss :=
  x_cSL5 hd hl hv hvv sp hR (fun z1 K1 N1 I1 hq _ => by obtain ⟨rfl, rfl, hq⟩ := hq; exact h z1 I1 hq)
theorem xf_SV1 {x : Nat} {mt : MT} {fr lo : Nat} {v1 : Value} (hd : decode cc pc = .ok (.invokestatic x, 3)) (hl : Cond.methodLink own x mt.1 ∈ Wd) (hv : VW mt none 1) (hvv : Cond.static mt.1 ∈ Wd) (sp : SpV G mt fr lo 0 0 [v1] K N I (qV K N J)) (hR : fr + 1 ≤ R.frames ∧ 8 + (mt.2.2 + 11) + lo ≤ R.locals ∧ cs + 0 ≤ R.cells ∧ ss + 0 ≤ R.slots ∧ (S.map fun v => v.category).sum ≤ 8) (h : XX G own cc R Fx (pc + 3) L S K N J cs ss) : XX G own cc R Fx pc L (v1 :: S) K N I cs ss :=
  x_cSV1 hd hl hv hvv sp hR (fun K1 N1 I1 hq _ => by obtain ⟨rfl, rfl, rfl⟩ := hq; exact h)
theorem xp_SV1 {x : Nat} {mt : MT} {fr lo : Nat} {v1 : Value} {q : MM → Prop} (hd : decode cc pc = .ok (.invokestatic x, 3)) (hl : Cond.methodLink own x mt.1 ∈ Wd) (hv : VW mt none 1) (hvv : Cond.static mt.1 ∈ Wd) (sp : SpV G mt fr lo 0 0 [v1] K N I (pV K N q)) (hR : fr + 1 ≤ R.frames ∧ 8 + (mt.2.2 + 11) + lo ≤ R.locals ∧ cs + 0 ≤ R.cells ∧ ss + 0 ≤ R.slots ∧ (S.map fun v => v.category).sum ≤ 8) (h : ∀ I1, q I1 → XX G own cc R Fx (pc + 3) L S K N I1 cs ss) : XX G own cc R Fx pc L (v1 :: S) K N I cs ss :=
  x_cSV1 hd hl hv hvv sp hR (fun K1 N1 I1 hq _ => by obtain ⟨rfl, rfl, hq⟩ := hq; exact h I1 hq)
theorem xf_SV2 {x : Nat} {mt : MT} {fr lo : Nat} {v1 v2 : Value} (hd : decode cc pc = .ok (.invokestatic x, 3)) (hl : Cond.methodLink own x mt.1 ∈ Wd) (hv : VW mt none 2) (hvv : Cond.static mt.1 ∈ Wd) (sp : SpV G mt fr lo 0 0 [v1, v2] K N I (qV K N J)) (hR : fr + 1 ≤ R.frames ∧ 8 + (mt.2.2 + 11) + lo ≤ R.locals ∧ cs + 0 ≤ R.cells ∧ ss + 0 ≤ R.slots ∧ (S.map fun v => v.category).sum ≤ 8) (h : XX G own cc R Fx (pc + 3) L S K N J cs ss) : XX G own cc R Fx pc L (v2 :: v1 :: S) K N I cs ss :=
  x_cSV2 hd hl hv hvv sp hR (fun K1 N1 I1 hq _ => by obtain ⟨rfl, rfl, rfl⟩ := hq; exact h)
theorem xp_SV2 {x : Nat} {mt : MT} {fr lo : Nat} {v1 v2 : Value} {q : MM → Prop} (hd : decode cc pc = .ok (.invokestatic x, 3)) (hl : Cond.methodLink own x mt.1 ∈ Wd) (hv : VW mt none 2) (hvv : Cond.static mt.1 ∈ Wd) (sp : SpV G mt fr lo 0 0 [v1, v2] K N I (pV K N q)) (hR : fr + 1 ≤ R.frames ∧ 8 + (mt.2.2 + 11) + lo ≤ R.locals ∧ cs + 0 ≤ R.cells ∧ ss + 0 ≤ R.slots ∧ (S.map fun v => v.category).sum ≤ 8) (h : ∀ I1, q I1 → XX G own cc R Fx (pc + 3) L S K N I1 cs ss) : XX G own cc R Fx pc L (v2 :: v1 :: S) K N I cs ss :=
  x_cSV2 hd hl hv hvv sp hR (fun K1 N1 I1 hq _ => by obtain ⟨rfl, rfl, hq⟩ := hq; exact h I1 hq)
theorem xf_SV3 {x : Nat} {mt : MT} {fr lo : Nat} {v1 v2 v3 : Value} (hd : decode cc pc = .ok (.invokestatic x, 3)) (hl : Cond.methodLink own x mt.1 ∈ Wd) (hv : VW mt none 3) (hvv : Cond.static mt.1 ∈ Wd) (sp : SpV G mt fr lo 0 0 [v1, v2, v3] K N I (qV K N J)) (hR : fr + 1 ≤ R.frames ∧ 8 + (mt.2.2 + 11) + lo ≤ R.locals ∧ cs + 0 ≤ R.cells ∧ ss + 0 ≤ R.slots ∧ (S.map fun v => v.category).sum ≤ 8) (h : XX G own cc R Fx (pc + 3) L S K N J cs ss) : XX G own cc R Fx pc L (v3 :: v2 :: v1 :: S) K N I cs ss :=
  x_cSV3 hd hl hv hvv sp hR (fun K1 N1 I1 hq _ => by obtain ⟨rfl, rfl, rfl⟩ := hq; exact h)
theorem xp_SV3 {x : Nat} {mt : MT} {fr lo : Nat} {v1 v2 v3 : Value} {q : MM → Prop} (hd : decode cc pc = .ok (.invokestatic x, 3)) (hl : Cond.methodLink own x mt.1 ∈ Wd) (hv : VW mt none 3) (hvv : Cond.static mt.1 ∈ Wd) (sp : SpV G mt fr lo 0 0 [v1, v2, v3] K N I (pV K N q)) (hR : fr + 1 ≤ R.frames ∧ 8 + (mt.2.2 + 11) + lo ≤ R.locals ∧ cs + 0 ≤ R.cells ∧ ss + 0 ≤ R.slots ∧ (S.map fun v => v.category).sum ≤ 8) (h : ∀ I1, q I1 → XX G own cc R Fx (pc + 3) L S K N I1 cs ss) : XX G own cc R Fx pc L (v3 :: v2 :: v1 :: S) K N I cs ss :=
  x_cSV3 hd hl hv hvv sp hR (fun K1 N1 I1 hq _ => by obtain ⟨rfl, rfl, hq⟩ := hq; exact h I1 hq)
theorem xf_SV4 {x : Nat} {mt : MT} {fr lo : Nat} {v1 v2 v3 v4 : Value} (hd : decode cc pc = .ok (.invokestatic x, 3)) (hl : Cond.methodLink own x mt.1 ∈ Wd) (hv : VW mt none 4) (hvv : Cond.static mt.1 ∈ Wd) (sp : SpV G mt fr lo 0 0 [v1, v2, v3, v4] K N I (qV K N J)) (hR : fr + 1 ≤ R.frames ∧ 8 + (mt.2.2 + 11) + lo ≤ R.locals ∧ cs + 0 ≤ R.cells ∧ ss + 0 ≤ R.slots ∧ (S.map fun v => v.category).sum ≤ 8) (h : XX G own cc R Fx (pc + 3) L S K N J cs ss) : XX G own cc R Fx pc L (v4 :: v3 :: v2 :: v1 :: S) K N I cs ss :=
  x_cSV4 hd hl hv hvv sp hR (fun K1 N1 I1 hq _ => by obtain ⟨rfl, rfl, rfl⟩ := hq; exact h)
theorem xp_SV4 {x : Nat} {mt : MT} {fr lo : Nat} {v1 v2 v3 v4 : Value} {q : MM → Prop} (hd : decode cc pc = .ok (.invokestatic x, 3)) (hl : Cond.methodLink own x mt.1 ∈ Wd) (hv : VW mt none 4) (hvv : Cond.static mt.1 ∈ Wd) (sp : SpV G mt fr lo 0 0 [v1, v2, v3, v4] K N I (pV K N q)) (hR : fr + 1 ≤ R.frames ∧ 8 + (mt.2.2 + 11) + lo ≤ R.locals ∧ cs + 0 ≤ R.cells ∧ ss + 0 ≤ R.slots ∧ (S.map fun v => v.category).sum ≤ 8) (h : ∀ I1, q I1 → XX G own cc R Fx (pc + 3) L S K N I1 cs ss) : XX G own cc R Fx pc L (v4 :: v3 :: v2 :: v1 :: S) K N I cs ss :=
  x_cSV4 hd hl hv hvv sp hR (fun K1 N1 I1 hq _ => by obtain ⟨rfl, rfl, hq⟩ := hq; exact h I1 hq)
theorem xf_SV5 {x : Nat} {mt : MT} {fr lo : Nat} {v1 v2 v3 v4 v5 : Value} (hd : decode cc pc = .ok (.invokestatic x, 3)) (hl : Cond.methodLink own x mt.1 ∈ Wd) (hv : VW mt none 5) (hvv : Cond.static mt.1 ∈ Wd) (sp : SpV G mt fr lo 0 0 [v1, v2, v3, v4, v5] K N I (qV K N J)) (hR : fr + 1 ≤ R.frames ∧ 8 + (mt.2.2 + 11) + lo ≤ R.locals ∧ cs + 0 ≤ R.cells ∧ ss + 0 ≤ R.slots ∧ (S.map fun v => v.category).sum ≤ 8) (h : XX G own cc R Fx (pc + 3) L S K N J cs ss) : XX G own cc R Fx pc L (v5 :: v4 :: v3 :: v2 :: v1 :: S) K N I cs ss :=
  x_cSV5 hd hl hv hvv sp hR (fun K1 N1 I1 hq _ => by obtain ⟨rfl, rfl, rfl⟩ := hq; exact h)
theorem xp_SV5 {x : Nat} {mt : MT} {fr lo : Nat} {v1 v2 v3 v4 v5 : Value} {q : MM → Prop} (hd : decode cc pc = .ok (.invokestatic x, 3)) (hl : Cond.methodLink own x mt.1 ∈ Wd) (hv : VW mt none 5) (hvv : Cond.static mt.1 ∈ Wd) (sp : SpV G mt fr lo 0 0 [v1, v2, v3, v4, v5] K N I (pV K N q)) (hR : fr + 1 ≤ R.frames ∧ 8 + (mt.2.2 + 11) + lo ≤ R.locals ∧ cs + 0 ≤ R.cells ∧ ss + 0 ≤ R.slots ∧ (S.map fun v => v.category).sum ≤ 8) (h : ∀ I1, q I1 → XX G own cc R Fx (pc + 3) L S K N I1 cs ss) : XX G own cc R Fx pc L (v5 :: v4 :: v3 :: v2 :: v1 :: S) K N I cs ss :=
  x_cSV5 hd hl hv hvv sp hR (fun K1 N1 I1 hq _ => by obtain ⟨rfl, rfl, hq⟩ := hq; exact h I1 hq)
end FR
end
section
/-! ===== rows: what each method does ===== -/
theorem x_drop {G : GT} {own : String} {cc : ByteArray} {R : Room} {Fx : FxT} {pc i : Nat} {L : List (Option Value)} {S : List Value} {K : List Nat} {N : NN} {I : MM} {cs ss : Nat} (h : XX G own cc R Fx pc (L.set i none) S K N I cs ss) : XX G own cc R Fx pc L S K N I cs ss := by
  obtain ⟨p, e, s, m, args, below, meth, c, Q, nL, a0, K0⟩ := Fx
  intro ok al H locs ls st
  refine h ok al H locs ls ⟨st.1, st.2.1, ⟨st.2.2.1.1, st.2.2.1.2.1, by rw [List.length_set]; exact st.2.2.1.2.2.1, fun j v hj => ?_⟩, st.2.2.2.1.setN, st.2.2.2.2⟩
  by_cases e : i = j
  · subst e
    rw [List.getElem?_set] at hj
    simp at hj
  · rw [List.getElem?_set_ne e] at hj
    exact st.2.2.1.2.2.2 j v hj
theorem x_dr0 {G : GT} {own : String} {cc : ByteArray} {R : Room} {Fx : FxT} {pc : Nat} {l0 : Option Value} {r : List (Option Value)} {S : List Value} {K : List Nat} {N : NN} {I : MM} {cs ss : Nat} (h : XX G own cc R Fx pc (none :: r) S K N I cs ss) : XX G own cc R Fx pc (l0 :: r) S K N I cs ss := x_drop (i := 0) h
theorem x_dr1 {G : GT} {own : String} {cc : ByteArray} {R : Room} {Fx : FxT} {pc : Nat} {l0 l1 : Option Value} {r : List (Option Value)} {S : List Value} {K : List Nat} {N : NN} {I : MM} {cs ss : Nat} (h : XX G own cc R Fx pc (l0 :: none :: r) S K N I cs ss) : XX G own cc R Fx pc (l0 :: l1 :: r) S K N I cs ss := x_drop (i := 1) h
theorem x_dr2 {G : GT} {own : String} {cc : ByteArray} {R : Room} {Fx : FxT} {pc : Nat} {l0 l1 l2 : Option Value} {r : List (Option Value)} {S : List Value} {K : List Nat} {N : NN} {I : MM} {cs ss : Nat} (h : XX G own cc R Fx pc (l0 :: l1 :: none :: r) S K N I cs ss) : XX G own cc R Fx pc (l0 :: l1 :: l2 :: r) S K N I cs ss := x_drop (i := 2) h
theorem x_dr3 {G : GT} {own : String} {cc : ByteArray} {R : Room} {Fx : FxT} {pc : Nat} {l0 l1 l2 l3 : Option Value} {r : List (Option Value)} {S : List Value} {K : List Nat} {N : NN} {I : MM} {cs ss : Nat} (h : XX G own cc R Fx pc (l0 :: l1 :: l2 :: none :: r) S K N I cs ss) : XX G own cc R Fx pc (l0 :: l1 :: l2 :: l3 :: r) S K N I cs ss := x_drop (i := 3) h
theorem x_dr4 {G : GT} {own : String} {cc : ByteArray} {R : Room} {Fx : FxT} {pc : Nat} {l0 l1 l2 l3 l4 : Option Value} {r : List (Option Value)} {S : List Value} {K : List Nat} {N : NN} {I : MM} {cs ss : Nat} (h : XX G own cc R Fx pc (l0 :: l1 :: l2 :: l3 :: none :: r) S K N I cs ss) : XX G own cc R Fx pc (l0 :: l1 :: l2 :: l3 :: l4 :: r) S K N I cs ss := x_drop (i := 4) h
theorem x_dr5 {G : GT} {own : String} {cc : ByteArray} {R : Room} {Fx : FxT} {pc : Nat} {l0 l1 l2 l3 l4 l5 : Option Value} {r : List (Option Value)} {S : List Value} {K : List Nat} {N : NN} {I : MM} {cs ss : Nat} (h : XX G own cc R Fx pc (l0 :: l1 :: l2 :: l3 :: l4 :: none :: r) S K N I cs ss) : XX G own cc R Fx pc (l0 :: l1 :: l2 :: l3 :: l4 :: l5 :: r) S K N I cs ss := x_drop (i := 5) h
theorem x_dr6 {G : GT} {own : String} {cc : ByteArray} {R : Room} {Fx : FxT} {pc : Nat} {l0 l1 l2 l3 l4 l5 l6 : Option Value} {r : List (Option Value)} {S : List Value} {K : List Nat} {N : NN} {I : MM} {cs ss : Nat} (h : XX G own cc R Fx pc (l0 :: l1 :: l2 :: l3 :: l4 :: l5 :: none :: r) S K N I cs ss) : XX G own cc R Fx pc (l0 :: l1 :: l2 :: l3 :: l4 :: l5 :: l6 :: r) S K N I cs ss := x_drop (i := 6) h
theorem x_dr7 {G : GT} {own : String} {cc : ByteArray} {R : Room} {Fx : FxT} {pc : Nat} {l0 l1 l2 l3 l4 l5 l6 l7 : Option Value} {r : List (Option Value)} {S : List Value} {K : List Nat} {N : NN} {I : MM} {cs ss : Nat} (h : XX G own cc R Fx pc (l0 :: l1 :: l2 :: l3 :: l4 :: l5 :: l6 :: none :: r) S K N I cs ss) : XX G own cc R Fx pc (l0 :: l1 :: l2 :: l3 :: l4 :: l5 :: l6 :: l7 :: r) S K N I cs ss := x_drop (i := 7) h
theorem x_dr8 {G : GT} {own : String} {cc : ByteArray} {R : Room} {Fx : FxT} {pc : Nat} {l0 l1 l2 l3 l4 l5 l6 l7 l8 : Option Value} {r : List (Option Value)} {S : List Value} {K : List Nat} {N : NN} {I : MM} {cs ss : Nat} (h : XX G own cc R Fx pc (l0 :: l1 :: l2 :: l3 :: l4 :: l5 :: l6 :: l7 :: none :: r) S K N I cs ss) : XX G own cc R Fx pc (l0 :: l1 :: l2 :: l3 :: l4 :: l5 :: l6 :: l7 :: l8 :: r) S K N I cs ss := x_drop (i := 8) h
theorem x_dr9 {G : GT} {own : String} {cc : ByteArray} {R : Room} {Fx : FxT} {pc : Nat} {l0 l1 l2 l3 l4 l5 l6 l7 l8 l9 : Option Value} {r : List (Option Value)} {S : List Value} {K : List Nat} {N : NN} {I : MM} {cs ss : Nat} (h : XX G own cc R Fx pc (l0 :: l1 :: l2 :: l3 :: l4 :: l5 :: l6 :: l7 :: l8 :: none :: r) S K N I cs ss) : XX G own cc R Fx pc (l0 :: l1 :: l2 :: l3 :: l4 :: l5 :: l6 :: l7 :: l8 :: l9 :: r) S K N I cs ss := x_drop (i := 9) h
theorem x_dr10 {G : GT} {own : String} {cc : ByteArray} {R : Room} {Fx : FxT} {pc : Nat} {l0 l1 l2 l3 l4 l5 l6 l7 l8 l9 l10 : Option Value} {r : List (Option Value)} {S : List Value} {K : List Nat} {N : NN} {I : MM} {cs ss : Nat} (h : XX G own cc R Fx pc (l0 :: l1 :: l2 :: l3 :: l4 :: l5 :: l6 :: l7 :: l8 :: l9 :: none :: r) S K N I cs ss) : XX G own cc R Fx pc (l0 :: l1 :: l2 :: l3 :: l4 :: l5 :: l6 :: l7 :: l8 :: l9 :: l10 :: r) S K N I cs ss := x_drop (i := 10) h
theorem x_dr11 {G : GT} {own : String} {cc : ByteArray} {R : Room} {Fx : FxT} {pc : Nat} {l0 l1 l2 l3 l4 l5 l6 l7 l8 l9 l10 l11 : Option Value} {r : List (Option Value)} {S : List Value} {K : List Nat} {N : NN} {I : MM} {cs ss : Nat} (h : XX G own cc R Fx pc (l0 :: l1 :: l2 :: l3 :: l4 :: l5 :: l6 :: l7 :: l8 :: l9 :: l10 :: none :: r) S K N I cs ss) : XX G own cc R Fx pc (l0 :: l1 :: l2 :: l3 :: l4 :: l5 :: l6 :: l7 :: l8 :: l9 :: l10 :: l11 :: r) S K N I cs ss := x_drop (i := 11) h
theorem x_dr12 {G : GT} {own : String} {cc : ByteArray} {R : Room} {Fx : FxT} {pc : Nat} {l0 l1 l2 l3 l4 l5 l6 l7 l8 l9 l10 l11 l12 : Option Value} {r : List (Option Value)} {S : List Value} {K : List Nat} {N : NN} {I : MM} {cs ss : Nat} (h : XX G own cc R Fx pc (l0 :: l1 :: l2 :: l3 :: l4 :: l5 :: l6 :: l7 :: l8 :: l9 :: l10 :: l11 :: none :: r) S K N I cs ss) : XX G own cc R Fx pc (l0 :: l1 :: l2 :: l3 :: l4 :: l5 :: l6 :: l7 :: l8 :: l9 :: l10 :: l11 :: l12 :: r) S K N I cs ss := x_drop (i := 12) h
theorem x_dr13 {G : GT} {own : String} {cc : ByteArray} {R : Room} {Fx : FxT} {pc : Nat} {l0 l1 l2 l3 l4 l5 l6 l7 l8 l9 l10 l11 l12 l13 : Option Value} {r : List (Option Value)} {S : List Value} {K : List Nat} {N : NN} {I : MM} {cs ss : Nat} (h : XX G own cc R Fx pc (l0 :: l1 :: l2 :: l3 :: l4 :: l5 :: l6 :: l7 :: l8 :: l9 :: l10 :: l11 :: l12 :: none :: r) S K N I cs ss) : XX G own cc R Fx pc (l0 :: l1 :: l2 :: l3 :: l4 :: l5 :: l6 :: l7 :: l8 :: l9 :: l10 :: l11 :: l12 :: l13 :: r) S K N I cs ss := x_drop (i := 13) h
theorem x_dr14 {G : GT} {own : String} {cc : ByteArray} {R : Room} {Fx : FxT} {pc : Nat} {l0 l1 l2 l3 l4 l5 l6 l7 l8 l9 l10 l11 l12 l13 l14 : Option Value} {r : List (Option Value)} {S : List Value} {K : List Nat} {N : NN} {I : MM} {cs ss : Nat} (h : XX G own cc R Fx pc (l0 :: l1 :: l2 :: l3 :: l4 :: l5 :: l6 :: l7 :: l8 :: l9 :: l10 :: l11 :: l12 :: l13 :: none :: r) S K N I cs ss) : XX G own cc R Fx pc (l0 :: l1 :: l2 :: l3 :: l4 :: l5 :: l6 :: l7 :: l8 :: l9 :: l10 :: l11 :: l12 :: l13 :: l14 :: r) S K N I cs ss := x_drop (i := 14) h
theorem x_dr15 {G : GT} {own : String} {cc : ByteArray} {R : Room} {Fx : FxT} {pc : Nat} {l0 l1 l2 l3 l4 l5 l6 l7 l8 l9 l10 l11 l12 l13 l14 l15 : Option Value} {r : List (Option Value)} {S : List Value} {K : List Nat} {N : NN} {I : MM} {cs ss : Nat} (h : XX G own cc R Fx pc (l0 :: l1 :: l2 :: l3 :: l4 :: l5 :: l6 :: l7 :: l8 :: l9 :: l10 :: l11 :: l12 :: l13 :: l14 :: none :: r) S K N I cs ss) : XX G own cc R Fx pc (l0 :: l1 :: l2 :: l3 :: l4 :: l5 :: l6 :: l7 :: l8 :: l9 :: l10 :: l11 :: l12 :: l13 :: l14 :: l15 :: r) S K N I cs ss := x_drop (i := 15) h
def fa (I : MM) (b f k : Nat) : Int := if f < 9 ∧ k < 7 then I (b + 1) (7 * f + k) else 0
theorem fa_at {I : MM} {b f k : Nat} (h : f < 9 ∧ k < 7) : fa I b f k = I (b + 1) (7 * f + k) := if_pos h
theorem fa_congr {I J : MM} {b f k : Nat} (h : ∀ j, J (b + 1) j = I (b + 1) j) : fa J b f k = fa I b f k := by unfold fa; rw [h]
/-- what a row's numbers keep to -/
def RB (I : MM) (b n : Nat) : Prop := I b 0 = (n : Int) ∧ 1 ≤ n ∧ n ≤ 9 ∧ (∀ f, f < n → (0 ≤ fa I b f 0 ∧ fa I b f 0 ≤ 50) ∧ (0 ≤ fa I b f 1 ∧ fa I b f 1 ≤ 9) ∧ (0 ≤ fa I b f 2 ∧ fa I b f 2 ≤ 99) ∧ (0 ≤ fa I b f 3 ∧ fa I b f 3 ≤ 1) ∧ (0 ≤ fa I b f 4 ∧ fa I b f 4 ≤ 1) ∧ (0 ≤ fa I b f 5 ∧ fa I b f 5 ≤ 9) ∧ (0 ≤ fa I b f 6 ∧ fa I b f 6 ≤ 1000000)) ∧ (0 ≤ I (b + 2) 0 ∧ I (b + 2) 0 ≤ 99) ∧ (0 ≤ I (b + 2) 1 ∧ I (b + 2) 1 ≤ 50) ∧ (0 ≤ I (b + 2) 2 ∧ I (b + 2) 2 ≤ 50)
theorem x_eqI {G : GT} {own : String} {cc : ByteArray} {R : Room} {Fx : FxT} {pc : Nat} {L : List (Option Value)} {S : List Value} {K : List Nat} {N : NN} {I J : MM} {cs ss : Nat} (e : I = J) (h : XX G own cc R Fx pc L S K N J cs ss) : XX G own cc R Fx pc L S K N I cs ss := e ▸ h
theorem x_eqV {G : GT} {own : String} {cc : ByteArray} {R : Room} {Fx : FxT} {pc : Nat} {L : List (Option Value)} {S : List Value} {K : List Nat} {N : NN} {I : MM} {cs ss : Nat} {a b : Int} (e : a = b) (h : XX G own cc R Fx pc L (vi b :: S) K N I cs ss) : XX G own cc R Fx pc L (vi a :: S) K N I cs ss := e ▸ h
section FR
variable {G : GT} {K : List Nat} {N : NN} {I : MM} {b : Nat}
theorem sp_has (hb : kd b = 3) (hN : NS N) {z : Int} (hz : inr z) (hc : inr (I b 0)) : SpI G mX3_has .boolean 0 0 0 0 [.ref b, vi z] K N I (qI K N I (if 0 ≤ z ∧ z < I b 0 then 1 else 0)) := by
  refine SpI.of (own := RX3) (cc := cX3_has) (L := [some (.ref b), some (vi z)]) (by decide) rfl rfl (Nat.le_of_ble_eq_true rfl) rfl (fun Fx hnm hret => ?_)
  refine x_iload_n dX3_has_0 rfl ?_
  refine x_if_lt 16 dX3_has_1 (by decide) hz (fun h_1 => ?_) (fun h_1 => ?_)
  · refine x_iconst dX3_has_16 ?_
    refine hret _ _ _ _ _ _ dX3_has_17 rfl ?_
    exact ⟨rfl, rfl, rfl, by omega⟩
  · refine x_iload_n dX3_has_4 rfl ?_
    refine x_aload_n dX3_has_5 rfl ?_
    refine x_getI dX3_has_6 gf_RX3_37 hb (tg_R0 hb) ?_
    refine x_icmp_ge 16 dX3_has_9 (by decide) hz hc (fun h_9 => ?_) (fun h_9 => ?_)
    · refine x_iconst dX3_has_16 ?_
      refine hret _ _ _ _ _ _ dX3_has_17 rfl ?_
      exact ⟨rfl, rfl, rfl, by omega⟩
    · refine x_iconst dX3_has_12 ?_
      refine x_goto 17 dX3_has_13 (by decide) ?_
      refine hret _ _ _ _ _ _ dX3_has_17 rfl ?_
      exact ⟨rfl, rfl, rfl, by omega⟩
theorem sp_fact (hb : kd b = 3) (hN : NS N) (f k : Nat) {zf zk : Int} (hf : zf = (f : Int)) (hk : zk = (k : Int)) (hl : f < 9 ∧ k < 7) : SpI G mX3_fact .int 0 0 0 0 [.ref b, vi zf, vi zk] K N I (qI K N I (fa I b f k)) := by
  refine SpI.of (own := RX3) (cc := cX3_fact) (L := [some (.ref b), some (vi zf), some (vi zk)]) (by decide) rfl rfl (Nat.le_of_ble_eq_true rfl) rfl (fun Fx hnm hret => ?_)
  refine x_aload_n dX3_fact_0 rfl ?_
  refine x_getR dX3_fact_1 gf_RX3_9 hb (tg_R3 hb) (hN _ _ (ne11_R hb)) ?_
  refine x_iload_n dX3_fact_4 rfl ?_
  refine x_bipush dX3_fact_5 (by decide) ?_
  refine x_imul dX3_fact_7 ?_
  refine x_iload_n dX3_fact_8 rfl ?_
  refine x_iadd dX3_fact_9 ?_
  refine x_iald (7 * f + k) dX3_fact_10 (kd_R1 hb) (by omega) (by rw [ln_R1 hb]; omega) ?_
  refine hret _ _ _ _ _ _ dX3_fact_11 rfl ?_
  exact ⟨rfl, rfl, rfl, (fa_at hl).symm⟩
theorem sp_put (hb : kd b = 3) (hN : NS N) (f k : Nat) {zf zk v : Int} (hf : zf = (f : Int)) (hk : zk = (k : Int)) (hl : f < 9 ∧ k < 7) : SpV G mX3_put 0 0 0 0 [.ref b, vi zf, vi zk, vi v] K N I (qV K N (up I (b + 1) (7 * f + k) v)) := by
  refine SpV.of (own := RX3) (cc := cX3_put) (L := [some (.ref b), some (vi zf), some (vi zk), some (vi v)]) (by decide) rfl rfl (Nat.le_of_ble_eq_true rfl) rfl (fun Fx hnm hret => ?_)
  refine x_aload_n dX3_put_0 rfl ?_
  refine x_getR dX3_put_1 gf_RX3_9 hb (tg_R3 hb) (hN _ _ (ne11_R hb)) ?_
  refine x_iload_n dX3_put_4 rfl ?_
  refine x_bipush dX3_put_5 (by decide) ?_
  refine x_imul dX3_put_7 ?_
  refine x_iload_n dX3_put_8 rfl ?_
  refine x_iadd dX3_put_9 ?_
  refine x_iload_n dX3_put_10 rfl ?_
  refine x_iast (7 * f + k) dX3_put_11 (kd_R1 hb) (by omega) (by rw [ln_R1 hb]; omega) ?_
  refine hret _ _ _ _ _ dX3_put_12 ?_
  exact ⟨rfl, rfl, rfl⟩
theorem sp_turnPlug (hb : kd b = 3) (hN : NS N) (f : Nat) {zf : Int} (hf : zf = (f : Int)) (hl : f < 9) : SpV G mX3_turnPlug 1 23 0 0 [.ref b, vi zf] K N I (qV K N (up I (b + 1) (7 * f + 4) (1 - fa I b f 4))) := by
  refine SpV.of (own := RX3) (cc := cX3_turnPlug) (L := [some (.ref b), some (vi zf)]) (by decide) rfl rfl (Nat.le_of_ble_eq_true rfl) rfl (fun Fx hnm hret => ?_)
  refine x_aload_n dX3_turnPlug_0 rfl ?_
  refine x_iload_n dX3_turnPlug_1 rfl ?_
  refine x_iconst dX3_turnPlug_2 ?_
  refine x_iconst dX3_turnPlug_3 ?_
  refine x_aload_n dX3_turnPlug_4 rfl ?_
  refine x_iload_n dX3_turnPlug_5 rfl ?_
  refine x_iconst dX3_turnPlug_6 ?_
  refine xf_VI2 dX3_turnPlug_7 ml_RX3_50 vw_X3_fact vv_X3_fact (by rw [hb]; rfl) (sp_fact hb hN f 4 hf rfl (by omega)) ⟨Nat.le_of_ble_eq_true rfl, Nat.le_of_ble_eq_true rfl, Nat.le_of_ble_eq_true rfl, Nat.le_of_ble_eq_true rfl, Nat.le_of_ble_eq_true rfl⟩ ?_
  refine x_isub dX3_turnPlug_10 ?_
  refine xf_VV3 dX3_turnPlug_11 ml_RX3_54 vw_X3_put vv_X3_put (by rw [hb]; rfl) (sp_put hb hN f 4 hf rfl (by omega)) ⟨Nat.le_of_ble_eq_true rfl, Nat.le_of_ble_eq_true rfl, Nat.le_of_ble_eq_true rfl, Nat.le_of_ble_eq_true rfl, Nat.le_of_ble_eq_true rfl⟩ ?_
  refine hret _ _ _ _ _ dX3_turnPlug_14 ?_
  exact ⟨rfl, rfl, rfl⟩
theorem sp_lack (hb : kd b = 3) (hN : NS N) (f : Nat) {zf : Int} (hf : zf = (f : Int)) (hl : f < 9) (h1 : 0 ≤ fa I b f 2 ∧ fa I b f 2 ≤ 99) (h2 : 0 ≤ fa I b f 6 ∧ fa I b f 6 ≤ 1000000) : SpI G mX3_lack .int 1 22 0 0 [.ref b, vi zf] K N I (qI K N I (max 0 (fa I b f 2 - fa I b f 6))) := by
  refine SpI.of (own := RX3) (cc := cX3_lack) (L := [some (.ref b), some (vi zf)]) (by decide) rfl rfl (Nat.le_of_ble_eq_true rfl) rfl (fun Fx hnm hret => ?_)
  refine x_iconst dX3_lack_0 ?_
  refine x_aload_n dX3_lack_1 rfl ?_
  refine x_iload_n dX3_lack_2 rfl ?_
  refine x_iconst dX3_lack_3 ?_
  refine xf_VI2 dX3_lack_4 ml_RX3_50 vw_X3_fact vv_X3_fact (by rw [hb]; rfl) (sp_fact hb hN f 2 hf rfl (by omega)) ⟨Nat.le_of_ble_eq_true rfl, Nat.le_of_ble_eq_true rfl, Nat.le_of_ble_eq_true rfl, Nat.le_of_ble_eq_true rfl, Nat.le_of_ble_eq_true rfl⟩ ?_
  refine x_aload_n dX3_lack_7 rfl ?_
  refine x_iload_n dX3_lack_8 rfl ?_
  refine x_bipush dX3_lack_9 (by decide) ?_
  refine xf_VI2 dX3_lack_11 ml_RX3_50 vw_X3_fact vv_X3_fact (by rw [hb]; rfl) (sp_fact hb hN f 6 hf rfl (by omega)) ⟨Nat.le_of_ble_eq_true rfl, Nat.le_of_ble_eq_true rfl, Nat.le_of_ble_eq_true rfl, Nat.le_of_ble_eq_true rfl, Nat.le_of_ble_eq_true rfl⟩ ?_
  refine x_isub dX3_lack_14 ?_
  refine x_max dX3_lack_15 ml_RX3_58 st_mmax ini_java_lang_Math cd_mmax (by unfold inr; omega) (by unfold inr; omega) ⟨Nat.le_of_ble_eq_true rfl, Nat.le_of_ble_eq_true rfl, Nat.le_of_ble_eq_true rfl, Nat.le_of_ble_eq_true rfl⟩ ?_
  refine hret _ _ _ _ _ _ dX3_lack_18 rfl ?_
  exact ⟨rfl, rfl, rfl, rfl⟩
theorem sp_see (hb : kd b = 3) (hN : NS N) (s : Nat) {zf zt : Int} (hs : I b 2 = (s : Int)) (hl : s < 8) : SpV G mX3_see 0 0 0 0 [.ref b, vi zf, vi zt] K N I (qV K N (up (up (up I (b + 3) s zf) (b + 4) s zt) b 2 (s + 1))) := by
  refine SpV.of (own := RX3) (cc := cX3_see) (L := [some (.ref b), some (vi zf), some (vi zt)]) (by decide) rfl rfl (Nat.le_of_ble_eq_true rfl) rfl (fun Fx hnm hret => ?_)
  refine x_aload_n dX3_see_0 rfl ?_
  refine x_getR dX3_see_1 gf_RX3_18 hb (tg_R5 hb) (hN _ _ (ne11_R hb)) ?_
  refine x_aload_n dX3_see_4 rfl ?_
  refine x_getI dX3_see_5 gf_RX3_44 hb (tg_R2 hb) ?_
  refine x_iload_n dX3_see_8 rfl ?_
  refine x_iast (s) dX3_see_9 (kd_R3 hb) hs (by rw [ln_R3 hb]; omega) ?_
  refine x_aload_n dX3_see_10 rfl ?_
  refine x_getR dX3_see_11 gf_RX3_21 hb (tg_R6 hb) (hN _ _ (ne11_R hb)) ?_
  refine x_aload_n dX3_see_14 rfl ?_
  refine x_getI dX3_see_15 gf_RX3_44 hb (tg_R2 hb) ?_
  refine x_iload_n dX3_see_18 rfl ?_
  refine x_iast (s) dX3_see_19 (kd_R4 hb) (by rw [up_n1 (by omega)]; exact hs) (by rw [ln_R4 hb]; omega) ?_
  refine x_aload_n dX3_see_20 rfl ?_
  refine x_dupR dX3_see_21 ?_
  refine x_getI dX3_see_22 gf_RX3_44 hb (tg_R2 hb) ?_
  refine x_iconst dX3_see_25 ?_
  refine x_iadd dX3_see_26 ?_
  refine x_putI dX3_see_27 pf_RX3_44 hb (tg_R2 hb) ?_
  refine hret _ _ _ _ _ dX3_see_30 ?_
  exact ⟨rfl, rfl, by rw [up_n1 (by omega), up_n1 (by omega), hs]⟩
def l0R (I : MM) (b : Nat) (kn : Int) : Int := max 0 (I (b + 2) 0 + (if kn = 3 then I (b + 2) 1 else 0) - (if kn = 1 then I (b + 2) 2 else 0))
theorem sp_level (hb : kd b = 3) (hN : NS N) {kn : Int} (hk : inr kn) (h0 : 0 ≤ I (b + 2) 0 ∧ I (b + 2) 0 ≤ 99) (h1 : 0 ≤ I (b + 2) 1 ∧ I (b + 2) 1 ≤ 50) (h2 : 0 ≤ I (b + 2) 2 ∧ I (b + 2) 2 ≤ 50) : SpI G mX3_levelAtSpring .int 1 21 0 0 [.ref b, vi kn] K N I (qI K N I (l0R I b kn)) := by
  refine SpI.of (own := RX3) (cc := cX3_levelAtSpring) (L := [some (.ref b), some (vi kn), none]) (by decide) rfl rfl (Nat.le_of_ble_eq_true rfl) rfl (fun Fx hnm hret => ?_)
  refine x_aload_n dX3_levelAtSpring_0 rfl ?_
  refine x_getR dX3_levelAtSpring_1 gf_RX3_15 hb (tg_R4 hb) (hN _ _ (ne11_R hb)) ?_
  refine x_iconst dX3_levelAtSpring_4 ?_
  refine x_iald (0) dX3_levelAtSpring_5 (kd_R2 hb) (by omega) (by rw [ln_R2 hb]; omega) ?_
  refine x_ist2 dX3_levelAtSpring_6 ?_
  refine x_iload_n dX3_levelAtSpring_7 rfl ?_
  refine x_iconst dX3_levelAtSpring_8 ?_
  refine x_icmp_ne 21 dX3_levelAtSpring_9 (by decide) hk (by unfold inr; omega) (fun h_9 => ?_) (fun h_9 => ?_)
  · refine x_iload_n dX3_levelAtSpring_21 rfl ?_
    refine x_iconst dX3_levelAtSpring_22 ?_
    refine x_icmp_ne 35 dX3_levelAtSpring_23 (by decide) hk (by unfold inr; omega) (fun h_23 => ?_) (fun h_23 => ?_)
    · refine x_iconst dX3_levelAtSpring_35 ?_
      refine x_iload_n dX3_levelAtSpring_36 rfl ?_
      refine x_max dX3_levelAtSpring_37 ml_RX3_58 st_mmax ini_java_lang_Math cd_mmax (by unfold inr; omega) (by unfold inr; omega) ⟨Nat.le_of_ble_eq_true rfl, Nat.le_of_ble_eq_true rfl, Nat.le_of_ble_eq_true rfl, Nat.le_of_ble_eq_true rfl⟩ ?_
      refine hret _ _ _ _ _ _ dX3_levelAtSpring_40 rfl ?_
      exact ⟨rfl, rfl, rfl, by unfold l0R; (repeat split) <;> omega⟩
    · refine x_iload_n dX3_levelAtSpring_26 rfl ?_
      refine x_aload_n dX3_levelAtSpring_27 rfl ?_
      refine x_getR dX3_levelAtSpring_28 gf_RX3_15 hb (tg_R4 hb) (hN _ _ (ne11_R hb)) ?_
      refine x_iconst dX3_levelAtSpring_31 ?_
      refine x_iald (2) dX3_levelAtSpring_32 (kd_R2 hb) (by omega) (by rw [ln_R2 hb]; omega) ?_
      refine x_isub dX3_levelAtSpring_33 ?_
      refine x_ist2 dX3_levelAtSpring_34 ?_
      refine x_iconst dX3_levelAtSpring_35 ?_
      refine x_iload_n dX3_levelAtSpring_36 rfl ?_
      refine x_max dX3_levelAtSpring_37 ml_RX3_58 st_mmax ini_java_lang_Math cd_mmax (by unfold inr; omega) (by unfold inr; omega) ⟨Nat.le_of_ble_eq_true rfl, Nat.le_of_ble_eq_true rfl, Nat.le_of_ble_eq_true rfl, Nat.le_of_ble_eq_true rfl⟩ ?_
      refine hret _ _ _ _ _ _ dX3_levelAtSpring_40 rfl ?_
      exact ⟨rfl, rfl, rfl, by unfold l0R; (repeat split) <;> omega⟩
  · refine x_iload_n dX3_levelAtSpring_12 rfl ?_
    refine x_aload_n dX3_levelAtSpring_13 rfl ?_
    refine x_getR dX3_levelAtSpring_14 gf_RX3_15 hb (tg_R4 hb) (hN _ _ (ne11_R hb)) ?_
    refine x_iconst dX3_levelAtSpring_17 ?_
    refine x_iald (1) dX3_levelAtSpring_18 (kd_R2 hb) (by omega) (by rw [ln_R2 hb]; omega) ?_
    refine x_iadd dX3_levelAtSpring_19 ?_
    refine x_ist2 dX3_levelAtSpring_20 ?_
    refine x_iload_n dX3_levelAtSpring_21 rfl ?_
    refine x_iconst dX3_levelAtSpring_22 ?_
    refine x_icmp_ne 35 dX3_levelAtSpring_23 (by decide) hk (by unfold inr; omega) (fun h_23 => ?_) (fun h_23 => ?_)
    · refine x_iconst dX3_levelAtSpring_35 ?_
      refine x_iload_n dX3_levelAtSpring_36 rfl ?_
      refine x_max dX3_levelAtSpring_37 ml_RX3_58 st_mmax ini_java_lang_Math cd_mmax (by unfold inr; omega) (by unfold inr; omega) ⟨Nat.le_of_ble_eq_true rfl, Nat.le_of_ble_eq_true rfl, Nat.le_of_ble_eq_true rfl, Nat.le_of_ble_eq_true rfl⟩ ?_
      refine hret _ _ _ _ _ _ dX3_levelAtSpring_40 rfl ?_
      exact ⟨rfl, rfl, rfl, by unfold l0R; (repeat split) <;> omega⟩
    · refine x_iload_n dX3_levelAtSpring_26 rfl ?_
      refine x_aload_n dX3_levelAtSpring_27 rfl ?_
      refine x_getR dX3_levelAtSpring_28 gf_RX3_15 hb (tg_R4 hb) (hN _ _ (ne11_R hb)) ?_
      refine x_iconst dX3_levelAtSpring_31 ?_
      refine x_iald (2) dX3_levelAtSpring_32 (kd_R2 hb) (by omega) (by rw [ln_R2 hb]; omega) ?_
      refine x_isub dX3_levelAtSpring_33 ?_
      refine x_ist2 dX3_levelAtSpring_34 ?_
      refine x_iconst dX3_levelAtSpring_35 ?_
      refine x_iload_n dX3_levelAtSpring_36 rfl ?_
      refine x_max dX3_levelAtSpring_37 ml_RX3_58 st_mmax ini_java_lang_Math cd_mmax (by unfold inr; omega) (by unfold inr; omega) ⟨Nat.le_of_ble_eq_true rfl, Nat.le_of_ble_eq_true rfl, Nat.le_of_ble_eq_true rfl, Nat.le_of_ble_eq_true rfl⟩ ?_
      refine hret _ _ _ _ _ _ dX3_levelAtSpring_40 rfl ?_
      exact ⟨rfl, rfl, rfl, by unfold l0R; (repeat split) <;> omega⟩
theorem sp_takesNone (hb : kd b = 3) (hN : NS N) (f : Nat) {zf kn : Int} (hf : zf = (f : Int)) (hl : f < 9) (hk : inr kn) (h1 : 0 ≤ fa I b f 3 ∧ fa I b f 3 ≤ 1) (h2 : 0 ≤ fa I b f 4 ∧ fa I b f 4 ≤ 1) : SpI G mX3_takesNone .boolean 1 22 0 0 [.ref b, vi zf, vi kn] K N I (qI K N I (if fa I b f 4 ≠ 0 ∨ (kn = 2 ∧ fa I b f 3 ≠ 0) then 1 else 0)) := by
  refine SpI.of (own := RX3) (cc := cX3_takesNone) (L := [some (.ref b), some (vi zf), some (vi kn)]) (by decide) rfl rfl (Nat.le_of_ble_eq_true rfl) rfl (fun Fx hnm hret => ?_)
  refine x_aload_n dX3_takesNone_0 rfl ?_
  refine x_iload_n dX3_takesNone_1 rfl ?_
  refine x_iconst dX3_takesNone_2 ?_
  refine xf_VI2 dX3_takesNone_3 ml_RX3_50 vw_X3_fact vv_X3_fact (by rw [hb]; rfl) (sp_fact hb hN f 4 hf rfl (by omega)) ⟨Nat.le_of_ble_eq_true rfl, Nat.le_of_ble_eq_true rfl, Nat.le_of_ble_eq_true rfl, Nat.le_of_ble_eq_true rfl, Nat.le_of_ble_eq_true rfl⟩ ?_
  refine x_if_ne 23 dX3_takesNone_6 (by decide) (by unfold inr; omega) (fun h_6 => ?_) (fun h_6 => ?_)
  · refine x_iconst dX3_takesNone_23 ?_
    refine x_goto 28 dX3_takesNone_24 (by decide) ?_
    refine hret _ _ _ _ _ _ dX3_takesNone_28 rfl ?_
    exact ⟨rfl, rfl, rfl, by split <;> omega⟩
  · refine x_iload_n dX3_takesNone_9 rfl ?_
    refine x_iconst dX3_takesNone_10 ?_
    refine x_icmp_ne 27 dX3_takesNone_11 (by decide) hk (by unfold inr; omega) (fun h_11 => ?_) (fun h_11 => ?_)
    · refine x_iconst dX3_takesNone_27 ?_
      refine hret _ _ _ _ _ _ dX3_takesNone_28 rfl ?_
      exact ⟨rfl, rfl, rfl, by split <;> omega⟩
    · refine x_aload_n dX3_takesNone_14 rfl ?_
      refine x_iload_n dX3_takesNone_15 rfl ?_
      refine x_iconst dX3_takesNone_16 ?_
      refine xf_VI2 dX3_takesNone_17 ml_RX3_50 vw_X3_fact vv_X3_fact (by rw [hb]; rfl) (sp_fact hb hN f 3 hf rfl (by omega)) ⟨Nat.le_of_ble_eq_true rfl, Nat.le_of_ble_eq_true rfl, Nat.le_of_ble_eq_true rfl, Nat.le_of_ble_eq_true rfl, Nat.le_of_ble_eq_true rfl⟩ ?_
      refine x_if_eq 27 dX3_takesNone_20 (by decide) (by unfold inr; omega) (fun h_20 => ?_) (fun h_20 => ?_)
      · refine x_iconst dX3_takesNone_27 ?_
        refine hret _ _ _ _ _ _ dX3_takesNone_28 rfl ?_
        exact ⟨rfl, rfl, rfl, by split <;> omega⟩
      · refine x_iconst dX3_takesNone_23 ?_
        refine x_goto 28 dX3_takesNone_24 (by decide) ?_
        refine hret _ _ _ _ _ _ dX3_takesNone_28 rfl ?_
        exact ⟨rfl, rfl, rfl, by split <;> omega⟩
def reaR (I : MM) (b f : Nat) (a : Int) : Int := if a = 5 ∧ fa I b f 0 ≤ 0 then 1 else if a = 6 ∧ 50 ≤ fa I b f 0 then 1 else if a = 7 ∧ 9 ≤ fa I b f 1 then 2 else 0
theorem sp_reason (hb : kd b = 3) (hN : NS N) (f : Nat) {zf a : Int} (hf : zf = (f : Int)) (hl : f < 9) (hk : inr a) (h1 : inr (fa I b f 0)) (h2 : inr (fa I b f 1)) : SpI G mX3_reasonAgainst .int 1 22 0 0 [.ref b, vi a, vi zf] K N I (qI K N I (reaR I b f a)) := by
  refine SpI.of (own := RX3) (cc := cX3_reasonAgainst) (L := [some (.ref b), some (vi a), some (vi zf)]) (by decide) rfl rfl (Nat.le_of_ble_eq_true rfl) rfl (fun Fx hnm hret => ?_)
  refine x_iload_n dX3_reasonAgainst_0 rfl ?_
  refine x_iconst dX3_reasonAgainst_1 ?_
  refine x_icmp_ne 16 dX3_reasonAgainst_2 (by decide) hk (by unfold inr; omega) (fun h_2 => ?_) (fun h_2 => ?_)
  · refine x_iload_n dX3_reasonAgainst_16 rfl ?_
    refine x_bipush dX3_reasonAgainst_17 (by decide) ?_
    refine x_icmp_ne 38 dX3_reasonAgainst_19 (by decide) hk (by unfold inr; omega) (fun h_19 => ?_) (fun h_19 => ?_)
    · refine x_iload_n dX3_reasonAgainst_38 rfl ?_
      refine x_bipush dX3_reasonAgainst_39 (by decide) ?_
      refine x_icmp_ne 60 dX3_reasonAgainst_41 (by decide) hk (by unfold inr; omega) (fun h_41 => ?_) (fun h_41 => ?_)
      · refine x_iconst dX3_reasonAgainst_60 ?_
        refine hret _ _ _ _ _ _ dX3_reasonAgainst_61 rfl ?_
        exact ⟨rfl, rfl, rfl, by unfold reaR; (repeat split) <;> first | rfl | (simp at *; omega)⟩
      · refine x_aload_n dX3_reasonAgainst_44 rfl ?_
        refine x_iload_n dX3_reasonAgainst_45 rfl ?_
        refine x_iconst dX3_reasonAgainst_46 ?_
        refine xf_VI2 dX3_reasonAgainst_47 ml_RX3_50 vw_X3_fact vv_X3_fact (by rw [hb]; rfl) (sp_fact hb hN f 1 hf rfl (by omega)) ⟨Nat.le_of_ble_eq_true rfl, Nat.le_of_ble_eq_true rfl, Nat.le_of_ble_eq_true rfl, Nat.le_of_ble_eq_true rfl, Nat.le_of_ble_eq_true rfl⟩ ?_
        refine x_getsN (k := 2) dX3_reasonAgainst_50 (by decide +kernel) (by decide) rfl ?_
        refine x_iconst dX3_reasonAgainst_53 ?_
        refine x_sald (k := 2) (1) dX3_reasonAgainst_54 (by decide) rfl (by omega) (show _ < 7 by omega) ?_
        refine x_eqV (b := 9) rfl ?_
        refine x_icmp_lt 60 dX3_reasonAgainst_55 (by decide) h2 (by unfold inr; omega) (fun h_55 => ?_) (fun h_55 => ?_)
        · refine x_iconst dX3_reasonAgainst_60 ?_
          refine hret _ _ _ _ _ _ dX3_reasonAgainst_61 rfl ?_
          exact ⟨rfl, rfl, rfl, by unfold reaR; (repeat split) <;> first | rfl | (simp at *; omega)⟩
        · refine x_iconst dX3_reasonAgainst_58 ?_
          refine hret _ _ _ _ _ _ dX3_reasonAgainst_59 rfl ?_
          exact ⟨rfl, rfl, rfl, by unfold reaR; (repeat split) <;> first | rfl | (simp at *; omega)⟩
    · refine x_aload_n dX3_reasonAgainst_22 rfl ?_
      refine x_iload_n dX3_reasonAgainst_23 rfl ?_
      refine x_iconst dX3_reasonAgainst_24 ?_
      refine xf_VI2 dX3_reasonAgainst_25 ml_RX3_50 vw_X3_fact vv_X3_fact (by rw [hb]; rfl) (sp_fact hb hN f 0 hf rfl (by omega)) ⟨Nat.le_of_ble_eq_true rfl, Nat.le_of_ble_eq_true rfl, Nat.le_of_ble_eq_true rfl, Nat.le_of_ble_eq_true rfl, Nat.le_of_ble_eq_true rfl⟩ ?_
      refine x_getsN (k := 2) dX3_reasonAgainst_28 (by decide +kernel) (by decide) rfl ?_
      refine x_iconst dX3_reasonAgainst_31 ?_
      refine x_sald (k := 2) (0) dX3_reasonAgainst_32 (by decide) rfl (by omega) (show _ < 7 by omega) ?_
      refine x_eqV (b := 50) rfl ?_
      refine x_icmp_lt 38 dX3_reasonAgainst_33 (by decide) h1 (by unfold inr; omega) (fun h_33 => ?_) (fun h_33 => ?_)
      · refine x_iload_n dX3_reasonAgainst_38 rfl ?_
        refine x_bipush dX3_reasonAgainst_39 (by decide) ?_
        refine x_icmp_ne 60 dX3_reasonAgainst_41 (by decide) hk (by unfold inr; omega) (fun h_41 => ?_) (fun h_41 => ?_)
        · refine x_iconst dX3_reasonAgainst_60 ?_
          refine hret _ _ _ _ _ _ dX3_reasonAgainst_61 rfl ?_
          exact ⟨rfl, rfl, rfl, by unfold reaR; (repeat split) <;> first | rfl | (simp at *; omega)⟩
        · refine x_aload_n dX3_reasonAgainst_44 rfl ?_
          refine x_iload_n dX3_reasonAgainst_45 rfl ?_
          refine x_iconst dX3_reasonAgainst_46 ?_
          refine xf_VI2 dX3_reasonAgainst_47 ml_RX3_50 vw_X3_fact vv_X3_fact (by rw [hb]; rfl) (sp_fact hb hN f 1 hf rfl (by omega)) ⟨Nat.le_of_ble_eq_true rfl, Nat.le_of_ble_eq_true rfl, Nat.le_of_ble_eq_true rfl, Nat.le_of_ble_eq_true rfl, Nat.le_of_ble_eq_true rfl⟩ ?_
          refine x_getsN (k := 2) dX3_reasonAgainst_50 (by decide +kernel) (by decide) rfl ?_
          refine x_iconst dX3_reasonAgainst_53 ?_
          refine x_sald (k := 2) (1) dX3_reasonAgainst_54 (by decide) rfl (by omega) (show _ < 7 by omega) ?_
          refine x_eqV (b := 9) rfl ?_
          refine x_icmp_lt 60 dX3_reasonAgainst_55 (by decide) h2 (by unfold inr; omega) (fun h_55 => ?_) (fun h_55 => ?_)
          · refine x_iconst dX3_reasonAgainst_60 ?_
            refine hret _ _ _ _ _ _ dX3_reasonAgainst_61 rfl ?_
            exact ⟨rfl, rfl, rfl, by unfold reaR; (repeat split) <;> first | rfl | (simp at *; omega)⟩
          · refine x_iconst dX3_reasonAgainst_58 ?_
            refine hret _ _ _ _ _ _ dX3_reasonAgainst_59 rfl ?_
            exact ⟨rfl, rfl, rfl, by unfold reaR; (repeat split) <;> first | rfl | (simp at *; omega)⟩
      · refine x_iconst dX3_reasonAgainst_36 ?_
        refine hret _ _ _ _ _ _ dX3_reasonAgainst_37 rfl ?_
        exact ⟨rfl, rfl, rfl, by unfold reaR; (repeat split) <;> first | rfl | (simp at *; omega)⟩
  · refine x_aload_n dX3_reasonAgainst_5 rfl ?_
    refine x_iload_n dX3_reasonAgainst_6 rfl ?_
    refine x_iconst dX3_reasonAgainst_7 ?_
    refine xf_VI2 dX3_reasonAgainst_8 ml_RX3_50 vw_X3_fact vv_X3_fact (by rw [hb]; rfl) (sp_fact hb hN f 0 hf rfl (by omega)) ⟨Nat.le_of_ble_eq_true rfl, Nat.le_of_ble_eq_true rfl, Nat.le_of_ble_eq_true rfl, Nat.le_of_ble_eq_true rfl, Nat.le_of_ble_eq_true rfl⟩ ?_
    refine x_if_gt 16 dX3_reasonAgainst_11 (by decide) h1 (fun h_11 => ?_) (fun h_11 => ?_)
    · refine x_iload_n dX3_reasonAgainst_16 rfl ?_
      refine x_bipush dX3_reasonAgainst_17 (by decide) ?_
      refine x_icmp_ne 38 dX3_reasonAgainst_19 (by decide) hk (by unfold inr; omega) (fun h_19 => ?_) (fun h_19 => ?_)
      · refine x_iload_n dX3_reasonAgainst_38 rfl ?_
        refine x_bipush dX3_reasonAgainst_39 (by decide) ?_
        refine x_icmp_ne 60 dX3_reasonAgainst_41 (by decide) hk (by unfold inr; omega) (fun h_41 => ?_) (fun h_41 => ?_)
        · refine x_iconst dX3_reasonAgainst_60 ?_
          refine hret _ _ _ _ _ _ dX3_reasonAgainst_61 rfl ?_
          exact ⟨rfl, rfl, rfl, by unfold reaR; (repeat split) <;> first | rfl | (simp at *; omega)⟩
        · refine x_aload_n dX3_reasonAgainst_44 rfl ?_
          refine x_iload_n dX3_reasonAgainst_45 rfl ?_
          refine x_iconst dX3_reasonAgainst_46 ?_
          refine xf_VI2 dX3_reasonAgainst_47 ml_RX3_50 vw_X3_fact vv_X3_fact (by rw [hb]; rfl) (sp_fact hb hN f 1 hf rfl (by omega)) ⟨Nat.le_of_ble_eq_true rfl, Nat.le_of_ble_eq_true rfl, Nat.le_of_ble_eq_true rfl, Nat.le_of_ble_eq_true rfl, Nat.le_of_ble_eq_true rfl⟩ ?_
          refine x_getsN (k := 2) dX3_reasonAgainst_50 (by decide +kernel) (by decide) rfl ?_
          refine x_iconst dX3_reasonAgainst_53 ?_
          refine x_sald (k := 2) (1) dX3_reasonAgainst_54 (by decide) rfl (by omega) (show _ < 7 by omega) ?_
          refine x_eqV (b := 9) rfl ?_
          refine x_icmp_lt 60 dX3_reasonAgainst_55 (by decide) h2 (by unfold inr; omega) (fun h_55 => ?_) (fun h_55 => ?_)
          · refine x_iconst dX3_reasonAgainst_60 ?_
            refine hret _ _ _ _ _ _ dX3_reasonAgainst_61 rfl ?_
            exact ⟨rfl, rfl, rfl, by unfold reaR; (repeat split) <;> first | rfl | (simp at *; omega)⟩
          · refine x_iconst dX3_reasonAgainst_58 ?_
            refine hret _ _ _ _ _ _ dX3_reasonAgainst_59 rfl ?_
            exact ⟨rfl, rfl, rfl, by unfold reaR; (repeat split) <;> first | rfl | (simp at *; omega)⟩
      · refine x_aload_n dX3_reasonAgainst_22 rfl ?_
        refine x_iload_n dX3_reasonAgainst_23 rfl ?_
        refine x_iconst dX3_reasonAgainst_24 ?_
        refine xf_VI2 dX3_reasonAgainst_25 ml_RX3_50 vw_X3_fact vv_X3_fact (by rw [hb]; rfl) (sp_fact hb hN f 0 hf rfl (by omega)) ⟨Nat.le_of_ble_eq_true rfl, Nat.le_of_ble_eq_true rfl, Nat.le_of_ble_eq_true rfl, Nat.le_of_ble_eq_true rfl, Nat.le_of_ble_eq_true rfl⟩ ?_
        refine x_getsN (k := 2) dX3_reasonAgainst_28 (by decide +kernel) (by decide) rfl ?_
        refine x_iconst dX3_reasonAgainst_31 ?_
        refine x_sald (k := 2) (0) dX3_reasonAgainst_32 (by decide) rfl (by omega) (show _ < 7 by omega) ?_
        refine x_eqV (b := 50) rfl ?_
        refine x_icmp_lt 38 dX3_reasonAgainst_33 (by decide) h1 (by unfold inr; omega) (fun h_33 => ?_) (fun h_33 => ?_)
        · refine x_iload_n dX3_reasonAgainst_38 rfl ?_
          refine x_bipush dX3_reasonAgainst_39 (by decide) ?_
          refine x_icmp_ne 60 dX3_reasonAgainst_41 (by decide) hk (by unfold inr; omega) (fun h_41 => ?_) (fun h_41 => ?_)
          · refine x_iconst dX3_reasonAgainst_60 ?_
            refine hret _ _ _ _ _ _ dX3_reasonAgainst_61 rfl ?_
            exact ⟨rfl, rfl, rfl, by unfold reaR; (repeat split) <;> first | rfl | (simp at *; omega)⟩
          · refine x_aload_n dX3_reasonAgainst_44 rfl ?_
            refine x_iload_n dX3_reasonAgainst_45 rfl ?_
            refine x_iconst dX3_reasonAgainst_46 ?_
            refine xf_VI2 dX3_reasonAgainst_47 ml_RX3_50 vw_X3_fact vv_X3_fact (by rw [hb]; rfl) (sp_fact hb hN f 1 hf rfl (by omega)) ⟨Nat.le_of_ble_eq_true rfl, Nat.le_of_ble_eq_true rfl, Nat.le_of_ble_eq_true rfl, Nat.le_of_ble_eq_true rfl, Nat.le_of_ble_eq_true rfl⟩ ?_
            refine x_getsN (k := 2) dX3_reasonAgainst_50 (by decide +kernel) (by decide) rfl ?_
            refine x_iconst dX3_reasonAgainst_53 ?_
            refine x_sald (k := 2) (1) dX3_reasonAgainst_54 (by decide) rfl (by omega) (show _ < 7 by omega) ?_
            refine x_eqV (b := 9) rfl ?_
            refine x_icmp_lt 60 dX3_reasonAgainst_55 (by decide) h2 (by unfold inr; omega) (fun h_55 => ?_) (fun h_55 => ?_)
            · refine x_iconst dX3_reasonAgainst_60 ?_
              refine hret _ _ _ _ _ _ dX3_reasonAgainst_61 rfl ?_
              exact ⟨rfl, rfl, rfl, by unfold reaR; (repeat split) <;> first | rfl | (simp at *; omega)⟩
            · refine x_iconst dX3_reasonAgainst_58 ?_
              refine hret _ _ _ _ _ _ dX3_reasonAgainst_59 rfl ?_
              exact ⟨rfl, rfl, rfl, by unfold reaR; (repeat split) <;> first | rfl | (simp at *; omega)⟩
        · refine x_iconst dX3_reasonAgainst_36 ?_
          refine hret _ _ _ _ _ _ dX3_reasonAgainst_37 rfl ?_
          exact ⟨rfl, rfl, rfl, by unfold reaR; (repeat split) <;> first | rfl | (simp at *; omega)⟩
    · refine x_iconst dX3_reasonAgainst_14 ?_
      refine hret _ _ _ _ _ _ dX3_reasonAgainst_15 rfl ?_
      exact ⟨rfl, rfl, rfl, by unfold reaR; (repeat split) <;> first | rfl | (simp at *; omega)⟩
end FR
end
section
/-! ===== hours: how the water goes ===== -/
def lvs (F : Nat → Nat → Int) (l : Int) (f : Nat) : Int := max 0 (l - F f 5)
def tks (F : Nat → Nat → Int) (kn l : Int) (f : Nat) : Int := if F f 4 ≠ 0 ∨ (kn = 2 ∧ F f 3 ≠ 0) then 0 else min (F f 1) (max 0 (lvs F l f - F f 0))
def lva (F : Nat → Nat → Int) (kn l0 : Int) : Nat → Int
  | 0 => l0
  | f + 1 => lvs F (lva F kn l0 f) f - tks F kn (lva F kn l0 f) f
def sto (F : Nat → Nat → Int) (kn l0 : Int) (f : Nat) : Int := lvs F (lva F kn l0 f) f
def tok (F : Nat → Nat → Int) (kn l0 : Int) (f : Nat) : Int := tks F kn (lva F kn l0 f) f
def fwS (I : MM) (b c : Nat) (kn : Int) (n : Nat) : MM := fun a k => if a = c + 1 ∧ k < n then tok (fa I b) kn (l0R I b kn) k else if a = c + 2 ∧ k < n then sto (fa I b) kn (l0R I b kn) k else I a k
def fwJ (I : MM) (b c : Nat) (kn : Int) (n : Nat) : MM := fun a k => if a = c ∧ k = 2 then lva (fa I b) kn (l0R I b kn) n else fwS I b c kn n a k
theorem lva_b {F : Nat → Nat → Int} {kn l0 M : Int} (h0 : 0 ≤ l0 ∧ l0 ≤ M) : ∀ n : Nat, (∀ f, f < n → (0 ≤ F f 0 ∧ 0 ≤ F f 1 ∧ 0 ≤ F f 5)) → 0 ≤ lva F kn l0 n ∧ lva F kn l0 n ≤ M
  | 0, _ => h0
  | n + 1, h => by
    have ih := lva_b (kn := kn) h0 n (fun f hf => h f (by omega))
    have hn := h n (by omega)
    simp only [lva, lvs, tks]
    split <;> omega
theorem tks_t {F : Nat → Nat → Int} {kn l : Int} {f : Nat} (h : ¬ (if F f 4 ≠ 0 ∨ (kn = 2 ∧ F f 3 ≠ 0) then (1 : Int) else 0) = 0) : 0 = tks F kn l f := by
  by_cases hC : F f 4 ≠ 0 ∨ (kn = 2 ∧ F f 3 ≠ 0)
  · unfold tks; rw [if_pos hC]
  · rw [if_neg hC] at h; exact absurd rfl h
theorem tks_f {F : Nat → Nat → Int} {kn l : Int} {f : Nat} (h : (if F f 4 ≠ 0 ∨ (kn = 2 ∧ F f 3 ≠ 0) then (1 : Int) else 0) = 0) : min (F f 1) (max 0 (max 0 (l - F f 5) - F f 0)) = tks F kn l f := by
  by_cases hC : F f 4 ≠ 0 ∨ (kn = 2 ∧ F f 3 ≠ 0)
  · rw [if_pos hC] at h; exact absurd h (by decide)
  · unfold tks; rw [if_neg hC]; rfl
theorem fwS_succ {I : MM} {b c f : Nat} {kn : Int} (hap : b + 4 < c ∨ c + 2 < b) : up (up (fwS I b c kn f) (c + 2) f (max 0 (lva (fa I b) kn (l0R I b kn) f - fa I b f 5))) (c + 1) f (tks (fa I b) kn (lva (fa I b) kn (l0R I b kn) f) f) = fwS I b c kn (f + 1) := by
  funext a k
  simp only [up, fwS]
  by_cases h1 : a = c + 1
  · subst h1
    by_cases h2 : k = f
    · subst h2; simp [tok]
    · have e : (k < f + 1) = (k < f) := by simp; omega
      simp [h2, e]
  · by_cases h3 : a = c + 2
    · subst h3
      by_cases h2 : k = f
      · subst h2; simp [sto, lvs]
      · have e : (k < f + 1) = (k < f) := by simp; omega
        simp [h2, e]
    · simp [h1, h3]
theorem fwS_st {I : MM} {b c f : Nat} {kn v l : Int} (hap : b + 4 < c ∨ c + 2 < b) (hv : v = tks (fa I b) kn l f) (hl : l = lva (fa I b) kn (l0R I b kn) f) : up (up (fwS I b c kn f) (c + 2) f (max 0 (l - fa I b f 5))) (c + 1) f v = fwS I b c kn (f + 1) := by
  subst hl; subst hv; exact fwS_succ hap
theorem lva_st {F : Nat → Nat → Int} {kn l0 v l : Int} {f : Nat} (hv : v = tks F kn l f) (hl : l = lva F kn l0 f) : max 0 (l - F f 5) - v = lva F kn l0 (f + 1) := by
  subst hl; subst hv; rfl
section FR
variable {G : GT} {K : List Nat} {N : NN} {I : MM} {b c : Nat}
theorem RB.l0 {n : Nat} (h : RB I b n) (kn : Int) : 0 ≤ l0R I b kn ∧ l0R I b kn ≤ 149 := by
  obtain ⟨-, -, -, -, h0, h1, h2⟩ := h
  unfold l0R
  split <;> split <;> omega
theorem RB.lv {n : Nat} (h : RB I b n) (kn : Int) (f : Nat) (hf : f ≤ n) : 0 ≤ lva (fa I b) kn (l0R I b kn) f ∧ lva (fa I b) kn (l0R I b kn) f ≤ 149 :=
  lva_b (h.l0 kn) f (fun g hg => by have := h.2.2.2.1 g (by omega); omega)

theorem sp_flow (hb : kd b = 3) (hc : kd c = 2) (hN : NS N) {n : Nat} (hB : RB I b n) {kn : Int} (hk : inr kn) : SpV G mX2_flow 2 44 0 0 [.ref c, .ref b, vi kn] K N I (qV K N (fwJ I b c kn n)) := by
  refine SpV.of (own := RX2) (cc := cX2_flow) (L := [some (.ref c), some (.ref b), some (vi kn), none, none, none]) (by decide) rfl rfl (Nat.le_of_ble_eq_true rfl) rfl (fun Fx hnm hret => ?_)
  have hap := apart_RH hb hc
  have lp : ∀ (m f : Nat) (z l : Int) (J : MM), f ≤ n → n < f + m → z = (f : Int) → l = lva (fa I b) kn (l0R I b kn) f → J = fwS I b c kn f → XX G RX2 cX2_flow (RmW 2 44 0 0) Fx 9 [some (.ref c), some (.ref b), some (vi kn), some (vi l), some (vi z), none] [] K N J 0 0 := by
    intro m
    induction m with
    | zero => intro f z l J h0 h1; exfalso; omega
    | succ m ih =>
      intro f z l J h0 h1 h2 h3 h4
      have hn9 := hB.2.2.1
      have hJ0 : J b 0 = (n : Int) := by rw [h4, ← hB.1]; simp only [fwS]; rw [if_neg (by omega), if_neg (by omega)]
      have hlv := hB.lv kn f h0
      have hfa : ∀ k, fa J b f k = fa I b f k := fun k => fa_congr (fun j => by rw [h4]; simp only [fwS]; rw [if_neg (by omega), if_neg (by omega)])
      have hbf : f < n → _ := hB.2.2.2.1 f
      refine x_iload dX2_flow_9 rfl ?_
      refine x_aload_n dX2_flow_11 rfl ?_
      refine x_getI dX2_flow_12 gf_RX2_24 hb (tg_R0 hb) ?_
      rw [hJ0]
      refine x_icmp_ge 104 dX2_flow_15 (by decide) (by unfold inr; omega) (by unfold inr; omega) (fun h_15 => ?_) (fun h_15 => ?_)
      · obtain rfl : f = n := by omega
        refine x_aload_n dX2_flow_104 rfl ?_
        refine x_iload_n dX2_flow_105 rfl ?_
        refine x_putI dX2_flow_106 pf_RX2_44 hc (tg_H2 hc) ?_
        refine hret _ _ _ _ _ dX2_flow_109 ⟨rfl, rfl, ?_⟩
        rw [h3, h4]
        funext a k
        simp only [up, fwJ]
      · refine x_iconst dX2_flow_18 ?_
        refine x_iload_n dX2_flow_19 rfl ?_
        refine x_aload_n dX2_flow_20 rfl ?_
        refine x_iload dX2_flow_21 rfl ?_
        refine x_iconst dX2_flow_23 ?_
        refine xf_VI2 dX2_flow_24 ml_RX2_28 vw_X3_fact vv_X3_fact (by rw [hb]; rfl) (sp_fact hb hN f 5 h2 rfl (by omega)) ⟨Nat.le_of_ble_eq_true rfl, Nat.le_of_ble_eq_true rfl, Nat.le_of_ble_eq_true rfl, Nat.le_of_ble_eq_true rfl, Nat.le_of_ble_eq_true rfl⟩ ?_
        rw [hfa 5]
        refine x_isub dX2_flow_27 ?_
        refine x_max dX2_flow_28 ml_RX2_32 st_mmax ini_java_lang_Math cd_mmax (by unfold inr; omega) (by unfold inr; omega) ⟨Nat.le_of_ble_eq_true rfl, Nat.le_of_ble_eq_true rfl, Nat.le_of_ble_eq_true rfl, Nat.le_of_ble_eq_true rfl⟩ ?_
        refine x_ist3 dX2_flow_31 ?_
        refine x_iconst dX2_flow_32 ?_
        refine x_iload_n dX2_flow_33 rfl ?_
        refine x_aload_n dX2_flow_34 rfl ?_
        refine x_iload dX2_flow_35 rfl ?_
        refine x_iconst dX2_flow_37 ?_
        refine xf_VI2 dX2_flow_38 ml_RX2_28 vw_X3_fact vv_X3_fact (by rw [hb]; rfl) (sp_fact hb hN f 0 h2 rfl (by omega)) ⟨Nat.le_of_ble_eq_true rfl, Nat.le_of_ble_eq_true rfl, Nat.le_of_ble_eq_true rfl, Nat.le_of_ble_eq_true rfl, Nat.le_of_ble_eq_true rfl⟩ ?_
        rw [hfa 0]
        refine x_isub dX2_flow_41 ?_
        refine x_max dX2_flow_42 ml_RX2_32 st_mmax ini_java_lang_Math cd_mmax (by unfold inr; omega) (by unfold inr; omega) ⟨Nat.le_of_ble_eq_true rfl, Nat.le_of_ble_eq_true rfl, Nat.le_of_ble_eq_true rfl, Nat.le_of_ble_eq_true rfl⟩ ?_
        refine x_ist5 dX2_flow_45 ?_
        refine x_aload_n dX2_flow_47 rfl ?_
        refine x_getR dX2_flow_48 gf_RX2_15 hc (tg_H1 hc) (hN _ _ (ne11_H hc)) ?_
        refine x_iload dX2_flow_51 rfl ?_
        refine x_iload_n dX2_flow_53 rfl ?_
        refine x_iast (f) dX2_flow_54 (kd_H2 hc) h2 (by rw [ln_H2 hc]; omega) ?_
        generalize hJ2 : up J (c + 2) f _ = J2
        have hfa2 : ∀ k, fa J2 b f k = fa I b f k := fun k => by rw [← hJ2, ← hfa k]; exact fa_congr (fun j => up_n1 (by omega))
        refine x_aload_n dX2_flow_55 rfl ?_
        refine x_getR dX2_flow_56 gf_RX2_9 hc (tg_H0 hc) (hN _ _ (ne11_H hc)) ?_
        refine x_iload dX2_flow_59 rfl ?_
        refine x_aload_n dX2_flow_61 rfl ?_
        refine x_iload dX2_flow_62 rfl ?_
        refine x_iload_n dX2_flow_64 rfl ?_
        refine xf_VI2 dX2_flow_65 ml_RX2_37 vw_X3_takesNone vv_X3_takesNone (by rw [hb]; rfl) (sp_takesNone hb hN f h2 (by omega) hk (by rw [hfa2 3]; omega) (by rw [hfa2 4]; omega)) ⟨Nat.le_of_ble_eq_true rfl, Nat.le_of_ble_eq_true rfl, Nat.le_of_ble_eq_true rfl, Nat.le_of_ble_eq_true rfl, Nat.le_of_ble_eq_true rfl⟩ ?_
        rw [hfa2 3, hfa2 4]
        refine x_if_eq 75 dX2_flow_68 (by decide) (by unfold inr; split <;> omega) (fun h_68 => ?_) (fun h_68 => ?_)
        · refine x_aload_n dX2_flow_75 rfl ?_
          refine x_iload dX2_flow_76 rfl ?_
          refine x_iconst dX2_flow_78 ?_
          refine xf_VI2 dX2_flow_79 ml_RX2_28 vw_X3_fact vv_X3_fact (by rw [hb]; rfl) (sp_fact hb hN f 1 h2 rfl (by omega)) ⟨Nat.le_of_ble_eq_true rfl, Nat.le_of_ble_eq_true rfl, Nat.le_of_ble_eq_true rfl, Nat.le_of_ble_eq_true rfl, Nat.le_of_ble_eq_true rfl⟩ ?_
          rw [hfa2 1]
          refine x_iload dX2_flow_82 rfl ?_
          refine x_min dX2_flow_84 ml_RX2_41 st_mmin ini_java_lang_Math cd_mmin (by unfold inr; omega) (by unfold inr; omega) ⟨Nat.le_of_ble_eq_true rfl, Nat.le_of_ble_eq_true rfl, Nat.le_of_ble_eq_true rfl, Nat.le_of_ble_eq_true rfl⟩ ?_
          refine x_iast (f) dX2_flow_87 (kd_H1 hc) h2 (by rw [ln_H1 hc]; omega) ?_
          refine x_iload_n dX2_flow_88 rfl ?_
          refine x_aload_n dX2_flow_89 rfl ?_
          refine x_getR dX2_flow_90 gf_RX2_9 hc (tg_H0 hc) (hN _ _ (ne11_H hc)) ?_
          refine x_iload dX2_flow_93 rfl ?_
          refine x_iald (f) dX2_flow_95 (kd_H1 hc) h2 (by rw [ln_H1 hc]; omega) ?_
          rw [up_s]
          refine x_isub dX2_flow_96 ?_
          refine x_ist3 dX2_flow_97 ?_
          refine x_inc4 dX2_flow_98 ?_
          refine x_goto 9 dX2_flow_101 (by decide) ?_
          first
          | have hv := tks_t (l := l) h_68
          | have hv := tks_f (l := l) h_68
          refine x_dr5 (ih (f + 1) _ _ _ (by omega) (by omega) (by omega) (lva_st hv h3) ?_)
          rw [← hJ2, h4]
          exact fwS_st hap hv h3
        · refine x_iconst dX2_flow_71 ?_
          refine x_goto 87 dX2_flow_72 (by decide) ?_
          refine x_iast (f) dX2_flow_87 (kd_H1 hc) h2 (by rw [ln_H1 hc]; omega) ?_
          refine x_iload_n dX2_flow_88 rfl ?_
          refine x_aload_n dX2_flow_89 rfl ?_
          refine x_getR dX2_flow_90 gf_RX2_9 hc (tg_H0 hc) (hN _ _ (ne11_H hc)) ?_
          refine x_iload dX2_flow_93 rfl ?_
          refine x_iald (f) dX2_flow_95 (kd_H1 hc) h2 (by rw [ln_H1 hc]; omega) ?_
          rw [up_s]
          refine x_isub dX2_flow_96 ?_
          refine x_ist3 dX2_flow_97 ?_
          refine x_inc4 dX2_flow_98 ?_
          refine x_goto 9 dX2_flow_101 (by decide) ?_
          first
          | have hv := tks_t (l := l) h_68
          | have hv := tks_f (l := l) h_68
          refine x_dr5 (ih (f + 1) _ _ _ (by omega) (by omega) (by omega) (lva_st hv h3) ?_)
          rw [← hJ2, h4]
          exact fwS_st hap hv h3
  refine x_aload_n dX2_flow_0 rfl ?_
  refine x_iload_n dX2_flow_1 rfl ?_
  refine xf_VI1 dX2_flow_2 ml_RX2_18 vw_X3_levelAtSpring vv_X3_levelAtSpring (by rw [hb]; rfl) (sp_level hb hN hk hB.2.2.2.2.1 hB.2.2.2.2.2.1 hB.2.2.2.2.2.2) ⟨Nat.le_of_ble_eq_true rfl, Nat.le_of_ble_eq_true rfl, Nat.le_of_ble_eq_true rfl, Nat.le_of_ble_eq_true rfl, Nat.le_of_ble_eq_true rfl⟩ ?_
  refine x_ist3 dX2_flow_5 ?_
  refine x_iconst dX2_flow_6 ?_
  refine x_ist4 dX2_flow_7 ?_
  exact lp (n + 1) 0 _ _ _ (by omega) (by omega) rfl rfl (by funext a k; simp [fwS])
end FR
end
section
/-! ===== rows and hours: the rest ===== -/
def sumN (g : Nat → Int) : Nat → Int
  | 0 => 0
  | n + 1 => sumN g n + g n
def anyZ (g : Nat → Int) : Nat → Int
  | 0 => 0
  | n + 1 => if anyZ g n = 1 ∨ g n = 0 then 1 else 0
theorem anyZ_up {g : Nat → Int} {f : Nat} (h : anyZ g f = 1) : ∀ d, anyZ g (f + d) = 1
  | 0 => h
  | d + 1 => if_pos (Or.inl (anyZ_up h d))
def keJ (I : MM) (b c n : Nat) : MM := fun a k => if a = b ∧ k = 1 then I b 1 + I c 2 else if a = b + 1 ∧ k % 7 = 6 ∧ k / 7 < n then I a k + I (c + 1) (k / 7) else I a k
def keS (I : MM) (b c n : Nat) : MM := fun a k => if a = b + 1 ∧ k % 7 = 6 ∧ k / 7 < n then I a k + I (c + 1) (k / 7) else I a k
def apJ (I : MM) (b f : Nat) (a : Int) : MM := if a = 4 then up I (b + 1) (7 * f + 4) (1 - fa I b f 4) else if a = 5 then up I (b + 1) (7 * f + 0) (fa I b f 0 - 1) else if a = 6 then up I (b + 1) (7 * f + 0) (fa I b f 0 + 1) else if a = 7 then up I (b + 1) (7 * f + 1) (fa I b f 1 + 1) else I
def cpR (I : MM) (s d : Nat) : MM := fun a k => if a = d ∧ k < 3 then I s k else if a = d + 1 ∧ k < 63 then I (s + 1) k else if a = d + 2 ∧ k < 3 then I (s + 2) k else if a = d + 3 ∧ k < 8 then I (s + 3) k else if a = d + 4 ∧ k < 8 then I (s + 4) k else I a k
def fst7 (j : Nat) : Int := if j = 1 then 1 else if j = 2 then 5 else 0
def beJ (I : MM) (b : Nat) (n : Int) : MM := fun a k => if a = b ∧ k = 0 then n else if a = b ∧ (k = 1 ∨ k = 2) then 0 else if a = b + 1 ∧ k < 63 then fst7 (k % 7) else I a k
def beS (I : MM) (b : Nat) (n : Int) (f : Nat) : MM := fun a k => if a = b ∧ k = 0 then n else if a = b ∧ (k = 1 ∨ k = 2) then 0 else if a = b + 1 ∧ k < 7 * f then fst7 (k % 7) else I a k
theorem keS_st {I : MM} {b c f : Nat} (hap : b + 4 < c ∨ c + 2 < b) (hf : f < 9) : up (keS I b c f) (b + 1) (7 * f + 6) (fa I b f 6 + I (c + 1) f) = keS I b c (f + 1) := by
  rw [fa_at ⟨hf, by decide⟩]
  funext a k
  simp only [up, keS]
  by_cases h1 : a = b + 1
  · subst h1
    by_cases h2 : k = 7 * f + 6
    · subst h2
      have e1 : (7 * f + 6) / 7 = f := by omega
      have e2 : (7 * f + 6) % 7 = 6 := by omega
      simp [e1, e2]
    · by_cases h3 : k % 7 = 6 ∧ k / 7 < f
      · have h4 : k / 7 < f + 1 := by omega
        simp [h2, h3, h4]
      · have h4 : ¬ (k % 7 = 6 ∧ k / 7 < f + 1) := by omega
        simp [h2, h3, h4]
  · simp [h1]
theorem cpR_st {I : MM} {s d : Nat} (hap : s + 4 < d ∨ d + 4 < s) : cpI (cpI (cpI (cpI (up (up (up I d 0 (I s 0)) d 1 (I s 1)) d 2 (I s 2)) (s + 1) 0 (d + 1) 0 63) (s + 2) 0 (d + 2) 0 3) (s + 3) 0 (d + 3) 0 8) (s + 4) 0 (d + 4) 0 8 = cpR I s d := by
  funext a k
  have e : ∀ j : Nat, j ≤ 4 → ∀ i : Nat, i ≤ 4 → s + j ≠ d + i := fun j h i h2 => by omega
  by_cases h0 : a = d
  · subst h0
    rcases (by omega : k = 0 ∨ k = 1 ∨ k = 2 ∨ 2 < k) with rfl | rfl | rfl | h
    · simp [cpI, up, cpR]
    · simp [cpI, up, cpR]
    · simp [cpI, up, cpR]
    · have h1 : ¬ k < 3 := by omega
      have h2 : k ≠ 0 := by omega
      have h3 : k ≠ 1 := by omega
      have h4 : k ≠ 2 := by omega
      simp [cpI, up, cpR, h1, h2, h3, h4]
  · have g0 : s ≠ d := by omega
    have g1 : s + 1 ≠ d := by omega
    have g2 : s + 2 ≠ d := by omega
    have g3 : s + 3 ≠ d := by omega
    have g4 : s + 4 ≠ d := by omega
    by_cases h1 : a = d + 1
    · subst h1
      simp [cpI, up, cpR, g1]
    · by_cases h2 : a = d + 2
      · subst h2
        have f1 : s + 2 ≠ d + 1 := by omega
        simp [cpI, up, cpR, g2, f1]
      · by_cases h3 : a = d + 3
        · subst h3
          have f1 : s + 3 ≠ d + 1 := by omega
          have f2 : s + 3 ≠ d + 2 := by omega
          simp [cpI, up, cpR, g3, f1, f2]
        · by_cases h4 : a = d + 4
          · subst h4
            have f1 : s + 4 ≠ d + 1 := by omega
            have f2 : s + 4 ≠ d + 2 := by omega
            have f3 : s + 4 ≠ d + 3 := by omega
            simp [cpI, up, cpR, g4, f1, f2, f3]
          · simp [cpI, up, cpR, h0, h1, h2, h3, h4]
theorem beS_st {I : MM} {b f : Nat} {n : Int} : (fun a k => if a = b + 1 ∧ 7 * f ≤ k ∧ k < 7 * f + 7 then (stl 1).getD (0 + (k - 7 * f)) 0 else beS I b n f a k : MM) = beS I b n (f + 1) := by
  funext a k
  simp only [beS]
  by_cases h1 : a = b + 1
  · subst h1
    by_cases h2 : 7 * f ≤ k ∧ k < 7 * f + 7
    · have e : k % 7 = k - 7 * f := by omega
      have h3 : k < 7 * (f + 1) := by omega
      simp only [h2, h3, e, and_self, if_true]
      have : k - 7 * f < 7 := by omega
      have key : ∀ j, j < 7 → (stl 1).getD (0 + j) 0 = fst7 j := by decide
      rw [key _ this]
      simp
    · by_cases h3 : k < 7 * f
      · have h4 : k < 7 * (f + 1) := by omega
        simp [h2, h3, h4]
      · have h4 : ¬ k < 7 * (f + 1) := by omega
        simp [h2, h3, h4]
  · simp [h1]
section FR
variable {G : GT} {K : List Nat} {N : NN} {I : MM} {b c d s : Nat}
theorem sp_sum (hc : kd c = 2) (hN : NS N) {n : Nat} {zn : Int} (hn : zn = (n : Int)) (h9 : n ≤ 9) : SpI G mX2_sum .int 0 0 0 0 [.ref c, vi zn] K N I (qI K N I (sumN (I (c + 1)) n)) := by
  refine SpI.of (own := RX2) (cc := cX2_sum) (L := [some (.ref c), some (vi zn), none, none]) (by decide) rfl rfl (Nat.le_of_ble_eq_true rfl) rfl (fun Fx hnm hret => ?_)
  have lp : ∀ (m : Nat) (f : Nat) (z l : Int), f ≤ n → n < f + m → z = (f : Int) → l = sumN (I (c + 1)) f → XX G RX2 cX2_sum (RmW 0 0 0 0) Fx 4 [some (.ref c), some (vi zn), some (vi l), some (vi z)] [] K N I 0 0 := by
    intro m
    induction m with
    | zero => intros; exfalso; omega
    | succ m ih =>
      intro f z l h0 h1 h2 h3
      refine x_iload_n dX2_sum_4 rfl ?_
      refine x_iload_n dX2_sum_5 rfl ?_
      refine x_icmp_ge 24 dX2_sum_6 (by decide) (by unfold inr; omega) (by unfold inr; omega) (fun h_6 => ?_) (fun h_6 => ?_)
      · refine x_iload_n dX2_sum_24 rfl ?_
        refine hret _ _ _ _ _ _ dX2_sum_25 rfl ?_
        obtain rfl : f = n := by omega
        exact ⟨rfl, rfl, rfl, h3⟩
      · refine x_iload_n dX2_sum_9 rfl ?_
        refine x_aload_n dX2_sum_10 rfl ?_
        refine x_getR dX2_sum_11 gf_RX2_9 hc (tg_H0 hc) (hN _ _ (ne11_H hc)) ?_
        refine x_iload_n dX2_sum_14 rfl ?_
        refine x_iald (f) dX2_sum_15 (kd_H1 hc) h2 (by rw [ln_H1 hc]; omega) ?_
        refine x_iadd dX2_sum_16 ?_
        refine x_ist2 dX2_sum_17 ?_
        refine x_inc3 dX2_sum_18 ?_
        refine x_goto 4 dX2_sum_21 (by decide) ?_
        exact ih (f + 1) _ _ (by omega) (by omega) (by omega) (by rw [h3]; rfl)
  refine x_iconst dX2_sum_0 ?_
  refine x_ist2 dX2_sum_1 ?_
  refine x_iconst dX2_sum_2 ?_
  refine x_ist3 dX2_sum_3 ?_
  exact lp (n + 1) 0 _ _ (by omega) (by omega) rfl rfl
theorem sp_some (hc : kd c = 2) (hN : NS N) {n : Nat} {zn : Int} (hn : zn = (n : Int)) (h9 : n ≤ 9) (hr : ∀ k, k < n → inr (I (c + 1) k)) : SpI G mX2_someTookNothing .boolean 0 0 0 0 [.ref c, vi zn] K N I (qI K N I (anyZ (I (c + 1)) n)) := by
  refine SpI.of (own := RX2) (cc := cX2_someTookNothing) (L := [some (.ref c), some (vi zn), none]) (by decide) rfl rfl (Nat.le_of_ble_eq_true rfl) rfl (fun Fx hnm hret => ?_)
  have lp : ∀ (m : Nat) (f : Nat) (z : Int), f ≤ n → n < f + m → z = (f : Int) → anyZ (I (c + 1)) f = 0 → XX G RX2 cX2_someTookNothing (RmW 0 0 0 0) Fx 2 [some (.ref c), some (vi zn), some (vi z)] [] K N I 0 0 := by
    intro m
    induction m with
    | zero => intros; exfalso; omega
    | succ m ih =>
      intro f z h0 h1 h2 h3
      refine x_iload_n dX2_someTookNothing_2 rfl ?_
      refine x_iload_n dX2_someTookNothing_3 rfl ?_
      refine x_icmp_ge 24 dX2_someTookNothing_4 (by decide) (by unfold inr; omega) (by unfold inr; omega) (fun h_4 => ?_) (fun h_4 => ?_)
      · refine x_iconst dX2_someTookNothing_24 ?_
        refine hret _ _ _ _ _ _ dX2_someTookNothing_25 rfl ?_
        obtain rfl : f = n := by omega
        exact ⟨rfl, rfl, rfl, h3.symm⟩
      · refine x_aload_n dX2_someTookNothing_7 rfl ?_
        refine x_getR dX2_someTookNothing_8 gf_RX2_9 hc (tg_H0 hc) (hN _ _ (ne11_H hc)) ?_
        refine x_iload_n dX2_someTookNothing_11 rfl ?_
        refine x_iald (f) dX2_someTookNothing_12 (kd_H1 hc) h2 (by rw [ln_H1 hc]; omega) ?_
        refine x_if_ne 18 dX2_someTookNothing_13 (by decide) (hr f (by omega)) (fun h_13 => ?_) (fun h_13 => ?_)
        · refine x_inc2 dX2_someTookNothing_18 ?_
          refine x_goto 2 dX2_someTookNothing_21 (by decide) ?_
          exact ih (f + 1) _ (by omega) (by omega) (by omega) (by show (if _ then _ else _) = _; rw [if_neg (by rintro (q | q) <;> omega)])
        · refine x_iconst dX2_someTookNothing_16 ?_
          refine hret _ _ _ _ _ _ dX2_someTookNothing_17 rfl ?_
          have e : anyZ (I (c + 1)) (f + 1) = 1 := by show (if _ then _ else _) = _; rw [if_pos (Or.inr h_13)]
          obtain ⟨q, rfl⟩ : ∃ q, n = (f + 1) + q := ⟨n - (f + 1), by omega⟩
          exact ⟨rfl, rfl, rfl, (anyZ_up e q).symm⟩
  refine x_iconst dX2_someTookNothing_0 ?_
  refine x_ist2 dX2_someTookNothing_1 ?_
  exact lp (n + 1) 0 _ (by omega) (by omega) rfl rfl
theorem sp_keep (hb : kd b = 3) (hc : kd c = 2) (hN : NS N) {n : Nat} (hn : I b 0 = (n : Int)) (h9 : n ≤ 9) : SpV G mX3_keep 1 23 0 0 [.ref b, .ref c] K N I (qV K N (keJ I b c n)) := by
  refine SpV.of (own := RX3) (cc := cX3_keep) (L := [some (.ref b), some (.ref c), none]) (by decide) rfl rfl (Nat.le_of_ble_eq_true rfl) rfl (fun Fx hnm hret => ?_)
  have hap := apart_RH hb hc
  have lp : ∀ (m : Nat) (f : Nat) (z : Int) (J : MM), f ≤ n → n < f + m → z = (f : Int) → J = keS I b c f → XX G RX3 cX3_keep (RmW 1 23 0 0) Fx 2 [some (.ref b), some (.ref c), some (vi z)] [] K N J 0 0 := by
    intro m
    induction m with
    | zero => intros; exfalso; omega
    | succ m ih =>
      intro f z J h0 h1 h2 h3
      have hJ0 : J b 0 = (n : Int) := by rw [h3, ← hn]; simp only [keS]; rw [if_neg (by omega)]
      have hJ6 : fa J b f 6 = fa I b f 6 := by rw [h3]; unfold fa keS; split <;> first | rfl | rw [if_neg (by omega)]
      have hJt : J (c + 1) f = I (c + 1) f := by rw [h3]; simp only [keS]; rw [if_neg (by omega)]
      refine x_iload_n dX3_keep_2 rfl ?_
      refine x_aload_n dX3_keep_3 rfl ?_
      refine x_getI dX3_keep_4 gf_RX3_37 hb (tg_R0 hb) ?_
      rw [hJ0]
      refine x_icmp_ge 37 dX3_keep_7 (by decide) (by unfold inr; omega) (by unfold inr; omega) (fun h_7 => ?_) (fun h_7 => ?_)
      · refine x_aload_n dX3_keep_37 rfl ?_
        refine x_dupR dX3_keep_38 ?_
        refine x_getI dX3_keep_39 gf_RX3_41 hb (tg_R1 hb) ?_
        refine x_aload_n dX3_keep_42 rfl ?_
        refine x_getI dX3_keep_43 gf_RX3_78 hc (tg_H2 hc) ?_
        refine x_iadd dX3_keep_46 ?_
        refine x_putI dX3_keep_47 pf_RX3_41 hb (tg_R1 hb) ?_
        refine hret _ _ _ _ _ dX3_keep_50 ?_
        obtain rfl : f = n := by omega
        refine ⟨rfl, rfl, ?_⟩
        rw [h3]
        funext a k
        simp only [up, keJ, keS]
        have g1 : ¬ (b = b + 1) := by omega
        have g2 : ¬ (c = b + 1) := by omega
        simp only [g1, g2, false_and, if_false]
      · refine x_aload_n dX3_keep_10 rfl ?_
        refine x_iload_n dX3_keep_11 rfl ?_
        refine x_bipush dX3_keep_12 (by decide) ?_
        refine x_aload_n dX3_keep_14 rfl ?_
        refine x_iload_n dX3_keep_15 rfl ?_
        refine x_bipush dX3_keep_16 (by decide) ?_
        refine xf_VI2 dX3_keep_18 ml_RX3_50 vw_X3_fact vv_X3_fact (by rw [hb]; rfl) (sp_fact hb hN f 6 h2 rfl (by omega)) ⟨Nat.le_of_ble_eq_true rfl, Nat.le_of_ble_eq_true rfl, Nat.le_of_ble_eq_true rfl, Nat.le_of_ble_eq_true rfl, Nat.le_of_ble_eq_true rfl⟩ ?_
        rw [hJ6]
        refine x_aload_n dX3_keep_21 rfl ?_
        refine x_getR dX3_keep_22 gf_RX3_73 hc (tg_H0 hc) (hN _ _ (ne11_H hc)) ?_
        refine x_iload_n dX3_keep_25 rfl ?_
        refine x_iald (f) dX3_keep_26 (kd_H1 hc) h2 (by rw [ln_H1 hc]; omega) ?_
        rw [hJt]
        refine x_iadd dX3_keep_27 ?_
        refine xf_VV3 dX3_keep_28 ml_RX3_54 vw_X3_put vv_X3_put (by rw [hb]; rfl) (sp_put hb hN f 6 h2 rfl (by omega)) ⟨Nat.le_of_ble_eq_true rfl, Nat.le_of_ble_eq_true rfl, Nat.le_of_ble_eq_true rfl, Nat.le_of_ble_eq_true rfl, Nat.le_of_ble_eq_true rfl⟩ ?_
        refine x_inc2 dX3_keep_31 ?_
        refine x_goto 2 dX3_keep_34 (by decide) ?_
        exact ih (f + 1) _ _ (by omega) (by omega) (by omega) (by rw [h3]; exact keS_st hap (by omega))
  refine x_iconst dX3_keep_0 ?_
  refine x_ist2 dX3_keep_1 ?_
  exact lp (n + 1) 0 _ _ (by omega) (by omega) rfl (by funext a k; simp [keS])
theorem sp_apply (hb : kd b = 3) (hN : NS N) (f : Nat) {zf a : Int} (hf : zf = (f : Int)) (hl : f < 9) (ha : inr a) : SpV G mX3_apply 2 44 0 0 [.ref b, vi a, vi zf] K N I (qV K N (apJ I b f a)) := by
  refine SpV.of (own := RX3) (cc := cX3_apply) (L := [some (.ref b), some (vi a), some (vi zf)]) (by decide) rfl rfl (Nat.le_of_ble_eq_true rfl) rfl (fun Fx hnm hret => ?_)
  refine x_iload_n dX3_apply_0 rfl ?_
  rcases (show (a < 4 ∨ 7 < a) ∨ a = 4 ∨ a = 5 ∨ a = 6 ∨ a = 7 by omega) with h_1 | h_1 | h_1 | h_1 | h_1
  · refine x_tabOut 91 dX3_apply_1 ha h_1 (by decide) ?_
    refine hret _ _ _ _ _ dX3_apply_91 ?_
    refine ⟨rfl, rfl, ?_⟩
    unfold apJ
    repeat (first | rw [if_pos (by omega)] | rw [if_neg (by omega)])
  · refine x_tabIn 32 dX3_apply_1 ha (by omega) (by rw [h_1]; rfl) (by decide) ?_
    refine x_aload_n dX3_apply_32 rfl ?_
    refine x_iload_n dX3_apply_33 rfl ?_
    refine xf_VV1 dX3_apply_34 ml_RX3_70 vw_X3_turnPlug vv_X3_turnPlug (by rw [hb]; rfl) (sp_turnPlug hb hN f hf hl) ⟨Nat.le_of_ble_eq_true rfl, Nat.le_of_ble_eq_true rfl, Nat.le_of_ble_eq_true rfl, Nat.le_of_ble_eq_true rfl, Nat.le_of_ble_eq_true rfl⟩ ?_
    refine x_goto 91 dX3_apply_37 (by decide) ?_
    refine hret _ _ _ _ _ dX3_apply_91 ?_
    refine ⟨rfl, rfl, ?_⟩
    unfold apJ
    repeat (first | rw [if_pos (by omega)] | rw [if_neg (by omega)])
  · refine x_tabIn 40 dX3_apply_1 ha (by omega) (by rw [h_1]; rfl) (by decide) ?_
    refine x_aload_n dX3_apply_40 rfl ?_
    refine x_iload_n dX3_apply_41 rfl ?_
    refine x_iconst dX3_apply_42 ?_
    refine x_aload_n dX3_apply_43 rfl ?_
    refine x_iload_n dX3_apply_44 rfl ?_
    refine x_iconst dX3_apply_45 ?_
    refine xf_VI2 dX3_apply_46 ml_RX3_50 vw_X3_fact vv_X3_fact (by rw [hb]; rfl) (sp_fact hb hN f 0 hf rfl (by omega)) ⟨Nat.le_of_ble_eq_true rfl, Nat.le_of_ble_eq_true rfl, Nat.le_of_ble_eq_true rfl, Nat.le_of_ble_eq_true rfl, Nat.le_of_ble_eq_true rfl⟩ ?_
    refine x_iconst dX3_apply_49 ?_
    refine x_isub dX3_apply_50 ?_
    refine xf_VV3 dX3_apply_51 ml_RX3_54 vw_X3_put vv_X3_put (by rw [hb]; rfl) (sp_put hb hN f 0 hf rfl (by omega)) ⟨Nat.le_of_ble_eq_true rfl, Nat.le_of_ble_eq_true rfl, Nat.le_of_ble_eq_true rfl, Nat.le_of_ble_eq_true rfl, Nat.le_of_ble_eq_true rfl⟩ ?_
    refine x_goto 91 dX3_apply_54 (by decide) ?_
    refine hret _ _ _ _ _ dX3_apply_91 ?_
    refine ⟨rfl, rfl, ?_⟩
    unfold apJ
    repeat (first | rw [if_pos (by omega)] | rw [if_neg (by omega)])
  · refine x_tabIn 57 dX3_apply_1 ha (by omega) (by rw [h_1]; rfl) (by decide) ?_
    refine x_aload_n dX3_apply_57 rfl ?_
    refine x_iload_n dX3_apply_58 rfl ?_
    refine x_iconst dX3_apply_59 ?_
    refine x_aload_n dX3_apply_60 rfl ?_
    refine x_iload_n dX3_apply_61 rfl ?_
    refine x_iconst dX3_apply_62 ?_
    refine xf_VI2 dX3_apply_63 ml_RX3_50 vw_X3_fact vv_X3_fact (by rw [hb]; rfl) (sp_fact hb hN f 0 hf rfl (by omega)) ⟨Nat.le_of_ble_eq_true rfl, Nat.le_of_ble_eq_true rfl, Nat.le_of_ble_eq_true rfl, Nat.le_of_ble_eq_true rfl, Nat.le_of_ble_eq_true rfl⟩ ?_
    refine x_iconst dX3_apply_66 ?_
    refine x_iadd dX3_apply_67 ?_
    refine xf_VV3 dX3_apply_68 ml_RX3_54 vw_X3_put vv_X3_put (by rw [hb]; rfl) (sp_put hb hN f 0 hf rfl (by omega)) ⟨Nat.le_of_ble_eq_true rfl, Nat.le_of_ble_eq_true rfl, Nat.le_of_ble_eq_true rfl, Nat.le_of_ble_eq_true rfl, Nat.le_of_ble_eq_true rfl⟩ ?_
    refine x_goto 91 dX3_apply_71 (by decide) ?_
    refine hret _ _ _ _ _ dX3_apply_91 ?_
    refine ⟨rfl, rfl, ?_⟩
    unfold apJ
    repeat (first | rw [if_pos (by omega)] | rw [if_neg (by omega)])
  · refine x_tabIn 74 dX3_apply_1 ha (by omega) (by rw [h_1]; rfl) (by decide) ?_
    refine x_aload_n dX3_apply_74 rfl ?_
    refine x_iload_n dX3_apply_75 rfl ?_
    refine x_iconst dX3_apply_76 ?_
    refine x_aload_n dX3_apply_77 rfl ?_
    refine x_iload_n dX3_apply_78 rfl ?_
    refine x_iconst dX3_apply_79 ?_
    refine xf_VI2 dX3_apply_80 ml_RX3_50 vw_X3_fact vv_X3_fact (by rw [hb]; rfl) (sp_fact hb hN f 1 hf rfl (by omega)) ⟨Nat.le_of_ble_eq_true rfl, Nat.le_of_ble_eq_true rfl, Nat.le_of_ble_eq_true rfl, Nat.le_of_ble_eq_true rfl, Nat.le_of_ble_eq_true rfl⟩ ?_
    refine x_iconst dX3_apply_83 ?_
    refine x_iadd dX3_apply_84 ?_
    refine xf_VV3 dX3_apply_85 ml_RX3_54 vw_X3_put vv_X3_put (by rw [hb]; rfl) (sp_put hb hN f 1 hf rfl (by omega)) ⟨Nat.le_of_ble_eq_true rfl, Nat.le_of_ble_eq_true rfl, Nat.le_of_ble_eq_true rfl, Nat.le_of_ble_eq_true rfl, Nat.le_of_ble_eq_true rfl⟩ ?_
    refine x_goto 91 dX3_apply_88 (by decide) ?_
    refine hret _ _ _ _ _ dX3_apply_91 ?_
    refine ⟨rfl, rfl, ?_⟩
    unfold apJ
    repeat (first | rw [if_pos (by omega)] | rw [if_neg (by omega)])
theorem sp_copy (hd : kd d = 3) (hs : kd s = 3) (hne : s ≠ d) (hN : NS N) : SpV G mX3_copy 1 26 0 0 [.ref d, .ref s] K N I (qV K N (cpR I s d)) := by
  refine SpV.of (own := RX3) (cc := cX3_copy) (L := [some (.ref d), some (.ref s)]) (by decide) rfl rfl (Nat.le_of_ble_eq_true rfl) rfl (fun Fx hnm hret => ?_)
  have hap := apart_RR hs hd hne
  refine x_aload_n dX3_copy_0 rfl ?_
  refine x_aload_n dX3_copy_1 rfl ?_
  refine x_getI dX3_copy_2 gf_RX3_37 hs (tg_R0 hs) ?_
  refine x_putI dX3_copy_5 pf_RX3_37 hd (tg_R0 hd) ?_
  refine x_aload_n dX3_copy_8 rfl ?_
  refine x_aload_n dX3_copy_9 rfl ?_
  refine x_getI dX3_copy_10 gf_RX3_41 hs (tg_R1 hs) ?_
  rw [up_n1 (show s ≠ d by omega)]
  refine x_putI dX3_copy_13 pf_RX3_41 hd (tg_R1 hd) ?_
  refine x_aload_n dX3_copy_16 rfl ?_
  refine x_aload_n dX3_copy_17 rfl ?_
  refine x_getI dX3_copy_18 gf_RX3_44 hs (tg_R2 hs) ?_
  rw [up_n1 (show s ≠ d by omega), up_n1 (show s ≠ d by omega)]
  refine x_putI dX3_copy_21 pf_RX3_44 hd (tg_R2 hd) ?_
  refine x_aload_n dX3_copy_24 rfl ?_
  refine x_getR dX3_copy_25 gf_RX3_9 hs (tg_R3 hs) (hN _ _ (ne11_R hs)) ?_
  refine x_iconst dX3_copy_28 ?_
  refine x_aload_n dX3_copy_29 rfl ?_
  refine x_getR dX3_copy_30 gf_RX3_9 hd (tg_R3 hd) (hN _ _ (ne11_R hd)) ?_
  refine x_iconst dX3_copy_33 ?_
  refine x_aload_n dX3_copy_34 rfl ?_
  refine x_getR dX3_copy_35 gf_RX3_9 hd (tg_R3 hd) (hN _ _ (ne11_R hd)) ?_
  refine x_alen dX3_copy_38 (kd_R1 hd) ?_
  refine x_eqV (b := 63) (by rw [ln_R1 hd]; rfl) ?_
  refine x_acpy (0) (0) (63) dX3_copy_39 ml_RX3_27 na_acpy st_acpy ini_java_lang_System (kd_R1 hs) (kd_R1 hd) (by omega) (by omega) (by omega) (by rw [ln_R1 hs]; omega) (by rw [ln_R1 hd]; omega) ⟨Nat.le_of_ble_eq_true rfl, Nat.le_of_ble_eq_true rfl⟩ ?_
  refine x_aload_n dX3_copy_42 rfl ?_
  refine x_getR dX3_copy_43 gf_RX3_15 hs (tg_R4 hs) (hN _ _ (ne11_R hs)) ?_
  refine x_iconst dX3_copy_46 ?_
  refine x_aload_n dX3_copy_47 rfl ?_
  refine x_getR dX3_copy_48 gf_RX3_15 hd (tg_R4 hd) (hN _ _ (ne11_R hd)) ?_
  refine x_iconst dX3_copy_51 ?_
  refine x_iconst dX3_copy_52 ?_
  refine x_acpy (0) (0) (3) dX3_copy_53 ml_RX3_27 na_acpy st_acpy ini_java_lang_System (kd_R2 hs) (kd_R2 hd) (by omega) (by omega) (by omega) (by rw [ln_R2 hs]; omega) (by rw [ln_R2 hd]; omega) ⟨Nat.le_of_ble_eq_true rfl, Nat.le_of_ble_eq_true rfl⟩ ?_
  refine x_aload_n dX3_copy_56 rfl ?_
  refine x_getR dX3_copy_57 gf_RX3_18 hs (tg_R5 hs) (hN _ _ (ne11_R hs)) ?_
  refine x_iconst dX3_copy_60 ?_
  refine x_aload_n dX3_copy_61 rfl ?_
  refine x_getR dX3_copy_62 gf_RX3_18 hd (tg_R5 hd) (hN _ _ (ne11_R hd)) ?_
  refine x_iconst dX3_copy_65 ?_
  refine x_bipush dX3_copy_66 (by decide) ?_
  refine x_acpy (0) (0) (8) dX3_copy_68 ml_RX3_27 na_acpy st_acpy ini_java_lang_System (kd_R3 hs) (kd_R3 hd) (by omega) (by omega) (by omega) (by rw [ln_R3 hs]; omega) (by rw [ln_R3 hd]; omega) ⟨Nat.le_of_ble_eq_true rfl, Nat.le_of_ble_eq_true rfl⟩ ?_
  refine x_aload_n dX3_copy_71 rfl ?_
  refine x_getR dX3_copy_72 gf_RX3_21 hs (tg_R6 hs) (hN _ _ (ne11_R hs)) ?_
  refine x_iconst dX3_copy_75 ?_
  refine x_aload_n dX3_copy_76 rfl ?_
  refine x_getR dX3_copy_77 gf_RX3_21 hd (tg_R6 hd) (hN _ _ (ne11_R hd)) ?_
  refine x_iconst dX3_copy_80 ?_
  refine x_bipush dX3_copy_81 (by decide) ?_
  refine x_acpy (0) (0) (8) dX3_copy_83 ml_RX3_27 na_acpy st_acpy ini_java_lang_System (kd_R4 hs) (kd_R4 hd) (by omega) (by omega) (by omega) (by rw [ln_R4 hs]; omega) (by rw [ln_R4 hd]; omega) ⟨Nat.le_of_ble_eq_true rfl, Nat.le_of_ble_eq_true rfl⟩ ?_
  refine hret _ _ _ _ _ dX3_copy_86 ?_
  exact ⟨rfl, rfl, cpR_st hap⟩
theorem sp_begin (hb : kd b = 3) (hN : NS N) {n : Int} : SpV G mX3_begin 1 26 0 0 [.ref b, vi n] K N I (qV K N (beJ I b n)) := by
  refine SpV.of (own := RX3) (cc := cX3_begin) (L := [some (.ref b), some (vi n), none]) (by decide) rfl rfl (Nat.le_of_ble_eq_true rfl) rfl (fun Fx hnm hret => ?_)
  have lp : ∀ (m : Nat) (f : Nat) (z : Int) (J : MM), f ≤ 9 → 9 < f + m → z = (f : Int) → J = beS I b n f → XX G RX3 cX3_begin (RmW 1 26 0 0) Fx 17 [some (.ref b), some (vi n), some (vi z)] [] K N J 0 0 := by
    intro m
    induction m with
    | zero => intros; exfalso; omega
    | succ m ih =>
      intro f z J h0 h1 h2 h3
      refine x_iload_n dX3_begin_17 rfl ?_
      refine x_bipush dX3_begin_18 (by decide) ?_
      refine x_icmp_ge 46 dX3_begin_20 (by decide) (by unfold inr; omega) (by unfold inr; omega) (fun h_20 => ?_) (fun h_20 => ?_)
      · refine hret _ _ _ _ _ dX3_begin_46 ?_
        obtain rfl : f = 9 := by omega
        exact ⟨rfl, rfl, h3⟩
      · refine x_getsN (k := 1) dX3_begin_23 (by decide +kernel) (by decide) rfl ?_
        refine x_iconst dX3_begin_26 ?_
        refine x_aload_n dX3_begin_27 rfl ?_
        refine x_getR dX3_begin_28 gf_RX3_9 hb (tg_R3 hb) (hN _ _ (ne11_R hb)) ?_
        refine x_iload_n dX3_begin_31 rfl ?_
        refine x_bipush dX3_begin_32 (by decide) ?_
        refine x_imul dX3_begin_34 ?_
        refine x_bipush dX3_begin_35 (by decide) ?_
        refine x_acpyS (k := 1) (0) (7 * f) (7) dX3_begin_37 ml_RX3_27 na_acpy st_acpy ini_java_lang_System (by decide) rfl (kd_R1 hb) (by omega) (by omega) (by omega) (by decide) (by rw [ln_R1 hb]; omega) ⟨Nat.le_of_ble_eq_true rfl, Nat.le_of_ble_eq_true rfl⟩ ?_
        refine x_inc2 dX3_begin_40 ?_
        refine x_goto 17 dX3_begin_43 (by decide) ?_
        exact ih (f + 1) _ _ (by omega) (by omega) (by omega) (by rw [h3]; exact beS_st)
  refine x_aload_n dX3_begin_0 rfl ?_
  refine x_iload_n dX3_begin_1 rfl ?_
  refine x_putI dX3_begin_2 pf_RX3_37 hb (tg_R0 hb) ?_
  refine x_aload_n dX3_begin_5 rfl ?_
  refine x_iconst dX3_begin_6 ?_
  refine x_putI dX3_begin_7 pf_RX3_41 hb (tg_R1 hb) ?_
  refine x_aload_n dX3_begin_10 rfl ?_
  refine x_iconst dX3_begin_11 ?_
  refine x_putI dX3_begin_12 pf_RX3_44 hb (tg_R2 hb) ?_
  refine x_iconst dX3_begin_15 ?_
  refine x_ist2 dX3_begin_16 ?_
  exact lp 10 0 _ _ (by omega) (by omega) rfl (by
    funext a k
    simp only [up, beS]
    by_cases h1 : a = b
    · subst h1
      rcases (by omega : k = 0 ∨ k = 1 ∨ k = 2 ∨ 2 < k) with rfl | rfl | rfl | h
      · simp
      · simp
      · simp
      · have g0 : k ≠ 0 := by omega
        have g1 : k ≠ 1 := by omega
        have g2 : k ≠ 2 := by omega
        simp [g0, g1, g2]
    · simp [h1])
end FR
end
