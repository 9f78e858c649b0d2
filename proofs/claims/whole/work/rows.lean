section
-- ===== PART A: goes FIRST, ahead of the names: the tables' words, and 'selects' of the private methods out of them =====
/-- a private method of a class that the tables say can be made, by its rows of tables_1 -/
def lw_okq (q : MethodName × Nat) : Prop := (q.1.cls ≠ "java/lang/invoke/MethodHandle" ∧ q.1.cls ≠ "java/lang/invoke/VarHandle") ∧ Cond.instantiable q.1.cls q.2 ∈ tables_1 ∧ Cond.privateMethod q.1 ∈ tables_1 ∧ Cond.instanceMethod q.1 ∈ tables_1
theorem lw_p0 : lw_okq (⟨"SpringFarms", "liveDay", "()I"⟩, 12) := ⟨⟨by decide +kernel, by decide +kernel⟩, List.mem_of_getElem? (i := 11) (by decide +kernel), List.mem_of_getElem? (i := 250) (by decide +kernel), List.mem_of_getElem? (i := 251) (by decide +kernel)⟩
theorem lw_p1 : lw_okq (⟨"SpringFarms", "allHaveIn", "(I)Z"⟩, 12) := ⟨⟨by decide +kernel, by decide +kernel⟩, List.mem_of_getElem? (i := 11) (by decide +kernel), List.mem_of_getElem? (i := 359) (by decide +kernel), List.mem_of_getElem? (i := 360) (by decide +kernel)⟩
theorem lw_p2 : lw_okq (⟨"SpringFarms", "takenIfBoredAt", "(III)I"⟩, 12) := ⟨⟨by decide +kernel, by decide +kernel⟩, List.mem_of_getElem? (i := 11) (by decide +kernel), List.mem_of_getElem? (i := 375) (by decide +kernel), List.mem_of_getElem? (i := 376) (by decide +kernel)⟩
theorem lw_p3 : lw_okq (⟨"SpringFarms", "isFair", "(I)Z"⟩, 12) := ⟨⟨by decide +kernel, by decide +kernel⟩, List.mem_of_getElem? (i := 11) (by decide +kernel), List.mem_of_getElem? (i := 388) (by decide +kernel), List.mem_of_getElem? (i := 389) (by decide +kernel)⟩
theorem lw_p4 : lw_okq (⟨"SpringFarms", "findLeaks", "()V"⟩, 12) := ⟨⟨by decide +kernel, by decide +kernel⟩, List.mem_of_getElem? (i := 11) (by decide +kernel), List.mem_of_getElem? (i := 412) (by decide +kernel), List.mem_of_getElem? (i := 413) (by decide +kernel)⟩
theorem lw_p5 : lw_okq (⟨"SpringFarms", "fitsIf", "(III)Z"⟩, 12) := ⟨⟨by decide +kernel, by decide +kernel⟩, List.mem_of_getElem? (i := 11) (by decide +kernel), List.mem_of_getElem? (i := 416) (by decide +kernel), List.mem_of_getElem? (i := 417) (by decide +kernel)⟩
theorem lw_p6 : lw_okq (⟨"SpringFarms", "note", "(I)V"⟩, 12) := ⟨⟨by decide +kernel, by decide +kernel⟩, List.mem_of_getElem? (i := 11) (by decide +kernel), List.mem_of_getElem? (i := 420) (by decide +kernel), List.mem_of_getElem? (i := 421) (by decide +kernel)⟩
theorem lw_p7 : lw_okq (⟨"SpringFarms", "tallyTaken", "()V"⟩, 12) := ⟨⟨by decide +kernel, by decide +kernel⟩, List.mem_of_getElem? (i := 11) (by decide +kernel), List.mem_of_getElem? (i := 424) (by decide +kernel), List.mem_of_getElem? (i := 425) (by decide +kernel)⟩
theorem lw_p8 : lw_okq (⟨"SpringFarms", "foundAt", "(I)I"⟩, 12) := ⟨⟨by decide +kernel, by decide +kernel⟩, List.mem_of_getElem? (i := 11) (by decide +kernel), List.mem_of_getElem? (i := 428) (by decide +kernel), List.mem_of_getElem? (i := 429) (by decide +kernel)⟩
theorem lw_p9 : lw_okq (⟨"SpringFarms", "mostLeft", "(I)I"⟩, 12) := ⟨⟨by decide +kernel, by decide +kernel⟩, List.mem_of_getElem? (i := 11) (by decide +kernel), List.mem_of_getElem? (i := 440) (by decide +kernel), List.mem_of_getElem? (i := 441) (by decide +kernel)⟩
theorem lw_p10 : lw_okq (⟨"SpringFarms", "gather", "(I)I"⟩, 12) := ⟨⟨by decide +kernel, by decide +kernel⟩, List.mem_of_getElem? (i := 11) (by decide +kernel), List.mem_of_getElem? (i := 454) (by decide +kernel), List.mem_of_getElem? (i := 455) (by decide +kernel)⟩
theorem lw_p11 : lw_okq (⟨"SpringFarms", "weighRows", "(I)I"⟩, 12) := ⟨⟨by decide +kernel, by decide +kernel⟩, List.mem_of_getElem? (i := 11) (by decide +kernel), List.mem_of_getElem? (i := 458) (by decide +kernel), List.mem_of_getElem? (i := 459) (by decide +kernel)⟩
theorem lw_p12 : lw_okq (⟨"SpringFarms", "isAtRest", "(II)Z"⟩, 12) := ⟨⟨by decide +kernel, by decide +kernel⟩, List.mem_of_getElem? (i := 11) (by decide +kernel), List.mem_of_getElem? (i := 466) (by decide +kernel), List.mem_of_getElem? (i := 467) (by decide +kernel)⟩
theorem lw_p13 : lw_okq (⟨"SpringFarms", "toldOfFarm", "(I)I"⟩, 12) := ⟨⟨by decide +kernel, by decide +kernel⟩, List.mem_of_getElem? (i := 11) (by decide +kernel), List.mem_of_getElem? (i := 516) (by decide +kernel), List.mem_of_getElem? (i := 517) (by decide +kernel)⟩
theorem lw_p14 : lw_okq (⟨"SpringFarmsModel", "begin", "(I)V"⟩, 32) := ⟨⟨by decide +kernel, by decide +kernel⟩, List.mem_of_getElem? (i := 520) (by decide +kernel), List.mem_of_getElem? (i := 526) (by decide +kernel), List.mem_of_getElem? (i := 527) (by decide +kernel)⟩
theorem lw_p15 : lw_okq (⟨"SpringFarmsModel", "isFarm", "(I)Z"⟩, 32) := ⟨⟨by decide +kernel, by decide +kernel⟩, List.mem_of_getElem? (i := 520) (by decide +kernel), List.mem_of_getElem? (i := 643) (by decide +kernel), List.mem_of_getElem? (i := 644) (by decide +kernel)⟩
def lw_privs_1 : List (MethodName × Nat) := [(⟨"SpringFarms", "liveDay", "()I"⟩, 12), (⟨"SpringFarms", "allHaveIn", "(I)Z"⟩, 12), (⟨"SpringFarms", "takenIfBoredAt", "(III)I"⟩, 12), (⟨"SpringFarms", "isFair", "(I)Z"⟩, 12), (⟨"SpringFarms", "findLeaks", "()V"⟩, 12), (⟨"SpringFarms", "fitsIf", "(III)Z"⟩, 12), (⟨"SpringFarms", "note", "(I)V"⟩, 12), (⟨"SpringFarms", "tallyTaken", "()V"⟩, 12), (⟨"SpringFarms", "foundAt", "(I)I"⟩, 12), (⟨"SpringFarms", "mostLeft", "(I)I"⟩, 12), (⟨"SpringFarms", "gather", "(I)I"⟩, 12), (⟨"SpringFarms", "weighRows", "(I)I"⟩, 12), (⟨"SpringFarms", "isAtRest", "(II)Z"⟩, 12), (⟨"SpringFarms", "toldOfFarm", "(I)I"⟩, 12), (⟨"SpringFarmsModel", "begin", "(I)V"⟩, 32), (⟨"SpringFarmsModel", "isFarm", "(I)Z"⟩, 32)]
theorem lw_r1 : ∀ q ∈ lw_privs_1, lw_okq q := List.forall_mem_cons.mpr ⟨lw_p0, List.forall_mem_cons.mpr ⟨lw_p1, List.forall_mem_cons.mpr ⟨lw_p2, List.forall_mem_cons.mpr ⟨lw_p3, List.forall_mem_cons.mpr ⟨lw_p4, List.forall_mem_cons.mpr ⟨lw_p5, List.forall_mem_cons.mpr ⟨lw_p6, List.forall_mem_cons.mpr ⟨lw_p7, List.forall_mem_cons.mpr ⟨lw_p8, List.forall_mem_cons.mpr ⟨lw_p9, List.forall_mem_cons.mpr ⟨lw_p10, List.forall_mem_cons.mpr ⟨lw_p11, List.forall_mem_cons.mpr ⟨lw_p12, List.forall_mem_cons.mpr ⟨lw_p13, List.forall_mem_cons.mpr ⟨lw_p14, List.forall_mem_cons.mpr ⟨lw_p15, fun _ h => absurd h List.not_mem_nil⟩⟩⟩⟩⟩⟩⟩⟩⟩⟩⟩⟩⟩⟩⟩⟩
theorem lw_p16 : lw_okq (⟨"SpringFarmsModel", "refusal", "()I"⟩, 32) := ⟨⟨by decide +kernel, by decide +kernel⟩, List.mem_of_getElem? (i := 520) (by decide +kernel), List.mem_of_getElem? (i := 682) (by decide +kernel), List.mem_of_getElem? (i := 683) (by decide +kernel)⟩
theorem lw_p17 : lw_okq (⟨"SpringFarmsModel", "keepNow", "()V"⟩, 32) := ⟨⟨by decide +kernel, by decide +kernel⟩, List.mem_of_getElem? (i := 520) (by decide +kernel), List.mem_of_getElem? (i := 687) (by decide +kernel), List.mem_of_getElem? (i := 688) (by decide +kernel)⟩
theorem lw_p18 : lw_okq (⟨"SpringFarmsModel", "goDay", "()V"⟩, 32) := ⟨⟨by decide +kernel, by decide +kernel⟩, List.mem_of_getElem? (i := 520) (by decide +kernel), List.mem_of_getElem? (i := 691) (by decide +kernel), List.mem_of_getElem? (i := 692) (by decide +kernel)⟩
theorem lw_p19 : lw_okq (⟨"SpringFarmsModel", "lookWhoHas", "()V"⟩, 32) := ⟨⟨by decide +kernel, by decide +kernel⟩, List.mem_of_getElem? (i := 520) (by decide +kernel), List.mem_of_getElem? (i := 695) (by decide +kernel), List.mem_of_getElem? (i := 696) (by decide +kernel)⟩
theorem lw_p20 : lw_okq (⟨"SpringFarmsModel", "passHour", "(I)V"⟩, 32) := ⟨⟨by decide +kernel, by decide +kernel⟩, List.mem_of_getElem? (i := 520) (by decide +kernel), List.mem_of_getElem? (i := 699) (by decide +kernel), List.mem_of_getElem? (i := 700) (by decide +kernel)⟩
theorem lw_p21 : lw_okq (⟨"SpringFarmsModel", "flow", "(I)V"⟩, 32) := ⟨⟨by decide +kernel, by decide +kernel⟩, List.mem_of_getElem? (i := 520) (by decide +kernel), List.mem_of_getElem? (i := 703) (by decide +kernel), List.mem_of_getElem? (i := 704) (by decide +kernel)⟩
theorem lw_p22 : lw_okq (⟨"SpringFarmsModel", "takenAt", "(III)I"⟩, 32) := ⟨⟨by decide +kernel, by decide +kernel⟩, List.mem_of_getElem? (i := 520) (by decide +kernel), List.mem_of_getElem? (i := 707) (by decide +kernel), List.mem_of_getElem? (i := 708) (by decide +kernel)⟩
theorem lw_p23 : lw_okq (⟨"SpringFarmsModel", "deed", "(II)I"⟩, 32) := ⟨⟨by decide +kernel, by decide +kernel⟩, List.mem_of_getElem? (i := 520) (by decide +kernel), List.mem_of_getElem? (i := 711) (by decide +kernel), List.mem_of_getElem? (i := 712) (by decide +kernel)⟩
theorem lw_p24 : lw_okq (⟨"SpringFarmsModel", "putBack", "()V"⟩, 32) := ⟨⟨by decide +kernel, by decide +kernel⟩, List.mem_of_getElem? (i := 520) (by decide +kernel), List.mem_of_getElem? (i := 715) (by decide +kernel), List.mem_of_getElem? (i := 716) (by decide +kernel)⟩
theorem lw_p25 : lw_okq (⟨"SpringFarmsModel", "layNow", "()V"⟩, 32) := ⟨⟨by decide +kernel, by decide +kernel⟩, List.mem_of_getElem? (i := 520) (by decide +kernel), List.mem_of_getElem? (i := 748) (by decide +kernel), List.mem_of_getElem? (i := 749) (by decide +kernel)⟩
theorem lw_p26 : lw_okq (⟨"SpringFarmsModel", "hoursNow", "()I"⟩, 32) := ⟨⟨by decide +kernel, by decide +kernel⟩, List.mem_of_getElem? (i := 520) (by decide +kernel), List.mem_of_getElem? (i := 756) (by decide +kernel), List.mem_of_getElem? (i := 757) (by decide +kernel)⟩
theorem lw_p27 : lw_okq (⟨"SpringFarmsModel", "wanting", "(I)I"⟩, 32) := ⟨⟨by decide +kernel, by decide +kernel⟩, List.mem_of_getElem? (i := 520) (by decide +kernel), List.mem_of_getElem? (i := 760) (by decide +kernel), List.mem_of_getElem? (i := 761) (by decide +kernel)⟩
theorem lw_p28 : lw_okq (⟨"SpringFarmsModel", "isEnoughIn", "(I)Z"⟩, 32) := ⟨⟨by decide +kernel, by decide +kernel⟩, List.mem_of_getElem? (i := 520) (by decide +kernel), List.mem_of_getElem? (i := 772) (by decide +kernel), List.mem_of_getElem? (i := 773) (by decide +kernel)⟩
theorem lw_p29 : lw_okq (⟨"SpringFarmsModel", "takesNew", "(III)I"⟩, 32) := ⟨⟨by decide +kernel, by decide +kernel⟩, List.mem_of_getElem? (i := 520) (by decide +kernel), List.mem_of_getElem? (i := 788) (by decide +kernel), List.mem_of_getElem? (i := 789) (by decide +kernel)⟩
theorem lw_p30 : lw_okq (⟨"SpringFarmsModel", "isFairBy", "(I)Z"⟩, 32) := ⟨⟨by decide +kernel, by decide +kernel⟩, List.mem_of_getElem? (i := 520) (by decide +kernel), List.mem_of_getElem? (i := 796) (by decide +kernel), List.mem_of_getElem? (i := 797) (by decide +kernel)⟩
theorem lw_p31 : lw_okq (⟨"SpringFarmsModel", "leaksBy", "(II)Z"⟩, 32) := ⟨⟨by decide +kernel, by decide +kernel⟩, List.mem_of_getElem? (i := 520) (by decide +kernel), List.mem_of_getElem? (i := 816) (by decide +kernel), List.mem_of_getElem? (i := 817) (by decide +kernel)⟩
def lw_privs_2 : List (MethodName × Nat) := [(⟨"SpringFarmsModel", "refusal", "()I"⟩, 32), (⟨"SpringFarmsModel", "keepNow", "()V"⟩, 32), (⟨"SpringFarmsModel", "goDay", "()V"⟩, 32), (⟨"SpringFarmsModel", "lookWhoHas", "()V"⟩, 32), (⟨"SpringFarmsModel", "passHour", "(I)V"⟩, 32), (⟨"SpringFarmsModel", "flow", "(I)V"⟩, 32), (⟨"SpringFarmsModel", "takenAt", "(III)I"⟩, 32), (⟨"SpringFarmsModel", "deed", "(II)I"⟩, 32), (⟨"SpringFarmsModel", "putBack", "()V"⟩, 32), (⟨"SpringFarmsModel", "layNow", "()V"⟩, 32), (⟨"SpringFarmsModel", "hoursNow", "()I"⟩, 32), (⟨"SpringFarmsModel", "wanting", "(I)I"⟩, 32), (⟨"SpringFarmsModel", "isEnoughIn", "(I)Z"⟩, 32), (⟨"SpringFarmsModel", "takesNew", "(III)I"⟩, 32), (⟨"SpringFarmsModel", "isFairBy", "(I)Z"⟩, 32), (⟨"SpringFarmsModel", "leaksBy", "(II)Z"⟩, 32)]
theorem lw_r2 : ∀ q ∈ lw_privs_2, lw_okq q := List.forall_mem_cons.mpr ⟨lw_p16, List.forall_mem_cons.mpr ⟨lw_p17, List.forall_mem_cons.mpr ⟨lw_p18, List.forall_mem_cons.mpr ⟨lw_p19, List.forall_mem_cons.mpr ⟨lw_p20, List.forall_mem_cons.mpr ⟨lw_p21, List.forall_mem_cons.mpr ⟨lw_p22, List.forall_mem_cons.mpr ⟨lw_p23, List.forall_mem_cons.mpr ⟨lw_p24, List.forall_mem_cons.mpr ⟨lw_p25, List.forall_mem_cons.mpr ⟨lw_p26, List.forall_mem_cons.mpr ⟨lw_p27, List.forall_mem_cons.mpr ⟨lw_p28, List.forall_mem_cons.mpr ⟨lw_p29, List.forall_mem_cons.mpr ⟨lw_p30, List.forall_mem_cons.mpr ⟨lw_p31, fun _ h => absurd h List.not_mem_nil⟩⟩⟩⟩⟩⟩⟩⟩⟩⟩⟩⟩⟩⟩⟩⟩
theorem lw_p32 : lw_okq (⟨"SpringFarmsModel", "isHeardSo", "()Z"⟩, 32) := ⟨⟨by decide +kernel, by decide +kernel⟩, List.mem_of_getElem? (i := 520) (by decide +kernel), List.mem_of_getElem? (i := 820) (by decide +kernel), List.mem_of_getElem? (i := 821) (by decide +kernel)⟩
theorem lw_p33 : lw_okq (⟨"SpringFarmsModel", "mostLeftAt", "(I)I"⟩, 32) := ⟨⟨by decide +kernel, by decide +kernel⟩, List.mem_of_getElem? (i := 520) (by decide +kernel), List.mem_of_getElem? (i := 832) (by decide +kernel), List.mem_of_getElem? (i := 833) (by decide +kernel)⟩
theorem lw_p34 : lw_okq (⟨"SpringFarmsModel", "layMembers", "(I)V"⟩, 32) := ⟨⟨by decide +kernel, by decide +kernel⟩, List.mem_of_getElem? (i := 520) (by decide +kernel), List.mem_of_getElem? (i := 843) (by decide +kernel), List.mem_of_getElem? (i := 844) (by decide +kernel)⟩
theorem lw_p35 : lw_okq (⟨"SpringFarmsModel", "layWidths", "(I)I"⟩, 32) := ⟨⟨by decide +kernel, by decide +kernel⟩, List.mem_of_getElem? (i := 520) (by decide +kernel), List.mem_of_getElem? (i := 847) (by decide +kernel), List.mem_of_getElem? (i := 848) (by decide +kernel)⟩
theorem lw_p36 : lw_okq (⟨"SpringFarmsModel", "isRest", "()Z"⟩, 32) := ⟨⟨by decide +kernel, by decide +kernel⟩, List.mem_of_getElem? (i := 520) (by decide +kernel), List.mem_of_getElem? (i := 851) (by decide +kernel), List.mem_of_getElem? (i := 852) (by decide +kernel)⟩
theorem lw_p37 : lw_okq (⟨"SpringFarmsModel", "gainOf", "(II)I"⟩, 32) := ⟨⟨by decide +kernel, by decide +kernel⟩, List.mem_of_getElem? (i := 520) (by decide +kernel), List.mem_of_getElem? (i := 855) (by decide +kernel), List.mem_of_getElem? (i := 856) (by decide +kernel)⟩
theorem lw_p38 : lw_okq (⟨"SpringFarmsModel", "passAll", "()V"⟩, 32) := ⟨⟨by decide +kernel, by decide +kernel⟩, List.mem_of_getElem? (i := 520) (by decide +kernel), List.mem_of_getElem? (i := 888) (by decide +kernel), List.mem_of_getElem? (i := 889) (by decide +kernel)⟩
theorem lw_p39 : lw_okq (⟨"SpringFarmsModel", "pass", "(I)I"⟩, 32) := ⟨⟨by decide +kernel, by decide +kernel⟩, List.mem_of_getElem? (i := 520) (by decide +kernel), List.mem_of_getElem? (i := 892) (by decide +kernel), List.mem_of_getElem? (i := 893) (by decide +kernel)⟩
def lw_privs_3 : List (MethodName × Nat) := [(⟨"SpringFarmsModel", "isHeardSo", "()Z"⟩, 32), (⟨"SpringFarmsModel", "mostLeftAt", "(I)I"⟩, 32), (⟨"SpringFarmsModel", "layMembers", "(I)V"⟩, 32), (⟨"SpringFarmsModel", "layWidths", "(I)I"⟩, 32), (⟨"SpringFarmsModel", "isRest", "()Z"⟩, 32), (⟨"SpringFarmsModel", "gainOf", "(II)I"⟩, 32), (⟨"SpringFarmsModel", "passAll", "()V"⟩, 32), (⟨"SpringFarmsModel", "pass", "(I)I"⟩, 32)]
theorem lw_r3 : ∀ q ∈ lw_privs_3, lw_okq q := List.forall_mem_cons.mpr ⟨lw_p32, List.forall_mem_cons.mpr ⟨lw_p33, List.forall_mem_cons.mpr ⟨lw_p34, List.forall_mem_cons.mpr ⟨lw_p35, List.forall_mem_cons.mpr ⟨lw_p36, List.forall_mem_cons.mpr ⟨lw_p37, List.forall_mem_cons.mpr ⟨lw_p38, List.forall_mem_cons.mpr ⟨lw_p39, fun _ h => absurd h List.not_mem_nil⟩⟩⟩⟩⟩⟩⟩⟩
def lw_privs : List (MethodName × Nat) := lw_privs_1 ++ (lw_privs_2 ++ (lw_privs_3))
def lw_tbl : List Cond := k2_sels lw_privs ++ tables_1
theorem lw_privs_ok : ∀ q ∈ lw_privs, lw_okq q := by
  show ∀ q ∈ lw_privs_1 ++ (lw_privs_2 ++ (lw_privs_3)), lw_okq q
  exact List.forall_mem_append.mpr ⟨lw_r1, List.forall_mem_append.mpr ⟨lw_r2, lw_r3⟩⟩
def RX0 : String := "SpringFarms$Course"
def TX0 : u_T := fun k => match k with
  | 0 => ("SpringFarms$Course", "row", "LSpringFarms$Row;", true)
  | 1 => ("SpringFarms$Course", "hour", "LSpringFarms$Hour;", true)
  | 2 => ("SpringFarms$Course", "enoughAt", "[I", true)
  | 3 => ("SpringFarms$Course", "badPart", "I", false)
  | 4 => ("SpringFarms$Course", "why", "I", false)
  | _ => ("SpringFarms$Course", "hourCount", "I", false)
def tyX0 : Nat → FieldType := fun k => match k with
  | 0 => .object "SpringFarms$Row"
  | 1 => .object "SpringFarms$Hour"
  | 2 => .array .int
  | 3 => .int
  | 4 => .int
  | _ => .int
theorem nmX0 : ∀ a, a < 6 → ∀ b, b < 6 → a ≠ b → (TX0 a).2.1 ≠ (TX0 b).2.1 := by decide +kernel
theorem tyX0_ok : ∀ k, k < 6 → parseFieldDescriptor (TX0 k).2.2.1 = some (tyX0 k) := by decide +kernel
abbrev cX0_init : ByteArray := prog_2_method_1_code
def yX0_init : MethodName := ⟨RX0, "<init>", "()V"⟩
abbrev cX0_live : ByteArray := prog_2_method_2_code
def yX0_live : MethodName := ⟨RX0, "live", "(LSpringFarms$Row;LSpringFarms$Day;)V"⟩
abbrev cX0_pass : ByteArray := prog_2_method_3_code
def yX0_pass : MethodName := ⟨RX0, "pass", "(II)V"⟩
abbrev cX0_noteEnough : ByteArray := prog_2_method_4_code
def yX0_noteEnough : MethodName := ⟨RX0, "noteEnough", "()V"⟩
def RX1 : String := "SpringFarms$Day"
def TX1 : u_T := fun k => match k with
  | 0 => ("SpringFarms$Day", "signs", "[I", true)
  | 1 => ("SpringFarms$Day", "length", "I", false)
  | 2 => ("SpringFarms$Day", "acts", "[I", true)
  | 3 => ("SpringFarms$Day", "farmOf", "[I", true)
  | _ => ("SpringFarms$Day", "parts", "I", false)
def tyX1 : Nat → FieldType := fun k => match k with
  | 0 => .array .int
  | 1 => .int
  | 2 => .array .int
  | 3 => .array .int
  | _ => .int
theorem nmX1 : ∀ a, a < 5 → ∀ b, b < 5 → a ≠ b → (TX1 a).2.1 ≠ (TX1 b).2.1 := by decide +kernel
theorem tyX1_ok : ∀ k, k < 5 → parseFieldDescriptor (TX1 k).2.2.1 = some (tyX1 k) := by decide +kernel
abbrev cX1_init : ByteArray := prog_3_method_1_code
def yX1_init : MethodName := ⟨RX1, "<init>", "()V"⟩
abbrev cX1_add : ByteArray := prog_3_method_2_code
def yX1_add : MethodName := ⟨RX1, "add", "(I)V"⟩
abbrev cX1_read : ByteArray := prog_3_method_3_code
def yX1_read : MethodName := ⟨RX1, "read", "(I)I"⟩
abbrev cX1_actOn : ByteArray := prog_3_method_4_code
def yX1_actOn : MethodName := ⟨RX1, "actOn", "(I)I"⟩
abbrev cX1_hourOf : ByteArray := prog_3_method_5_code
def yX1_hourOf : MethodName := ⟨RX1, "hourOf", "(I)I"⟩
def RX2 : String := "SpringFarms$Hour"
def TX2 : u_T := fun k => match k with
  | 0 => ("SpringFarms$Hour", "taken", "[I", true)
  | 1 => ("SpringFarms$Hour", "levels", "[I", true)
  | _ => ("SpringFarms$Hour", "left", "I", false)
def tyX2 : Nat → FieldType := fun k => match k with
  | 0 => .array .int
  | 1 => .array .int
  | _ => .int
theorem nmX2 : ∀ a, a < 3 → ∀ b, b < 3 → a ≠ b → (TX2 a).2.1 ≠ (TX2 b).2.1 := by decide +kernel
theorem tyX2_ok : ∀ k, k < 3 → parseFieldDescriptor (TX2 k).2.2.1 = some (tyX2 k) := by decide +kernel
abbrev cX2_init : ByteArray := prog_4_method_1_code
def yX2_init : MethodName := ⟨RX2, "<init>", "()V"⟩
abbrev cX2_flow : ByteArray := prog_4_method_2_code
def yX2_flow : MethodName := ⟨RX2, "flow", "(LSpringFarms$Row;I)V"⟩
abbrev cX2_sum : ByteArray := prog_4_method_3_code
def yX2_sum : MethodName := ⟨RX2, "sum", "(I)I"⟩
abbrev cX2_someTookNothing : ByteArray := prog_4_method_4_code
def yX2_someTookNothing : MethodName := ⟨RX2, "someTookNothing", "(I)Z"⟩
def RX3 : String := "SpringFarms$Row"
def TX3 : u_T := fun k => match k with
  | 0 => ("SpringFarms$Row", "count", "I", false)
  | 1 => ("SpringFarms$Row", "ditch", "I", false)
  | 2 => ("SpringFarms$Row", "sights", "I", false)
  | 3 => ("SpringFarms$Row", "facts", "[I", true)
  | 4 => ("SpringFarms$Row", "rates", "[I", true)
  | 5 => ("SpringFarms$Row", "sightFarm", "[I", true)
  | _ => ("SpringFarms$Row", "sightTook", "[I", true)
def tyX3 : Nat → FieldType := fun k => match k with
  | 0 => .int
  | 1 => .int
  | 2 => .int
  | 3 => .array .int
  | 4 => .array .int
  | 5 => .array .int
  | _ => .array .int
theorem nmX3 : ∀ a, a < 7 → ∀ b, b < 7 → a ≠ b → (TX3 a).2.1 ≠ (TX3 b).2.1 := by decide +kernel
theorem tyX3_ok : ∀ k, k < 7 → parseFieldDescriptor (TX3 k).2.2.1 = some (tyX3 k) := by decide +kernel
abbrev cX3_init : ByteArray := prog_5_method_1_code
def yX3_init : MethodName := ⟨RX3, "<init>", "()V"⟩
abbrev cX3_begin : ByteArray := prog_5_method_2_code
def yX3_begin : MethodName := ⟨RX3, "begin", "(I)V"⟩
abbrev cX3_copy : ByteArray := prog_5_method_3_code
def yX3_copy : MethodName := ⟨RX3, "copy", "(LSpringFarms$Row;)V"⟩
abbrev cX3_has : ByteArray := prog_5_method_4_code
def yX3_has : MethodName := ⟨RX3, "has", "(I)Z"⟩
abbrev cX3_fact : ByteArray := prog_5_method_5_code
def yX3_fact : MethodName := ⟨RX3, "fact", "(II)I"⟩
abbrev cX3_put : ByteArray := prog_5_method_6_code
def yX3_put : MethodName := ⟨RX3, "put", "(III)V"⟩
abbrev cX3_turnPlug : ByteArray := prog_5_method_7_code
def yX3_turnPlug : MethodName := ⟨RX3, "turnPlug", "(I)V"⟩
abbrev cX3_lack : ByteArray := prog_5_method_8_code
def yX3_lack : MethodName := ⟨RX3, "lack", "(I)I"⟩
abbrev cX3_see : ByteArray := prog_5_method_9_code
def yX3_see : MethodName := ⟨RX3, "see", "(II)V"⟩
abbrev cX3_copyWithNew : ByteArray := prog_5_method_10_code
def yX3_copyWithNew : MethodName := ⟨RX3, "copyWithNew", "(LSpringFarms$Row;III)V"⟩
abbrev cX3_levelAtSpring : ByteArray := prog_5_method_11_code
def yX3_levelAtSpring : MethodName := ⟨RX3, "levelAtSpring", "(I)I"⟩
abbrev cX3_takesNone : ByteArray := prog_5_method_12_code
def yX3_takesNone : MethodName := ⟨RX3, "takesNone", "(II)Z"⟩
abbrev cX3_reasonAgainst : ByteArray := prog_5_method_13_code
def yX3_reasonAgainst : MethodName := ⟨RX3, "reasonAgainst", "(II)I"⟩
abbrev cX3_apply : ByteArray := prog_5_method_14_code
def yX3_apply : MethodName := ⟨RX3, "apply", "(II)V"⟩
abbrev cX3_keep : ByteArray := prog_5_method_15_code
def yX3_keep : MethodName := ⟨RX3, "keep", "(LSpringFarms$Hour;)V"⟩
def RX4 : String := "SpringFarms"
def TX4 : u_T := fun k => match k with
  | 0 => ("SpringFarms", "now", "LSpringFarms$Row;", true)
  | 1 => ("SpringFarms", "trial", "LSpringFarms$Row;", true)
  | 2 => ("SpringFarms", "images", "[LSpringFarms$Row;", true)
  | 3 => ("SpringFarms", "asIs", "LSpringFarms$Hour;", true)
  | 4 => ("SpringFarms", "other", "LSpringFarms$Hour;", true)
  | 5 => ("SpringFarms", "day", "LSpringFarms$Day;", true)
  | 6 => ("SpringFarms", "course", "LSpringFarms$Course;", true)
  | 7 => ("SpringFarms", "tally", "[I", true)
  | 8 => ("SpringFarms", "choosers", "[I", true)
  | 9 => ("SpringFarms", "gains", "[I", true)
  | 10 => ("SpringFarms", "found", "[I", true)
  | _ => ("SpringFarms", "foundCount", "I", false)
def tyX4 : Nat → FieldType := fun k => match k with
  | 0 => .object "SpringFarms$Row"
  | 1 => .object "SpringFarms$Row"
  | 2 => .array (.object "SpringFarms$Row")
  | 3 => .object "SpringFarms$Hour"
  | 4 => .object "SpringFarms$Hour"
  | 5 => .object "SpringFarms$Day"
  | 6 => .object "SpringFarms$Course"
  | 7 => .array .int
  | 8 => .array .int
  | 9 => .array .int
  | 10 => .array .int
  | _ => .int
theorem nmX4 : ∀ a, a < 12 → ∀ b, b < 12 → a ≠ b → (TX4 a).2.1 ≠ (TX4 b).2.1 := by decide +kernel
theorem tyX4_ok : ∀ k, k < 12 → parseFieldDescriptor (TX4 k).2.2.1 = some (tyX4 k) := by decide +kernel
abbrev cX4_init : ByteArray := prog_1_method_1_code
def yX4_init : MethodName := ⟨RX4, "<init>", "()V"⟩
abbrev cX4_farms : ByteArray := prog_1_method_2_code
def yX4_farms : MethodName := ⟨RX4, "farms", "(I)I"⟩
abbrev cX4_farm : ByteArray := prog_1_method_3_code
def yX4_farm : MethodName := ⟨RX4, "farm", "(III)I"⟩
abbrev cX4_set : ByteArray := prog_1_method_4_code
def yX4_set : MethodName := ⟨RX4, "set", "(II)I"⟩
abbrev cX4_say : ByteArray := prog_1_method_5_code
def yX4_say : MethodName := ⟨RX4, "say", "(I)I"⟩
abbrev cX4_wipe : ByteArray := prog_1_method_6_code
def yX4_wipe : MethodName := ⟨RX4, "wipe", "()I"⟩
abbrev cX4_fault : ByteArray := prog_1_method_7_code
def yX4_fault : MethodName := ⟨RX4, "fault", "()I"⟩
abbrev cX4_judge : ByteArray := prog_1_method_8_code
def yX4_judge : MethodName := ⟨RX4, "judge", "(I)I"⟩
abbrev cX4_behind : ByteArray := prog_1_method_9_code
def yX4_behind : MethodName := ⟨RX4, "behind", "(II)I"⟩
abbrev cX4_ditch : ByteArray := prog_1_method_10_code
def yX4_ditch : MethodName := ⟨RX4, "ditch", "()I"⟩
abbrev cX4_done : ByteArray := prog_1_method_11_code
def yX4_done : MethodName := ⟨RX4, "done", "()I"⟩
abbrev cX4_first : ByteArray := prog_1_method_12_code
def yX4_first : MethodName := ⟨RX4, "first", "(I)I"⟩
abbrev cX4_takes : ByteArray := prog_1_method_13_code
def yX4_takes : MethodName := ⟨RX4, "takes", "(II)I"⟩
abbrev cX4_takesIf : ByteArray := prog_1_method_14_code
def yX4_takesIf : MethodName := ⟨RX4, "takesIf", "(II)I"⟩
abbrev cX4_robbed : ByteArray := prog_1_method_15_code
def yX4_robbed : MethodName := ⟨RX4, "robbed", "(I)I"⟩
abbrev cX4_liveDay : ByteArray := prog_1_method_16_code
def yX4_liveDay : MethodName := ⟨RX4, "liveDay", "()I"⟩
abbrev cX4_hours : ByteArray := prog_1_method_17_code
def yX4_hours : MethodName := ⟨RX4, "hours", "()I"⟩
abbrev cX4_spring : ByteArray := prog_1_method_18_code
def yX4_spring : MethodName := ⟨RX4, "spring", "(I)I"⟩
abbrev cX4_narrow : ByteArray := prog_1_method_19_code
def yX4_narrow : MethodName := ⟨RX4, "narrow", "(II)I"⟩
abbrev cX4_highest : ByteArray := prog_1_method_20_code
def yX4_highest : MethodName := ⟨RX4, "highest", "(II)I"⟩
abbrev cX4_bored : ByteArray := prog_1_method_21_code
def yX4_bored : MethodName := ⟨RX4, "bored", "(III)I"⟩
abbrev cX4_fair : ByteArray := prog_1_method_22_code
def yX4_fair : MethodName := ⟨RX4, "fair", "()I"⟩
abbrev cX4_dry : ByteArray := prog_1_method_23_code
def yX4_dry : MethodName := ⟨RX4, "dry", "(I)I"⟩
abbrev cX4_within : ByteArray := prog_1_method_24_code
def yX4_within : MethodName := ⟨RX4, "within", "(II)Z"⟩
abbrev cX4_isHours : ByteArray := prog_1_method_25_code
def yX4_isHours : MethodName := ⟨RX4, "isHours", "(I)Z"⟩
abbrev cX4_allHaveIn : ByteArray := prog_1_method_26_code
def yX4_allHaveIn : MethodName := ⟨RX4, "allHaveIn", "(I)Z"⟩
abbrev cX4_takenIfBoredAt : ByteArray := prog_1_method_27_code
def yX4_takenIfBoredAt : MethodName := ⟨RX4, "takenIfBoredAt", "(III)I"⟩
abbrev cX4_isFair : ByteArray := prog_1_method_28_code
def yX4_isFair : MethodName := ⟨RX4, "isFair", "(I)Z"⟩
abbrev cX4_seen : ByteArray := prog_1_method_29_code
def yX4_seen : MethodName := ⟨RX4, "seen", "(II)I"⟩
abbrev cX4_forget : ByteArray := prog_1_method_30_code
def yX4_forget : MethodName := ⟨RX4, "forget", "()I"⟩
abbrev cX4_leak : ByteArray := prog_1_method_31_code
def yX4_leak : MethodName := ⟨RX4, "leak", "(I)I"⟩
abbrev cX4_borer : ByteArray := prog_1_method_32_code
def yX4_borer : MethodName := ⟨RX4, "borer", "(I)I"⟩
abbrev cX4_listen : ByteArray := prog_1_method_33_code
def yX4_listen : MethodName := ⟨RX4, "listen", "(I)I"⟩
abbrev cX4_rests : ByteArray := prog_1_method_34_code
def yX4_rests : MethodName := ⟨RX4, "rests", "(II)I"⟩
abbrev cX4_frost : ByteArray := prog_1_method_35_code
def yX4_frost : MethodName := ⟨RX4, "frost", "(IIIII)J"⟩
abbrev cX4_year : ByteArray := prog_1_method_36_code
def yX4_year : MethodName := ⟨RX4, "year", "(III)I"⟩
abbrev cX4_image : ByteArray := prog_1_method_37_code
def yX4_image : MethodName := ⟨RX4, "image", "(I)I"⟩
abbrev cX4_restore : ByteArray := prog_1_method_38_code
def yX4_restore : MethodName := ⟨RX4, "restore", "(I)I"⟩
abbrev cX4_told : ByteArray := prog_1_method_39_code
def yX4_told : MethodName := ⟨RX4, "told", "(I)I"⟩
abbrev cX4_toldOfFarm : ByteArray := prog_1_method_40_code
def yX4_toldOfFarm : MethodName := ⟨RX4, "toldOfFarm", "(I)I"⟩
abbrev cX4_fitsIf : ByteArray := prog_1_method_41_code
def yX4_fitsIf : MethodName := ⟨RX4, "fitsIf", "(III)Z"⟩
abbrev cX4_note : ByteArray := prog_1_method_42_code
def yX4_note : MethodName := ⟨RX4, "note", "(I)V"⟩
abbrev cX4_foundAt : ByteArray := prog_1_method_43_code
def yX4_foundAt : MethodName := ⟨RX4, "foundAt", "(I)I"⟩
abbrev cX4_findLeaks : ByteArray := prog_1_method_44_code
def yX4_findLeaks : MethodName := ⟨RX4, "findLeaks", "()V"⟩
abbrev cX4_tallyTaken : ByteArray := prog_1_method_45_code
def yX4_tallyTaken : MethodName := ⟨RX4, "tallyTaken", "()V"⟩
abbrev cX4_mostLeft : ByteArray := prog_1_method_46_code
def yX4_mostLeft : MethodName := ⟨RX4, "mostLeft", "(I)I"⟩
abbrev cX4_gather : ByteArray := prog_1_method_47_code
def yX4_gather : MethodName := ⟨RX4, "gather", "(I)I"⟩
abbrev cX4_stride : ByteArray := prog_1_method_48_code
def yX4_stride : MethodName := ⟨RX4, "stride", "(II)I"⟩
abbrev cX4_weighRows : ByteArray := prog_1_method_49_code
def yX4_weighRows : MethodName := ⟨RX4, "weighRows", "(I)I"⟩
abbrev cX4_isAtRest : ByteArray := prog_1_method_50_code
def yX4_isAtRest : MethodName := ⟨RX4, "isAtRest", "(II)Z"⟩
abbrev cX4_asDigits : ByteArray := prog_1_method_51_code
def yX4_asDigits : MethodName := ⟨RX4, "asDigits", "(I)I"⟩
abbrev cX4_power : ByteArray := prog_1_method_52_code
def yX4_power : MethodName := ⟨RX4, "power", "(II)J"⟩
abbrev cX4_commonDivisor : ByteArray := prog_1_method_53_code
def yX4_commonDivisor : MethodName := ⟨RX4, "commonDivisor", "(JJ)J"⟩
abbrev cX4_kindOfDraw : ByteArray := prog_1_method_54_code
def yX4_kindOfDraw : MethodName := ⟨RX4, "kindOfDraw", "(I)I"⟩
def RX5 : String := "SpringFarmsModel"
def TX5 : u_T := fun k => match k with
  | 0 => ("SpringFarmsModel", "farms", "I", false)
  | 1 => ("SpringFarmsModel", "is", "[I", true)
  | 2 => ("SpringFarmsModel", "spring", "I", false)
  | 3 => ("SpringFarmsModel", "rain", "I", false)
  | 4 => ("SpringFarmsModel", "cows", "I", false)
  | 5 => ("SpringFarmsModel", "ditch", "I", false)
  | 6 => ("SpringFarmsModel", "sightFarm", "[I", true)
  | 7 => ("SpringFarmsModel", "sightTook", "[I", true)
  | 8 => ("SpringFarmsModel", "sights", "I", false)
  | 9 => ("SpringFarmsModel", "pad", "[I", true)
  | 10 => ("SpringFarmsModel", "padMany", "I", false)
  | 11 => ("SpringFarmsModel", "part", "[I", true)
  | 12 => ("SpringFarmsModel", "partFarm", "[I", true)
  | 13 => ("SpringFarmsModel", "parts", "I", false)
  | 14 => ("SpringFarmsModel", "took", "[I", true)
  | 15 => ("SpringFarmsModel", "stood", "[I", true)
  | 16 => ("SpringFarmsModel", "left", "I", false)
  | 17 => ("SpringFarmsModel", "had", "[I", true)
  | 18 => ("SpringFarmsModel", "hadDitch", "I", false)
  | 19 => ("SpringFarmsModel", "badPart", "I", false)
  | 20 => ("SpringFarmsModel", "badWhy", "I", false)
  | 21 => ("SpringFarmsModel", "hours", "I", false)
  | 22 => ("SpringFarmsModel", "firstHour", "[I", true)
  | 23 => ("SpringFarmsModel", "now", "[I", true)
  | 24 => ("SpringFarmsModel", "narrow", "[I", true)
  | 25 => ("SpringFarmsModel", "twos", "[I", true)
  | 26 => ("SpringFarmsModel", "member", "[I", true)
  | 27 => ("SpringFarmsModel", "members", "I", false)
  | 28 => ("SpringFarmsModel", "kept", "[I", true)
  | 29 => ("SpringFarmsModel", "isKept", "[Z", true)
  | 30 => ("SpringFarmsModel", "keptAt", "I", false)
  | _ => ("SpringFarmsModel", "isWriting", "Z", false)
def tyX5 : Nat → FieldType := fun k => match k with
  | 0 => .int
  | 1 => .array .int
  | 2 => .int
  | 3 => .int
  | 4 => .int
  | 5 => .int
  | 6 => .array .int
  | 7 => .array .int
  | 8 => .int
  | 9 => .array .int
  | 10 => .int
  | 11 => .array .int
  | 12 => .array .int
  | 13 => .int
  | 14 => .array .int
  | 15 => .array .int
  | 16 => .int
  | 17 => .array .int
  | 18 => .int
  | 19 => .int
  | 20 => .int
  | 21 => .int
  | 22 => .array .int
  | 23 => .array .int
  | 24 => .array .int
  | 25 => .array .int
  | 26 => .array .int
  | 27 => .int
  | 28 => .array .int
  | 29 => .array .boolean
  | 30 => .int
  | _ => .boolean
theorem nmX5 : ∀ a, a < 32 → ∀ b, b < 32 → a ≠ b → (TX5 a).2.1 ≠ (TX5 b).2.1 := by decide +kernel
theorem tyX5_ok : ∀ k, k < 32 → parseFieldDescriptor (TX5 k).2.2.1 = some (tyX5 k) := by decide +kernel
abbrev cX5_init : ByteArray := prog_7_method_1_code
def yX5_init : MethodName := ⟨RX5, "<init>", "()V"⟩
abbrev cX5_in : ByteArray := prog_7_method_3_code
def yX5_in : MethodName := ⟨RX5, "in", "(JJJ)Z"⟩
abbrev cX5_ones : ByteArray := prog_7_method_4_code
def yX5_ones : MethodName := ⟨RX5, "ones", "(I)I"⟩
abbrev cX5_at : ByteArray := prog_7_method_5_code
def yX5_at : MethodName := ⟨RX5, "at", "(II)I"⟩
abbrev cX5_begin : ByteArray := prog_7_method_6_code
def yX5_begin : MethodName := ⟨RX5, "begin", "(I)V"⟩
abbrev cX5_isFarm : ByteArray := prog_7_method_7_code
def yX5_isFarm : MethodName := ⟨RX5, "isFarm", "(I)Z"⟩
abbrev cX5_farms : ByteArray := prog_7_method_8_code
def yX5_farms : MethodName := ⟨RX5, "farms", "(I)I"⟩
abbrev cX5_greatest : ByteArray := prog_7_method_9_code
def yX5_greatest : MethodName := ⟨RX5, "greatest", "(I)I"⟩
abbrev cX5_farm : ByteArray := prog_7_method_10_code
def yX5_farm : MethodName := ⟨RX5, "farm", "(III)I"⟩
abbrev cX5_set : ByteArray := prog_7_method_11_code
def yX5_set : MethodName := ⟨RX5, "set", "(II)I"⟩
abbrev cX5_say : ByteArray := prog_7_method_12_code
def yX5_say : MethodName := ⟨RX5, "say", "(I)I"⟩
abbrev cX5_wipe : ByteArray := prog_7_method_13_code
def yX5_wipe : MethodName := ⟨RX5, "wipe", "()I"⟩
abbrev cX5_kindOf : ByteArray := prog_7_method_14_code
def yX5_kindOf : MethodName := ⟨RX5, "kindOf", "(I)I"⟩
abbrev cX5_isDeed : ByteArray := prog_7_method_15_code
def yX5_isDeed : MethodName := ⟨RX5, "isDeed", "(I)Z"⟩
abbrev cX5_fault : ByteArray := prog_7_method_16_code
def yX5_fault : MethodName := ⟨RX5, "fault", "()I"⟩
abbrev cX5_takenAt : ByteArray := prog_7_method_17_code
def yX5_takenAt : MethodName := ⟨RX5, "takenAt", "(III)I"⟩
abbrev cX5_flow : ByteArray := prog_7_method_18_code
def yX5_flow : MethodName := ⟨RX5, "flow", "(I)V"⟩
abbrev cX5_passHour : ByteArray := prog_7_method_19_code
def yX5_passHour : MethodName := ⟨RX5, "passHour", "(I)V"⟩
abbrev cX5_keepNow : ByteArray := prog_7_method_20_code
def yX5_keepNow : MethodName := ⟨RX5, "keepNow", "()V"⟩
abbrev cX5_putBack : ByteArray := prog_7_method_21_code
def yX5_putBack : MethodName := ⟨RX5, "putBack", "()V"⟩
abbrev cX5_lookWhoHas : ByteArray := prog_7_method_22_code
def yX5_lookWhoHas : MethodName := ⟨RX5, "lookWhoHas", "()V"⟩
abbrev cX5_deed : ByteArray := prog_7_method_23_code
def yX5_deed : MethodName := ⟨RX5, "deed", "(II)I"⟩
abbrev cX5_goDay : ByteArray := prog_7_method_24_code
def yX5_goDay : MethodName := ⟨RX5, "goDay", "()V"⟩
abbrev cX5_refusal : ByteArray := prog_7_method_25_code
def yX5_refusal : MethodName := ⟨RX5, "refusal", "()I"⟩
abbrev cX5_judge : ByteArray := prog_7_method_26_code
def yX5_judge : MethodName := ⟨RX5, "judge", "(I)I"⟩
abbrev cX5_behind : ByteArray := prog_7_method_27_code
def yX5_behind : MethodName := ⟨RX5, "behind", "(II)I"⟩
abbrev cX5_ditch : ByteArray := prog_7_method_28_code
def yX5_ditch : MethodName := ⟨RX5, "ditch", "()I"⟩
abbrev cX5_done : ByteArray := prog_7_method_29_code
def yX5_done : MethodName := ⟨RX5, "done", "()I"⟩
abbrev cX5_first : ByteArray := prog_7_method_30_code
def yX5_first : MethodName := ⟨RX5, "first", "(I)I"⟩
abbrev cX5_takes : ByteArray := prog_7_method_31_code
def yX5_takes : MethodName := ⟨RX5, "takes", "(II)I"⟩
abbrev cX5_takesIf : ByteArray := prog_7_method_32_code
def yX5_takesIf : MethodName := ⟨RX5, "takesIf", "(II)I"⟩
abbrev cX5_layNow : ByteArray := prog_7_method_33_code
def yX5_layNow : MethodName := ⟨RX5, "layNow", "()V"⟩
abbrev cX5_robbed : ByteArray := prog_7_method_34_code
def yX5_robbed : MethodName := ⟨RX5, "robbed", "(I)I"⟩
abbrev cX5_wanting : ByteArray := prog_7_method_35_code
def yX5_wanting : MethodName := ⟨RX5, "wanting", "(I)I"⟩
abbrev cX5_hoursNow : ByteArray := prog_7_method_36_code
def yX5_hoursNow : MethodName := ⟨RX5, "hoursNow", "()I"⟩
abbrev cX5_isEnoughIn : ByteArray := prog_7_method_37_code
def yX5_isEnoughIn : MethodName := ⟨RX5, "isEnoughIn", "(I)Z"⟩
abbrev cX5_hours : ByteArray := prog_7_method_38_code
def yX5_hours : MethodName := ⟨RX5, "hours", "()I"⟩
abbrev cX5_isTerm : ByteArray := prog_7_method_39_code
def yX5_isTerm : MethodName := ⟨RX5, "isTerm", "(I)Z"⟩
abbrev cX5_spring : ByteArray := prog_7_method_40_code
def yX5_spring : MethodName := ⟨RX5, "spring", "(I)I"⟩
abbrev cX5_narrow : ByteArray := prog_7_method_41_code
def yX5_narrow : MethodName := ⟨RX5, "narrow", "(II)I"⟩
abbrev cX5_highest : ByteArray := prog_7_method_42_code
def yX5_highest : MethodName := ⟨RX5, "highest", "(II)I"⟩
abbrev cX5_takesNew : ByteArray := prog_7_method_43_code
def yX5_takesNew : MethodName := ⟨RX5, "takesNew", "(III)I"⟩
abbrev cX5_bored : ByteArray := prog_7_method_44_code
def yX5_bored : MethodName := ⟨RX5, "bored", "(III)I"⟩
abbrev cX5_isFairBy : ByteArray := prog_7_method_45_code
def yX5_isFairBy : MethodName := ⟨RX5, "isFairBy", "(I)Z"⟩
abbrev cX5_fair : ByteArray := prog_7_method_46_code
def yX5_fair : MethodName := ⟨RX5, "fair", "()I"⟩
abbrev cX5_dry : ByteArray := prog_7_method_47_code
def yX5_dry : MethodName := ⟨RX5, "dry", "(I)I"⟩
abbrev cX5_seen : ByteArray := prog_7_method_48_code
def yX5_seen : MethodName := ⟨RX5, "seen", "(II)I"⟩
abbrev cX5_forget : ByteArray := prog_7_method_49_code
def yX5_forget : MethodName := ⟨RX5, "forget", "()I"⟩
abbrev cX5_isHeardSo : ByteArray := prog_7_method_50_code
def yX5_isHeardSo : MethodName := ⟨RX5, "isHeardSo", "()Z"⟩
abbrev cX5_leaksBy : ByteArray := prog_7_method_51_code
def yX5_leaksBy : MethodName := ⟨RX5, "leaksBy", "(II)Z"⟩
abbrev cX5_leak : ByteArray := prog_7_method_52_code
def yX5_leak : MethodName := ⟨RX5, "leak", "(I)I"⟩
abbrev cX5_borer : ByteArray := prog_7_method_53_code
def yX5_borer : MethodName := ⟨RX5, "borer", "(I)I"⟩
abbrev cX5_mostLeftAt : ByteArray := prog_7_method_54_code
def yX5_mostLeftAt : MethodName := ⟨RX5, "mostLeftAt", "(I)I"⟩
abbrev cX5_listen : ByteArray := prog_7_method_55_code
def yX5_listen : MethodName := ⟨RX5, "listen", "(I)I"⟩
abbrev cX5_layMembers : ByteArray := prog_7_method_56_code
def yX5_layMembers : MethodName := ⟨RX5, "layMembers", "(I)V"⟩
abbrev cX5_gainOf : ByteArray := prog_7_method_57_code
def yX5_gainOf : MethodName := ⟨RX5, "gainOf", "(II)I"⟩
abbrev cX5_isRest : ByteArray := prog_7_method_58_code
def yX5_isRest : MethodName := ⟨RX5, "isRest", "()Z"⟩
abbrev cX5_layWidths : ByteArray := prog_7_method_59_code
def yX5_layWidths : MethodName := ⟨RX5, "layWidths", "(I)I"⟩
abbrev cX5_rests : ByteArray := prog_7_method_60_code
def yX5_rests : MethodName := ⟨RX5, "rests", "(II)I"⟩
abbrev cX5_lowest : ByteArray := prog_7_method_61_code
def yX5_lowest : MethodName := ⟨RX5, "lowest", "(JJI)J"⟩
abbrev cX5_power : ByteArray := prog_7_method_62_code
def yX5_power : MethodName := ⟨RX5, "power", "(II)J"⟩
abbrev cX5_frost : ByteArray := prog_7_method_63_code
def yX5_frost : MethodName := ⟨RX5, "frost", "(IIIII)J"⟩
abbrev cX5_kindBy : ByteArray := prog_7_method_64_code
def yX5_kindBy : MethodName := ⟨RX5, "kindBy", "(I)I"⟩
abbrev cX5_year : ByteArray := prog_7_method_65_code
def yX5_year : MethodName := ⟨RX5, "year", "(III)I"⟩
abbrev cX5_pass : ByteArray := prog_7_method_66_code
def yX5_pass : MethodName := ⟨RX5, "pass", "(I)I"⟩
abbrev cX5_passAll : ByteArray := prog_7_method_67_code
def yX5_passAll : MethodName := ⟨RX5, "passAll", "()V"⟩
abbrev cX5_image : ByteArray := prog_7_method_68_code
def yX5_image : MethodName := ⟨RX5, "image", "(I)I"⟩
abbrev cX5_restore : ByteArray := prog_7_method_69_code
def yX5_restore : MethodName := ⟨RX5, "restore", "(I)I"⟩
abbrev cX5_told : ByteArray := prog_7_method_70_code
def yX5_told : MethodName := ⟨RX5, "told", "(I)I"⟩
def RJ6 : String := "java/lang/Integer"
def TJ6 : u_T := fun k => match k with
  | _ => ("", "", "", false)
def tyJ6 : Nat → FieldType := fun k => match k with
  | _ => .int
abbrev cJ6_bitCount_0f7a4 : ByteArray := prog_8_method_49_code
def yJ6_bitCount_0f7a4 : MethodName := ⟨RJ6, "bitCount", "(I)I"⟩
def RJ9 : String := "java/lang/Math"
def TJ9 : u_T := fun k => match k with
  | _ => ("", "", "", false)
def tyJ9 : Nat → FieldType := fun k => match k with
  | _ => .int
abbrev cJ9_max_7cf53 : ByteArray := prog_9_method_65_code
def yJ9_max_7cf53 : MethodName := ⟨RJ9, "max", "(II)I"⟩
abbrev cJ9_max_f86c9 : ByteArray := prog_9_method_66_code
def yJ9_max_f86c9 : MethodName := ⟨RJ9, "max", "(JJ)J"⟩
abbrev cJ9_min_7cf53 : ByteArray := prog_9_method_69_code
def yJ9_min_7cf53 : MethodName := ⟨RJ9, "min", "(II)I"⟩
def RJ10 : String := "java/lang/System"
def TJ10 : u_T := fun k => match k with
  | _ => ("", "", "", false)
def tyJ10 : Nat → FieldType := fun k => match k with
  | _ => .int
def RL : String := "SpringFarmsLaw"
abbrev cL_law : ByteArray := code
def yL_law : MethodName := ⟨RL, "law", "([I)Z"⟩
end
section
/-! ===== the one world of this claim: cells by number; a memory of whole numbers; contracts over it ===== -/
def vi (z : Int) : Value := .int (Int32.ofInt z)
def vl (z : Int) : Value := .long (Int64.ofInt z)
def inr (z : Int) : Prop := -2147483648 ≤ z ∧ z ≤ 2147483647
def inl (z : Int) : Prop := -9223372036854775808 ≤ z ∧ z ≤ 9223372036854775807
def gm (al : Nat → Nat) (v : Value) : Value := match v with
  | .ref i => .ref (al i)
  | v => v
abbrev classes : List vw_C := [(RX0, TX0, 6), (RX1, TX1, 5), (RX2, TX2, 3), (RX3, TX3, 7), (RX4, TX4, 12), (RX5, TX5, 32)]
abbrev MM : Type := Nat → Nat → Int
abbrev NN : Type := Nat → Nat → Bool
-- what a cell is: 0..5 an object of that class, 10 an int array, 11 a boolean array, 12 an array of rows
def kdl : List Nat := [4, 3,10,10,10,10, 3,10,10,10,10, 12, 2,10,10, 2,10,10, 1,10,10,10, 0, 3,10,10,10,10, 2,10,10, 10, 10,10,10,10, 3,10,10,10,10, 3,10,10,10,10, 99,99,99,99, 5, 10,10,10,10,10,10,10,10,10,10,10,10,10,10,10, 11]
def kd (i : Nat) : Nat := kdl.getD i 99
def lnl : List Nat := [12, 7,63,3,8,8, 7,63,3,8,8, 2, 3,9,9, 3,9,9, 5,60,60,60, 6, 7,63,3,8,8, 3,9,9, 9, 90,3,375,450, 7,63,3,8,8, 7,63,3,8,8, 0,0,0,0, 32, 63,8,8,60,60,60,9,9,63,9,9,9,90,9,200, 2]
def ln (i : Nat) : Nat := lnl.getD i 0
def tg4 (k : Nat) : Option Nat := match k with
  | 0 => some 1 | 1 => some 6 | 2 => some 11 | 3 => some 12 | 4 => some 15 | 5 => some 18 | 6 => some 22 | 7 => some 32 | 8 => some 33 | 9 => some 34 | 10 => some 35 | _ => none
def tg5 (k : Nat) : Option Nat := match k with
  | 1 => some 51 | 6 => some 52 | 7 => some 53 | 9 => some 54 | 11 => some 55 | 12 => some 56 | 14 => some 57 | 15 => some 58 | 17 => some 59 | 22 => some 60 | 23 => some 61 | 24 => some 62 | 25 => some 63 | 26 => some 64 | 28 => some 65 | 29 => some 66 | _ => none
/-- the one cell that a slot of references may hold -/
def tg (i k : Nat) : Option Nat := match kd i with
  | 0 => (match k with | 0 => some 23 | 1 => some 28 | 2 => some 31 | _ => none)
  | 1 => (match k with | 0 => some 19 | 2 => some 20 | 3 => some 21 | _ => none)
  | 2 => (match k with | 0 => some (i + 1) | 1 => some (i + 2) | _ => none)
  | 3 => (match k with | 3 => some (i + 1) | 4 => some (i + 2) | 5 => some (i + 3) | 6 => some (i + 4) | _ => none)
  | 4 => tg4 k
  | 5 => tg5 k
  | 12 => (match k with | 0 => some 36 | 1 => some 41 | _ => none)
  | _ => none
-- the static arrays, cells 70 to 74, and what they hold; 80 is the script
def stn : Nat → String := fun k => match k with | 0 => "RATE_AT_FIRST" | 1 => "FACT_AT_FIRST" | 2 => "FACT_MOST" | 3 => "RATE_MOST" | _ => "FACT_BEHIND"
def stl : Nat → List Int := fun k => match k with | 0 => [20, 10, 5] | 1 => [0, 1, 5, 0, 0, 0, 0] | 2 => [50, 9, 99, 1, 1, 9, 999] | 3 => [99, 50, 50] | _ => [6, 0, 1, 4]
def up (I : MM) (i k : Nat) (v : Int) : MM := fun a b => if a = i ∧ b = k then v else I a b
def upN (N : NN) (i k : Nat) : NN := fun a b => if a = i ∧ b = k then false else N a b
def cpI (I : MM) (i sp j dp n : Nat) : MM := fun a b => if a = j ∧ dp ≤ b ∧ b < dp + n then I i (sp + (b - dp)) else I a b
def nwI (I : MM) (i : Nat) : MM := fun a b => if a = i then 0 else I a b
def nwN (N : NN) (i : Nat) : NN := fun a b => if a = i then (tg i b).isSome else N a b
def sv (al : Nat → Nat) (N : NN) (I : MM) (i k : Nat) : Value := match tg i k with
  | some j => if N i k = true then .null else .ref (al j)
  | none => vi (I i k)
def rq (al : Nat → Nat) (N : NN) (i : Nat) : Nat → Option Nat := fun k => match tg i k with
  | some j => if N i k = true then none else some (al j)
  | none => none
def ia (I : MM) (i : Nat) : Nat → Int32 := fun j => Int32.ofInt (I i j)
def ent (cA : Nat → ClassId) (al : Nat → Nat) (N : NN) (I : MM) (i : Nat) : va_E :=
  if kd i = 10 then .inl (cA 0, ln i, .inl (ia I i)) else if kd i = 11 then .inl (cA 1, ln i, .inl (ia I i)) else if kd i = 12 then .inl (cA 2, ln i, .inr (.inr (.inr (.inr (rq al N i))))) else .inr (kd i, (List.range (ln i)).map (sv al N I i))
def wl (cA : Nat → ClassId) (al : Nat → Nat) (K : List Nat) (N : NN) (I : MM) : va_W := K.map (fun i => (al i, ent cA al N I i))
abbrev tysL (cA : Nat → ClassId) : List (ClassId × FieldType) := [(cA 0, .int), (cA 1, .boolean), (cA 2, .object RX3)]
/-- what a whole run keeps: the classes' numbers and slots, the arrays' classes, where the static arrays and the script lie, where the world begins, the launch -/
abbrev GT : Type := va_G × (Nat → ClassId) × (Nat → Nat) × Nat × Launch
abbrev Ab (G : GT) : Nat → Prop := fun q => G.2.2.2.1 ≤ q
def RepW (G : GT) (al : Nat → Nat) (K : List Nat) (N : NN) (I : MM) (H : Heap) : Prop :=
  va_P G.1 classes (wl G.2.1 al K N I) H ∧ va_D (Ab G) (wl G.2.1 al K N I) ∧ (∀ k, al (70 + k) = G.2.2.1 k) ∧ (∀ i, i ∈ K → i < 70) ∧ ∀ i, i ∈ K → ∀ k j, tg i k = some j → N i k = false → j ∈ K
def Wd : List Cond := lw_tbl.filter goodWord
def nests : List Cond := [.fieldLinkNest RX3 24 RX4 "RATE_AT_FIRST" "[I" RX4, .fieldLinkNest RX3 47 RX4 "FACT_AT_FIRST" "[I" RX4, .fieldLinkNest RX3 67 RX4 "FACT_MOST" "[I" RX4, .methodLinkNest RX4 25 yX2_init RX4, .methodLinkNest RX4 35 yX1_init RX4, .methodLinkNest RX4 42 yX0_init RX4, .methodLinkNest RX0 20 yX2_init RX4]
def EnvW (G : GT) (U : State) : Prop := va_K G.1 classes (tysL G.2.1) U ∧ (∀ k, k < 5 → va_Z RX4 (stn k) "[I" (.ref (G.2.2.1 k)) (Ab G) U U.heap ∧ va_T .int (G.2.2.1 k) (stl k).length (fun j => vi ((stl k).getD j 0)) (Ab G) U U.heap) ∧ (∀ w, w ∈ nests → va_Nw w U) ∧ va_AO RX3 U
theorem EnvW.moved {G : GT} {u U : State} (hW : u.WarmedH U.vm) (hz : u.heap.size ≤ U.heap.size) (hq : ∀ a : Nat, a < u.heap.size → ¬ Ab G a → U.heap[a]? = u.heap[a]?) (h : EnvW G u) : EnvW G U := by
  obtain ⟨h1, h2, h3, h4⟩ := h
  refine ⟨h1.moved hW.alike, fun k hk => ⟨((h2 k hk).1.moved hW.alike).kept hq, ((h2 k hk).2.moved hW.alike).kept hq⟩, fun w hw => ?_, ?_⟩
  · have hz := h3 w hw
    simp only [nests, List.mem_cons, List.not_mem_nil, or_false] at hw
    rcases hw with rfl | rfl | rfl | rfl | rfl | rfl | rfl
    · exact va_Nw.warmF hW hz
    · exact va_Nw.warmF hW hz
    · exact va_Nw.warmF hW hz
    · exact va_Nw.warmM hW hz
    · exact va_Nw.warmM hW hz
    · exact va_Nw.warmM hW hz
    · exact va_Nw.warmM hW hz
  · exact va_AO.moved hW.alike h4
-- ==== FRAMES ====
def LocW (al : Nat → Nat) (nL : Nat) (ls : Array Slot) (L : List (Option Value)) : Prop := ls.size = nL ∧ lv_wf ls ∧ L.length ≤ nL ∧ ∀ (i : Nat) (v : Value), L[i]? = some (some v) → ls[i]? = some (.val (gm al v))
def okv (K : List Nat) (v : Value) : Prop := match v with
  | .ref i => i ∈ K ∨ 70 ≤ i
  | _ => True
def okS (K : List Nat) (S : List Value) : Prop := ∀ v, v ∈ S → okv K v
def okL (K : List Nat) (L : List (Option Value)) : Prop := ∀ (i : Nat) (v : Value), L[i]? = some (some v) → okv K v
abbrev FxT : Type := Program × Env × State × MethodId × Array Value × List Frame × Method × Code × (State → Prop) × Nat × (Nat → Nat) × List Nat
def OkW (G : GT) (own : String) (cc : ByteArray) (Fx : FxT) : Prop := match Fx with
  | (p, e, s, m, args, below, meth, c, Q, nL, a0, K0) => p.tables.exec = Jvm.exec ∧ c.code = cc ∧ c.maxLocals = nL ∧ s.vm.findClass own = some m.cls ∧ (∀ w, w ∈ Wd → w.before args s = true) ∧ EnvW G s ∧ (∀ q : Nat, s.heap.size ≤ q → Ab G q)
def StW (G : GT) (a0 : Nat → Nat) (K0 : List Nat) (nL : Nat) (s : State) (al : Nat → Nat) (H : Heap) (locs : List Loc) (ls : Array Slot) (L : List (Option Value)) (S : List Value) (K : List Nat) (N : NN) (I : MM) : Prop :=
  RepW G al K N I H ∧ va_S (Ab G) s.heap H locs ∧ LocW al nL ls L ∧ okL K L ∧ okS K S ∧ (∀ i, (i ∈ K0 ∨ 70 ≤ i) → al i = a0 i) ∧ ∀ i, i ∈ K0 → i ∈ K
def XX (G : GT) (own : String) (cc : ByteArray) (R : Room) (Fx : FxT) (pc : Nat) (L : List (Option Value)) (S : List Value) (K : List Nat) (N : NN) (I : MM) (cs ss : Nat) : Prop := match Fx with
  | (p, e, s, m, args, below, meth, c, Q, nL, a0, K0) => OkW G own cc Fx → ∀ (al : Nat → Nat) (H : Heap) (locs : List Loc) (ls : Array Slot), StW G a0 K0 nL s al H locs ls L S K N I → W p G.2.2.2.2 e R s m args below meth c H locs cs ss Q (F0 m pc ls (S.map (gm al)))
theorem okS.cons {K : List Nat} {S : List Value} {v : Value} (h : okS K S) (hv : okv K v) : okS K (v :: S) := fun w hw => by
  rcases List.mem_cons.mp hw with rfl | hw
  · exact hv
  · exact h w hw
theorem okS.tail {K : List Nat} {S : List Value} {v : Value} (h : okS K (v :: S)) : okS K S := fun w hw => h w (List.mem_cons_of_mem _ hw)
theorem okS.head {K : List Nat} {S : List Value} {v : Value} (h : okS K (v :: S)) : okv K v := h v List.mem_cons_self
theorem StW.to {G : GT} {a0 : Nat → Nat} {K0 : List Nat} {nL : Nat} {s : State} {al : Nat → Nat} {H : Heap} {locs : List Loc} {ls : Array Slot} {L : List (Option Value)} {S S' : List Value} {K : List Nat} {N : NN} {I : MM} (h : StW G a0 K0 nL s al H locs ls L S K N I) (f : okS K S → okS K S') : StW G a0 K0 nL s al H locs ls L S' K N I := ⟨h.1, h.2.1, h.2.2.1, h.2.2.2.1, f h.2.2.2.2.1, h.2.2.2.2.2⟩
theorem oi_toInt {z : Int} (h : inr z) : (Int32.ofInt z).toInt = z := Int32.toInt_ofInt_of_le h.1 (by unfold inr at h; omega)
theorem ol_toInt {z : Int} (h : inl z) : (Int64.ofInt z).toInt = z := Int64.toInt_ofInt_of_le h.1 (by unfold inl at h; omega)
theorem oi_lt {a b : Int} (ha : inr a) (hb : inr b) : Int32.ofInt a < Int32.ofInt b ↔ a < b := by rw [Int32.lt_iff_toInt_lt, oi_toInt ha, oi_toInt hb]
theorem oi_le {a b : Int} (ha : inr a) (hb : inr b) : Int32.ofInt a ≤ Int32.ofInt b ↔ a ≤ b := by rw [Int32.le_iff_toInt_le, oi_toInt ha, oi_toInt hb]
theorem oi_eq {a b : Int} (ha : inr a) (hb : inr b) : Int32.ofInt a = Int32.ofInt b ↔ a = b := by rw [← Int32.toInt_inj, oi_toInt ha, oi_toInt hb]
theorem oi_0 : Int32.ofInt 0 = 0 := rfl
theorem inr0 : inr 0 := by unfold inr; omega
theorem oi_clamp {j : Nat} (h : j < 2147483648) : (Int32.ofInt (j : Int)).toNatClampNeg = j := by
  have h2 : inr (j : Int) := by unfold inr; omega
  show (Int32.ofInt (j : Int)).toInt.toNat = j
  rw [oi_toInt h2]; rfl
theorem oi_in {j n : Nat} (h : j < n) (hn : j < 2147483648) : vp_in (Int32.ofInt (j : Int)) n := by
  intro q
  rcases q with q | q
  · rw [← oi_0, oi_lt (by unfold inr; omega) inr0] at q; omega
  · rw [oi_clamp hn] at q; omega
theorem ln_lt (i : Nat) : ln i < 500 := by
  by_cases h : i < 67
  · exact (by decide : ∀ k, k < 67 → ln k < 500) i h
  · show lnl.getD i 0 < 500
    rw [List.getD_eq_getElem?_getD, List.getElem?_eq_none (by have : lnl.length = 67 := rfl; omega)]
    decide
theorem kd_big {i : Nat} (h : 67 ≤ i) : kd i = 99 := by
  show kdl.getD i 99 = 99
  rw [List.getD_eq_getElem?_getD, List.getElem?_eq_none (by have : kdl.length = 67 := rfl; omega)]
  rfl
theorem okv.mem {K : List Nat} {i : Nat} (h : okv K (.ref i)) (hk : kd i ≠ 99) : i ∈ K := by
  rcases h with h | h
  · exact h
  · exact absurd (kd_big (Nat.le_trans (by decide) (show 70 ≤ i from h))) hk
section FR
variable {G : GT} {own : String} {cc : ByteArray} {R : Room} {Fx : FxT} {pc : Nat} {L : List (Option Value)} {S : List Value} {K : List Nat} {N : NN} {I : MM} {cs ss : Nat}

theorem x_iconst {n : Int} (hd : decode cc pc = .ok (.iconst n, 1)) (h : XX G own cc R Fx (pc + 1) L (vi n :: S) K N I cs ss) : XX G own cc R Fx pc L (S) K N I cs ss := by
  obtain ⟨p, e, s, m, args, below, meth, c, Q, nL, a0, K0⟩ := Fx
  intro ok al H locs ls st
  obtain ⟨hx, hb, hml, hown, hts, hE, hA⟩ := id ok
  have k := h ok al H locs ls (st.to (fun q => q.cons trivial))
  exact lv_iconst hx hb hd rfl k
theorem x_bipush {n : Int} (hd : decode cc pc = .ok (.bipush n, 2)) (hn : -128 ≤ n ∧ n ≤ 127) (h : XX G own cc R Fx (pc + 2) L (vi n :: S) K N I cs ss) : XX G own cc R Fx pc L (S) K N I cs ss := by
  obtain ⟨p, e, s, m, args, below, meth, c, Q, nL, a0, K0⟩ := Fx
  intro ok al H locs ls st
  obtain ⟨hx, hb, hml, hown, hts, hE, hA⟩ := id ok
  have k := h ok al H locs ls (st.to (fun q => q.cons trivial))
  exact lv_bipush hx hb hd (by rw [← Int8.ofInt_toInt (Int8.ofInt n)] ; rw [Int8.toInt_ofInt_of_le (by omega) (by omega)]; exact Int32.toInt_inj.mp (by rw [Int8.toInt_toInt32, Int8.toInt_ofInt_of_le (by omega) (by omega), oi_toInt (by unfold inr; omega)])) k
theorem x_sipush {n : Int} (hd : decode cc pc = .ok (.sipush n, 3)) (hn : -32768 ≤ n ∧ n ≤ 32767) (h : XX G own cc R Fx (pc + 3) L (vi n :: S) K N I cs ss) : XX G own cc R Fx pc L (S) K N I cs ss := by
  obtain ⟨p, e, s, m, args, below, meth, c, Q, nL, a0, K0⟩ := Fx
  intro ok al H locs ls st
  obtain ⟨hx, hb, hml, hown, hts, hE, hA⟩ := id ok
  have k := h ok al H locs ls (st.to (fun q => q.cons trivial))
  exact lv_sipush hx hb hd (Int32.toInt_inj.mp (by rw [Int16.toInt_toInt32, Int16.toInt_ofInt_of_le (by omega) (by omega), oi_toInt (by unfold inr; omega)])) k
theorem x_lconst0  (hd : decode cc pc = .ok (.lconst 0, 1)) (h : XX G own cc R Fx (pc + 1) L (vl 0 :: S) K N I cs ss) : XX G own cc R Fx pc L (S) K N I cs ss := by
  obtain ⟨p, e, s, m, args, below, meth, c, Q, nL, a0, K0⟩ := Fx
  intro ok al H locs ls st
  obtain ⟨hx, hb, hml, hown, hts, hE, hA⟩ := id ok
  have k := h ok al H locs ls (st.to (fun q => q.cons trivial))
  exact lv_lconst hx hb hd rfl k
theorem x_lconst1  (hd : decode cc pc = .ok (.lconst 1, 1)) (h : XX G own cc R Fx (pc + 1) L (vl 1 :: S) K N I cs ss) : XX G own cc R Fx pc L (S) K N I cs ss := by
  obtain ⟨p, e, s, m, args, below, meth, c, Q, nL, a0, K0⟩ := Fx
  intro ok al H locs ls st
  obtain ⟨hx, hb, hml, hown, hts, hE, hA⟩ := id ok
  have k := h ok al H locs ls (st.to (fun q => q.cons trivial))
  exact lv_lconst hx hb hd rfl k
theorem x_ldc {n : Int} {x : Nat} (hd : decode cc pc = .ok (.ldc x, 2)) (hw : Cond.constant own x (Int32.ofInt n) ∈ Wd) (h : XX G own cc R Fx (pc + 2) L (vi n :: S) K N I cs ss) : XX G own cc R Fx pc L (S) K N I cs ss := by
  obtain ⟨p, e, s, m, args, below, meth, c, Q, nL, a0, K0⟩ := Fx
  intro ok al H locs ls st
  obtain ⟨hx, hb, hml, hown, hts, hE, hA⟩ := id ok
  have k := h ok al H locs ls (st.to (fun q => q.cons trivial))
  exact lv_ldc hx hb hown (hts _ hw) hd k
theorem x_ldc2 {n : Int} {x : Nat} (hd : decode cc pc = .ok (.ldc2_w x, 3)) (hw : Cond.constantLong own x (Int64.ofInt n) ∈ Wd) (h : XX G own cc R Fx (pc + 3) L (vl n :: S) K N I cs ss) : XX G own cc R Fx pc L (S) K N I cs ss := by
  obtain ⟨p, e, s, m, args, below, meth, c, Q, nL, a0, K0⟩ := Fx
  intro ok al H locs ls st
  obtain ⟨hx, hb, hml, hown, hts, hE, hA⟩ := id ok
  have k := h ok al H locs ls (st.to (fun q => q.cons trivial))
  exact lv_ldc2 hx hb hown (hts _ hw) hd k
theorem x_iload_n {i : Fin 4} {z : Int} (hd : decode cc pc = .ok (.iload_n i, 1)) (hl : L[(i : Nat)]? = some (some (vi z))) (h : XX G own cc R Fx (pc + 1) L (vi z :: S) K N I cs ss) : XX G own cc R Fx pc L (S) K N I cs ss := by
  obtain ⟨p, e, s, m, args, below, meth, c, Q, nL, a0, K0⟩ := Fx
  intro ok al H locs ls st
  obtain ⟨hx, hb, hml, hown, hts, hE, hA⟩ := id ok
  have k := h ok al H locs ls (st.to (fun q => q.cons (st.2.2.2.1 _ _ hl)))
  exact lv_iload_n hx hb hd rfl (st.2.2.1.2.2.2 _ _ hl) k
theorem x_iload {i : Nat} {z : Int} (hd : decode cc pc = .ok (.iload i, 2)) (hl : L[(i : Nat)]? = some (some (vi z))) (h : XX G own cc R Fx (pc + 2) L (vi z :: S) K N I cs ss) : XX G own cc R Fx pc L (S) K N I cs ss := by
  obtain ⟨p, e, s, m, args, below, meth, c, Q, nL, a0, K0⟩ := Fx
  intro ok al H locs ls st
  obtain ⟨hx, hb, hml, hown, hts, hE, hA⟩ := id ok
  have k := h ok al H locs ls (st.to (fun q => q.cons (st.2.2.2.1 _ _ hl)))
  exact lv_iload hx hb hd (st.2.2.1.2.2.2 _ _ hl) k
theorem x_lload_n {i : Fin 4} {z : Int} (hd : decode cc pc = .ok (.lload_n i, 1)) (hl : L[(i : Nat)]? = some (some (vl z))) (h : XX G own cc R Fx (pc + 1) L (vl z :: S) K N I cs ss) : XX G own cc R Fx pc L (S) K N I cs ss := by
  obtain ⟨p, e, s, m, args, below, meth, c, Q, nL, a0, K0⟩ := Fx
  intro ok al H locs ls st
  obtain ⟨hx, hb, hml, hown, hts, hE, hA⟩ := id ok
  have k := h ok al H locs ls (st.to (fun q => q.cons (st.2.2.2.1 _ _ hl)))
  exact lv_lload_n hx hb hd rfl (st.2.2.1.2.2.2 _ _ hl) k
theorem x_lload {i : Nat} {z : Int} (hd : decode cc pc = .ok (.lload i, 2)) (hl : L[(i : Nat)]? = some (some (vl z))) (h : XX G own cc R Fx (pc + 2) L (vl z :: S) K N I cs ss) : XX G own cc R Fx pc L (S) K N I cs ss := by
  obtain ⟨p, e, s, m, args, below, meth, c, Q, nL, a0, K0⟩ := Fx
  intro ok al H locs ls st
  obtain ⟨hx, hb, hml, hown, hts, hE, hA⟩ := id ok
  have k := h ok al H locs ls (st.to (fun q => q.cons (st.2.2.2.1 _ _ hl)))
  exact lv_lload hx hb hd (st.2.2.1.2.2.2 _ _ hl) k
theorem x_aload_n {i : Fin 4} {z : Nat} (hd : decode cc pc = .ok (.aload_n i, 1)) (hl : L[(i : Nat)]? = some (some (.ref z))) (h : XX G own cc R Fx (pc + 1) L (.ref z :: S) K N I cs ss) : XX G own cc R Fx pc L (S) K N I cs ss := by
  obtain ⟨p, e, s, m, args, below, meth, c, Q, nL, a0, K0⟩ := Fx
  intro ok al H locs ls st
  obtain ⟨hx, hb, hml, hown, hts, hE, hA⟩ := id ok
  have k := h ok al H locs ls (st.to (fun q => q.cons (st.2.2.2.1 _ _ hl)))
  exact lv_aload_n hx hb hd rfl (st.2.2.1.2.2.2 _ _ hl) k
theorem x_aload {i : Nat} {z : Nat} (hd : decode cc pc = .ok (.aload i, 2)) (hl : L[(i : Nat)]? = some (some (.ref z))) (h : XX G own cc R Fx (pc + 2) L (.ref z :: S) K N I cs ss) : XX G own cc R Fx pc L (S) K N I cs ss := by
  obtain ⟨p, e, s, m, args, below, meth, c, Q, nL, a0, K0⟩ := Fx
  intro ok al H locs ls st
  obtain ⟨hx, hb, hml, hown, hts, hE, hA⟩ := id ok
  have k := h ok al H locs ls (st.to (fun q => q.cons (st.2.2.2.1 _ _ hl)))
  exact lv_aload hx hb hd (st.2.2.1.2.2.2 _ _ hl) k
theorem x_aload_nN {i : Fin 4} (hd : decode cc pc = .ok (.aload_n i, 1)) (hl : L[(i : Nat)]? = some (some .null)) (h : XX G own cc R Fx (pc + 1) L (.null :: S) K N I cs ss) : XX G own cc R Fx pc L (S) K N I cs ss := by
  obtain ⟨p, e, s, m, args, below, meth, c, Q, nL, a0, K0⟩ := Fx
  intro ok al H locs ls st
  obtain ⟨hx, hb, hml, hown, hts, hE, hA⟩ := id ok
  have k := h ok al H locs ls (st.to (fun q => q.cons trivial))
  exact lv_aload_nN hx hb hd rfl (st.2.2.1.2.2.2 _ _ hl) k
theorem x_iadd {a b : Int} (hd : decode cc pc = .ok (.iadd, 1)) (h : XX G own cc R Fx (pc + 1) L (vi (a + b) :: S) K N I cs ss) : XX G own cc R Fx pc L (vi b :: vi a :: S) K N I cs ss := by
  obtain ⟨p, e, s, m, args, below, meth, c, Q, nL, a0, K0⟩ := Fx
  intro ok al H locs ls st
  obtain ⟨hx, hb, hml, hown, hts, hE, hA⟩ := id ok
  have k := h ok al H locs ls (st.to (fun q => q.tail.tail.cons trivial))
  exact lv_iadd hx hb hd (by rw [← Int32.ofInt_add]; exact k)
theorem x_isub {a b : Int} (hd : decode cc pc = .ok (.isub, 1)) (h : XX G own cc R Fx (pc + 1) L (vi (a - b) :: S) K N I cs ss) : XX G own cc R Fx pc L (vi b :: vi a :: S) K N I cs ss := by
  obtain ⟨p, e, s, m, args, below, meth, c, Q, nL, a0, K0⟩ := Fx
  intro ok al H locs ls st
  obtain ⟨hx, hb, hml, hown, hts, hE, hA⟩ := id ok
  have k := h ok al H locs ls (st.to (fun q => q.tail.tail.cons trivial))
  exact lv_isub hx hb hd (by rw [← Int32.ofInt_sub]; exact k)
theorem x_imul {a b : Int} (hd : decode cc pc = .ok (.imul, 1)) (h : XX G own cc R Fx (pc + 1) L (vi (a * b) :: S) K N I cs ss) : XX G own cc R Fx pc L (vi b :: vi a :: S) K N I cs ss := by
  obtain ⟨p, e, s, m, args, below, meth, c, Q, nL, a0, K0⟩ := Fx
  intro ok al H locs ls st
  obtain ⟨hx, hb, hml, hown, hts, hE, hA⟩ := id ok
  have k := h ok al H locs ls (st.to (fun q => q.tail.tail.cons trivial))
  exact lv_imul hx hb hd (by rw [← Int32.ofInt_mul]; exact k)
theorem x_ladd {a b : Int} (hd : decode cc pc = .ok (.ladd, 1)) (h : XX G own cc R Fx (pc + 1) L (vl (a + b) :: S) K N I cs ss) : XX G own cc R Fx pc L (vl b :: vl a :: S) K N I cs ss := by
  obtain ⟨p, e, s, m, args, below, meth, c, Q, nL, a0, K0⟩ := Fx
  intro ok al H locs ls st
  obtain ⟨hx, hb, hml, hown, hts, hE, hA⟩ := id ok
  have k := h ok al H locs ls (st.to (fun q => q.tail.tail.cons trivial))
  exact lv_ladd hx hb hd (by rw [← Int64.ofInt_add]; exact k)
theorem x_lmul {a b : Int} (hd : decode cc pc = .ok (.lmul, 1)) (h : XX G own cc R Fx (pc + 1) L (vl (a * b) :: S) K N I cs ss) : XX G own cc R Fx pc L (vl b :: vl a :: S) K N I cs ss := by
  obtain ⟨p, e, s, m, args, below, meth, c, Q, nL, a0, K0⟩ := Fx
  intro ok al H locs ls st
  obtain ⟨hx, hb, hml, hown, hts, hE, hA⟩ := id ok
  have k := h ok al H locs ls (st.to (fun q => q.tail.tail.cons trivial))
  exact lv_lmul hx hb hd (by rw [← Int64.ofInt_mul]; exact k)
theorem oi_ne0 {b : Int} (hb : inr b) (h : b ≠ 0) : ¬ Int32.ofInt b = 0 := by rw [← oi_0, oi_eq hb inr0]; exact h
theorem ol_eq {a b : Int} (ha : inl a) (hb : inl b) : Int64.ofInt a = Int64.ofInt b ↔ a = b := by rw [← Int64.toInt_inj, ol_toInt ha, ol_toInt hb]
theorem ol_ne0 {b : Int} (hb : inl b) (h : b ≠ 0) : ¬ Int64.ofInt b = 0 := by rw [show (0 : Int64) = Int64.ofInt 0 from rfl, ol_eq hb (by unfold inl; omega)]; exact h
theorem oi_div {a b : Int} (ha : 0 ≤ a ∧ inr a) (hb : 0 < b ∧ inr b) : Int32.ofInt a / Int32.ofInt b = Int32.ofInt (a / b) := by
  have hq : inr (a / b) := by
    have h1 : 0 ≤ a / b := Int.ediv_nonneg ha.1 (Int.le_of_lt hb.1)
    have h2 : a / b ≤ a := Int.ediv_le_self b ha.1
    have := ha.2; unfold inr at *; omega
  apply Int32.toInt_inj.mp
  rw [Int32.toInt_div_of_ne_right _ _ (by rw [show (-1 : Int32) = Int32.ofInt (-1) from rfl, Ne, oi_eq hb.2 (by unfold inr; omega)]; omega), oi_toInt ha.2, oi_toInt hb.2, oi_toInt hq, Int.tdiv_eq_ediv_of_nonneg ha.1]
theorem ol_div {a b : Int} (ha : 0 ≤ a ∧ inl a) (hb : 0 < b ∧ inl b) : Int64.ofInt a / Int64.ofInt b = Int64.ofInt (a / b) := by
  have hq : inl (a / b) := by
    have h1 : 0 ≤ a / b := Int.ediv_nonneg ha.1 (Int.le_of_lt hb.1)
    have h2 : a / b ≤ a := Int.ediv_le_self b ha.1
    have := ha.2; unfold inl at *; omega
  apply Int64.toInt_inj.mp
  rw [Int64.toInt_div_of_ne_right _ _ (by rw [show (-1 : Int64) = Int64.ofInt (-1) from rfl, Ne, ol_eq hb.2 (by unfold inl; omega)]; omega), ol_toInt ha.2, ol_toInt hb.2, ol_toInt hq, Int.tdiv_eq_ediv_of_nonneg ha.1]
theorem oi_rem {a b : Int} (ha : 0 ≤ a ∧ inr a) (hb : 0 < b ∧ inr b) : Int32.ofInt a - Int32.ofInt a / Int32.ofInt b * Int32.ofInt b = Int32.ofInt (a % b) := by
  rw [oi_div ha hb, ← Int32.ofInt_mul, ← Int32.ofInt_sub]
  congr 1
  rw [Int.emod_def, Int.mul_comm b]
theorem ol_rem {a b : Int} (ha : 0 ≤ a ∧ inl a) (hb : 0 < b ∧ inl b) : Int64.ofInt a - Int64.ofInt a / Int64.ofInt b * Int64.ofInt b = Int64.ofInt (a % b) := by
  rw [ol_div ha hb, ← Int64.ofInt_mul, ← Int64.ofInt_sub]
  congr 1
  rw [Int.emod_def, Int.mul_comm b]
theorem x_idiv {a b : Int} (hd : decode cc pc = .ok (.idiv, 1)) (ha : 0 ≤ a ∧ inr a) (hz : 0 < b ∧ inr b) (h : XX G own cc R Fx (pc + 1) L (vi (a / b) :: S) K N I cs ss) : XX G own cc R Fx pc L (vi b :: vi a :: S) K N I cs ss := by
  obtain ⟨p, e, s, m, args, below, meth, c, Q, nL, a0, K0⟩ := Fx
  intro ok al H locs ls st
  obtain ⟨hx, hb, hml, hown, hts, hE, hA⟩ := id ok
  have k := h ok al H locs ls (st.to (fun q => q.tail.tail.cons trivial))
  exact lv_idiv hx hb hd (oi_ne0 hz.2 (by omega)) (by rw [oi_div ha hz]; exact k)
theorem x_irem {a b : Int} (hd : decode cc pc = .ok (.irem, 1)) (ha : 0 ≤ a ∧ inr a) (hz : 0 < b ∧ inr b) (h : XX G own cc R Fx (pc + 1) L (vi (a % b) :: S) K N I cs ss) : XX G own cc R Fx pc L (vi b :: vi a :: S) K N I cs ss := by
  obtain ⟨p, e, s, m, args, below, meth, c, Q, nL, a0, K0⟩ := Fx
  intro ok al H locs ls st
  obtain ⟨hx, hb, hml, hown, hts, hE, hA⟩ := id ok
  have k := h ok al H locs ls (st.to (fun q => q.tail.tail.cons trivial))
  exact lv_irem hx hb hd (oi_ne0 hz.2 (by omega)) (by rw [oi_rem ha hz]; exact k)
theorem x_ldiv {a b : Int} (hd : decode cc pc = .ok (.ldiv, 1)) (ha : 0 ≤ a ∧ inl a) (hz : 0 < b ∧ inl b) (h : XX G own cc R Fx (pc + 1) L (vl (a / b) :: S) K N I cs ss) : XX G own cc R Fx pc L (vl b :: vl a :: S) K N I cs ss := by
  obtain ⟨p, e, s, m, args, below, meth, c, Q, nL, a0, K0⟩ := Fx
  intro ok al H locs ls st
  obtain ⟨hx, hb, hml, hown, hts, hE, hA⟩ := id ok
  have k := h ok al H locs ls (st.to (fun q => q.tail.tail.cons trivial))
  exact lv_ldiv hx hb hd (ol_ne0 hz.2 (by omega)) (by rw [ol_div ha hz]; exact k)
theorem x_lrem {a b : Int} (hd : decode cc pc = .ok (.lrem, 1)) (ha : 0 ≤ a ∧ inl a) (hz : 0 < b ∧ inl b) (h : XX G own cc R Fx (pc + 1) L (vl (a % b) :: S) K N I cs ss) : XX G own cc R Fx pc L (vl b :: vl a :: S) K N I cs ss := by
  obtain ⟨p, e, s, m, args, below, meth, c, Q, nL, a0, K0⟩ := Fx
  intro ok al H locs ls st
  obtain ⟨hx, hb, hml, hown, hts, hE, hA⟩ := id ok
  have k := h ok al H locs ls (st.to (fun q => q.tail.tail.cons trivial))
  exact lv_lrem hx hb hd (ol_ne0 hz.2 (by omega)) (by rw [ol_rem ha hz]; exact k)
theorem x_i2l {a : Int} (hd : decode cc pc = .ok (.i2l, 1)) (ha : inr a) (h : XX G own cc R Fx (pc + 1) L (vl a :: S) K N I cs ss) : XX G own cc R Fx pc L (vi a :: S) K N I cs ss := by
  obtain ⟨p, e, s, m, args, below, meth, c, Q, nL, a0, K0⟩ := Fx
  intro ok al H locs ls st
  obtain ⟨hx, hb, hml, hown, hts, hE, hA⟩ := id ok
  have k := h ok al H locs ls (st.to (fun q => q.tail.cons trivial))
  exact lv_i2l hx hb hd (Int64.toInt_inj.mp (by rw [Int32.toInt_toInt64, oi_toInt ha, ol_toInt (by unfold inr at ha; unfold inl; omega)])) k
theorem x_l2i {a : Int} (hd : decode cc pc = .ok (.l2i, 1)) (h : XX G own cc R Fx (pc + 1) L (vi a :: S) K N I cs ss) : XX G own cc R Fx pc L (vl a :: S) K N I cs ss := by
  obtain ⟨p, e, s, m, args, below, meth, c, Q, nL, a0, K0⟩ := Fx
  intro ok al H locs ls st
  obtain ⟨hx, hb, hml, hown, hts, hE, hA⟩ := id ok
  have k := h ok al H locs ls (st.to (fun q => q.tail.cons trivial))
  exact lv_l2i hx hb hd (Int64.toInt32_ofInt) k
theorem x_dupR {i : Nat} (hd : decode cc pc = .ok (.dup, 1)) (h : XX G own cc R Fx (pc + 1) L (.ref i :: .ref i :: S) K N I cs ss) : XX G own cc R Fx pc L (.ref i :: S) K N I cs ss := by
  obtain ⟨p, e, s, m, args, below, meth, c, Q, nL, a0, K0⟩ := Fx
  intro ok al H locs ls st
  obtain ⟨hx, hb, hml, hown, hts, hE, hA⟩ := id ok
  have k := h ok al H locs ls (st.to (fun q => q.cons q.head))
  exact lv_dup hx hb hd rfl k
theorem x_dupI {a : Int} (hd : decode cc pc = .ok (.dup, 1)) (h : XX G own cc R Fx (pc + 1) L (vi a :: vi a :: S) K N I cs ss) : XX G own cc R Fx pc L (vi a :: S) K N I cs ss := by
  obtain ⟨p, e, s, m, args, below, meth, c, Q, nL, a0, K0⟩ := Fx
  intro ok al H locs ls st
  obtain ⟨hx, hb, hml, hown, hts, hE, hA⟩ := id ok
  have k := h ok al H locs ls (st.to (fun q => q.cons q.head))
  exact lv_dup hx hb hd rfl k
theorem x_dup2 {i : Nat} {a : Int} (hd : decode cc pc = .ok (.dup2, 1)) (h : XX G own cc R Fx (pc + 1) L (vi a :: .ref i :: vi a :: .ref i :: S) K N I cs ss) : XX G own cc R Fx pc L (vi a :: .ref i :: S) K N I cs ss := by
  obtain ⟨p, e, s, m, args, below, meth, c, Q, nL, a0, K0⟩ := Fx
  intro ok al H locs ls st
  obtain ⟨hx, hb, hml, hown, hts, hE, hA⟩ := id ok
  have k := h ok al H locs ls (st.to (fun q => (q.cons q.tail.head).cons trivial))
  exact lv_dup2_11 hx hb hd rfl rfl k
theorem x_iand {a b : Int} (v : Int) (hd : decode cc pc = .ok (.iand, 1)) (hv : Int32.ofInt a &&& Int32.ofInt b = Int32.ofInt v) (h : XX G own cc R Fx (pc + 1) L (vi v :: S) K N I cs ss) : XX G own cc R Fx pc L (vi b :: vi a :: S) K N I cs ss := by
  obtain ⟨p, e, s, m, args, below, meth, c, Q, nL, a0, K0⟩ := Fx
  intro ok al H locs ls st
  obtain ⟨hx, hb, hml, hown, hts, hE, hA⟩ := id ok
  have k := h ok al H locs ls (st.to (fun q => q.tail.tail.cons trivial))
  exact lv_iand hx hb hd (by rw [hv]; exact k)
theorem x_ior {a b : Int} (v : Int) (hd : decode cc pc = .ok (.ior, 1)) (hv : Int32.ofInt a ||| Int32.ofInt b = Int32.ofInt v) (h : XX G own cc R Fx (pc + 1) L (vi v :: S) K N I cs ss) : XX G own cc R Fx pc L (vi b :: vi a :: S) K N I cs ss := by
  obtain ⟨p, e, s, m, args, below, meth, c, Q, nL, a0, K0⟩ := Fx
  intro ok al H locs ls st
  obtain ⟨hx, hb, hml, hown, hts, hE, hA⟩ := id ok
  have k := h ok al H locs ls (st.to (fun q => q.tail.tail.cons trivial))
  exact lv_ior hx hb hd (by rw [hv]; exact k)
theorem x_ixor {a b : Int} (v : Int) (hd : decode cc pc = .ok (.ixor, 1)) (hv : Int32.ofInt a ^^^ Int32.ofInt b = Int32.ofInt v) (h : XX G own cc R Fx (pc + 1) L (vi v :: S) K N I cs ss) : XX G own cc R Fx pc L (vi b :: vi a :: S) K N I cs ss := by
  obtain ⟨p, e, s, m, args, below, meth, c, Q, nL, a0, K0⟩ := Fx
  intro ok al H locs ls st
  obtain ⟨hx, hb, hml, hown, hts, hE, hA⟩ := id ok
  have k := h ok al H locs ls (st.to (fun q => q.tail.tail.cons trivial))
  exact lv_ixor hx hb hd (by rw [hv]; exact k)
theorem x_ishl {a b : Int} (v : Int) (hd : decode cc pc = .ok (.ishl, 1)) (hv : Int32.ofInt a <<< (Int32.ofInt b &&& 31) = Int32.ofInt v) (h : XX G own cc R Fx (pc + 1) L (vi v :: S) K N I cs ss) : XX G own cc R Fx pc L (vi b :: vi a :: S) K N I cs ss := by
  obtain ⟨p, e, s, m, args, below, meth, c, Q, nL, a0, K0⟩ := Fx
  intro ok al H locs ls st
  obtain ⟨hx, hb, hml, hown, hts, hE, hA⟩ := id ok
  have k := h ok al H locs ls (st.to (fun q => q.tail.tail.cons trivial))
  exact lv_ishl hx hb hd (by rw [hv]; exact k)
theorem x_ishr {a b : Int} (v : Int) (hd : decode cc pc = .ok (.ishr, 1)) (hv : Int32.ofInt a >>> (Int32.ofInt b &&& 31) = Int32.ofInt v) (h : XX G own cc R Fx (pc + 1) L (vi v :: S) K N I cs ss) : XX G own cc R Fx pc L (vi b :: vi a :: S) K N I cs ss := by
  obtain ⟨p, e, s, m, args, below, meth, c, Q, nL, a0, K0⟩ := Fx
  intro ok al H locs ls st
  obtain ⟨hx, hb, hml, hown, hts, hE, hA⟩ := id ok
  have k := h ok al H locs ls (st.to (fun q => q.tail.tail.cons trivial))
  exact lv_ishr hx hb hd (by rw [hv]; exact k)
theorem ol_lt {a b : Int} (ha : inl a) (hb : inl b) : Int64.ofInt a < Int64.ofInt b ↔ a < b := by rw [Int64.lt_iff_toInt_lt, ol_toInt ha, ol_toInt hb]
theorem x_lcmp {a b : Int} (hd : decode cc pc = .ok (.lcmp, 1)) (ha : inl a) (hz : inl b) (h : XX G own cc R Fx (pc + 1) L (vi (if a < b then -1 else if a = b then 0 else 1) :: S) K N I cs ss) : XX G own cc R Fx pc L (vl b :: vl a :: S) K N I cs ss := by
  obtain ⟨p, e, s, m, args, below, meth, c, Q, nL, a0, K0⟩ := Fx
  intro ok al H locs ls st
  obtain ⟨hx, hb, hml, hown, hts, hE, hA⟩ := id ok
  have k := h ok al H locs ls (st.to (fun q => q.tail.tail.cons trivial))
  exact W.lcmp hx hb hd (by
    have e : lg_cmp (Int64.ofInt a) (Int64.ofInt b) = Int32.ofInt (if a < b then -1 else if a = b then 0 else 1) := by
      simp only [lg_cmp, ol_lt ha hz, ol_lt hz ha, ol_eq ha hz]
      by_cases h1 : a < b
      · have h2 : ¬ b < a := by omega
        have h3 : ¬ a = b := by omega
        simp [h1, h2, h3]; try rfl
      · by_cases h2 : b < a
        · have h3 : ¬ a = b := by omega
          simp [h1, h2, h3]; try rfl
        · have h3 : a = b := by omega
          subst h3
          simp; try rfl
    rw [e]; exact k)
theorem x_icmp_eq {a b : Int} {off : Int} (tgt : Nat) (hd : decode cc pc = .ok (.if_icmp .eq off, 3)) (ht : (pc : Int) + off = (tgt : Int)) (ha : inr a) (hz : inr b) (kt : a = b → XX G own cc R Fx tgt L S K N I cs ss) (kf : ¬ a = b → XX G own cc R Fx (pc + 3) L S K N I cs ss) : XX G own cc R Fx pc L (vi b :: vi a :: S) K N I cs ss := by
  obtain ⟨p, e, s, m, args, below, meth, c, Q, nL, a0, K0⟩ := Fx
  intro ok al H locs ls st
  obtain ⟨hx, hb, hml, hown, hts, hE, hA⟩ := id ok
  have lv := oi_eq ha hz
  exact lv_icmp_eq hx hb hd ht (fun q => kt (lv.mp q) ok al H locs ls (st.to (fun q => q.tail.tail))) (fun q => kf (fun z => q (lv.mpr z)) ok al H locs ls (st.to (fun q => q.tail.tail)))
theorem x_if_eq {a : Int} {off : Int} (tgt : Nat) (hd : decode cc pc = .ok (.ifCond .eq off, 3)) (ht : (pc : Int) + off = (tgt : Int)) (ha : inr a) (kt : a = 0 → XX G own cc R Fx tgt L S K N I cs ss) (kf : ¬ a = 0 → XX G own cc R Fx (pc + 3) L S K N I cs ss) : XX G own cc R Fx pc L (vi a :: S) K N I cs ss := by
  obtain ⟨p, e, s, m, args, below, meth, c, Q, nL, a0, K0⟩ := Fx
  intro ok al H locs ls st
  obtain ⟨hx, hb, hml, hown, hts, hE, hA⟩ := id ok
  have lv : Int32.ofInt a = 0 ↔ a = 0 := oi_eq ha inr0
  exact lv_if_eq hx hb hd ht (fun q => kt (lv.mp q) ok al H locs ls (st.to (fun q => q.tail))) (fun q => kf (fun z => q (lv.mpr z)) ok al H locs ls (st.to (fun q => q.tail)))
theorem x_icmp_ne {a b : Int} {off : Int} (tgt : Nat) (hd : decode cc pc = .ok (.if_icmp .ne off, 3)) (ht : (pc : Int) + off = (tgt : Int)) (ha : inr a) (hz : inr b) (kt : ¬ a = b → XX G own cc R Fx tgt L S K N I cs ss) (kf : a = b → XX G own cc R Fx (pc + 3) L S K N I cs ss) : XX G own cc R Fx pc L (vi b :: vi a :: S) K N I cs ss := by
  obtain ⟨p, e, s, m, args, below, meth, c, Q, nL, a0, K0⟩ := Fx
  intro ok al H locs ls st
  obtain ⟨hx, hb, hml, hown, hts, hE, hA⟩ := id ok
  have lv := oi_eq ha hz
  exact lv_icmp_ne hx hb hd ht (fun q => kt (fun z => q (lv.mpr z)) ok al H locs ls (st.to (fun q => q.tail.tail))) (fun q => kf (lv.mp q) ok al H locs ls (st.to (fun q => q.tail.tail)))
theorem x_if_ne {a : Int} {off : Int} (tgt : Nat) (hd : decode cc pc = .ok (.ifCond .ne off, 3)) (ht : (pc : Int) + off = (tgt : Int)) (ha : inr a) (kt : ¬ a = 0 → XX G own cc R Fx tgt L S K N I cs ss) (kf : a = 0 → XX G own cc R Fx (pc + 3) L S K N I cs ss) : XX G own cc R Fx pc L (vi a :: S) K N I cs ss := by
  obtain ⟨p, e, s, m, args, below, meth, c, Q, nL, a0, K0⟩ := Fx
  intro ok al H locs ls st
  obtain ⟨hx, hb, hml, hown, hts, hE, hA⟩ := id ok
  have lv : Int32.ofInt a = 0 ↔ a = 0 := oi_eq ha inr0
  exact lv_if_ne hx hb hd ht (fun q => kt (fun z => q (lv.mpr z)) ok al H locs ls (st.to (fun q => q.tail))) (fun q => kf (lv.mp q) ok al H locs ls (st.to (fun q => q.tail)))
theorem x_icmp_lt {a b : Int} {off : Int} (tgt : Nat) (hd : decode cc pc = .ok (.if_icmp .lt off, 3)) (ht : (pc : Int) + off = (tgt : Int)) (ha : inr a) (hz : inr b) (kt : a < b → XX G own cc R Fx tgt L S K N I cs ss) (kf : b ≤ a → XX G own cc R Fx (pc + 3) L S K N I cs ss) : XX G own cc R Fx pc L (vi b :: vi a :: S) K N I cs ss := by
  obtain ⟨p, e, s, m, args, below, meth, c, Q, nL, a0, K0⟩ := Fx
  intro ok al H locs ls st
  obtain ⟨hx, hb, hml, hown, hts, hE, hA⟩ := id ok
  have lv := oi_lt ha hz
  exact lv_icmp_lt hx hb hd ht (fun q => kt (lv.mp q) ok al H locs ls (st.to (fun q => q.tail.tail))) (fun q => kf (Int.not_lt.mp (fun z => q (lv.mpr z))) ok al H locs ls (st.to (fun q => q.tail.tail)))
theorem x_if_lt {a : Int} {off : Int} (tgt : Nat) (hd : decode cc pc = .ok (.ifCond .lt off, 3)) (ht : (pc : Int) + off = (tgt : Int)) (ha : inr a) (kt : a < 0 → XX G own cc R Fx tgt L S K N I cs ss) (kf : 0 ≤ a → XX G own cc R Fx (pc + 3) L S K N I cs ss) : XX G own cc R Fx pc L (vi a :: S) K N I cs ss := by
  obtain ⟨p, e, s, m, args, below, meth, c, Q, nL, a0, K0⟩ := Fx
  intro ok al H locs ls st
  obtain ⟨hx, hb, hml, hown, hts, hE, hA⟩ := id ok
  have lv : Int32.ofInt a < 0 ↔ a < 0 := oi_lt ha inr0
  exact lv_if_lt hx hb hd ht (fun q => kt (lv.mp q) ok al H locs ls (st.to (fun q => q.tail))) (fun q => kf (Int.not_lt.mp (fun z => q (lv.mpr z))) ok al H locs ls (st.to (fun q => q.tail)))
theorem x_icmp_ge {a b : Int} {off : Int} (tgt : Nat) (hd : decode cc pc = .ok (.if_icmp .ge off, 3)) (ht : (pc : Int) + off = (tgt : Int)) (ha : inr a) (hz : inr b) (kt : b ≤ a → XX G own cc R Fx tgt L S K N I cs ss) (kf : a < b → XX G own cc R Fx (pc + 3) L S K N I cs ss) : XX G own cc R Fx pc L (vi b :: vi a :: S) K N I cs ss := by
  obtain ⟨p, e, s, m, args, below, meth, c, Q, nL, a0, K0⟩ := Fx
  intro ok al H locs ls st
  obtain ⟨hx, hb, hml, hown, hts, hE, hA⟩ := id ok
  have lv := oi_le hz ha
  exact lv_icmp_ge hx hb hd ht (fun q => kt (lv.mp q) ok al H locs ls (st.to (fun q => q.tail.tail))) (fun q => kf (Int.not_le.mp (fun z => q (lv.mpr z))) ok al H locs ls (st.to (fun q => q.tail.tail)))
theorem x_if_ge {a : Int} {off : Int} (tgt : Nat) (hd : decode cc pc = .ok (.ifCond .ge off, 3)) (ht : (pc : Int) + off = (tgt : Int)) (ha : inr a) (kt : 0 ≤ a → XX G own cc R Fx tgt L S K N I cs ss) (kf : a < 0 → XX G own cc R Fx (pc + 3) L S K N I cs ss) : XX G own cc R Fx pc L (vi a :: S) K N I cs ss := by
  obtain ⟨p, e, s, m, args, below, meth, c, Q, nL, a0, K0⟩ := Fx
  intro ok al H locs ls st
  obtain ⟨hx, hb, hml, hown, hts, hE, hA⟩ := id ok
  have lv : (0 : Int32) ≤ Int32.ofInt a ↔ 0 ≤ a := oi_le inr0 ha
  exact lv_if_ge hx hb hd ht (fun q => kt (lv.mp q) ok al H locs ls (st.to (fun q => q.tail))) (fun q => kf (Int.not_le.mp (fun z => q (lv.mpr z))) ok al H locs ls (st.to (fun q => q.tail)))
theorem x_icmp_gt {a b : Int} {off : Int} (tgt : Nat) (hd : decode cc pc = .ok (.if_icmp .gt off, 3)) (ht : (pc : Int) + off = (tgt : Int)) (ha : inr a) (hz : inr b) (kt : b < a → XX G own cc R Fx tgt L S K N I cs ss) (kf : a ≤ b → XX G own cc R Fx (pc + 3) L S K N I cs ss) : XX G own cc R Fx pc L (vi b :: vi a :: S) K N I cs ss := by
  obtain ⟨p, e, s, m, args, below, meth, c, Q, nL, a0, K0⟩ := Fx
  intro ok al H locs ls st
  obtain ⟨hx, hb, hml, hown, hts, hE, hA⟩ := id ok
  have lv := oi_lt hz ha
  exact lv_icmp_gt hx hb hd ht (fun q => kt (lv.mp q) ok al H locs ls (st.to (fun q => q.tail.tail))) (fun q => kf (Int.not_lt.mp (fun z => q (lv.mpr z))) ok al H locs ls (st.to (fun q => q.tail.tail)))
theorem x_if_gt {a : Int} {off : Int} (tgt : Nat) (hd : decode cc pc = .ok (.ifCond .gt off, 3)) (ht : (pc : Int) + off = (tgt : Int)) (ha : inr a) (kt : 0 < a → XX G own cc R Fx tgt L S K N I cs ss) (kf : a ≤ 0 → XX G own cc R Fx (pc + 3) L S K N I cs ss) : XX G own cc R Fx pc L (vi a :: S) K N I cs ss := by
  obtain ⟨p, e, s, m, args, below, meth, c, Q, nL, a0, K0⟩ := Fx
  intro ok al H locs ls st
  obtain ⟨hx, hb, hml, hown, hts, hE, hA⟩ := id ok
  have lv : (0 : Int32) < Int32.ofInt a ↔ 0 < a := oi_lt inr0 ha
  exact lv_if_gt hx hb hd ht (fun q => kt (lv.mp q) ok al H locs ls (st.to (fun q => q.tail))) (fun q => kf (Int.not_lt.mp (fun z => q (lv.mpr z))) ok al H locs ls (st.to (fun q => q.tail)))
theorem x_icmp_le {a b : Int} {off : Int} (tgt : Nat) (hd : decode cc pc = .ok (.if_icmp .le off, 3)) (ht : (pc : Int) + off = (tgt : Int)) (ha : inr a) (hz : inr b) (kt : a ≤ b → XX G own cc R Fx tgt L S K N I cs ss) (kf : b < a → XX G own cc R Fx (pc + 3) L S K N I cs ss) : XX G own cc R Fx pc L (vi b :: vi a :: S) K N I cs ss := by
  obtain ⟨p, e, s, m, args, below, meth, c, Q, nL, a0, K0⟩ := Fx
  intro ok al H locs ls st
  obtain ⟨hx, hb, hml, hown, hts, hE, hA⟩ := id ok
  have lv := oi_le ha hz
  exact lv_icmp_le hx hb hd ht (fun q => kt (lv.mp q) ok al H locs ls (st.to (fun q => q.tail.tail))) (fun q => kf (Int.not_le.mp (fun z => q (lv.mpr z))) ok al H locs ls (st.to (fun q => q.tail.tail)))
theorem x_if_le {a : Int} {off : Int} (tgt : Nat) (hd : decode cc pc = .ok (.ifCond .le off, 3)) (ht : (pc : Int) + off = (tgt : Int)) (ha : inr a) (kt : a ≤ 0 → XX G own cc R Fx tgt L S K N I cs ss) (kf : 0 < a → XX G own cc R Fx (pc + 3) L S K N I cs ss) : XX G own cc R Fx pc L (vi a :: S) K N I cs ss := by
  obtain ⟨p, e, s, m, args, below, meth, c, Q, nL, a0, K0⟩ := Fx
  intro ok al H locs ls st
  obtain ⟨hx, hb, hml, hown, hts, hE, hA⟩ := id ok
  have lv : Int32.ofInt a ≤ 0 ↔ a ≤ 0 := oi_le ha inr0
  exact lv_if_le hx hb hd ht (fun q => kt (lv.mp q) ok al H locs ls (st.to (fun q => q.tail))) (fun q => kf (Int.not_le.mp (fun z => q (lv.mpr z))) ok al H locs ls (st.to (fun q => q.tail)))
theorem x_goto {off : Int} (tgt : Nat) (hd : decode cc pc = .ok (.goto off, 3)) (ht : (pc : Int) + off = (tgt : Int)) (h : XX G own cc R Fx tgt L S K N I cs ss) : XX G own cc R Fx pc L S K N I cs ss := by
  obtain ⟨p, e, s, m, args, below, meth, c, Q, nL, a0, K0⟩ := Fx
  intro ok al H locs ls st
  obtain ⟨hx, hb, hml, hown, hts, hE, hA⟩ := id ok
  exact lv_goto hx hb hd ht (h ok al H locs ls st)
theorem x_nonnullR {i : Nat} {off : Int} (tgt : Nat) (hd : decode cc pc = .ok (.ifnonnull off, 3)) (ht : (pc : Int) + off = (tgt : Int)) (h : XX G own cc R Fx tgt L S K N I cs ss) : XX G own cc R Fx pc L (.ref i :: S) K N I cs ss := by
  obtain ⟨p, e, s, m, args, below, meth, c, Q, nL, a0, K0⟩ := Fx
  intro ok al H locs ls st
  obtain ⟨hx, hb, hml, hown, hts, hE, hA⟩ := id ok
  exact lv_ifnonnull hx hb hd ht (h ok al H locs ls (st.to (fun q => q.tail)))
theorem x_nonnullN {off : Int} (hd : decode cc pc = .ok (.ifnonnull off, 3)) (h : XX G own cc R Fx (pc + 3) L S K N I cs ss) : XX G own cc R Fx pc L (.null :: S) K N I cs ss := by
  obtain ⟨p, e, s, m, args, below, meth, c, Q, nL, a0, K0⟩ := Fx
  intro ok al H locs ls st
  obtain ⟨hx, hb, hml, hown, hts, hE, hA⟩ := id ok
  exact lv_ifnonnullN hx hb hd (h ok al H locs ls (st.to (fun q => q.tail)))
theorem x_tabOut {dflt lo hi : Int} {offs : Array Int} {len : Nat} {a : Int} (tgt : Nat) (hd : decode cc pc = .ok (.tableswitch dflt lo hi offs, len)) (ha : inr a) (hz : a < lo ∨ hi < a) (ht : (pc : Int) + dflt = (tgt : Int)) (h : XX G own cc R Fx tgt L S K N I cs ss) : XX G own cc R Fx pc L (vi a :: S) K N I cs ss := by
  obtain ⟨p, e, s, m, args, below, meth, c, Q, nL, a0, K0⟩ := Fx
  intro ok al H locs ls st
  obtain ⟨hx, hb, hml, hown, hts, hE, hA⟩ := id ok
  exact lv_tableOut hx hb hd (by rw [oi_toInt ha]; exact hz) ht (h ok al H locs ls (st.to (fun q => q.tail)))
theorem x_tabIn {dflt lo hi : Int} {offs : Array Int} {len : Nat} {a off : Int} (tgt : Nat) (hd : decode cc pc = .ok (.tableswitch dflt lo hi offs, len)) (ha : inr a) (hz : lo ≤ a ∧ a ≤ hi) (ho : offs[(a - lo).toNat]? = some off) (ht : (pc : Int) + off = (tgt : Int)) (h : XX G own cc R Fx tgt L S K N I cs ss) : XX G own cc R Fx pc L (vi a :: S) K N I cs ss := by
  obtain ⟨p, e, s, m, args, below, meth, c, Q, nL, a0, K0⟩ := Fx
  intro ok al H locs ls st
  obtain ⟨hx, hb, hml, hown, hts, hE, hA⟩ := id ok
  exact lv_tableIn hx hb hd (by rw [oi_toInt ha]; omega) (by rw [oi_toInt ha]; omega) (by rw [oi_toInt ha]; exact ho) ht (h ok al H locs ls (st.to (fun q => q.tail)))
theorem x_lookup {dflt : Int} {ps : Array (Int × Int)} {len : Nat} {a off : Int} (tgt : Nat) (hd : decode cc pc = .ok (.lookupswitch dflt ps, len)) (ha : inr a) (hp : (ps.toList.zip (ps.toList.drop 1)).all (fun (a, next) => a.1 < next.1) = true) (ho : Op.lookupswitch.offset ps.toList dflt a = off) (ht : (pc : Int) + off = (tgt : Int)) (h : XX G own cc R Fx tgt L S K N I cs ss) : XX G own cc R Fx pc L (vi a :: S) K N I cs ss := by
  obtain ⟨p, e, s, m, args, below, meth, c, Q, nL, a0, K0⟩ := Fx
  intro ok al H locs ls st
  obtain ⟨hx, hb, hml, hown, hts, hE, hA⟩ := id ok
  exact lv_lookup hx hb hd hp (by rw [oi_toInt ha]; exact ho) ht (h ok al H locs ls (st.to (fun q => q.tail)))
theorem x_widen {k n : Nat} (h1 : cs ≤ k) (h2 : ss ≤ n) (h : XX G own cc R Fx pc L S K N I k n) : XX G own cc R Fx pc L S K N I cs ss := by
  obtain ⟨p, e, s, m, args, below, meth, c, Q, nL, a0, K0⟩ := Fx
  intro ok al H locs ls st
  exact W.widen h1 h2 (h ok al H locs ls st)
end FR
end
section
/-! ===== stores, the heap, calls ===== -/
def asc (al : Nat → Nat) (L : List (Option Value)) : List (Nat × Value) := (List.range L.length).filterMap (fun j => match L[j]? with
  | some (some v) => some (j, gm al v)
  | _ => none)
theorem asc_in {al : Nat → Nat} {L : List (Option Value)} {j : Nat} {v : Value} (h : L[j]? = some (some v)) : (j, gm al v) ∈ asc al L :=
  List.mem_filterMap.mpr ⟨j, List.mem_range.mpr (List.getElem?_eq_some_iff.mp h).1, by rw [h]⟩
theorem asc_of {al : Nat → Nat} {L : List (Option Value)} {q : Nat × Value} (h : q ∈ asc al L) : ∃ v, L[q.1]? = some (some v) ∧ q.2 = gm al v := by
  obtain ⟨j, -, h2⟩ := List.mem_filterMap.mp h
  cases hj : L[j]? with
  | none => rw [hj] at h2; cases h2
  | some o =>
    cases o with
    | none => rw [hj] at h2; cases h2
    | some v => rw [hj] at h2; cases h2; exact ⟨v, hj, rfl⟩
theorem LocW.has {al : Nat → Nat} {nL : Nat} {ls : Array Slot} {L : List (Option Value)} (h : LocW al nL ls L) : lv_has ls nL (asc al L) := by
  refine ⟨h.1, h.2.1, fun q hq => ?_⟩
  obtain ⟨v, h1, h2⟩ := asc_of hq
  rw [h2]; exact h.2.2.2 _ _ h1
theorem gm_cat (al : Nat → Nat) (v : Value) : (gm al v).category = v.category := by cases v <;> rfl
/-- no long's second half stands there -/
def pvk (L : List (Option Value)) (i : Nat) : Bool := match i with
  | 0 => true
  | j + 1 => match L[j]? with
    | some (some v) => v.category == 1
    | _ => true
theorem pvk_at {L : List (Option Value)} {i j : Nat} {v : Value} (h : pvk L i = true) (hj : L[j]? = some (some v)) (e : j + 1 = i) : ¬ v.category = 2 := by
  subst e
  simp only [pvk, hj, beq_iff_eq] at h
  omega
theorem LocW.set1 {al : Nat → Nat} {nL i : Nat} {ls ls' : Array Slot} {L : List (Option Value)} {v : Value} (h : LocW al nL ls L) (hi : i < L.length) (hp : pvk L i = true) (h' : lv_has ls' nL ((i, gm al v) :: (asc al L).filter (fun q => !(q.1 == i) && !(q.1 + 1 == i && q.2.category == 2)))) : LocW al nL ls' (L.set i (some v)) := by
  refine ⟨h'.1, h'.2.1, by rw [List.length_set]; exact h.2.2.1, fun j w hj => ?_⟩
  by_cases e : j = i
  · subst e
    rw [List.getElem?_set_self hi] at hj
    cases hj
    exact h'.2.2 (j, gm al v) List.mem_cons_self
  · rw [List.getElem?_set_ne (Ne.symm e)] at hj
    refine h'.2.2 (j, gm al w) (List.mem_cons_of_mem _ (List.mem_filter.mpr ⟨asc_in hj, ?_⟩))
    by_cases e2 : j + 1 = i
    · have := pvk_at hp hj e2
      simp [e, e2, gm_cat, this]
    · simp [e, e2]
theorem LocW.set2 {al : Nat → Nat} {nL i : Nat} {ls ls' : Array Slot} {L : List (Option Value)} {v : Value} (h : LocW al nL ls L) (hi : i + 1 < L.length) (hp : pvk L i = true) (h' : lv_has ls' nL ((i, gm al v) :: (asc al L).filter (fun q => !(q.1 == i) && (!(q.1 == i + 1) && !(q.1 + 1 == i && q.2.category == 2))))) : LocW al nL ls' ((L.set i (some v)).set (i + 1) none) := by
  refine ⟨h'.1, h'.2.1, by rw [List.length_set, List.length_set]; exact h.2.2.1, fun j w hj => ?_⟩
  by_cases e3 : j = i + 1
  · subst e3
    rw [List.getElem?_set_self (by rw [List.length_set]; exact hi)] at hj
    cases hj
  · rw [List.getElem?_set_ne (Ne.symm e3)] at hj
    by_cases e : j = i
    · subst e
      rw [List.getElem?_set_self (by omega)] at hj
      cases hj
      exact h'.2.2 (j, gm al v) List.mem_cons_self
    · rw [List.getElem?_set_ne (Ne.symm e)] at hj
      refine h'.2.2 (j, gm al w) (List.mem_cons_of_mem _ (List.mem_filter.mpr ⟨asc_in hj, ?_⟩))
      by_cases e2 : j + 1 = i
      · have := pvk_at hp hj e2
        simp [e, e2, e3, gm_cat, this]
      · simp [e, e2, e3]
theorem okL.set {K : List Nat} {L : List (Option Value)} {i : Nat} {v : Value} (h : okL K L) (hv : okv K v) : okL K (L.set i (some v)) := fun j w hj => by
  by_cases e : i = j
  · subst e
    rw [List.getElem?_set] at hj
    simp at hj
    obtain ⟨-, rfl⟩ := hj
    exact hv
  · rw [List.getElem?_set_ne e] at hj
    exact h j w hj
theorem okL.setN {K : List Nat} {L : List (Option Value)} {i : Nat} (h : okL K L) : okL K (L.set i none) := fun j w hj => by
  by_cases e : i = j
  · subst e
    rw [List.getElem?_set] at hj
    simp at hj
  · rw [List.getElem?_set_ne e] at hj
    exact h j w hj
theorem StW.tl {G : GT} {a0 : Nat → Nat} {K0 : List Nat} {nL : Nat} {s : State} {al : Nat → Nat} {H : Heap} {locs : List Loc} {ls ls' : Array Slot} {L L' : List (Option Value)} {v : Value} {S : List Value} {K : List Nat} {N : NN} {I : MM} (h : StW G a0 K0 nL s al H locs ls L (v :: S) K N I) (f : LocW al nL ls' L') (g : okv K v → okL K L → okL K L') : StW G a0 K0 nL s al H locs ls' L' S K N I := ⟨h.1, h.2.1, f, g h.2.2.2.2.1.head h.2.2.2.1, h.2.2.2.2.1.tail, h.2.2.2.2.2⟩
section FR
variable {G : GT} {own : String} {cc : ByteArray} {R : Room} {Fx : FxT} {pc : Nat} {L : List (Option Value)} {S : List Value} {K : List Nat} {N : NN} {I : MM} {cs ss : Nat}

theorem x_istore_n {k : Fin 4} {i : Nat} {z : Int} (hd : decode cc pc = .ok (.istore_n k, 1)) (hk : (k : Nat) = i) (hi : i < L.length) (hp : pvk L i = true) (h : XX G own cc R Fx (pc + 1) (L.set i (some (vi z))) S K N I cs ss) : XX G own cc R Fx pc L (vi z :: S) K N I cs ss := by
  obtain ⟨p, e, s, m, args, below, meth, c, Q, nL, a0, K0⟩ := Fx
  intro ok al H locs ls st
  obtain ⟨hx, hb, hml, hown, hts, hE, hA⟩ := id ok
  exact lv_istore_n hx hb hd hk st.2.2.1.has (Nat.lt_of_lt_of_le hi st.2.2.1.2.2.1) rfl (fun ls' hl' => h ok al H locs ls' (st.tl (st.2.2.1.set1 hi hp hl') (fun a b => b.set a)))
theorem x_istore {i : Nat} {z : Int} (hd : decode cc pc = .ok (.istore i, 2)) (hi : i < L.length) (hp : pvk L i = true) (h : XX G own cc R Fx (pc + 2) (L.set i (some (vi z))) S K N I cs ss) : XX G own cc R Fx pc L (vi z :: S) K N I cs ss := by
  obtain ⟨p, e, s, m, args, below, meth, c, Q, nL, a0, K0⟩ := Fx
  intro ok al H locs ls st
  obtain ⟨hx, hb, hml, hown, hts, hE, hA⟩ := id ok
  exact lv_istore hx hb hd st.2.2.1.has (Nat.lt_of_lt_of_le hi st.2.2.1.2.2.1) rfl (fun ls' hl' => h ok al H locs ls' (st.tl (st.2.2.1.set1 hi hp hl') (fun a b => b.set a)))
theorem x_astore_n {k : Fin 4} {i : Nat} {z : Nat} (hd : decode cc pc = .ok (.astore_n k, 1)) (hk : (k : Nat) = i) (hi : i < L.length) (hp : pvk L i = true) (h : XX G own cc R Fx (pc + 1) (L.set i (some (.ref z))) S K N I cs ss) : XX G own cc R Fx pc L (.ref z :: S) K N I cs ss := by
  obtain ⟨p, e, s, m, args, below, meth, c, Q, nL, a0, K0⟩ := Fx
  intro ok al H locs ls st
  obtain ⟨hx, hb, hml, hown, hts, hE, hA⟩ := id ok
  exact lv_astore_n hx hb hd hk st.2.2.1.has (Nat.lt_of_lt_of_le hi st.2.2.1.2.2.1) rfl (fun ls' hl' => h ok al H locs ls' (st.tl (st.2.2.1.set1 hi hp hl') (fun a b => b.set a)))
theorem x_astore {i : Nat} {z : Nat} (hd : decode cc pc = .ok (.astore i, 2)) (hi : i < L.length) (hp : pvk L i = true) (h : XX G own cc R Fx (pc + 2) (L.set i (some (.ref z))) S K N I cs ss) : XX G own cc R Fx pc L (.ref z :: S) K N I cs ss := by
  obtain ⟨p, e, s, m, args, below, meth, c, Q, nL, a0, K0⟩ := Fx
  intro ok al H locs ls st
  obtain ⟨hx, hb, hml, hown, hts, hE, hA⟩ := id ok
  exact lv_astore hx hb hd st.2.2.1.has (Nat.lt_of_lt_of_le hi st.2.2.1.2.2.1) rfl (fun ls' hl' => h ok al H locs ls' (st.tl (st.2.2.1.set1 hi hp hl') (fun a b => b.set a)))
theorem x_lstore_n {k : Fin 4} {i : Nat} {z : Int} (hd : decode cc pc = .ok (.lstore_n k, 1)) (hk : (k : Nat) = i) (hi : i + 1 < L.length) (hp : pvk L i = true) (h : XX G own cc R Fx (pc + 1) ((L.set i (some (vl z))).set (i + 1) none) S K N I cs ss) : XX G own cc R Fx pc L (vl z :: S) K N I cs ss := by
  obtain ⟨p, e, s, m, args, below, meth, c, Q, nL, a0, K0⟩ := Fx
  intro ok al H locs ls st
  obtain ⟨hx, hb, hml, hown, hts, hE, hA⟩ := id ok
  exact lv_lstore_n hx hb hd hk st.2.2.1.has (Nat.lt_of_lt_of_le hi st.2.2.1.2.2.1) rfl (fun ls' hl' => h ok al H locs ls' (st.tl (st.2.2.1.set2 hi hp hl') (fun a b => (b.set a).setN)))
theorem x_lstore {i : Nat} {z : Int} (hd : decode cc pc = .ok (.lstore i, 2)) (hi : i + 1 < L.length) (hp : pvk L i = true) (h : XX G own cc R Fx (pc + 2) ((L.set i (some (vl z))).set (i + 1) none) S K N I cs ss) : XX G own cc R Fx pc L (vl z :: S) K N I cs ss := by
  obtain ⟨p, e, s, m, args, below, meth, c, Q, nL, a0, K0⟩ := Fx
  intro ok al H locs ls st
  obtain ⟨hx, hb, hml, hown, hts, hE, hA⟩ := id ok
  exact lv_lstore hx hb hd st.2.2.1.has (Nat.lt_of_lt_of_le hi st.2.2.1.2.2.1) rfl (fun ls' hl' => h ok al H locs ls' (st.tl (st.2.2.1.set2 hi hp hl') (fun a b => (b.set a).setN)))
theorem x_iinc {i : Nat} {n z : Int} (hd : decode cc pc = .ok (.iinc i n, 3)) (hz : L[i]? = some (some (vi z))) (hp : pvk L i = true) (h : XX G own cc R Fx (pc + 3) (L.set i (some (vi (z + n)))) S K N I cs ss) : XX G own cc R Fx pc L S K N I cs ss := by
  obtain ⟨p, e, s, m, args, below, meth, c, Q, nL, a0, K0⟩ := Fx
  intro ok al H locs ls st
  obtain ⟨hx, hb, hml, hown, hts, hE, hA⟩ := id ok
  have hi : i < L.length := (List.getElem?_eq_some_iff.mp hz).1
  obtain ⟨k, hk⟩ := List.getElem?_of_mem (asc_in (al := al) hz)
  exact lv_iinc hx hb hd st.2.2.1.has hk (by rw [← Int32.ofInt_add]) (Nat.lt_of_lt_of_le hi st.2.2.1.2.2.1) rfl (fun ls' hl' => h ok al H locs ls' ⟨st.1, st.2.1, st.2.2.1.set1 hi hp hl', st.2.2.2.1.set trivial, st.2.2.2.2⟩)
end FR
theorem x_ist0 {G : GT} {own : String} {cc : ByteArray} {R : Room} {Fx : FxT} {pc : Nat} {l0 : Option Value} {r : List (Option Value)} {S : List Value} {K : List Nat} {N : NN} {I : MM} {cs ss : Nat} {z : Int} (hd : decode cc pc = .ok (.istore_n 0, 1)) (h : XX G own cc R Fx (pc + 1) (some (vi z) :: r) S K N I cs ss) (hp : pvk (l0 :: r) 0 = true := by rfl) : XX G own cc R Fx pc (l0 :: r) (vi z :: S) K N I cs ss := x_istore_n (i := 0) hd rfl (by simp) hp h
theorem x_ast0 {G : GT} {own : String} {cc : ByteArray} {R : Room} {Fx : FxT} {pc : Nat} {l0 : Option Value} {r : List (Option Value)} {S : List Value} {K : List Nat} {N : NN} {I : MM} {cs ss : Nat} {z : Nat} (hd : decode cc pc = .ok (.astore_n 0, 1)) (h : XX G own cc R Fx (pc + 1) (some (.ref z) :: r) S K N I cs ss) (hp : pvk (l0 :: r) 0 = true := by rfl) : XX G own cc R Fx pc (l0 :: r) (.ref z :: S) K N I cs ss := x_astore_n (i := 0) hd rfl (by simp) hp h
theorem x_inc0 {G : GT} {own : String} {cc : ByteArray} {R : Room} {Fx : FxT} {pc : Nat} {r : List (Option Value)} {S : List Value} {K : List Nat} {N : NN} {I : MM} {cs ss : Nat} {n z : Int} (hd : decode cc pc = .ok (.iinc 0 n, 3)) (h : XX G own cc R Fx (pc + 3) (some (vi (z + n)) :: r) S K N I cs ss) (hp : pvk (some (vi z) :: r) 0 = true := by rfl) : XX G own cc R Fx pc (some (vi z) :: r) S K N I cs ss := x_iinc hd rfl hp h
theorem x_lst0 {G : GT} {own : String} {cc : ByteArray} {R : Room} {Fx : FxT} {pc : Nat} {l0 l1 : Option Value} {r : List (Option Value)} {S : List Value} {K : List Nat} {N : NN} {I : MM} {cs ss : Nat} {z : Int} (hd : decode cc pc = .ok (.lstore_n 0, 1)) (h : XX G own cc R Fx (pc + 1) (some (vl z) :: none :: r) S K N I cs ss) (hp : pvk (l0 :: l1 :: r) 0 = true := by rfl) : XX G own cc R Fx pc (l0 :: l1 :: r) (vl z :: S) K N I cs ss := x_lstore_n (i := 0) hd rfl (by simp) hp h
theorem x_ist1 {G : GT} {own : String} {cc : ByteArray} {R : Room} {Fx : FxT} {pc : Nat} {l0 l1 : Option Value} {r : List (Option Value)} {S : List Value} {K : List Nat} {N : NN} {I : MM} {cs ss : Nat} {z : Int} (hd : decode cc pc = .ok (.istore_n 1, 1)) (h : XX G own cc R Fx (pc + 1) (l0 :: some (vi z) :: r) S K N I cs ss) (hp : pvk (l0 :: l1 :: r) 1 = true := by rfl) : XX G own cc R Fx pc (l0 :: l1 :: r) (vi z :: S) K N I cs ss := x_istore_n (i := 1) hd rfl (by simp) hp h
theorem x_ast1 {G : GT} {own : String} {cc : ByteArray} {R : Room} {Fx : FxT} {pc : Nat} {l0 l1 : Option Value} {r : List (Option Value)} {S : List Value} {K : List Nat} {N : NN} {I : MM} {cs ss : Nat} {z : Nat} (hd : decode cc pc = .ok (.astore_n 1, 1)) (h : XX G own cc R Fx (pc + 1) (l0 :: some (.ref z) :: r) S K N I cs ss) (hp : pvk (l0 :: l1 :: r) 1 = true := by rfl) : XX G own cc R Fx pc (l0 :: l1 :: r) (.ref z :: S) K N I cs ss := x_astore_n (i := 1) hd rfl (by simp) hp h
theorem x_inc1 {G : GT} {own : String} {cc : ByteArray} {R : Room} {Fx : FxT} {pc : Nat} {l0 : Option Value} {r : List (Option Value)} {S : List Value} {K : List Nat} {N : NN} {I : MM} {cs ss : Nat} {n z : Int} (hd : decode cc pc = .ok (.iinc 1 n, 3)) (h : XX G own cc R Fx (pc + 3) (l0 :: some (vi (z + n)) :: r) S K N I cs ss) (hp : pvk (l0 :: some (vi z) :: r) 1 = true := by rfl) : XX G own cc R Fx pc (l0 :: some (vi z) :: r) S K N I cs ss := x_iinc hd rfl hp h
theorem x_lst1 {G : GT} {own : String} {cc : ByteArray} {R : Room} {Fx : FxT} {pc : Nat} {l0 l1 l2 : Option Value} {r : List (Option Value)} {S : List Value} {K : List Nat} {N : NN} {I : MM} {cs ss : Nat} {z : Int} (hd : decode cc pc = .ok (.lstore_n 1, 1)) (h : XX G own cc R Fx (pc + 1) (l0 :: some (vl z) :: none :: r) S K N I cs ss) (hp : pvk (l0 :: l1 :: l2 :: r) 1 = true := by rfl) : XX G own cc R Fx pc (l0 :: l1 :: l2 :: r) (vl z :: S) K N I cs ss := x_lstore_n (i := 1) hd rfl (by simp) hp h
theorem x_ist2 {G : GT} {own : String} {cc : ByteArray} {R : Room} {Fx : FxT} {pc : Nat} {l0 l1 l2 : Option Value} {r : List (Option Value)} {S : List Value} {K : List Nat} {N : NN} {I : MM} {cs ss : Nat} {z : Int} (hd : decode cc pc = .ok (.istore_n 2, 1)) (h : XX G own cc R Fx (pc + 1) (l0 :: l1 :: some (vi z) :: r) S K N I cs ss) (hp : pvk (l0 :: l1 :: l2 :: r) 2 = true := by rfl) : XX G own cc R Fx pc (l0 :: l1 :: l2 :: r) (vi z :: S) K N I cs ss := x_istore_n (i := 2) hd rfl (by simp) hp h
theorem x_ast2 {G : GT} {own : String} {cc : ByteArray} {R : Room} {Fx : FxT} {pc : Nat} {l0 l1 l2 : Option Value} {r : List (Option Value)} {S : List Value} {K : List Nat} {N : NN} {I : MM} {cs ss : Nat} {z : Nat} (hd : decode cc pc = .ok (.astore_n 2, 1)) (h : XX G own cc R Fx (pc + 1) (l0 :: l1 :: some (.ref z) :: r) S K N I cs ss) (hp : pvk (l0 :: l1 :: l2 :: r) 2 = true := by rfl) : XX G own cc R Fx pc (l0 :: l1 :: l2 :: r) (.ref z :: S) K N I cs ss := x_astore_n (i := 2) hd rfl (by simp) hp h
theorem x_inc2 {G : GT} {own : String} {cc : ByteArray} {R : Room} {Fx : FxT} {pc : Nat} {l0 l1 : Option Value} {r : List (Option Value)} {S : List Value} {K : List Nat} {N : NN} {I : MM} {cs ss : Nat} {n z : Int} (hd : decode cc pc = .ok (.iinc 2 n, 3)) (h : XX G own cc R Fx (pc + 3) (l0 :: l1 :: some (vi (z + n)) :: r) S K N I cs ss) (hp : pvk (l0 :: l1 :: some (vi z) :: r) 2 = true := by rfl) : XX G own cc R Fx pc (l0 :: l1 :: some (vi z) :: r) S K N I cs ss := x_iinc hd rfl hp h
theorem x_lst2 {G : GT} {own : String} {cc : ByteArray} {R : Room} {Fx : FxT} {pc : Nat} {l0 l1 l2 l3 : Option Value} {r : List (Option Value)} {S : List Value} {K : List Nat} {N : NN} {I : MM} {cs ss : Nat} {z : Int} (hd : decode cc pc = .ok (.lstore_n 2, 1)) (h : XX G own cc R Fx (pc + 1) (l0 :: l1 :: some (vl z) :: none :: r) S K N I cs ss) (hp : pvk (l0 :: l1 :: l2 :: l3 :: r) 2 = true := by rfl) : XX G own cc R Fx pc (l0 :: l1 :: l2 :: l3 :: r) (vl z :: S) K N I cs ss := x_lstore_n (i := 2) hd rfl (by simp) hp h
theorem x_ist3 {G : GT} {own : String} {cc : ByteArray} {R : Room} {Fx : FxT} {pc : Nat} {l0 l1 l2 l3 : Option Value} {r : List (Option Value)} {S : List Value} {K : List Nat} {N : NN} {I : MM} {cs ss : Nat} {z : Int} (hd : decode cc pc = .ok (.istore_n 3, 1)) (h : XX G own cc R Fx (pc + 1) (l0 :: l1 :: l2 :: some (vi z) :: r) S K N I cs ss) (hp : pvk (l0 :: l1 :: l2 :: l3 :: r) 3 = true := by rfl) : XX G own cc R Fx pc (l0 :: l1 :: l2 :: l3 :: r) (vi z :: S) K N I cs ss := x_istore_n (i := 3) hd rfl (by simp) hp h
theorem x_ast3 {G : GT} {own : String} {cc : ByteArray} {R : Room} {Fx : FxT} {pc : Nat} {l0 l1 l2 l3 : Option Value} {r : List (Option Value)} {S : List Value} {K : List Nat} {N : NN} {I : MM} {cs ss : Nat} {z : Nat} (hd : decode cc pc = .ok (.astore_n 3, 1)) (h : XX G own cc R Fx (pc + 1) (l0 :: l1 :: l2 :: some (.ref z) :: r) S K N I cs ss) (hp : pvk (l0 :: l1 :: l2 :: l3 :: r) 3 = true := by rfl) : XX G own cc R Fx pc (l0 :: l1 :: l2 :: l3 :: r) (.ref z :: S) K N I cs ss := x_astore_n (i := 3) hd rfl (by simp) hp h
theorem x_inc3 {G : GT} {own : String} {cc : ByteArray} {R : Room} {Fx : FxT} {pc : Nat} {l0 l1 l2 : Option Value} {r : List (Option Value)} {S : List Value} {K : List Nat} {N : NN} {I : MM} {cs ss : Nat} {n z : Int} (hd : decode cc pc = .ok (.iinc 3 n, 3)) (h : XX G own cc R Fx (pc + 3) (l0 :: l1 :: l2 :: some (vi (z + n)) :: r) S K N I cs ss) (hp : pvk (l0 :: l1 :: l2 :: some (vi z) :: r) 3 = true := by rfl) : XX G own cc R Fx pc (l0 :: l1 :: l2 :: some (vi z) :: r) S K N I cs ss := x_iinc hd rfl hp h
theorem x_lst3 {G : GT} {own : String} {cc : ByteArray} {R : Room} {Fx : FxT} {pc : Nat} {l0 l1 l2 l3 l4 : Option Value} {r : List (Option Value)} {S : List Value} {K : List Nat} {N : NN} {I : MM} {cs ss : Nat} {z : Int} (hd : decode cc pc = .ok (.lstore_n 3, 1)) (h : XX G own cc R Fx (pc + 1) (l0 :: l1 :: l2 :: some (vl z) :: none :: r) S K N I cs ss) (hp : pvk (l0 :: l1 :: l2 :: l3 :: l4 :: r) 3 = true := by rfl) : XX G own cc R Fx pc (l0 :: l1 :: l2 :: l3 :: l4 :: r) (vl z :: S) K N I cs ss := x_lstore_n (i := 3) hd rfl (by simp) hp h
theorem x_ist4 {G : GT} {own : String} {cc : ByteArray} {R : Room} {Fx : FxT} {pc : Nat} {l0 l1 l2 l3 l4 : Option Value} {r : List (Option Value)} {S : List Value} {K : List Nat} {N : NN} {I : MM} {cs ss : Nat} {z : Int} (hd : decode cc pc = .ok (.istore 4, 2)) (h : XX G own cc R Fx (pc + 2) (l0 :: l1 :: l2 :: l3 :: some (vi z) :: r) S K N I cs ss) (hp : pvk (l0 :: l1 :: l2 :: l3 :: l4 :: r) 4 = true := by rfl) : XX G own cc R Fx pc (l0 :: l1 :: l2 :: l3 :: l4 :: r) (vi z :: S) K N I cs ss := x_istore (i := 4) hd (by simp) hp h
theorem x_ast4 {G : GT} {own : String} {cc : ByteArray} {R : Room} {Fx : FxT} {pc : Nat} {l0 l1 l2 l3 l4 : Option Value} {r : List (Option Value)} {S : List Value} {K : List Nat} {N : NN} {I : MM} {cs ss : Nat} {z : Nat} (hd : decode cc pc = .ok (.astore 4, 2)) (h : XX G own cc R Fx (pc + 2) (l0 :: l1 :: l2 :: l3 :: some (.ref z) :: r) S K N I cs ss) (hp : pvk (l0 :: l1 :: l2 :: l3 :: l4 :: r) 4 = true := by rfl) : XX G own cc R Fx pc (l0 :: l1 :: l2 :: l3 :: l4 :: r) (.ref z :: S) K N I cs ss := x_astore (i := 4) hd (by simp) hp h
theorem x_inc4 {G : GT} {own : String} {cc : ByteArray} {R : Room} {Fx : FxT} {pc : Nat} {l0 l1 l2 l3 : Option Value} {r : List (Option Value)} {S : List Value} {K : List Nat} {N : NN} {I : MM} {cs ss : Nat} {n z : Int} (hd : decode cc pc = .ok (.iinc 4 n, 3)) (h : XX G own cc R Fx (pc + 3) (l0 :: l1 :: l2 :: l3 :: some (vi (z + n)) :: r) S K N I cs ss) (hp : pvk (l0 :: l1 :: l2 :: l3 :: some (vi z) :: r) 4 = true := by rfl) : XX G own cc R Fx pc (l0 :: l1 :: l2 :: l3 :: some (vi z) :: r) S K N I cs ss := x_iinc hd rfl hp h
theorem x_lst4 {G : GT} {own : String} {cc : ByteArray} {R : Room} {Fx : FxT} {pc : Nat} {l0 l1 l2 l3 l4 l5 : Option Value} {r : List (Option Value)} {S : List Value} {K : List Nat} {N : NN} {I : MM} {cs ss : Nat} {z : Int} (hd : decode cc pc = .ok (.lstore 4, 2)) (h : XX G own cc R Fx (pc + 2) (l0 :: l1 :: l2 :: l3 :: some (vl z) :: none :: r) S K N I cs ss) (hp : pvk (l0 :: l1 :: l2 :: l3 :: l4 :: l5 :: r) 4 = true := by rfl) : XX G own cc R Fx pc (l0 :: l1 :: l2 :: l3 :: l4 :: l5 :: r) (vl z :: S) K N I cs ss := x_lstore (i := 4) hd (by simp) hp h
theorem x_ist5 {G : GT} {own : String} {cc : ByteArray} {R : Room} {Fx : FxT} {pc : Nat} {l0 l1 l2 l3 l4 l5 : Option Value} {r : List (Option Value)} {S : List Value} {K : List Nat} {N : NN} {I : MM} {cs ss : Nat} {z : Int} (hd : decode cc pc = .ok (.istore 5, 2)) (h : XX G own cc R Fx (pc + 2) (l0 :: l1 :: l2 :: l3 :: l4 :: some (vi z) :: r) S K N I cs ss) (hp : pvk (l0 :: l1 :: l2 :: l3 :: l4 :: l5 :: r) 5 = true := by rfl) : XX G own cc R Fx pc (l0 :: l1 :: l2 :: l3 :: l4 :: l5 :: r) (vi z :: S) K N I cs ss := x_istore (i := 5) hd (by simp) hp h
theorem x_ast5 {G : GT} {own : String} {cc : ByteArray} {R : Room} {Fx : FxT} {pc : Nat} {l0 l1 l2 l3 l4 l5 : Option Value} {r : List (Option Value)} {S : List Value} {K : List Nat} {N : NN} {I : MM} {cs ss : Nat} {z : Nat} (hd : decode cc pc = .ok (.astore 5, 2)) (h : XX G own cc R Fx (pc + 2) (l0 :: l1 :: l2 :: l3 :: l4 :: some (.ref z) :: r) S K N I cs ss) (hp : pvk (l0 :: l1 :: l2 :: l3 :: l4 :: l5 :: r) 5 = true := by rfl) : XX G own cc R Fx pc (l0 :: l1 :: l2 :: l3 :: l4 :: l5 :: r) (.ref z :: S) K N I cs ss := x_astore (i := 5) hd (by simp) hp h
theorem x_inc5 {G : GT} {own : String} {cc : ByteArray} {R : Room} {Fx : FxT} {pc : Nat} {l0 l1 l2 l3 l4 : Option Value} {r : List (Option Value)} {S : List Value} {K : List Nat} {N : NN} {I : MM} {cs ss : Nat} {n z : Int} (hd : decode cc pc = .ok (.iinc 5 n, 3)) (h : XX G own cc R Fx (pc + 3) (l0 :: l1 :: l2 :: l3 :: l4 :: some (vi (z + n)) :: r) S K N I cs ss) (hp : pvk (l0 :: l1 :: l2 :: l3 :: l4 :: some (vi z) :: r) 5 = true := by rfl) : XX G own cc R Fx pc (l0 :: l1 :: l2 :: l3 :: l4 :: some (vi z) :: r) S K N I cs ss := x_iinc hd rfl hp h
theorem x_lst5 {G : GT} {own : String} {cc : ByteArray} {R : Room} {Fx : FxT} {pc : Nat} {l0 l1 l2 l3 l4 l5 l6 : Option Value} {r : List (Option Value)} {S : List Value} {K : List Nat} {N : NN} {I : MM} {cs ss : Nat} {z : Int} (hd : decode cc pc = .ok (.lstore 5, 2)) (h : XX G own cc R Fx (pc + 2) (l0 :: l1 :: l2 :: l3 :: l4 :: some (vl z) :: none :: r) S K N I cs ss) (hp : pvk (l0 :: l1 :: l2 :: l3 :: l4 :: l5 :: l6 :: r) 5 = true := by rfl) : XX G own cc R Fx pc (l0 :: l1 :: l2 :: l3 :: l4 :: l5 :: l6 :: r) (vl z :: S) K N I cs ss := x_lstore (i := 5) hd (by simp) hp h
theorem x_ist6 {G : GT} {own : String} {cc : ByteArray} {R : Room} {Fx : FxT} {pc : Nat} {l0 l1 l2 l3 l4 l5 l6 : Option Value} {r : List (Option Value)} {S : List Value} {K : List Nat} {N : NN} {I : MM} {cs ss : Nat} {z : Int} (hd : decode cc pc = .ok (.istore 6, 2)) (h : XX G own cc R Fx (pc + 2) (l0 :: l1 :: l2 :: l3 :: l4 :: l5 :: some (vi z) :: r) S K N I cs ss) (hp : pvk (l0 :: l1 :: l2 :: l3 :: l4 :: l5 :: l6 :: r) 6 = true := by rfl) : XX G own cc R Fx pc (l0 :: l1 :: l2 :: l3 :: l4 :: l5 :: l6 :: r) (vi z :: S) K N I cs ss := x_istore (i := 6) hd (by simp) hp h
theorem x_ast6 {G : GT} {own : String} {cc : ByteArray} {R : Room} {Fx : FxT} {pc : Nat} {l0 l1 l2 l3 l4 l5 l6 : Option Value} {r : List (Option Value)} {S : List Value} {K : List Nat} {N : NN} {I : MM} {cs ss : Nat} {z : Nat} (hd : decode cc pc = .ok (.astore 6, 2)) (h : XX G own cc R Fx (pc + 2) (l0 :: l1 :: l2 :: l3 :: l4 :: l5 :: some (.ref z) :: r) S K N I cs ss) (hp : pvk (l0 :: l1 :: l2 :: l3 :: l4 :: l5 :: l6 :: r) 6 = true := by rfl) : XX G own cc R Fx pc (l0 :: l1 :: l2 :: l3 :: l4 :: l5 :: l6 :: r) (.ref z :: S) K N I cs ss := x_astore (i := 6) hd (by simp) hp h
theorem x_inc6 {G : GT} {own : String} {cc : ByteArray} {R : Room} {Fx : FxT} {pc : Nat} {l0 l1 l2 l3 l4 l5 : Option Value} {r : List (Option Value)} {S : List Value} {K : List Nat} {N : NN} {I : MM} {cs ss : Nat} {n z : Int} (hd : decode cc pc = .ok (.iinc 6 n, 3)) (h : XX G own cc R Fx (pc + 3) (l0 :: l1 :: l2 :: l3 :: l4 :: l5 :: some (vi (z + n)) :: r) S K N I cs ss) (hp : pvk (l0 :: l1 :: l2 :: l3 :: l4 :: l5 :: some (vi z) :: r) 6 = true := by rfl) : XX G own cc R Fx pc (l0 :: l1 :: l2 :: l3 :: l4 :: l5 :: some (vi z) :: r) S K N I cs ss := x_iinc hd rfl hp h
theorem x_lst6 {G : GT} {own : String} {cc : ByteArray} {R : Room} {Fx : FxT} {pc : Nat} {l0 l1 l2 l3 l4 l5 l6 l7 : Option Value} {r : List (Option Value)} {S : List Value} {K : List Nat} {N : NN} {I : MM} {cs ss : Nat} {z : Int} (hd : decode cc pc = .ok (.lstore 6, 2)) (h : XX G own cc R Fx (pc + 2) (l0 :: l1 :: l2 :: l3 :: l4 :: l5 :: some (vl z) :: none :: r) S K N I cs ss) (hp : pvk (l0 :: l1 :: l2 :: l3 :: l4 :: l5 :: l6 :: l7 :: r) 6 = true := by rfl) : XX G own cc R Fx pc (l0 :: l1 :: l2 :: l3 :: l4 :: l5 :: l6 :: l7 :: r) (vl z :: S) K N I cs ss := x_lstore (i := 6) hd (by simp) hp h
theorem x_ist7 {G : GT} {own : String} {cc : ByteArray} {R : Room} {Fx : FxT} {pc : Nat} {l0 l1 l2 l3 l4 l5 l6 l7 : Option Value} {r : List (Option Value)} {S : List Value} {K : List Nat} {N : NN} {I : MM} {cs ss : Nat} {z : Int} (hd : decode cc pc = .ok (.istore 7, 2)) (h : XX G own cc R Fx (pc + 2) (l0 :: l1 :: l2 :: l3 :: l4 :: l5 :: l6 :: some (vi z) :: r) S K N I cs ss) (hp : pvk (l0 :: l1 :: l2 :: l3 :: l4 :: l5 :: l6 :: l7 :: r) 7 = true := by rfl) : XX G own cc R Fx pc (l0 :: l1 :: l2 :: l3 :: l4 :: l5 :: l6 :: l7 :: r) (vi z :: S) K N I cs ss := x_istore (i := 7) hd (by simp) hp h
theorem x_ast7 {G : GT} {own : String} {cc : ByteArray} {R : Room} {Fx : FxT} {pc : Nat} {l0 l1 l2 l3 l4 l5 l6 l7 : Option Value} {r : List (Option Value)} {S : List Value} {K : List Nat} {N : NN} {I : MM} {cs ss : Nat} {z : Nat} (hd : decode cc pc = .ok (.astore 7, 2)) (h : XX G own cc R Fx (pc + 2) (l0 :: l1 :: l2 :: l3 :: l4 :: l5 :: l6 :: some (.ref z) :: r) S K N I cs ss) (hp : pvk (l0 :: l1 :: l2 :: l3 :: l4 :: l5 :: l6 :: l7 :: r) 7 = true := by rfl) : XX G own cc R Fx pc (l0 :: l1 :: l2 :: l3 :: l4 :: l5 :: l6 :: l7 :: r) (.ref z :: S) K N I cs ss := x_astore (i := 7) hd (by simp) hp h
theorem x_inc7 {G : GT} {own : String} {cc : ByteArray} {R : Room} {Fx : FxT} {pc : Nat} {l0 l1 l2 l3 l4 l5 l6 : Option Value} {r : List (Option Value)} {S : List Value} {K : List Nat} {N : NN} {I : MM} {cs ss : Nat} {n z : Int} (hd : decode cc pc = .ok (.iinc 7 n, 3)) (h : XX G own cc R Fx (pc + 3) (l0 :: l1 :: l2 :: l3 :: l4 :: l5 :: l6 :: some (vi (z + n)) :: r) S K N I cs ss) (hp : pvk (l0 :: l1 :: l2 :: l3 :: l4 :: l5 :: l6 :: some (vi z) :: r) 7 = true := by rfl) : XX G own cc R Fx pc (l0 :: l1 :: l2 :: l3 :: l4 :: l5 :: l6 :: some (vi z) :: r) S K N I cs ss := x_iinc hd rfl hp h
theorem x_lst7 {G : GT} {own : String} {cc : ByteArray} {R : Room} {Fx : FxT} {pc : Nat} {l0 l1 l2 l3 l4 l5 l6 l7 l8 : Option Value} {r : List (Option Value)} {S : List Value} {K : List Nat} {N : NN} {I : MM} {cs ss : Nat} {z : Int} (hd : decode cc pc = .ok (.lstore 7, 2)) (h : XX G own cc R Fx (pc + 2) (l0 :: l1 :: l2 :: l3 :: l4 :: l5 :: l6 :: some (vl z) :: none :: r) S K N I cs ss) (hp : pvk (l0 :: l1 :: l2 :: l3 :: l4 :: l5 :: l6 :: l7 :: l8 :: r) 7 = true := by rfl) : XX G own cc R Fx pc (l0 :: l1 :: l2 :: l3 :: l4 :: l5 :: l6 :: l7 :: l8 :: r) (vl z :: S) K N I cs ss := x_lstore (i := 7) hd (by simp) hp h
theorem x_ist8 {G : GT} {own : String} {cc : ByteArray} {R : Room} {Fx : FxT} {pc : Nat} {l0 l1 l2 l3 l4 l5 l6 l7 l8 : Option Value} {r : List (Option Value)} {S : List Value} {K : List Nat} {N : NN} {I : MM} {cs ss : Nat} {z : Int} (hd : decode cc pc = .ok (.istore 8, 2)) (h : XX G own cc R Fx (pc + 2) (l0 :: l1 :: l2 :: l3 :: l4 :: l5 :: l6 :: l7 :: some (vi z) :: r) S K N I cs ss) (hp : pvk (l0 :: l1 :: l2 :: l3 :: l4 :: l5 :: l6 :: l7 :: l8 :: r) 8 = true := by rfl) : XX G own cc R Fx pc (l0 :: l1 :: l2 :: l3 :: l4 :: l5 :: l6 :: l7 :: l8 :: r) (vi z :: S) K N I cs ss := x_istore (i := 8) hd (by simp) hp h
theorem x_inc8 {G : GT} {own : String} {cc : ByteArray} {R : Room} {Fx : FxT} {pc : Nat} {l0 l1 l2 l3 l4 l5 l6 l7 : Option Value} {r : List (Option Value)} {S : List Value} {K : List Nat} {N : NN} {I : MM} {cs ss : Nat} {n z : Int} (hd : decode cc pc = .ok (.iinc 8 n, 3)) (h : XX G own cc R Fx (pc + 3) (l0 :: l1 :: l2 :: l3 :: l4 :: l5 :: l6 :: l7 :: some (vi (z + n)) :: r) S K N I cs ss) (hp : pvk (l0 :: l1 :: l2 :: l3 :: l4 :: l5 :: l6 :: l7 :: some (vi z) :: r) 8 = true := by rfl) : XX G own cc R Fx pc (l0 :: l1 :: l2 :: l3 :: l4 :: l5 :: l6 :: l7 :: some (vi z) :: r) S K N I cs ss := x_iinc hd rfl hp h
theorem x_lst8 {G : GT} {own : String} {cc : ByteArray} {R : Room} {Fx : FxT} {pc : Nat} {l0 l1 l2 l3 l4 l5 l6 l7 l8 l9 : Option Value} {r : List (Option Value)} {S : List Value} {K : List Nat} {N : NN} {I : MM} {cs ss : Nat} {z : Int} (hd : decode cc pc = .ok (.lstore 8, 2)) (h : XX G own cc R Fx (pc + 2) (l0 :: l1 :: l2 :: l3 :: l4 :: l5 :: l6 :: l7 :: some (vl z) :: none :: r) S K N I cs ss) (hp : pvk (l0 :: l1 :: l2 :: l3 :: l4 :: l5 :: l6 :: l7 :: l8 :: l9 :: r) 8 = true := by rfl) : XX G own cc R Fx pc (l0 :: l1 :: l2 :: l3 :: l4 :: l5 :: l6 :: l7 :: l8 :: l9 :: r) (vl z :: S) K N I cs ss := x_lstore (i := 8) hd (by simp) hp h
theorem x_ist9 {G : GT} {own : String} {cc : ByteArray} {R : Room} {Fx : FxT} {pc : Nat} {l0 l1 l2 l3 l4 l5 l6 l7 l8 l9 : Option Value} {r : List (Option Value)} {S : List Value} {K : List Nat} {N : NN} {I : MM} {cs ss : Nat} {z : Int} (hd : decode cc pc = .ok (.istore 9, 2)) (h : XX G own cc R Fx (pc + 2) (l0 :: l1 :: l2 :: l3 :: l4 :: l5 :: l6 :: l7 :: l8 :: some (vi z) :: r) S K N I cs ss) (hp : pvk (l0 :: l1 :: l2 :: l3 :: l4 :: l5 :: l6 :: l7 :: l8 :: l9 :: r) 9 = true := by rfl) : XX G own cc R Fx pc (l0 :: l1 :: l2 :: l3 :: l4 :: l5 :: l6 :: l7 :: l8 :: l9 :: r) (vi z :: S) K N I cs ss := x_istore (i := 9) hd (by simp) hp h
theorem x_inc9 {G : GT} {own : String} {cc : ByteArray} {R : Room} {Fx : FxT} {pc : Nat} {l0 l1 l2 l3 l4 l5 l6 l7 l8 : Option Value} {r : List (Option Value)} {S : List Value} {K : List Nat} {N : NN} {I : MM} {cs ss : Nat} {n z : Int} (hd : decode cc pc = .ok (.iinc 9 n, 3)) (h : XX G own cc R Fx (pc + 3) (l0 :: l1 :: l2 :: l3 :: l4 :: l5 :: l6 :: l7 :: l8 :: some (vi (z + n)) :: r) S K N I cs ss) (hp : pvk (l0 :: l1 :: l2 :: l3 :: l4 :: l5 :: l6 :: l7 :: l8 :: some (vi z) :: r) 9 = true := by rfl) : XX G own cc R Fx pc (l0 :: l1 :: l2 :: l3 :: l4 :: l5 :: l6 :: l7 :: l8 :: some (vi z) :: r) S K N I cs ss := x_iinc hd rfl hp h
theorem x_lst9 {G : GT} {own : String} {cc : ByteArray} {R : Room} {Fx : FxT} {pc : Nat} {l0 l1 l2 l3 l4 l5 l6 l7 l8 l9 l10 : Option Value} {r : List (Option Value)} {S : List Value} {K : List Nat} {N : NN} {I : MM} {cs ss : Nat} {z : Int} (hd : decode cc pc = .ok (.lstore 9, 2)) (h : XX G own cc R Fx (pc + 2) (l0 :: l1 :: l2 :: l3 :: l4 :: l5 :: l6 :: l7 :: l8 :: some (vl z) :: none :: r) S K N I cs ss) (hp : pvk (l0 :: l1 :: l2 :: l3 :: l4 :: l5 :: l6 :: l7 :: l8 :: l9 :: l10 :: r) 9 = true := by rfl) : XX G own cc R Fx pc (l0 :: l1 :: l2 :: l3 :: l4 :: l5 :: l6 :: l7 :: l8 :: l9 :: l10 :: r) (vl z :: S) K N I cs ss := x_lstore (i := 9) hd (by simp) hp h
theorem x_ist10 {G : GT} {own : String} {cc : ByteArray} {R : Room} {Fx : FxT} {pc : Nat} {l0 l1 l2 l3 l4 l5 l6 l7 l8 l9 l10 : Option Value} {r : List (Option Value)} {S : List Value} {K : List Nat} {N : NN} {I : MM} {cs ss : Nat} {z : Int} (hd : decode cc pc = .ok (.istore 10, 2)) (h : XX G own cc R Fx (pc + 2) (l0 :: l1 :: l2 :: l3 :: l4 :: l5 :: l6 :: l7 :: l8 :: l9 :: some (vi z) :: r) S K N I cs ss) (hp : pvk (l0 :: l1 :: l2 :: l3 :: l4 :: l5 :: l6 :: l7 :: l8 :: l9 :: l10 :: r) 10 = true := by rfl) : XX G own cc R Fx pc (l0 :: l1 :: l2 :: l3 :: l4 :: l5 :: l6 :: l7 :: l8 :: l9 :: l10 :: r) (vi z :: S) K N I cs ss := x_istore (i := 10) hd (by simp) hp h
theorem x_inc10 {G : GT} {own : String} {cc : ByteArray} {R : Room} {Fx : FxT} {pc : Nat} {l0 l1 l2 l3 l4 l5 l6 l7 l8 l9 : Option Value} {r : List (Option Value)} {S : List Value} {K : List Nat} {N : NN} {I : MM} {cs ss : Nat} {n z : Int} (hd : decode cc pc = .ok (.iinc 10 n, 3)) (h : XX G own cc R Fx (pc + 3) (l0 :: l1 :: l2 :: l3 :: l4 :: l5 :: l6 :: l7 :: l8 :: l9 :: some (vi (z + n)) :: r) S K N I cs ss) (hp : pvk (l0 :: l1 :: l2 :: l3 :: l4 :: l5 :: l6 :: l7 :: l8 :: l9 :: some (vi z) :: r) 10 = true := by rfl) : XX G own cc R Fx pc (l0 :: l1 :: l2 :: l3 :: l4 :: l5 :: l6 :: l7 :: l8 :: l9 :: some (vi z) :: r) S K N I cs ss := x_iinc hd rfl hp h
theorem x_lst10 {G : GT} {own : String} {cc : ByteArray} {R : Room} {Fx : FxT} {pc : Nat} {l0 l1 l2 l3 l4 l5 l6 l7 l8 l9 l10 l11 : Option Value} {r : List (Option Value)} {S : List Value} {K : List Nat} {N : NN} {I : MM} {cs ss : Nat} {z : Int} (hd : decode cc pc = .ok (.lstore 10, 2)) (h : XX G own cc R Fx (pc + 2) (l0 :: l1 :: l2 :: l3 :: l4 :: l5 :: l6 :: l7 :: l8 :: l9 :: some (vl z) :: none :: r) S K N I cs ss) (hp : pvk (l0 :: l1 :: l2 :: l3 :: l4 :: l5 :: l6 :: l7 :: l8 :: l9 :: l10 :: l11 :: r) 10 = true := by rfl) : XX G own cc R Fx pc (l0 :: l1 :: l2 :: l3 :: l4 :: l5 :: l6 :: l7 :: l8 :: l9 :: l10 :: l11 :: r) (vl z :: S) K N I cs ss := x_lstore (i := 10) hd (by simp) hp h
theorem x_ist11 {G : GT} {own : String} {cc : ByteArray} {R : Room} {Fx : FxT} {pc : Nat} {l0 l1 l2 l3 l4 l5 l6 l7 l8 l9 l10 l11 : Option Value} {r : List (Option Value)} {S : List Value} {K : List Nat} {N : NN} {I : MM} {cs ss : Nat} {z : Int} (hd : decode cc pc = .ok (.istore 11, 2)) (h : XX G own cc R Fx (pc + 2) (l0 :: l1 :: l2 :: l3 :: l4 :: l5 :: l6 :: l7 :: l8 :: l9 :: l10 :: some (vi z) :: r) S K N I cs ss) (hp : pvk (l0 :: l1 :: l2 :: l3 :: l4 :: l5 :: l6 :: l7 :: l8 :: l9 :: l10 :: l11 :: r) 11 = true := by rfl) : XX G own cc R Fx pc (l0 :: l1 :: l2 :: l3 :: l4 :: l5 :: l6 :: l7 :: l8 :: l9 :: l10 :: l11 :: r) (vi z :: S) K N I cs ss := x_istore (i := 11) hd (by simp) hp h
theorem x_inc11 {G : GT} {own : String} {cc : ByteArray} {R : Room} {Fx : FxT} {pc : Nat} {l0 l1 l2 l3 l4 l5 l6 l7 l8 l9 l10 : Option Value} {r : List (Option Value)} {S : List Value} {K : List Nat} {N : NN} {I : MM} {cs ss : Nat} {n z : Int} (hd : decode cc pc = .ok (.iinc 11 n, 3)) (h : XX G own cc R Fx (pc + 3) (l0 :: l1 :: l2 :: l3 :: l4 :: l5 :: l6 :: l7 :: l8 :: l9 :: l10 :: some (vi (z + n)) :: r) S K N I cs ss) (hp : pvk (l0 :: l1 :: l2 :: l3 :: l4 :: l5 :: l6 :: l7 :: l8 :: l9 :: l10 :: some (vi z) :: r) 11 = true := by rfl) : XX G own cc R Fx pc (l0 :: l1 :: l2 :: l3 :: l4 :: l5 :: l6 :: l7 :: l8 :: l9 :: l10 :: some (vi z) :: r) S K N I cs ss := x_iinc hd rfl hp h
theorem x_lst11 {G : GT} {own : String} {cc : ByteArray} {R : Room} {Fx : FxT} {pc : Nat} {l0 l1 l2 l3 l4 l5 l6 l7 l8 l9 l10 l11 l12 : Option Value} {r : List (Option Value)} {S : List Value} {K : List Nat} {N : NN} {I : MM} {cs ss : Nat} {z : Int} (hd : decode cc pc = .ok (.lstore 11, 2)) (h : XX G own cc R Fx (pc + 2) (l0 :: l1 :: l2 :: l3 :: l4 :: l5 :: l6 :: l7 :: l8 :: l9 :: l10 :: some (vl z) :: none :: r) S K N I cs ss) (hp : pvk (l0 :: l1 :: l2 :: l3 :: l4 :: l5 :: l6 :: l7 :: l8 :: l9 :: l10 :: l11 :: l12 :: r) 11 = true := by rfl) : XX G own cc R Fx pc (l0 :: l1 :: l2 :: l3 :: l4 :: l5 :: l6 :: l7 :: l8 :: l9 :: l10 :: l11 :: l12 :: r) (vl z :: S) K N I cs ss := x_lstore (i := 11) hd (by simp) hp h
theorem x_ist12 {G : GT} {own : String} {cc : ByteArray} {R : Room} {Fx : FxT} {pc : Nat} {l0 l1 l2 l3 l4 l5 l6 l7 l8 l9 l10 l11 l12 : Option Value} {r : List (Option Value)} {S : List Value} {K : List Nat} {N : NN} {I : MM} {cs ss : Nat} {z : Int} (hd : decode cc pc = .ok (.istore 12, 2)) (h : XX G own cc R Fx (pc + 2) (l0 :: l1 :: l2 :: l3 :: l4 :: l5 :: l6 :: l7 :: l8 :: l9 :: l10 :: l11 :: some (vi z) :: r) S K N I cs ss) (hp : pvk (l0 :: l1 :: l2 :: l3 :: l4 :: l5 :: l6 :: l7 :: l8 :: l9 :: l10 :: l11 :: l12 :: r) 12 = true := by rfl) : XX G own cc R Fx pc (l0 :: l1 :: l2 :: l3 :: l4 :: l5 :: l6 :: l7 :: l8 :: l9 :: l10 :: l11 :: l12 :: r) (vi z :: S) K N I cs ss := x_istore (i := 12) hd (by simp) hp h
theorem x_inc12 {G : GT} {own : String} {cc : ByteArray} {R : Room} {Fx : FxT} {pc : Nat} {l0 l1 l2 l3 l4 l5 l6 l7 l8 l9 l10 l11 : Option Value} {r : List (Option Value)} {S : List Value} {K : List Nat} {N : NN} {I : MM} {cs ss : Nat} {n z : Int} (hd : decode cc pc = .ok (.iinc 12 n, 3)) (h : XX G own cc R Fx (pc + 3) (l0 :: l1 :: l2 :: l3 :: l4 :: l5 :: l6 :: l7 :: l8 :: l9 :: l10 :: l11 :: some (vi (z + n)) :: r) S K N I cs ss) (hp : pvk (l0 :: l1 :: l2 :: l3 :: l4 :: l5 :: l6 :: l7 :: l8 :: l9 :: l10 :: l11 :: some (vi z) :: r) 12 = true := by rfl) : XX G own cc R Fx pc (l0 :: l1 :: l2 :: l3 :: l4 :: l5 :: l6 :: l7 :: l8 :: l9 :: l10 :: l11 :: some (vi z) :: r) S K N I cs ss := x_iinc hd rfl hp h
theorem x_lst12 {G : GT} {own : String} {cc : ByteArray} {R : Room} {Fx : FxT} {pc : Nat} {l0 l1 l2 l3 l4 l5 l6 l7 l8 l9 l10 l11 l12 l13 : Option Value} {r : List (Option Value)} {S : List Value} {K : List Nat} {N : NN} {I : MM} {cs ss : Nat} {z : Int} (hd : decode cc pc = .ok (.lstore 12, 2)) (h : XX G own cc R Fx (pc + 2) (l0 :: l1 :: l2 :: l3 :: l4 :: l5 :: l6 :: l7 :: l8 :: l9 :: l10 :: l11 :: some (vl z) :: none :: r) S K N I cs ss) (hp : pvk (l0 :: l1 :: l2 :: l3 :: l4 :: l5 :: l6 :: l7 :: l8 :: l9 :: l10 :: l11 :: l12 :: l13 :: r) 12 = true := by rfl) : XX G own cc R Fx pc (l0 :: l1 :: l2 :: l3 :: l4 :: l5 :: l6 :: l7 :: l8 :: l9 :: l10 :: l11 :: l12 :: l13 :: r) (vl z :: S) K N I cs ss := x_lstore (i := 12) hd (by simp) hp h
theorem x_ist13 {G : GT} {own : String} {cc : ByteArray} {R : Room} {Fx : FxT} {pc : Nat} {l0 l1 l2 l3 l4 l5 l6 l7 l8 l9 l10 l11 l12 l13 : Option Value} {r : List (Option Value)} {S : List Value} {K : List Nat} {N : NN} {I : MM} {cs ss : Nat} {z : Int} (hd : decode cc pc = .ok (.istore 13, 2)) (h : XX G own cc R Fx (pc + 2) (l0 :: l1 :: l2 :: l3 :: l4 :: l5 :: l6 :: l7 :: l8 :: l9 :: l10 :: l11 :: l12 :: some (vi z) :: r) S K N I cs ss) (hp : pvk (l0 :: l1 :: l2 :: l3 :: l4 :: l5 :: l6 :: l7 :: l8 :: l9 :: l10 :: l11 :: l12 :: l13 :: r) 13 = true := by rfl) : XX G own cc R Fx pc (l0 :: l1 :: l2 :: l3 :: l4 :: l5 :: l6 :: l7 :: l8 :: l9 :: l10 :: l11 :: l12 :: l13 :: r) (vi z :: S) K N I cs ss := x_istore (i := 13) hd (by simp) hp h
theorem x_inc13 {G : GT} {own : String} {cc : ByteArray} {R : Room} {Fx : FxT} {pc : Nat} {l0 l1 l2 l3 l4 l5 l6 l7 l8 l9 l10 l11 l12 : Option Value} {r : List (Option Value)} {S : List Value} {K : List Nat} {N : NN} {I : MM} {cs ss : Nat} {n z : Int} (hd : decode cc pc = .ok (.iinc 13 n, 3)) (h : XX G own cc R Fx (pc + 3) (l0 :: l1 :: l2 :: l3 :: l4 :: l5 :: l6 :: l7 :: l8 :: l9 :: l10 :: l11 :: l12 :: some (vi (z + n)) :: r) S K N I cs ss) (hp : pvk (l0 :: l1 :: l2 :: l3 :: l4 :: l5 :: l6 :: l7 :: l8 :: l9 :: l10 :: l11 :: l12 :: some (vi z) :: r) 13 = true := by rfl) : XX G own cc R Fx pc (l0 :: l1 :: l2 :: l3 :: l4 :: l5 :: l6 :: l7 :: l8 :: l9 :: l10 :: l11 :: l12 :: some (vi z) :: r) S K N I cs ss := x_iinc hd rfl hp h
theorem x_lst13 {G : GT} {own : String} {cc : ByteArray} {R : Room} {Fx : FxT} {pc : Nat} {l0 l1 l2 l3 l4 l5 l6 l7 l8 l9 l10 l11 l12 l13 l14 : Option Value} {r : List (Option Value)} {S : List Value} {K : List Nat} {N : NN} {I : MM} {cs ss : Nat} {z : Int} (hd : decode cc pc = .ok (.lstore 13, 2)) (h : XX G own cc R Fx (pc + 2) (l0 :: l1 :: l2 :: l3 :: l4 :: l5 :: l6 :: l7 :: l8 :: l9 :: l10 :: l11 :: l12 :: some (vl z) :: none :: r) S K N I cs ss) (hp : pvk (l0 :: l1 :: l2 :: l3 :: l4 :: l5 :: l6 :: l7 :: l8 :: l9 :: l10 :: l11 :: l12 :: l13 :: l14 :: r) 13 = true := by rfl) : XX G own cc R Fx pc (l0 :: l1 :: l2 :: l3 :: l4 :: l5 :: l6 :: l7 :: l8 :: l9 :: l10 :: l11 :: l12 :: l13 :: l14 :: r) (vl z :: S) K N I cs ss := x_lstore (i := 13) hd (by simp) hp h
theorem x_ist14 {G : GT} {own : String} {cc : ByteArray} {R : Room} {Fx : FxT} {pc : Nat} {l0 l1 l2 l3 l4 l5 l6 l7 l8 l9 l10 l11 l12 l13 l14 : Option Value} {r : List (Option Value)} {S : List Value} {K : List Nat} {N : NN} {I : MM} {cs ss : Nat} {z : Int} (hd : decode cc pc = .ok (.istore 14, 2)) (h : XX G own cc R Fx (pc + 2) (l0 :: l1 :: l2 :: l3 :: l4 :: l5 :: l6 :: l7 :: l8 :: l9 :: l10 :: l11 :: l12 :: l13 :: some (vi z) :: r) S K N I cs ss) (hp : pvk (l0 :: l1 :: l2 :: l3 :: l4 :: l5 :: l6 :: l7 :: l8 :: l9 :: l10 :: l11 :: l12 :: l13 :: l14 :: r) 14 = true := by rfl) : XX G own cc R Fx pc (l0 :: l1 :: l2 :: l3 :: l4 :: l5 :: l6 :: l7 :: l8 :: l9 :: l10 :: l11 :: l12 :: l13 :: l14 :: r) (vi z :: S) K N I cs ss := x_istore (i := 14) hd (by simp) hp h
theorem x_inc14 {G : GT} {own : String} {cc : ByteArray} {R : Room} {Fx : FxT} {pc : Nat} {l0 l1 l2 l3 l4 l5 l6 l7 l8 l9 l10 l11 l12 l13 : Option Value} {r : List (Option Value)} {S : List Value} {K : List Nat} {N : NN} {I : MM} {cs ss : Nat} {n z : Int} (hd : decode cc pc = .ok (.iinc 14 n, 3)) (h : XX G own cc R Fx (pc + 3) (l0 :: l1 :: l2 :: l3 :: l4 :: l5 :: l6 :: l7 :: l8 :: l9 :: l10 :: l11 :: l12 :: l13 :: some (vi (z + n)) :: r) S K N I cs ss) (hp : pvk (l0 :: l1 :: l2 :: l3 :: l4 :: l5 :: l6 :: l7 :: l8 :: l9 :: l10 :: l11 :: l12 :: l13 :: some (vi z) :: r) 14 = true := by rfl) : XX G own cc R Fx pc (l0 :: l1 :: l2 :: l3 :: l4 :: l5 :: l6 :: l7 :: l8 :: l9 :: l10 :: l11 :: l12 :: l13 :: some (vi z) :: r) S K N I cs ss := x_iinc hd rfl hp h
theorem x_ist15 {G : GT} {own : String} {cc : ByteArray} {R : Room} {Fx : FxT} {pc : Nat} {l0 l1 l2 l3 l4 l5 l6 l7 l8 l9 l10 l11 l12 l13 l14 l15 : Option Value} {r : List (Option Value)} {S : List Value} {K : List Nat} {N : NN} {I : MM} {cs ss : Nat} {z : Int} (hd : decode cc pc = .ok (.istore 15, 2)) (h : XX G own cc R Fx (pc + 2) (l0 :: l1 :: l2 :: l3 :: l4 :: l5 :: l6 :: l7 :: l8 :: l9 :: l10 :: l11 :: l12 :: l13 :: l14 :: some (vi z) :: r) S K N I cs ss) (hp : pvk (l0 :: l1 :: l2 :: l3 :: l4 :: l5 :: l6 :: l7 :: l8 :: l9 :: l10 :: l11 :: l12 :: l13 :: l14 :: l15 :: r) 15 = true := by rfl) : XX G own cc R Fx pc (l0 :: l1 :: l2 :: l3 :: l4 :: l5 :: l6 :: l7 :: l8 :: l9 :: l10 :: l11 :: l12 :: l13 :: l14 :: l15 :: r) (vi z :: S) K N I cs ss := x_istore (i := 15) hd (by simp) hp h
theorem x_inc15 {G : GT} {own : String} {cc : ByteArray} {R : Room} {Fx : FxT} {pc : Nat} {l0 l1 l2 l3 l4 l5 l6 l7 l8 l9 l10 l11 l12 l13 l14 : Option Value} {r : List (Option Value)} {S : List Value} {K : List Nat} {N : NN} {I : MM} {cs ss : Nat} {n z : Int} (hd : decode cc pc = .ok (.iinc 15 n, 3)) (h : XX G own cc R Fx (pc + 3) (l0 :: l1 :: l2 :: l3 :: l4 :: l5 :: l6 :: l7 :: l8 :: l9 :: l10 :: l11 :: l12 :: l13 :: l14 :: some (vi (z + n)) :: r) S K N I cs ss) (hp : pvk (l0 :: l1 :: l2 :: l3 :: l4 :: l5 :: l6 :: l7 :: l8 :: l9 :: l10 :: l11 :: l12 :: l13 :: l14 :: some (vi z) :: r) 15 = true := by rfl) : XX G own cc R Fx pc (l0 :: l1 :: l2 :: l3 :: l4 :: l5 :: l6 :: l7 :: l8 :: l9 :: l10 :: l11 :: l12 :: l13 :: l14 :: some (vi z) :: r) S K N I cs ss := x_iinc hd rfl hp h
end
section
/-! ===== the heap: fields, arrays, what is made ===== -/
theorem wl_at {cA : Nat → ClassId} {al : Nat → Nat} {K : List Nat} {N : NN} {I : MM} {q0 i : Nat} (h : K[q0]? = some i) : (wl cA al K N I)[q0]? = some (al i, ent cA al N I i) := by simp [wl, h]
theorem wl_of {cA : Nat → ClassId} {al : Nat → Nat} {K : List Nat} {N : NN} {I : MM} {q0 : Nat} {x : Nat × va_E} (h : (wl cA al K N I)[q0]? = some x) : ∃ i, K[q0]? = some i ∧ x = (al i, ent cA al N I i) := by
  rw [wl, List.getElem?_map] at h
  cases hk : K[q0]? with
  | none => rw [hk] at h; cases h
  | some i => rw [hk] at h; cases h; exact ⟨i, rfl, rfl⟩
theorem wl_set {A : Nat → Prop} {cA : Nat → ClassId} {al : Nat → Nat} {K : List Nat} {N N' : NN} {I I' : MM} {q0 i : Nat} {e' : va_E} (hD : va_D A (wl cA al K N I)) (hq : K[q0]? = some i) (he : ent cA al N' I' i = e') (ho : ∀ j, j ≠ i → ent cA al N' I' j = ent cA al N I j) : (wl cA al K N I).set q0 (al i, e') = wl cA al K N' I' := by
  apply List.ext_getElem?
  intro n
  by_cases e : q0 = n
  · subst e
    rw [List.getElem?_set_self (by simpa [wl] using (List.getElem?_eq_some_iff.mp hq).1), wl_at hq, he]
  · rw [List.getElem?_set_ne e]
    cases hn : K[n]? with
    | none => simp [wl, hn]
    | some j =>
      rw [wl_at hn, wl_at hn, ho j (fun z => ?_)]
      subst z
      exact e (hD.1 q0 n _ _ (wl_at hq) (wl_at hn) rfl)
theorem ent_obj {cA : Nat → ClassId} {al : Nat → Nat} {N : NN} {I : MM} {i ci : Nat} (h : kd i = ci) (h6 : ci < 6) : ent cA al N I i = .inr (ci, (List.range (ln i)).map (sv al N I i)) := by
  subst h
  unfold ent
  rw [if_neg (by omega), if_neg (by omega), if_neg (by omega)]
theorem ent_int {cA : Nat → ClassId} {al : Nat → Nat} {N : NN} {I : MM} {i : Nat} (h : kd i = 10) : ent cA al N I i = .inl (cA 0, ln i, .inl (ia I i)) := by unfold ent; rw [if_pos h]
theorem ent_boo {cA : Nat → ClassId} {al : Nat → Nat} {N : NN} {I : MM} {i : Nat} (h : kd i = 11) : ent cA al N I i = .inl (cA 1, ln i, .inl (ia I i)) := by unfold ent; rw [if_neg (by omega), if_pos h]
theorem ent_row {cA : Nat → ClassId} {al : Nat → Nat} {N : NN} {I : MM} {i : Nat} (h : kd i = 12) : ent cA al N I i = .inl (cA 2, ln i, .inr (.inr (.inr (.inr (rq al N i))))) := by unfold ent; rw [if_neg (by omega), if_neg (by omega), if_pos h]
theorem fs_get {α : Type} {n k : Nat} {f : Nat → α} (hk : k < n) : ((List.range n).map f)[k]? = some (f k) := by simp [hk]
theorem fs_set {α : Type} {n k : Nat} {f g : Nat → α} {v : α} (hg : g k = v) (ho : ∀ j, j ≠ k → g j = f j) : ((List.range n).map f).set k v = (List.range n).map g := by
  apply List.ext_getElem?
  intro m
  by_cases e : k = m
  · subst e
    by_cases hk : k < n
    · rw [List.getElem?_set_self (by simpa using hk), fs_get hk, hg]
    · simp [hk]
  · rw [List.getElem?_set_ne e]
    by_cases hk : m < n
    · rw [fs_get hk, fs_get hk, ho m (Ne.symm e)]
    · simp [hk]
theorem up_s {I : MM} {i k : Nat} {v : Int} : up I i k v i k = v := by simp [up]
theorem up_n1 {I : MM} {i k a b : Nat} {v : Int} (h : a ≠ i) : up I i k v a b = I a b := by simp [up, h]
theorem up_n2 {I : MM} {i k a b : Nat} {v : Int} (h : b ≠ k) : up I i k v a b = I a b := by simp [up, h]
theorem ent_congr {cA : Nat → ClassId} {al : Nat → Nat} {N N' : NN} {I I' : MM} {j : Nat} (hI : ∀ b, I' j b = I j b) (hN : ∀ b, N' j b = N j b) : ent cA al N' I' j = ent cA al N I j := by
  have h1 : ia I' j = ia I j := by funext b; simp [ia, hI]
  have h2 : rq al N' j = rq al N j := by funext b; simp [rq, hN]
  have h3 : sv al N' I' j = sv al N I j := by funext b; simp [sv, hN, hI]
  unfold ent
  rw [h1, h2, h3]
theorem RepW.put {G : GT} {al : Nat → Nat} {K : List Nat} {N N' : NN} {I I' : MM} {H H1 : Heap} (h : RepW G al K N I H) (h1 : va_P G.1 classes (wl G.2.1 al K N' I') H1) (h2 : va_D (Ab G) (wl G.2.1 al K N' I')) (hc : ∀ i, i ∈ K → ∀ k j, tg i k = some j → N' i k = false → j ∈ K) : RepW G al K N' I' H1 := ⟨h1, h2, h.2.2.1, h.2.2.2.1, hc⟩
/-- what a class's objects are: its place, name, fields, how many; its words stand in the tables -/
def CI (ci : Nat) (C : String) (T : u_T) (Nn : Nat) (ty : Nat → FieldType) : Prop := classes[ci]? = some (C, T, Nn) ∧ (∀ w ∈ u_ws C T Nn, w ∈ Wd) ∧ (∀ i, kd i = ci → ln i = Nn) ∧ ci < 6 ∧ (∀ a, a < Nn → ∀ b, b < Nn → a ≠ b → (T a).2.1 ≠ (T b).2.1) ∧ (∀ k, k < Nn → parseFieldDescriptor (T k).2.2.1 = some (ty k))
/-- a field's entry in the pool -/
def GF (own : String) (x ci k : Nat) : Prop := ∃ C T Nn ty, CI ci C T Nn ty ∧ k < Nn ∧ Cond.fieldLink own x (T k).1 (T k).2.1 (T k).2.2.1 ∈ Wd
def PI (own : String) (x ci k : Nat) : Prop := ∃ C T Nn ty, CI ci C T Nn ty ∧ k < Nn ∧ Cond.fieldLink own x (T k).1 (T k).2.1 (T k).2.2.1 ∈ Wd ∧ (T k).2.2.2 = false ∧ parseFieldDescriptor (T k).2.2.1 = some .int
def PZ (own : String) (x ci k : Nat) : Prop := ∃ C T Nn ty, CI ci C T Nn ty ∧ k < Nn ∧ Cond.fieldLink own x (T k).1 (T k).2.1 (T k).2.2.1 ∈ Wd ∧ (T k).2.2.2 = false ∧ parseFieldDescriptor (T k).2.2.1 = some .boolean
def PR (own : String) (x ci k : Nat) : Prop := ∃ C T Nn ty t, CI ci C T Nn ty ∧ k < Nn ∧ Cond.fieldLink own x (T k).1 (T k).2.1 (T k).2.2.1 ∈ Wd ∧ (T k).2.2.2 = true ∧ (T k).1 = own ∧ parseFieldDescriptor (T k).2.2.1 = some t ∧ ∀ a : Nat, narrow t (.ref a) = .ref a ∧ fits t (.ref a) = true
theorem kd_small {i ci : Nat} (h : kd i = ci) (h6 : ci < 6) : kd i ≠ 99 := by omega
section FR
variable {G : GT} {own : String} {cc : ByteArray} {R : Room} {Fx : FxT} {pc : Nat} {L : List (Option Value)} {S : List Value} {K : List Nat} {N : NN} {I : MM} {cs ss : Nat}

theorem x_getI {x i ci k : Nat} (hd : decode cc pc = .ok (.getfield x, 3)) (hf : GF own x ci k) (hk : kd i = ci) (ht : tg i k = none) (h : XX G own cc R Fx (pc + 3) L (vi (I i k) :: S) K N I cs ss) : XX G own cc R Fx pc L (.ref i :: S) K N I cs ss := by
  obtain ⟨p, e, s, m, args, below, meth, c, Q, nL, a0, K0⟩ := Fx
  intro ok al H locs ls st
  obtain ⟨hx, hb, hml, hown, hts, hE, hA⟩ := id ok
  obtain ⟨C, T, Nn, ty, ⟨hc, hin, hln, h6, -, -⟩, hkn, hl⟩ := hf
  have hi : i ∈ K := st.2.2.2.2.1.head.mem (kd_small hk h6)
  obtain ⟨q0, hq⟩ := List.getElem?_of_mem hi
  have k1 := h ok al H locs ls (st.to (fun q => q.tail.cons trivial))
  exact va_get hx hb hts hin hown hE.1 st.1.1 q0 (by rw [wl_at hq, ent_obj hk h6]) hc k hkn (hts _ hl) (fun _ z => z) (v := vi (I i k)) (by rw [hln i hk, fs_get hkn]; simp [sv, ht]) hd k1
theorem x_getR {x i ci k j : Nat} (hd : decode cc pc = .ok (.getfield x, 3)) (hf : GF own x ci k) (hk : kd i = ci) (ht : tg i k = some j) (hn : N i k = false) (h : XX G own cc R Fx (pc + 3) L (.ref j :: S) K N I cs ss) : XX G own cc R Fx pc L (.ref i :: S) K N I cs ss := by
  obtain ⟨p, e, s, m, args, below, meth, c, Q, nL, a0, K0⟩ := Fx
  intro ok al H locs ls st
  obtain ⟨hx, hb, hml, hown, hts, hE, hA⟩ := id ok
  obtain ⟨C, T, Nn, ty, ⟨hc, hin, hln, h6, -, -⟩, hkn, hl⟩ := hf
  have hi : i ∈ K := st.2.2.2.2.1.head.mem (kd_small hk h6)
  obtain ⟨q0, hq⟩ := List.getElem?_of_mem hi
  have k1 := h ok al H locs ls (st.to (fun q => q.tail.cons (Or.inl (st.1.2.2.2.2 i hi k j ht hn))))
  exact va_get hx hb hts hin hown hE.1 st.1.1 q0 (by rw [wl_at hq, ent_obj hk h6]) hc k hkn (hts _ hl) (fun _ z => z) (v := .ref (al j)) (by rw [hln i hk, fs_get hkn]; simp [sv, ht, hn]) hd k1
theorem x_putI {x i ci k : Nat} {z : Int} (hd : decode cc pc = .ok (.putfield x, 3)) (hf : PI own x ci k) (hk : kd i = ci) (ht : tg i k = none) (h : XX G own cc R Fx (pc + 3) L S K N (up I i k z) cs ss) : XX G own cc R Fx pc L (vi z :: .ref i :: S) K N I cs ss := by
  obtain ⟨p, e, s, m, args, below, meth, c, Q, nL, a0, K0⟩ := Fx
  intro ok al H locs ls st
  obtain ⟨hx, hb, hml, hown, hts, hE, hA⟩ := id ok
  obtain ⟨C, T, Nn, ty, ⟨hc, hin, hln, h6, hnm, hty⟩, hkn, hl, hfin, hpd⟩ := hf
  have hi : i ∈ K := st.2.2.2.2.1.tail.head.mem (kd_small hk h6)
  obtain ⟨q0, hq⟩ := List.getElem?_of_mem hi
  refine va_put hx hb hts hin ty hty hnm hown hE.1 st.1.1 st.1.2.1 st.2.1 q0 (by rw [wl_at hq, ent_obj hk h6]) hc k hkn (hts _ hl) (fun _ z => z) hfin hpd rfl rfl (by simp [hln i hk, hkn]) hd (fun H1 locs1 g1 g2 g3 => ?_)
  have e : (wl G.2.1 al K N I).set q0 (al i, .inr (ci, ((List.range (ln i)).map (sv al N I i)).set k (vi z))) = wl G.2.1 al K N (up I i k z) := wl_set st.1.2.1 hq (by rw [ent_obj hk h6, fs_set (g := sv al N (up I i k z) i) (by simp [sv, ht, up_s]) (fun j hj => by simp [sv, up_n2 hj])]) (fun j hj => ent_congr (fun b => up_n1 hj) (fun b => rfl))
  exact h ok al H1 locs1 ls ⟨st.1.put (e ▸ g1) (e ▸ g2) st.1.2.2.2.2, g3, st.2.2.1, st.2.2.2.1, st.2.2.2.2.1.tail.tail, st.2.2.2.2.2⟩
theorem x_putZ {x i ci k : Nat} {z : Int} (hd : decode cc pc = .ok (.putfield x, 3)) (hf : PZ own x ci k) (hz : z = 0 ∨ z = 1) (hk : kd i = ci) (ht : tg i k = none) (h : XX G own cc R Fx (pc + 3) L S K N (up I i k z) cs ss) : XX G own cc R Fx pc L (vi z :: .ref i :: S) K N I cs ss := by
  obtain ⟨p, e, s, m, args, below, meth, c, Q, nL, a0, K0⟩ := Fx
  intro ok al H locs ls st
  obtain ⟨hx, hb, hml, hown, hts, hE, hA⟩ := id ok
  obtain ⟨C, T, Nn, ty, ⟨hc, hin, hln, h6, hnm, hty⟩, hkn, hl, hfin, hpd⟩ := hf
  have hi : i ∈ K := st.2.2.2.2.1.tail.head.mem (kd_small hk h6)
  obtain ⟨q0, hq⟩ := List.getElem?_of_mem hi
  refine va_put hx hb hts hin ty hty hnm hown hE.1 st.1.1 st.1.2.1 st.2.1 q0 (by rw [wl_at hq, ent_obj hk h6]) hc k hkn (hts _ hl) (fun _ z => z) hfin hpd (by rcases hz with rfl | rfl <;> rfl) (by rcases hz with rfl | rfl <;> rfl) (by simp [hln i hk, hkn]) hd (fun H1 locs1 g1 g2 g3 => ?_)
  have e : (wl G.2.1 al K N I).set q0 (al i, .inr (ci, ((List.range (ln i)).map (sv al N I i)).set k (vi z))) = wl G.2.1 al K N (up I i k z) := wl_set st.1.2.1 hq (by rw [ent_obj hk h6, fs_set (g := sv al N (up I i k z) i) (by simp [sv, ht, up_s]) (fun j hj => by simp [sv, up_n2 hj])]) (fun j hj => ent_congr (fun b => up_n1 hj) (fun b => rfl))
  exact h ok al H1 locs1 ls ⟨st.1.put (e ▸ g1) (e ▸ g2) st.1.2.2.2.2, g3, st.2.2.1, st.2.2.2.1, st.2.2.2.2.1.tail.tail, st.2.2.2.2.2⟩
theorem x_putR {x i ci k j : Nat} (hd : decode cc pc = .ok (.putfield x, 3)) (hf : PR own x ci k) (hini : Fx.2.2.2.2.2.2.1.name = "<init>") (hk : kd i = ci) (ht : tg i k = some j) (hj : kd j ≠ 99) (h : XX G own cc R Fx (pc + 3) L S K (upN N i k) I cs ss) : XX G own cc R Fx pc L (.ref j :: .ref i :: S) K N I cs ss := by
  obtain ⟨p, e, s, m, args, below, meth, c, Q, nL, a0, K0⟩ := Fx
  intro ok al H locs ls st
  obtain ⟨hx, hb, hml, hown, hts, hE, hA⟩ := id ok
  obtain ⟨C, T, Nn, ty, t, ⟨hc, hin, hln, h6, hnm, hty⟩, hkn, hl, hfin, hdc, hpd, hnf⟩ := hf
  have hi : i ∈ K := st.2.2.2.2.1.tail.head.mem (kd_small hk h6)
  have hjK : j ∈ K := st.2.2.2.2.1.head.mem hj
  obtain ⟨q0, hq⟩ := List.getElem?_of_mem hi
  refine va_putF hx hb hts hin ty hty hnm hown hE.1 st.1.1 st.1.2.1 st.2.1 q0 (by rw [wl_at hq, ent_obj hk h6]) hc k hkn (hts _ hl) (fun _ z => z) hfin hini hdc hpd (hnf _).1 (hnf _).2 (by simp [hln i hk, hkn]) hd (fun H1 locs1 g1 g2 g3 => ?_)
  have e : (wl G.2.1 al K N I).set q0 (al i, .inr (ci, ((List.range (ln i)).map (sv al N I i)).set k (.ref (al j)))) = wl G.2.1 al K (upN N i k) I := wl_set st.1.2.1 hq (by rw [ent_obj hk h6, fs_set (g := sv al (upN N i k) I i) (by simp [sv, ht, upN]) (fun a ha => by simp [sv, upN, ha])]) (fun a ha => ent_congr (fun b => rfl) (fun b => by simp [upN, ha]))
  refine h ok al H1 locs1 ls ⟨st.1.put (e ▸ g1) (e ▸ g2) (fun a ha b t hab hn => ?_), g3, st.2.2.1, st.2.2.2.1, st.2.2.2.2.1.tail.tail, st.2.2.2.2.2⟩
  by_cases q : a = i ∧ b = k
  · obtain ⟨rfl, rfl⟩ := q
    rw [ht] at hab
    cases hab
    exact hjK
  · exact st.1.2.2.2.2 a ha b t hab (by simpa [upN, q] using hn)
theorem x_iald {i : Nat} {z : Int} (j : Nat) (hd : decode cc pc = .ok (.iaload, 1)) (hk : kd i = 10) (hz : z = (j : Int)) (hj : j < ln i) (h : XX G own cc R Fx (pc + 1) L (vi (I i j) :: S) K N I cs ss) : XX G own cc R Fx pc L (vi z :: .ref i :: S) K N I cs ss := by
  obtain ⟨p, e, s, m, args, below, meth, c, Q, nL, a0, K0⟩ := Fx
  intro ok al H locs ls st
  obtain ⟨hx, hb, hml, hown, hts, hE, hA⟩ := id ok
  subst hz
  have hi : i ∈ K := st.2.2.2.2.1.tail.head.mem (by omega)
  have hj3 := ln_lt i
  obtain ⟨q0, hq⟩ := List.getElem?_of_mem hi
  have k1 := h ok al H locs ls (st.to (fun q => q.tail.tail.cons trivial))
  refine va_iald hx hb hE.1 st.1.1 q0 0 (by rw [wl_at hq, ent_int hk]) rfl (oi_in hj (by omega)) hd ?_
  rw [oi_clamp (by omega)]
  exact k1
theorem x_bald {i : Nat} {z : Int} (j : Nat) (hd : decode cc pc = .ok (.baload, 1)) (hk : kd i = 11) (hz : z = (j : Int)) (hj : j < ln i) (h : XX G own cc R Fx (pc + 1) L (vi (I i j) :: S) K N I cs ss) : XX G own cc R Fx pc L (vi z :: .ref i :: S) K N I cs ss := by
  obtain ⟨p, e, s, m, args, below, meth, c, Q, nL, a0, K0⟩ := Fx
  intro ok al H locs ls st
  obtain ⟨hx, hb, hml, hown, hts, hE, hA⟩ := id ok
  subst hz
  have hi : i ∈ K := st.2.2.2.2.1.tail.head.mem (by omega)
  have hj3 := ln_lt i
  obtain ⟨q0, hq⟩ := List.getElem?_of_mem hi
  have k1 := h ok al H locs ls (st.to (fun q => q.tail.tail.cons trivial))
  refine va_zald hx hb hE.1 st.1.1 q0 1 (by rw [wl_at hq, ent_boo hk]) rfl (oi_in hj (by omega)) hd ?_
  rw [oi_clamp (by omega)]
  exact k1
theorem ia_up {i k : Nat} {z : Int} : ia (up I i k z) i = upd (ia I i) k (Int32.ofInt z) := by
  funext b
  by_cases e : b = k <;> simp [ia, upd, up, e]
theorem x_iast {i : Nat} {z v : Int} (j : Nat) (hd : decode cc pc = .ok (.iastore, 1)) (hk : kd i = 10) (hz : z = (j : Int)) (hj : j < ln i) (h : XX G own cc R Fx (pc + 1) L S K N (up I i j v) cs ss) : XX G own cc R Fx pc L (vi v :: vi z :: .ref i :: S) K N I cs ss := by
  obtain ⟨p, e, s, m, args, below, meth, c, Q, nL, a0, K0⟩ := Fx
  intro ok al H locs ls st
  obtain ⟨hx, hb, hml, hown, hts, hE, hA⟩ := id ok
  subst hz
  have hi : i ∈ K := st.2.2.2.2.1.tail.tail.head.mem (by omega)
  have hj3 := ln_lt i
  obtain ⟨q0, hq⟩ := List.getElem?_of_mem hi
  refine va_iast hx hb hE.1 st.1.1 st.1.2.1 st.2.1 q0 0 (by rw [wl_at hq, ent_int hk]) rfl (oi_in hj (by omega)) hd (fun H1 locs1 g1 g2 g3 => ?_)
  rw [oi_clamp (by omega)] at g1 g2
  have e : (wl G.2.1 al K N I).set q0 (al i, .inl (G.2.1 0, ln i, .inl (upd (ia I i) j (Int32.ofInt v)))) = wl G.2.1 al K N (up I i j v) := wl_set st.1.2.1 hq (by rw [ent_int hk, ia_up]) (fun j hj => ent_congr (fun b => up_n1 hj) (fun b => rfl))
  exact h ok al H1 locs1 ls ⟨st.1.put (e ▸ g1) (e ▸ g2) st.1.2.2.2.2, g3, st.2.2.1, st.2.2.2.1, st.2.2.2.2.1.tail.tail.tail, st.2.2.2.2.2⟩
theorem x_alen {i : Nat} (hd : decode cc pc = .ok (.arraylength, 1)) (hk : kd i = 10) (h : XX G own cc R Fx (pc + 1) L (vi (ln i) :: S) K N I cs ss) : XX G own cc R Fx pc L (.ref i :: S) K N I cs ss := by
  obtain ⟨p, e, s, m, args, below, meth, c, Q, nL, a0, K0⟩ := Fx
  intro ok al H locs ls st
  obtain ⟨hx, hb, hml, hown, hts, hE, hA⟩ := id ok
  have hi : i ∈ K := st.2.2.2.2.1.head.mem (by omega)
  obtain ⟨q0, hq⟩ := List.getElem?_of_mem hi
  have k1 := h ok al H locs ls (st.to (fun q => q.tail.cons trivial))
  exact va_alen (x := (ln i, .inl (ia I i))) hx hb hE.1 st.1.1 q0 0 (by rw [wl_at hq, ent_int hk]) rfl Int32.ofInt_eq_ofNat.symm hd k1
theorem x_aaldR {i t : Nat} {z : Int} (j : Nat) (hd : decode cc pc = .ok (.aaload, 1)) (hk : kd i = 12) (hz : z = (j : Int)) (hj : j < ln i) (ht : tg i j = some t) (hn : N i j = false) (h : XX G own cc R Fx (pc + 1) L (.ref t :: S) K N I cs ss) : XX G own cc R Fx pc L (vi z :: .ref i :: S) K N I cs ss := by
  obtain ⟨p, e, s, m, args, below, meth, c, Q, nL, a0, K0⟩ := Fx
  intro ok al H locs ls st
  obtain ⟨hx, hb, hml, hown, hts, hE, hA⟩ := id ok
  subst hz
  have hi : i ∈ K := st.2.2.2.2.1.tail.head.mem (by omega)
  have hj3 := ln_lt i
  obtain ⟨q0, hq⟩ := List.getElem?_of_mem hi
  have k1 := h ok al H locs ls (st.to (fun q => q.tail.tail.cons (Or.inl (st.1.2.2.2.2 i hi j t ht hn))))
  refine va_aldq hx hb hE.1 st.1.1 q0 2 (by rw [wl_at hq, ent_row hk]) rfl (oi_in hj (by omega)) hd ?_
  rw [oi_clamp (by omega)]
  have e : va_rf (rq al N i j) = .ref (al t) := by simp [rq, ht, hn, va_rf]
  rw [e]
  exact k1
theorem x_aaldN {i t : Nat} {z : Int} (j : Nat) (hd : decode cc pc = .ok (.aaload, 1)) (hk : kd i = 12) (hz : z = (j : Int)) (hj : j < ln i) (ht : tg i j = some t) (hn : N i j = true) (h : XX G own cc R Fx (pc + 1) L (.null :: S) K N I cs ss) : XX G own cc R Fx pc L (vi z :: .ref i :: S) K N I cs ss := by
  obtain ⟨p, e, s, m, args, below, meth, c, Q, nL, a0, K0⟩ := Fx
  intro ok al H locs ls st
  obtain ⟨hx, hb, hml, hown, hts, hE, hA⟩ := id ok
  subst hz
  have hi : i ∈ K := st.2.2.2.2.1.tail.head.mem (by omega)
  have hj3 := ln_lt i
  obtain ⟨q0, hq⟩ := List.getElem?_of_mem hi
  have k1 := h ok al H locs ls (st.to (fun q => q.tail.tail.cons trivial))
  refine va_aldq hx hb hE.1 st.1.1 q0 2 (by rw [wl_at hq, ent_row hk]) rfl (oi_in hj (by omega)) hd ?_
  rw [oi_clamp (by omega)]
  have e : va_rf (rq al N i j) = .null := by simp [rq, ht, hn, va_rf]
  rw [e]
  exact k1
theorem x_aast {i t : Nat} {z : Int} (j : Nat) (hd : decode cc pc = .ok (.aastore, 1)) (hk : kd i = 12) (hz : z = (j : Int)) (hj : j < ln i) (ht : tg i j = some t) (hkt : kd t = 3) (h : XX G own cc R Fx (pc + 1) L S K (upN N i j) I cs ss) : XX G own cc R Fx pc L (.ref t :: vi z :: .ref i :: S) K N I cs ss := by
  obtain ⟨p, e, s, m, args, below, meth, c, Q, nL, a0, K0⟩ := Fx
  intro ok al H locs ls st
  obtain ⟨hx, hb, hml, hown, hts, hE, hA⟩ := id ok
  subst hz
  have hi : i ∈ K := st.2.2.2.2.1.tail.tail.head.mem (by omega)
  have htK : t ∈ K := st.2.2.2.2.1.head.mem (by omega)
  have hj3 := ln_lt i
  obtain ⟨q0, hq⟩ := List.getElem?_of_mem hi
  obtain ⟨q1, hq1⟩ := List.getElem?_of_mem htK
  refine va_astq hx hb hE.1 st.1.1 st.1.2.1 st.2.1 q0 2 q1 3 (r := (RX3, TX3, 7)) (by rw [wl_at hq, ent_row hk]) rfl (by rw [wl_at hq1, ent_obj hkt (by decide)]) rfl (oi_in hj (by omega)) hd (fun H1 locs1 g1 g2 g3 => ?_)
  rw [oi_clamp (by omega)] at g1 g2
  have e : (wl G.2.1 al K N I).set q0 (al i, .inl (G.2.1 2, ln i, .inr (.inr (.inr (.inr (va_up (rq al N i) j (some (al t)))))))) = wl G.2.1 al K (upN N i j) I := wl_set st.1.2.1 hq (by
    have e1 : rq al (upN N i j) i = va_up (rq al N i) j (some (al t)) := by
      funext b
      by_cases e : b = j
      · subst e; simp [rq, va_up, upN, ht]
      · simp [rq, va_up, upN, e]
    rw [ent_row hk, e1]) (fun j hj => ent_congr (fun b => rfl) (fun b => by simp [upN, hj]))
  refine h ok al H1 locs1 ls ⟨st.1.put (e ▸ g1) (e ▸ g2) (fun a ha b t' hab hn => ?_), g3, st.2.2.1, st.2.2.2.1, st.2.2.2.2.1.tail.tail.tail, st.2.2.2.2.2⟩
  by_cases q : a = i ∧ b = j
  · obtain ⟨rfl, rfl⟩ := q
    rw [ht] at hab
    cases hab
    exact htK
  · exact st.1.2.2.2.2 a ha b t' hab (by simpa [upN, q] using hn)
theorem ia_cp {i sp j dp n : Nat} : ia (cpI I i sp j dp n) j = va_cpy (ia I i) (ia I j) sp dp n := by
  funext b
  by_cases e : dp ≤ b ∧ b < dp + n <;> simp [ia, va_cpy, cpI, e]
theorem x_acpy {x i j : Nat} {zs zd zn : Int} (sp dp n : Nat) (hd : decode cc pc = .ok (.invokestatic x, 3)) (hl : Cond.methodLink own x arraycopyName ∈ Wd) (hn1 : Cond.native arraycopyName ∈ Wd) (hn2 : Cond.static arraycopyName ∈ Wd) (hn3 : Cond.initialized "java/lang/System" ∈ Wd) (hi : kd i = 10) (hj : kd j = 10) (e1 : zs = (sp : Int)) (e2 : zd = (dp : Int)) (e3 : zn = (n : Int)) (b1 : sp + n ≤ ln i) (b2 : dp + n ≤ ln j) (hR : 1 ≤ R.frames ∧ (S.map fun v => v.category).sum + (nativeFrameWords "java/lang/System" "arraycopy" 5 + 11) ≤ R.locals) (h : XX G own cc R Fx (pc + 3) L S K N (cpI I i sp j dp n) cs ss) : XX G own cc R Fx pc L (vi zn :: vi zd :: .ref j :: vi zs :: .ref i :: S) K N I cs ss := by
  obtain ⟨p, e, s, m, args, below, meth, c, Q, nL, a0, K0⟩ := Fx
  intro ok al H locs ls st
  obtain ⟨hx, hb, hml, hown, hts, hE, hA⟩ := id ok
  subst e1; subst e2; subst e3
  have hiK : i ∈ K := st.2.2.2.2.1.tail.tail.tail.tail.head.mem (by omega)
  have hjK : j ∈ K := st.2.2.2.2.1.tail.tail.head.mem (by omega)
  have l1 := ln_lt i
  have l2 := ln_lt j
  obtain ⟨q0, hq⟩ := List.getElem?_of_mem hiK
  obtain ⟨q1, hq1⟩ := List.getElem?_of_mem hjK
  have nz : ∀ a : Nat, a < 1000 → ¬ Int32.ofInt (a : Int) < 0 := fun a ha q => by
    rw [← oi_0, oi_lt (by unfold inr; omega) inr0] at q; omega
  have hsum : ((S.map (gm al)).map fun v => v.category).sum = (S.map fun v => v.category).sum := by rw [List.map_map]; congr 1; apply List.map_congr_left; intro v _; exact gm_cat al v
  refine va_copyi hx hb (hml.trans st.2.2.1.1.symm) hown (hts _ hl) (hts _ hn1) (hts _ hn2) (hts _ hn3) hE.1 st.1.1 st.1.2.1 st.2.1 q0 q1 0 0 (ty := .int) (by rw [wl_at hq, ent_int hi]) (by rw [wl_at hq1, ent_int hj]) rfl rfl rfl (nz sp (by omega)) (nz dp (by omega)) (nz n (by omega)) (by rw [oi_clamp (by omega), oi_clamp (by omega)]; exact b1) (by rw [oi_clamp (by omega), oi_clamp (by omega)]; exact b2) (fun _ _ => rfl) hR.1 (by rw [hsum]; exact hR.2) hd (fun H1 locs1 g1 g2 g3 => ?_)
  rw [oi_clamp (by omega), oi_clamp (by omega), oi_clamp (by omega)] at g1 g2
  have e : (wl G.2.1 al K N I).set q1 (al j, .inl (G.2.1 0, ln j, .inl (va_cpy (ia I i) (ia I j) sp dp n))) = wl G.2.1 al K N (cpI I i sp j dp n) := wl_set st.1.2.1 hq1 (by rw [ent_int hj, ia_cp]) (fun a ha => ent_congr (fun b => by simp [cpI, ha]) (fun b => rfl))
  exact h ok al H1 locs1 ls ⟨st.1.put (e ▸ g1) (e ▸ g2) st.1.2.2.2.2, g3, st.2.2.1, st.2.2.2.1, st.2.2.2.2.1.tail.tail.tail.tail.tail, st.2.2.2.2.2⟩
end FR
end
section
/-! ===== statics, what is made, calls, contracts ===== -/
theorem gm_agree {K : List Nat} {al al' : Nat → Nat} (ha : ∀ j, (j ∈ K ∨ 70 ≤ j) → al' j = al j) {v : Value} (h : okv K v) : gm al' v = gm al v := by
  cases v <;> first | rfl | (show Value.ref (al' _) = Value.ref (al _); rw [ha _ h])
theorem gmS_agree {K : List Nat} {al al' : Nat → Nat} (ha : ∀ j, (j ∈ K ∨ 70 ≤ j) → al' j = al j) {S : List Value} (h : okS K S) : S.map (gm al') = S.map (gm al) := List.map_congr_left fun v hv => gm_agree ha (h v hv)
theorem LocW.agree {K : List Nat} {al al' : Nat → Nat} {nL : Nat} {ls : Array Slot} {L : List (Option Value)} (ha : ∀ j, (j ∈ K ∨ 70 ≤ j) → al' j = al j) (h : LocW al nL ls L) (hl : okL K L) : LocW al' nL ls L := ⟨h.1, h.2.1, h.2.2.1, fun i v hv => by rw [gm_agree ha (hl i v hv)]; exact h.2.2.2 i v hv⟩
theorem okv.mono {K K' : List Nat} (hK : ∀ i, i ∈ K → i ∈ K') {v : Value} (h : okv K v) : okv K' v := by
  cases v with
  | ref i => exact h.elim (fun z => Or.inl (hK i z)) Or.inr
  | _ => trivial
theorem okS.mono {K K' : List Nat} (hK : ∀ i, i ∈ K → i ∈ K') {S : List Value} (h : okS K S) : okS K' S := fun v hv => (h v hv).mono hK
theorem okL.mono {K K' : List Nat} (hK : ∀ i, i ∈ K → i ∈ K') {L : List (Option Value)} (h : okL K L) : okL K' L := fun i v hv => (h i v hv).mono hK
theorem cat_gm {al : Nat → Nat} {S : List Value} : ((S.map (gm al)).map fun v => v.category).sum = (S.map fun v => v.category).sum := by
  rw [List.map_map]; congr 1; apply List.map_congr_left; intro v _; exact gm_cat al v
/-- a cell made: everything that stood stays -/
theorem wl_new {G : GT} {al : Nat → Nat} {K : List Nat} {N : NN} {I : MM} {H : Heap} {i q : Nat} (h : RepW G al K N I H) (hi : i ∉ K) : wl G.2.1 (fun j => if j = i then q else al j) (K ++ [i]) (nwN N i) (nwI I i) = wl G.2.1 al K N I ++ [(q, ent G.2.1 (fun j => if j = i then q else al j) (nwN N i) (nwI I i) i)] := by
  simp only [wl, List.map_append, List.map_cons, List.map_nil, if_true]
  congr 1
  apply List.map_congr_left
  intro j hj
  have hji : j ≠ i := fun e => hi (e ▸ hj)
  rw [if_neg hji]
  congr 1
  have e1 : ia (nwI I i) j = ia I j := by funext b; simp [ia, nwI, hji]
  have hc := h.2.2.2.2 j hj
  have e2 : rq (fun j => if j = i then q else al j) (nwN N i) j = rq al N j := by
    funext b
    have e0 : nwN N i j b = N j b := by simp [nwN, hji]
    simp only [rq, e0]
    cases ht : tg j b with
    | none => rfl
    | some t =>
      cases hn : N j b with
      | true => rfl
      | false =>
        have htK := hc b t ht hn
        have : t ≠ i := fun e => hi (e ▸ htK)
        simp [this]
  have e3 : sv (fun j => if j = i then q else al j) (nwN N i) (nwI I i) j = sv al N I j := by
    funext b
    have e0 : nwN N i j b = N j b := by simp [nwN, hji]
    have e4 : nwI I i j b = I j b := by simp [nwI, hji]
    simp only [sv, e0, e4]
    cases ht : tg j b with
    | none => rfl
    | some t =>
      cases hn : N j b with
      | true => rfl
      | false =>
        have htK := hc b t ht hn
        have : t ≠ i := fun e => hi (e ▸ htK)
        simp [this]
  unfold ent
  rw [e1, e2, e3]
theorem StW.made {G : GT} {a0 : Nat → Nat} {K0 : List Nat} {nL : Nat} {s : State} {al : Nat → Nat} {H H1 : Heap} {locs : List Loc} {ls : Array Slot} {L : List (Option Value)} {S S' : List Value} {K : List Nat} {N : NN} {I : MM} {i q : Nat} (h : StW G a0 K0 nL s al H locs ls L S K N I) (hi : i ∉ K) (h70 : i < 70) (hS' : okS K S → okS K S')
    (h1 : va_P G.1 classes (wl G.2.1 al K N I ++ [(q, ent G.2.1 (fun j => if j = i then q else al j) (nwN N i) (nwI I i) i)]) H1) (h2 : va_D (Ab G) (wl G.2.1 al K N I ++ [(q, ent G.2.1 (fun j => if j = i then q else al j) (nwN N i) (nwI I i) i)])) (h3 : va_S (Ab G) s.heap H1 locs) :
    StW G a0 K0 nL s (fun j => if j = i then q else al j) H1 locs ls L (.ref i :: S') (K ++ [i]) (nwN N i) (nwI I i) ∧ S'.map (gm (fun j => if j = i then q else al j)) = S'.map (gm al) := by
  have ha : ∀ j, (j ∈ K ∨ 70 ≤ j) → (fun j => if j = i then q else al j) j = al j := fun j hj => by
    have : j ≠ i := by
      rcases hj with hj | hj
      · exact fun e => hi (e ▸ hj)
      · omega
    simp [this]
  have hKK : ∀ j, j ∈ K → j ∈ K ++ [i] := fun j hj => List.mem_append_left _ hj
  have hS2 := hS' h.2.2.2.2.1
  have e := wl_new (q := q) h.1 hi
  refine ⟨⟨⟨e ▸ h1, e ▸ h2, fun k => by rw [ha _ (Or.inr (by omega))]; exact h.1.2.2.1 k, fun j hj => ?_, fun j hj k t ht hn => ?_⟩, h3, h.2.2.1.agree ha h.2.2.2.1, h.2.2.2.1.mono hKK, (hS2.mono hKK).cons (Or.inl (by simp)), fun j hj => ?_, fun j hj => hKK j (h.2.2.2.2.2.2 j hj)⟩, gmS_agree ha hS2⟩
  · rcases List.mem_append.mp hj with hj | hj
    · exact h.1.2.2.2.1 j hj
    · rw [List.mem_singleton.mp hj]; exact h70
  · rcases List.mem_append.mp hj with hj | hj
    · have hji : j ≠ i := fun e => hi (e ▸ hj)
      exact hKK t (h.1.2.2.2.2 j hj k t ht (by simpa [nwN, hji] using hn))
    · rw [List.mem_singleton.mp hj] at hn ht
      simp [nwN, ht] at hn
  · rw [ha j (hj.imp (fun z => h.2.2.2.2.2.2 j z) id)]
    exact h.2.2.2.2.2.1 j hj
section FR
variable {G : GT} {own : String} {cc : ByteArray} {R : Room} {Fx : FxT} {pc : Nat} {L : List (Option Value)} {S : List Value} {K : List Nat} {N : NN} {I : MM} {cs ss : Nat}

theorem x_gets {x i k : Nat} (hd : decode cc pc = .ok (.getstatic x, 3)) (hl : Cond.fieldLink own x RX4 (stn k) "[I" ∈ Wd) (hk : k < 5) (hi : 70 + k = i) (h : XX G own cc R Fx (pc + 3) L (.ref i :: S) K N I cs ss) : XX G own cc R Fx pc L S K N I cs ss := by
  obtain ⟨p, e, s, m, args, below, meth, c, Q, nL, a0, K0⟩ := Fx
  intro ok al H locs ls st
  obtain ⟨hx, hb, hml, hown, hts, hE, hA⟩ := id ok
  subst hi
  have k1 := h ok al H locs ls (st.to (fun q => q.cons (Or.inr (Nat.le_add_right 70 k))))
  exact va_gets hx hb (hE.2.1 k hk).1 st.2.1 hown (hts _ hl) (fun _ z => z) hd (by rw [← st.1.2.2.1 k]; exact k1)
theorem x_getsN {x i k : Nat} (hd : decode cc pc = .ok (.getstatic x, 3)) (hl : Cond.fieldLinkNest own x RX4 (stn k) "[I" RX4 ∈ nests) (hk : k < 5) (hi : 70 + k = i) (h : XX G own cc R Fx (pc + 3) L (.ref i :: S) K N I cs ss) : XX G own cc R Fx pc L S K N I cs ss := by
  obtain ⟨p, e, s, m, args, below, meth, c, Q, nL, a0, K0⟩ := Fx
  intro ok al H locs ls st
  obtain ⟨hx, hb, hml, hown, hts, hE, hA⟩ := id ok
  subst hi
  have k1 := h ok al H locs ls (st.to (fun q => q.cons (Or.inr (Nat.le_add_right 70 k))))
  exact va_getsN hx hb (hE.2.1 k hk).1 st.2.1 hown (va_Nw.use rfl (hE.2.2.1 _ hl)) (fun _ z => z) hd (by rw [← st.1.2.2.1 k]; exact k1)
theorem x_sald {i k : Nat} {z : Int} (j : Nat) (hd : decode cc pc = .ok (.iaload, 1)) (hk : k < 5) (hi : 70 + k = i) (hz : z = (j : Int)) (hj : j < (stl k).length) (h : XX G own cc R Fx (pc + 1) L (vi ((stl k).getD j 0) :: S) K N I cs ss) : XX G own cc R Fx pc L (vi z :: .ref i :: S) K N I cs ss := by
  obtain ⟨p, e, s, m, args, below, meth, c, Q, nL, a0, K0⟩ := Fx
  intro ok al H locs ls st
  obtain ⟨hx, hb, hml, hown, hts, hE, hA⟩ := id ok
  subst hz; subst hi
  have l5 : (stl k).length < 8 := by
    rcases (by omega : k = 0 ∨ k = 1 ∨ k = 2 ∨ k = 3 ∨ k = 4) with rfl | rfl | rfl | rfl | rfl <;> decide
  have k1 := h ok al H locs ls (st.to (fun q => q.tail.tail.cons trivial))
  have e : (F0 m pc ls (List.map (gm al) (vi j :: .ref (70 + k) :: S))) = F0 m pc ls (.int (Int32.ofInt j) :: .ref (G.2.2.1 k) :: S.map (gm al)) := by rw [← st.1.2.2.1 k]; rfl
  rw [e]
  refine va_ti hx hb (hE.2.1 k hk).2 st.2.1 (oi_in hj (by omega)) rfl hd ?_
  rw [oi_clamp (by omega)]
  exact k1
theorem x_slen {i k : Nat} (hd : decode cc pc = .ok (.arraylength, 1)) (hk : k < 5) (hi : 70 + k = i) (h : XX G own cc R Fx (pc + 1) L (vi (stl k).length :: S) K N I cs ss) : XX G own cc R Fx pc L (.ref i :: S) K N I cs ss := by
  obtain ⟨p, e, s, m, args, below, meth, c, Q, nL, a0, K0⟩ := Fx
  intro ok al H locs ls st
  obtain ⟨hx, hb, hml, hown, hts, hE, hA⟩ := id ok
  subst hi
  have k1 := h ok al H locs ls (st.to (fun q => q.tail.cons trivial))
  have e : (F0 m pc ls (List.map (gm al) (.ref (70 + k) :: S))) = F0 m pc ls (.ref (G.2.2.1 k) :: S.map (gm al)) := by rw [← st.1.2.2.1 k]; rfl
  rw [e]
  exact va_tlen hx hb (hE.2.1 k hk).2 st.2.1 Int32.ofInt_eq_ofNat.symm hd k1
theorem x_objInit {x i : Nat} (hd : decode cc pc = .ok (.invokespecial x, 3)) (hl : Cond.methodLink own x objectInit ∈ Wd) (hn1 : Cond.instanceMethod objectInit ∈ Wd) (hn2 : Cond.code objectInit ⟨#[0xb1]⟩ 1 none ∈ Wd) (hR : 1 ≤ R.frames ∧ (S.map fun v => v.category).sum + 12 ≤ R.locals) (h : XX G own cc R Fx (pc + 3) L S K N I cs ss) : XX G own cc R Fx pc L (.ref i :: S) K N I cs ss := by
  obtain ⟨p, e, s, m, args, below, meth, c, Q, nL, a0, K0⟩ := Fx
  intro ok al H locs ls st
  obtain ⟨hx, hb, hml, hown, hts, hE, hA⟩ := id ok
  have k1 := h ok al H locs ls (st.to (fun q => q.tail))
  exact W.objInit hx hb hown (hts _ hl) (hts _ hn1) (hts _ hn2) rfl (by rw [hml]; exact st.2.2.1.1) rfl hd hR.1 (by show 2 * 0 + _ + 12 ≤ _; rw [cat_gm]; omega) k1
theorem oi_max {a b : Int} (ha : inr a) (hz : inr b) : (if Int32.ofInt a < Int32.ofInt b then Int32.ofInt b else Int32.ofInt a) = Int32.ofInt (max a b) := by
  by_cases q : a < b
  · rw [if_pos ((oi_lt ha hz).mpr q)]; congr 1; omega
  · rw [if_neg (fun z => q ((oi_lt ha hz).mp z))]; congr 1; omega
theorem oi_min {a b : Int} (ha : inr a) (hz : inr b) : (if Int32.ofInt b < Int32.ofInt a then Int32.ofInt b else Int32.ofInt a) = Int32.ofInt (min a b) := by
  by_cases q : b < a
  · rw [if_pos ((oi_lt hz ha).mpr q)]; congr 1; omega
  · rw [if_neg (fun z => q ((oi_lt hz ha).mp z))]; congr 1; omega
theorem x_max {x : Nat} {a b : Int} (hd : decode cc pc = .ok (.invokestatic x, 3)) (hl : Cond.methodLink own x Lib.Math.max.name ∈ Wd) (hn1 : Cond.static Lib.Math.max.name ∈ Wd) (hn2 : Cond.initialized "java/lang/Math" ∈ Wd) (hn3 : Cond.code Lib.Math.max.name Lib.Math.max.code 2 (some .int) ∈ Wd) (ha : inr a) (hz : inr b) (hR : 1 ≤ R.frames ∧ (S.map fun v => v.category).sum + 13 ≤ R.locals ∧ cs ≤ R.cells ∧ ss ≤ R.slots) (h : XX G own cc R Fx (pc + 3) L (vi (max a b) :: S) K N I cs ss) : XX G own cc R Fx pc L (vi b :: vi a :: S) K N I cs ss := by
  obtain ⟨p, e, s, m, args, below, meth, c, Q, nL, a0, K0⟩ := Fx
  intro ok al H locs ls st
  obtain ⟨hx, hb, hml, hown, hts, hE, hA⟩ := id ok
  have k1 := h ok al H locs ls (st.to (fun q => q.tail.tail.cons trivial))
  exact va_mmax hx hb (hml.trans st.2.2.1.1.symm) hown (hts _ hl) (hts _ hn1) (hts _ hn2) (hts _ hn3) hR.1 (by rw [cat_gm]; exact hR.2.1) hR.2.2.1 hR.2.2.2 hd (by rw [oi_max ha hz]; exact k1)
theorem x_min {x : Nat} {a b : Int} (hd : decode cc pc = .ok (.invokestatic x, 3)) (hl : Cond.methodLink own x Lib.Math.min.name ∈ Wd) (hn1 : Cond.static Lib.Math.min.name ∈ Wd) (hn2 : Cond.initialized "java/lang/Math" ∈ Wd) (hn3 : Cond.code Lib.Math.min.name Lib.Math.min.code 2 (some .int) ∈ Wd) (ha : inr a) (hz : inr b) (hR : 1 ≤ R.frames ∧ (S.map fun v => v.category).sum + 13 ≤ R.locals ∧ cs ≤ R.cells ∧ ss ≤ R.slots) (h : XX G own cc R Fx (pc + 3) L (vi (min a b) :: S) K N I cs ss) : XX G own cc R Fx pc L (vi b :: vi a :: S) K N I cs ss := by
  obtain ⟨p, e, s, m, args, below, meth, c, Q, nL, a0, K0⟩ := Fx
  intro ok al H locs ls st
  obtain ⟨hx, hb, hml, hown, hts, hE, hA⟩ := id ok
  have k1 := h ok al H locs ls (st.to (fun q => q.tail.tail.cons trivial))
  exact va_mmin hx hb (hml.trans st.2.2.1.1.symm) hown (hts _ hl) (hts _ hn1) (hts _ hn2) (hts _ hn3) hR.1 (by rw [cat_gm]; exact hR.2.1) hR.2.2.1 hR.2.2.2 hd (by rw [oi_min ha hz]; exact k1)
theorem x_acpyS {x i j k : Nat} {zs zd zn : Int} (sp dp n : Nat) (hd : decode cc pc = .ok (.invokestatic x, 3)) (hl : Cond.methodLink own x arraycopyName ∈ Wd) (hn1 : Cond.native arraycopyName ∈ Wd) (hn2 : Cond.static arraycopyName ∈ Wd) (hn3 : Cond.initialized "java/lang/System" ∈ Wd) (hk : k < 5) (hi : 70 + k = i) (hj : kd j = 10) (e1 : zs = (sp : Int)) (e2 : zd = (dp : Int)) (e3 : zn = (n : Int)) (b1 : sp + n ≤ (stl k).length) (b2 : dp + n ≤ ln j) (hR : 1 ≤ R.frames ∧ (S.map fun v => v.category).sum + (nativeFrameWords "java/lang/System" "arraycopy" 5 + 11) ≤ R.locals) (h : XX G own cc R Fx (pc + 3) L S K N (fun a b => if a = j ∧ dp ≤ b ∧ b < dp + n then (stl k).getD (sp + (b - dp)) 0 else I a b) cs ss) : XX G own cc R Fx pc L (vi zn :: vi zd :: .ref j :: vi zs :: .ref i :: S) K N I cs ss := by
  obtain ⟨p, e, s, m, args, below, meth, c, Q, nL, a0, K0⟩ := Fx
  intro ok al H locs ls st
  obtain ⟨hx, hb, hml, hown, hts, hE, hA⟩ := id ok
  subst e1; subst e2; subst e3; subst hi
  have l5 : (stl k).length < 8 := by
    rcases (by omega : k = 0 ∨ k = 1 ∨ k = 2 ∨ k = 3 ∨ k = 4) with rfl | rfl | rfl | rfl | rfl <;> decide
  have hjK : j ∈ K := st.2.2.2.2.1.tail.tail.head.mem (by omega)
  have l2 := ln_lt j
  obtain ⟨q1, hq1⟩ := List.getElem?_of_mem hjK
  have nz : ∀ a : Nat, a < 1000 → ¬ Int32.ofInt (a : Int) < 0 := fun a ha q => by
    rw [← oi_0, oi_lt (by unfold inr; omega) inr0] at q; omega
  have ti : ∀ a : Nat, a < 1000 → (Int32.ofInt (a : Int)).toInt = (a : Int) := fun a ha => oi_toInt (by unfold inr; omega)
  have es : (F0 m pc ls (List.map (gm al) (vi n :: vi dp :: .ref j :: vi sp :: .ref (70 + k) :: S))) = F0 m pc ls (.int (Int32.ofInt n) :: .int (Int32.ofInt dp) :: .ref (al j) :: .int (Int32.ofInt sp) :: .ref (G.2.2.1 k) :: S.map (gm al)) := by rw [← st.1.2.2.1 k]; rfl
  rw [es]
  obtain ⟨cell, c1, c2, c3, c4, c5, c6, c7⟩ := (hE.2.1 k hk).2
  have hc0 : H[G.2.2.1 k]? = some cell := by rw [st.2.1.2.1 _ (Array.getElem?_eq_some_iff.mp c1).1 c7]; exact c1
  have ha1 : (wl G.2.1 al K N I)[q1]? = some (al j, .inl (G.2.1 0, ln j, .inl (ia I j))) := by rw [wl_at hq1, ent_int hj]
  have hc1 : H[al j]? = some (vp_cell (G.2.1 0) (ln j, .inl (ia I j))) := st.1.1 q1 _ ha1
  obtain ⟨hs6, k0, hk0, cm0, hkk0⟩ := c2
  obtain ⟨-, k1, hk1, cm1, hkk1⟩ := (hE.1.2 0 _ rfl).1 (ln j) (fun b => .int (ia I j b))
  intro T hT X
  obtain ⟨vm', X', step⟩ := X.arraycopy hx hown (hts _ hl) (hts _ hn1) (hts _ hn2) (hts _ hn3) (src := G.2.2.1 k) (dst := al j) (cs := cell) (cd := vp_cell (G.2.1 0) (ln j, .inl (ia I j))) (srcPos := Int32.ofInt sp) (destPos := Int32.ofInt dp) (n := Int32.ofInt n) (by rw [hT]; exact hc0) (by rw [hT]; exact hc1)
    hs6 (fun _ h => by cases h) c3 (fun h => by cases h) hk0 hk1 hkk0 hkk1 (by simp [refKind]) (nz sp (by omega)) (nz dp (by omega)) (nz n (by omega))
    (by rw [ti sp (by omega), ti n (by omega)]; omega)
    (by rw [ti dp (by omega), ti n (by omega)]; show ¬ _ > ((arrV (G.2.1 0) (ln j) (fun b => .int (ia I j b))).slots.size : Int); rw [arrV_size]; omega)
    (fun vm₁ _ a ha => by
      rw [oi_clamp (by omega)] at ha
      have e : cell.slots.getD ((Int32.ofInt (sp : Int)).toNatClampNeg + a) .null = vi ((stl k).getD (sp + a) 0) := by
        rw [oi_clamp (by omega), Array.getD_eq_getD_getElem?, c6 _ (by omega)]
        rfl
      rw [e]
      exact ⟨rfl, trivial⟩)
    (g := F0 m pc ls (.int (Int32.ofInt n) :: .int (Int32.ofInt dp) :: .ref (al j) :: .int (Int32.ofInt sp) :: .ref (G.2.2.1 k) :: S.map (gm al))) rfl (by rw [hml]; exact st.2.2.1.1) (rest := S.map (gm al)) rfl (by rw [hb]; exact hd) hR.1 (by show 2 * 0 + _ + _ ≤ _; rw [cat_gm]; omega)
  have e1 : copied cell (vp_cell (G.2.1 0) (ln j, .inl (ia I j))) (Int32.ofInt sp) (Int32.ofInt dp) (Int32.ofInt n) = vp_cell (G.2.1 0) (ln j, .inl (va_cpy (fun b => Int32.ofInt ((stl k).getD b 0)) (ia I j) (Int32.ofInt (sp : Int)).toNatClampNeg (Int32.ofInt (dp : Int)).toNatClampNeg (Int32.ofInt (n : Int)).toNatClampNeg)) := va_copiedX (fun z => .int z) cell (G.2.1 0) (fun b => Int32.ofInt ((stl k).getD b 0)) (ia I j) c6 (by rw [oi_clamp (by omega), oi_clamp (by omega)]; exact b1)
  rw [e1, oi_clamp (by omega), oi_clamp (by omega), oi_clamp (by omega)] at X' step
  generalize hI' : (fun a b => if a = j ∧ dp ≤ b ∧ b < dp + n then (stl k).getD (sp + (b - dp)) 0 else I a b : MM) = I' at h
  have e2 : va_cpy (fun b => Int32.ofInt ((stl k).getD b 0)) (ia I j) sp dp n = ia I' j := by
    funext b
    rw [← hI']
    by_cases e : dp ≤ b ∧ b < dp + n <;> simp [ia, va_cpy, e]
  rw [e2] at X' step
  have hl' : al j < H.size := (Array.getElem?_eq_some_iff.mp hc1).1
  have hheap : ((T.setVm vm').setCell (al j) (vp_cell (G.2.1 0) (ln j, .inl (ia I' j)))).heap = H.setIfInBounds (al j) (vp_cell (G.2.1 0) (ln j, .inl (ia I' j))) := by rw [← hT]; rfl
  have oq : ∀ q : Nat, q ≠ al j → (H.setIfInBounds (al j) (vp_cell (G.2.1 0) (ln j, .inl (ia I' j))))[q]? = H[q]? := fun q hq => by simp [Array.getElem?_setIfInBounds, Ne.symm hq]
  have e3 : (wl G.2.1 al K N I).set q1 (al j, .inl (G.2.1 0, ln j, .inl (ia I' j))) = wl G.2.1 al K N I' := wl_set st.1.2.1 hq1 (by rw [ent_int hj]) (fun a ha => ent_congr (fun b => by rw [← hI']; simp [ha]) (fun b => rfl))
  have hAj : Ab G (al j) := st.1.2.1.2 q1 _ ha1
  have g1 := st.1.1.set st.1.2.1 ha1 (e := .inl (G.2.1 0, ln j, .inl (ia I' j))) (show (H.setIfInBounds (al j) _)[al j]? = some _ by simp [Array.getElem?_setIfInBounds, hl']) oq
  have g2 := st.1.2.1.set ha1 (e := .inl (G.2.1 0, ln j, .inl (ia I' j)))
  rw [e3] at g1 g2
  obtain ⟨t, a1, b1⟩ := h ok al _ _ ls ⟨st.1.put g1 g2 st.1.2.2.2.2, ⟨by simp; exact st.2.1.1, fun q g1 g2 => by
      rw [oq q (fun e => g2 (by rw [e]; exact hAj))]
      exact st.2.1.2.1 q g1 g2, fun q hq => by
      rcases List.mem_append.mp hq with h | h
      · exact st.2.1.2.2 q h
      · obtain ⟨z, -, hz⟩ := List.mem_map.mp h
        rw [← hz]
        exact hAj⟩, st.2.2.1, st.2.2.2.1, st.2.2.2.2.1.tail.tail.tail.tail.tail, st.2.2.2.2.2⟩ _ hheap X'
  exact ⟨t, step t a1, b1⟩
theorem x_new {x i ci : Nat} {C : String} {T : u_T} {Nn : Nat} {ty : Nat → FieldType} (hd : decode cc pc = .ok (.new x, 3)) (hci : CI ci C T Nn ty) (hl : Cond.classLink own x C ∈ Wd) (hn1 : Cond.instantiable C Nn ∈ Wd) (hn2 : Cond.initialized C ∈ Wd) (hk : kd i = ci) (hiK : i ∉ K) (h70 : i < 70) (hdv : ∀ j, j < Nn → defaultValue (ty j) = if (tg i j).isSome = true then .null else vi 0) (hR : cs + 1 ≤ R.cells ∧ ss + Nn ≤ R.slots) (h : XX G own cc R Fx (pc + 3) L (.ref i :: S) (K ++ [i]) (nwN N i) (nwI I i) (cs + 1) (ss + Nn)) : XX G own cc R Fx pc L S K N I cs ss := by
  obtain ⟨p, e, s, m, args, below, meth, c, Q, nL, a0, K0⟩ := Fx
  intro ok al H locs ls st
  obtain ⟨hx, hb, hml, hown, hts, hE, hA⟩ := id ok
  obtain ⟨hc, hin, hln, h6, hnm, hty⟩ := hci
  refine va_new (fs := (List.range (ln i)).map (sv (fun j => if j = i then 0 else al j) (nwN N i) (nwI I i) i)) hx hb hts hin ty hty hown (hts _ hl) (hts _ hn1) (hts _ hn2) hE.1 st.1.1 st.1.2.1 st.2.1 hA hc (fun j hj => ?_) hR.1 hR.2 hd (fun q H1 g1 g2 g3 => ?_)
  · rw [hdv j hj]
    show _ = ((List.range (ln i)).map _).getD j Value.null
    rw [hln i hk, List.getD_eq_getElem?_getD, fs_get hj]
    cases ht : tg i j <;> simp [sv, nwN, nwI, ht]
  · have e : ent G.2.1 (fun j => if j = i then q else al j) (nwN N i) (nwI I i) i = .inr (ci, (List.range (ln i)).map (sv (fun j => if j = i then 0 else al j) (nwN N i) (nwI I i) i)) := by
      rw [ent_obj hk h6]
      congr 2
      apply List.map_congr_left
      intro b _
      cases ht : tg i b <;> simp [sv, nwN, nwI, ht]
    rw [← e] at g1 g2
    obtain ⟨r1, r2⟩ := st.made hiK h70 (fun z => z) g1 g2 g3
    have k1 := h ok _ H1 locs ls r1
    simp only [List.map_cons, r2, gm, if_true] at k1
    exact k1
theorem x_newa {i : Nat} {z : Int} (n : Nat) (hd : decode cc pc = .ok (.newarray .int, 2)) (hw : Cond.arrayClass .int ∈ Wd) (hz : z = (n : Int)) (hk : kd i = 10) (hn : ln i = n) (hiK : i ∉ K) (h70 : i < 70) (hR : cs + 1 ≤ R.cells ∧ ss + n ≤ R.slots) (h : XX G own cc R Fx (pc + 2) L (.ref i :: S) (K ++ [i]) (nwN N i) (nwI I i) (cs + 1) (ss + n)) : XX G own cc R Fx pc L (vi z :: S) K N I cs ss := by
  obtain ⟨p, e, s, m, args, below, meth, c, Q, nL, a0, K0⟩ := Fx
  intro ok al H locs ls st
  obtain ⟨hx, hb, hml, hown, hts, hE, hA⟩ := id ok
  subst hz
  have l2 := ln_lt i
  refine va_newa (atype := .int) (ty := .int) (a0 := (n, .inl (fun _ => 0))) hx hb (hts _ hw) rfl hE.1 st.1.1 st.1.2.1 st.2.1 hA (fun _ => rfl) (fun q => by rw [← oi_0, oi_lt (by unfold inr; omega) inr0] at q; omega) (oi_clamp (by omega)) (by show n * 4 ≤ _; omega) hR.1 hR.2 hd (fun q c1 H1 g0 g1 g2 g3 => ?_)
  have ec : c1 = G.2.1 0 := by
    have z1 := (g0.2 3 _ rfl).2
    have z2 := (g0.2 0 _ rfl).2
    exact Option.some.inj (z1.symm.trans z2)
  subst ec
  have e : ent G.2.1 (fun j => if j = i then q else al j) (nwN N i) (nwI I i) i = .inl (G.2.1 0, n, .inl (fun _ => 0)) := by
    rw [ent_int hk, hn]
    congr 4
    funext b
    simp [ia, nwI]
  rw [← e] at g1 g2
  obtain ⟨r1, r2⟩ := st.made (S' := S) hiK h70 (fun z => z.tail) g1 g2 g3
  have k1 := h ok _ H1 locs ls r1
  simp only [List.map_cons, r2, gm, if_true] at k1
  exact k1
theorem x_newz {i : Nat} {z : Int} (n : Nat) (hd : decode cc pc = .ok (.newarray .boolean, 2)) (hw : Cond.arrayClass .boolean ∈ Wd) (hz : z = (n : Int)) (hk : kd i = 11) (hn : ln i = n) (hiK : i ∉ K) (h70 : i < 70) (hR : cs + 1 ≤ R.cells ∧ ss + n ≤ R.slots) (h : XX G own cc R Fx (pc + 2) L (.ref i :: S) (K ++ [i]) (nwN N i) (nwI I i) (cs + 1) (ss + n)) : XX G own cc R Fx pc L (vi z :: S) K N I cs ss := by
  obtain ⟨p, e, s, m, args, below, meth, c, Q, nL, a0, K0⟩ := Fx
  intro ok al H locs ls st
  obtain ⟨hx, hb, hml, hown, hts, hE, hA⟩ := id ok
  subst hz
  have l2 := ln_lt i
  refine va_newa (atype := .boolean) (ty := .boolean) (a0 := (n, .inl (fun _ => 0))) hx hb (hts _ hw) rfl hE.1 st.1.1 st.1.2.1 st.2.1 hA (fun _ => rfl) (fun q => by rw [← oi_0, oi_lt (by unfold inr; omega) inr0] at q; omega) (oi_clamp (by omega)) (by show n * 1 ≤ _; omega) hR.1 hR.2 hd (fun q c1 H1 g0 g1 g2 g3 => ?_)
  have ec : c1 = G.2.1 1 := by
    have z1 := (g0.2 3 _ rfl).2
    have z2 := (g0.2 1 _ rfl).2
    exact Option.some.inj (z1.symm.trans z2)
  subst ec
  have e : ent G.2.1 (fun j => if j = i then q else al j) (nwN N i) (nwI I i) i = .inl (G.2.1 1, n, .inl (fun _ => 0)) := by
    rw [ent_boo hk, hn]
    congr 4
    funext b
    simp [ia, nwI]
  rw [← e] at g1 g2
  obtain ⟨r1, r2⟩ := st.made (S' := S) hiK h70 (fun z => z.tail) g1 g2 g3
  have k1 := h ok _ H1 locs ls r1
  simp only [List.map_cons, r2, gm, if_true] at k1
  exact k1
theorem x_newq {x i : Nat} {z : Int} (n : Nat) (hd : decode cc pc = .ok (.anewarray x, 3)) (hw : Cond.classLink own x RX3 ∈ Wd) (hz : z = (n : Int)) (hk : kd i = 12) (hn : ln i = n) (hiK : i ∉ K) (h70 : i < 70) (hR : cs + 1 ≤ R.cells ∧ ss + n ≤ R.slots) (h : XX G own cc R Fx (pc + 3) L (.ref i :: S) (K ++ [i]) (nwN N i) (nwI I i) (cs + 1) (ss + n)) : XX G own cc R Fx pc L (vi z :: S) K N I cs ss := by
  obtain ⟨p, e, s, m, args, below, meth, c, Q, nL, a0, K0⟩ := Fx
  intro ok al H locs ls st
  obtain ⟨hx, hb, hml, hown, hts, hE, hA⟩ := id ok
  subst hz
  have l2 := ln_lt i
  refine va_newq hx hb hown (hts _ hw) hE.2.2.2 hE.1 st.1.1 st.1.2.1 st.2.1 hA (fun q => by rw [← oi_0, oi_lt (by unfold inr; omega) inr0] at q; omega) (oi_clamp (by omega)) (by omega) hR.1 hR.2 hd (fun q c1 H1 g0 g1 g2 g3 => ?_)
  have ec : c1 = G.2.1 2 := by
    obtain ⟨_, _, -, -, -, z1⟩ := (g0.2 3 _ rfl).2
    obtain ⟨_, _, -, -, -, z2⟩ := (g0.2 2 _ rfl).2
    exact Option.some.inj (z1.symm.trans z2)
  subst ec
  have e : ent G.2.1 (fun j => if j = i then q else al j) (nwN N i) (nwI I i) i = .inl (G.2.1 2, n, .inr (.inr (.inr (.inr (fun _ => none))))) := by
    rw [ent_row hk, hn]
    congr 7
    funext b
    cases ht : tg i b <;> simp [rq, nwN, ht]
  rw [← e] at g1 g2
  obtain ⟨r1, r2⟩ := st.made (S' := S) hiK h70 (fun z => z.tail) g1 g2 g3
  have k1 := h ok _ H1 locs ls r1
  simp only [List.map_cons, r2, gm, if_true] at k1
  exact k1
end FR
end
section
/-! ===== contracts and calls ===== -/
abbrev MT : Type := MethodName × ByteArray × Nat
abbrev UT : Type := List Nat × NN × MM × (Nat → Nat)
def agW (al : Nat → Nat) (K : List Nat) (u : UT) : Prop := (∀ i, i ∈ K → i ∈ u.1) ∧ ∀ i, (i ∈ K ∨ 70 ≤ i) → u.2.2.2 i = al i
abbrev PcW (G : GT) (al : Nat → Nat) (As : List Value) (K : List Nat) (N : NN) (I : MM) : Array Value → State → Prop := va_Pc (As.map (gm al)) (fun U => EnvW G U ∧ (∀ q : Nat, U.heap.size ≤ q → Ab G q) ∧ RepW G al K N I U.heap)
abbrev BhW (G : GT) : UT → State → Prop := fun u t => RepW G u.2.2.2 u.1 u.2.1 u.2.2.1 t.heap
abbrev QiW (G : GT) (al : Nat → Nat) (K : List Nat) (Q : Int → List Nat → NN → MM → Prop) : Array Value → State → Outcome → State → Prop := va_Qi (fun (r : Int32) (u : UT) => (∃ z : Int, r = Int32.ofInt z ∧ Q z u.1 u.2.1 u.2.2.1) ∧ agW al K u) (BhW G) (Ab G)
abbrev QlW (G : GT) (al : Nat → Nat) (K : List Nat) (Q : Int → List Nat → NN → MM → Prop) : Array Value → State → Outcome → State → Prop := va_Ql (fun (r : Int64) (u : UT) => (∃ z : Int, r = Int64.ofInt z ∧ Q z u.1 u.2.1 u.2.2.1) ∧ agW al K u) (BhW G) (Ab G)
abbrev QvW (G : GT) (al : Nat → Nat) (K : List Nat) (Q : List Nat → NN → MM → Prop) : Array Value → State → Outcome → State → Prop := va_Qv (fun (u : UT) => Q u.1 u.2.1 u.2.2.1 ∧ agW al K u) (BhW G) (Ab G)
def RmW (fr lo mc ms : Nat) : Room := { frames := fr, cells := mc, slots := ms, locals := lo }
/-- a method's contract: the world as it stands, the answer and the world behind it -/
def SpI (G : GT) (m : MT) (ty : FieldType) (fr lo mc ms : Nat) (As : List Value) (K : List Nat) (N : NN) (I : MM) (Q : Int → List Nat → NN → MM → Prop) : Prop := ∀ al, okS K As → Met G.2.2.2.2 m.1 (Cond.code m.1 m.2.1 m.2.2 (some ty) :: Wd) (RmW fr lo mc ms) (PcW G al As K N I) (QiW G al K Q) mc ms (Ab G)
def SpL (G : GT) (m : MT) (ty : FieldType) (fr lo mc ms : Nat) (As : List Value) (K : List Nat) (N : NN) (I : MM) (Q : Int → List Nat → NN → MM → Prop) : Prop := ∀ al, okS K As → Met G.2.2.2.2 m.1 (Cond.code m.1 m.2.1 m.2.2 (some ty) :: Wd) (RmW fr lo mc ms) (PcW G al As K N I) (QlW G al K Q) mc ms (Ab G)
def SpV (G : GT) (m : MT) (fr lo mc ms : Nat) (As : List Value) (K : List Nat) (N : NN) (I : MM) (Q : List Nat → NN → MM → Prop) : Prop := ∀ al, okS K As → Met G.2.2.2.2 m.1 (Cond.code m.1 m.2.1 m.2.2 none :: Wd) (RmW fr lo mc ms) (PcW G al As K N I) (QvW G al K Q) mc ms (Ab G)
theorem Wd_good : ∀ w, w ∈ Wd → goodWord w = true := fun w hw => (List.mem_filter.mp hw).2
theorem Wd_in {w : Cond} (ws : List Cond) (i : Nat) (h : lw_tbl[i]? = some w) (hg : goodWord w = true) : w ∈ Wd := List.mem_filter.mpr ⟨List.mem_of_getElem? h, hg⟩
theorem GoodIn.Wd {w : Cond} (h : w ∈ Wd) : GoodIn Wd (w :: Wd) := fun v hv => by
  rcases List.mem_cons.mp hv with rfl | hv
  · exact ⟨h, good_of_word (Wd_good _ h)⟩
  · exact ⟨hv, good_of_word (Wd_good _ hv)⟩
theorem RepW.blind {G : GT} {al : Nat → Nat} {As : List Value} {K : List Nat} {N : NN} {I : MM} : FrameBlind (PcW G al As K N I) := fun a U g mk q => ⟨q.1, EnvW.moved (u := U) (U := U.calling g mk a) (State.WarmedH.refl U) (Nat.le_refl _) (fun _ _ _ => rfl) q.2.1, q.2.2.1, q.2.2.2⟩
/-- what the tables must say of a method that is called -/
def VW (m : MT) (ret : Option FieldType) (n : Nat) : Prop := Cond.initialized m.1.cls ∈ Wd ∧ Cond.code m.1 m.2.1 m.2.2 ret ∈ Wd ∧ m.1.cls ≠ "java/lang/invoke/MethodHandle" ∧ m.1.cls ≠ "java/lang/invoke/VarHandle" ∧ (parseMethodDescriptor m.1.desc).map (fun d => d.parameters.length) = some n
def VVW (m : MT) : Prop := Cond.instanceMethod m.1 ∈ Wd ∧ Cond.selects m.1.cls m.1 m.1 ∈ Wd ∧ ∃ ci T Nn, classes[ci]? = some (m.1.cls, T, Nn) ∧ ci < 6
section FR
variable {G : GT} {own : String} {cc : ByteArray} {R : Room} {Fx : FxT} {pc : Nat} {L : List (Option Value)} {S : List Value} {K : List Nat} {N : NN} {I : MM} {cs ss : Nat}

theorem StW.behind {a0 : Nat → Nat} {K0 : List Nat} {nL : Nat} {s : State} {al : Nat → Nat} {H H1 : Heap} {locs locs1 : List Loc} {ls : Array Slot} {S0 S' : List Value} {u : UT} (h : StW G a0 K0 nL s al H locs ls L S0 K N I) (hag : agW al K u) (hR : RepW G u.2.2.2 u.1 u.2.1 u.2.2.1 H1) (hS : va_S (Ab G) s.heap H1 locs1) (hS' : okS K S0 → okS K S') : StW G a0 K0 nL s u.2.2.2 H1 locs1 ls L S' u.1 u.2.1 u.2.2.1 ∧ S'.map (gm u.2.2.2) = S'.map (gm al) := by
  have h5 := hS' h.2.2.2.2.1
  exact ⟨⟨hR, hS, h.2.2.1.agree hag.2 h.2.2.2.1, h.2.2.2.1.mono hag.1, h5.mono hag.1, fun j hj => by rw [hag.2 j (hj.imp (fun z => h.2.2.2.2.2.2 j z) id)]; exact h.2.2.2.2.2.1 j hj, fun j hj => hag.1 j (h.2.2.2.2.2.2 j hj)⟩, gmS_agree hag.2 h5⟩
theorem PcW.at {al : Nat → Nat} {s : State} {H : Heap} {locs : List Loc} {As : List Value} (hE : EnvW G s) (hA : ∀ q : Nat, s.heap.size ≤ q → Ab G q) (hS : va_S (Ab G) s.heap H locs) (hR : RepW G al K N I H) : ∀ U : State, U.heap = H → s.WarmedH U.vm → PcW G al As K N I (As.map (gm al)).toArray U := fun U hU hW => ⟨rfl, EnvW.moved hW (by rw [hU]; exact hS.1) (fun a h1 h2 => by rw [hU]; exact hS.2.1 a h1 h2) hE, fun q hq => hA q (Nat.le_trans (by rw [← hU] at hS; exact hS.1) hq), by rw [hU]; exact hR⟩
theorem x_cVI0 {x : Nat} {mt : MT} {ty : FieldType} {fr lo mc ms : Nat} {i : Nat} {Q : Int → List Nat → NN → MM → Prop} (hd : decode cc pc = .ok (.invokevirtual x, 3)) (hl : Cond.methodLink own x mt.1 ∈ Wd) (hv : VW mt (some ty) 0) (hvv : VVW mt) (hk : (classes[kd i]?).map (fun q => q.1) = some mt.1.cls) (sp : SpI G mt ty fr lo mc ms [.ref i] K N I Q) (hR : fr + 1 ≤ R.frames ∧ 8 + (mt.2.2 + 11) + lo ≤ R.locals ∧ cs + mc ≤ R.cells ∧ ss + ms ≤ R.slots ∧ (S.map fun v => v.category).sum ≤ 8) (kk : ∀ z K1 N1 I1, Q z K1 N1 I1 → (∀ i, i ∈ K → i ∈ K1) → XX G own cc R Fx (pc + 3) L (vi z :: S) K1 N1 I1 (cs + mc) (ss + ms)) : XX G own cc R Fx pc L (.ref i :: S) K N I cs ss := by
  obtain ⟨p, e, s, m, args, below, meth, c, Q, nL, a0, K0⟩ := Fx
  intro ok al H locs ls st
  obtain ⟨hx, hb, hml, hown, hts, hE, hA⟩ := id ok
  have okN : okS K [] := fun w hw => nomatch hw
  have hoA : okS K [.ref i] := by
    have q := st.2.2.2.2.1
    exact (okN).cons q.head
  obtain ⟨ci, T, Nn, hc, h6⟩ := hvv.2.2
  have recv : ∃ cellB : Cell, H[al i]? = some cellB ∧ cellB.vm.isStatics = false ∧ s.vm.findClass mt.1.cls = some cellB.cls := by
    cases hq : classes[kd i]? with
    | none => rw [hq] at hk; cases hk
    | some r =>
      rw [hq] at hk
      have hkd : kd i < 6 := (List.getElem?_eq_some_iff.mp hq).1
      obtain ⟨q0, hq0⟩ := List.getElem?_of_mem ((okS.head (fun w hw => hoA w hw : okS K [.ref i])).mem (by omega))
      have z := va_recv hE.1 st.1.1 hq (by rw [wl_at hq0, ent_obj rfl hkd])
      have hk2 : r.1 = mt.1.cls := Option.some.inj hk
      rw [hk2] at z
      exact z
  refine va_calli (va_runV (As := []) (rest := S.map (gm al)) (C := mt.1.cls) (b := al i) ⟨hx, hb, hml, hown, hts⟩ (sp al hoA) ⟨callB_of 0 hts (GoodIn.Wd hv.2.1) rfl rfl rfl (hts _ hv.1) (hts _ hl) hv.2.2 ⟨hR.1, hR.2.1⟩, hts _ hvv.1, hts _ hvv.2.1⟩ ⟨RepW.blind, recv, fun U hU hW => PcW.at (As := [.ref i]) hE hA st.2.1 st.1 U hU hW⟩ rfl rfl st.2.2.1.1 rfl (lv_room (by rw [cat_gm]; exact hR.2.2.2.2)) hd ⟨hR.2.2.1, hR.2.2.2.1⟩) st.2.1 (fun q _ h => h) (fun q h => h) (fun r u t H1 locs1 ht hvm hp hB hz1 hk1 hS1 => ?_)
  obtain ⟨⟨z, rfl, hq⟩, hag⟩ := hp
  have hB : RepW G u.2.2.2 u.1 u.2.1 u.2.2.1 H1 := ht ▸ hB
  obtain ⟨r1, r2⟩ := st.behind (S' := vi z :: S) hag hB hS1 (fun q => (q.tail).cons trivial)
  have k1 := kk z u.1 u.2.1 u.2.2.1 hq hag.1 ok u.2.2.2 H1 locs1 ls r1
  rw [r2] at k1
  exact k1
theorem x_cVI1 {x : Nat} {mt : MT} {ty : FieldType} {fr lo mc ms : Nat} {i : Nat} {v1 : Value} {Q : Int → List Nat → NN → MM → Prop} (hd : decode cc pc = .ok (.invokevirtual x, 3)) (hl : Cond.methodLink own x mt.1 ∈ Wd) (hv : VW mt (some ty) 1) (hvv : VVW mt) (hk : (classes[kd i]?).map (fun q => q.1) = some mt.1.cls) (sp : SpI G mt ty fr lo mc ms [.ref i, v1] K N I Q) (hR : fr + 1 ≤ R.frames ∧ 8 + (mt.2.2 + 11) + lo ≤ R.locals ∧ cs + mc ≤ R.cells ∧ ss + ms ≤ R.slots ∧ (S.map fun v => v.category).sum ≤ 8) (kk : ∀ z K1 N1 I1, Q z K1 N1 I1 → (∀ i, i ∈ K → i ∈ K1) → XX G own cc R Fx (pc + 3) L (vi z :: S) K1 N1 I1 (cs + mc) (ss + ms)) : XX G own cc R Fx pc L (v1 :: .ref i :: S) K N I cs ss := by
  obtain ⟨p, e, s, m, args, below, meth, c, Q, nL, a0, K0⟩ := Fx
  intro ok al H locs ls st
  obtain ⟨hx, hb, hml, hown, hts, hE, hA⟩ := id ok
  have okN : okS K [] := fun w hw => nomatch hw
  have hoA : okS K [.ref i, v1] := by
    have q := st.2.2.2.2.1
    exact ((okN).cons q.head).cons q.tail.head
  obtain ⟨ci, T, Nn, hc, h6⟩ := hvv.2.2
  have recv : ∃ cellB : Cell, H[al i]? = some cellB ∧ cellB.vm.isStatics = false ∧ s.vm.findClass mt.1.cls = some cellB.cls := by
    cases hq : classes[kd i]? with
    | none => rw [hq] at hk; cases hk
    | some r =>
      rw [hq] at hk
      have hkd : kd i < 6 := (List.getElem?_eq_some_iff.mp hq).1
      obtain ⟨q0, hq0⟩ := List.getElem?_of_mem ((okS.head (fun w hw => hoA w hw : okS K [.ref i, v1])).mem (by omega))
      have z := va_recv hE.1 st.1.1 hq (by rw [wl_at hq0, ent_obj rfl hkd])
      have hk2 : r.1 = mt.1.cls := Option.some.inj hk
      rw [hk2] at z
      exact z
  refine va_calli (va_runV (As := [gm al v1]) (rest := S.map (gm al)) (C := mt.1.cls) (b := al i) ⟨hx, hb, hml, hown, hts⟩ (sp al hoA) ⟨callB_of 1 hts (GoodIn.Wd hv.2.1) rfl rfl rfl (hts _ hv.1) (hts _ hl) hv.2.2 ⟨hR.1, hR.2.1⟩, hts _ hvv.1, hts _ hvv.2.1⟩ ⟨RepW.blind, recv, fun U hU hW => PcW.at (As := [.ref i, v1]) hE hA st.2.1 st.1 U hU hW⟩ rfl rfl st.2.2.1.1 rfl (lv_room (by rw [cat_gm]; exact hR.2.2.2.2)) hd ⟨hR.2.2.1, hR.2.2.2.1⟩) st.2.1 (fun q _ h => h) (fun q h => h) (fun r u t H1 locs1 ht hvm hp hB hz1 hk1 hS1 => ?_)
  obtain ⟨⟨z, rfl, hq⟩, hag⟩ := hp
  have hB : RepW G u.2.2.2 u.1 u.2.1 u.2.2.1 H1 := ht ▸ hB
  obtain ⟨r1, r2⟩ := st.behind (S' := vi z :: S) hag hB hS1 (fun q => (q.tail.tail).cons trivial)
  have k1 := kk z u.1 u.2.1 u.2.2.1 hq hag.1 ok u.2.2.2 H1 locs1 ls r1
  rw [r2] at k1
  exact k1
theorem x_cVI2 {x : Nat} {mt : MT} {ty : FieldType} {fr lo mc ms : Nat} {i : Nat} {v1 v2 : Value} {Q : Int → List Nat → NN → MM → Prop} (hd : decode cc pc = .ok (.invokevirtual x, 3)) (hl : Cond.methodLink own x mt.1 ∈ Wd) (hv : VW mt (some ty) 2) (hvv : VVW mt) (hk : (classes[kd i]?).map (fun q => q.1) = some mt.1.cls) (sp : SpI G mt ty fr lo mc ms [.ref i, v1, v2] K N I Q) (hR : fr + 1 ≤ R.frames ∧ 8 + (mt.2.2 + 11) + lo ≤ R.locals ∧ cs + mc ≤ R.cells ∧ ss + ms ≤ R.slots ∧ (S.map fun v => v.category).sum ≤ 8) (kk : ∀ z K1 N1 I1, Q z K1 N1 I1 → (∀ i, i ∈ K → i ∈ K1) → XX G own cc R Fx (pc + 3) L (vi z :: S) K1 N1 I1 (cs + mc) (ss + ms)) : XX G own cc R Fx pc L (v2 :: v1 :: .ref i :: S) K N I cs ss := by
  obtain ⟨p, e, s, m, args, below, meth, c, Q, nL, a0, K0⟩ := Fx
  intro ok al H locs ls st
  obtain ⟨hx, hb, hml, hown, hts, hE, hA⟩ := id ok
  have okN : okS K [] := fun w hw => nomatch hw
  have hoA : okS K [.ref i, v1, v2] := by
    have q := st.2.2.2.2.1
    exact (((okN).cons q.head).cons q.tail.head).cons q.tail.tail.head
  obtain ⟨ci, T, Nn, hc, h6⟩ := hvv.2.2
  have recv : ∃ cellB : Cell, H[al i]? = some cellB ∧ cellB.vm.isStatics = false ∧ s.vm.findClass mt.1.cls = some cellB.cls := by
    cases hq : classes[kd i]? with
    | none => rw [hq] at hk; cases hk
    | some r =>
      rw [hq] at hk
      have hkd : kd i < 6 := (List.getElem?_eq_some_iff.mp hq).1
      obtain ⟨q0, hq0⟩ := List.getElem?_of_mem ((okS.head (fun w hw => hoA w hw : okS K [.ref i, v1, v2])).mem (by omega))
      have z := va_recv hE.1 st.1.1 hq (by rw [wl_at hq0, ent_obj rfl hkd])
      have hk2 : r.1 = mt.1.cls := Option.some.inj hk
      rw [hk2] at z
      exact z
  refine va_calli (va_runV (As := [gm al v1, gm al v2]) (rest := S.map (gm al)) (C := mt.1.cls) (b := al i) ⟨hx, hb, hml, hown, hts⟩ (sp al hoA) ⟨callB_of 2 hts (GoodIn.Wd hv.2.1) rfl rfl rfl (hts _ hv.1) (hts _ hl) hv.2.2 ⟨hR.1, hR.2.1⟩, hts _ hvv.1, hts _ hvv.2.1⟩ ⟨RepW.blind, recv, fun U hU hW => PcW.at (As := [.ref i, v1, v2]) hE hA st.2.1 st.1 U hU hW⟩ rfl rfl st.2.2.1.1 rfl (lv_room (by rw [cat_gm]; exact hR.2.2.2.2)) hd ⟨hR.2.2.1, hR.2.2.2.1⟩) st.2.1 (fun q _ h => h) (fun q h => h) (fun r u t H1 locs1 ht hvm hp hB hz1 hk1 hS1 => ?_)
  obtain ⟨⟨z, rfl, hq⟩, hag⟩ := hp
  have hB : RepW G u.2.2.2 u.1 u.2.1 u.2.2.1 H1 := ht ▸ hB
  obtain ⟨r1, r2⟩ := st.behind (S' := vi z :: S) hag hB hS1 (fun q => (q.tail.tail.tail).cons trivial)
  have k1 := kk z u.1 u.2.1 u.2.2.1 hq hag.1 ok u.2.2.2 H1 locs1 ls r1
  rw [r2] at k1
  exact k1
theorem x_cVI3 {x : Nat} {mt : MT} {ty : FieldType} {fr lo mc ms : Nat} {i : Nat} {v1 v2 v3 : Value} {Q : Int → List Nat → NN → MM → Prop} (hd : decode cc pc = .ok (.invokevirtual x, 3)) (hl : Cond.methodLink own x mt.1 ∈ Wd) (hv : VW mt (some ty) 3) (hvv : VVW mt) (hk : (classes[kd i]?).map (fun q => q.1) = some mt.1.cls) (sp : SpI G mt ty fr lo mc ms [.ref i, v1, v2, v3] K N I Q) (hR : fr + 1 ≤ R.frames ∧ 8 + (mt.2.2 + 11) + lo ≤ R.locals ∧ cs + mc ≤ R.cells ∧ ss + ms ≤ R.slots ∧ (S.map fun v => v.category).sum ≤ 8) (kk : ∀ z K1 N1 I1, Q z K1 N1 I1 → (∀ i, i ∈ K → i ∈ K1) → XX G own cc R Fx (pc + 3) L (vi z :: S) K1 N1 I1 (cs + mc) (ss + ms)) : XX G own cc R Fx pc L (v3 :: v2 :: v1 :: .ref i :: S) K N I cs ss := by
  obtain ⟨p, e, s, m, args, below, meth, c, Q, nL, a0, K0⟩ := Fx
  intro ok al H locs ls st
  obtain ⟨hx, hb, hml, hown, hts, hE, hA⟩ := id ok
  have okN : okS K [] := fun w hw => nomatch hw
  have hoA : okS K [.ref i, v1, v2, v3] := by
    have q := st.2.2.2.2.1
    exact ((((okN).cons q.head).cons q.tail.head).cons q.tail.tail.head).cons q.tail.tail.tail.head
  obtain ⟨ci, T, Nn, hc, h6⟩ := hvv.2.2
  have recv : ∃ cellB : Cell, H[al i]? = some cellB ∧ cellB.vm.isStatics = false ∧ s.vm.findClass mt.1.cls = some cellB.cls := by
    cases hq : classes[kd i]? with
    | none => rw [hq] at hk; cases hk
    | some r =>
      rw [hq] at hk
      have hkd : kd i < 6 := (List.getElem?_eq_some_iff.mp hq).1
      obtain ⟨q0, hq0⟩ := List.getElem?_of_mem ((okS.head (fun w hw => hoA w hw : okS K [.ref i, v1, v2, v3])).mem (by omega))
      have z := va_recv hE.1 st.1.1 hq (by rw [wl_at hq0, ent_obj rfl hkd])
      have hk2 : r.1 = mt.1.cls := Option.some.inj hk
      rw [hk2] at z
      exact z
  refine va_calli (va_runV (As := [gm al v1, gm al v2, gm al v3]) (rest := S.map (gm al)) (C := mt.1.cls) (b := al i) ⟨hx, hb, hml, hown, hts⟩ (sp al hoA) ⟨callB_of 3 hts (GoodIn.Wd hv.2.1) rfl rfl rfl (hts _ hv.1) (hts _ hl) hv.2.2 ⟨hR.1, hR.2.1⟩, hts _ hvv.1, hts _ hvv.2.1⟩ ⟨RepW.blind, recv, fun U hU hW => PcW.at (As := [.ref i, v1, v2, v3]) hE hA st.2.1 st.1 U hU hW⟩ rfl rfl st.2.2.1.1 rfl (lv_room (by rw [cat_gm]; exact hR.2.2.2.2)) hd ⟨hR.2.2.1, hR.2.2.2.1⟩) st.2.1 (fun q _ h => h) (fun q h => h) (fun r u t H1 locs1 ht hvm hp hB hz1 hk1 hS1 => ?_)
  obtain ⟨⟨z, rfl, hq⟩, hag⟩ := hp
  have hB : RepW G u.2.2.2 u.1 u.2.1 u.2.2.1 H1 := ht ▸ hB
  obtain ⟨r1, r2⟩ := st.behind (S' := vi z :: S) hag hB hS1 (fun q => (q.tail.tail.tail.tail).cons trivial)
  have k1 := kk z u.1 u.2.1 u.2.2.1 hq hag.1 ok u.2.2.2 H1 locs1 ls r1
  rw [r2] at k1
  exact k1
theorem x_cVI4 {x : Nat} {mt : MT} {ty : FieldType} {fr lo mc ms : Nat} {i : Nat} {v1 v2 v3 v4 : Value} {Q : Int → List Nat → NN → MM → Prop} (hd : decode cc pc = .ok (.invokevirtual x, 3)) (hl : Cond.methodLink own x mt.1 ∈ Wd) (hv : VW mt (some ty) 4) (hvv : VVW mt) (hk : (classes[kd i]?).map (fun q => q.1) = some mt.1.cls) (sp : SpI G mt ty fr lo mc ms [.ref i, v1, v2, v3, v4] K N I Q) (hR : fr + 1 ≤ R.frames ∧ 8 + (mt.2.2 + 11) + lo ≤ R.locals ∧ cs + mc ≤ R.cells ∧ ss + ms ≤ R.slots ∧ (S.map fun v => v.category).sum ≤ 8) (kk : ∀ z K1 N1 I1, Q z K1 N1 I1 → (∀ i, i ∈ K → i ∈ K1) → XX G own cc R Fx (pc + 3) L (vi z :: S) K1 N1 I1 (cs + mc) (ss + ms)) : XX G own cc R Fx pc L (v4 :: v3 :: v2 :: v1 :: .ref i :: S) K N I cs ss := by
  obtain ⟨p, e, s, m, args, below, meth, c, Q, nL, a0, K0⟩ := Fx
  intro ok al H locs ls st
  obtain ⟨hx, hb, hml, hown, hts, hE, hA⟩ := id ok
  have okN : okS K [] := fun w hw => nomatch hw
  have hoA : okS K [.ref i, v1, v2, v3, v4] := by
    have q := st.2.2.2.2.1
    exact (((((okN).cons q.head).cons q.tail.head).cons q.tail.tail.head).cons q.tail.tail.tail.head).cons q.tail.tail.tail.tail.head
  obtain ⟨ci, T, Nn, hc, h6⟩ := hvv.2.2
  have recv : ∃ cellB : Cell, H[al i]? = some cellB ∧ cellB.vm.isStatics = false ∧ s.vm.findClass mt.1.cls = some cellB.cls := by
    cases hq : classes[kd i]? with
    | none => rw [hq] at hk; cases hk
    | some r =>
      rw [hq] at hk
      have hkd : kd i < 6 := (List.getElem?_eq_some_iff.mp hq).1
      obtain ⟨q0, hq0⟩ := List.getElem?_of_mem ((okS.head (fun w hw => hoA w hw : okS K [.ref i, v1, v2, v3, v4])).mem (by omega))
      have z := va_recv hE.1 st.1.1 hq (by rw [wl_at hq0, ent_obj rfl hkd])
      have hk2 : r.1 = mt.1.cls := Option.some.inj hk
      rw [hk2] at z
      exact z
  refine va_calli (va_runV (As := [gm al v1, gm al v2, gm al v3, gm al v4]) (rest := S.map (gm al)) (C := mt.1.cls) (b := al i) ⟨hx, hb, hml, hown, hts⟩ (sp al hoA) ⟨callB_of 4 hts (GoodIn.Wd hv.2.1) rfl rfl rfl (hts _ hv.1) (hts _ hl) hv.2.2 ⟨hR.1, hR.2.1⟩, hts _ hvv.1, hts _ hvv.2.1⟩ ⟨RepW.blind, recv, fun U hU hW => PcW.at (As := [.ref i, v1, v2, v3, v4]) hE hA st.2.1 st.1 U hU hW⟩ rfl rfl st.2.2.1.1 rfl (lv_room (by rw [cat_gm]; exact hR.2.2.2.2)) hd ⟨hR.2.2.1, hR.2.2.2.1⟩) st.2.1 (fun q _ h => h) (fun q h => h) (fun r u t H1 locs1 ht hvm hp hB hz1 hk1 hS1 => ?_)
  obtain ⟨⟨z, rfl, hq⟩, hag⟩ := hp
  have hB : RepW G u.2.2.2 u.1 u.2.1 u.2.2.1 H1 := ht ▸ hB
  obtain ⟨r1, r2⟩ := st.behind (S' := vi z :: S) hag hB hS1 (fun q => (q.tail.tail.tail.tail.tail).cons trivial)
  have k1 := kk z u.1 u.2.1 u.2.2.1 hq hag.1 ok u.2.2.2 H1 locs1 ls r1
  rw [r2] at k1
  exact k1
theorem x_cVI5 {x : Nat} {mt : MT} {ty : FieldType} {fr lo mc ms : Nat} {i : Nat} {v1 v2 v3 v4 v5 : Value} {Q : Int → List Nat → NN → MM → Prop} (hd : decode cc pc = .ok (.invokevirtual x, 3)) (hl : Cond.methodLink own x mt.1 ∈ Wd) (hv : VW mt (some ty) 5) (hvv : VVW mt) (hk : (classes[kd i]?).map (fun q => q.1) = some mt.1.cls) (sp : SpI G mt ty fr lo mc ms [.ref i, v1, v2, v3, v4, v5] K N I Q) (hR : fr + 1 ≤ R.frames ∧ 8 + (mt.2.2 + 11) + lo ≤ R.locals ∧ cs + mc ≤ R.cells ∧ ss + ms ≤ R.slots ∧ (S.map fun v => v.category).sum ≤ 8) (kk : ∀ z K1 N1 I1, Q z K1 N1 I1 → (∀ i, i ∈ K → i ∈ K1) → XX G own cc R Fx (pc + 3) L (vi z :: S) K1 N1 I1 (cs + mc) (ss + ms)) : XX G own cc R Fx pc L (v5 :: v4 :: v3 :: v2 :: v1 :: .ref i :: S) K N I cs ss := by
  obtain ⟨p, e, s, m, args, below, meth, c, Q, nL, a0, K0⟩ := Fx
  intro ok al H locs ls st
  obtain ⟨hx, hb, hml, hown, hts, hE, hA⟩ := id ok
  have okN : okS K [] := fun w hw => nomatch hw
  have hoA : okS K [.ref i, v1, v2, v3, v4, v5] := by
    have q := st.2.2.2.2.1
    exact ((((((okN).cons q.head).cons q.tail.head).cons q.tail.tail.head).cons q.tail.tail.tail.head).cons q.tail.tail.tail.tail.head).cons q.tail.tail.tail.tail.tail.head
  obtain ⟨ci, T, Nn, hc, h6⟩ := hvv.2.2
  have recv : ∃ cellB : Cell, H[al i]? = some cellB ∧ cellB.vm.isStatics = false ∧ s.vm.findClass mt.1.cls = some cellB.cls := by
    cases hq : classes[kd i]? with
    | none => rw [hq] at hk; cases hk
    | some r =>
      rw [hq] at hk
      have hkd : kd i < 6 := (List.getElem?_eq_some_iff.mp hq).1
      obtain ⟨q0, hq0⟩ := List.getElem?_of_mem ((okS.head (fun w hw => hoA w hw : okS K [.ref i, v1, v2, v3, v4, v5])).mem (by omega))
      have z := va_recv hE.1 st.1.1 hq (by rw [wl_at hq0, ent_obj rfl hkd])
      have hk2 : r.1 = mt.1.cls := Option.some.inj hk
      rw [hk2] at z
      exact z
  refine va_calli (va_runV (As := [gm al v1, gm al v2, gm al v3, gm al v4, gm al v5]) (rest := S.map (gm al)) (C := mt.1.cls) (b := al i) ⟨hx, hb, hml, hown, hts⟩ (sp al hoA) ⟨callB_of 5 hts (GoodIn.Wd hv.2.1) rfl rfl rfl (hts _ hv.1) (hts _ hl) hv.2.2 ⟨hR.1, hR.2.1⟩, hts _ hvv.1, hts _ hvv.2.1⟩ ⟨RepW.blind, recv, fun U hU hW => PcW.at (As := [.ref i, v1, v2, v3, v4, v5]) hE hA st.2.1 st.1 U hU hW⟩ rfl rfl st.2.2.1.1 rfl (lv_room (by rw [cat_gm]; exact hR.2.2.2.2)) hd ⟨hR.2.2.1, hR.2.2.2.1⟩) st.2.1 (fun q _ h => h) (fun q h => h) (fun r u t H1 locs1 ht hvm hp hB hz1 hk1 hS1 => ?_)
  obtain ⟨⟨z, rfl, hq⟩, hag⟩ := hp
  have hB : RepW G u.2.2.2 u.1 u.2.1 u.2.2.1 H1 := ht ▸ hB
  obtain ⟨r1, r2⟩ := st.behind (S' := vi z :: S) hag hB hS1 (fun q => (q.tail.tail.tail.tail.tail.tail).cons trivial)
  have k1 := kk z u.1 u.2.1 u.2.2.1 hq hag.1 ok u.2.2.2 H1 locs1 ls r1
  rw [r2] at k1
  exact k1
theorem x_cVL0 {x : Nat} {mt : MT} {ty : FieldType} {fr lo mc ms : Nat} {i : Nat} {Q : Int → List Nat → NN → MM → Prop} (hd : decode cc pc = .ok (.invokevirtual x, 3)) (hl : Cond.methodLink own x mt.1 ∈ Wd) (hv : VW mt (some ty) 0) (hvv : VVW mt) (hk : (classes[kd i]?).map (fun q => q.1) = some mt.1.cls) (sp : SpL G mt ty fr lo mc ms [.ref i] K N I Q) (hR : fr + 1 ≤ R.frames ∧ 8 + (mt.2.2 + 11) + lo ≤ R.locals ∧ cs + mc ≤ R.cells ∧ ss + ms ≤ R.slots ∧ (S.map fun v => v.category).sum ≤ 8) (kk : ∀ z K1 N1 I1, Q z K1 N1 I1 → (∀ i, i ∈ K → i ∈ K1) → XX G own cc R Fx (pc + 3) L (vl z :: S) K1 N1 I1 (cs + mc) (ss + ms)) : XX G own cc R Fx pc L (.ref i :: S) K N I cs ss := by
  obtain ⟨p, e, s, m, args, below, meth, c, Q, nL, a0, K0⟩ := Fx
  intro ok al H locs ls st
  obtain ⟨hx, hb, hml, hown, hts, hE, hA⟩ := id ok
  have okN : okS K [] := fun w hw => nomatch hw
  have hoA : okS K [.ref i] := by
    have q := st.2.2.2.2.1
    exact (okN).cons q.head
  obtain ⟨ci, T, Nn, hc, h6⟩ := hvv.2.2
  have recv : ∃ cellB : Cell, H[al i]? = some cellB ∧ cellB.vm.isStatics = false ∧ s.vm.findClass mt.1.cls = some cellB.cls := by
    cases hq : classes[kd i]? with
    | none => rw [hq] at hk; cases hk
    | some r =>
      rw [hq] at hk
      have hkd : kd i < 6 := (List.getElem?_eq_some_iff.mp hq).1
      obtain ⟨q0, hq0⟩ := List.getElem?_of_mem ((okS.head (fun w hw => hoA w hw : okS K [.ref i])).mem (by omega))
      have z := va_recv hE.1 st.1.1 hq (by rw [wl_at hq0, ent_obj rfl hkd])
      have hk2 : r.1 = mt.1.cls := Option.some.inj hk
      rw [hk2] at z
      exact z
  refine va_calll (va_runV (As := []) (rest := S.map (gm al)) (C := mt.1.cls) (b := al i) ⟨hx, hb, hml, hown, hts⟩ (sp al hoA) ⟨callB_of 0 hts (GoodIn.Wd hv.2.1) rfl rfl rfl (hts _ hv.1) (hts _ hl) hv.2.2 ⟨hR.1, hR.2.1⟩, hts _ hvv.1, hts _ hvv.2.1⟩ ⟨RepW.blind, recv, fun U hU hW => PcW.at (As := [.ref i]) hE hA st.2.1 st.1 U hU hW⟩ rfl rfl st.2.2.1.1 rfl (lv_room (by rw [cat_gm]; exact hR.2.2.2.2)) hd ⟨hR.2.2.1, hR.2.2.2.1⟩) st.2.1 (fun q _ h => h) (fun q h => h) (fun r u t H1 locs1 ht hvm hp hB hz1 hk1 hS1 => ?_)
  obtain ⟨⟨z, rfl, hq⟩, hag⟩ := hp
  have hB : RepW G u.2.2.2 u.1 u.2.1 u.2.2.1 H1 := ht ▸ hB
  obtain ⟨r1, r2⟩ := st.behind (S' := vl z :: S) hag hB hS1 (fun q => (q.tail).cons trivial)
  have k1 := kk z u.1 u.2.1 u.2.2.1 hq hag.1 ok u.2.2.2 H1 locs1 ls r1
  rw [r2] at k1
  exact k1
theorem x_cVL1 {x : Nat} {mt : MT} {ty : FieldType} {fr lo mc ms : Nat} {i : Nat} {v1 : Value} {Q : Int → List Nat → NN → MM → Prop} (hd : decode cc pc = .ok (.invokevirtual x, 3)) (hl : Cond.methodLink own x mt.1 ∈ Wd) (hv : VW mt (some ty) 1) (hvv : VVW mt) (hk : (classes[kd i]?).map (fun q => q.1) = some mt.1.cls) (sp : SpL G mt ty fr lo mc ms [.ref i, v1] K N I Q) (hR : fr + 1 ≤ R.frames ∧ 8 + (mt.2.2 + 11) + lo ≤ R.locals ∧ cs + mc ≤ R.cells ∧ ss + ms ≤ R.slots ∧ (S.map fun v => v.category).sum ≤ 8) (kk : ∀ z K1 N1 I1, Q z K1 N1 I1 → (∀ i, i ∈ K → i ∈ K1) → XX G own cc R Fx (pc + 3) L (vl z :: S) K1 N1 I1 (cs + mc) (ss + ms)) : XX G own cc R Fx pc L (v1 :: .ref i :: S) K N I cs ss := by
  obtain ⟨p, e, s, m, args, below, meth, c, Q, nL, a0, K0⟩ := Fx
  intro ok al H locs ls st
  obtain ⟨hx, hb, hml, hown, hts, hE, hA⟩ := id ok
  have okN : okS K [] := fun w hw => nomatch hw
  have hoA : okS K [.ref i, v1] := by
    have q := st.2.2.2.2.1
    exact ((okN).cons q.head).cons q.tail.head
  obtain ⟨ci, T, Nn, hc, h6⟩ := hvv.2.2
  have recv : ∃ cellB : Cell, H[al i]? = some cellB ∧ cellB.vm.isStatics = false ∧ s.vm.findClass mt.1.cls = some cellB.cls := by
    cases hq : classes[kd i]? with
    | none => rw [hq] at hk; cases hk
    | some r =>
      rw [hq] at hk
      have hkd : kd i < 6 := (List.getElem?_eq_some_iff.mp hq).1
      obtain ⟨q0, hq0⟩ := List.getElem?_of_mem ((okS.head (fun w hw => hoA w hw : okS K [.ref i, v1])).mem (by omega))
      have z := va_recv hE.1 st.1.1 hq (by rw [wl_at hq0, ent_obj rfl hkd])
      have hk2 : r.1 = mt.1.cls := Option.some.inj hk
      rw [hk2] at z
      exact z
  refine va_calll (va_runV (As := [gm al v1]) (rest := S.map (gm al)) (C := mt.1.cls) (b := al i) ⟨hx, hb, hml, hown, hts⟩ (sp al hoA) ⟨callB_of 1 hts (GoodIn.Wd hv.2.1) rfl rfl rfl (hts _ hv.1) (hts _ hl) hv.2.2 ⟨hR.1, hR.2.1⟩, hts _ hvv.1, hts _ hvv.2.1⟩ ⟨RepW.blind, recv, fun U hU hW => PcW.at (As := [.ref i, v1]) hE hA st.2.1 st.1 U hU hW⟩ rfl rfl st.2.2.1.1 rfl (lv_room (by rw [cat_gm]; exact hR.2.2.2.2)) hd ⟨hR.2.2.1, hR.2.2.2.1⟩) st.2.1 (fun q _ h => h) (fun q h => h) (fun r u t H1 locs1 ht hvm hp hB hz1 hk1 hS1 => ?_)
  obtain ⟨⟨z, rfl, hq⟩, hag⟩ := hp
  have hB : RepW G u.2.2.2 u.1 u.2.1 u.2.2.1 H1 := ht ▸ hB
  obtain ⟨r1, r2⟩ := st.behind (S' := vl z :: S) hag hB hS1 (fun q => (q.tail.tail).cons trivial)
  have k1 := kk z u.1 u.2.1 u.2.2.1 hq hag.1 ok u.2.2.2 H1 locs1 ls r1
  rw [r2] at k1
  exact k1
theorem x_cVL2 {x : Nat} {mt : MT} {ty : FieldType} {fr lo mc ms : Nat} {i : Nat} {v1 v2 : Value} {Q : Int → List Nat → NN → MM → Prop} (hd : decode cc pc = .ok (.invokevirtual x, 3)) (hl : Cond.methodLink own x mt.1 ∈ Wd) (hv : VW mt (some ty) 2) (hvv : VVW mt) (hk : (classes[kd i]?).map (fun q => q.1) = some mt.1.cls) (sp : SpL G mt ty fr lo mc ms [.ref i, v1, v2] K N I Q) (hR : fr + 1 ≤ R.frames ∧ 8 + (mt.2.2 + 11) + lo ≤ R.locals ∧ cs + mc ≤ R.cells ∧ ss + ms ≤ R.slots ∧ (S.map fun v => v.category).sum ≤ 8) (kk : ∀ z K1 N1 I1, Q z K1 N1 I1 → (∀ i, i ∈ K → i ∈ K1) → XX G own cc R Fx (pc + 3) L (vl z :: S) K1 N1 I1 (cs + mc) (ss + ms)) : XX G own cc R Fx pc L (v2 :: v1 :: .ref i :: S) K N I cs ss := by
  obtain ⟨p, e, s, m, args, below, meth, c, Q, nL, a0, K0⟩ := Fx
  intro ok al H locs ls st
  obtain ⟨hx, hb, hml, hown, hts, hE, hA⟩ := id ok
  have okN : okS K [] := fun w hw => nomatch hw
  have hoA : okS K [.ref i, v1, v2] := by
    have q := st.2.2.2.2.1
    exact (((okN).cons q.head).cons q.tail.head).cons q.tail.tail.head
  obtain ⟨ci, T, Nn, hc, h6⟩ := hvv.2.2
  have recv : ∃ cellB : Cell, H[al i]? = some cellB ∧ cellB.vm.isStatics = false ∧ s.vm.findClass mt.1.cls = some cellB.cls := by
    cases hq : classes[kd i]? with
    | none => rw [hq] at hk; cases hk
    | some r =>
      rw [hq] at hk
      have hkd : kd i < 6 := (List.getElem?_eq_some_iff.mp hq).1
      obtain ⟨q0, hq0⟩ := List.getElem?_of_mem ((okS.head (fun w hw => hoA w hw : okS K [.ref i, v1, v2])).mem (by omega))
      have z := va_recv hE.1 st.1.1 hq (by rw [wl_at hq0, ent_obj rfl hkd])
      have hk2 : r.1 = mt.1.cls := Option.some.inj hk
      rw [hk2] at z
      exact z
  refine va_calll (va_runV (As := [gm al v1, gm al v2]) (rest := S.map (gm al)) (C := mt.1.cls) (b := al i) ⟨hx, hb, hml, hown, hts⟩ (sp al hoA) ⟨callB_of 2 hts (GoodIn.Wd hv.2.1) rfl rfl rfl (hts _ hv.1) (hts _ hl) hv.2.2 ⟨hR.1, hR.2.1⟩, hts _ hvv.1, hts _ hvv.2.1⟩ ⟨RepW.blind, recv, fun U hU hW => PcW.at (As := [.ref i, v1, v2]) hE hA st.2.1 st.1 U hU hW⟩ rfl rfl st.2.2.1.1 rfl (lv_room (by rw [cat_gm]; exact hR.2.2.2.2)) hd ⟨hR.2.2.1, hR.2.2.2.1⟩) st.2.1 (fun q _ h => h) (fun q h => h) (fun r u t H1 locs1 ht hvm hp hB hz1 hk1 hS1 => ?_)
  obtain ⟨⟨z, rfl, hq⟩, hag⟩ := hp
  have hB : RepW G u.2.2.2 u.1 u.2.1 u.2.2.1 H1 := ht ▸ hB
  obtain ⟨r1, r2⟩ := st.behind (S' := vl z :: S) hag hB hS1 (fun q => (q.tail.tail.tail).cons trivial)
  have k1 := kk z u.1 u.2.1 u.2.2.1 hq hag.1 ok u.2.2.2 H1 locs1 ls r1
  rw [r2] at k1
  exact k1
theorem x_cVL3 {x : Nat} {mt : MT} {ty : FieldType} {fr lo mc ms : Nat} {i : Nat} {v1 v2 v3 : Value} {Q : Int → List Nat → NN → MM → Prop} (hd : decode cc pc = .ok (.invokevirtual x, 3)) (hl : Cond.methodLink own x mt.1 ∈ Wd) (hv : VW mt (some ty) 3) (hvv : VVW mt) (hk : (classes[kd i]?).map (fun q => q.1) = some mt.1.cls) (sp : SpL G mt ty fr lo mc ms [.ref i, v1, v2, v3] K N I Q) (hR : fr + 1 ≤ R.frames ∧ 8 + (mt.2.2 + 11) + lo ≤ R.locals ∧ cs + mc ≤ R.cells ∧ ss + ms ≤ R.slots ∧ (S.map fun v => v.category).sum ≤ 8) (kk : ∀ z K1 N1 I1, Q z K1 N1 I1 → (∀ i, i ∈ K → i ∈ K1) → XX G own cc R Fx (pc + 3) L (vl z :: S) K1 N1 I1 (cs + mc) (ss + ms)) : XX G own cc R Fx pc L (v3 :: v2 :: v1 :: .ref i :: S) K N I cs ss := by
  obtain ⟨p, e, s, m, args, below, meth, c, Q, nL, a0, K0⟩ := Fx
  intro ok al H locs ls st
  obtain ⟨hx, hb, hml, hown, hts, hE, hA⟩ := id ok
  have okN : okS K [] := fun w hw => nomatch hw
  have hoA : okS K [.ref i, v1, v2, v3] := by
    have q := st.2.2.2.2.1
    exact ((((okN).cons q.head).cons q.tail.head).cons q.tail.tail.head).cons q.tail.tail.tail.head
  obtain ⟨ci, T, Nn, hc, h6⟩ := hvv.2.2
  have recv : ∃ cellB : Cell, H[al i]? = some cellB ∧ cellB.vm.isStatics = false ∧ s.vm.findClass mt.1.cls = some cellB.cls := by
    cases hq : classes[kd i]? with
    | none => rw [hq] at hk; cases hk
    | some r =>
      rw [hq] at hk
      have hkd : kd i < 6 := (List.getElem?_eq_some_iff.mp hq).1
      obtain ⟨q0, hq0⟩ := List.getElem?_of_mem ((okS.head (fun w hw => hoA w hw : okS K [.ref i, v1, v2, v3])).mem (by omega))
      have z := va_recv hE.1 st.1.1 hq (by rw [wl_at hq0, ent_obj rfl hkd])
      have hk2 : r.1 = mt.1.cls := Option.some.inj hk
      rw [hk2] at z
      exact z
  refine va_calll (va_runV (As := [gm al v1, gm al v2, gm al v3]) (rest := S.map (gm al)) (C := mt.1.cls) (b := al i) ⟨hx, hb, hml, hown, hts⟩ (sp al hoA) ⟨callB_of 3 hts (GoodIn.Wd hv.2.1) rfl rfl rfl (hts _ hv.1) (hts _ hl) hv.2.2 ⟨hR.1, hR.2.1⟩, hts _ hvv.1, hts _ hvv.2.1⟩ ⟨RepW.blind, recv, fun U hU hW => PcW.at (As := [.ref i, v1, v2, v3]) hE hA st.2.1 st.1 U hU hW⟩ rfl rfl st.2.2.1.1 rfl (lv_room (by rw [cat_gm]; exact hR.2.2.2.2)) hd ⟨hR.2.2.1, hR.2.2.2.1⟩) st.2.1 (fun q _ h => h) (fun q h => h) (fun r u t H1 locs1 ht hvm hp hB hz1 hk1 hS1 => ?_)
  obtain ⟨⟨z, rfl, hq⟩, hag⟩ := hp
  have hB : RepW G u.2.2.2 u.1 u.2.1 u.2.2.1 H1 := ht ▸ hB
  obtain ⟨r1, r2⟩ := st.behind (S' := vl z :: S) hag hB hS1 (fun q => (q.tail.tail.tail.tail).cons trivial)
  have k1 := kk z u.1 u.2.1 u.2.2.1 hq hag.1 ok u.2.2.2 H1 locs1 ls r1
  rw [r2] at k1
  exact k1
theorem x_cVL4 {x : Nat} {mt : MT} {ty : FieldType} {fr lo mc ms : Nat} {i : Nat} {v1 v2 v3 v4 : Value} {Q : Int → List Nat → NN → MM → Prop} (hd : decode cc pc = .ok (.invokevirtual x, 3)) (hl : Cond.methodLink own x mt.1 ∈ Wd) (hv : VW mt (some ty) 4) (hvv : VVW mt) (hk : (classes[kd i]?).map (fun q => q.1) = some mt.1.cls) (sp : SpL G mt ty fr lo mc ms [.ref i, v1, v2, v3, v4] K N I Q) (hR : fr + 1 ≤ R.frames ∧ 8 + (mt.2.2 + 11) + lo ≤ R.locals ∧ cs + mc ≤ R.cells ∧ ss + ms ≤ R.slots ∧ (S.map fun v => v.category).sum ≤ 8) (kk : ∀ z K1 N1 I1, Q z K1 N1 I1 → (∀ i, i ∈ K → i ∈ K1) → XX G own cc R Fx (pc + 3) L (vl z :: S) K1 N1 I1 (cs + mc) (ss + ms)) : XX G own cc R Fx pc L (v4 :: v3 :: v2 :: v1 :: .ref i :: S) K N I cs ss := by
  obtain ⟨p, e, s, m, args, below, meth, c, Q, nL, a0, K0⟩ := Fx
  intro ok al H locs ls st
  obtain ⟨hx, hb, hml, hown, hts, hE, hA⟩ := id ok
  have okN : okS K [] := fun w hw => nomatch hw
  have hoA : okS K [.ref i, v1, v2, v3, v4] := by
    have q := st.2.2.2.2.1
    exact (((((okN).cons q.head).cons q.tail.head).cons q.tail.tail.head).cons q.tail.tail.tail.head).cons q.tail.tail.tail.tail.head
  obtain ⟨ci, T, Nn, hc, h6⟩ := hvv.2.2
  have recv : ∃ cellB : Cell, H[al i]? = some cellB ∧ cellB.vm.isStatics = false ∧ s.vm.findClass mt.1.cls = some cellB.cls := by
    cases hq : classes[kd i]? with
    | none => rw [hq] at hk; cases hk
    | some r =>
      rw [hq] at hk
      have hkd : kd i < 6 := (List.getElem?_eq_some_iff.mp hq).1
      obtain ⟨q0, hq0⟩ := List.getElem?_of_mem ((okS.head (fun w hw => hoA w hw : okS K [.ref i, v1, v2, v3, v4])).mem (by omega))
      have z := va_recv hE.1 st.1.1 hq (by rw [wl_at hq0, ent_obj rfl hkd])
      have hk2 : r.1 = mt.1.cls := Option.some.inj hk
      rw [hk2] at z
      exact z
  refine va_calll (va_runV (As := [gm al v1, gm al v2, gm al v3, gm al v4]) (rest := S.map (gm al)) (C := mt.1.cls) (b := al i) ⟨hx, hb, hml, hown, hts⟩ (sp al hoA) ⟨callB_of 4 hts (GoodIn.Wd hv.2.1) rfl rfl rfl (hts _ hv.1) (hts _ hl) hv.2.2 ⟨hR.1, hR.2.1⟩, hts _ hvv.1, hts _ hvv.2.1⟩ ⟨RepW.blind, recv, fun U hU hW => PcW.at (As := [.ref i, v1, v2, v3, v4]) hE hA st.2.1 st.1 U hU hW⟩ rfl rfl st.2.2.1.1 rfl (lv_room (by rw [cat_gm]; exact hR.2.2.2.2)) hd ⟨hR.2.2.1, hR.2.2.2.1⟩) st.2.1 (fun q _ h => h) (fun q h => h) (fun r u t H1 locs1 ht hvm hp hB hz1 hk1 hS1 => ?_)
  obtain ⟨⟨z, rfl, hq⟩, hag⟩ := hp
  have hB : RepW G u.2.2.2 u.1 u.2.1 u.2.2.1 H1 := ht ▸ hB
  obtain ⟨r1, r2⟩ := st.behind (S' := vl z :: S) hag hB hS1 (fun q => (q.tail.tail.tail.tail.tail).cons trivial)
  have k1 := kk z u.1 u.2.1 u.2.2.1 hq hag.1 ok u.2.2.2 H1 locs1 ls r1
  rw [r2] at k1
  exact k1
theorem x_cVL5 {x : Nat} {mt : MT} {ty : FieldType} {fr lo mc ms : Nat} {i : Nat} {v1 v2 v3 v4 v5 : Value} {Q : Int → List Nat → NN → MM → Prop} (hd : decode cc pc = .ok (.invokevirtual x, 3)) (hl : Cond.methodLink own x mt.1 ∈ Wd) (hv : VW mt (some ty) 5) (hvv : VVW mt) (hk : (classes[kd i]?).map (fun q => q.1) = some mt.1.cls) (sp : SpL G mt ty fr lo mc ms [.ref i, v1, v2, v3, v4, v5] K N I Q) (hR : fr + 1 ≤ R.frames ∧ 8 + (mt.2.2 + 11) + lo ≤ R.locals ∧ cs + mc ≤ R.cells ∧ ss + ms ≤ R.slots ∧ (S.map fun v => v.category).sum ≤ 8) (kk : ∀ z K1 N1 I1, Q z K1 N1 I1 → (∀ i, i ∈ K → i ∈ K1) → XX G own cc R Fx (pc + 3) L (vl z :: S) K1 N1 I1 (cs + mc) (ss + ms)) : XX G own cc R Fx pc L (v5 :: v4 :: v3 :: v2 :: v1 :: .ref i :: S) K N I cs ss := by
  obtain ⟨p, e, s, m, args, below, meth, c, Q, nL, a0, K0⟩ := Fx
  intro ok al H locs ls st
  obtain ⟨hx, hb, hml, hown, hts, hE, hA⟩ := id ok
  have okN : okS K [] := fun w hw => nomatch hw
  have hoA : okS K [.ref i, v1, v2, v3, v4, v5] := by
    have q := st.2.2.2.2.1
    exact ((((((okN).cons q.head).cons q.tail.head).cons q.tail.tail.head).cons q.tail.tail.tail.head).cons q.tail.tail.tail.tail.head).cons q.tail.tail.tail.tail.tail.head
  obtain ⟨ci, T, Nn, hc, h6⟩ := hvv.2.2
  have recv : ∃ cellB : Cell, H[al i]? = some cellB ∧ cellB.vm.isStatics = false ∧ s.vm.findClass mt.1.cls = some cellB.cls := by
    cases hq : classes[kd i]? with
    | none => rw [hq] at hk; cases hk
    | some r =>
      rw [hq] at hk
      have hkd : kd i < 6 := (List.getElem?_eq_some_iff.mp hq).1
      obtain ⟨q0, hq0⟩ := List.getElem?_of_mem ((okS.head (fun w hw => hoA w hw : okS K [.ref i, v1, v2, v3, v4, v5])).mem (by omega))
      have z := va_recv hE.1 st.1.1 hq (by rw [wl_at hq0, ent_obj rfl hkd])
      have hk2 : r.1 = mt.1.cls := Option.some.inj hk
      rw [hk2] at z
      exact z
  refine va_calll (va_runV (As := [gm al v1, gm al v2, gm al v3, gm al v4, gm al v5]) (rest := S.map (gm al)) (C := mt.1.cls) (b := al i) ⟨hx, hb, hml, hown, hts⟩ (sp al hoA) ⟨callB_of 5 hts (GoodIn.Wd hv.2.1) rfl rfl rfl (hts _ hv.1) (hts _ hl) hv.2.2 ⟨hR.1, hR.2.1⟩, hts _ hvv.1, hts _ hvv.2.1⟩ ⟨RepW.blind, recv, fun U hU hW => PcW.at (As := [.ref i, v1, v2, v3, v4, v5]) hE hA st.2.1 st.1 U hU hW⟩ rfl rfl st.2.2.1.1 rfl (lv_room (by rw [cat_gm]; exact hR.2.2.2.2)) hd ⟨hR.2.2.1, hR.2.2.2.1⟩) st.2.1 (fun q _ h => h) (fun q h => h) (fun r u t H1 locs1 ht hvm hp hB hz1 hk1 hS1 => ?_)
  obtain ⟨⟨z, rfl, hq⟩, hag⟩ := hp
  have hB : RepW G u.2.2.2 u.1 u.2.1 u.2.2.1 H1 := ht ▸ hB
  obtain ⟨r1, r2⟩ := st.behind (S' := vl z :: S) hag hB hS1 (fun q => (q.tail.tail.tail.tail.tail.tail).cons trivial)
  have k1 := kk z u.1 u.2.1 u.2.2.1 hq hag.1 ok u.2.2.2 H1 locs1 ls r1
  rw [r2] at k1
  exact k1
theorem x_cVV0 {x : Nat} {mt : MT} {fr lo mc ms : Nat} {i : Nat} {Q : List Nat → NN → MM → Prop} (hd : decode cc pc = .ok (.invokevirtual x, 3)) (hl : Cond.methodLink own x mt.1 ∈ Wd) (hv : VW mt none 0) (hvv : VVW mt) (hk : (classes[kd i]?).map (fun q => q.1) = some mt.1.cls) (sp : SpV G mt fr lo mc ms [.ref i] K N I Q) (hR : fr + 1 ≤ R.frames ∧ 8 + (mt.2.2 + 11) + lo ≤ R.locals ∧ cs + mc ≤ R.cells ∧ ss + ms ≤ R.slots ∧ (S.map fun v => v.category).sum ≤ 8) (kk : ∀ K1 N1 I1, Q K1 N1 I1 → (∀ i, i ∈ K → i ∈ K1) → XX G own cc R Fx (pc + 3) L S K1 N1 I1 (cs + mc) (ss + ms)) : XX G own cc R Fx pc L (.ref i :: S) K N I cs ss := by
  obtain ⟨p, e, s, m, args, below, meth, c, Q, nL, a0, K0⟩ := Fx
  intro ok al H locs ls st
  obtain ⟨hx, hb, hml, hown, hts, hE, hA⟩ := id ok
  have okN : okS K [] := fun w hw => nomatch hw
  have hoA : okS K [.ref i] := by
    have q := st.2.2.2.2.1
    exact (okN).cons q.head
  obtain ⟨ci, T, Nn, hc, h6⟩ := hvv.2.2
  have recv : ∃ cellB : Cell, H[al i]? = some cellB ∧ cellB.vm.isStatics = false ∧ s.vm.findClass mt.1.cls = some cellB.cls := by
    cases hq : classes[kd i]? with
    | none => rw [hq] at hk; cases hk
    | some r =>
      rw [hq] at hk
      have hkd : kd i < 6 := (List.getElem?_eq_some_iff.mp hq).1
      obtain ⟨q0, hq0⟩ := List.getElem?_of_mem ((okS.head (fun w hw => hoA w hw : okS K [.ref i])).mem (by omega))
      have z := va_recv hE.1 st.1.1 hq (by rw [wl_at hq0, ent_obj rfl hkd])
      have hk2 : r.1 = mt.1.cls := Option.some.inj hk
      rw [hk2] at z
      exact z
  refine va_callv (va_runV (As := []) (rest := S.map (gm al)) (C := mt.1.cls) (b := al i) ⟨hx, hb, hml, hown, hts⟩ (sp al hoA) ⟨callB_of 0 hts (GoodIn.Wd hv.2.1) rfl rfl rfl (hts _ hv.1) (hts _ hl) hv.2.2 ⟨hR.1, hR.2.1⟩, hts _ hvv.1, hts _ hvv.2.1⟩ ⟨RepW.blind, recv, fun U hU hW => PcW.at (As := [.ref i]) hE hA st.2.1 st.1 U hU hW⟩ rfl rfl st.2.2.1.1 rfl (lv_room (by rw [cat_gm]; exact hR.2.2.2.2)) hd ⟨hR.2.2.1, hR.2.2.2.1⟩) st.2.1 (fun q _ h => h) (fun q h => h) (fun u t H1 locs1 ht hvm hp hB hz1 hk1 hS1 => ?_)
  obtain ⟨hq, hag⟩ := hp
  have hB : RepW G u.2.2.2 u.1 u.2.1 u.2.2.1 H1 := ht ▸ hB
  obtain ⟨r1, r2⟩ := st.behind hag hB hS1 (fun q => q.tail)
  have k1 := kk u.1 u.2.1 u.2.2.1 hq hag.1 ok u.2.2.2 H1 locs1 ls r1
  rw [r2] at k1
  exact k1
theorem x_cVV1 {x : Nat} {mt : MT} {fr lo mc ms : Nat} {i : Nat} {v1 : Value} {Q : List Nat → NN → MM → Prop} (hd : decode cc pc = .ok (.invokevirtual x, 3)) (hl : Cond.methodLink own x mt.1 ∈ Wd) (hv : VW mt none 1) (hvv : VVW mt) (hk : (classes[kd i]?).map (fun q => q.1) = some mt.1.cls) (sp : SpV G mt fr lo mc ms [.ref i, v1] K N I Q) (hR : fr + 1 ≤ R.frames ∧ 8 + (mt.2.2 + 11) + lo ≤ R.locals ∧ cs + mc ≤ R.cells ∧ ss + ms ≤ R.slots ∧ (S.map fun v => v.category).sum ≤ 8) (kk : ∀ K1 N1 I1, Q K1 N1 I1 → (∀ i, i ∈ K → i ∈ K1) → XX G own cc R Fx (pc + 3) L S K1 N1 I1 (cs + mc) (ss + ms)) : XX G own cc R Fx pc L (v1 :: .ref i :: S) K N I cs ss := by
  obtain ⟨p, e, s, m, args, below, meth, c, Q, nL, a0, K0⟩ := Fx
  intro ok al H locs ls st
  obtain ⟨hx, hb, hml, hown, hts, hE, hA⟩ := id ok
  have okN : okS K [] := fun w hw => nomatch hw
  have hoA : okS K [.ref i, v1] := by
    have q := st.2.2.2.2.1
    exact ((okN).cons q.head).cons q.tail.head
  obtain ⟨ci, T, Nn, hc, h6⟩ := hvv.2.2
  have recv : ∃ cellB : Cell, H[al i]? = some cellB ∧ cellB.vm.isStatics = false ∧ s.vm.findClass mt.1.cls = some cellB.cls := by
    cases hq : classes[kd i]? with
    | none => rw [hq] at hk; cases hk
    | some r =>
      rw [hq] at hk
      have hkd : kd i < 6 := (List.getElem?_eq_some_iff.mp hq).1
      obtain ⟨q0, hq0⟩ := List.getElem?_of_mem ((okS.head (fun w hw => hoA w hw : okS K [.ref i, v1])).mem (by omega))
      have z := va_recv hE.1 st.1.1 hq (by rw [wl_at hq0, ent_obj rfl hkd])
      have hk2 : r.1 = mt.1.cls := Option.some.inj hk
      rw [hk2] at z
      exact z
  refine va_callv (va_runV (As := [gm al v1]) (rest := S.map (gm al)) (C := mt.1.cls) (b := al i) ⟨hx, hb, hml, hown, hts⟩ (sp al hoA) ⟨callB_of 1 hts (GoodIn.Wd hv.2.1) rfl rfl rfl (hts _ hv.1) (hts _ hl) hv.2.2 ⟨hR.1, hR.2.1⟩, hts _ hvv.1, hts _ hvv.2.1⟩ ⟨RepW.blind, recv, fun U hU hW => PcW.at (As := [.ref i, v1]) hE hA st.2.1 st.1 U hU hW⟩ rfl rfl st.2.2.1.1 rfl (lv_room (by rw [cat_gm]; exact hR.2.2.2.2)) hd ⟨hR.2.2.1, hR.2.2.2.1⟩) st.2.1 (fun q _ h => h) (fun q h => h) (fun u t H1 locs1 ht hvm hp hB hz1 hk1 hS1 => ?_)
  obtain ⟨hq, hag⟩ := hp
  have hB : RepW G u.2.2.2 u.1 u.2.1 u.2.2.1 H1 := ht ▸ hB
  obtain ⟨r1, r2⟩ := st.behind hag hB hS1 (fun q => q.tail.tail)
  have k1 := kk u.1 u.2.1 u.2.2.1 hq hag.1 ok u.2.2.2 H1 locs1 ls r1
  rw [r2] at k1
  exact k1
theorem x_cVV2 {x : Nat} {mt : MT} {fr lo mc ms : Nat} {i : Nat} {v1 v2 : Value} {Q : List Nat → NN → MM → Prop} (hd : decode cc pc = .ok (.invokevirtual x, 3)) (hl : Cond.methodLink own x mt.1 ∈ Wd) (hv : VW mt none 2) (hvv : VVW mt) (hk : (classes[kd i]?).map (fun q => q.1) = some mt.1.cls) (sp : SpV G mt fr lo mc ms [.ref i, v1, v2] K N I Q) (hR : fr + 1 ≤ R.frames ∧ 8 + (mt.2.2 + 11) + lo ≤ R.locals ∧ cs + mc ≤ R.cells ∧ ss + ms ≤ R.slots ∧ (S.map fun v => v.category).sum ≤ 8) (kk : ∀ K1 N1 I1, Q K1 N1 I1 → (∀ i, i ∈ K → i ∈ K1) → XX G own cc R Fx (pc + 3) L S K1 N1 I1 (cs + mc) (ss + ms)) : XX G own cc R Fx pc L (v2 :: v1 :: .ref i :: S) K N I cs ss := by
  obtain ⟨p, e, s, m, args, below, meth, c, Q, nL, a0, K0⟩ := Fx
  intro ok al H locs ls st
  obtain ⟨hx, hb, hml, hown, hts, hE, hA⟩ := id ok
  have okN : okS K [] := fun w hw => nomatch hw
  have hoA : okS K [.ref i, v1, v2] := by
    have q := st.2.2.2.2.1
    exact (((okN).cons q.head).cons q.tail.head).cons q.tail.tail.head
  obtain ⟨ci, T, Nn, hc, h6⟩ := hvv.2.2
  have recv : ∃ cellB : Cell, H[al i]? = some cellB ∧ cellB.vm.isStatics = false ∧ s.vm.findClass mt.1.cls = some cellB.cls := by
    cases hq : classes[kd i]? with
    | none => rw [hq] at hk; cases hk
    | some r =>
      rw [hq] at hk
      have hkd : kd i < 6 := (List.getElem?_eq_some_iff.mp hq).1
      obtain ⟨q0, hq0⟩ := List.getElem?_of_mem ((okS.head (fun w hw => hoA w hw : okS K [.ref i, v1, v2])).mem (by omega))
      have z := va_recv hE.1 st.1.1 hq (by rw [wl_at hq0, ent_obj rfl hkd])
      have hk2 : r.1 = mt.1.cls := Option.some.inj hk
      rw [hk2] at z
      exact z
  refine va_callv (va_runV (As := [gm al v1, gm al v2]) (rest := S.map (gm al)) (C := mt.1.cls) (b := al i) ⟨hx, hb, hml, hown, hts⟩ (sp al hoA) ⟨callB_of 2 hts (GoodIn.Wd hv.2.1) rfl rfl rfl (hts _ hv.1) (hts _ hl) hv.2.2 ⟨hR.1, hR.2.1⟩, hts _ hvv.1, hts _ hvv.2.1⟩ ⟨RepW.blind, recv, fun U hU hW => PcW.at (As := [.ref i, v1, v2]) hE hA st.2.1 st.1 U hU hW⟩ rfl rfl st.2.2.1.1 rfl (lv_room (by rw [cat_gm]; exact hR.2.2.2.2)) hd ⟨hR.2.2.1, hR.2.2.2.1⟩) st.2.1 (fun q _ h => h) (fun q h => h) (fun u t H1 locs1 ht hvm hp hB hz1 hk1 hS1 => ?_)
  obtain ⟨hq, hag⟩ := hp
  have hB : RepW G u.2.2.2 u.1 u.2.1 u.2.2.1 H1 := ht ▸ hB
  obtain ⟨r1, r2⟩ := st.behind hag hB hS1 (fun q => q.tail.tail.tail)
  have k1 := kk u.1 u.2.1 u.2.2.1 hq hag.1 ok u.2.2.2 H1 locs1 ls r1
  rw [r2] at k1
  exact k1
theorem x_cVV3 {x : Nat} {mt : MT} {fr lo mc ms : Nat} {i : Nat} {v1 v2 v3 : Value} {Q : List Nat → NN → MM → Prop} (hd : decode cc pc = .ok (.invokevirtual x, 3)) (hl : Cond.methodLink own x mt.1 ∈ Wd) (hv : VW mt none 3) (hvv : VVW mt) (hk : (classes[kd i]?).map (fun q => q.1) = some mt.1.cls) (sp : SpV G mt fr lo mc ms [.ref i, v1, v2, v3] K N I Q) (hR : fr + 1 ≤ R.frames ∧ 8 + (mt.2.2 + 11) + lo ≤ R.locals ∧ cs + mc ≤ R.cells ∧ ss + ms ≤ R.slots ∧ (S.map fun v => v.category).sum ≤ 8) (kk : ∀ K1 N1 I1, Q K1 N1 I1 → (∀ i, i ∈ K → i ∈ K1) → XX G own cc R Fx (pc + 3) L S K1 N1 I1 (cs + mc) (ss + ms)) : XX G own cc R Fx pc L (v3 :: v2 :: v1 :: .ref i :: S) K N I cs ss := by
  obtain ⟨p, e, s, m, args, below, meth, c, Q, nL, a0, K0⟩ := Fx
  intro ok al H locs ls st
  obtain ⟨hx, hb, hml, hown, hts, hE, hA⟩ := id ok
  have okN : okS K [] := fun w hw => nomatch hw
  have hoA : okS K [.ref i, v1, v2, v3] := by
    have q := st.2.2.2.2.1
    exact ((((okN).cons q.head).cons q.tail.head).cons q.tail.tail.head).cons q.tail.tail.tail.head
  obtain ⟨ci, T, Nn, hc, h6⟩ := hvv.2.2
  have recv : ∃ cellB : Cell, H[al i]? = some cellB ∧ cellB.vm.isStatics = false ∧ s.vm.findClass mt.1.cls = some cellB.cls := by
    cases hq : classes[kd i]? with
    | none => rw [hq] at hk; cases hk
    | some r =>
      rw [hq] at hk
      have hkd : kd i < 6 := (List.getElem?_eq_some_iff.mp hq).1
      obtain ⟨q0, hq0⟩ := List.getElem?_of_mem ((okS.head (fun w hw => hoA w hw : okS K [.ref i, v1, v2, v3])).mem (by omega))
      have z := va_recv hE.1 st.1.1 hq (by rw [wl_at hq0, ent_obj rfl hkd])
      have hk2 : r.1 = mt.1.cls := Option.some.inj hk
      rw [hk2] at z
      exact z
  refine va_callv (va_runV (As := [gm al v1, gm al v2, gm al v3]) (rest := S.map (gm al)) (C := mt.1.cls) (b := al i) ⟨hx, hb, hml, hown, hts⟩ (sp al hoA) ⟨callB_of 3 hts (GoodIn.Wd hv.2.1) rfl rfl rfl (hts _ hv.1) (hts _ hl) hv.2.2 ⟨hR.1, hR.2.1⟩, hts _ hvv.1, hts _ hvv.2.1⟩ ⟨RepW.blind, recv, fun U hU hW => PcW.at (As := [.ref i, v1, v2, v3]) hE hA st.2.1 st.1 U hU hW⟩ rfl rfl st.2.2.1.1 rfl (lv_room (by rw [cat_gm]; exact hR.2.2.2.2)) hd ⟨hR.2.2.1, hR.2.2.2.1⟩) st.2.1 (fun q _ h => h) (fun q h => h) (fun u t H1 locs1 ht hvm hp hB hz1 hk1 hS1 => ?_)
  obtain ⟨hq, hag⟩ := hp
  have hB : RepW G u.2.2.2 u.1 u.2.1 u.2.2.1 H1 := ht ▸ hB
  obtain ⟨r1, r2⟩ := st.behind hag hB hS1 (fun q => q.tail.tail.tail.tail)
  have k1 := kk u.1 u.2.1 u.2.2.1 hq hag.1 ok u.2.2.2 H1 locs1 ls r1
  rw [r2] at k1
  exact k1
theorem x_cVV4 {x : Nat} {mt : MT} {fr lo mc ms : Nat} {i : Nat} {v1 v2 v3 v4 : Value} {Q : List Nat → NN → MM → Prop} (hd : decode cc pc = .ok (.invokevirtual x, 3)) (hl : Cond.methodLink own x mt.1 ∈ Wd) (hv : VW mt none 4) (hvv : VVW mt) (hk : (classes[kd i]?).map (fun q => q.1) = some mt.1.cls) (sp : SpV G mt fr lo mc ms [.ref i, v1, v2, v3, v4] K N I Q) (hR : fr + 1 ≤ R.frames ∧ 8 + (mt.2.2 + 11) + lo ≤ R.locals ∧ cs + mc ≤ R.cells ∧ ss + ms ≤ R.slots ∧ (S.map fun v => v.category).sum ≤ 8) (kk : ∀ K1 N1 I1, Q K1 N1 I1 → (∀ i, i ∈ K → i ∈ K1) → XX G own cc R Fx (pc + 3) L S K1 N1 I1 (cs + mc) (ss + ms)) : XX G own cc R Fx pc L (v4 :: v3 :: v2 :: v1 :: .ref i :: S) K N I cs ss := by
  obtain ⟨p, e, s, m, args, below, meth, c, Q, nL, a0, K0⟩ := Fx
  intro ok al H locs ls st
  obtain ⟨hx, hb, hml, hown, hts, hE, hA⟩ := id ok
  have okN : okS K [] := fun w hw => nomatch hw
  have hoA : okS K [.ref i, v1, v2, v3, v4] := by
    have q := st.2.2.2.2.1
    exact (((((okN).cons q.head).cons q.tail.head).cons q.tail.tail.head).cons q.tail.tail.tail.head).cons q.tail.tail.tail.tail.head
  obtain ⟨ci, T, Nn, hc, h6⟩ := hvv.2.2
  have recv : ∃ cellB : Cell, H[al i]? = some cellB ∧ cellB.vm.isStatics = false ∧ s.vm.findClass mt.1.cls = some cellB.cls := by
    cases hq : classes[kd i]? with
    | none => rw [hq] at hk; cases hk
    | some r =>
      rw [hq] at hk
      have hkd : kd i < 6 := (List.getElem?_eq_some_iff.mp hq).1
      obtain ⟨q0, hq0⟩ := List.getElem?_of_mem ((okS.head (fun w hw => hoA w hw : okS K [.ref i, v1, v2, v3, v4])).mem (by omega))
      have z := va_recv hE.1 st.1.1 hq (by rw [wl_at hq0, ent_obj rfl hkd])
      have hk2 : r.1 = mt.1.cls := Option.some.inj hk
      rw [hk2] at z
      exact z
  refine va_callv (va_runV (As := [gm al v1, gm al v2, gm al v3, gm al v4]) (rest := S.map (gm al)) (C := mt.1.cls) (b := al i) ⟨hx, hb, hml, hown, hts⟩ (sp al hoA) ⟨callB_of 4 hts (GoodIn.Wd hv.2.1) rfl rfl rfl (hts _ hv.1) (hts _ hl) hv.2.2 ⟨hR.1, hR.2.1⟩, hts _ hvv.1, hts _ hvv.2.1⟩ ⟨RepW.blind, recv, fun U hU hW => PcW.at (As := [.ref i, v1, v2, v3, v4]) hE hA st.2.1 st.1 U hU hW⟩ rfl rfl st.2.2.1.1 rfl (lv_room (by rw [cat_gm]; exact hR.2.2.2.2)) hd ⟨hR.2.2.1, hR.2.2.2.1⟩) st.2.1 (fun q _ h => h) (fun q h => h) (fun u t H1 locs1 ht hvm hp hB hz1 hk1 hS1 => ?_)
  obtain ⟨hq, hag⟩ := hp
  have hB : RepW G u.2.2.2 u.1 u.2.1 u.2.2.1 H1 := ht ▸ hB
  obtain ⟨r1, r2⟩ := st.behind hag hB hS1 (fun q => q.tail.tail.tail.tail.tail)
  have k1 := kk u.1 u.2.1 u.2.2.1 hq hag.1 ok u.2.2.2 H1 locs1 ls r1
  rw [r2] at k1
  exact k1
theorem x_cVV5 {x : Nat} {mt : MT} {fr lo mc ms : Nat} {i : Nat} {v1 v2 v3 v4 v5 : Value} {Q : List Nat → NN → MM → Prop} (hd : decode cc pc = .ok (.invokevirtual x, 3)) (hl : Cond.methodLink own x mt.1 ∈ Wd) (hv : VW mt none 5) (hvv : VVW mt) (hk : (classes[kd i]?).map (fun q => q.1) = some mt.1.cls) (sp : SpV G mt fr lo mc ms [.ref i, v1, v2, v3, v4, v5] K N I Q) (hR : fr + 1 ≤ R.frames ∧ 8 + (mt.2.2 + 11) + lo ≤ R.locals ∧ cs + mc ≤ R.cells ∧ ss + ms ≤ R.slots ∧ (S.map fun v => v.category).sum ≤ 8) (kk : ∀ K1 N1 I1, Q K1 N1 I1 → (∀ i, i ∈ K → i ∈ K1) → XX G own cc R Fx (pc + 3) L S K1 N1 I1 (cs + mc) (ss + ms)) : XX G own cc R Fx pc L (v5 :: v4 :: v3 :: v2 :: v1 :: .ref i :: S) K N I cs ss := by
  obtain ⟨p, e, s, m, args, below, meth, c, Q, nL, a0, K0⟩ := Fx
  intro ok al H locs ls st
  obtain ⟨hx, hb, hml, hown, hts, hE, hA⟩ := id ok
  have okN : okS K [] := fun w hw => nomatch hw
  have hoA : okS K [.ref i, v1, v2, v3, v4, v5] := by
    have q := st.2.2.2.2.1
    exact ((((((okN).cons q.head).cons q.tail.head).cons q.tail.tail.head).cons q.tail.tail.tail.head).cons q.tail.tail.tail.tail.head).cons q.tail.tail.tail.tail.tail.head
  obtain ⟨ci, T, Nn, hc, h6⟩ := hvv.2.2
  have recv : ∃ cellB : Cell, H[al i]? = some cellB ∧ cellB.vm.isStatics = false ∧ s.vm.findClass mt.1.cls = some cellB.cls := by
    cases hq : classes[kd i]? with
    | none => rw [hq] at hk; cases hk
    | some r =>
      rw [hq] at hk
      have hkd : kd i < 6 := (List.getElem?_eq_some_iff.mp hq).1
      obtain ⟨q0, hq0⟩ := List.getElem?_of_mem ((okS.head (fun w hw => hoA w hw : okS K [.ref i, v1, v2, v3, v4, v5])).mem (by omega))
      have z := va_recv hE.1 st.1.1 hq (by rw [wl_at hq0, ent_obj rfl hkd])
      have hk2 : r.1 = mt.1.cls := Option.some.inj hk
      rw [hk2] at z
      exact z
  refine va_callv (va_runV (As := [gm al v1, gm al v2, gm al v3, gm al v4, gm al v5]) (rest := S.map (gm al)) (C := mt.1.cls) (b := al i) ⟨hx, hb, hml, hown, hts⟩ (sp al hoA) ⟨callB_of 5 hts (GoodIn.Wd hv.2.1) rfl rfl rfl (hts _ hv.1) (hts _ hl) hv.2.2 ⟨hR.1, hR.2.1⟩, hts _ hvv.1, hts _ hvv.2.1⟩ ⟨RepW.blind, recv, fun U hU hW => PcW.at (As := [.ref i, v1, v2, v3, v4, v5]) hE hA st.2.1 st.1 U hU hW⟩ rfl rfl st.2.2.1.1 rfl (lv_room (by rw [cat_gm]; exact hR.2.2.2.2)) hd ⟨hR.2.2.1, hR.2.2.2.1⟩) st.2.1 (fun q _ h => h) (fun q h => h) (fun u t H1 locs1 ht hvm hp hB hz1 hk1 hS1 => ?_)
  obtain ⟨hq, hag⟩ := hp
  have hB : RepW G u.2.2.2 u.1 u.2.1 u.2.2.1 H1 := ht ▸ hB
  obtain ⟨r1, r2⟩ := st.behind hag hB hS1 (fun q => q.tail.tail.tail.tail.tail.tail)
  have k1 := kk u.1 u.2.1 u.2.2.1 hq hag.1 ok u.2.2.2 H1 locs1 ls r1
  rw [r2] at k1
  exact k1
theorem x_cSI1 {x : Nat} {mt : MT} {ty : FieldType} {fr lo mc ms : Nat} {v1 : Value} {Q : Int → List Nat → NN → MM → Prop} (hd : decode cc pc = .ok (.invokestatic x, 3)) (hl : Cond.methodLink own x mt.1 ∈ Wd) (hv : VW mt (some ty) 1) (hvv : Cond.static mt.1 ∈ Wd) (sp : SpI G mt ty fr lo mc ms [v1] K N I Q) (hR : fr + 1 ≤ R.frames ∧ 8 + (mt.2.2 + 11) + lo ≤ R.locals ∧ cs + mc ≤ R.cells ∧ ss + ms ≤ R.slots ∧ (S.map fun v => v.category).sum ≤ 8) (kk : ∀ z K1 N1 I1, Q z K1 N1 I1 → (∀ i, i ∈ K → i ∈ K1) → XX G own cc R Fx (pc + 3) L (vi z :: S) K1 N1 I1 (cs + mc) (ss + ms)) : XX G own cc R Fx pc L (v1 :: S) K N I cs ss := by
  obtain ⟨p, e, s, m, args, below, meth, c, Q, nL, a0, K0⟩ := Fx
  intro ok al H locs ls st
  obtain ⟨hx, hb, hml, hown, hts, hE, hA⟩ := id ok
  have okN : okS K [] := fun w hw => nomatch hw
  have hoA : okS K [v1] := by
    have q := st.2.2.2.2.1
    exact (okN).cons q.head
  refine va_calli (va_runS (As := [gm al v1]) (rest := S.map (gm al)) ⟨hx, hb, hml, hown, hts⟩ (sp al hoA) ⟨callB_of 1 hts (GoodIn.Wd hv.2.1) rfl rfl rfl (hts _ hv.1) (hts _ hl) hv.2.2 ⟨hR.1, hR.2.1⟩, hts _ hvv⟩ ⟨RepW.blind, fun U hU hW => PcW.at (As := [v1]) hE hA st.2.1 st.1 U hU hW⟩ rfl rfl st.2.2.1.1 rfl (lv_room (by rw [cat_gm]; exact hR.2.2.2.2)) hd ⟨hR.2.2.1, hR.2.2.2.1⟩) st.2.1 (fun q _ h => h) (fun q h => h) (fun r u t H1 locs1 ht hvm hp hB hz1 hk1 hS1 => ?_)
  obtain ⟨⟨z, rfl, hq⟩, hag⟩ := hp
  have hB : RepW G u.2.2.2 u.1 u.2.1 u.2.2.1 H1 := ht ▸ hB
  obtain ⟨r1, r2⟩ := st.behind (S' := vi z :: S) hag hB hS1 (fun q => (q.tail).cons trivial)
  have k1 := kk z u.1 u.2.1 u.2.2.1 hq hag.1 ok u.2.2.2 H1 locs1 ls r1
  rw [r2] at k1
  exact k1
theorem x_cSI2 {x : Nat} {mt : MT} {ty : FieldType} {fr lo mc ms : Nat} {v1 v2 : Value} {Q : Int → List Nat → NN → MM → Prop} (hd : decode cc pc = .ok (.invokestatic x, 3)) (hl : Cond.methodLink own x mt.1 ∈ Wd) (hv : VW mt (some ty) 2) (hvv : Cond.static mt.1 ∈ Wd) (sp : SpI G mt ty fr lo mc ms [v1, v2] K N I Q) (hR : fr + 1 ≤ R.frames ∧ 8 + (mt.2.2 + 11) + lo ≤ R.locals ∧ cs + mc ≤ R.cells ∧ ss + ms ≤ R.slots ∧ (S.map fun v => v.category).sum ≤ 8) (kk : ∀ z K1 N1 I1, Q z K1 N1 I1 → (∀ i, i ∈ K → i ∈ K1) → XX G own cc R Fx (pc + 3) L (vi z :: S) K1 N1 I1 (cs + mc) (ss + ms)) : XX G own cc R Fx pc L (v2 :: v1 :: S) K N I cs ss := by
  obtain ⟨p, e, s, m, args, below, meth, c, Q, nL, a0, K0⟩ := Fx
  intro ok al H locs ls st
  obtain ⟨hx, hb, hml, hown, hts, hE, hA⟩ := id ok
  have okN : okS K [] := fun w hw => nomatch hw
  have hoA : okS K [v1, v2] := by
    have q := st.2.2.2.2.1
    exact ((okN).cons q.head).cons q.tail.head
  refine va_calli (va_runS (As := [gm al v1, gm al v2]) (rest := S.map (gm al)) ⟨hx, hb, hml, hown, hts⟩ (sp al hoA) ⟨callB_of 2 hts (GoodIn.Wd hv.2.1) rfl rfl rfl (hts _ hv.1) (hts _ hl) hv.2.2 ⟨hR.1, hR.2.1⟩, hts _ hvv⟩ ⟨RepW.blind, fun U hU hW => PcW.at (As := [v1, v2]) hE hA st.2.1 st.1 U hU hW⟩ rfl rfl st.2.2.1.1 rfl (lv_room (by rw [cat_gm]; exact hR.2.2.2.2)) hd ⟨hR.2.2.1, hR.2.2.2.1⟩) st.2.1 (fun q _ h => h) (fun q h => h) (fun r u t H1 locs1 ht hvm hp hB hz1 hk1 hS1 => ?_)
  obtain ⟨⟨z, rfl, hq⟩, hag⟩ := hp
  have hB : RepW G u.2.2.2 u.1 u.2.1 u.2.2.1 H1 := ht ▸ hB
  obtain ⟨r1, r2⟩ := st.behind (S' := vi z :: S) hag hB hS1 (fun q => (q.tail.tail).cons trivial)
  have k1 := kk z u.1 u.2.1 u.2.2.1 hq hag.1 ok u.2.2.2 H1 locs1 ls r1
  rw [r2] at k1
  exact k1
theorem x_cSI3 {x : Nat} {mt : MT} {ty : FieldType} {fr lo mc ms : Nat} {v1 v2 v3 : Value} {Q : Int → List Nat → NN → MM → Prop} (hd : decode cc pc = .ok (.invokestatic x, 3)) (hl : Cond.methodLink own x mt.1 ∈ Wd) (hv : VW mt (some ty) 3) (hvv : Cond.static mt.1 ∈ Wd) (sp : SpI G mt ty fr lo mc ms [v1, v2, v3] K N I Q) (hR : fr + 1 ≤ R.frames ∧ 8 + (mt.2.2 + 11) + lo ≤ R.locals ∧ cs + mc ≤ R.cells ∧ ss + ms ≤ R.slots ∧ (S.map fun v => v.category).sum ≤ 8) (kk : ∀ z K1 N1 I1, Q z K1 N1 I1 → (∀ i, i ∈ K → i ∈ K1) → XX G own cc R Fx (pc + 3) L (vi z :: S) K1 N1 I1 (cs + mc) (ss + ms)) : XX G own cc R Fx pc L (v3 :: v2 :: v1 :: S) K N I cs ss := by
  obtain ⟨p, e, s, m, args, below, meth, c, Q, nL, a0, K0⟩ := Fx
  intro ok al H locs ls st
  obtain ⟨hx, hb, hml, hown, hts, hE, hA⟩ := id ok
  have okN : okS K [] := fun w hw => nomatch hw
  have hoA : okS K [v1, v2, v3] := by
    have q := st.2.2.2.2.1
    exact (((okN).cons q.head).cons q.tail.head).cons q.tail.tail.head
  refine va_calli (va_runS (As := [gm al v1, gm al v2, gm al v3]) (rest := S.map (gm al)) ⟨hx, hb, hml, hown, hts⟩ (sp al hoA) ⟨callB_of 3 hts (GoodIn.Wd hv.2.1) rfl rfl rfl (hts _ hv.1) (hts _ hl) hv.2.2 ⟨hR.1, hR.2.1⟩, hts _ hvv⟩ ⟨RepW.blind, fun U hU hW => PcW.at (As := [v1, v2, v3]) hE hA st.2.1 st.1 U hU hW⟩ rfl rfl st.2.2.1.1 rfl (lv_room (by rw [cat_gm]; exact hR.2.2.2.2)) hd ⟨hR.2.2.1, hR.2.2.2.1⟩) st.2.1 (fun q _ h => h) (fun q h => h) (fun r u t H1 locs1 ht hvm hp hB hz1 hk1 hS1 => ?_)
  obtain ⟨⟨z, rfl, hq⟩, hag⟩ := hp
  have hB : RepW G u.2.2.2 u.1 u.2.1 u.2.2.1 H1 := ht ▸ hB
  obtain ⟨r1, r2⟩ := st.behind (S' := vi z :: S) hag hB hS1 (fun q => (q.tail.tail.tail).cons trivial)
  have k1 := kk z u.1 u.2.1 u.2.2.1 hq hag.1 ok u.2.2.2 H1 locs1 ls r1
  rw [r2] at k1
  exact k1
theorem x_cSI4 {x : Nat} {mt : MT} {ty : FieldType} {fr lo mc ms : Nat} {v1 v2 v3 v4 : Value} {Q : Int → List Nat → NN → MM → Prop} (hd : decode cc pc = .ok (.invokestatic x, 3)) (hl : Cond.methodLink own x mt.1 ∈ Wd) (hv : VW mt (some ty) 4) (hvv : Cond.static mt.1 ∈ Wd) (sp : SpI G mt ty fr lo mc ms [v1, v2, v3, v4] K N I Q) (hR : fr + 1 ≤ R.frames ∧ 8 + (mt.2.2 + 11) + lo ≤ R.locals ∧ cs + mc ≤ R.cells ∧ ss + ms ≤ R.slots ∧ (S.map fun v => v.category).sum ≤ 8) (kk : ∀ z K1 N1 I1, Q z K1 N1 I1 → (∀ i, i ∈ K → i ∈ K1) → XX G own cc R Fx (pc + 3) L (vi z :: S) K1 N1 I1 (cs + mc) (ss + ms)) : XX G own cc R Fx pc L (v4 :: v3 :: v2 :: v1 :: S) K N I cs ss := by
  obtain ⟨p, e, s, m, args, below, meth, c, Q, nL, a0, K0⟩ := Fx
  intro ok al H locs ls st
  obtain ⟨hx, hb, hml, hown, hts, hE, hA⟩ := id ok
  have okN : okS K [] := fun w hw => nomatch hw
  have hoA : okS K [v1, v2, v3, v4] := by
    have q := st.2.2.2.2.1
    exact ((((okN).cons q.head).cons q.tail.head).cons q.tail.tail.head).cons q.tail.tail.tail.head
  refine va_calli (va_runS (As := [gm al v1, gm al v2, gm al v3, gm al v4]) (rest := S.map (gm al)) ⟨hx, hb, hml, hown, hts⟩ (sp al hoA) ⟨callB_of 4 hts (GoodIn.Wd hv.2.1) rfl rfl rfl (hts _ hv.1) (hts _ hl) hv.2.2 ⟨hR.1, hR.2.1⟩, hts _ hvv⟩ ⟨RepW.blind, fun U hU hW => PcW.at (As := [v1, v2, v3, v4]) hE hA st.2.1 st.1 U hU hW⟩ rfl rfl st.2.2.1.1 rfl (lv_room (by rw [cat_gm]; exact hR.2.2.2.2)) hd ⟨hR.2.2.1, hR.2.2.2.1⟩) st.2.1 (fun q _ h => h) (fun q h => h) (fun r u t H1 locs1 ht hvm hp hB hz1 hk1 hS1 => ?_)
  obtain ⟨⟨z, rfl, hq⟩, hag⟩ := hp
  have hB : RepW G u.2.2.2 u.1 u.2.1 u.2.2.1 H1 := ht ▸ hB
  obtain ⟨r1, r2⟩ := st.behind (S' := vi z :: S) hag hB hS1 (fun q => (q.tail.tail.tail.tail).cons trivial)
  have k1 := kk z u.1 u.2.1 u.2.2.1 hq hag.1 ok u.2.2.2 H1 locs1 ls r1
  rw [r2] at k1
  exact k1
theorem x_cSI5 {x : Nat} {mt : MT} {ty : FieldType} {fr lo mc ms : Nat} {v1 v2 v3 v4 v5 : Value} {Q : Int → List Nat → NN → MM → Prop} (hd : decode cc pc = .ok (.invokestatic x, 3)) (hl : Cond.methodLink own x mt.1 ∈ Wd) (hv : VW mt (some ty) 5) (hvv : Cond.static mt.1 ∈ Wd) (sp : SpI G mt ty fr lo mc ms [v1, v2, v3, v4, v5] K N I Q) (hR : fr + 1 ≤ R.frames ∧ 8 + (mt.2.2 + 11) + lo ≤ R.locals ∧ cs + mc ≤ R.cells ∧ ss + ms ≤ R.slots ∧ (S.map fun v => v.category).sum ≤ 8) (kk : ∀ z K1 N1 I1, Q z K1 N1 I1 → (∀ i, i ∈ K → i ∈ K1) → XX G own cc R Fx (pc + 3) L (vi z :: S) K1 N1 I1 (cs + mc) (ss + ms)) : XX G own cc R Fx pc L (v5 :: v4 :: v3 :: v2 :: v1 :: S) K N I cs ss := by
  obtain ⟨p, e, s, m, args, below, meth, c, Q, nL, a0, K0⟩ := Fx
  intro ok al H locs ls st
  obtain ⟨hx, hb, hml, hown, hts, hE, hA⟩ := id ok
  have okN : okS K [] := fun w hw => nomatch hw
  have hoA : okS K [v1, v2, v3, v4, v5] := by
    have q := st.2.2.2.2.1
    exact (((((okN).cons q.head).cons q.tail.head).cons q.tail.tail.head).cons q.tail.tail.tail.head).cons q.tail.tail.tail.tail.head
  refine va_calli (va_runS (As := [gm al v1, gm al v2, gm al v3, gm al v4, gm al v5]) (rest := S.map (gm al)) ⟨hx, hb, hml, hown, hts⟩ (sp al hoA) ⟨callB_of 5 hts (GoodIn.Wd hv.2.1) rfl rfl rfl (hts _ hv.1) (hts _ hl) hv.2.2 ⟨hR.1, hR.2.1⟩, hts _ hvv⟩ ⟨RepW.blind, fun U hU hW => PcW.at (As := [v1, v2, v3, v4, v5]) hE hA st.2.1 st.1 U hU hW⟩ rfl rfl st.2.2.1.1 rfl (lv_room (by rw [cat_gm]; exact hR.2.2.2.2)) hd ⟨hR.2.2.1, hR.2.2.2.1⟩) st.2.1 (fun q _ h => h) (fun q h => h) (fun r u t H1 locs1 ht hvm hp hB hz1 hk1 hS1 => ?_)
  obtain ⟨⟨z, rfl, hq⟩, hag⟩ := hp
  have hB : RepW G u.2.2.2 u.1 u.2.1 u.2.2.1 H1 := ht ▸ hB
  obtain ⟨r1, r2⟩ := st.behind (S' := vi z :: S) hag hB hS1 (fun q => (q.tail.tail.tail.tail.tail).cons trivial)
  have k1 := kk z u.1 u.2.1 u.2.2.1 hq hag.1 ok u.2.2.2 H1 locs1 ls r1
  rw [r2] at k1
  exact k1
theorem x_cSL1 {x : Nat} {mt : MT} {ty : FieldType} {fr lo mc ms : Nat} {v1 : Value} {Q : Int → List Nat → NN → MM → Prop} (hd : decode cc pc = .ok (.invokestatic x, 3)) (hl : Cond.methodLink own x mt.1 ∈ Wd) (hv : VW mt (some ty) 1) (hvv : Cond.static mt.1 ∈ Wd) (sp : SpL G mt ty fr lo mc ms [v1] K N I Q) (hR : fr + 1 ≤ R.frames ∧ 8 + (mt.2.2 + 11) + lo ≤ R.locals ∧ cs + mc ≤ R.cells ∧ ss + ms ≤ R.slots ∧ (S.map fun v => v.category).sum ≤ 8) (kk : ∀ z K1 N1 I1, Q z K1 N1 I1 → (∀ i, i ∈ K → i ∈ K1) → XX G own cc R Fx (pc + 3) L (vl z :: S) K1 N1 I1 (cs + mc) (ss + ms)) : XX G own cc R Fx pc L (v1 :: S) K N I cs ss := by
  obtain ⟨p, e, s, m, args, below, meth, c, Q, nL, a0, K0⟩ := Fx
  intro ok al H locs ls st
  obtain ⟨hx, hb, hml, hown, hts, hE, hA⟩ := id ok
  have okN : okS K [] := fun w hw => nomatch hw
  have hoA : okS K [v1] := by
    have q := st.2.2.2.2.1
    exact (okN).cons q.head
  refine va_calll (va_runS (As := [gm al v1]) (rest := S.map (gm al)) ⟨hx, hb, hml, hown, hts⟩ (sp al hoA) ⟨callB_of 1 hts (GoodIn.Wd hv.2.1) rfl rfl rfl (hts _ hv.1) (hts _ hl) hv.2.2 ⟨hR.1, hR.2.1⟩, hts _ hvv⟩ ⟨RepW.blind, fun U hU hW => PcW.at (As := [v1]) hE hA st.2.1 st.1 U hU hW⟩ rfl rfl st.2.2.1.1 rfl (lv_room (by rw [cat_gm]; exact hR.2.2.2.2)) hd ⟨hR.2.2.1, hR.2.2.2.1⟩) st.2.1 (fun q _ h => h) (fun q h => h) (fun r u t H1 locs1 ht hvm hp hB hz1 hk1 hS1 => ?_)
  obtain ⟨⟨z, rfl, hq⟩, hag⟩ := hp
  have hB : RepW G u.2.2.2 u.1 u.2.1 u.2.2.1 H1 := ht ▸ hB
  obtain ⟨r1, r2⟩ := st.behind (S' := vl z :: S) hag hB hS1 (fun q => (q.tail).cons trivial)
  have k1 := kk z u.1 u.2.1 u.2.2.1 hq hag.1 ok u.2.2.2 H1 locs1 ls r1
  rw [r2] at k1
  exact k1
theorem x_cSL2 {x : Nat} {mt : MT} {ty : FieldType} {fr lo mc ms : Nat} {v1 v2 : Value} {Q : Int → List Nat → NN → MM → Prop} (hd : decode cc pc = .ok (.invokestatic x, 3)) (hl : Cond.methodLink own x mt.1 ∈ Wd) (hv : VW mt (some ty) 2) (hvv : Cond.static mt.1 ∈ Wd) (sp : SpL G mt ty fr lo mc ms [v1, v2] K N I Q) (hR : fr + 1 ≤ R.frames ∧ 8 + (mt.2.2 + 11) + lo ≤ R.locals ∧ cs + mc ≤ R.cells ∧ ss + ms ≤ R.slots ∧ (S.map fun v => v.category).sum ≤ 8) (kk : ∀ z K1 N1 I1, Q z K1 N1 I1 → (∀ i, i ∈ K → i ∈ K1) → XX G own cc R Fx (pc + 3) L (vl z :: S) K1 N1 I1 (cs + mc) (ss + ms)) : XX G own cc R Fx pc L (v2 :: v1 :: S) K N I cs ss := by
  obtain ⟨p, e, s, m, args, below, meth, c, Q, nL, a0, K0⟩ := Fx
  intro ok al H locs ls st
  obtain ⟨hx, hb, hml, hown, hts, hE, hA⟩ := id ok
  have okN : okS K [] := fun w hw => nomatch hw
  have hoA : okS K [v1, v2] := by
    have q := st.2.2.2.2.1
    exact ((okN).cons q.head).cons q.tail.head
  refine va_calll (va_runS (As := [gm al v1, gm al v2]) (rest := S.map (gm al)) ⟨hx, hb, hml, hown, hts⟩ (sp al hoA) ⟨callB_of 2 hts (GoodIn.Wd hv.2.1) rfl rfl rfl (hts _ hv.1) (hts _ hl) hv.2.2 ⟨hR.1, hR.2.1⟩, hts _ hvv⟩ ⟨RepW.blind, fun U hU hW => PcW.at (As := [v1, v2]) hE hA st.2.1 st.1 U hU hW⟩ rfl rfl st.2.2.1.1 rfl (lv_room (by rw [cat_gm]; exact hR.2.2.2.2)) hd ⟨hR.2.2.1, hR.2.2.2.1⟩) st.2.1 (fun q _ h => h) (fun q h => h) (fun r u t H1 locs1 ht hvm hp hB hz1 hk1 hS1 => ?_)
  obtain ⟨⟨z, rfl, hq⟩, hag⟩ := hp
  have hB : RepW G u.2.2.2 u.1 u.2.1 u.2.2.1 H1 := ht ▸ hB
  obtain ⟨r1, r2⟩ := st.behind (S' := vl z :: S) hag hB hS1 (fun q => (q.tail.tail).cons trivial)
  have k1 := kk z u.1 u.2.1 u.2.2.1 hq hag.1 ok u.2.2.2 H1 locs1 ls r1
  rw [r2] at k1
  exact k1
theorem x_cSL3 {x : Nat} {mt : MT} {ty : FieldType} {fr lo mc ms : Nat} {v1 v2 v3 : Value} {Q : Int → List Nat → NN → MM → Prop} (hd : decode cc pc = .ok (.invokestatic x, 3)) (hl : Cond.methodLink own x mt.1 ∈ Wd) (hv : VW mt (some ty) 3) (hvv : Cond.static mt.1 ∈ Wd) (sp : SpL G mt ty fr lo mc ms [v1, v2, v3] K N I Q) (hR : fr + 1 ≤ R.frames ∧ 8 + (mt.2.2 + 11) + lo ≤ R.locals ∧ cs + mc ≤ R.cells ∧ ss + ms ≤ R.slots ∧ (S.map fun v => v.category).sum ≤ 8) (kk : ∀ z K1 N1 I1, Q z K1 N1 I1 → (∀ i, i ∈ K → i ∈ K1) → XX G own cc R Fx (pc + 3) L (vl z :: S) K1 N1 I1 (cs + mc) (ss + ms)) : XX G own cc R Fx pc L (v3 :: v2 :: v1 :: S) K N I cs ss := by
  obtain ⟨p, e, s, m, args, below, meth, c, Q, nL, a0, K0⟩ := Fx
  intro ok al H locs ls st
  obtain ⟨hx, hb, hml, hown, hts, hE, hA⟩ := id ok
  have okN : okS K [] := fun w hw => nomatch hw
  have hoA : okS K [v1, v2, v3] := by
    have q := st.2.2.2.2.1
    exact (((okN).cons q.head).cons q.tail.head).cons q.tail.tail.head
  refine va_calll (va_runS (As := [gm al v1, gm al v2, gm al v3]) (rest := S.map (gm al)) ⟨hx, hb, hml, hown, hts⟩ (sp al hoA) ⟨callB_of 3 hts (GoodIn.Wd hv.2.1) rfl rfl rfl (hts _ hv.1) (hts _ hl) hv.2.2 ⟨hR.1, hR.2.1⟩, hts _ hvv⟩ ⟨RepW.blind, fun U hU hW => PcW.at (As := [v1, v2, v3]) hE hA st.2.1 st.1 U hU hW⟩ rfl rfl st.2.2.1.1 rfl (lv_room (by rw [cat_gm]; exact hR.2.2.2.2)) hd ⟨hR.2.2.1, hR.2.2.2.1⟩) st.2.1 (fun q _ h => h) (fun q h => h) (fun r u t H1 locs1 ht hvm hp hB hz1 hk1 hS1 => ?_)
  obtain ⟨⟨z, rfl, hq⟩, hag⟩ := hp
  have hB : RepW G u.2.2.2 u.1 u.2.1 u.2.2.1 H1 := ht ▸ hB
  obtain ⟨r1, r2⟩ := st.behind (S' := vl z :: S) hag hB hS1 (fun q => (q.tail.tail.tail).cons trivial)
  have k1 := kk z u.1 u.2.1 u.2.2.1 hq hag.1 ok u.2.2.2 H1 locs1 ls r1
  rw [r2] at k1
  exact k1
theorem x_cSL4 {x : Nat} {mt : MT} {ty : FieldType} {fr lo mc ms : Nat} {v1 v2 v3 v4 : Value} {Q : Int → List Nat → NN → MM → Prop} (hd : decode cc pc = .ok (.invokestatic x, 3)) (hl : Cond.methodLink own x mt.1 ∈ Wd) (hv : VW mt (some ty) 4) (hvv : Cond.static mt.1 ∈ Wd) (sp : SpL G mt ty fr lo mc ms [v1, v2, v3, v4] K N I Q) (hR : fr + 1 ≤ R.frames ∧ 8 + (mt.2.2 + 11) + lo ≤ R.locals ∧ cs + mc ≤ R.cells ∧ ss + ms ≤ R.slots ∧ (S.map fun v => v.category).sum ≤ 8) (kk : ∀ z K1 N1 I1, Q z K1 N1 I1 → (∀ i, i ∈ K → i ∈ K1) → XX G own cc R Fx (pc + 3) L (vl z :: S) K1 N1 I1 (cs + mc) (ss + ms)) : XX G own cc R Fx pc L (v4 :: v3 :: v2 :: v1 :: S) K N I cs ss := by
  obtain ⟨p, e, s, m, args, below, meth, c, Q, nL, a0, K0⟩ := Fx
  intro ok al H locs ls st
  obtain ⟨hx, hb, hml, hown, hts, hE, hA⟩ := id ok
  have okN : okS K [] := fun w hw => nomatch hw
  have hoA : okS K [v1, v2, v3, v4] := by
    have q := st.2.2.2.2.1
    exact ((((okN).cons q.head).cons q.tail.head).cons q.tail.tail.head).cons q.tail.tail.tail.head
  refine va_calll (va_runS (As := [gm al v1, gm al v2, gm al v3, gm al v4]) (rest := S.map (gm al)) ⟨hx, hb, hml, hown, hts⟩ (sp al hoA) ⟨callB_of 4 hts (GoodIn.Wd hv.2.1) rfl rfl rfl (hts _ hv.1) (hts _ hl) hv.2.2 ⟨hR.1, hR.2.1⟩, hts _ hvv⟩ ⟨RepW.blind, fun U hU hW => PcW.at (As := [v1, v2, v3, v4]) hE hA st.2.1 st.1 U hU hW⟩ rfl rfl st.2.2.1.1 rfl (lv_room (by rw [cat_gm]; exact hR.2.2.2.2)) hd ⟨hR.2.2.1, hR.2.2.2.1⟩) st.2.1 (fun q _ h => h) (fun q h => h) (fun r u t H1 locs1 ht hvm hp hB hz1 hk1 hS1 => ?_)
  obtain ⟨⟨z, rfl, hq⟩, hag⟩ := hp
  have hB : RepW G u.2.2.2 u.1 u.2.1 u.2.2.1 H1 := ht ▸ hB
  obtain ⟨r1, r2⟩ := st.behind (S' := vl z :: S) hag hB hS1 (fun q => (q.tail.tail.tail.tail).cons trivial)
  have k1 := kk z u.1 u.2.1 u.2.2.1 hq hag.1 ok u.2.2.2 H1 locs1 ls r1
  rw [r2] at k1
  exact k1
theorem x_cSL5 {x : Nat} {mt : MT} {ty : FieldType} {fr lo mc ms : Nat} {v1 v2 v3 v4 v5 : Value} {Q : Int → List Nat → NN → MM → Prop} (hd : decode cc pc = .ok (.invokestatic x, 3)) (hl : Cond.methodLink own x mt.1 ∈ Wd) (hv : VW mt (some ty) 5) (hvv : Cond.static mt.1 ∈ Wd) (sp : SpL G mt ty fr lo mc ms [v1, v2, v3, v4, v5] K N I Q) (hR : fr + 1 ≤ R.frames ∧ 8 + (mt.2.2 + 11) + lo ≤ R.locals ∧ cs + mc ≤ R.cells ∧ ss + ms ≤ R.slots ∧ (S.map fun v => v.category).sum ≤ 8) (kk : ∀ z K1 N1 I1, Q z K1 N1 I1 → (∀ i, i ∈ K → i ∈ K1) → XX G own cc R Fx (pc + 3) L (vl z :: S) K1 N1 I1 (cs + mc) (ss + ms)) : XX G own cc R Fx pc L (v5 :: v4 :: v3 :: v2 :: v1 :: S) K N I cs ss := by
  obtain ⟨p, e, s, m, args, below, meth, c, Q, nL, a0, K0⟩ := Fx
  intro ok al H locs ls st
  obtain ⟨hx, hb, hml, hown, hts, hE, hA⟩ := id ok
  have okN : okS K [] := fun w hw => nomatch hw
  have hoA : okS K [v1, v2, v3, v4, v5] := by
    have q := st.2.2.2.2.1
    exact (((((okN).cons q.head).cons q.tail.head).cons q.tail.tail.head).cons q.tail.tail.tail.head).cons q.tail.tail.tail.tail.head
  refine va_calll (va_runS (As := [gm al v1, gm al v2, gm al v3, gm al v4, gm al v5]) (rest := S.map (gm al)) ⟨hx, hb, hml, hown, hts⟩ (sp al hoA) ⟨callB_of 5 hts (GoodIn.Wd hv.2.1) rfl rfl rfl (hts _ hv.1) (hts _ hl) hv.2.2 ⟨hR.1, hR.2.1⟩, hts _ hvv⟩ ⟨RepW.blind, fun U hU hW => PcW.at (As := [v1, v2, v3, v4, v5]) hE hA st.2.1 st.1 U hU hW⟩ rfl rfl st.2.2.1.1 rfl (lv_room (by rw [cat_gm]; exact hR.2.2.2.2)) hd ⟨hR.2.2.1, hR.2.2.2.1⟩) st.2.1 (fun q _ h => h) (fun q h => h) (fun r u t H1 locs1 ht hvm hp hB hz1 hk1 hS1 => ?_)
  obtain ⟨⟨z, rfl, hq⟩, hag⟩ := hp
  have hB : RepW G u.2.2.2 u.1 u.2.1 u.2.2.1 H1 := ht ▸ hB
  obtain ⟨r1, r2⟩ := st.behind (S' := vl z :: S) hag hB hS1 (fun q => (q.tail.tail.tail.tail.tail).cons trivial)
  have k1 := kk z u.1 u.2.1 u.2.2.1 hq hag.1 ok u.2.2.2 H1 locs1 ls r1
  rw [r2] at k1
  exact k1
theorem x_cSV1 {x : Nat} {mt : MT} {fr lo mc ms : Nat} {v1 : Value} {Q : List Nat → NN → MM → Prop} (hd : decode cc pc = .ok (.invokestatic x, 3)) (hl : Cond.methodLink own x mt.1 ∈ Wd) (hv : VW mt none 1) (hvv : Cond.static mt.1 ∈ Wd) (sp : SpV G mt fr lo mc ms [v1] K N I Q) (hR : fr + 1 ≤ R.frames ∧ 8 + (mt.2.2 + 11) + lo ≤ R.locals ∧ cs + mc ≤ R.cells ∧ ss + ms ≤ R.slots ∧ (S.map fun v => v.category).sum ≤ 8) (kk : ∀ K1 N1 I1, Q K1 N1 I1 → (∀ i, i ∈ K → i ∈ K1) → XX G own cc R Fx (pc + 3) L S K1 N1 I1 (cs + mc) (ss + ms)) : XX G own cc R Fx pc L (v1 :: S) K N I cs ss := by
  obtain ⟨p, e, s, m, args, below, meth, c, Q, nL, a0, K0⟩ := Fx
  intro ok al H locs ls st
  obtain ⟨hx, hb, hml, hown, hts, hE, hA⟩ := id ok
  have okN : okS K [] := fun w hw => nomatch hw
  have hoA : okS K [v1] := by
    have q := st.2.2.2.2.1
    exact (okN).cons q.head
  refine va_callv (va_runS (As := [gm al v1]) (rest := S.map (gm al)) ⟨hx, hb, hml, hown, hts⟩ (sp al hoA) ⟨callB_of 1 hts (GoodIn.Wd hv.2.1) rfl rfl rfl (hts _ hv.1) (hts _ hl) hv.2.2 ⟨hR.1, hR.2.1⟩, hts _ hvv⟩ ⟨RepW.blind, fun U hU hW => PcW.at (As := [v1]) hE hA st.2.1 st.1 U hU hW⟩ rfl rfl st.2.2.1.1 rfl (lv_room (by rw [cat_gm]; exact hR.2.2.2.2)) hd ⟨hR.2.2.1, hR.2.2.2.1⟩) st.2.1 (fun q _ h => h) (fun q h => h) (fun u t H1 locs1 ht hvm hp hB hz1 hk1 hS1 => ?_)
  obtain ⟨hq, hag⟩ := hp
  have hB : RepW G u.2.2.2 u.1 u.2.1 u.2.2.1 H1 := ht ▸ hB
  obtain ⟨r1, r2⟩ := st.behind hag hB hS1 (fun q => q.tail)
  have k1 := kk u.1 u.2.1 u.2.2.1 hq hag.1 ok u.2.2.2 H1 locs1 ls r1
  rw [r2] at k1
  exact k1
theorem x_cSV2 {x : Nat} {mt : MT} {fr lo mc ms : Nat} {v1 v2 : Value} {Q : List Nat → NN → MM → Prop} (hd : decode cc pc = .ok (.invokestatic x, 3)) (hl : Cond.methodLink own x mt.1 ∈ Wd) (hv : VW mt none 2) (hvv : Cond.static mt.1 ∈ Wd) (sp : SpV G mt fr lo mc ms [v1, v2] K N I Q) (hR : fr + 1 ≤ R.frames ∧ 8 + (mt.2.2 + 11) + lo ≤ R.locals ∧ cs + mc ≤ R.cells ∧ ss + ms ≤ R.slots ∧ (S.map fun v => v.category).sum ≤ 8) (kk : ∀ K1 N1 I1, Q K1 N1 I1 → (∀ i, i ∈ K → i ∈ K1) → XX G own cc R Fx (pc + 3) L S K1 N1 I1 (cs + mc) (ss + ms)) : XX G own cc R Fx pc L (v2 :: v1 :: S) K N I cs ss := by
  obtain ⟨p, e, s, m, args, below, meth, c, Q, nL, a0, K0⟩ := Fx
  intro ok al H locs ls st
  obtain ⟨hx, hb, hml, hown, hts, hE, hA⟩ := id ok
  have okN : okS K [] := fun w hw => nomatch hw
  have hoA : okS K [v1, v2] := by
    have q := st.2.2.2.2.1
    exact ((okN).cons q.head).cons q.tail.head
  refine va_callv (va_runS (As := [gm al v1, gm al v2]) (rest := S.map (gm al)) ⟨hx, hb, hml, hown, hts⟩ (sp al hoA) ⟨callB_of 2 hts (GoodIn.Wd hv.2.1) rfl rfl rfl (hts _ hv.1) (hts _ hl) hv.2.2 ⟨hR.1, hR.2.1⟩, hts _ hvv⟩ ⟨RepW.blind, fun U hU hW => PcW.at (As := [v1, v2]) hE hA st.2.1 st.1 U hU hW⟩ rfl rfl st.2.2.1.1 rfl (lv_room (by rw [cat_gm]; exact hR.2.2.2.2)) hd ⟨hR.2.2.1, hR.2.2.2.1⟩) st.2.1 (fun q _ h => h) (fun q h => h) (fun u t H1 locs1 ht hvm hp hB hz1 hk1 hS1 => ?_)
  obtain ⟨hq, hag⟩ := hp
  have hB : RepW G u.2.2.2 u.1 u.2.1 u.2.2.1 H1 := ht ▸ hB
  obtain ⟨r1, r2⟩ := st.behind hag hB hS1 (fun q => q.tail.tail)
  have k1 := kk u.1 u.2.1 u.2.2.1 hq hag.1 ok u.2.2.2 H1 locs1 ls r1
  rw [r2] at k1
  exact k1
theorem x_cSV3 {x : Nat} {mt : MT} {fr lo mc ms : Nat} {v1 v2 v3 : Value} {Q : List Nat → NN → MM → Prop} (hd : decode cc pc = .ok (.invokestatic x, 3)) (hl : Cond.methodLink own x mt.1 ∈ Wd) (hv : VW mt none 3) (hvv : Cond.static mt.1 ∈ Wd) (sp : SpV G mt fr lo mc ms [v1, v2, v3] K N I Q) (hR : fr + 1 ≤ R.frames ∧ 8 + (mt.2.2 + 11) + lo ≤ R.locals ∧ cs + mc ≤ R.cells ∧ ss + ms ≤ R.slots ∧ (S.map fun v => v.category).sum ≤ 8) (kk : ∀ K1 N1 I1, Q K1 N1 I1 → (∀ i, i ∈ K → i ∈ K1) → XX G own cc R Fx (pc + 3) L S K1 N1 I1 (cs + mc) (ss + ms)) : XX G own cc R Fx pc L (v3 :: v2 :: v1 :: S) K N I cs ss := by
  obtain ⟨p, e, s, m, args, below, meth, c, Q, nL, a0, K0⟩ := Fx
  intro ok al H locs ls st
  obtain ⟨hx, hb, hml, hown, hts, hE, hA⟩ := id ok
  have okN : okS K [] := fun w hw => nomatch hw
  have hoA : okS K [v1, v2, v3] := by
    have q := st.2.2.2.2.1
    exact (((okN).cons q.head).cons q.tail.head).cons q.tail.tail.head
  refine va_callv (va_runS (As := [gm al v1, gm al v2, gm al v3]) (rest := S.map (gm al)) ⟨hx, hb, hml, hown, hts⟩ (sp al hoA) ⟨callB_of 3 hts (GoodIn.Wd hv.2.1) rfl rfl rfl (hts _ hv.1) (hts _ hl) hv.2.2 ⟨hR.1, hR.2.1⟩, hts _ hvv⟩ ⟨RepW.blind, fun U hU hW => PcW.at (As := [v1, v2, v3]) hE hA st.2.1 st.1 U hU hW⟩ rfl rfl st.2.2.1.1 rfl (lv_room (by rw [cat_gm]; exact hR.2.2.2.2)) hd ⟨hR.2.2.1, hR.2.2.2.1⟩) st.2.1 (fun q _ h => h) (fun q h => h) (fun u t H1 locs1 ht hvm hp hB hz1 hk1 hS1 => ?_)
  obtain ⟨hq, hag⟩ := hp
  have hB : RepW G u.2.2.2 u.1 u.2.1 u.2.2.1 H1 := ht ▸ hB
  obtain ⟨r1, r2⟩ := st.behind hag hB hS1 (fun q => q.tail.tail.tail)
  have k1 := kk u.1 u.2.1 u.2.2.1 hq hag.1 ok u.2.2.2 H1 locs1 ls r1
  rw [r2] at k1
  exact k1
theorem x_cSV4 {x : Nat} {mt : MT} {fr lo mc ms : Nat} {v1 v2 v3 v4 : Value} {Q : List Nat → NN → MM → Prop} (hd : decode cc pc = .ok (.invokestatic x, 3)) (hl : Cond.methodLink own x mt.1 ∈ Wd) (hv : VW mt none 4) (hvv : Cond.static mt.1 ∈ Wd) (sp : SpV G mt fr lo mc ms [v1, v2, v3, v4] K N I Q) (hR : fr + 1 ≤ R.frames ∧ 8 + (mt.2.2 + 11) + lo ≤ R.locals ∧ cs + mc ≤ R.cells ∧ ss + ms ≤ R.slots ∧ (S.map fun v => v.category).sum ≤ 8) (kk : ∀ K1 N1 I1, Q K1 N1 I1 → (∀ i, i ∈ K → i ∈ K1) → XX G own cc R Fx (pc + 3) L S K1 N1 I1 (cs + mc) (ss + ms)) : XX G own cc R Fx pc L (v4 :: v3 :: v2 :: v1 :: S) K N I cs ss := by
  obtain ⟨p, e, s, m, args, below, meth, c, Q, nL, a0, K0⟩ := Fx
  intro ok al H locs ls st
  obtain ⟨hx, hb, hml, hown, hts, hE, hA⟩ := id ok
  have okN : okS K [] := fun w hw => nomatch hw
  have hoA : okS K [v1, v2, v3, v4] := by
    have q := st.2.2.2.2.1
    exact ((((okN).cons q.head).cons q.tail.head).cons q.tail.tail.head).cons q.tail.tail.tail.head
  refine va_callv (va_runS (As := [gm al v1, gm al v2, gm al v3, gm al v4]) (rest := S.map (gm al)) ⟨hx, hb, hml, hown, hts⟩ (sp al hoA) ⟨callB_of 4 hts (GoodIn.Wd hv.2.1) rfl rfl rfl (hts _ hv.1) (hts _ hl) hv.2.2 ⟨hR.1, hR.2.1⟩, hts _ hvv⟩ ⟨RepW.blind, fun U hU hW => PcW.at (As := [v1, v2, v3, v4]) hE hA st.2.1 st.1 U hU hW⟩ rfl rfl st.2.2.1.1 rfl (lv_room (by rw [cat_gm]; exact hR.2.2.2.2)) hd ⟨hR.2.2.1, hR.2.2.2.1⟩) st.2.1 (fun q _ h => h) (fun q h => h) (fun u t H1 locs1 ht hvm hp hB hz1 hk1 hS1 => ?_)
  obtain ⟨hq, hag⟩ := hp
  have hB : RepW G u.2.2.2 u.1 u.2.1 u.2.2.1 H1 := ht ▸ hB
  obtain ⟨r1, r2⟩ := st.behind hag hB hS1 (fun q => q.tail.tail.tail.tail)
  have k1 := kk u.1 u.2.1 u.2.2.1 hq hag.1 ok u.2.2.2 H1 locs1 ls r1
  rw [r2] at k1
  exact k1
theorem x_cSV5 {x : Nat} {mt : MT} {fr lo mc ms : Nat} {v1 v2 v3 v4 v5 : Value} {Q : List Nat → NN → MM → Prop} (hd : decode cc pc = .ok (.invokestatic x, 3)) (hl : Cond.methodLink own x mt.1 ∈ Wd) (hv : VW mt none 5) (hvv : Cond.static mt.1 ∈ Wd) (sp : SpV G mt fr lo mc ms [v1, v2, v3, v4, v5] K N I Q) (hR : fr + 1 ≤ R.frames ∧ 8 + (mt.2.2 + 11) + lo ≤ R.locals ∧ cs + mc ≤ R.cells ∧ ss + ms ≤ R.slots ∧ (S.map fun v => v.category).sum ≤ 8) (kk : ∀ K1 N1 I1, Q K1 N1 I1 → (∀ i, i ∈ K → i ∈ K1) → XX G own cc R Fx (pc + 3) L S K1 N1 I1 (cs + mc) (ss + ms)) : XX G own cc R Fx pc L (v5 :: v4 :: v3 :: v2 :: v1 :: S) K N I cs ss := by
  obtain ⟨p, e, s, m, args, below, meth, c, Q, nL, a0, K0⟩ := Fx
  intro ok al H locs ls st
  obtain ⟨hx, hb, hml, hown, hts, hE, hA⟩ := id ok
  have okN : okS K [] := fun w hw => nomatch hw
  have hoA : okS K [v1, v2, v3, v4, v5] := by
    have q := st.2.2.2.2.1
    exact (((((okN).cons q.head).cons q.tail.head).cons q.tail.tail.head).cons q.tail.tail.tail.head).cons q.tail.tail.tail.tail.head
  refine va_callv (va_runS (As := [gm al v1, gm al v2, gm al v3, gm al v4, gm al v5]) (rest := S.map (gm al)) ⟨hx, hb, hml, hown, hts⟩ (sp al hoA) ⟨callB_of 5 hts (GoodIn.Wd hv.2.1) rfl rfl rfl (hts _ hv.1) (hts _ hl) hv.2.2 ⟨hR.1, hR.2.1⟩, hts _ hvv⟩ ⟨RepW.blind, fun U hU hW => PcW.at (As := [v1, v2, v3, v4, v5]) hE hA st.2.1 st.1 U hU hW⟩ rfl rfl st.2.2.1.1 rfl (lv_room (by rw [cat_gm]; exact hR.2.2.2.2)) hd ⟨hR.2.2.1, hR.2.2.2.1⟩) st.2.1 (fun q _ h => h) (fun q h => h) (fun u t H1 locs1 ht hvm hp hB hz1 hk1 hS1 => ?_)
  obtain ⟨hq, hag⟩ := hp
  have hB : RepW G u.2.2.2 u.1 u.2.1 u.2.2.1 H1 := ht ▸ hB
  obtain ⟨r1, r2⟩ := st.behind hag hB hS1 (fun q => q.tail.tail.tail.tail.tail)
  have k1 := kk u.1 u.2.1 u.2.2.1 hq hag.1 ok u.2.2.2 H1 locs1 ls r1
  rw [r2] at k1
  exact k1
theorem x_cIV0 {x : Nat} {mt : MT} {fr lo mc ms : Nat} {i : Nat} {Q : List Nat → NN → MM → Prop} (hd : decode cc pc = .ok (.invokespecial x, 3)) (hl : Cond.methodLink own x mt.1 ∈ Wd) (hv : VW mt none 0) (hvv : Cond.instanceMethod mt.1 ∈ Wd) (hnm : mt.1.name = "<init>") (sp : SpV G mt fr lo mc ms [.ref i] K N I Q) (hR : fr + 1 ≤ R.frames ∧ 8 + (mt.2.2 + 11) + lo ≤ R.locals ∧ cs + mc ≤ R.cells ∧ ss + ms ≤ R.slots ∧ (S.map fun v => v.category).sum ≤ 8) (kk : ∀ K1 N1 I1, Q K1 N1 I1 → (∀ i, i ∈ K → i ∈ K1) → XX G own cc R Fx (pc + 3) L S K1 N1 I1 (cs + mc) (ss + ms)) : XX G own cc R Fx pc L (.ref i :: S) K N I cs ss := by
  obtain ⟨p, e, s, m, args, below, meth, c, Q, nL, a0, K0⟩ := Fx
  intro ok al H locs ls st
  obtain ⟨hx, hb, hml, hown, hts, hE, hA⟩ := id ok
  have okN : okS K [] := fun w hw => nomatch hw
  have hoA : okS K [.ref i] := by
    have q := st.2.2.2.2.1
    exact (okN).cons q.head
  refine va_callv (va_runI (As := []) (rest := S.map (gm al)) (b := al i) ⟨hx, hb, hml, hown, hts⟩ (sp al hoA) ⟨callB_of 0 hts (GoodIn.Wd hv.2.1) rfl rfl rfl (hts _ hv.1) (hts _ hl) hv.2.2 ⟨hR.1, hR.2.1⟩, hnm, hts _ hvv⟩ ⟨RepW.blind, fun U hU hW => PcW.at (As := [.ref i]) hE hA st.2.1 st.1 U hU hW⟩ rfl rfl st.2.2.1.1 rfl (lv_room (by rw [cat_gm]; exact hR.2.2.2.2)) hd ⟨hR.2.2.1, hR.2.2.2.1⟩) st.2.1 (fun q _ h => h) (fun q h => h) (fun u t H1 locs1 ht hvm hp hB hz1 hk1 hS1 => ?_)
  obtain ⟨hq, hag⟩ := hp
  have hB : RepW G u.2.2.2 u.1 u.2.1 u.2.2.1 H1 := ht ▸ hB
  obtain ⟨r1, r2⟩ := st.behind hag hB hS1 (fun q => q.tail)
  have k1 := kk u.1 u.2.1 u.2.2.1 hq hag.1 ok u.2.2.2 H1 locs1 ls r1
  rw [r2] at k1
  exact k1
theorem x_cIN {x i : Nat} {mt : MT} {fr lo mc ms : Nat} {Q : List Nat → NN → MM → Prop} (hd : decode cc pc = .ok (.invokespecial x, 3)) (hl : Cond.methodLinkNest own x mt.1 RX4 ∈ nests) (hv : VW mt none 0) (hvv : Cond.instanceMethod mt.1 ∈ Wd) (hnm : mt.1.name = "<init>") (sp : SpV G mt fr lo mc ms [.ref i] K N I Q) (hR : fr + 1 ≤ R.frames ∧ 8 + (mt.2.2 + 11) + lo ≤ R.locals ∧ cs + mc ≤ R.cells ∧ ss + ms ≤ R.slots ∧ (S.map fun v => v.category).sum ≤ 8) (kk : ∀ K1 N1 I1, Q K1 N1 I1 → (∀ i, i ∈ K → i ∈ K1) → XX G own cc R Fx (pc + 3) L S K1 N1 I1 (cs + mc) (ss + ms)) : XX G own cc R Fx pc L (.ref i :: S) K N I cs ss := by
  obtain ⟨p, e, s, m, args, below, meth, c, Q, nL, a0, K0⟩ := Fx
  intro ok al H locs ls st
  obtain ⟨hx, hb, hml, hown, hts, hE, hA⟩ := id ok
  have okN : okS K [] := fun w hw => nomatch hw
  have hoA : okS K [.ref i] := okN.cons st.2.2.2.2.1.head
  refine va_callv (va_runIN (As := []) (rest := S.map (gm al)) (b := al i) ⟨hx, hb, hml, hown, hts⟩ (sp al hoA) ⟨va_cnB 0 hts (GoodIn.Wd hv.2.1) rfl rfl rfl (hE.2.2.1 _ hl) (hts _ hv.1) hv.2.2 ⟨hR.1, hR.2.1⟩, hnm, hts _ hvv⟩ ⟨RepW.blind, fun U hU hW => PcW.at (As := [.ref i]) hE hA st.2.1 st.1 U hU hW⟩ rfl rfl st.2.2.1.1 rfl (lv_room (by rw [cat_gm]; exact hR.2.2.2.2)) hd ⟨hR.2.2.1, hR.2.2.2.1⟩) st.2.1 (fun q _ h => h) (fun q h => h) (fun u t H1 locs1 ht hvm hp hB hz1 hk1 hS1 => ?_)
  obtain ⟨hq, hag⟩ := hp
  have hB : RepW G u.2.2.2 u.1 u.2.1 u.2.2.1 H1 := ht ▸ hB
  obtain ⟨r1, r2⟩ := st.behind hag hB hS1 (fun q => q.tail)
  have k1 := kk u.1 u.2.1 u.2.2.1 hq hag.1 ok u.2.2.2 H1 locs1 ls r1
  rw [r2] at k1
  exact k1
end FR
/-- a method's locals as it begins -/
def entL (As : List Value) : List (Option Value) := As.flatMap (fun v => if v.category = 2 then [some v, none] else [some v])
theorem entL_at (al : Nat → Nat) : ∀ (As : List Value) (r : List (Option Value)) (q : List Slot), (∀ (i : Nat) (v : Value), r[i]? = some (some v) → q[i]? = some (Slot.val (gm al v))) → ∀ (i : Nat) (v : Value), (entL As ++ r)[i]? = some (some v) → (lg_sl (As.map (gm al)) ++ q)[i]? = some (Slot.val (gm al v))
  | [], r, q, h, i, v, hv => h i v hv
  | a :: As, r, q, h, i, v, hv => by
    have ih := entL_at al As r q h
    by_cases hc : a.category = 2
    · have e1 : entL (a :: As) ++ r = some a :: none :: (entL As ++ r) := by simp [entL, hc]
      have e2 : lg_sl ((a :: As).map (gm al)) ++ q = Slot.val (gm al a) :: Slot.second :: (lg_sl (As.map (gm al)) ++ q) := by simp [lg_sl, gm_cat, hc]
      rw [e1] at hv
      rw [e2]
      match i, hv with
      | 0, hv => cases hv; rfl
      | 1, hv => cases hv
      | i + 2, hv => exact ih i v hv
    · have e1 : entL (a :: As) ++ r = some a :: (entL As ++ r) := by simp [entL, hc]
      have e2 : lg_sl ((a :: As).map (gm al)) ++ q = Slot.val (gm al a) :: (lg_sl (As.map (gm al)) ++ q) := by simp [lg_sl, gm_cat, hc]
      rw [e1] at hv
      rw [e2]
      match i, hv with
      | 0, hv => cases hv; rfl
      | i + 1, hv => exact ih i v hv
theorem entL_len (al : Nat → Nat) : ∀ As : List Value, (lg_sl (As.map (gm al))).length = (entL As).length
  | [] => rfl
  | a :: As => by
    have ih := entL_len al As
    by_cases hc : a.category = 2
    · simp [lg_sl, entL, gm_cat, hc] at ih ⊢; omega
    · simp [lg_sl, entL, gm_cat, hc] at ih ⊢; omega
theorem entL_ok {K : List Nat} : ∀ (As : List Value) (n : Nat), okS K As → okL K (entL As ++ List.replicate n none)
  | [], n, h => fun i v hv => by
    have := List.mem_of_getElem? hv
    simp [entL] at this
  | a :: As, n, h => fun i v hv => by
    have ih := entL_ok As n h.tail
    by_cases hc : a.category = 2
    · have e1 : entL (a :: As) ++ List.replicate n none = some a :: none :: (entL As ++ List.replicate n none) := by simp [entL, hc]
      rw [e1] at hv
      match i, hv with
      | 0, hv => cases hv; exact h.head
      | 1, hv => cases hv
      | i + 2, hv => exact ih i v hv
    · have e1 : entL (a :: As) ++ List.replicate n none = some a :: (entL As ++ List.replicate n none) := by simp [entL, hc]
      rw [e1] at hv
      match i, hv with
      | 0, hv => cases hv; exact h.head
      | i + 1, hv => exact ih i v hv
theorem LocW.entry {al : Nat → Nat} {As : List Value} {n : Nat} (h : (entL As).length ≤ n) : LocW al n ((lg_sl (As.map (gm al)) ++ List.replicate (n - (lg_sl (As.map (gm al))).length) Slot.unset).toArray) (entL As ++ List.replicate (n - (entL As).length) none) := by
  have hl := lv_entry (As.map (gm al)) (n := n) (by rw [entL_len]; exact h)
  refine ⟨hl.1, hl.2.1, by simp; omega, fun i v hv => ?_⟩
  have := entL_at al As (List.replicate (n - (entL As).length) none) (List.replicate (n - (lg_sl (As.map (gm al))).length) Slot.unset) (fun i v hv => by
    have := List.mem_of_getElem? hv
    simp at this) i v hv
  simpa using this

theorem SpI.of {G : GT} {mt : MT} {ty : FieldType} {fr lo mc ms : Nat} {As : List Value} {K : List Nat} {N : NN} {I : MM} {Q : Int → List Nat → NN → MM → Prop} {own : String} {cc : ByteArray} {L : List (Option Value)} (hy : plainName mt.1.cls = true) (ho : mt.1.cls = own) (hc : mt.2.1 = cc) (hlen : (entL As).length ≤ mt.2.2) (hL : entL As ++ List.replicate (mt.2.2 - (entL As).length) none = L)
    (body : ∀ Fx : FxT, Fx.2.2.2.2.2.2.1.name = mt.1.name → (∀ pc L z K1 N1 I1, decode cc pc = .ok (.ireturn, 1) → narrow ty (vi z) = vi z → Q z K1 N1 I1 → XX G own cc (RmW fr lo mc ms) Fx pc L [vi z] K1 N1 I1 mc ms) → XX G own cc (RmW fr lo mc ms) Fx 0 L [] K N I 0 0) : SpI G mt ty fr lo mc ms As K N I Q := by
  intro al hoA
  subst ho; subst hc; subst hL
  refine Met.ofW (cc := mt.2.1) (maxL := mt.2.2) (ret := (some ty)) hy rfl ?_
  intro p e s m args below meth c s₁ B hml hv
  obtain ⟨rfl, hE, hA, hR⟩ := hv
  have hx := B.exec
  have hr := B.returns
  have hts := atoms_spec (ws := Cond.code mt.1 mt.2.1 mt.2.2 (some ty) :: Wd) B.pre
  have hown : s.vm.findClass mt.1.cls = some m.cls := findClass_of_methodNamed B.named
  have hlocks := B.notSynchronized
  have hnm : meth.name = mt.1.name := (name_of_methodNamed B.named B.method).1
  rw [lg_entry_eq]
  have hok : OkW G mt.1.cls mt.2.1 (p, e, s, m, (As.map (gm al)).toArray, below, meth, c, MQ below (QiW G al K Q) (As.map (gm al)).toArray s mc ms (Ab G), mt.2.2, al, K) := ⟨hx, B.bytes, hml, hown, fun w hw => hts w (List.mem_cons_of_mem _ hw), hE, hA⟩
  refine body (p, e, s, m, (As.map (gm al)).toArray, below, meth, c, MQ below (QiW G al K Q) (As.map (gm al)).toArray s mc ms (Ab G), mt.2.2, al, K) hnm ?_ hok al s.heap [] _ ⟨hR, va_S.rf, LocW.entry hlen, entL_ok As _ hoA, fun v hv => (nomatch hv), fun _ _ => rfl, fun _ h => h⟩
  · clear hok
    intro pc L z K1 N1 I1 hd hn hq ok al1 H locs ls st
    exact W.zret hx ok.2.1 hr hn (fun t ht hW => ⟨⟨Int32.ofInt z, (K1, N1, I1, al1), rfl, ⟨⟨z, rfl, hq⟩, st.2.2.2.2.2.2, st.2.2.2.2.2.1⟩, by show RepW G al1 K1 N1 I1 t.heap; rw [ht]; exact st.1⟩, st.2.1.F ht⟩) st.2.1.2.2 hd hlocks
theorem SpL.of {G : GT} {mt : MT} {fr lo mc ms : Nat} {As : List Value} {K : List Nat} {N : NN} {I : MM} {Q : Int → List Nat → NN → MM → Prop} {own : String} {cc : ByteArray} {L : List (Option Value)} (hy : plainName mt.1.cls = true) (ho : mt.1.cls = own) (hc : mt.2.1 = cc) (hlen : (entL As).length ≤ mt.2.2) (hL : entL As ++ List.replicate (mt.2.2 - (entL As).length) none = L)
    (body : ∀ Fx : FxT, Fx.2.2.2.2.2.2.1.name = mt.1.name → (∀ pc L z K1 N1 I1, decode cc pc = .ok (.lreturn, 1) → Q z K1 N1 I1 → XX G own cc (RmW fr lo mc ms) Fx pc L [vl z] K1 N1 I1 mc ms) → XX G own cc (RmW fr lo mc ms) Fx 0 L [] K N I 0 0) : SpL G mt .long fr lo mc ms As K N I Q := by
  intro al hoA
  subst ho; subst hc; subst hL
  refine Met.ofW (cc := mt.2.1) (maxL := mt.2.2) (ret := (some .long)) hy rfl ?_
  intro p e s m args below meth c s₁ B hml hv
  obtain ⟨rfl, hE, hA, hR⟩ := hv
  have hx := B.exec
  have hr := B.returns
  have hts := atoms_spec (ws := Cond.code mt.1 mt.2.1 mt.2.2 (some .long) :: Wd) B.pre
  have hown : s.vm.findClass mt.1.cls = some m.cls := findClass_of_methodNamed B.named
  have hlocks := B.notSynchronized
  have hnm : meth.name = mt.1.name := (name_of_methodNamed B.named B.method).1
  rw [lg_entry_eq]
  have hok : OkW G mt.1.cls mt.2.1 (p, e, s, m, (As.map (gm al)).toArray, below, meth, c, MQ below (QlW G al K Q) (As.map (gm al)).toArray s mc ms (Ab G), mt.2.2, al, K) := ⟨hx, B.bytes, hml, hown, fun w hw => hts w (List.mem_cons_of_mem _ hw), hE, hA⟩
  refine body (p, e, s, m, (As.map (gm al)).toArray, below, meth, c, MQ below (QlW G al K Q) (As.map (gm al)).toArray s mc ms (Ab G), mt.2.2, al, K) hnm ?_ hok al s.heap [] _ ⟨hR, va_S.rf, LocW.entry hlen, entL_ok As _ hoA, fun v hv => (nomatch hv), fun _ _ => rfl, fun _ h => h⟩
  · clear hok
    intro pc L z K1 N1 I1 hd hq ok al1 H locs ls st
    exact W.lret hx ok.2.1 hr (fun t ht hW => ⟨⟨Int64.ofInt z, (K1, N1, I1, al1), rfl, ⟨⟨z, rfl, hq⟩, st.2.2.2.2.2.2, st.2.2.2.2.2.1⟩, by show RepW G al1 K1 N1 I1 t.heap; rw [ht]; exact st.1⟩, st.2.1.F ht⟩) st.2.1.2.2 hd hlocks
theorem SpV.of {G : GT} {mt : MT} {fr lo mc ms : Nat} {As : List Value} {K : List Nat} {N : NN} {I : MM} {Q : List Nat → NN → MM → Prop} {own : String} {cc : ByteArray} {L : List (Option Value)} (hy : plainName mt.1.cls = true) (ho : mt.1.cls = own) (hc : mt.2.1 = cc) (hlen : (entL As).length ≤ mt.2.2) (hL : entL As ++ List.replicate (mt.2.2 - (entL As).length) none = L)
    (body : ∀ Fx : FxT, Fx.2.2.2.2.2.2.1.name = mt.1.name → (∀ pc L K1 N1 I1, decode cc pc = .ok (.return_, 1) → Q K1 N1 I1 → XX G own cc (RmW fr lo mc ms) Fx pc L [] K1 N1 I1 mc ms) → XX G own cc (RmW fr lo mc ms) Fx 0 L [] K N I 0 0) : SpV G mt fr lo mc ms As K N I Q := by
  intro al hoA
  subst ho; subst hc; subst hL
  refine Met.ofW (cc := mt.2.1) (maxL := mt.2.2) (ret := none) hy rfl ?_
  intro p e s m args below meth c s₁ B hml hv
  obtain ⟨rfl, hE, hA, hR⟩ := hv
  have hx := B.exec
  have hr := B.returns
  have hts := atoms_spec (ws := Cond.code mt.1 mt.2.1 mt.2.2 none :: Wd) B.pre
  have hown : s.vm.findClass mt.1.cls = some m.cls := findClass_of_methodNamed B.named
  have hlocks := B.notSynchronized
  have hnm : meth.name = mt.1.name := (name_of_methodNamed B.named B.method).1
  rw [lg_entry_eq]
  have hok : OkW G mt.1.cls mt.2.1 (p, e, s, m, (As.map (gm al)).toArray, below, meth, c, MQ below (QvW G al K Q) (As.map (gm al)).toArray s mc ms (Ab G), mt.2.2, al, K) := ⟨hx, B.bytes, hml, hown, fun w hw => hts w (List.mem_cons_of_mem _ hw), hE, hA⟩
  refine body (p, e, s, m, (As.map (gm al)).toArray, below, meth, c, MQ below (QvW G al K Q) (As.map (gm al)).toArray s mc ms (Ab G), mt.2.2, al, K) hnm ?_ hok al s.heap [] _ ⟨hR, va_S.rf, LocW.entry hlen, entL_ok As _ hoA, fun v hv => (nomatch hv), fun _ _ => rfl, fun _ h => h⟩
  · clear hok
    intro pc L K1 N1 I1 hd hq ok al1 H locs ls st
    exact W.vret hx ok.2.1 hr (fun t ht hW => ⟨⟨(K1, N1, I1, al1), rfl, ⟨hq, st.2.2.2.2.2.2, st.2.2.2.2.2.1⟩, by show RepW G al1 K1 N1 I1 t.heap; rw [ht]; exact st.1⟩, st.2.1.F ht⟩) st.2.1.2.2 hd hlocks
end
