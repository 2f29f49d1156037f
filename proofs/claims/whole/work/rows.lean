section
-- ===== PART A: goes FIRST, ahead of the names: the tables' words, and 'selects' of the private methods out of them =====
/-- a private method of a class that the tables say can be made, by its rows of tables_1 -/
def lw_okq (q : MethodName × Nat) : Prop := (q.1.cls ≠ "java/lang/invoke/MethodHandle" ∧ q.1.cls ≠ "java/lang/invoke/VarHandle") ∧ Cond.instantiable q.1.cls q.2 ∈ tables_1 ∧ Cond.privateMethod q.1 ∈ tables_1 ∧ Cond.instanceMethod q.1 ∈ tables_1
theorem lw_p0 : lw_okq (⟨"NamesOnIce", "conditionOf", "(LNamesOnIce$Debt;)I"⟩, 9) := ⟨⟨by decide +kernel, by decide +kernel⟩, List.mem_of_getElem? (i := 12) (by decide +kernel), List.mem_of_getElem? (i := 299) (by decide +kernel), List.mem_of_getElem? (i := 300) (by decide +kernel)⟩
theorem lw_p1 : lw_okq (⟨"NamesOnIce$Town", "meltCuts", "(I)I"⟩, 7) := ⟨⟨by decide +kernel, by decide +kernel⟩, List.mem_of_getElem? (i := 20) (by decide +kernel), List.mem_of_getElem? (i := 382) (by decide +kernel), List.mem_of_getElem? (i := 383) (by decide +kernel)⟩
theorem lw_p2 : lw_okq (⟨"NamesOnIce$Loading", "weigh", "(LNamesOnIce$Town;)V"⟩, 6) := ⟨⟨by decide +kernel, by decide +kernel⟩, List.mem_of_getElem? (i := 141) (by decide +kernel), List.mem_of_getElem? (i := 437) (by decide +kernel), List.mem_of_getElem? (i := 438) (by decide +kernel)⟩
theorem lw_p3 : lw_okq (⟨"NamesOnIce$Loading", "pack", "(II)I"⟩, 6) := ⟨⟨by decide +kernel, by decide +kernel⟩, List.mem_of_getElem? (i := 141) (by decide +kernel), List.mem_of_getElem? (i := 445) (by decide +kernel), List.mem_of_getElem? (i := 446) (by decide +kernel)⟩
theorem lw_p4 : lw_okq (⟨"NamesOnIce$Loading", "keepBetter", "(I)V"⟩, 6) := ⟨⟨by decide +kernel, by decide +kernel⟩, List.mem_of_getElem? (i := 141) (by decide +kernel), List.mem_of_getElem? (i := 453) (by decide +kernel), List.mem_of_getElem? (i := 454) (by decide +kernel)⟩
theorem lw_p5 : lw_okq (⟨"NamesOnIce$Settling", "addSet", "(I)V"⟩, 3) := ⟨⟨by decide +kernel, by decide +kernel⟩, List.mem_of_getElem? (i := 168) (by decide +kernel), List.mem_of_getElem? (i := 472) (by decide +kernel), List.mem_of_getElem? (i := 473) (by decide +kernel)⟩
theorem lw_p6 : lw_okq (⟨"NamesOnIce$Skater", "enter", "(III)V"⟩, 5) := ⟨⟨by decide +kernel, by decide +kernel⟩, List.mem_of_getElem? (i := 117) (by decide +kernel), List.mem_of_getElem? (i := 493) (by decide +kernel), List.mem_of_getElem? (i := 494) (by decide +kernel)⟩
theorem lw_p7 : lw_okq (⟨"NamesOnIce$Skater", "leave", "(LNamesOnIce$Town;I)V"⟩, 5) := ⟨⟨by decide +kernel, by decide +kernel⟩, List.mem_of_getElem? (i := 117) (by decide +kernel), List.mem_of_getElem? (i := 497) (by decide +kernel), List.mem_of_getElem? (i := 498) (by decide +kernel)⟩
theorem lw_p8 : lw_okq (⟨"NamesOnIce$Skater", "reach", "(LNamesOnIce$Town;II)V"⟩, 5) := ⟨⟨by decide +kernel, by decide +kernel⟩, List.mem_of_getElem? (i := 117) (by decide +kernel), List.mem_of_getElem? (i := 501) (by decide +kernel), List.mem_of_getElem? (i := 502) (by decide +kernel)⟩
theorem lw_p9 : lw_okq (⟨"NamesOnIce", "thawsOutlasted", "(III)I"⟩, 9) := ⟨⟨by decide +kernel, by decide +kernel⟩, List.mem_of_getElem? (i := 12) (by decide +kernel), List.mem_of_getElem? (i := 512) (by decide +kernel), List.mem_of_getElem? (i := 513) (by decide +kernel)⟩
theorem lw_p10 : lw_okq (⟨"NamesOnIceModel", "squares", "()I"⟩, 31) := ⟨⟨by decide +kernel, by decide +kernel⟩, List.mem_of_getElem? (i := 583) (by decide +kernel), List.mem_of_getElem? (i := 692) (by decide +kernel), List.mem_of_getElem? (i := 693) (by decide +kernel)⟩
theorem lw_p11 : lw_okq (⟨"NamesOnIceModel", "isSquare", "(I)Z"⟩, 31) := ⟨⟨by decide +kernel, by decide +kernel⟩, List.mem_of_getElem? (i := 583) (by decide +kernel), List.mem_of_getElem? (i := 700) (by decide +kernel), List.mem_of_getElem? (i := 701) (by decide +kernel)⟩
theorem lw_p12 : lw_okq (⟨"NamesOnIceModel", "thereIn", "(I)I"⟩, 31) := ⟨⟨by decide +kernel, by decide +kernel⟩, List.mem_of_getElem? (i := 583) (by decide +kernel), List.mem_of_getElem? (i := 705) (by decide +kernel), List.mem_of_getElem? (i := 706) (by decide +kernel)⟩
theorem lw_p13 : lw_okq (⟨"NamesOnIceModel", "isThere", "(I)Z"⟩, 31) := ⟨⟨by decide +kernel, by decide +kernel⟩, List.mem_of_getElem? (i := 583) (by decide +kernel), List.mem_of_getElem? (i := 709) (by decide +kernel), List.mem_of_getElem? (i := 710) (by decide +kernel)⟩
theorem lw_p14 : lw_okq (⟨"NamesOnIceModel", "tellSquare", "(II)I"⟩, 31) := ⟨⟨by decide +kernel, by decide +kernel⟩, List.mem_of_getElem? (i := 583) (by decide +kernel), List.mem_of_getElem? (i := 717) (by decide +kernel), List.mem_of_getElem? (i := 718) (by decide +kernel)⟩
theorem lw_p15 : lw_okq (⟨"NamesOnIceModel", "bearsOne", "(I)Z"⟩, 31) := ⟨⟨by decide +kernel, by decide +kernel⟩, List.mem_of_getElem? (i := 583) (by decide +kernel), List.mem_of_getElem? (i := 721) (by decide +kernel), List.mem_of_getElem? (i := 722) (by decide +kernel)⟩
def lw_privs_1 : List (MethodName × Nat) := [(⟨"NamesOnIce", "conditionOf", "(LNamesOnIce$Debt;)I"⟩, 9), (⟨"NamesOnIce$Town", "meltCuts", "(I)I"⟩, 7), (⟨"NamesOnIce$Loading", "weigh", "(LNamesOnIce$Town;)V"⟩, 6), (⟨"NamesOnIce$Loading", "pack", "(II)I"⟩, 6), (⟨"NamesOnIce$Loading", "keepBetter", "(I)V"⟩, 6), (⟨"NamesOnIce$Settling", "addSet", "(I)V"⟩, 3), (⟨"NamesOnIce$Skater", "enter", "(III)V"⟩, 5), (⟨"NamesOnIce$Skater", "leave", "(LNamesOnIce$Town;I)V"⟩, 5), (⟨"NamesOnIce$Skater", "reach", "(LNamesOnIce$Town;II)V"⟩, 5), (⟨"NamesOnIce", "thawsOutlasted", "(III)I"⟩, 9), (⟨"NamesOnIceModel", "squares", "()I"⟩, 31), (⟨"NamesOnIceModel", "isSquare", "(I)Z"⟩, 31), (⟨"NamesOnIceModel", "thereIn", "(I)I"⟩, 31), (⟨"NamesOnIceModel", "isThere", "(I)Z"⟩, 31), (⟨"NamesOnIceModel", "tellSquare", "(II)I"⟩, 31), (⟨"NamesOnIceModel", "bearsOne", "(I)Z"⟩, 31)]
theorem lw_r1 : ∀ q ∈ lw_privs_1, lw_okq q := List.forall_mem_cons.mpr ⟨lw_p0, List.forall_mem_cons.mpr ⟨lw_p1, List.forall_mem_cons.mpr ⟨lw_p2, List.forall_mem_cons.mpr ⟨lw_p3, List.forall_mem_cons.mpr ⟨lw_p4, List.forall_mem_cons.mpr ⟨lw_p5, List.forall_mem_cons.mpr ⟨lw_p6, List.forall_mem_cons.mpr ⟨lw_p7, List.forall_mem_cons.mpr ⟨lw_p8, List.forall_mem_cons.mpr ⟨lw_p9, List.forall_mem_cons.mpr ⟨lw_p10, List.forall_mem_cons.mpr ⟨lw_p11, List.forall_mem_cons.mpr ⟨lw_p12, List.forall_mem_cons.mpr ⟨lw_p13, List.forall_mem_cons.mpr ⟨lw_p14, List.forall_mem_cons.mpr ⟨lw_p15, fun _ h => absurd h List.not_mem_nil⟩⟩⟩⟩⟩⟩⟩⟩⟩⟩⟩⟩⟩⟩⟩⟩
theorem lw_p16 : lw_okq (⟨"NamesOnIceModel", "lose", "(I)V"⟩, 31) := ⟨⟨by decide +kernel, by decide +kernel⟩, List.mem_of_getElem? (i := 583) (by decide +kernel), List.mem_of_getElem? (i := 729) (by decide +kernel), List.mem_of_getElem? (i := 730) (by decide +kernel)⟩
theorem lw_p17 : lw_okq (⟨"NamesOnIceModel", "isDebt", "(I)Z"⟩, 31) := ⟨⟨by decide +kernel, by decide +kernel⟩, List.mem_of_getElem? (i := 583) (by decide +kernel), List.mem_of_getElem? (i := 746) (by decide +kernel), List.mem_of_getElem? (i := 747) (by decide +kernel)⟩
theorem lw_p18 : lw_okq (⟨"NamesOnIceModel", "tellDebt", "(II)I"⟩, 31) := ⟨⟨by decide +kernel, by decide +kernel⟩, List.mem_of_getElem? (i := 583) (by decide +kernel), List.mem_of_getElem? (i := 750) (by decide +kernel), List.mem_of_getElem? (i := 751) (by decide +kernel)⟩
theorem lw_p19 : lw_okq (⟨"NamesOnIceModel", "worthOf", "(I)I"⟩, 31) := ⟨⟨by decide +kernel, by decide +kernel⟩, List.mem_of_getElem? (i := 583) (by decide +kernel), List.mem_of_getElem? (i := 754) (by decide +kernel), List.mem_of_getElem? (i := 755) (by decide +kernel)⟩
theorem lw_p20 : lw_okq (⟨"NamesOnIceModel", "lookOf", "(I)I"⟩, 31) := ⟨⟨by decide +kernel, by decide +kernel⟩, List.mem_of_getElem? (i := 583) (by decide +kernel), List.mem_of_getElem? (i := 758) (by decide +kernel), List.mem_of_getElem? (i := 759) (by decide +kernel)⟩
theorem lw_p21 : lw_okq (⟨"NamesOnIceModel", "faultOf", "()I"⟩, 31) := ⟨⟨by decide +kernel, by decide +kernel⟩, List.mem_of_getElem? (i := 583) (by decide +kernel), List.mem_of_getElem? (i := 783) (by decide +kernel), List.mem_of_getElem? (i := 784) (by decide +kernel)⟩
theorem lw_p22 : lw_okq (⟨"NamesOnIceModel", "go", "(I)Z"⟩, 31) := ⟨⟨by decide +kernel, by decide +kernel⟩, List.mem_of_getElem? (i := 583) (by decide +kernel), List.mem_of_getElem? (i := 787) (by decide +kernel), List.mem_of_getElem? (i := 788) (by decide +kernel)⟩
theorem lw_p23 : lw_okq (⟨"NamesOnIceModel", "areDays", "()Z"⟩, 31) := ⟨⟨by decide +kernel, by decide +kernel⟩, List.mem_of_getElem? (i := 583) (by decide +kernel), List.mem_of_getElem? (i := 800) (by decide +kernel), List.mem_of_getElem? (i := 801) (by decide +kernel)⟩
theorem lw_p24 : lw_okq (⟨"NamesOnIceModel", "thereMany", "()I"⟩, 31) := ⟨⟨by decide +kernel, by decide +kernel⟩, List.mem_of_getElem? (i := 583) (by decide +kernel), List.mem_of_getElem? (i := 804) (by decide +kernel), List.mem_of_getElem? (i := 805) (by decide +kernel)⟩
theorem lw_p25 : lw_okq (⟨"NamesOnIceModel", "day", "(II)V"⟩, 31) := ⟨⟨by decide +kernel, by decide +kernel⟩, List.mem_of_getElem? (i := 583) (by decide +kernel), List.mem_of_getElem? (i := 808) (by decide +kernel), List.mem_of_getElem? (i := 809) (by decide +kernel)⟩
theorem lw_p26 : lw_okq (⟨"NamesOnIceModel", "thaw", "(I)V"⟩, 31) := ⟨⟨by decide +kernel, by decide +kernel⟩, List.mem_of_getElem? (i := 583) (by decide +kernel), List.mem_of_getElem? (i := 812) (by decide +kernel), List.mem_of_getElem? (i := 813) (by decide +kernel)⟩
theorem lw_p27 : lw_okq (⟨"NamesOnIceModel", "stays", "(III)Z"⟩, 31) := ⟨⟨by decide +kernel, by decide +kernel⟩, List.mem_of_getElem? (i := 583) (by decide +kernel), List.mem_of_getElem? (i := 826) (by decide +kernel), List.mem_of_getElem? (i := 827) (by decide +kernel)⟩
theorem lw_p28 : lw_okq (⟨"NamesOnIceModel", "owesOf", "(IIZ)I"⟩, 31) := ⟨⟨by decide +kernel, by decide +kernel⟩, List.mem_of_getElem? (i := 583) (by decide +kernel), List.mem_of_getElem? (i := 838) (by decide +kernel), List.mem_of_getElem? (i := 839) (by decide +kernel)⟩
theorem lw_p29 : lw_okq (⟨"NamesOnIceModel", "restOf", "(I)I"⟩, 31) := ⟨⟨by decide +kernel, by decide +kernel⟩, List.mem_of_getElem? (i := 583) (by decide +kernel), List.mem_of_getElem? (i := 846) (by decide +kernel), List.mem_of_getElem? (i := 847) (by decide +kernel)⟩
theorem lw_p30 : lw_okq (⟨"NamesOnIceModel", "layFits", "(I)V"⟩, 31) := ⟨⟨by decide +kernel, by decide +kernel⟩, List.mem_of_getElem? (i := 583) (by decide +kernel), List.mem_of_getElem? (i := 857) (by decide +kernel), List.mem_of_getElem? (i := 858) (by decide +kernel)⟩
theorem lw_p31 : lw_okq (⟨"NamesOnIceModel", "weightOf", "(I)I"⟩, 31) := ⟨⟨by decide +kernel, by decide +kernel⟩, List.mem_of_getElem? (i := 583) (by decide +kernel), List.mem_of_getElem? (i := 861) (by decide +kernel), List.mem_of_getElem? (i := 862) (by decide +kernel)⟩
def lw_privs_2 : List (MethodName × Nat) := [(⟨"NamesOnIceModel", "lose", "(I)V"⟩, 31), (⟨"NamesOnIceModel", "isDebt", "(I)Z"⟩, 31), (⟨"NamesOnIceModel", "tellDebt", "(II)I"⟩, 31), (⟨"NamesOnIceModel", "worthOf", "(I)I"⟩, 31), (⟨"NamesOnIceModel", "lookOf", "(I)I"⟩, 31), (⟨"NamesOnIceModel", "faultOf", "()I"⟩, 31), (⟨"NamesOnIceModel", "go", "(I)Z"⟩, 31), (⟨"NamesOnIceModel", "areDays", "()Z"⟩, 31), (⟨"NamesOnIceModel", "thereMany", "()I"⟩, 31), (⟨"NamesOnIceModel", "day", "(II)V"⟩, 31), (⟨"NamesOnIceModel", "thaw", "(I)V"⟩, 31), (⟨"NamesOnIceModel", "stays", "(III)Z"⟩, 31), (⟨"NamesOnIceModel", "owesOf", "(IIZ)I"⟩, 31), (⟨"NamesOnIceModel", "restOf", "(I)I"⟩, 31), (⟨"NamesOnIceModel", "layFits", "(I)V"⟩, 31), (⟨"NamesOnIceModel", "weightOf", "(I)I"⟩, 31)]
theorem lw_r2 : ∀ q ∈ lw_privs_2, lw_okq q := List.forall_mem_cons.mpr ⟨lw_p16, List.forall_mem_cons.mpr ⟨lw_p17, List.forall_mem_cons.mpr ⟨lw_p18, List.forall_mem_cons.mpr ⟨lw_p19, List.forall_mem_cons.mpr ⟨lw_p20, List.forall_mem_cons.mpr ⟨lw_p21, List.forall_mem_cons.mpr ⟨lw_p22, List.forall_mem_cons.mpr ⟨lw_p23, List.forall_mem_cons.mpr ⟨lw_p24, List.forall_mem_cons.mpr ⟨lw_p25, List.forall_mem_cons.mpr ⟨lw_p26, List.forall_mem_cons.mpr ⟨lw_p27, List.forall_mem_cons.mpr ⟨lw_p28, List.forall_mem_cons.mpr ⟨lw_p29, List.forall_mem_cons.mpr ⟨lw_p30, List.forall_mem_cons.mpr ⟨lw_p31, fun _ h => absurd h List.not_mem_nil⟩⟩⟩⟩⟩⟩⟩⟩⟩⟩⟩⟩⟩⟩⟩⟩
theorem lw_p32 : lw_okq (⟨"NamesOnIceModel", "groupsOf", "()I"⟩, 31) := ⟨⟨by decide +kernel, by decide +kernel⟩, List.mem_of_getElem? (i := 583) (by decide +kernel), List.mem_of_getElem? (i := 872) (by decide +kernel), List.mem_of_getElem? (i := 873) (by decide +kernel)⟩
theorem lw_p33 : lw_okq (⟨"NamesOnIceModel", "tellSkate", "(III)I"⟩, 31) := ⟨⟨by decide +kernel, by decide +kernel⟩, List.mem_of_getElem? (i := 583) (by decide +kernel), List.mem_of_getElem? (i := 880) (by decide +kernel), List.mem_of_getElem? (i := 881) (by decide +kernel)⟩
theorem lw_p34 : lw_okq (⟨"NamesOnIceModel", "readIn", "(I)I"⟩, 31) := ⟨⟨by decide +kernel, by decide +kernel⟩, List.mem_of_getElem? (i := 583) (by decide +kernel), List.mem_of_getElem? (i := 884) (by decide +kernel), List.mem_of_getElem? (i := 885) (by decide +kernel)⟩
theorem lw_p35 : lw_okq (⟨"NamesOnIceModel", "areBeside", "(II)Z"⟩, 31) := ⟨⟨by decide +kernel, by decide +kernel⟩, List.mem_of_getElem? (i := 583) (by decide +kernel), List.mem_of_getElem? (i := 888) (by decide +kernel), List.mem_of_getElem? (i := 889) (by decide +kernel)⟩
theorem lw_p36 : lw_okq (⟨"NamesOnIceModel", "staysBy", "(III)Z"⟩, 31) := ⟨⟨by decide +kernel, by decide +kernel⟩, List.mem_of_getElem? (i := 583) (by decide +kernel), List.mem_of_getElem? (i := 898) (by decide +kernel), List.mem_of_getElem? (i := 899) (by decide +kernel)⟩
theorem lw_p37 : lw_okq (⟨"NamesOnIceModel", "draw", "(I)I"⟩, 31) := ⟨⟨by decide +kernel, by decide +kernel⟩, List.mem_of_getElem? (i := 583) (by decide +kernel), List.mem_of_getElem? (i := 914) (by decide +kernel), List.mem_of_getElem? (i := 915) (by decide +kernel)⟩
theorem lw_p38 : lw_okq (⟨"NamesOnIceModel", "countOf", "(I)I"⟩, 31) := ⟨⟨by decide +kernel, by decide +kernel⟩, List.mem_of_getElem? (i := 583) (by decide +kernel), List.mem_of_getElem? (i := 934) (by decide +kernel), List.mem_of_getElem? (i := 935) (by decide +kernel)⟩
theorem lw_p39 : lw_okq (⟨"NamesOnIceModel", "say", "(J)V"⟩, 31) := ⟨⟨by decide +kernel, by decide +kernel⟩, List.mem_of_getElem? (i := 583) (by decide +kernel), List.mem_of_getElem? (i := 943) (by decide +kernel), List.mem_of_getElem? (i := 944) (by decide +kernel)⟩
def lw_privs_3 : List (MethodName × Nat) := [(⟨"NamesOnIceModel", "groupsOf", "()I"⟩, 31), (⟨"NamesOnIceModel", "tellSkate", "(III)I"⟩, 31), (⟨"NamesOnIceModel", "readIn", "(I)I"⟩, 31), (⟨"NamesOnIceModel", "areBeside", "(II)Z"⟩, 31), (⟨"NamesOnIceModel", "staysBy", "(III)Z"⟩, 31), (⟨"NamesOnIceModel", "draw", "(I)I"⟩, 31), (⟨"NamesOnIceModel", "countOf", "(I)I"⟩, 31), (⟨"NamesOnIceModel", "say", "(J)V"⟩, 31)]
theorem lw_r3 : ∀ q ∈ lw_privs_3, lw_okq q := List.forall_mem_cons.mpr ⟨lw_p32, List.forall_mem_cons.mpr ⟨lw_p33, List.forall_mem_cons.mpr ⟨lw_p34, List.forall_mem_cons.mpr ⟨lw_p35, List.forall_mem_cons.mpr ⟨lw_p36, List.forall_mem_cons.mpr ⟨lw_p37, List.forall_mem_cons.mpr ⟨lw_p38, List.forall_mem_cons.mpr ⟨lw_p39, fun _ h => absurd h List.not_mem_nil⟩⟩⟩⟩⟩⟩⟩⟩
def lw_privs : List (MethodName × Nat) := lw_privs_1 ++ (lw_privs_2 ++ (lw_privs_3))
def lw_tbl : List Cond := k2_sels lw_privs ++ tables_1
theorem lw_privs_ok : ∀ q ∈ lw_privs, lw_okq q := by
  show ∀ q ∈ lw_privs_1 ++ (lw_privs_2 ++ (lw_privs_3)), lw_okq q
  exact List.forall_mem_append.mpr ⟨lw_r1, List.forall_mem_append.mpr ⟨lw_r2, lw_r3⟩⟩
end
section
def RX0 : String := "NamesOnIce$Debt"
def TX0 : u_T := fun k => match k with
  | 0 => ("NamesOnIce$Debt", "kind", "I", false)
  | 1 => ("NamesOnIce$Debt", "place", "I", false)
  | 2 => ("NamesOnIce$Debt", "debtor", "I", false)
  | 3 => ("NamesOnIce$Debt", "creditor", "I", false)
  | 4 => ("NamesOnIce$Debt", "sum", "I", false)
  | 5 => ("NamesOnIce$Debt", "cut", "I", false)
  | 6 => ("NamesOnIce$Debt", "saved", "Z", false)
  | _ => ("NamesOnIce$Debt", "savedIce", "I", false)
def tyX0 : Nat → FieldType := fun k => match k with
  | 0 => .int
  | 1 => .int
  | 2 => .int
  | 3 => .int
  | 4 => .int
  | 5 => .int
  | 6 => .boolean
  | _ => .int
abbrev wsX00 : List Cond := u_ws RX0 TX0 8
theorem nmX0 : ∀ a, a < 8 → ∀ b, b < 8 → a ≠ b → (TX0 a).2.1 ≠ (TX0 b).2.1 := by decide +kernel
theorem tyX0_ok : ∀ k, k < 8 → parseFieldDescriptor (TX0 k).2.2.1 = some (tyX0 k) := by decide +kernel
abbrev cX0_init : ByteArray := prog_2_method_1_code
def yX0_init : MethodName := ⟨RX0, "<init>", "()V"⟩
abbrev cX0_depthOf : ByteArray := prog_2_method_2_code
def yX0_depthOf : MethodName := ⟨RX0, "depthOf", "(II)I"⟩
abbrev cX0_isOfKind : ByteArray := prog_2_method_3_code
def yX0_isOfKind : MethodName := ⟨RX0, "isOfKind", "(II)Z"⟩
abbrev cX0_cutBehindThaw : ByteArray := prog_2_method_4_code
def yX0_cutBehindThaw : MethodName := ⟨RX0, "cutBehindThaw", "(IIII)I"⟩
abbrev cX0_concern : ByteArray := prog_2_method_5_code
def yX0_concern : MethodName := ⟨RX0, "concern", "(IIII)V"⟩
abbrev cX0_cutIn : ByteArray := prog_2_method_6_code
def yX0_cutIn : MethodName := ⟨RX0, "cutIn", "(II)V"⟩
abbrev cX0_keepBlock : ByteArray := prog_2_method_7_code
def yX0_keepBlock : MethodName := ⟨RX0, "keepBlock", "(I)V"⟩
abbrev cX0_copyFrom : ByteArray := prog_2_method_8_code
def yX0_copyFrom : MethodName := ⟨RX0, "copyFrom", "(LNamesOnIce$Debt;)V"⟩
abbrev cX0_isThere : ByteArray := prog_2_method_9_code
def yX0_isThere : MethodName := ⟨RX0, "isThere", "()Z"⟩
abbrev cX0_worthOn : ByteArray := prog_2_method_10_code
def yX0_worthOn : MethodName := ⟨RX0, "worthOn", "(I)I"⟩
def RX1 : String := "NamesOnIce$Loading"
def TX1 : u_T := fun k => match k with
  | 0 => ("NamesOnIce$Loading", "bestWorth", "I", false)
  | 1 => ("NamesOnIce$Loading", "bestBits", "I", false)
  | 2 => ("NamesOnIce$Loading", "debts", "I", false)
  | 3 => ("NamesOnIce$Loading", "weight", "[I", true)
  | 4 => ("NamesOnIce$Loading", "worth", "[I", true)
  | _ => ("NamesOnIce$Loading", "packed", "[I", true)
def tyX1 : Nat → FieldType := fun k => match k with
  | 0 => .int
  | 1 => .int
  | 2 => .int
  | 3 => .array .int
  | 4 => .array .int
  | _ => .array .int
abbrev wsX10 : List Cond := u_ws RX1 TX1 6
theorem nmX1 : ∀ a, a < 6 → ∀ b, b < 6 → a ≠ b → (TX1 a).2.1 ≠ (TX1 b).2.1 := by decide +kernel
theorem tyX1_ok : ∀ k, k < 6 → parseFieldDescriptor (TX1 k).2.2.1 = some (tyX1 k) := by decide +kernel
abbrev cX1_init : ByteArray := prog_3_method_1_code
def yX1_init : MethodName := ⟨RX1, "<init>", "()V"⟩
abbrev cX1_choose : ByteArray := prog_3_method_2_code
def yX1_choose : MethodName := ⟨RX1, "choose", "(LNamesOnIce$Town;II)V"⟩
abbrev cX1_weigh : ByteArray := prog_3_method_3_code
def yX1_weigh : MethodName := ⟨RX1, "weigh", "(LNamesOnIce$Town;)V"⟩
abbrev cX1_pack : ByteArray := prog_3_method_4_code
def yX1_pack : MethodName := ⟨RX1, "pack", "(II)I"⟩
abbrev cX1_layOn : ByteArray := prog_3_method_5_code
def yX1_layOn : MethodName := ⟨RX1, "layOn", "(III)I"⟩
abbrev cX1_keepBetter : ByteArray := prog_3_method_6_code
def yX1_keepBetter : MethodName := ⟨RX1, "keepBetter", "(I)V"⟩
def RX2 : String := "NamesOnIce$Page"
def TX2 : u_T := fun k => match k with
  | 0 => ("NamesOnIce$Page", "codes", "[I", true)
  | _ => ("NamesOnIce$Page", "size", "I", false)
def tyX2 : Nat → FieldType := fun k => match k with
  | 0 => .array .int
  | _ => .int
abbrev wsX20 : List Cond := u_ws RX2 TX2 2
theorem nmX2 : ∀ a, a < 2 → ∀ b, b < 2 → a ≠ b → (TX2 a).2.1 ≠ (TX2 b).2.1 := by decide +kernel
theorem tyX2_ok : ∀ k, k < 2 → parseFieldDescriptor (TX2 k).2.2.1 = some (tyX2 k) := by decide +kernel
abbrev cX2_init : ByteArray := prog_4_method_1_code
def yX2_init : MethodName := ⟨RX2, "<init>", "()V"⟩
abbrev cX2_codeAt : ByteArray := prog_4_method_2_code
def yX2_codeAt : MethodName := ⟨RX2, "codeAt", "(JI)I"⟩
abbrev cX2_lettersIn : ByteArray := prog_4_method_3_code
def yX2_lettersIn : MethodName := ⟨RX2, "lettersIn", "(J)I"⟩
abbrev cX2_append : ByteArray := prog_4_method_4_code
def yX2_append : MethodName := ⟨RX2, "append", "(JI)V"⟩
abbrev cX2_hasInches : ByteArray := prog_4_method_5_code
def yX2_hasInches : MethodName := ⟨RX2, "hasInches", "(I)Z"⟩
abbrev cX2_isWholeDay : ByteArray := prog_4_method_6_code
def yX2_isWholeDay : MethodName := ⟨RX2, "isWholeDay", "(I)Z"⟩
abbrev cX2_firstWrong : ByteArray := prog_4_method_7_code
def yX2_firstWrong : MethodName := ⟨RX2, "firstWrong", "()I"⟩
abbrev cX2_isDays : ByteArray := prog_4_method_8_code
def yX2_isDays : MethodName := ⟨RX2, "isDays", "()Z"⟩
abbrev cX2_lengthAt : ByteArray := prog_4_method_9_code
def yX2_lengthAt : MethodName := ⟨RX2, "lengthAt", "(I)I"⟩
abbrev cX2_dayAt : ByteArray := prog_4_method_10_code
def yX2_dayAt : MethodName := ⟨RX2, "dayAt", "(I)I"⟩
abbrev cX2_inchesAt : ByteArray := prog_4_method_11_code
def yX2_inchesAt : MethodName := ⟨RX2, "inchesAt", "(I)I"⟩
abbrev cX2_outlasts : ByteArray := prog_4_method_12_code
def yX2_outlasts : MethodName := ⟨RX2, "outlasts", "(III)Z"⟩
abbrev cX2_daysUntilBearing : ByteArray := prog_4_method_13_code
def yX2_daysUntilBearing : MethodName := ⟨RX2, "daysUntilBearing", "(I)I"⟩
def RX3 : String := "NamesOnIce$Settling"
def TX3 : u_T := fun k => match k with
  | 0 => ("NamesOnIce$Settling", "rests", "[I", true)
  | 1 => ("NamesOnIce$Settling", "together", "[I", true)
  | _ => ("NamesOnIce$Settling", "groups", "[I", true)
def tyX3 : Nat → FieldType := fun k => match k with
  | 0 => .array .int
  | 1 => .array .int
  | _ => .array .int
abbrev wsX30 : List Cond := u_ws RX3 TX3 3
theorem nmX3 : ∀ a, a < 3 → ∀ b, b < 3 → a ≠ b → (TX3 a).2.1 ≠ (TX3 b).2.1 := by decide +kernel
theorem tyX3_ok : ∀ k, k < 3 → parseFieldDescriptor (TX3 k).2.2.1 = some (tyX3 k) := by decide +kernel
abbrev cX3_init : ByteArray := prog_5_method_1_code
def yX3_init : MethodName := ⟨RX3, "<init>", "()V"⟩
abbrev cX3_mostGroups : ByteArray := prog_5_method_2_code
def yX3_mostGroups : MethodName := ⟨RX3, "mostGroups", "(LNamesOnIce$Town;)I"⟩
abbrev cX3_addSet : ByteArray := prog_5_method_3_code
def yX3_addSet : MethodName := ⟨RX3, "addSet", "(I)V"⟩
def RX4 : String := "NamesOnIce$Skater"
def TX4 : u_T := fun k => match k with
  | 0 => ("NamesOnIce$Skater", "steps", "[I", true)
  | 1 => ("NamesOnIce$Skater", "gain", "[I", true)
  | 2 => ("NamesOnIce$Skater", "readable", "[I", true)
  | 3 => ("NamesOnIce$Skater", "queue", "[I", true)
  | _ => ("NamesOnIce$Skater", "queued", "I", false)
def tyX4 : Nat → FieldType := fun k => match k with
  | 0 => .array .int
  | 1 => .array .int
  | 2 => .array .int
  | 3 => .array .int
  | _ => .int
abbrev wsX40 : List Cond := u_ws RX4 TX4 5
theorem nmX4 : ∀ a, a < 5 → ∀ b, b < 5 → a ≠ b → (TX4 a).2.1 ≠ (TX4 b).2.1 := by decide +kernel
theorem tyX4_ok : ∀ k, k < 5 → parseFieldDescriptor (TX4 k).2.2.1 = some (tyX4 k) := by decide +kernel
abbrev cX4_init : ByteArray := prog_6_method_1_code
def yX4_init : MethodName := ⟨RX4, "<init>", "()V"⟩
abbrev cX4_roam : ByteArray := prog_6_method_2_code
def yX4_roam : MethodName := ⟨RX4, "roam", "(LNamesOnIce$Town;I)V"⟩
abbrev cX4_leave : ByteArray := prog_6_method_3_code
def yX4_leave : MethodName := ⟨RX4, "leave", "(LNamesOnIce$Town;I)V"⟩
abbrev cX4_reach : ByteArray := prog_6_method_4_code
def yX4_reach : MethodName := ⟨RX4, "reach", "(LNamesOnIce$Town;II)V"⟩
abbrev cX4_enter : ByteArray := prog_6_method_5_code
def yX4_enter : MethodName := ⟨RX4, "enter", "(III)V"⟩
def RX5 : String := "NamesOnIce$Town"
def TX5 : u_T := fun k => match k with
  | 0 => ("NamesOnIce$Town", "wide", "I", false)
  | 1 => ("NamesOnIce$Town", "squares", "I", false)
  | 2 => ("NamesOnIce$Town", "snow", "I", false)
  | 3 => ("NamesOnIce$Town", "daysGone", "I", false)
  | 4 => ("NamesOnIce$Town", "debts", "I", false)
  | 5 => ("NamesOnIce$Town", "ice", "[I", true)
  | _ => ("NamesOnIce$Town", "debt", "[LNamesOnIce$Debt;", true)
def tyX5 : Nat → FieldType := fun k => match k with
  | 0 => .int
  | 1 => .int
  | 2 => .int
  | 3 => .int
  | 4 => .int
  | 5 => .array .int
  | _ => .array (.object "NamesOnIce$Debt")
abbrev wsX50 : List Cond := u_ws RX5 TX5 7
theorem nmX5 : ∀ a, a < 7 → ∀ b, b < 7 → a ≠ b → (TX5 a).2.1 ≠ (TX5 b).2.1 := by decide +kernel
theorem tyX5_ok : ∀ k, k < 7 → parseFieldDescriptor (TX5 k).2.2.1 = some (tyX5 k) := by decide +kernel
abbrev cX5_init : ByteArray := prog_7_method_1_code
def yX5_init : MethodName := ⟨RX5, "<init>", "()V"⟩
abbrev cX5_begin : ByteArray := prog_7_method_2_code
def yX5_begin : MethodName := ⟨RX5, "begin", "(II)V"⟩
abbrev cX5_copyFrom : ByteArray := prog_7_method_3_code
def yX5_copyFrom : MethodName := ⟨RX5, "copyFrom", "(LNamesOnIce$Town;)V"⟩
abbrev cX5_hasSquare : ByteArray := prog_7_method_4_code
def yX5_hasSquare : MethodName := ⟨RX5, "hasSquare", "(I)Z"⟩
abbrev cX5_hasDebt : ByteArray := prog_7_method_5_code
def yX5_hasDebt : MethodName := ⟨RX5, "hasDebt", "(I)Z"⟩
abbrev cX5_bearsSkater : ByteArray := prog_7_method_6_code
def yX5_bearsSkater : MethodName := ⟨RX5, "bearsSkater", "(I)Z"⟩
abbrev cX5_iceUnder : ByteArray := prog_7_method_7_code
def yX5_iceUnder : MethodName := ⟨RX5, "iceUnder", "(I)I"⟩
abbrev cX5_worthOf : ByteArray := prog_7_method_8_code
def yX5_worthOf : MethodName := ⟨RX5, "worthOf", "(I)I"⟩
abbrev cX5_debtsThereIn : ByteArray := prog_7_method_9_code
def yX5_debtsThereIn : MethodName := ⟨RX5, "debtsThereIn", "(I)I"⟩
abbrev cX5_debtsStanding : ByteArray := prog_7_method_10_code
def yX5_debtsStanding : MethodName := ⟨RX5, "debtsStanding", "()I"⟩
abbrev cX5_iceTogether : ByteArray := prog_7_method_11_code
def yX5_iceTogether : MethodName := ⟨RX5, "iceTogether", "()I"⟩
abbrev cX5_restOf : ByteArray := prog_7_method_12_code
def yX5_restOf : MethodName := ⟨RX5, "restOf", "(I)I"⟩
abbrev cX5_readableIn : ByteArray := prog_7_method_13_code
def yX5_readableIn : MethodName := ⟨RX5, "readableIn", "(I)I"⟩
abbrev cX5_makeHole : ByteArray := prog_7_method_14_code
def yX5_makeHole : MethodName := ⟨RX5, "makeHole", "(I)I"⟩
abbrev cX5_passDay : ByteArray := prog_7_method_15_code
def yX5_passDay : MethodName := ⟨RX5, "passDay", "(II)I"⟩
abbrev cX5_meltCuts : ByteArray := prog_7_method_16_code
def yX5_meltCuts : MethodName := ⟨RX5, "meltCuts", "(I)I"⟩
def RX6 : String := "NamesOnIce"
def TX6 : u_T := fun k => match k with
  | 0 => ("NamesOnIce", "town", "LNamesOnIce$Town;", true)
  | 1 => ("NamesOnIce", "kept", "LNamesOnIce$Town;", true)
  | 2 => ("NamesOnIce", "trial", "LNamesOnIce$Town;", true)
  | 3 => ("NamesOnIce", "page", "LNamesOnIce$Page;", true)
  | 4 => ("NamesOnIce", "skater", "LNamesOnIce$Skater;", true)
  | 5 => ("NamesOnIce", "loading", "LNamesOnIce$Loading;", true)
  | 6 => ("NamesOnIce", "settling", "LNamesOnIce$Settling;", true)
  | 7 => ("NamesOnIce", "imageStands", "Z", false)
  | _ => ("NamesOnIce", "loadings", "I", false)
def tyX6 : Nat → FieldType := fun k => match k with
  | 0 => .object "NamesOnIce$Town"
  | 1 => .object "NamesOnIce$Town"
  | 2 => .object "NamesOnIce$Town"
  | 3 => .object "NamesOnIce$Page"
  | 4 => .object "NamesOnIce$Skater"
  | 5 => .object "NamesOnIce$Loading"
  | 6 => .object "NamesOnIce$Settling"
  | 7 => .boolean
  | _ => .int
abbrev wsX60 : List Cond := u_ws RX6 TX6 9
theorem nmX6 : ∀ a, a < 9 → ∀ b, b < 9 → a ≠ b → (TX6 a).2.1 ≠ (TX6 b).2.1 := by decide +kernel
theorem tyX6_ok : ∀ k, k < 9 → parseFieldDescriptor (TX6 k).2.2.1 = some (tyX6 k) := by decide +kernel
abbrev cX6_init : ByteArray := prog_1_method_1_code
def yX6_init : MethodName := ⟨RX6, "<init>", "()V"⟩
abbrev cX6_lake : ByteArray := prog_1_method_2_code
def yX6_lake : MethodName := ⟨RX6, "lake", "(II)I"⟩
abbrev cX6_ice : ByteArray := prog_1_method_3_code
def yX6_ice : MethodName := ⟨RX6, "ice", "(II)I"⟩
abbrev cX6_square : ByteArray := prog_1_method_4_code
def yX6_square : MethodName := ⟨RX6, "square", "(II)I"⟩
abbrev cX6_fish : ByteArray := prog_1_method_5_code
def yX6_fish : MethodName := ⟨RX6, "fish", "(I)I"⟩
abbrev cX6_write : ByteArray := prog_1_method_6_code
def yX6_write : MethodName := ⟨RX6, "write", "(IIIIII)I"⟩
abbrev cX6_about : ByteArray := prog_1_method_7_code
def yX6_about : MethodName := ⟨RX6, "about", "(II)I"⟩
abbrev cX6_conditionOf : ByteArray := prog_1_method_8_code
def yX6_conditionOf : MethodName := ⟨RX6, "conditionOf", "(LNamesOnIce$Debt;)I"⟩
abbrev cX6_as : ByteArray := prog_1_method_9_code
def yX6_as : MethodName := ⟨RX6, "as", "(II)I"⟩
abbrev cX6_saw : ByteArray := prog_1_method_10_code
def yX6_saw : MethodName := ⟨RX6, "saw", "(I)I"⟩
abbrev cX6_letters : ByteArray := prog_1_method_11_code
def yX6_letters : MethodName := ⟨RX6, "letters", "(J)I"⟩
abbrev cX6_blank : ByteArray := prog_1_method_12_code
def yX6_blank : MethodName := ⟨RX6, "blank", "()I"⟩
abbrev cX6_fault : ByteArray := prog_1_method_13_code
def yX6_fault : MethodName := ⟨RX6, "fault", "()I"⟩
abbrev cX6_days : ByteArray := prog_1_method_14_code
def yX6_days : MethodName := ⟨RX6, "days", "()I"⟩
abbrev cX6_needed : ByteArray := prog_1_method_15_code
def yX6_needed : MethodName := ⟨RX6, "needed", "(II)I"⟩
abbrev cX6_bears : ByteArray := prog_1_method_16_code
def yX6_bears : MethodName := ⟨RX6, "bears", "(I)I"⟩
abbrev cX6_owes : ByteArray := prog_1_method_17_code
def yX6_owes : MethodName := ⟨RX6, "owes", "(IIZ)I"⟩
abbrev cX6_rest : ByteArray := prog_1_method_18_code
def yX6_rest : MethodName := ⟨RX6, "rest", "(I)I"⟩
abbrev cX6_sledges : ByteArray := prog_1_method_19_code
def yX6_sledges : MethodName := ⟨RX6, "sledges", "(III)I"⟩
abbrev cX6_settled : ByteArray := prog_1_method_20_code
def yX6_settled : MethodName := ⟨RX6, "settled", "(I)I"⟩
abbrev cX6_skate : ByteArray := prog_1_method_21_code
def yX6_skate : MethodName := ⟨RX6, "skate", "(III)I"⟩
abbrev cX6_odds : ByteArray := prog_1_method_22_code
def yX6_odds : MethodName := ⟨RX6, "odds", "(IIIII)J"⟩
abbrev cX6_thawsOutlasted : ByteArray := prog_1_method_23_code
def yX6_thawsOutlasted : MethodName := ⟨RX6, "thawsOutlasted", "(III)I"⟩
abbrev cX6_winter : ByteArray := prog_1_method_24_code
def yX6_winter : MethodName := ⟨RX6, "winter", "(III)I"⟩
abbrev cX6_nextSeed : ByteArray := prog_1_method_25_code
def yX6_nextSeed : MethodName := ⟨RX6, "nextSeed", "(I)I"⟩
abbrev cX6_drawFrom : ByteArray := prog_1_method_26_code
def yX6_drawFrom : MethodName := ⟨RX6, "drawFrom", "(II)I"⟩
abbrev cX6_image : ByteArray := prog_1_method_27_code
def yX6_image : MethodName := ⟨RX6, "image", "()I"⟩
abbrev cX6_restore : ByteArray := prog_1_method_28_code
def yX6_restore : MethodName := ⟨RX6, "restore", "()I"⟩
abbrev cX6_count : ByteArray := prog_1_method_29_code
def yX6_count : MethodName := ⟨RX6, "count", "(I)I"⟩
abbrev cX6_digest : ByteArray := prog_1_method_30_code
def yX6_digest : MethodName := ⟨RX6, "digest", "()J"⟩
abbrev cX6_within : ByteArray := prog_1_method_31_code
def yX6_within : MethodName := ⟨RX6, "within", "(III)Z"⟩
abbrev cX6_isKind : ByteArray := prog_1_method_32_code
def yX6_isKind : MethodName := ⟨RX6, "isKind", "(I)Z"⟩
abbrev cX6_isPerson : ByteArray := prog_1_method_33_code
def yX6_isPerson : MethodName := ⟨RX6, "isPerson", "(I)Z"⟩
abbrev cX6_arePair : ByteArray := prog_1_method_34_code
def yX6_arePair : MethodName := ⟨RX6, "arePair", "(II)Z"⟩
abbrev cX6_iceBehind : ByteArray := prog_1_method_35_code
def yX6_iceBehind : MethodName := ⟨RX6, "iceBehind", "(III)I"⟩
abbrev cX6_power : ByteArray := prog_1_method_36_code
def yX6_power : MethodName := ⟨RX6, "power", "(II)J"⟩
abbrev cX6_choose : ByteArray := prog_1_method_37_code
def yX6_choose : MethodName := ⟨RX6, "choose", "(II)J"⟩
abbrev cX6_commonDivisor : ByteArray := prog_1_method_38_code
def yX6_commonDivisor : MethodName := ⟨RX6, "commonDivisor", "(JJ)J"⟩
def RX7 : String := "NamesOnIceModel"
def TX7 : u_T := fun k => match k with
  | 0 => ("NamesOnIceModel", "rows", "I", false)
  | 1 => ("NamesOnIceModel", "wide", "I", false)
  | 2 => ("NamesOnIceModel", "lakes", "I", false)
  | 3 => ("NamesOnIceModel", "ice", "[I", true)
  | 4 => ("NamesOnIceModel", "snow", "[I", true)
  | 5 => ("NamesOnIceModel", "daysGone", "I", false)
  | 6 => ("NamesOnIceModel", "debts", "I", false)
  | 7 => ("NamesOnIceModel", "debtRows", "[I", true)
  | 8 => ("NamesOnIceModel", "page", "[I", true)
  | 9 => ("NamesOnIceModel", "pageMany", "I", false)
  | 10 => ("NamesOnIceModel", "readMany", "I", false)
  | 11 => ("NamesOnIceModel", "wants", "Z", false)
  | 12 => ("NamesOnIceModel", "readKinds", "[I", true)
  | 13 => ("NamesOnIceModel", "readInches", "[I", true)
  | 14 => ("NamesOnIceModel", "done", "I", false)
  | 15 => ("NamesOnIceModel", "fits", "[I", true)
  | 16 => ("NamesOnIceModel", "parts", "[I", true)
  | 17 => ("NamesOnIceModel", "rests", "[I", true)
  | 18 => ("NamesOnIceModel", "steps", "[I", true)
  | 19 => ("NamesOnIceModel", "reads", "[I", true)
  | 20 => ("NamesOnIceModel", "savedIce", "[I", true)
  | 21 => ("NamesOnIceModel", "savedSnow", "[I", true)
  | 22 => ("NamesOnIceModel", "savedRows", "[I", true)
  | 23 => ("NamesOnIceModel", "seedNow", "I", false)
  | 24 => ("NamesOnIceModel", "keptLake", "I", false)
  | 25 => ("NamesOnIceModel", "keptDebts", "I", false)
  | 26 => ("NamesOnIceModel", "keptDays", "I", false)
  | 27 => ("NamesOnIceModel", "keptIce", "[I", true)
  | 28 => ("NamesOnIceModel", "keptSnow", "[I", true)
  | 29 => ("NamesOnIceModel", "keptRows", "[I", true)
  | _ => ("NamesOnIceModel", "hash", "J", false)
def tyX7 : Nat → FieldType := fun k => match k with
  | 0 => .int
  | 1 => .int
  | 2 => .int
  | 3 => .array .int
  | 4 => .array .int
  | 5 => .int
  | 6 => .int
  | 7 => .array .int
  | 8 => .array .int
  | 9 => .int
  | 10 => .int
  | 11 => .boolean
  | 12 => .array .int
  | 13 => .array .int
  | 14 => .int
  | 15 => .array .int
  | 16 => .array .int
  | 17 => .array .int
  | 18 => .array .int
  | 19 => .array .int
  | 20 => .array .int
  | 21 => .array .int
  | 22 => .array .int
  | 23 => .int
  | 24 => .int
  | 25 => .int
  | 26 => .int
  | 27 => .array .int
  | 28 => .array .int
  | 29 => .array .int
  | _ => .long
abbrev wsX70 : List Cond := u_ws RX7 TX7 31
theorem nmX7 : ∀ a, a < 31 → ∀ b, b < 31 → a ≠ b → (TX7 a).2.1 ≠ (TX7 b).2.1 := by decide +kernel
theorem tyX7_ok : ∀ k, k < 31 → parseFieldDescriptor (TX7 k).2.2.1 = some (tyX7 k) := by decide +kernel
abbrev cX7_init : ByteArray := prog_9_method_1_code
def yX7_init : MethodName := ⟨RX7, "<init>", "()V"⟩
abbrev cX7_in : ByteArray := prog_9_method_2_code
def yX7_in : MethodName := ⟨RX7, "in", "(JJJ)Z"⟩
abbrev cX7_squares : ByteArray := prog_9_method_3_code
def yX7_squares : MethodName := ⟨RX7, "squares", "()I"⟩
abbrev cX7_isSquare : ByteArray := prog_9_method_4_code
def yX7_isSquare : MethodName := ⟨RX7, "isSquare", "(I)Z"⟩
abbrev cX7_isDebt : ByteArray := prog_9_method_5_code
def yX7_isDebt : MethodName := ⟨RX7, "isDebt", "(I)Z"⟩
abbrev cX7_isPerson : ByteArray := prog_9_method_6_code
def yX7_isPerson : MethodName := ⟨RX7, "isPerson", "(I)Z"⟩
abbrev cX7_lake : ByteArray := prog_9_method_7_code
def yX7_lake : MethodName := ⟨RX7, "lake", "(II)I"⟩
abbrev cX7_isThere : ByteArray := prog_9_method_8_code
def yX7_isThere : MethodName := ⟨RX7, "isThere", "(I)Z"⟩
abbrev cX7_thereIn : ByteArray := prog_9_method_9_code
def yX7_thereIn : MethodName := ⟨RX7, "thereIn", "(I)I"⟩
abbrev cX7_ice : ByteArray := prog_9_method_10_code
def yX7_ice : MethodName := ⟨RX7, "ice", "(II)I"⟩
abbrev cX7_bearsOne : ByteArray := prog_9_method_11_code
def yX7_bearsOne : MethodName := ⟨RX7, "bearsOne", "(I)Z"⟩
abbrev cX7_tellSquare : ByteArray := prog_9_method_12_code
def yX7_tellSquare : MethodName := ⟨RX7, "tellSquare", "(II)I"⟩
abbrev cX7_square : ByteArray := prog_9_method_13_code
def yX7_square : MethodName := ⟨RX7, "square", "(II)I"⟩
abbrev cX7_lose : ByteArray := prog_9_method_14_code
def yX7_lose : MethodName := ⟨RX7, "lose", "(I)V"⟩
abbrev cX7_fish : ByteArray := prog_9_method_15_code
def yX7_fish : MethodName := ⟨RX7, "fish", "(I)I"⟩
abbrev cX7_write : ByteArray := prog_9_method_16_code
def yX7_write : MethodName := ⟨RX7, "write", "(IIIIII)I"⟩
abbrev cX7_worthOf : ByteArray := prog_9_method_17_code
def yX7_worthOf : MethodName := ⟨RX7, "worthOf", "(I)I"⟩
abbrev cX7_lookOf : ByteArray := prog_9_method_18_code
def yX7_lookOf : MethodName := ⟨RX7, "lookOf", "(I)I"⟩
abbrev cX7_tellDebt : ByteArray := prog_9_method_19_code
def yX7_tellDebt : MethodName := ⟨RX7, "tellDebt", "(II)I"⟩
abbrev cX7_about : ByteArray := prog_9_method_20_code
def yX7_about : MethodName := ⟨RX7, "about", "(II)I"⟩
abbrev cX7_as : ByteArray := prog_9_method_21_code
def yX7_as : MethodName := ⟨RX7, "as", "(II)I"⟩
abbrev cX7_saw : ByteArray := prog_9_method_22_code
def yX7_saw : MethodName := ⟨RX7, "saw", "(I)I"⟩
abbrev cX7_letters : ByteArray := prog_9_method_23_code
def yX7_letters : MethodName := ⟨RX7, "letters", "(J)I"⟩
abbrev cX7_blank : ByteArray := prog_9_method_24_code
def yX7_blank : MethodName := ⟨RX7, "blank", "()I"⟩
abbrev cX7_dayOf : ByteArray := prog_9_method_25_code
def yX7_dayOf : MethodName := ⟨RX7, "dayOf", "(I)I"⟩
abbrev cX7_go : ByteArray := prog_9_method_26_code
def yX7_go : MethodName := ⟨RX7, "go", "(I)Z"⟩
abbrev cX7_faultOf : ByteArray := prog_9_method_27_code
def yX7_faultOf : MethodName := ⟨RX7, "faultOf", "()I"⟩
abbrev cX7_fault : ByteArray := prog_9_method_28_code
def yX7_fault : MethodName := ⟨RX7, "fault", "()I"⟩
abbrev cX7_areDays : ByteArray := prog_9_method_29_code
def yX7_areDays : MethodName := ⟨RX7, "areDays", "()Z"⟩
abbrev cX7_less : ByteArray := prog_9_method_30_code
def yX7_less : MethodName := ⟨RX7, "less", "(II)I"⟩
abbrev cX7_thawOf : ByteArray := prog_9_method_31_code
def yX7_thawOf : MethodName := ⟨RX7, "thawOf", "(II)I"⟩
abbrev cX7_thaw : ByteArray := prog_9_method_32_code
def yX7_thaw : MethodName := ⟨RX7, "thaw", "(I)V"⟩
abbrev cX7_day : ByteArray := prog_9_method_33_code
def yX7_day : MethodName := ⟨RX7, "day", "(II)V"⟩
abbrev cX7_thereMany : ByteArray := prog_9_method_34_code
def yX7_thereMany : MethodName := ⟨RX7, "thereMany", "()I"⟩
abbrev cX7_days : ByteArray := prog_9_method_35_code
def yX7_days : MethodName := ⟨RX7, "days", "()I"⟩
abbrev cX7_stays : ByteArray := prog_9_method_36_code
def yX7_stays : MethodName := ⟨RX7, "stays", "(III)Z"⟩
abbrev cX7_needed : ByteArray := prog_9_method_37_code
def yX7_needed : MethodName := ⟨RX7, "needed", "(II)I"⟩
abbrev cX7_bears : ByteArray := prog_9_method_38_code
def yX7_bears : MethodName := ⟨RX7, "bears", "(I)I"⟩
abbrev cX7_owesOf : ByteArray := prog_9_method_39_code
def yX7_owesOf : MethodName := ⟨RX7, "owesOf", "(IIZ)I"⟩
abbrev cX7_owes : ByteArray := prog_9_method_40_code
def yX7_owes : MethodName := ⟨RX7, "owes", "(IIZ)I"⟩
abbrev cX7_restOf : ByteArray := prog_9_method_41_code
def yX7_restOf : MethodName := ⟨RX7, "restOf", "(I)I"⟩
abbrev cX7_rest : ByteArray := prog_9_method_42_code
def yX7_rest : MethodName := ⟨RX7, "rest", "(I)I"⟩
abbrev cX7_weightOf : ByteArray := prog_9_method_43_code
def yX7_weightOf : MethodName := ⟨RX7, "weightOf", "(I)I"⟩
abbrev cX7_ones : ByteArray := prog_9_method_44_code
def yX7_ones : MethodName := ⟨RX7, "ones", "(I)I"⟩
abbrev cX7_layFits : ByteArray := prog_9_method_45_code
def yX7_layFits : MethodName := ⟨RX7, "layFits", "(I)V"⟩
abbrev cX7_sledges : ByteArray := prog_9_method_46_code
def yX7_sledges : MethodName := ⟨RX7, "sledges", "(III)I"⟩
abbrev cX7_groupsOf : ByteArray := prog_9_method_47_code
def yX7_groupsOf : MethodName := ⟨RX7, "groupsOf", "()I"⟩
abbrev cX7_settled : ByteArray := prog_9_method_48_code
def yX7_settled : MethodName := ⟨RX7, "settled", "(I)I"⟩
abbrev cX7_readIn : ByteArray := prog_9_method_49_code
def yX7_readIn : MethodName := ⟨RX7, "readIn", "(I)I"⟩
abbrev cX7_areBeside : ByteArray := prog_9_method_50_code
def yX7_areBeside : MethodName := ⟨RX7, "areBeside", "(II)Z"⟩
abbrev cX7_tellSkate : ByteArray := prog_9_method_51_code
def yX7_tellSkate : MethodName := ⟨RX7, "tellSkate", "(III)I"⟩
abbrev cX7_skate : ByteArray := prog_9_method_52_code
def yX7_skate : MethodName := ⟨RX7, "skate", "(III)I"⟩
abbrev cX7_term : ByteArray := prog_9_method_53_code
def yX7_term : MethodName := ⟨RX7, "term", "(JJI)J"⟩
abbrev cX7_staysBy : ByteArray := prog_9_method_54_code
def yX7_staysBy : MethodName := ⟨RX7, "staysBy", "(III)Z"⟩
abbrev cX7_odds : ByteArray := prog_9_method_55_code
def yX7_odds : MethodName := ⟨RX7, "odds", "(IIIII)J"⟩
abbrev cX7_copy : ByteArray := prog_9_method_56_code
def yX7_copy : MethodName := ⟨RX7, "copy", "([I[I)V"⟩
abbrev cX7_draw : ByteArray := prog_9_method_57_code
def yX7_draw : MethodName := ⟨RX7, "draw", "(I)I"⟩
abbrev cX7_winter : ByteArray := prog_9_method_58_code
def yX7_winter : MethodName := ⟨RX7, "winter", "(III)I"⟩
abbrev cX7_image : ByteArray := prog_9_method_59_code
def yX7_image : MethodName := ⟨RX7, "image", "()I"⟩
abbrev cX7_restore : ByteArray := prog_9_method_60_code
def yX7_restore : MethodName := ⟨RX7, "restore", "()I"⟩
abbrev cX7_countOf : ByteArray := prog_9_method_61_code
def yX7_countOf : MethodName := ⟨RX7, "countOf", "(I)I"⟩
abbrev cX7_count : ByteArray := prog_9_method_62_code
def yX7_count : MethodName := ⟨RX7, "count", "(I)I"⟩
abbrev cX7_say : ByteArray := prog_9_method_63_code
def yX7_say : MethodName := ⟨RX7, "say", "(J)V"⟩
abbrev cX7_digest : ByteArray := prog_9_method_64_code
def yX7_digest : MethodName := ⟨RX7, "digest", "()J"⟩
def RJ6 : String := "java/lang/Integer"
def TJ6 : u_T := fun k => match k with
  | _ => ("", "", "", false)
def tyJ6 : Nat → FieldType := fun k => match k with
  | _ => .int
abbrev wsJ60 : List Cond := u_ws RJ6 TJ6 0
theorem nmJ6 : ∀ a, a < 0 → ∀ b, b < 0 → a ≠ b → (TJ6 a).2.1 ≠ (TJ6 b).2.1 := by decide +kernel
theorem tyJ6_ok : ∀ k, k < 0 → parseFieldDescriptor (TJ6 k).2.2.1 = some (tyJ6 k) := by decide +kernel
abbrev cJ6_bitCount_0f7a4 : ByteArray := prog_10_method_49_code
def yJ6_bitCount_0f7a4 : MethodName := ⟨RJ6, "bitCount", "(I)I"⟩
def RJ9 : String := "java/lang/Math"
def TJ9 : u_T := fun k => match k with
  | _ => ("", "", "", false)
def tyJ9 : Nat → FieldType := fun k => match k with
  | _ => .int
abbrev wsJ90 : List Cond := u_ws RJ9 TJ9 0
theorem nmJ9 : ∀ a, a < 0 → ∀ b, b < 0 → a ≠ b → (TJ9 a).2.1 ≠ (TJ9 b).2.1 := by decide +kernel
theorem tyJ9_ok : ∀ k, k < 0 → parseFieldDescriptor (TJ9 k).2.2.1 = some (tyJ9 k) := by decide +kernel
abbrev cJ9_max_7cf53 : ByteArray := prog_11_method_65_code
def yJ9_max_7cf53 : MethodName := ⟨RJ9, "max", "(II)I"⟩
abbrev cJ9_min_7cf53 : ByteArray := prog_11_method_69_code
def yJ9_min_7cf53 : MethodName := ⟨RJ9, "min", "(II)I"⟩
def RL : String := "NamesOnIceLaw"
abbrev cL_law : ByteArray := code
def yL_law : MethodName := ⟨RL, "law", "([I)Z"⟩
end
section
theorem dJ6_bitCount_0f7a4_0 : decode cJ6_bitCount_0f7a4 0 = .ok (.iload_n 0, 1) := by decide +kernel
theorem dJ6_bitCount_0f7a4_1 : decode cJ6_bitCount_0f7a4 1 = .ok (.iload_n 0, 1) := by decide +kernel
theorem dJ6_bitCount_0f7a4_2 : decode cJ6_bitCount_0f7a4 2 = .ok (.iconst 1, 1) := by decide +kernel
theorem dJ6_bitCount_0f7a4_3 : decode cJ6_bitCount_0f7a4 3 = .ok (.iushr, 1) := by decide +kernel
theorem dJ6_bitCount_0f7a4_4 : decode cJ6_bitCount_0f7a4 4 = .ok (.ldc_w 265, 3) := by decide +kernel
theorem dJ6_bitCount_0f7a4_7 : decode cJ6_bitCount_0f7a4 7 = .ok (.iand, 1) := by decide +kernel
theorem dJ6_bitCount_0f7a4_8 : decode cJ6_bitCount_0f7a4 8 = .ok (.isub, 1) := by decide +kernel
theorem dJ6_bitCount_0f7a4_9 : decode cJ6_bitCount_0f7a4 9 = .ok (.istore_n 0, 1) := by decide +kernel
theorem dJ6_bitCount_0f7a4_10 : decode cJ6_bitCount_0f7a4 10 = .ok (.iload_n 0, 1) := by decide +kernel
theorem dJ6_bitCount_0f7a4_11 : decode cJ6_bitCount_0f7a4 11 = .ok (.ldc_w 266, 3) := by decide +kernel
theorem dJ6_bitCount_0f7a4_14 : decode cJ6_bitCount_0f7a4 14 = .ok (.iand, 1) := by decide +kernel
theorem dJ6_bitCount_0f7a4_15 : decode cJ6_bitCount_0f7a4 15 = .ok (.iload_n 0, 1) := by decide +kernel
theorem dJ6_bitCount_0f7a4_16 : decode cJ6_bitCount_0f7a4 16 = .ok (.iconst 2, 1) := by decide +kernel
theorem dJ6_bitCount_0f7a4_17 : decode cJ6_bitCount_0f7a4 17 = .ok (.iushr, 1) := by decide +kernel
theorem dJ6_bitCount_0f7a4_18 : decode cJ6_bitCount_0f7a4 18 = .ok (.ldc_w 266, 3) := by decide +kernel
theorem dJ6_bitCount_0f7a4_21 : decode cJ6_bitCount_0f7a4 21 = .ok (.iand, 1) := by decide +kernel
theorem dJ6_bitCount_0f7a4_22 : decode cJ6_bitCount_0f7a4 22 = .ok (.iadd, 1) := by decide +kernel
theorem dJ6_bitCount_0f7a4_23 : decode cJ6_bitCount_0f7a4 23 = .ok (.istore_n 0, 1) := by decide +kernel
theorem dJ6_bitCount_0f7a4_24 : decode cJ6_bitCount_0f7a4 24 = .ok (.iload_n 0, 1) := by decide +kernel
theorem dJ6_bitCount_0f7a4_25 : decode cJ6_bitCount_0f7a4 25 = .ok (.iload_n 0, 1) := by decide +kernel
theorem dJ6_bitCount_0f7a4_26 : decode cJ6_bitCount_0f7a4 26 = .ok (.iconst 4, 1) := by decide +kernel
theorem dJ6_bitCount_0f7a4_27 : decode cJ6_bitCount_0f7a4 27 = .ok (.iushr, 1) := by decide +kernel
theorem dJ6_bitCount_0f7a4_28 : decode cJ6_bitCount_0f7a4 28 = .ok (.iadd, 1) := by decide +kernel
theorem dJ6_bitCount_0f7a4_29 : decode cJ6_bitCount_0f7a4 29 = .ok (.ldc_w 267, 3) := by decide +kernel
theorem dJ6_bitCount_0f7a4_32 : decode cJ6_bitCount_0f7a4 32 = .ok (.iand, 1) := by decide +kernel
theorem dJ6_bitCount_0f7a4_33 : decode cJ6_bitCount_0f7a4 33 = .ok (.istore_n 0, 1) := by decide +kernel
theorem dJ6_bitCount_0f7a4_34 : decode cJ6_bitCount_0f7a4 34 = .ok (.iload_n 0, 1) := by decide +kernel
theorem dJ6_bitCount_0f7a4_35 : decode cJ6_bitCount_0f7a4 35 = .ok (.iload_n 0, 1) := by decide +kernel
theorem dJ6_bitCount_0f7a4_36 : decode cJ6_bitCount_0f7a4 36 = .ok (.bipush 8, 2) := by decide +kernel
theorem dJ6_bitCount_0f7a4_38 : decode cJ6_bitCount_0f7a4 38 = .ok (.iushr, 1) := by decide +kernel
theorem dJ6_bitCount_0f7a4_39 : decode cJ6_bitCount_0f7a4 39 = .ok (.iadd, 1) := by decide +kernel
theorem dJ6_bitCount_0f7a4_40 : decode cJ6_bitCount_0f7a4 40 = .ok (.istore_n 0, 1) := by decide +kernel
theorem dJ6_bitCount_0f7a4_41 : decode cJ6_bitCount_0f7a4 41 = .ok (.iload_n 0, 1) := by decide +kernel
theorem dJ6_bitCount_0f7a4_42 : decode cJ6_bitCount_0f7a4 42 = .ok (.iload_n 0, 1) := by decide +kernel
theorem dJ6_bitCount_0f7a4_43 : decode cJ6_bitCount_0f7a4 43 = .ok (.bipush 16, 2) := by decide +kernel
theorem dJ6_bitCount_0f7a4_45 : decode cJ6_bitCount_0f7a4 45 = .ok (.iushr, 1) := by decide +kernel
theorem dJ6_bitCount_0f7a4_46 : decode cJ6_bitCount_0f7a4 46 = .ok (.iadd, 1) := by decide +kernel
theorem dJ6_bitCount_0f7a4_47 : decode cJ6_bitCount_0f7a4 47 = .ok (.istore_n 0, 1) := by decide +kernel
theorem dJ6_bitCount_0f7a4_48 : decode cJ6_bitCount_0f7a4 48 = .ok (.iload_n 0, 1) := by decide +kernel
theorem dJ6_bitCount_0f7a4_49 : decode cJ6_bitCount_0f7a4 49 = .ok (.bipush 63, 2) := by decide +kernel
theorem dJ6_bitCount_0f7a4_51 : decode cJ6_bitCount_0f7a4 51 = .ok (.iand, 1) := by decide +kernel
theorem dJ6_bitCount_0f7a4_52 : decode cJ6_bitCount_0f7a4 52 = .ok (.ireturn, 1) := by decide +kernel
end
section
theorem dJ9_max_7cf53_0 : decode cJ9_max_7cf53 0 = .ok (.iload_n 0, 1) := by decide +kernel
theorem dJ9_max_7cf53_1 : decode cJ9_max_7cf53 1 = .ok (.iload_n 1, 1) := by decide +kernel
theorem dJ9_max_7cf53_2 : decode cJ9_max_7cf53 2 = .ok (.if_icmp .lt 7, 3) := by decide +kernel
theorem dJ9_max_7cf53_5 : decode cJ9_max_7cf53 5 = .ok (.iload_n 0, 1) := by decide +kernel
theorem dJ9_max_7cf53_6 : decode cJ9_max_7cf53 6 = .ok (.goto 4, 3) := by decide +kernel
theorem dJ9_max_7cf53_9 : decode cJ9_max_7cf53 9 = .ok (.iload_n 1, 1) := by decide +kernel
theorem dJ9_max_7cf53_10 : decode cJ9_max_7cf53 10 = .ok (.ireturn, 1) := by decide +kernel
theorem dJ9_min_7cf53_0 : decode cJ9_min_7cf53 0 = .ok (.iload_n 0, 1) := by decide +kernel
theorem dJ9_min_7cf53_1 : decode cJ9_min_7cf53 1 = .ok (.iload_n 1, 1) := by decide +kernel
theorem dJ9_min_7cf53_2 : decode cJ9_min_7cf53 2 = .ok (.if_icmp .gt 7, 3) := by decide +kernel
theorem dJ9_min_7cf53_5 : decode cJ9_min_7cf53 5 = .ok (.iload_n 0, 1) := by decide +kernel
theorem dJ9_min_7cf53_6 : decode cJ9_min_7cf53 6 = .ok (.goto 4, 3) := by decide +kernel
theorem dJ9_min_7cf53_9 : decode cJ9_min_7cf53 9 = .ok (.iload_n 1, 1) := by decide +kernel
theorem dJ9_min_7cf53_10 : decode cJ9_min_7cf53 10 = .ok (.ireturn, 1) := by decide +kernel
end
section
theorem dL_law_0 : decode cL_law 0 = .ok (.new 7, 3) := by decide +kernel
theorem dL_law_3 : decode cL_law 3 = .ok (.dup, 1) := by decide +kernel
theorem dL_law_4 : decode cL_law 4 = .ok (.invokespecial 9, 3) := by decide +kernel
theorem dL_law_7 : decode cL_law 7 = .ok (.astore_n 1, 1) := by decide +kernel
theorem dL_law_8 : decode cL_law 8 = .ok (.new 10, 3) := by decide +kernel
theorem dL_law_11 : decode cL_law 11 = .ok (.dup, 1) := by decide +kernel
theorem dL_law_12 : decode cL_law 12 = .ok (.invokespecial 12, 3) := by decide +kernel
theorem dL_law_15 : decode cL_law 15 = .ok (.astore_n 2, 1) := by decide +kernel
theorem dL_law_16 : decode cL_law 16 = .ok (.iconst 0, 1) := by decide +kernel
theorem dL_law_17 : decode cL_law 17 = .ok (.istore_n 3, 1) := by decide +kernel
theorem dL_law_18 : decode cL_law 18 = .ok (.iload_n 3, 1) := by decide +kernel
theorem dL_law_19 : decode cL_law 19 = .ok (.aload_n 0, 1) := by decide +kernel
theorem dL_law_20 : decode cL_law 20 = .ok (.arraylength, 1) := by decide +kernel
theorem dL_law_21 : decode cL_law 21 = .ok (.bipush 7, 2) := by decide +kernel
theorem dL_law_23 : decode cL_law 23 = .ok (.isub, 1) := by decide +kernel
theorem dL_law_24 : decode cL_law 24 = .ok (.if_icmp .gt 925, 3) := by decide +kernel
theorem dL_law_27 : decode cL_law 27 = .ok (.aload_n 0, 1) := by decide +kernel
theorem dL_law_28 : decode cL_law 28 = .ok (.iload_n 3, 1) := by decide +kernel
theorem dL_law_29 : decode cL_law 29 = .ok (.iaload, 1) := by decide +kernel
theorem dL_law_30 : decode cL_law 30 = .ok (.bipush 31, 2) := by decide +kernel
theorem dL_law_32 : decode cL_law 32 = .ok (.iand, 1) := by decide +kernel
theorem dL_law_33 : decode cL_law 33 = .ok (.tableswitch 910 0 24 #[115, 148, 181, 214, 237, 312, 345, 378, 401, 454, 467, 480, 493, 526, 549, 608, 631, 674, 697, 740, 804, 847, 860, 873, 896], 115) := by decide +kernel
theorem dL_law_148 : decode cL_law 148 = .ok (.aload_n 1, 1) := by decide +kernel
theorem dL_law_149 : decode cL_law 149 = .ok (.aload_n 0, 1) := by decide +kernel
theorem dL_law_150 : decode cL_law 150 = .ok (.iload_n 3, 1) := by decide +kernel
theorem dL_law_151 : decode cL_law 151 = .ok (.iconst 1, 1) := by decide +kernel
theorem dL_law_152 : decode cL_law 152 = .ok (.iadd, 1) := by decide +kernel
theorem dL_law_153 : decode cL_law 153 = .ok (.iaload, 1) := by decide +kernel
theorem dL_law_154 : decode cL_law 154 = .ok (.aload_n 0, 1) := by decide +kernel
theorem dL_law_155 : decode cL_law 155 = .ok (.iload_n 3, 1) := by decide +kernel
theorem dL_law_156 : decode cL_law 156 = .ok (.iconst 2, 1) := by decide +kernel
theorem dL_law_157 : decode cL_law 157 = .ok (.iadd, 1) := by decide +kernel
theorem dL_law_158 : decode cL_law 158 = .ok (.iaload, 1) := by decide +kernel
theorem dL_law_159 : decode cL_law 159 = .ok (.invokevirtual 13, 3) := by decide +kernel
theorem dL_law_162 : decode cL_law 162 = .ok (.aload_n 2, 1) := by decide +kernel
theorem dL_law_163 : decode cL_law 163 = .ok (.aload_n 0, 1) := by decide +kernel
theorem dL_law_164 : decode cL_law 164 = .ok (.iload_n 3, 1) := by decide +kernel
theorem dL_law_165 : decode cL_law 165 = .ok (.iconst 1, 1) := by decide +kernel
theorem dL_law_166 : decode cL_law 166 = .ok (.iadd, 1) := by decide +kernel
theorem dL_law_167 : decode cL_law 167 = .ok (.iaload, 1) := by decide +kernel
theorem dL_law_168 : decode cL_law 168 = .ok (.aload_n 0, 1) := by decide +kernel
theorem dL_law_169 : decode cL_law 169 = .ok (.iload_n 3, 1) := by decide +kernel
theorem dL_law_170 : decode cL_law 170 = .ok (.iconst 2, 1) := by decide +kernel
theorem dL_law_171 : decode cL_law 171 = .ok (.iadd, 1) := by decide +kernel
theorem dL_law_172 : decode cL_law 172 = .ok (.iaload, 1) := by decide +kernel
theorem dL_law_173 : decode cL_law 173 = .ok (.invokevirtual 17, 3) := by decide +kernel
theorem dL_law_176 : decode cL_law 176 = .ok (.if_icmp .eq 767, 3) := by decide +kernel
theorem dL_law_179 : decode cL_law 179 = .ok (.iconst 0, 1) := by decide +kernel
theorem dL_law_180 : decode cL_law 180 = .ok (.ireturn, 1) := by decide +kernel
theorem dL_law_181 : decode cL_law 181 = .ok (.aload_n 1, 1) := by decide +kernel
theorem dL_law_182 : decode cL_law 182 = .ok (.aload_n 0, 1) := by decide +kernel
theorem dL_law_183 : decode cL_law 183 = .ok (.iload_n 3, 1) := by decide +kernel
theorem dL_law_184 : decode cL_law 184 = .ok (.iconst 1, 1) := by decide +kernel
theorem dL_law_185 : decode cL_law 185 = .ok (.iadd, 1) := by decide +kernel
theorem dL_law_186 : decode cL_law 186 = .ok (.iaload, 1) := by decide +kernel
theorem dL_law_187 : decode cL_law 187 = .ok (.aload_n 0, 1) := by decide +kernel
theorem dL_law_188 : decode cL_law 188 = .ok (.iload_n 3, 1) := by decide +kernel
theorem dL_law_189 : decode cL_law 189 = .ok (.iconst 2, 1) := by decide +kernel
theorem dL_law_190 : decode cL_law 190 = .ok (.iadd, 1) := by decide +kernel
theorem dL_law_191 : decode cL_law 191 = .ok (.iaload, 1) := by decide +kernel
theorem dL_law_192 : decode cL_law 192 = .ok (.invokevirtual 18, 3) := by decide +kernel
theorem dL_law_195 : decode cL_law 195 = .ok (.aload_n 2, 1) := by decide +kernel
theorem dL_law_196 : decode cL_law 196 = .ok (.aload_n 0, 1) := by decide +kernel
theorem dL_law_197 : decode cL_law 197 = .ok (.iload_n 3, 1) := by decide +kernel
theorem dL_law_198 : decode cL_law 198 = .ok (.iconst 1, 1) := by decide +kernel
theorem dL_law_199 : decode cL_law 199 = .ok (.iadd, 1) := by decide +kernel
theorem dL_law_200 : decode cL_law 200 = .ok (.iaload, 1) := by decide +kernel
theorem dL_law_201 : decode cL_law 201 = .ok (.aload_n 0, 1) := by decide +kernel
theorem dL_law_202 : decode cL_law 202 = .ok (.iload_n 3, 1) := by decide +kernel
theorem dL_law_203 : decode cL_law 203 = .ok (.iconst 2, 1) := by decide +kernel
theorem dL_law_204 : decode cL_law 204 = .ok (.iadd, 1) := by decide +kernel
theorem dL_law_205 : decode cL_law 205 = .ok (.iaload, 1) := by decide +kernel
theorem dL_law_206 : decode cL_law 206 = .ok (.invokevirtual 21, 3) := by decide +kernel
theorem dL_law_209 : decode cL_law 209 = .ok (.if_icmp .eq 734, 3) := by decide +kernel
theorem dL_law_212 : decode cL_law 212 = .ok (.iconst 0, 1) := by decide +kernel
theorem dL_law_213 : decode cL_law 213 = .ok (.ireturn, 1) := by decide +kernel
theorem dL_law_214 : decode cL_law 214 = .ok (.aload_n 1, 1) := by decide +kernel
theorem dL_law_215 : decode cL_law 215 = .ok (.aload_n 0, 1) := by decide +kernel
theorem dL_law_216 : decode cL_law 216 = .ok (.iload_n 3, 1) := by decide +kernel
theorem dL_law_217 : decode cL_law 217 = .ok (.iconst 1, 1) := by decide +kernel
theorem dL_law_218 : decode cL_law 218 = .ok (.iadd, 1) := by decide +kernel
theorem dL_law_219 : decode cL_law 219 = .ok (.iaload, 1) := by decide +kernel
theorem dL_law_220 : decode cL_law 220 = .ok (.aload_n 0, 1) := by decide +kernel
theorem dL_law_221 : decode cL_law 221 = .ok (.iload_n 3, 1) := by decide +kernel
theorem dL_law_222 : decode cL_law 222 = .ok (.iconst 2, 1) := by decide +kernel
theorem dL_law_223 : decode cL_law 223 = .ok (.iadd, 1) := by decide +kernel
theorem dL_law_224 : decode cL_law 224 = .ok (.iaload, 1) := by decide +kernel
theorem dL_law_225 : decode cL_law 225 = .ok (.invokevirtual 22, 3) := by decide +kernel
theorem dL_law_228 : decode cL_law 228 = .ok (.aload_n 2, 1) := by decide +kernel
theorem dL_law_229 : decode cL_law 229 = .ok (.aload_n 0, 1) := by decide +kernel
theorem dL_law_230 : decode cL_law 230 = .ok (.iload_n 3, 1) := by decide +kernel
theorem dL_law_231 : decode cL_law 231 = .ok (.iconst 1, 1) := by decide +kernel
theorem dL_law_232 : decode cL_law 232 = .ok (.iadd, 1) := by decide +kernel
theorem dL_law_233 : decode cL_law 233 = .ok (.iaload, 1) := by decide +kernel
theorem dL_law_234 : decode cL_law 234 = .ok (.aload_n 0, 1) := by decide +kernel
theorem dL_law_235 : decode cL_law 235 = .ok (.iload_n 3, 1) := by decide +kernel
theorem dL_law_236 : decode cL_law 236 = .ok (.iconst 2, 1) := by decide +kernel
theorem dL_law_237 : decode cL_law 237 = .ok (.iadd, 1) := by decide +kernel
theorem dL_law_238 : decode cL_law 238 = .ok (.iaload, 1) := by decide +kernel
theorem dL_law_239 : decode cL_law 239 = .ok (.invokevirtual 25, 3) := by decide +kernel
theorem dL_law_242 : decode cL_law 242 = .ok (.if_icmp .eq 701, 3) := by decide +kernel
theorem dL_law_245 : decode cL_law 245 = .ok (.iconst 0, 1) := by decide +kernel
theorem dL_law_246 : decode cL_law 246 = .ok (.ireturn, 1) := by decide +kernel
theorem dL_law_247 : decode cL_law 247 = .ok (.aload_n 1, 1) := by decide +kernel
theorem dL_law_248 : decode cL_law 248 = .ok (.aload_n 0, 1) := by decide +kernel
theorem dL_law_249 : decode cL_law 249 = .ok (.iload_n 3, 1) := by decide +kernel
theorem dL_law_250 : decode cL_law 250 = .ok (.iconst 1, 1) := by decide +kernel
theorem dL_law_251 : decode cL_law 251 = .ok (.iadd, 1) := by decide +kernel
theorem dL_law_252 : decode cL_law 252 = .ok (.iaload, 1) := by decide +kernel
theorem dL_law_253 : decode cL_law 253 = .ok (.invokevirtual 26, 3) := by decide +kernel
theorem dL_law_256 : decode cL_law 256 = .ok (.aload_n 2, 1) := by decide +kernel
theorem dL_law_257 : decode cL_law 257 = .ok (.aload_n 0, 1) := by decide +kernel
theorem dL_law_258 : decode cL_law 258 = .ok (.iload_n 3, 1) := by decide +kernel
theorem dL_law_259 : decode cL_law 259 = .ok (.iconst 1, 1) := by decide +kernel
theorem dL_law_260 : decode cL_law 260 = .ok (.iadd, 1) := by decide +kernel
theorem dL_law_261 : decode cL_law 261 = .ok (.iaload, 1) := by decide +kernel
theorem dL_law_262 : decode cL_law 262 = .ok (.invokevirtual 30, 3) := by decide +kernel
theorem dL_law_265 : decode cL_law 265 = .ok (.if_icmp .eq 678, 3) := by decide +kernel
theorem dL_law_268 : decode cL_law 268 = .ok (.iconst 0, 1) := by decide +kernel
theorem dL_law_269 : decode cL_law 269 = .ok (.ireturn, 1) := by decide +kernel
theorem dL_law_270 : decode cL_law 270 = .ok (.aload_n 1, 1) := by decide +kernel
theorem dL_law_271 : decode cL_law 271 = .ok (.aload_n 0, 1) := by decide +kernel
theorem dL_law_272 : decode cL_law 272 = .ok (.iload_n 3, 1) := by decide +kernel
theorem dL_law_273 : decode cL_law 273 = .ok (.iconst 1, 1) := by decide +kernel
theorem dL_law_274 : decode cL_law 274 = .ok (.iadd, 1) := by decide +kernel
theorem dL_law_275 : decode cL_law 275 = .ok (.iaload, 1) := by decide +kernel
theorem dL_law_276 : decode cL_law 276 = .ok (.aload_n 0, 1) := by decide +kernel
theorem dL_law_277 : decode cL_law 277 = .ok (.iload_n 3, 1) := by decide +kernel
theorem dL_law_278 : decode cL_law 278 = .ok (.iconst 2, 1) := by decide +kernel
theorem dL_law_279 : decode cL_law 279 = .ok (.iadd, 1) := by decide +kernel
theorem dL_law_280 : decode cL_law 280 = .ok (.iaload, 1) := by decide +kernel
theorem dL_law_281 : decode cL_law 281 = .ok (.aload_n 0, 1) := by decide +kernel
theorem dL_law_282 : decode cL_law 282 = .ok (.iload_n 3, 1) := by decide +kernel
theorem dL_law_283 : decode cL_law 283 = .ok (.iconst 3, 1) := by decide +kernel
theorem dL_law_284 : decode cL_law 284 = .ok (.iadd, 1) := by decide +kernel
theorem dL_law_285 : decode cL_law 285 = .ok (.iaload, 1) := by decide +kernel
theorem dL_law_286 : decode cL_law 286 = .ok (.aload_n 0, 1) := by decide +kernel
theorem dL_law_287 : decode cL_law 287 = .ok (.iload_n 3, 1) := by decide +kernel
theorem dL_law_288 : decode cL_law 288 = .ok (.iconst 4, 1) := by decide +kernel
theorem dL_law_289 : decode cL_law 289 = .ok (.iadd, 1) := by decide +kernel
theorem dL_law_290 : decode cL_law 290 = .ok (.iaload, 1) := by decide +kernel
theorem dL_law_291 : decode cL_law 291 = .ok (.aload_n 0, 1) := by decide +kernel
theorem dL_law_292 : decode cL_law 292 = .ok (.iload_n 3, 1) := by decide +kernel
theorem dL_law_293 : decode cL_law 293 = .ok (.iconst 5, 1) := by decide +kernel
theorem dL_law_294 : decode cL_law 294 = .ok (.iadd, 1) := by decide +kernel
theorem dL_law_295 : decode cL_law 295 = .ok (.iaload, 1) := by decide +kernel
theorem dL_law_296 : decode cL_law 296 = .ok (.aload_n 0, 1) := by decide +kernel
theorem dL_law_297 : decode cL_law 297 = .ok (.iload_n 3, 1) := by decide +kernel
theorem dL_law_298 : decode cL_law 298 = .ok (.bipush 6, 2) := by decide +kernel
theorem dL_law_300 : decode cL_law 300 = .ok (.iadd, 1) := by decide +kernel
theorem dL_law_301 : decode cL_law 301 = .ok (.iaload, 1) := by decide +kernel
theorem dL_law_302 : decode cL_law 302 = .ok (.invokevirtual 31, 3) := by decide +kernel
theorem dL_law_305 : decode cL_law 305 = .ok (.aload_n 2, 1) := by decide +kernel
theorem dL_law_306 : decode cL_law 306 = .ok (.aload_n 0, 1) := by decide +kernel
theorem dL_law_307 : decode cL_law 307 = .ok (.iload_n 3, 1) := by decide +kernel
theorem dL_law_308 : decode cL_law 308 = .ok (.iconst 1, 1) := by decide +kernel
theorem dL_law_309 : decode cL_law 309 = .ok (.iadd, 1) := by decide +kernel
theorem dL_law_310 : decode cL_law 310 = .ok (.iaload, 1) := by decide +kernel
theorem dL_law_311 : decode cL_law 311 = .ok (.aload_n 0, 1) := by decide +kernel
theorem dL_law_312 : decode cL_law 312 = .ok (.iload_n 3, 1) := by decide +kernel
theorem dL_law_313 : decode cL_law 313 = .ok (.iconst 2, 1) := by decide +kernel
theorem dL_law_314 : decode cL_law 314 = .ok (.iadd, 1) := by decide +kernel
theorem dL_law_315 : decode cL_law 315 = .ok (.iaload, 1) := by decide +kernel
theorem dL_law_316 : decode cL_law 316 = .ok (.aload_n 0, 1) := by decide +kernel
theorem dL_law_317 : decode cL_law 317 = .ok (.iload_n 3, 1) := by decide +kernel
theorem dL_law_318 : decode cL_law 318 = .ok (.iconst 3, 1) := by decide +kernel
theorem dL_law_319 : decode cL_law 319 = .ok (.iadd, 1) := by decide +kernel
theorem dL_law_320 : decode cL_law 320 = .ok (.iaload, 1) := by decide +kernel
theorem dL_law_321 : decode cL_law 321 = .ok (.aload_n 0, 1) := by decide +kernel
theorem dL_law_322 : decode cL_law 322 = .ok (.iload_n 3, 1) := by decide +kernel
theorem dL_law_323 : decode cL_law 323 = .ok (.iconst 4, 1) := by decide +kernel
theorem dL_law_324 : decode cL_law 324 = .ok (.iadd, 1) := by decide +kernel
theorem dL_law_325 : decode cL_law 325 = .ok (.iaload, 1) := by decide +kernel
theorem dL_law_326 : decode cL_law 326 = .ok (.aload_n 0, 1) := by decide +kernel
theorem dL_law_327 : decode cL_law 327 = .ok (.iload_n 3, 1) := by decide +kernel
theorem dL_law_328 : decode cL_law 328 = .ok (.iconst 5, 1) := by decide +kernel
theorem dL_law_329 : decode cL_law 329 = .ok (.iadd, 1) := by decide +kernel
theorem dL_law_330 : decode cL_law 330 = .ok (.iaload, 1) := by decide +kernel
theorem dL_law_331 : decode cL_law 331 = .ok (.aload_n 0, 1) := by decide +kernel
theorem dL_law_332 : decode cL_law 332 = .ok (.iload_n 3, 1) := by decide +kernel
theorem dL_law_333 : decode cL_law 333 = .ok (.bipush 6, 2) := by decide +kernel
theorem dL_law_335 : decode cL_law 335 = .ok (.iadd, 1) := by decide +kernel
theorem dL_law_336 : decode cL_law 336 = .ok (.iaload, 1) := by decide +kernel
theorem dL_law_337 : decode cL_law 337 = .ok (.invokevirtual 35, 3) := by decide +kernel
theorem dL_law_340 : decode cL_law 340 = .ok (.if_icmp .eq 603, 3) := by decide +kernel
theorem dL_law_343 : decode cL_law 343 = .ok (.iconst 0, 1) := by decide +kernel
theorem dL_law_344 : decode cL_law 344 = .ok (.ireturn, 1) := by decide +kernel
theorem dL_law_345 : decode cL_law 345 = .ok (.aload_n 1, 1) := by decide +kernel
theorem dL_law_346 : decode cL_law 346 = .ok (.aload_n 0, 1) := by decide +kernel
theorem dL_law_347 : decode cL_law 347 = .ok (.iload_n 3, 1) := by decide +kernel
theorem dL_law_348 : decode cL_law 348 = .ok (.iconst 1, 1) := by decide +kernel
theorem dL_law_349 : decode cL_law 349 = .ok (.iadd, 1) := by decide +kernel
theorem dL_law_350 : decode cL_law 350 = .ok (.iaload, 1) := by decide +kernel
theorem dL_law_351 : decode cL_law 351 = .ok (.aload_n 0, 1) := by decide +kernel
theorem dL_law_352 : decode cL_law 352 = .ok (.iload_n 3, 1) := by decide +kernel
theorem dL_law_353 : decode cL_law 353 = .ok (.iconst 2, 1) := by decide +kernel
theorem dL_law_354 : decode cL_law 354 = .ok (.iadd, 1) := by decide +kernel
theorem dL_law_355 : decode cL_law 355 = .ok (.iaload, 1) := by decide +kernel
theorem dL_law_356 : decode cL_law 356 = .ok (.invokevirtual 36, 3) := by decide +kernel
theorem dL_law_359 : decode cL_law 359 = .ok (.aload_n 2, 1) := by decide +kernel
theorem dL_law_360 : decode cL_law 360 = .ok (.aload_n 0, 1) := by decide +kernel
theorem dL_law_361 : decode cL_law 361 = .ok (.iload_n 3, 1) := by decide +kernel
theorem dL_law_362 : decode cL_law 362 = .ok (.iconst 1, 1) := by decide +kernel
theorem dL_law_363 : decode cL_law 363 = .ok (.iadd, 1) := by decide +kernel
theorem dL_law_364 : decode cL_law 364 = .ok (.iaload, 1) := by decide +kernel
theorem dL_law_365 : decode cL_law 365 = .ok (.aload_n 0, 1) := by decide +kernel
theorem dL_law_366 : decode cL_law 366 = .ok (.iload_n 3, 1) := by decide +kernel
theorem dL_law_367 : decode cL_law 367 = .ok (.iconst 2, 1) := by decide +kernel
theorem dL_law_368 : decode cL_law 368 = .ok (.iadd, 1) := by decide +kernel
theorem dL_law_369 : decode cL_law 369 = .ok (.iaload, 1) := by decide +kernel
theorem dL_law_370 : decode cL_law 370 = .ok (.invokevirtual 39, 3) := by decide +kernel
theorem dL_law_373 : decode cL_law 373 = .ok (.if_icmp .eq 570, 3) := by decide +kernel
theorem dL_law_376 : decode cL_law 376 = .ok (.iconst 0, 1) := by decide +kernel
theorem dL_law_377 : decode cL_law 377 = .ok (.ireturn, 1) := by decide +kernel
theorem dL_law_378 : decode cL_law 378 = .ok (.aload_n 1, 1) := by decide +kernel
theorem dL_law_379 : decode cL_law 379 = .ok (.aload_n 0, 1) := by decide +kernel
theorem dL_law_380 : decode cL_law 380 = .ok (.iload_n 3, 1) := by decide +kernel
theorem dL_law_381 : decode cL_law 381 = .ok (.iconst 1, 1) := by decide +kernel
theorem dL_law_382 : decode cL_law 382 = .ok (.iadd, 1) := by decide +kernel
theorem dL_law_383 : decode cL_law 383 = .ok (.iaload, 1) := by decide +kernel
theorem dL_law_384 : decode cL_law 384 = .ok (.aload_n 0, 1) := by decide +kernel
theorem dL_law_385 : decode cL_law 385 = .ok (.iload_n 3, 1) := by decide +kernel
theorem dL_law_386 : decode cL_law 386 = .ok (.iconst 2, 1) := by decide +kernel
theorem dL_law_387 : decode cL_law 387 = .ok (.iadd, 1) := by decide +kernel
theorem dL_law_388 : decode cL_law 388 = .ok (.iaload, 1) := by decide +kernel
theorem dL_law_389 : decode cL_law 389 = .ok (.invokevirtual 40, 3) := by decide +kernel
theorem dL_law_392 : decode cL_law 392 = .ok (.aload_n 2, 1) := by decide +kernel
theorem dL_law_393 : decode cL_law 393 = .ok (.aload_n 0, 1) := by decide +kernel
theorem dL_law_394 : decode cL_law 394 = .ok (.iload_n 3, 1) := by decide +kernel
theorem dL_law_395 : decode cL_law 395 = .ok (.iconst 1, 1) := by decide +kernel
theorem dL_law_396 : decode cL_law 396 = .ok (.iadd, 1) := by decide +kernel
theorem dL_law_397 : decode cL_law 397 = .ok (.iaload, 1) := by decide +kernel
theorem dL_law_398 : decode cL_law 398 = .ok (.aload_n 0, 1) := by decide +kernel
theorem dL_law_399 : decode cL_law 399 = .ok (.iload_n 3, 1) := by decide +kernel
theorem dL_law_400 : decode cL_law 400 = .ok (.iconst 2, 1) := by decide +kernel
theorem dL_law_401 : decode cL_law 401 = .ok (.iadd, 1) := by decide +kernel
theorem dL_law_402 : decode cL_law 402 = .ok (.iaload, 1) := by decide +kernel
theorem dL_law_403 : decode cL_law 403 = .ok (.invokevirtual 43, 3) := by decide +kernel
theorem dL_law_406 : decode cL_law 406 = .ok (.if_icmp .eq 537, 3) := by decide +kernel
theorem dL_law_409 : decode cL_law 409 = .ok (.iconst 0, 1) := by decide +kernel
theorem dL_law_410 : decode cL_law 410 = .ok (.ireturn, 1) := by decide +kernel
theorem dL_law_411 : decode cL_law 411 = .ok (.aload_n 1, 1) := by decide +kernel
theorem dL_law_412 : decode cL_law 412 = .ok (.aload_n 0, 1) := by decide +kernel
theorem dL_law_413 : decode cL_law 413 = .ok (.iload_n 3, 1) := by decide +kernel
theorem dL_law_414 : decode cL_law 414 = .ok (.iconst 1, 1) := by decide +kernel
theorem dL_law_415 : decode cL_law 415 = .ok (.iadd, 1) := by decide +kernel
theorem dL_law_416 : decode cL_law 416 = .ok (.iaload, 1) := by decide +kernel
theorem dL_law_417 : decode cL_law 417 = .ok (.invokevirtual 44, 3) := by decide +kernel
theorem dL_law_420 : decode cL_law 420 = .ok (.aload_n 2, 1) := by decide +kernel
theorem dL_law_421 : decode cL_law 421 = .ok (.aload_n 0, 1) := by decide +kernel
theorem dL_law_422 : decode cL_law 422 = .ok (.iload_n 3, 1) := by decide +kernel
theorem dL_law_423 : decode cL_law 423 = .ok (.iconst 1, 1) := by decide +kernel
theorem dL_law_424 : decode cL_law 424 = .ok (.iadd, 1) := by decide +kernel
theorem dL_law_425 : decode cL_law 425 = .ok (.iaload, 1) := by decide +kernel
theorem dL_law_426 : decode cL_law 426 = .ok (.invokevirtual 47, 3) := by decide +kernel
theorem dL_law_429 : decode cL_law 429 = .ok (.if_icmp .eq 514, 3) := by decide +kernel
theorem dL_law_432 : decode cL_law 432 = .ok (.iconst 0, 1) := by decide +kernel
theorem dL_law_433 : decode cL_law 433 = .ok (.ireturn, 1) := by decide +kernel
theorem dL_law_434 : decode cL_law 434 = .ok (.aload_n 1, 1) := by decide +kernel
theorem dL_law_435 : decode cL_law 435 = .ok (.aload_n 0, 1) := by decide +kernel
theorem dL_law_436 : decode cL_law 436 = .ok (.iload_n 3, 1) := by decide +kernel
theorem dL_law_437 : decode cL_law 437 = .ok (.iconst 1, 1) := by decide +kernel
theorem dL_law_438 : decode cL_law 438 = .ok (.iadd, 1) := by decide +kernel
theorem dL_law_439 : decode cL_law 439 = .ok (.iaload, 1) := by decide +kernel
theorem dL_law_440 : decode cL_law 440 = .ok (.i2l, 1) := by decide +kernel
theorem dL_law_441 : decode cL_law 441 = .ok (.bipush 32, 2) := by decide +kernel
theorem dL_law_443 : decode cL_law 443 = .ok (.lshl, 1) := by decide +kernel
theorem dL_law_444 : decode cL_law 444 = .ok (.aload_n 0, 1) := by decide +kernel
theorem dL_law_445 : decode cL_law 445 = .ok (.iload_n 3, 1) := by decide +kernel
theorem dL_law_446 : decode cL_law 446 = .ok (.iconst 2, 1) := by decide +kernel
theorem dL_law_447 : decode cL_law 447 = .ok (.iadd, 1) := by decide +kernel
theorem dL_law_448 : decode cL_law 448 = .ok (.iaload, 1) := by decide +kernel
theorem dL_law_449 : decode cL_law 449 = .ok (.i2l, 1) := by decide +kernel
theorem dL_law_450 : decode cL_law 450 = .ok (.ldc2_w 48, 3) := by decide +kernel
theorem dL_law_453 : decode cL_law 453 = .ok (.land, 1) := by decide +kernel
theorem dL_law_454 : decode cL_law 454 = .ok (.lor, 1) := by decide +kernel
theorem dL_law_455 : decode cL_law 455 = .ok (.invokevirtual 50, 3) := by decide +kernel
theorem dL_law_458 : decode cL_law 458 = .ok (.aload_n 2, 1) := by decide +kernel
theorem dL_law_459 : decode cL_law 459 = .ok (.aload_n 0, 1) := by decide +kernel
theorem dL_law_460 : decode cL_law 460 = .ok (.iload_n 3, 1) := by decide +kernel
theorem dL_law_461 : decode cL_law 461 = .ok (.iconst 1, 1) := by decide +kernel
theorem dL_law_462 : decode cL_law 462 = .ok (.iadd, 1) := by decide +kernel
theorem dL_law_463 : decode cL_law 463 = .ok (.iaload, 1) := by decide +kernel
theorem dL_law_464 : decode cL_law 464 = .ok (.i2l, 1) := by decide +kernel
theorem dL_law_465 : decode cL_law 465 = .ok (.bipush 32, 2) := by decide +kernel
theorem dL_law_467 : decode cL_law 467 = .ok (.lshl, 1) := by decide +kernel
theorem dL_law_468 : decode cL_law 468 = .ok (.aload_n 0, 1) := by decide +kernel
theorem dL_law_469 : decode cL_law 469 = .ok (.iload_n 3, 1) := by decide +kernel
theorem dL_law_470 : decode cL_law 470 = .ok (.iconst 2, 1) := by decide +kernel
theorem dL_law_471 : decode cL_law 471 = .ok (.iadd, 1) := by decide +kernel
theorem dL_law_472 : decode cL_law 472 = .ok (.iaload, 1) := by decide +kernel
theorem dL_law_473 : decode cL_law 473 = .ok (.i2l, 1) := by decide +kernel
theorem dL_law_474 : decode cL_law 474 = .ok (.ldc2_w 48, 3) := by decide +kernel
theorem dL_law_477 : decode cL_law 477 = .ok (.land, 1) := by decide +kernel
theorem dL_law_478 : decode cL_law 478 = .ok (.lor, 1) := by decide +kernel
theorem dL_law_479 : decode cL_law 479 = .ok (.invokevirtual 54, 3) := by decide +kernel
theorem dL_law_482 : decode cL_law 482 = .ok (.if_icmp .eq 461, 3) := by decide +kernel
theorem dL_law_485 : decode cL_law 485 = .ok (.iconst 0, 1) := by decide +kernel
theorem dL_law_486 : decode cL_law 486 = .ok (.ireturn, 1) := by decide +kernel
theorem dL_law_487 : decode cL_law 487 = .ok (.aload_n 1, 1) := by decide +kernel
theorem dL_law_488 : decode cL_law 488 = .ok (.invokevirtual 55, 3) := by decide +kernel
theorem dL_law_491 : decode cL_law 491 = .ok (.aload_n 2, 1) := by decide +kernel
theorem dL_law_492 : decode cL_law 492 = .ok (.invokevirtual 59, 3) := by decide +kernel
theorem dL_law_495 : decode cL_law 495 = .ok (.if_icmp .eq 448, 3) := by decide +kernel
theorem dL_law_498 : decode cL_law 498 = .ok (.iconst 0, 1) := by decide +kernel
theorem dL_law_499 : decode cL_law 499 = .ok (.ireturn, 1) := by decide +kernel
theorem dL_law_500 : decode cL_law 500 = .ok (.aload_n 1, 1) := by decide +kernel
theorem dL_law_501 : decode cL_law 501 = .ok (.invokevirtual 60, 3) := by decide +kernel
theorem dL_law_504 : decode cL_law 504 = .ok (.aload_n 2, 1) := by decide +kernel
theorem dL_law_505 : decode cL_law 505 = .ok (.invokevirtual 63, 3) := by decide +kernel
theorem dL_law_508 : decode cL_law 508 = .ok (.if_icmp .eq 435, 3) := by decide +kernel
theorem dL_law_511 : decode cL_law 511 = .ok (.iconst 0, 1) := by decide +kernel
theorem dL_law_512 : decode cL_law 512 = .ok (.ireturn, 1) := by decide +kernel
theorem dL_law_513 : decode cL_law 513 = .ok (.aload_n 1, 1) := by decide +kernel
theorem dL_law_514 : decode cL_law 514 = .ok (.invokevirtual 64, 3) := by decide +kernel
theorem dL_law_517 : decode cL_law 517 = .ok (.aload_n 2, 1) := by decide +kernel
theorem dL_law_518 : decode cL_law 518 = .ok (.invokevirtual 67, 3) := by decide +kernel
theorem dL_law_521 : decode cL_law 521 = .ok (.if_icmp .eq 422, 3) := by decide +kernel
theorem dL_law_524 : decode cL_law 524 = .ok (.iconst 0, 1) := by decide +kernel
theorem dL_law_525 : decode cL_law 525 = .ok (.ireturn, 1) := by decide +kernel
theorem dL_law_526 : decode cL_law 526 = .ok (.aload_n 1, 1) := by decide +kernel
theorem dL_law_527 : decode cL_law 527 = .ok (.aload_n 0, 1) := by decide +kernel
theorem dL_law_528 : decode cL_law 528 = .ok (.iload_n 3, 1) := by decide +kernel
theorem dL_law_529 : decode cL_law 529 = .ok (.iconst 1, 1) := by decide +kernel
theorem dL_law_530 : decode cL_law 530 = .ok (.iadd, 1) := by decide +kernel
theorem dL_law_531 : decode cL_law 531 = .ok (.iaload, 1) := by decide +kernel
theorem dL_law_532 : decode cL_law 532 = .ok (.aload_n 0, 1) := by decide +kernel
theorem dL_law_533 : decode cL_law 533 = .ok (.iload_n 3, 1) := by decide +kernel
theorem dL_law_534 : decode cL_law 534 = .ok (.iconst 2, 1) := by decide +kernel
theorem dL_law_535 : decode cL_law 535 = .ok (.iadd, 1) := by decide +kernel
theorem dL_law_536 : decode cL_law 536 = .ok (.iaload, 1) := by decide +kernel
theorem dL_law_537 : decode cL_law 537 = .ok (.invokevirtual 68, 3) := by decide +kernel
theorem dL_law_540 : decode cL_law 540 = .ok (.aload_n 2, 1) := by decide +kernel
theorem dL_law_541 : decode cL_law 541 = .ok (.aload_n 0, 1) := by decide +kernel
theorem dL_law_542 : decode cL_law 542 = .ok (.iload_n 3, 1) := by decide +kernel
theorem dL_law_543 : decode cL_law 543 = .ok (.iconst 1, 1) := by decide +kernel
theorem dL_law_544 : decode cL_law 544 = .ok (.iadd, 1) := by decide +kernel
theorem dL_law_545 : decode cL_law 545 = .ok (.iaload, 1) := by decide +kernel
theorem dL_law_546 : decode cL_law 546 = .ok (.aload_n 0, 1) := by decide +kernel
theorem dL_law_547 : decode cL_law 547 = .ok (.iload_n 3, 1) := by decide +kernel
theorem dL_law_548 : decode cL_law 548 = .ok (.iconst 2, 1) := by decide +kernel
theorem dL_law_549 : decode cL_law 549 = .ok (.iadd, 1) := by decide +kernel
theorem dL_law_550 : decode cL_law 550 = .ok (.iaload, 1) := by decide +kernel
theorem dL_law_551 : decode cL_law 551 = .ok (.invokevirtual 71, 3) := by decide +kernel
theorem dL_law_554 : decode cL_law 554 = .ok (.if_icmp .eq 389, 3) := by decide +kernel
theorem dL_law_557 : decode cL_law 557 = .ok (.iconst 0, 1) := by decide +kernel
theorem dL_law_558 : decode cL_law 558 = .ok (.ireturn, 1) := by decide +kernel
theorem dL_law_559 : decode cL_law 559 = .ok (.aload_n 1, 1) := by decide +kernel
theorem dL_law_560 : decode cL_law 560 = .ok (.aload_n 0, 1) := by decide +kernel
theorem dL_law_561 : decode cL_law 561 = .ok (.iload_n 3, 1) := by decide +kernel
theorem dL_law_562 : decode cL_law 562 = .ok (.iconst 1, 1) := by decide +kernel
theorem dL_law_563 : decode cL_law 563 = .ok (.iadd, 1) := by decide +kernel
theorem dL_law_564 : decode cL_law 564 = .ok (.iaload, 1) := by decide +kernel
theorem dL_law_565 : decode cL_law 565 = .ok (.invokevirtual 72, 3) := by decide +kernel
theorem dL_law_568 : decode cL_law 568 = .ok (.aload_n 2, 1) := by decide +kernel
theorem dL_law_569 : decode cL_law 569 = .ok (.aload_n 0, 1) := by decide +kernel
theorem dL_law_570 : decode cL_law 570 = .ok (.iload_n 3, 1) := by decide +kernel
theorem dL_law_571 : decode cL_law 571 = .ok (.iconst 1, 1) := by decide +kernel
theorem dL_law_572 : decode cL_law 572 = .ok (.iadd, 1) := by decide +kernel
theorem dL_law_573 : decode cL_law 573 = .ok (.iaload, 1) := by decide +kernel
theorem dL_law_574 : decode cL_law 574 = .ok (.invokevirtual 75, 3) := by decide +kernel
theorem dL_law_577 : decode cL_law 577 = .ok (.if_icmp .eq 366, 3) := by decide +kernel
theorem dL_law_580 : decode cL_law 580 = .ok (.iconst 0, 1) := by decide +kernel
theorem dL_law_581 : decode cL_law 581 = .ok (.ireturn, 1) := by decide +kernel
theorem dL_law_582 : decode cL_law 582 = .ok (.aload_n 1, 1) := by decide +kernel
theorem dL_law_583 : decode cL_law 583 = .ok (.aload_n 0, 1) := by decide +kernel
theorem dL_law_584 : decode cL_law 584 = .ok (.iload_n 3, 1) := by decide +kernel
theorem dL_law_585 : decode cL_law 585 = .ok (.iconst 1, 1) := by decide +kernel
theorem dL_law_586 : decode cL_law 586 = .ok (.iadd, 1) := by decide +kernel
theorem dL_law_587 : decode cL_law 587 = .ok (.iaload, 1) := by decide +kernel
theorem dL_law_588 : decode cL_law 588 = .ok (.aload_n 0, 1) := by decide +kernel
theorem dL_law_589 : decode cL_law 589 = .ok (.iload_n 3, 1) := by decide +kernel
theorem dL_law_590 : decode cL_law 590 = .ok (.iconst 2, 1) := by decide +kernel
theorem dL_law_591 : decode cL_law 591 = .ok (.iadd, 1) := by decide +kernel
theorem dL_law_592 : decode cL_law 592 = .ok (.iaload, 1) := by decide +kernel
theorem dL_law_593 : decode cL_law 593 = .ok (.aload_n 0, 1) := by decide +kernel
theorem dL_law_594 : decode cL_law 594 = .ok (.iload_n 3, 1) := by decide +kernel
theorem dL_law_595 : decode cL_law 595 = .ok (.iconst 3, 1) := by decide +kernel
theorem dL_law_596 : decode cL_law 596 = .ok (.iadd, 1) := by decide +kernel
theorem dL_law_597 : decode cL_law 597 = .ok (.iaload, 1) := by decide +kernel
theorem dL_law_598 : decode cL_law 598 = .ok (.ifCond .eq 7, 3) := by decide +kernel
theorem dL_law_601 : decode cL_law 601 = .ok (.iconst 1, 1) := by decide +kernel
theorem dL_law_602 : decode cL_law 602 = .ok (.goto 4, 3) := by decide +kernel
theorem dL_law_605 : decode cL_law 605 = .ok (.iconst 0, 1) := by decide +kernel
theorem dL_law_606 : decode cL_law 606 = .ok (.invokevirtual 76, 3) := by decide +kernel
theorem dL_law_609 : decode cL_law 609 = .ok (.aload_n 2, 1) := by decide +kernel
theorem dL_law_610 : decode cL_law 610 = .ok (.aload_n 0, 1) := by decide +kernel
theorem dL_law_611 : decode cL_law 611 = .ok (.iload_n 3, 1) := by decide +kernel
theorem dL_law_612 : decode cL_law 612 = .ok (.iconst 1, 1) := by decide +kernel
theorem dL_law_613 : decode cL_law 613 = .ok (.iadd, 1) := by decide +kernel
theorem dL_law_614 : decode cL_law 614 = .ok (.iaload, 1) := by decide +kernel
theorem dL_law_615 : decode cL_law 615 = .ok (.aload_n 0, 1) := by decide +kernel
theorem dL_law_616 : decode cL_law 616 = .ok (.iload_n 3, 1) := by decide +kernel
theorem dL_law_617 : decode cL_law 617 = .ok (.iconst 2, 1) := by decide +kernel
theorem dL_law_618 : decode cL_law 618 = .ok (.iadd, 1) := by decide +kernel
theorem dL_law_619 : decode cL_law 619 = .ok (.iaload, 1) := by decide +kernel
theorem dL_law_620 : decode cL_law 620 = .ok (.aload_n 0, 1) := by decide +kernel
theorem dL_law_621 : decode cL_law 621 = .ok (.iload_n 3, 1) := by decide +kernel
theorem dL_law_622 : decode cL_law 622 = .ok (.iconst 3, 1) := by decide +kernel
theorem dL_law_623 : decode cL_law 623 = .ok (.iadd, 1) := by decide +kernel
theorem dL_law_624 : decode cL_law 624 = .ok (.iaload, 1) := by decide +kernel
theorem dL_law_625 : decode cL_law 625 = .ok (.ifCond .eq 7, 3) := by decide +kernel
theorem dL_law_628 : decode cL_law 628 = .ok (.iconst 1, 1) := by decide +kernel
theorem dL_law_629 : decode cL_law 629 = .ok (.goto 4, 3) := by decide +kernel
theorem dL_law_632 : decode cL_law 632 = .ok (.iconst 0, 1) := by decide +kernel
theorem dL_law_633 : decode cL_law 633 = .ok (.invokevirtual 80, 3) := by decide +kernel
theorem dL_law_636 : decode cL_law 636 = .ok (.if_icmp .eq 307, 3) := by decide +kernel
theorem dL_law_639 : decode cL_law 639 = .ok (.iconst 0, 1) := by decide +kernel
theorem dL_law_640 : decode cL_law 640 = .ok (.ireturn, 1) := by decide +kernel
theorem dL_law_641 : decode cL_law 641 = .ok (.aload_n 1, 1) := by decide +kernel
theorem dL_law_642 : decode cL_law 642 = .ok (.aload_n 0, 1) := by decide +kernel
theorem dL_law_643 : decode cL_law 643 = .ok (.iload_n 3, 1) := by decide +kernel
theorem dL_law_644 : decode cL_law 644 = .ok (.iconst 1, 1) := by decide +kernel
theorem dL_law_645 : decode cL_law 645 = .ok (.iadd, 1) := by decide +kernel
theorem dL_law_646 : decode cL_law 646 = .ok (.iaload, 1) := by decide +kernel
theorem dL_law_647 : decode cL_law 647 = .ok (.invokevirtual 81, 3) := by decide +kernel
theorem dL_law_650 : decode cL_law 650 = .ok (.aload_n 2, 1) := by decide +kernel
theorem dL_law_651 : decode cL_law 651 = .ok (.aload_n 0, 1) := by decide +kernel
theorem dL_law_652 : decode cL_law 652 = .ok (.iload_n 3, 1) := by decide +kernel
theorem dL_law_653 : decode cL_law 653 = .ok (.iconst 1, 1) := by decide +kernel
theorem dL_law_654 : decode cL_law 654 = .ok (.iadd, 1) := by decide +kernel
theorem dL_law_655 : decode cL_law 655 = .ok (.iaload, 1) := by decide +kernel
theorem dL_law_656 : decode cL_law 656 = .ok (.invokevirtual 84, 3) := by decide +kernel
theorem dL_law_659 : decode cL_law 659 = .ok (.if_icmp .eq 284, 3) := by decide +kernel
theorem dL_law_662 : decode cL_law 662 = .ok (.iconst 0, 1) := by decide +kernel
theorem dL_law_663 : decode cL_law 663 = .ok (.ireturn, 1) := by decide +kernel
theorem dL_law_664 : decode cL_law 664 = .ok (.aload_n 1, 1) := by decide +kernel
theorem dL_law_665 : decode cL_law 665 = .ok (.aload_n 0, 1) := by decide +kernel
theorem dL_law_666 : decode cL_law 666 = .ok (.iload_n 3, 1) := by decide +kernel
theorem dL_law_667 : decode cL_law 667 = .ok (.iconst 1, 1) := by decide +kernel
theorem dL_law_668 : decode cL_law 668 = .ok (.iadd, 1) := by decide +kernel
theorem dL_law_669 : decode cL_law 669 = .ok (.iaload, 1) := by decide +kernel
theorem dL_law_670 : decode cL_law 670 = .ok (.aload_n 0, 1) := by decide +kernel
theorem dL_law_671 : decode cL_law 671 = .ok (.iload_n 3, 1) := by decide +kernel
theorem dL_law_672 : decode cL_law 672 = .ok (.iconst 2, 1) := by decide +kernel
theorem dL_law_673 : decode cL_law 673 = .ok (.iadd, 1) := by decide +kernel
theorem dL_law_674 : decode cL_law 674 = .ok (.iaload, 1) := by decide +kernel
theorem dL_law_675 : decode cL_law 675 = .ok (.aload_n 0, 1) := by decide +kernel
theorem dL_law_676 : decode cL_law 676 = .ok (.iload_n 3, 1) := by decide +kernel
theorem dL_law_677 : decode cL_law 677 = .ok (.iconst 3, 1) := by decide +kernel
theorem dL_law_678 : decode cL_law 678 = .ok (.iadd, 1) := by decide +kernel
theorem dL_law_679 : decode cL_law 679 = .ok (.iaload, 1) := by decide +kernel
theorem dL_law_680 : decode cL_law 680 = .ok (.invokevirtual 85, 3) := by decide +kernel
theorem dL_law_683 : decode cL_law 683 = .ok (.aload_n 2, 1) := by decide +kernel
theorem dL_law_684 : decode cL_law 684 = .ok (.aload_n 0, 1) := by decide +kernel
theorem dL_law_685 : decode cL_law 685 = .ok (.iload_n 3, 1) := by decide +kernel
theorem dL_law_686 : decode cL_law 686 = .ok (.iconst 1, 1) := by decide +kernel
theorem dL_law_687 : decode cL_law 687 = .ok (.iadd, 1) := by decide +kernel
theorem dL_law_688 : decode cL_law 688 = .ok (.iaload, 1) := by decide +kernel
theorem dL_law_689 : decode cL_law 689 = .ok (.aload_n 0, 1) := by decide +kernel
theorem dL_law_690 : decode cL_law 690 = .ok (.iload_n 3, 1) := by decide +kernel
theorem dL_law_691 : decode cL_law 691 = .ok (.iconst 2, 1) := by decide +kernel
theorem dL_law_692 : decode cL_law 692 = .ok (.iadd, 1) := by decide +kernel
theorem dL_law_693 : decode cL_law 693 = .ok (.iaload, 1) := by decide +kernel
theorem dL_law_694 : decode cL_law 694 = .ok (.aload_n 0, 1) := by decide +kernel
theorem dL_law_695 : decode cL_law 695 = .ok (.iload_n 3, 1) := by decide +kernel
theorem dL_law_696 : decode cL_law 696 = .ok (.iconst 3, 1) := by decide +kernel
theorem dL_law_697 : decode cL_law 697 = .ok (.iadd, 1) := by decide +kernel
theorem dL_law_698 : decode cL_law 698 = .ok (.iaload, 1) := by decide +kernel
theorem dL_law_699 : decode cL_law 699 = .ok (.invokevirtual 89, 3) := by decide +kernel
theorem dL_law_702 : decode cL_law 702 = .ok (.if_icmp .eq 241, 3) := by decide +kernel
theorem dL_law_705 : decode cL_law 705 = .ok (.iconst 0, 1) := by decide +kernel
theorem dL_law_706 : decode cL_law 706 = .ok (.ireturn, 1) := by decide +kernel
theorem dL_law_707 : decode cL_law 707 = .ok (.aload_n 1, 1) := by decide +kernel
theorem dL_law_708 : decode cL_law 708 = .ok (.aload_n 0, 1) := by decide +kernel
theorem dL_law_709 : decode cL_law 709 = .ok (.iload_n 3, 1) := by decide +kernel
theorem dL_law_710 : decode cL_law 710 = .ok (.iconst 1, 1) := by decide +kernel
theorem dL_law_711 : decode cL_law 711 = .ok (.iadd, 1) := by decide +kernel
theorem dL_law_712 : decode cL_law 712 = .ok (.iaload, 1) := by decide +kernel
theorem dL_law_713 : decode cL_law 713 = .ok (.invokevirtual 90, 3) := by decide +kernel
theorem dL_law_716 : decode cL_law 716 = .ok (.aload_n 2, 1) := by decide +kernel
theorem dL_law_717 : decode cL_law 717 = .ok (.aload_n 0, 1) := by decide +kernel
theorem dL_law_718 : decode cL_law 718 = .ok (.iload_n 3, 1) := by decide +kernel
theorem dL_law_719 : decode cL_law 719 = .ok (.iconst 1, 1) := by decide +kernel
theorem dL_law_720 : decode cL_law 720 = .ok (.iadd, 1) := by decide +kernel
theorem dL_law_721 : decode cL_law 721 = .ok (.iaload, 1) := by decide +kernel
theorem dL_law_722 : decode cL_law 722 = .ok (.invokevirtual 93, 3) := by decide +kernel
theorem dL_law_725 : decode cL_law 725 = .ok (.if_icmp .eq 218, 3) := by decide +kernel
theorem dL_law_728 : decode cL_law 728 = .ok (.iconst 0, 1) := by decide +kernel
theorem dL_law_729 : decode cL_law 729 = .ok (.ireturn, 1) := by decide +kernel
theorem dL_law_730 : decode cL_law 730 = .ok (.aload_n 1, 1) := by decide +kernel
theorem dL_law_731 : decode cL_law 731 = .ok (.aload_n 0, 1) := by decide +kernel
theorem dL_law_732 : decode cL_law 732 = .ok (.iload_n 3, 1) := by decide +kernel
theorem dL_law_733 : decode cL_law 733 = .ok (.iconst 1, 1) := by decide +kernel
theorem dL_law_734 : decode cL_law 734 = .ok (.iadd, 1) := by decide +kernel
theorem dL_law_735 : decode cL_law 735 = .ok (.iaload, 1) := by decide +kernel
theorem dL_law_736 : decode cL_law 736 = .ok (.aload_n 0, 1) := by decide +kernel
theorem dL_law_737 : decode cL_law 737 = .ok (.iload_n 3, 1) := by decide +kernel
theorem dL_law_738 : decode cL_law 738 = .ok (.iconst 2, 1) := by decide +kernel
theorem dL_law_739 : decode cL_law 739 = .ok (.iadd, 1) := by decide +kernel
theorem dL_law_740 : decode cL_law 740 = .ok (.iaload, 1) := by decide +kernel
theorem dL_law_741 : decode cL_law 741 = .ok (.aload_n 0, 1) := by decide +kernel
theorem dL_law_742 : decode cL_law 742 = .ok (.iload_n 3, 1) := by decide +kernel
theorem dL_law_743 : decode cL_law 743 = .ok (.iconst 3, 1) := by decide +kernel
theorem dL_law_744 : decode cL_law 744 = .ok (.iadd, 1) := by decide +kernel
theorem dL_law_745 : decode cL_law 745 = .ok (.iaload, 1) := by decide +kernel
theorem dL_law_746 : decode cL_law 746 = .ok (.invokevirtual 94, 3) := by decide +kernel
theorem dL_law_749 : decode cL_law 749 = .ok (.aload_n 2, 1) := by decide +kernel
theorem dL_law_750 : decode cL_law 750 = .ok (.aload_n 0, 1) := by decide +kernel
theorem dL_law_751 : decode cL_law 751 = .ok (.iload_n 3, 1) := by decide +kernel
theorem dL_law_752 : decode cL_law 752 = .ok (.iconst 1, 1) := by decide +kernel
theorem dL_law_753 : decode cL_law 753 = .ok (.iadd, 1) := by decide +kernel
theorem dL_law_754 : decode cL_law 754 = .ok (.iaload, 1) := by decide +kernel
theorem dL_law_755 : decode cL_law 755 = .ok (.aload_n 0, 1) := by decide +kernel
theorem dL_law_756 : decode cL_law 756 = .ok (.iload_n 3, 1) := by decide +kernel
theorem dL_law_757 : decode cL_law 757 = .ok (.iconst 2, 1) := by decide +kernel
theorem dL_law_758 : decode cL_law 758 = .ok (.iadd, 1) := by decide +kernel
theorem dL_law_759 : decode cL_law 759 = .ok (.iaload, 1) := by decide +kernel
theorem dL_law_760 : decode cL_law 760 = .ok (.aload_n 0, 1) := by decide +kernel
theorem dL_law_761 : decode cL_law 761 = .ok (.iload_n 3, 1) := by decide +kernel
theorem dL_law_762 : decode cL_law 762 = .ok (.iconst 3, 1) := by decide +kernel
theorem dL_law_763 : decode cL_law 763 = .ok (.iadd, 1) := by decide +kernel
theorem dL_law_764 : decode cL_law 764 = .ok (.iaload, 1) := by decide +kernel
theorem dL_law_765 : decode cL_law 765 = .ok (.invokevirtual 97, 3) := by decide +kernel
theorem dL_law_768 : decode cL_law 768 = .ok (.if_icmp .eq 175, 3) := by decide +kernel
theorem dL_law_771 : decode cL_law 771 = .ok (.iconst 0, 1) := by decide +kernel
theorem dL_law_772 : decode cL_law 772 = .ok (.ireturn, 1) := by decide +kernel
theorem dL_law_773 : decode cL_law 773 = .ok (.aload_n 1, 1) := by decide +kernel
theorem dL_law_774 : decode cL_law 774 = .ok (.aload_n 0, 1) := by decide +kernel
theorem dL_law_775 : decode cL_law 775 = .ok (.iload_n 3, 1) := by decide +kernel
theorem dL_law_776 : decode cL_law 776 = .ok (.iconst 1, 1) := by decide +kernel
theorem dL_law_777 : decode cL_law 777 = .ok (.iadd, 1) := by decide +kernel
theorem dL_law_778 : decode cL_law 778 = .ok (.iaload, 1) := by decide +kernel
theorem dL_law_779 : decode cL_law 779 = .ok (.aload_n 0, 1) := by decide +kernel
theorem dL_law_780 : decode cL_law 780 = .ok (.iload_n 3, 1) := by decide +kernel
theorem dL_law_781 : decode cL_law 781 = .ok (.iconst 2, 1) := by decide +kernel
theorem dL_law_782 : decode cL_law 782 = .ok (.iadd, 1) := by decide +kernel
theorem dL_law_783 : decode cL_law 783 = .ok (.iaload, 1) := by decide +kernel
theorem dL_law_784 : decode cL_law 784 = .ok (.aload_n 0, 1) := by decide +kernel
theorem dL_law_785 : decode cL_law 785 = .ok (.iload_n 3, 1) := by decide +kernel
theorem dL_law_786 : decode cL_law 786 = .ok (.iconst 3, 1) := by decide +kernel
theorem dL_law_787 : decode cL_law 787 = .ok (.iadd, 1) := by decide +kernel
theorem dL_law_788 : decode cL_law 788 = .ok (.iaload, 1) := by decide +kernel
theorem dL_law_789 : decode cL_law 789 = .ok (.aload_n 0, 1) := by decide +kernel
theorem dL_law_790 : decode cL_law 790 = .ok (.iload_n 3, 1) := by decide +kernel
theorem dL_law_791 : decode cL_law 791 = .ok (.iconst 4, 1) := by decide +kernel
theorem dL_law_792 : decode cL_law 792 = .ok (.iadd, 1) := by decide +kernel
theorem dL_law_793 : decode cL_law 793 = .ok (.iaload, 1) := by decide +kernel
theorem dL_law_794 : decode cL_law 794 = .ok (.aload_n 0, 1) := by decide +kernel
theorem dL_law_795 : decode cL_law 795 = .ok (.iload_n 3, 1) := by decide +kernel
theorem dL_law_796 : decode cL_law 796 = .ok (.iconst 5, 1) := by decide +kernel
theorem dL_law_797 : decode cL_law 797 = .ok (.iadd, 1) := by decide +kernel
theorem dL_law_798 : decode cL_law 798 = .ok (.iaload, 1) := by decide +kernel
theorem dL_law_799 : decode cL_law 799 = .ok (.invokevirtual 98, 3) := by decide +kernel
theorem dL_law_802 : decode cL_law 802 = .ok (.aload_n 2, 1) := by decide +kernel
theorem dL_law_803 : decode cL_law 803 = .ok (.aload_n 0, 1) := by decide +kernel
theorem dL_law_804 : decode cL_law 804 = .ok (.iload_n 3, 1) := by decide +kernel
theorem dL_law_805 : decode cL_law 805 = .ok (.iconst 1, 1) := by decide +kernel
theorem dL_law_806 : decode cL_law 806 = .ok (.iadd, 1) := by decide +kernel
theorem dL_law_807 : decode cL_law 807 = .ok (.iaload, 1) := by decide +kernel
theorem dL_law_808 : decode cL_law 808 = .ok (.aload_n 0, 1) := by decide +kernel
theorem dL_law_809 : decode cL_law 809 = .ok (.iload_n 3, 1) := by decide +kernel
theorem dL_law_810 : decode cL_law 810 = .ok (.iconst 2, 1) := by decide +kernel
theorem dL_law_811 : decode cL_law 811 = .ok (.iadd, 1) := by decide +kernel
theorem dL_law_812 : decode cL_law 812 = .ok (.iaload, 1) := by decide +kernel
theorem dL_law_813 : decode cL_law 813 = .ok (.aload_n 0, 1) := by decide +kernel
theorem dL_law_814 : decode cL_law 814 = .ok (.iload_n 3, 1) := by decide +kernel
theorem dL_law_815 : decode cL_law 815 = .ok (.iconst 3, 1) := by decide +kernel
theorem dL_law_816 : decode cL_law 816 = .ok (.iadd, 1) := by decide +kernel
theorem dL_law_817 : decode cL_law 817 = .ok (.iaload, 1) := by decide +kernel
theorem dL_law_818 : decode cL_law 818 = .ok (.aload_n 0, 1) := by decide +kernel
theorem dL_law_819 : decode cL_law 819 = .ok (.iload_n 3, 1) := by decide +kernel
theorem dL_law_820 : decode cL_law 820 = .ok (.iconst 4, 1) := by decide +kernel
theorem dL_law_821 : decode cL_law 821 = .ok (.iadd, 1) := by decide +kernel
theorem dL_law_822 : decode cL_law 822 = .ok (.iaload, 1) := by decide +kernel
theorem dL_law_823 : decode cL_law 823 = .ok (.aload_n 0, 1) := by decide +kernel
theorem dL_law_824 : decode cL_law 824 = .ok (.iload_n 3, 1) := by decide +kernel
theorem dL_law_825 : decode cL_law 825 = .ok (.iconst 5, 1) := by decide +kernel
theorem dL_law_826 : decode cL_law 826 = .ok (.iadd, 1) := by decide +kernel
theorem dL_law_827 : decode cL_law 827 = .ok (.iaload, 1) := by decide +kernel
theorem dL_law_828 : decode cL_law 828 = .ok (.invokevirtual 102, 3) := by decide +kernel
theorem dL_law_831 : decode cL_law 831 = .ok (.lcmp, 1) := by decide +kernel
theorem dL_law_832 : decode cL_law 832 = .ok (.ifCond .eq 111, 3) := by decide +kernel
theorem dL_law_835 : decode cL_law 835 = .ok (.iconst 0, 1) := by decide +kernel
theorem dL_law_836 : decode cL_law 836 = .ok (.ireturn, 1) := by decide +kernel
theorem dL_law_837 : decode cL_law 837 = .ok (.aload_n 1, 1) := by decide +kernel
theorem dL_law_838 : decode cL_law 838 = .ok (.aload_n 0, 1) := by decide +kernel
theorem dL_law_839 : decode cL_law 839 = .ok (.iload_n 3, 1) := by decide +kernel
theorem dL_law_840 : decode cL_law 840 = .ok (.iconst 1, 1) := by decide +kernel
theorem dL_law_841 : decode cL_law 841 = .ok (.iadd, 1) := by decide +kernel
theorem dL_law_842 : decode cL_law 842 = .ok (.iaload, 1) := by decide +kernel
theorem dL_law_843 : decode cL_law 843 = .ok (.aload_n 0, 1) := by decide +kernel
theorem dL_law_844 : decode cL_law 844 = .ok (.iload_n 3, 1) := by decide +kernel
theorem dL_law_845 : decode cL_law 845 = .ok (.iconst 2, 1) := by decide +kernel
theorem dL_law_846 : decode cL_law 846 = .ok (.iadd, 1) := by decide +kernel
theorem dL_law_847 : decode cL_law 847 = .ok (.iaload, 1) := by decide +kernel
theorem dL_law_848 : decode cL_law 848 = .ok (.aload_n 0, 1) := by decide +kernel
theorem dL_law_849 : decode cL_law 849 = .ok (.iload_n 3, 1) := by decide +kernel
theorem dL_law_850 : decode cL_law 850 = .ok (.iconst 3, 1) := by decide +kernel
theorem dL_law_851 : decode cL_law 851 = .ok (.iadd, 1) := by decide +kernel
theorem dL_law_852 : decode cL_law 852 = .ok (.iaload, 1) := by decide +kernel
theorem dL_law_853 : decode cL_law 853 = .ok (.invokevirtual 103, 3) := by decide +kernel
theorem dL_law_856 : decode cL_law 856 = .ok (.aload_n 2, 1) := by decide +kernel
theorem dL_law_857 : decode cL_law 857 = .ok (.aload_n 0, 1) := by decide +kernel
theorem dL_law_858 : decode cL_law 858 = .ok (.iload_n 3, 1) := by decide +kernel
theorem dL_law_859 : decode cL_law 859 = .ok (.iconst 1, 1) := by decide +kernel
theorem dL_law_860 : decode cL_law 860 = .ok (.iadd, 1) := by decide +kernel
theorem dL_law_861 : decode cL_law 861 = .ok (.iaload, 1) := by decide +kernel
theorem dL_law_862 : decode cL_law 862 = .ok (.aload_n 0, 1) := by decide +kernel
theorem dL_law_863 : decode cL_law 863 = .ok (.iload_n 3, 1) := by decide +kernel
end
section
theorem dL_law_864 : decode cL_law 864 = .ok (.iconst 2, 1) := by decide +kernel
theorem dL_law_865 : decode cL_law 865 = .ok (.iadd, 1) := by decide +kernel
theorem dL_law_866 : decode cL_law 866 = .ok (.iaload, 1) := by decide +kernel
theorem dL_law_867 : decode cL_law 867 = .ok (.aload_n 0, 1) := by decide +kernel
theorem dL_law_868 : decode cL_law 868 = .ok (.iload_n 3, 1) := by decide +kernel
theorem dL_law_869 : decode cL_law 869 = .ok (.iconst 3, 1) := by decide +kernel
theorem dL_law_870 : decode cL_law 870 = .ok (.iadd, 1) := by decide +kernel
theorem dL_law_871 : decode cL_law 871 = .ok (.iaload, 1) := by decide +kernel
theorem dL_law_872 : decode cL_law 872 = .ok (.invokevirtual 106, 3) := by decide +kernel
theorem dL_law_875 : decode cL_law 875 = .ok (.if_icmp .eq 68, 3) := by decide +kernel
theorem dL_law_878 : decode cL_law 878 = .ok (.iconst 0, 1) := by decide +kernel
theorem dL_law_879 : decode cL_law 879 = .ok (.ireturn, 1) := by decide +kernel
theorem dL_law_880 : decode cL_law 880 = .ok (.aload_n 1, 1) := by decide +kernel
theorem dL_law_881 : decode cL_law 881 = .ok (.invokevirtual 107, 3) := by decide +kernel
theorem dL_law_884 : decode cL_law 884 = .ok (.aload_n 2, 1) := by decide +kernel
theorem dL_law_885 : decode cL_law 885 = .ok (.invokevirtual 110, 3) := by decide +kernel
theorem dL_law_888 : decode cL_law 888 = .ok (.if_icmp .eq 55, 3) := by decide +kernel
theorem dL_law_891 : decode cL_law 891 = .ok (.iconst 0, 1) := by decide +kernel
theorem dL_law_892 : decode cL_law 892 = .ok (.ireturn, 1) := by decide +kernel
theorem dL_law_893 : decode cL_law 893 = .ok (.aload_n 1, 1) := by decide +kernel
theorem dL_law_894 : decode cL_law 894 = .ok (.invokevirtual 111, 3) := by decide +kernel
theorem dL_law_897 : decode cL_law 897 = .ok (.aload_n 2, 1) := by decide +kernel
theorem dL_law_898 : decode cL_law 898 = .ok (.invokevirtual 114, 3) := by decide +kernel
theorem dL_law_901 : decode cL_law 901 = .ok (.if_icmp .eq 42, 3) := by decide +kernel
theorem dL_law_904 : decode cL_law 904 = .ok (.iconst 0, 1) := by decide +kernel
theorem dL_law_905 : decode cL_law 905 = .ok (.ireturn, 1) := by decide +kernel
theorem dL_law_906 : decode cL_law 906 = .ok (.aload_n 1, 1) := by decide +kernel
theorem dL_law_907 : decode cL_law 907 = .ok (.aload_n 0, 1) := by decide +kernel
theorem dL_law_908 : decode cL_law 908 = .ok (.iload_n 3, 1) := by decide +kernel
theorem dL_law_909 : decode cL_law 909 = .ok (.iconst 1, 1) := by decide +kernel
theorem dL_law_910 : decode cL_law 910 = .ok (.iadd, 1) := by decide +kernel
theorem dL_law_911 : decode cL_law 911 = .ok (.iaload, 1) := by decide +kernel
theorem dL_law_912 : decode cL_law 912 = .ok (.invokevirtual 115, 3) := by decide +kernel
theorem dL_law_915 : decode cL_law 915 = .ok (.aload_n 2, 1) := by decide +kernel
theorem dL_law_916 : decode cL_law 916 = .ok (.aload_n 0, 1) := by decide +kernel
theorem dL_law_917 : decode cL_law 917 = .ok (.iload_n 3, 1) := by decide +kernel
theorem dL_law_918 : decode cL_law 918 = .ok (.iconst 1, 1) := by decide +kernel
theorem dL_law_919 : decode cL_law 919 = .ok (.iadd, 1) := by decide +kernel
theorem dL_law_920 : decode cL_law 920 = .ok (.iaload, 1) := by decide +kernel
theorem dL_law_921 : decode cL_law 921 = .ok (.invokevirtual 118, 3) := by decide +kernel
theorem dL_law_924 : decode cL_law 924 = .ok (.if_icmp .eq 19, 3) := by decide +kernel
theorem dL_law_927 : decode cL_law 927 = .ok (.iconst 0, 1) := by decide +kernel
theorem dL_law_928 : decode cL_law 928 = .ok (.ireturn, 1) := by decide +kernel
theorem dL_law_929 : decode cL_law 929 = .ok (.aload_n 1, 1) := by decide +kernel
theorem dL_law_930 : decode cL_law 930 = .ok (.invokevirtual 119, 3) := by decide +kernel
theorem dL_law_933 : decode cL_law 933 = .ok (.aload_n 2, 1) := by decide +kernel
theorem dL_law_934 : decode cL_law 934 = .ok (.invokevirtual 123, 3) := by decide +kernel
theorem dL_law_937 : decode cL_law 937 = .ok (.lcmp, 1) := by decide +kernel
theorem dL_law_938 : decode cL_law 938 = .ok (.ifCond .eq 5, 3) := by decide +kernel
theorem dL_law_941 : decode cL_law 941 = .ok (.iconst 0, 1) := by decide +kernel
theorem dL_law_942 : decode cL_law 942 = .ok (.ireturn, 1) := by decide +kernel
theorem dL_law_943 : decode cL_law 943 = .ok (.iinc 3 7, 3) := by decide +kernel
theorem dL_law_946 : decode cL_law 946 = .ok (.goto (-928), 3) := by decide +kernel
theorem dL_law_949 : decode cL_law 949 = .ok (.iconst 1, 1) := by decide +kernel
theorem dL_law_950 : decode cL_law 950 = .ok (.ireturn, 1) := by decide +kernel
end
section
theorem dX0_init_0 : decode cX0_init 0 = .ok (.aload_n 0, 1) := by decide +kernel
theorem dX0_init_1 : decode cX0_init 1 = .ok (.invokespecial 3, 3) := by decide +kernel
theorem dX0_init_4 : decode cX0_init 4 = .ok (.return_, 1) := by decide +kernel
theorem dX0_depthOf_0 : decode cX0_depthOf 0 = .ok (.iload_n 0, 1) := by decide +kernel
theorem dX0_depthOf_1 : decode cX0_depthOf 1 = .ok (.iconst 1, 1) := by decide +kernel
theorem dX0_depthOf_2 : decode cX0_depthOf 2 = .ok (.if_icmp .ne 9, 3) := by decide +kernel
theorem dX0_depthOf_5 : decode cX0_depthOf 5 = .ok (.iconst 2, 1) := by decide +kernel
theorem dX0_depthOf_6 : decode cX0_depthOf 6 = .ok (.iload_n 1, 1) := by decide +kernel
theorem dX0_depthOf_7 : decode cX0_depthOf 7 = .ok (.imul, 1) := by decide +kernel
theorem dX0_depthOf_8 : decode cX0_depthOf 8 = .ok (.goto 4, 3) := by decide +kernel
theorem dX0_depthOf_11 : decode cX0_depthOf 11 = .ok (.iload_n 1, 1) := by decide +kernel
theorem dX0_depthOf_12 : decode cX0_depthOf 12 = .ok (.ireturn, 1) := by decide +kernel
theorem dX0_isOfKind_0 : decode cX0_isOfKind 0 = .ok (.iload_n 1, 1) := by decide +kernel
theorem dX0_isOfKind_1 : decode cX0_isOfKind 1 = .ok (.ifCond .eq 18, 3) := by decide +kernel
theorem dX0_isOfKind_4 : decode cX0_isOfKind 4 = .ok (.iload_n 0, 1) := by decide +kernel
theorem dX0_isOfKind_5 : decode cX0_isOfKind 5 = .ok (.iload_n 1, 1) := by decide +kernel
theorem dX0_isOfKind_6 : decode cX0_isOfKind 6 = .ok (.if_icmp .eq 13, 3) := by decide +kernel
theorem dX0_isOfKind_9 : decode cX0_isOfKind 9 = .ok (.iload_n 1, 1) := by decide +kernel
theorem dX0_isOfKind_10 : decode cX0_isOfKind 10 = .ok (.iconst 2, 1) := by decide +kernel
theorem dX0_isOfKind_11 : decode cX0_isOfKind 11 = .ok (.if_icmp .ne 12, 3) := by decide +kernel
theorem dX0_isOfKind_14 : decode cX0_isOfKind 14 = .ok (.iload_n 0, 1) := by decide +kernel
theorem dX0_isOfKind_15 : decode cX0_isOfKind 15 = .ok (.iconst 4, 1) := by decide +kernel
theorem dX0_isOfKind_16 : decode cX0_isOfKind 16 = .ok (.if_icmp .ne 7, 3) := by decide +kernel
theorem dX0_isOfKind_19 : decode cX0_isOfKind 19 = .ok (.iconst 1, 1) := by decide +kernel
theorem dX0_isOfKind_20 : decode cX0_isOfKind 20 = .ok (.goto 4, 3) := by decide +kernel
theorem dX0_isOfKind_23 : decode cX0_isOfKind 23 = .ok (.iconst 0, 1) := by decide +kernel
theorem dX0_isOfKind_24 : decode cX0_isOfKind 24 = .ok (.ireturn, 1) := by decide +kernel
theorem dX0_cutBehindThaw_0 : decode cX0_cutBehindThaw 0 = .ok (.iload_n 0, 1) := by decide +kernel
theorem dX0_cutBehindThaw_1 : decode cX0_cutBehindThaw 1 = .ok (.iconst 3, 1) := by decide +kernel
theorem dX0_cutBehindThaw_2 : decode cX0_cutBehindThaw 2 = .ok (.if_icmp .eq 7, 3) := by decide +kernel
theorem dX0_cutBehindThaw_5 : decode cX0_cutBehindThaw 5 = .ok (.iload_n 3, 1) := by decide +kernel
theorem dX0_cutBehindThaw_6 : decode cX0_cutBehindThaw 6 = .ok (.ifCond .ne 5, 3) := by decide +kernel
theorem dX0_cutBehindThaw_9 : decode cX0_cutBehindThaw 9 = .ok (.iconst 0, 1) := by decide +kernel
theorem dX0_cutBehindThaw_10 : decode cX0_cutBehindThaw 10 = .ok (.ireturn, 1) := by decide +kernel
theorem dX0_cutBehindThaw_11 : decode cX0_cutBehindThaw 11 = .ok (.iload_n 0, 1) := by decide +kernel
theorem dX0_cutBehindThaw_12 : decode cX0_cutBehindThaw 12 = .ok (.iconst 4, 1) := by decide +kernel
theorem dX0_cutBehindThaw_13 : decode cX0_cutBehindThaw 13 = .ok (.if_icmp .ne 11, 3) := by decide +kernel
theorem dX0_cutBehindThaw_16 : decode cX0_cutBehindThaw 16 = .ok (.iload_n 2, 1) := by decide +kernel
theorem dX0_cutBehindThaw_17 : decode cX0_cutBehindThaw 17 = .ok (.iconst 1, 1) := by decide +kernel
theorem dX0_cutBehindThaw_18 : decode cX0_cutBehindThaw 18 = .ok (.iadd, 1) := by decide +kernel
theorem dX0_cutBehindThaw_19 : decode cX0_cutBehindThaw 19 = .ok (.iconst 2, 1) := by decide +kernel
theorem dX0_cutBehindThaw_20 : decode cX0_cutBehindThaw 20 = .ok (.idiv, 1) := by decide +kernel
theorem dX0_cutBehindThaw_21 : decode cX0_cutBehindThaw 21 = .ok (.goto 4, 3) := by decide +kernel
theorem dX0_cutBehindThaw_24 : decode cX0_cutBehindThaw 24 = .ok (.iload_n 2, 1) := by decide +kernel
theorem dX0_cutBehindThaw_25 : decode cX0_cutBehindThaw 25 = .ok (.istore 4, 2) := by decide +kernel
theorem dX0_cutBehindThaw_27 : decode cX0_cutBehindThaw 27 = .ok (.iconst 0, 1) := by decide +kernel
theorem dX0_cutBehindThaw_28 : decode cX0_cutBehindThaw 28 = .ok (.iload_n 1, 1) := by decide +kernel
theorem dX0_cutBehindThaw_29 : decode cX0_cutBehindThaw 29 = .ok (.iload 4, 2) := by decide +kernel
theorem dX0_cutBehindThaw_31 : decode cX0_cutBehindThaw 31 = .ok (.isub, 1) := by decide +kernel
theorem dX0_cutBehindThaw_32 : decode cX0_cutBehindThaw 32 = .ok (.invokestatic 9, 3) := by decide +kernel
theorem dX0_cutBehindThaw_35 : decode cX0_cutBehindThaw 35 = .ok (.ireturn, 1) := by decide +kernel
theorem dX0_concern_0 : decode cX0_concern 0 = .ok (.aload_n 0, 1) := by decide +kernel
theorem dX0_concern_1 : decode cX0_concern 1 = .ok (.iload_n 1, 1) := by decide +kernel
theorem dX0_concern_2 : decode cX0_concern 2 = .ok (.putfield 15, 3) := by decide +kernel
theorem dX0_concern_5 : decode cX0_concern 5 = .ok (.aload_n 0, 1) := by decide +kernel
theorem dX0_concern_6 : decode cX0_concern 6 = .ok (.iload_n 2, 1) := by decide +kernel
theorem dX0_concern_7 : decode cX0_concern 7 = .ok (.putfield 21, 3) := by decide +kernel
theorem dX0_concern_10 : decode cX0_concern 10 = .ok (.aload_n 0, 1) := by decide +kernel
theorem dX0_concern_11 : decode cX0_concern 11 = .ok (.iload_n 3, 1) := by decide +kernel
theorem dX0_concern_12 : decode cX0_concern 12 = .ok (.putfield 24, 3) := by decide +kernel
theorem dX0_concern_15 : decode cX0_concern 15 = .ok (.aload_n 0, 1) := by decide +kernel
theorem dX0_concern_16 : decode cX0_concern 16 = .ok (.iload 4, 2) := by decide +kernel
theorem dX0_concern_18 : decode cX0_concern 18 = .ok (.putfield 27, 3) := by decide +kernel
theorem dX0_concern_21 : decode cX0_concern 21 = .ok (.return_, 1) := by decide +kernel
theorem dX0_cutIn_0 : decode cX0_cutIn 0 = .ok (.aload_n 0, 1) := by decide +kernel
theorem dX0_cutIn_1 : decode cX0_cutIn 1 = .ok (.iload_n 1, 1) := by decide +kernel
theorem dX0_cutIn_2 : decode cX0_cutIn 2 = .ok (.putfield 30, 3) := by decide +kernel
theorem dX0_cutIn_5 : decode cX0_cutIn 5 = .ok (.aload_n 0, 1) := by decide +kernel
theorem dX0_cutIn_6 : decode cX0_cutIn 6 = .ok (.iload_n 2, 1) := by decide +kernel
theorem dX0_cutIn_7 : decode cX0_cutIn 7 = .ok (.putfield 33, 3) := by decide +kernel
theorem dX0_cutIn_10 : decode cX0_cutIn 10 = .ok (.aload_n 0, 1) := by decide +kernel
theorem dX0_cutIn_11 : decode cX0_cutIn 11 = .ok (.iconst 0, 1) := by decide +kernel
theorem dX0_cutIn_12 : decode cX0_cutIn 12 = .ok (.putfield 36, 3) := by decide +kernel
theorem dX0_cutIn_15 : decode cX0_cutIn 15 = .ok (.aload_n 0, 1) := by decide +kernel
theorem dX0_cutIn_16 : decode cX0_cutIn 16 = .ok (.iconst 0, 1) := by decide +kernel
theorem dX0_cutIn_17 : decode cX0_cutIn 17 = .ok (.putfield 40, 3) := by decide +kernel
theorem dX0_cutIn_20 : decode cX0_cutIn 20 = .ok (.return_, 1) := by decide +kernel
theorem dX0_keepBlock_0 : decode cX0_keepBlock 0 = .ok (.aload_n 0, 1) := by decide +kernel
theorem dX0_keepBlock_1 : decode cX0_keepBlock 1 = .ok (.iconst 1, 1) := by decide +kernel
theorem dX0_keepBlock_2 : decode cX0_keepBlock 2 = .ok (.putfield 36, 3) := by decide +kernel
theorem dX0_keepBlock_5 : decode cX0_keepBlock 5 = .ok (.aload_n 0, 1) := by decide +kernel
theorem dX0_keepBlock_6 : decode cX0_keepBlock 6 = .ok (.iload_n 1, 1) := by decide +kernel
theorem dX0_keepBlock_7 : decode cX0_keepBlock 7 = .ok (.putfield 40, 3) := by decide +kernel
theorem dX0_keepBlock_10 : decode cX0_keepBlock 10 = .ok (.return_, 1) := by decide +kernel
theorem dX0_copyFrom_0 : decode cX0_copyFrom 0 = .ok (.aload_n 0, 1) := by decide +kernel
theorem dX0_copyFrom_1 : decode cX0_copyFrom 1 = .ok (.aload_n 1, 1) := by decide +kernel
theorem dX0_copyFrom_2 : decode cX0_copyFrom 2 = .ok (.getfield 15, 3) := by decide +kernel
theorem dX0_copyFrom_5 : decode cX0_copyFrom 5 = .ok (.aload_n 1, 1) := by decide +kernel
theorem dX0_copyFrom_6 : decode cX0_copyFrom 6 = .ok (.getfield 21, 3) := by decide +kernel
theorem dX0_copyFrom_9 : decode cX0_copyFrom 9 = .ok (.aload_n 1, 1) := by decide +kernel
theorem dX0_copyFrom_10 : decode cX0_copyFrom 10 = .ok (.getfield 24, 3) := by decide +kernel
theorem dX0_copyFrom_13 : decode cX0_copyFrom 13 = .ok (.aload_n 1, 1) := by decide +kernel
theorem dX0_copyFrom_14 : decode cX0_copyFrom 14 = .ok (.getfield 27, 3) := by decide +kernel
theorem dX0_copyFrom_17 : decode cX0_copyFrom 17 = .ok (.invokevirtual 43, 3) := by decide +kernel
theorem dX0_copyFrom_20 : decode cX0_copyFrom 20 = .ok (.aload_n 0, 1) := by decide +kernel
theorem dX0_copyFrom_21 : decode cX0_copyFrom 21 = .ok (.aload_n 1, 1) := by decide +kernel
theorem dX0_copyFrom_22 : decode cX0_copyFrom 22 = .ok (.getfield 30, 3) := by decide +kernel
theorem dX0_copyFrom_25 : decode cX0_copyFrom 25 = .ok (.aload_n 1, 1) := by decide +kernel
theorem dX0_copyFrom_26 : decode cX0_copyFrom 26 = .ok (.getfield 33, 3) := by decide +kernel
theorem dX0_copyFrom_29 : decode cX0_copyFrom 29 = .ok (.invokevirtual 47, 3) := by decide +kernel
theorem dX0_copyFrom_32 : decode cX0_copyFrom 32 = .ok (.aload_n 0, 1) := by decide +kernel
theorem dX0_copyFrom_33 : decode cX0_copyFrom 33 = .ok (.aload_n 1, 1) := by decide +kernel
theorem dX0_copyFrom_34 : decode cX0_copyFrom 34 = .ok (.getfield 36, 3) := by decide +kernel
theorem dX0_copyFrom_37 : decode cX0_copyFrom 37 = .ok (.putfield 36, 3) := by decide +kernel
theorem dX0_copyFrom_40 : decode cX0_copyFrom 40 = .ok (.aload_n 0, 1) := by decide +kernel
theorem dX0_copyFrom_41 : decode cX0_copyFrom 41 = .ok (.aload_n 1, 1) := by decide +kernel
theorem dX0_copyFrom_42 : decode cX0_copyFrom 42 = .ok (.getfield 40, 3) := by decide +kernel
theorem dX0_copyFrom_45 : decode cX0_copyFrom 45 = .ok (.putfield 40, 3) := by decide +kernel
theorem dX0_copyFrom_48 : decode cX0_copyFrom 48 = .ok (.return_, 1) := by decide +kernel
theorem dX0_isThere_0 : decode cX0_isThere 0 = .ok (.aload_n 0, 1) := by decide +kernel
theorem dX0_isThere_1 : decode cX0_isThere 1 = .ok (.getfield 33, 3) := by decide +kernel
theorem dX0_isThere_4 : decode cX0_isThere 4 = .ok (.ifCond .le 14, 3) := by decide +kernel
theorem dX0_isThere_7 : decode cX0_isThere 7 = .ok (.aload_n 0, 1) := by decide +kernel
theorem dX0_isThere_8 : decode cX0_isThere 8 = .ok (.getfield 36, 3) := by decide +kernel
theorem dX0_isThere_11 : decode cX0_isThere 11 = .ok (.ifCond .ne 7, 3) := by decide +kernel
theorem dX0_isThere_14 : decode cX0_isThere 14 = .ok (.iconst 1, 1) := by decide +kernel
theorem dX0_isThere_15 : decode cX0_isThere 15 = .ok (.goto 4, 3) := by decide +kernel
theorem dX0_isThere_18 : decode cX0_isThere 18 = .ok (.iconst 0, 1) := by decide +kernel
theorem dX0_isThere_19 : decode cX0_isThere 19 = .ok (.ireturn, 1) := by decide +kernel
theorem dX0_worthOn_0 : decode cX0_worthOn 0 = .ok (.aload_n 0, 1) := by decide +kernel
theorem dX0_worthOn_1 : decode cX0_worthOn 1 = .ok (.getfield 33, 3) := by decide +kernel
theorem dX0_worthOn_4 : decode cX0_worthOn 4 = .ok (.ifCond .ne 5, 3) := by decide +kernel
theorem dX0_worthOn_7 : decode cX0_worthOn 7 = .ok (.iconst 0, 1) := by decide +kernel
theorem dX0_worthOn_8 : decode cX0_worthOn 8 = .ok (.ireturn, 1) := by decide +kernel
theorem dX0_worthOn_9 : decode cX0_worthOn 9 = .ok (.aload_n 0, 1) := by decide +kernel
theorem dX0_worthOn_10 : decode cX0_worthOn 10 = .ok (.getfield 36, 3) := by decide +kernel
theorem dX0_worthOn_13 : decode cX0_worthOn 13 = .ok (.ifCond .eq 10, 3) := by decide +kernel
theorem dX0_worthOn_16 : decode cX0_worthOn 16 = .ok (.aload_n 0, 1) := by decide +kernel
theorem dX0_worthOn_17 : decode cX0_worthOn 17 = .ok (.getfield 40, 3) := by decide +kernel
theorem dX0_worthOn_20 : decode cX0_worthOn 20 = .ok (.goto 4, 3) := by decide +kernel
theorem dX0_worthOn_23 : decode cX0_worthOn 23 = .ok (.iload_n 1, 1) := by decide +kernel
theorem dX0_worthOn_24 : decode cX0_worthOn 24 = .ok (.istore_n 2, 1) := by decide +kernel
theorem dX0_worthOn_25 : decode cX0_worthOn 25 = .ok (.aload_n 0, 1) := by decide +kernel
theorem dX0_worthOn_26 : decode cX0_worthOn 26 = .ok (.getfield 15, 3) := by decide +kernel
theorem dX0_worthOn_29 : decode cX0_worthOn 29 = .ok (.iconst 2, 1) := by decide +kernel
theorem dX0_worthOn_30 : decode cX0_worthOn 30 = .ok (.invokestatic 51, 3) := by decide +kernel
theorem dX0_worthOn_33 : decode cX0_worthOn 33 = .ok (.ifCond .eq 15, 3) := by decide +kernel
theorem dX0_worthOn_36 : decode cX0_worthOn 36 = .ok (.aload_n 0, 1) := by decide +kernel
theorem dX0_worthOn_37 : decode cX0_worthOn 37 = .ok (.getfield 30, 3) := by decide +kernel
theorem dX0_worthOn_40 : decode cX0_worthOn 40 = .ok (.iload_n 2, 1) := by decide +kernel
theorem dX0_worthOn_41 : decode cX0_worthOn 41 = .ok (.bipush 10, 2) := by decide +kernel
theorem dX0_worthOn_43 : decode cX0_worthOn 43 = .ok (.idiv, 1) := by decide +kernel
theorem dX0_worthOn_44 : decode cX0_worthOn 44 = .ok (.iadd, 1) := by decide +kernel
theorem dX0_worthOn_45 : decode cX0_worthOn 45 = .ok (.goto 7, 3) := by decide +kernel
theorem dX0_worthOn_48 : decode cX0_worthOn 48 = .ok (.aload_n 0, 1) := by decide +kernel
theorem dX0_worthOn_49 : decode cX0_worthOn 49 = .ok (.getfield 30, 3) := by decide +kernel
theorem dX0_worthOn_52 : decode cX0_worthOn 52 = .ok (.ireturn, 1) := by decide +kernel
end
section
theorem dX1_init_0 : decode cX1_init 0 = .ok (.aload_n 0, 1) := by decide +kernel
theorem dX1_init_1 : decode cX1_init 1 = .ok (.invokespecial 3, 3) := by decide +kernel
theorem dX1_init_4 : decode cX1_init 4 = .ok (.aload_n 0, 1) := by decide +kernel
theorem dX1_init_5 : decode cX1_init 5 = .ok (.bipush 10, 2) := by decide +kernel
theorem dX1_init_7 : decode cX1_init 7 = .ok (.newarray .int, 2) := by decide +kernel
theorem dX1_init_9 : decode cX1_init 9 = .ok (.putfield 9, 3) := by decide +kernel
theorem dX1_init_12 : decode cX1_init 12 = .ok (.aload_n 0, 1) := by decide +kernel
theorem dX1_init_13 : decode cX1_init 13 = .ok (.bipush 10, 2) := by decide +kernel
theorem dX1_init_15 : decode cX1_init 15 = .ok (.newarray .int, 2) := by decide +kernel
theorem dX1_init_17 : decode cX1_init 17 = .ok (.putfield 15, 3) := by decide +kernel
theorem dX1_init_20 : decode cX1_init 20 = .ok (.aload_n 0, 1) := by decide +kernel
theorem dX1_init_21 : decode cX1_init 21 = .ok (.sipush 1024, 3) := by decide +kernel
theorem dX1_init_24 : decode cX1_init 24 = .ok (.newarray .int, 2) := by decide +kernel
theorem dX1_init_26 : decode cX1_init 26 = .ok (.putfield 18, 3) := by decide +kernel
theorem dX1_init_29 : decode cX1_init 29 = .ok (.return_, 1) := by decide +kernel
theorem dX1_choose_0 : decode cX1_choose 0 = .ok (.aload_n 0, 1) := by decide +kernel
theorem dX1_choose_1 : decode cX1_choose 1 = .ok (.aload_n 1, 1) := by decide +kernel
theorem dX1_choose_2 : decode cX1_choose 2 = .ok (.invokevirtual 21, 3) := by decide +kernel
theorem dX1_choose_5 : decode cX1_choose 5 = .ok (.aload_n 0, 1) := by decide +kernel
theorem dX1_choose_6 : decode cX1_choose 6 = .ok (.iconst 0, 1) := by decide +kernel
theorem dX1_choose_7 : decode cX1_choose 7 = .ok (.putfield 25, 3) := by decide +kernel
theorem dX1_choose_10 : decode cX1_choose 10 = .ok (.aload_n 0, 1) := by decide +kernel
theorem dX1_choose_11 : decode cX1_choose 11 = .ok (.iconst 0, 1) := by decide +kernel
theorem dX1_choose_12 : decode cX1_choose 12 = .ok (.putfield 29, 3) := by decide +kernel
theorem dX1_choose_15 : decode cX1_choose 15 = .ok (.aload_n 0, 1) := by decide +kernel
theorem dX1_choose_16 : decode cX1_choose 16 = .ok (.getfield 18, 3) := by decide +kernel
theorem dX1_choose_19 : decode cX1_choose 19 = .ok (.iconst 0, 1) := by decide +kernel
theorem dX1_choose_20 : decode cX1_choose 20 = .ok (.sipush 256, 3) := by decide +kernel
theorem dX1_choose_23 : decode cX1_choose 23 = .ok (.iastore, 1) := by decide +kernel
theorem dX1_choose_24 : decode cX1_choose 24 = .ok (.iconst 1, 1) := by decide +kernel
theorem dX1_choose_25 : decode cX1_choose 25 = .ok (.istore 4, 2) := by decide +kernel
theorem dX1_choose_27 : decode cX1_choose 27 = .ok (.iload 4, 2) := by decide +kernel
theorem dX1_choose_29 : decode cX1_choose 29 = .ok (.iconst 1, 1) := by decide +kernel
theorem dX1_choose_30 : decode cX1_choose 30 = .ok (.aload_n 0, 1) := by decide +kernel
theorem dX1_choose_31 : decode cX1_choose 31 = .ok (.getfield 32, 3) := by decide +kernel
theorem dX1_choose_34 : decode cX1_choose 34 = .ok (.ishl, 1) := by decide +kernel
theorem dX1_choose_35 : decode cX1_choose 35 = .ok (.if_icmp .ge 43, 3) := by decide +kernel
theorem dX1_choose_38 : decode cX1_choose 38 = .ok (.aload_n 0, 1) := by decide +kernel
theorem dX1_choose_39 : decode cX1_choose 39 = .ok (.getfield 18, 3) := by decide +kernel
theorem dX1_choose_42 : decode cX1_choose 42 = .ok (.iload 4, 2) := by decide +kernel
theorem dX1_choose_44 : decode cX1_choose 44 = .ok (.aload_n 0, 1) := by decide +kernel
theorem dX1_choose_45 : decode cX1_choose 45 = .ok (.iload 4, 2) := by decide +kernel
theorem dX1_choose_47 : decode cX1_choose 47 = .ok (.iload_n 3, 1) := by decide +kernel
theorem dX1_choose_48 : decode cX1_choose 48 = .ok (.invokevirtual 35, 3) := by decide +kernel
theorem dX1_choose_51 : decode cX1_choose 51 = .ok (.iastore, 1) := by decide +kernel
theorem dX1_choose_52 : decode cX1_choose 52 = .ok (.aload_n 0, 1) := by decide +kernel
theorem dX1_choose_53 : decode cX1_choose 53 = .ok (.getfield 18, 3) := by decide +kernel
theorem dX1_choose_56 : decode cX1_choose 56 = .ok (.iload 4, 2) := by decide +kernel
theorem dX1_choose_58 : decode cX1_choose 58 = .ok (.iaload, 1) := by decide +kernel
theorem dX1_choose_59 : decode cX1_choose 59 = .ok (.bipush 8, 2) := by decide +kernel
theorem dX1_choose_61 : decode cX1_choose 61 = .ok (.ishr, 1) := by decide +kernel
theorem dX1_choose_62 : decode cX1_choose 62 = .ok (.iload_n 2, 1) := by decide +kernel
theorem dX1_choose_63 : decode cX1_choose 63 = .ok (.if_icmp .gt 9, 3) := by decide +kernel
theorem dX1_choose_66 : decode cX1_choose 66 = .ok (.aload_n 0, 1) := by decide +kernel
theorem dX1_choose_67 : decode cX1_choose 67 = .ok (.iload 4, 2) := by decide +kernel
theorem dX1_choose_69 : decode cX1_choose 69 = .ok (.invokevirtual 39, 3) := by decide +kernel
theorem dX1_choose_72 : decode cX1_choose 72 = .ok (.iinc 4 1, 3) := by decide +kernel
theorem dX1_choose_75 : decode cX1_choose 75 = .ok (.goto (-48), 3) := by decide +kernel
theorem dX1_choose_78 : decode cX1_choose 78 = .ok (.return_, 1) := by decide +kernel
theorem dX1_weigh_0 : decode cX1_weigh 0 = .ok (.aload_n 0, 1) := by decide +kernel
theorem dX1_weigh_1 : decode cX1_weigh 1 = .ok (.aload_n 1, 1) := by decide +kernel
theorem dX1_weigh_2 : decode cX1_weigh 2 = .ok (.getfield 43, 3) := by decide +kernel
theorem dX1_weigh_5 : decode cX1_weigh 5 = .ok (.bipush 10, 2) := by decide +kernel
theorem dX1_weigh_7 : decode cX1_weigh 7 = .ok (.invokestatic 46, 3) := by decide +kernel
theorem dX1_weigh_10 : decode cX1_weigh 10 = .ok (.putfield 32, 3) := by decide +kernel
theorem dX1_weigh_13 : decode cX1_weigh 13 = .ok (.iconst 0, 1) := by decide +kernel
theorem dX1_weigh_14 : decode cX1_weigh 14 = .ok (.istore_n 2, 1) := by decide +kernel
theorem dX1_weigh_15 : decode cX1_weigh 15 = .ok (.iload_n 2, 1) := by decide +kernel
theorem dX1_weigh_16 : decode cX1_weigh 16 = .ok (.aload_n 0, 1) := by decide +kernel
theorem dX1_weigh_17 : decode cX1_weigh 17 = .ok (.getfield 32, 3) := by decide +kernel
theorem dX1_weigh_20 : decode cX1_weigh 20 = .ok (.if_icmp .ge 49, 3) := by decide +kernel
theorem dX1_weigh_23 : decode cX1_weigh 23 = .ok (.aload_n 0, 1) := by decide +kernel
theorem dX1_weigh_24 : decode cX1_weigh 24 = .ok (.getfield 9, 3) := by decide +kernel
theorem dX1_weigh_27 : decode cX1_weigh 27 = .ok (.iload_n 2, 1) := by decide +kernel
theorem dX1_weigh_28 : decode cX1_weigh 28 = .ok (.aload_n 1, 1) := by decide +kernel
theorem dX1_weigh_29 : decode cX1_weigh 29 = .ok (.getfield 51, 3) := by decide +kernel
theorem dX1_weigh_32 : decode cX1_weigh 32 = .ok (.iload_n 2, 1) := by decide +kernel
theorem dX1_weigh_33 : decode cX1_weigh 33 = .ok (.aaload, 1) := by decide +kernel
theorem dX1_weigh_34 : decode cX1_weigh 34 = .ok (.invokevirtual 55, 3) := by decide +kernel
theorem dX1_weigh_37 : decode cX1_weigh 37 = .ok (.ifCond .eq 11, 3) := by decide +kernel
theorem dX1_weigh_40 : decode cX1_weigh 40 = .ok (.aload_n 1, 1) := by decide +kernel
theorem dX1_weigh_41 : decode cX1_weigh 41 = .ok (.iload_n 2, 1) := by decide +kernel
theorem dX1_weigh_42 : decode cX1_weigh 42 = .ok (.invokevirtual 61, 3) := by decide +kernel
theorem dX1_weigh_45 : decode cX1_weigh 45 = .ok (.goto 6, 3) := by decide +kernel
theorem dX1_weigh_48 : decode cX1_weigh 48 = .ok (.sipush 201, 3) := by decide +kernel
theorem dX1_weigh_51 : decode cX1_weigh 51 = .ok (.iastore, 1) := by decide +kernel
theorem dX1_weigh_52 : decode cX1_weigh 52 = .ok (.aload_n 0, 1) := by decide +kernel
theorem dX1_weigh_53 : decode cX1_weigh 53 = .ok (.getfield 15, 3) := by decide +kernel
theorem dX1_weigh_56 : decode cX1_weigh 56 = .ok (.iload_n 2, 1) := by decide +kernel
theorem dX1_weigh_57 : decode cX1_weigh 57 = .ok (.aload_n 1, 1) := by decide +kernel
theorem dX1_weigh_58 : decode cX1_weigh 58 = .ok (.iload_n 2, 1) := by decide +kernel
theorem dX1_weigh_59 : decode cX1_weigh 59 = .ok (.invokevirtual 65, 3) := by decide +kernel
theorem dX1_weigh_62 : decode cX1_weigh 62 = .ok (.iastore, 1) := by decide +kernel
theorem dX1_weigh_63 : decode cX1_weigh 63 = .ok (.iinc 2 1, 3) := by decide +kernel
theorem dX1_weigh_66 : decode cX1_weigh 66 = .ok (.goto (-51), 3) := by decide +kernel
theorem dX1_weigh_69 : decode cX1_weigh 69 = .ok (.return_, 1) := by decide +kernel
theorem dX1_pack_0 : decode cX1_pack 0 = .ok (.ldc 68, 2) := by decide +kernel
theorem dX1_pack_2 : decode cX1_pack 2 = .ok (.istore_n 3, 1) := by decide +kernel
theorem dX1_pack_3 : decode cX1_pack 3 = .ok (.iconst 0, 1) := by decide +kernel
theorem dX1_pack_4 : decode cX1_pack 4 = .ok (.istore 4, 2) := by decide +kernel
theorem dX1_pack_6 : decode cX1_pack 6 = .ok (.iload 4, 2) := by decide +kernel
theorem dX1_pack_8 : decode cX1_pack 8 = .ok (.aload_n 0, 1) := by decide +kernel
theorem dX1_pack_9 : decode cX1_pack 9 = .ok (.getfield 32, 3) := by decide +kernel
theorem dX1_pack_12 : decode cX1_pack 12 = .ok (.if_icmp .ge 45, 3) := by decide +kernel
theorem dX1_pack_15 : decode cX1_pack 15 = .ok (.iload_n 1, 1) := by decide +kernel
theorem dX1_pack_16 : decode cX1_pack 16 = .ok (.iload 4, 2) := by decide +kernel
theorem dX1_pack_18 : decode cX1_pack 18 = .ok (.ishr, 1) := by decide +kernel
theorem dX1_pack_19 : decode cX1_pack 19 = .ok (.iconst 1, 1) := by decide +kernel
theorem dX1_pack_20 : decode cX1_pack 20 = .ok (.iand, 1) := by decide +kernel
theorem dX1_pack_21 : decode cX1_pack 21 = .ok (.ifCond .eq 30, 3) := by decide +kernel
theorem dX1_pack_24 : decode cX1_pack 24 = .ok (.iload_n 3, 1) := by decide +kernel
theorem dX1_pack_25 : decode cX1_pack 25 = .ok (.aload_n 0, 1) := by decide +kernel
theorem dX1_pack_26 : decode cX1_pack 26 = .ok (.getfield 18, 3) := by decide +kernel
theorem dX1_pack_29 : decode cX1_pack 29 = .ok (.iload_n 1, 1) := by decide +kernel
theorem dX1_pack_30 : decode cX1_pack 30 = .ok (.iconst 1, 1) := by decide +kernel
theorem dX1_pack_31 : decode cX1_pack 31 = .ok (.iload 4, 2) := by decide +kernel
theorem dX1_pack_33 : decode cX1_pack 33 = .ok (.ishl, 1) := by decide +kernel
theorem dX1_pack_34 : decode cX1_pack 34 = .ok (.ixor, 1) := by decide +kernel
theorem dX1_pack_35 : decode cX1_pack 35 = .ok (.iaload, 1) := by decide +kernel
theorem dX1_pack_36 : decode cX1_pack 36 = .ok (.aload_n 0, 1) := by decide +kernel
theorem dX1_pack_37 : decode cX1_pack 37 = .ok (.getfield 9, 3) := by decide +kernel
theorem dX1_pack_40 : decode cX1_pack 40 = .ok (.iload 4, 2) := by decide +kernel
theorem dX1_pack_42 : decode cX1_pack 42 = .ok (.iaload, 1) := by decide +kernel
theorem dX1_pack_43 : decode cX1_pack 43 = .ok (.iload_n 2, 1) := by decide +kernel
theorem dX1_pack_44 : decode cX1_pack 44 = .ok (.invokestatic 69, 3) := by decide +kernel
theorem dX1_pack_47 : decode cX1_pack 47 = .ok (.invokestatic 46, 3) := by decide +kernel
theorem dX1_pack_50 : decode cX1_pack 50 = .ok (.istore_n 3, 1) := by decide +kernel
theorem dX1_pack_51 : decode cX1_pack 51 = .ok (.iinc 4 1, 3) := by decide +kernel
theorem dX1_pack_54 : decode cX1_pack 54 = .ok (.goto (-48), 3) := by decide +kernel
theorem dX1_pack_57 : decode cX1_pack 57 = .ok (.iload_n 3, 1) := by decide +kernel
theorem dX1_pack_58 : decode cX1_pack 58 = .ok (.ireturn, 1) := by decide +kernel
theorem dX1_layOn_0 : decode cX1_layOn 0 = .ok (.iload_n 0, 1) := by decide +kernel
theorem dX1_layOn_1 : decode cX1_layOn 1 = .ok (.ldc 68, 2) := by decide +kernel
theorem dX1_layOn_3 : decode cX1_layOn 3 = .ok (.if_icmp .eq 8, 3) := by decide +kernel
theorem dX1_layOn_6 : decode cX1_layOn 6 = .ok (.iload_n 1, 1) := by decide +kernel
theorem dX1_layOn_7 : decode cX1_layOn 7 = .ok (.iload_n 2, 1) := by decide +kernel
theorem dX1_layOn_8 : decode cX1_layOn 8 = .ok (.if_icmp .le 6, 3) := by decide +kernel
theorem dX1_layOn_11 : decode cX1_layOn 11 = .ok (.ldc 68, 2) := by decide +kernel
theorem dX1_layOn_13 : decode cX1_layOn 13 = .ok (.ireturn, 1) := by decide +kernel
theorem dX1_layOn_14 : decode cX1_layOn 14 = .ok (.iload_n 0, 1) := by decide +kernel
theorem dX1_layOn_15 : decode cX1_layOn 15 = .ok (.sipush 255, 3) := by decide +kernel
theorem dX1_layOn_18 : decode cX1_layOn 18 = .ok (.iand, 1) := by decide +kernel
theorem dX1_layOn_19 : decode cX1_layOn 19 = .ok (.iload_n 1, 1) := by decide +kernel
theorem dX1_layOn_20 : decode cX1_layOn 20 = .ok (.iadd, 1) := by decide +kernel
theorem dX1_layOn_21 : decode cX1_layOn 21 = .ok (.iload_n 2, 1) := by decide +kernel
theorem dX1_layOn_22 : decode cX1_layOn 22 = .ok (.if_icmp .gt 7, 3) := by decide +kernel
theorem dX1_layOn_25 : decode cX1_layOn 25 = .ok (.iload_n 0, 1) := by decide +kernel
theorem dX1_layOn_26 : decode cX1_layOn 26 = .ok (.iload_n 1, 1) := by decide +kernel
theorem dX1_layOn_27 : decode cX1_layOn 27 = .ok (.iadd, 1) := by decide +kernel
theorem dX1_layOn_28 : decode cX1_layOn 28 = .ok (.ireturn, 1) := by decide +kernel
theorem dX1_layOn_29 : decode cX1_layOn 29 = .ok (.iload_n 0, 1) := by decide +kernel
theorem dX1_layOn_30 : decode cX1_layOn 30 = .ok (.bipush 8, 2) := by decide +kernel
theorem dX1_layOn_32 : decode cX1_layOn 32 = .ok (.ishr, 1) := by decide +kernel
theorem dX1_layOn_33 : decode cX1_layOn 33 = .ok (.iconst 1, 1) := by decide +kernel
theorem dX1_layOn_34 : decode cX1_layOn 34 = .ok (.iadd, 1) := by decide +kernel
theorem dX1_layOn_35 : decode cX1_layOn 35 = .ok (.bipush 8, 2) := by decide +kernel
theorem dX1_layOn_37 : decode cX1_layOn 37 = .ok (.ishl, 1) := by decide +kernel
theorem dX1_layOn_38 : decode cX1_layOn 38 = .ok (.iload_n 1, 1) := by decide +kernel
theorem dX1_layOn_39 : decode cX1_layOn 39 = .ok (.iadd, 1) := by decide +kernel
theorem dX1_layOn_40 : decode cX1_layOn 40 = .ok (.ireturn, 1) := by decide +kernel
theorem dX1_keepBetter_0 : decode cX1_keepBetter 0 = .ok (.iconst 0, 1) := by decide +kernel
theorem dX1_keepBetter_1 : decode cX1_keepBetter 1 = .ok (.istore_n 2, 1) := by decide +kernel
theorem dX1_keepBetter_2 : decode cX1_keepBetter 2 = .ok (.iconst 0, 1) := by decide +kernel
theorem dX1_keepBetter_3 : decode cX1_keepBetter 3 = .ok (.istore_n 3, 1) := by decide +kernel
theorem dX1_keepBetter_4 : decode cX1_keepBetter 4 = .ok (.iload_n 3, 1) := by decide +kernel
theorem dX1_keepBetter_5 : decode cX1_keepBetter 5 = .ok (.aload_n 0, 1) := by decide +kernel
theorem dX1_keepBetter_6 : decode cX1_keepBetter 6 = .ok (.getfield 32, 3) := by decide +kernel
theorem dX1_keepBetter_9 : decode cX1_keepBetter 9 = .ok (.if_icmp .ge 26, 3) := by decide +kernel
theorem dX1_keepBetter_12 : decode cX1_keepBetter 12 = .ok (.iload_n 1, 1) := by decide +kernel
theorem dX1_keepBetter_13 : decode cX1_keepBetter 13 = .ok (.iload_n 3, 1) := by decide +kernel
theorem dX1_keepBetter_14 : decode cX1_keepBetter 14 = .ok (.ishr, 1) := by decide +kernel
theorem dX1_keepBetter_15 : decode cX1_keepBetter 15 = .ok (.iconst 1, 1) := by decide +kernel
theorem dX1_keepBetter_16 : decode cX1_keepBetter 16 = .ok (.iand, 1) := by decide +kernel
theorem dX1_keepBetter_17 : decode cX1_keepBetter 17 = .ok (.ifCond .eq 12, 3) := by decide +kernel
theorem dX1_keepBetter_20 : decode cX1_keepBetter 20 = .ok (.iload_n 2, 1) := by decide +kernel
theorem dX1_keepBetter_21 : decode cX1_keepBetter 21 = .ok (.aload_n 0, 1) := by decide +kernel
theorem dX1_keepBetter_22 : decode cX1_keepBetter 22 = .ok (.getfield 15, 3) := by decide +kernel
theorem dX1_keepBetter_25 : decode cX1_keepBetter 25 = .ok (.iload_n 3, 1) := by decide +kernel
theorem dX1_keepBetter_26 : decode cX1_keepBetter 26 = .ok (.iaload, 1) := by decide +kernel
theorem dX1_keepBetter_27 : decode cX1_keepBetter 27 = .ok (.iadd, 1) := by decide +kernel
theorem dX1_keepBetter_28 : decode cX1_keepBetter 28 = .ok (.istore_n 2, 1) := by decide +kernel
theorem dX1_keepBetter_29 : decode cX1_keepBetter 29 = .ok (.iinc 3 1, 3) := by decide +kernel
theorem dX1_keepBetter_32 : decode cX1_keepBetter 32 = .ok (.goto (-28), 3) := by decide +kernel
theorem dX1_keepBetter_35 : decode cX1_keepBetter 35 = .ok (.iload_n 1, 1) := by decide +kernel
theorem dX1_keepBetter_36 : decode cX1_keepBetter 36 = .ok (.invokestatic 73, 3) := by decide +kernel
theorem dX1_keepBetter_39 : decode cX1_keepBetter 39 = .ok (.aload_n 0, 1) := by decide +kernel
theorem dX1_keepBetter_40 : decode cX1_keepBetter 40 = .ok (.getfield 29, 3) := by decide +kernel
theorem dX1_keepBetter_43 : decode cX1_keepBetter 43 = .ok (.invokestatic 73, 3) := by decide +kernel
theorem dX1_keepBetter_46 : decode cX1_keepBetter 46 = .ok (.if_icmp .ge 7, 3) := by decide +kernel
theorem dX1_keepBetter_49 : decode cX1_keepBetter 49 = .ok (.iconst 1, 1) := by decide +kernel
theorem dX1_keepBetter_50 : decode cX1_keepBetter 50 = .ok (.goto 4, 3) := by decide +kernel
theorem dX1_keepBetter_53 : decode cX1_keepBetter 53 = .ok (.iconst 0, 1) := by decide +kernel
theorem dX1_keepBetter_54 : decode cX1_keepBetter 54 = .ok (.istore_n 3, 1) := by decide +kernel
theorem dX1_keepBetter_55 : decode cX1_keepBetter 55 = .ok (.iload_n 2, 1) := by decide +kernel
theorem dX1_keepBetter_56 : decode cX1_keepBetter 56 = .ok (.aload_n 0, 1) := by decide +kernel
theorem dX1_keepBetter_57 : decode cX1_keepBetter 57 = .ok (.getfield 25, 3) := by decide +kernel
theorem dX1_keepBetter_60 : decode cX1_keepBetter 60 = .ok (.if_icmp .gt 15, 3) := by decide +kernel
theorem dX1_keepBetter_63 : decode cX1_keepBetter 63 = .ok (.iload_n 2, 1) := by decide +kernel
theorem dX1_keepBetter_64 : decode cX1_keepBetter 64 = .ok (.aload_n 0, 1) := by decide +kernel
theorem dX1_keepBetter_65 : decode cX1_keepBetter 65 = .ok (.getfield 25, 3) := by decide +kernel
theorem dX1_keepBetter_68 : decode cX1_keepBetter 68 = .ok (.if_icmp .ne 17, 3) := by decide +kernel
theorem dX1_keepBetter_71 : decode cX1_keepBetter 71 = .ok (.iload_n 3, 1) := by decide +kernel
theorem dX1_keepBetter_72 : decode cX1_keepBetter 72 = .ok (.ifCond .eq 13, 3) := by decide +kernel
theorem dX1_keepBetter_75 : decode cX1_keepBetter 75 = .ok (.aload_n 0, 1) := by decide +kernel
theorem dX1_keepBetter_76 : decode cX1_keepBetter 76 = .ok (.iload_n 2, 1) := by decide +kernel
theorem dX1_keepBetter_77 : decode cX1_keepBetter 77 = .ok (.putfield 25, 3) := by decide +kernel
theorem dX1_keepBetter_80 : decode cX1_keepBetter 80 = .ok (.aload_n 0, 1) := by decide +kernel
theorem dX1_keepBetter_81 : decode cX1_keepBetter 81 = .ok (.iload_n 1, 1) := by decide +kernel
theorem dX1_keepBetter_82 : decode cX1_keepBetter 82 = .ok (.putfield 29, 3) := by decide +kernel
theorem dX1_keepBetter_85 : decode cX1_keepBetter 85 = .ok (.return_, 1) := by decide +kernel
end
section
theorem dX2_init_0 : decode cX2_init 0 = .ok (.aload_n 0, 1) := by decide +kernel
theorem dX2_init_1 : decode cX2_init 1 = .ok (.invokespecial 3, 3) := by decide +kernel
theorem dX2_init_4 : decode cX2_init 4 = .ok (.aload_n 0, 1) := by decide +kernel
theorem dX2_init_5 : decode cX2_init 5 = .ok (.bipush 24, 2) := by decide +kernel
theorem dX2_init_7 : decode cX2_init 7 = .ok (.newarray .int, 2) := by decide +kernel
theorem dX2_init_9 : decode cX2_init 9 = .ok (.putfield 9, 3) := by decide +kernel
theorem dX2_init_12 : decode cX2_init 12 = .ok (.return_, 1) := by decide +kernel
theorem dX2_codeAt_0 : decode cX2_codeAt 0 = .ok (.lload_n 0, 1) := by decide +kernel
theorem dX2_codeAt_1 : decode cX2_codeAt 1 = .ok (.bipush 8, 2) := by decide +kernel
theorem dX2_codeAt_3 : decode cX2_codeAt 3 = .ok (.iload_n 2, 1) := by decide +kernel
theorem dX2_codeAt_4 : decode cX2_codeAt 4 = .ok (.imul, 1) := by decide +kernel
theorem dX2_codeAt_5 : decode cX2_codeAt 5 = .ok (.lushr, 1) := by decide +kernel
theorem dX2_codeAt_6 : decode cX2_codeAt 6 = .ok (.ldc2_w 15, 3) := by decide +kernel
theorem dX2_codeAt_9 : decode cX2_codeAt 9 = .ok (.land, 1) := by decide +kernel
theorem dX2_codeAt_10 : decode cX2_codeAt 10 = .ok (.l2i, 1) := by decide +kernel
theorem dX2_codeAt_11 : decode cX2_codeAt 11 = .ok (.ireturn, 1) := by decide +kernel
theorem dX2_lettersIn_0 : decode cX2_lettersIn 0 = .ok (.iconst 0, 1) := by decide +kernel
theorem dX2_lettersIn_1 : decode cX2_lettersIn 1 = .ok (.istore_n 2, 1) := by decide +kernel
theorem dX2_lettersIn_2 : decode cX2_lettersIn 2 = .ok (.iconst 0, 1) := by decide +kernel
theorem dX2_lettersIn_3 : decode cX2_lettersIn 3 = .ok (.istore_n 3, 1) := by decide +kernel
theorem dX2_lettersIn_4 : decode cX2_lettersIn 4 = .ok (.iload_n 3, 1) := by decide +kernel
theorem dX2_lettersIn_5 : decode cX2_lettersIn 5 = .ok (.bipush 8, 2) := by decide +kernel
theorem dX2_lettersIn_7 : decode cX2_lettersIn 7 = .ok (.if_icmp .ge 48, 3) := by decide +kernel
theorem dX2_lettersIn_10 : decode cX2_lettersIn 10 = .ok (.lload_n 0, 1) := by decide +kernel
theorem dX2_lettersIn_11 : decode cX2_lettersIn 11 = .ok (.iload_n 3, 1) := by decide +kernel
theorem dX2_lettersIn_12 : decode cX2_lettersIn 12 = .ok (.invokestatic 17, 3) := by decide +kernel
theorem dX2_lettersIn_15 : decode cX2_lettersIn 15 = .ok (.istore 4, 2) := by decide +kernel
theorem dX2_lettersIn_17 : decode cX2_lettersIn 17 = .ok (.iload 4, 2) := by decide +kernel
theorem dX2_lettersIn_19 : decode cX2_lettersIn 19 = .ok (.bipush 126, 2) := by decide +kernel
theorem dX2_lettersIn_21 : decode cX2_lettersIn 21 = .ok (.if_icmp .gt 13, 3) := by decide +kernel
theorem dX2_lettersIn_24 : decode cX2_lettersIn 24 = .ok (.iload 4, 2) := by decide +kernel
theorem dX2_lettersIn_26 : decode cX2_lettersIn 26 = .ok (.ifCond .eq 10, 3) := by decide +kernel
theorem dX2_lettersIn_29 : decode cX2_lettersIn 29 = .ok (.iload_n 2, 1) := by decide +kernel
theorem dX2_lettersIn_30 : decode cX2_lettersIn 30 = .ok (.iload_n 3, 1) := by decide +kernel
theorem dX2_lettersIn_31 : decode cX2_lettersIn 31 = .ok (.if_icmp .ge 5, 3) := by decide +kernel
theorem dX2_lettersIn_34 : decode cX2_lettersIn 34 = .ok (.iconst (-1), 1) := by decide +kernel
theorem dX2_lettersIn_35 : decode cX2_lettersIn 35 = .ok (.ireturn, 1) := by decide +kernel
theorem dX2_lettersIn_36 : decode cX2_lettersIn 36 = .ok (.iload_n 2, 1) := by decide +kernel
theorem dX2_lettersIn_37 : decode cX2_lettersIn 37 = .ok (.iload 4, 2) := by decide +kernel
theorem dX2_lettersIn_39 : decode cX2_lettersIn 39 = .ok (.ifCond .eq 7, 3) := by decide +kernel
theorem dX2_lettersIn_42 : decode cX2_lettersIn 42 = .ok (.iconst 1, 1) := by decide +kernel
theorem dX2_lettersIn_43 : decode cX2_lettersIn 43 = .ok (.goto 4, 3) := by decide +kernel
theorem dX2_lettersIn_46 : decode cX2_lettersIn 46 = .ok (.iconst 0, 1) := by decide +kernel
theorem dX2_lettersIn_47 : decode cX2_lettersIn 47 = .ok (.iadd, 1) := by decide +kernel
theorem dX2_lettersIn_48 : decode cX2_lettersIn 48 = .ok (.istore_n 2, 1) := by decide +kernel
theorem dX2_lettersIn_49 : decode cX2_lettersIn 49 = .ok (.iinc 3 1, 3) := by decide +kernel
theorem dX2_lettersIn_52 : decode cX2_lettersIn 52 = .ok (.goto (-48), 3) := by decide +kernel
theorem dX2_lettersIn_55 : decode cX2_lettersIn 55 = .ok (.iload_n 2, 1) := by decide +kernel
theorem dX2_lettersIn_56 : decode cX2_lettersIn 56 = .ok (.ireturn, 1) := by decide +kernel
theorem dX2_append_0 : decode cX2_append 0 = .ok (.iconst 0, 1) := by decide +kernel
theorem dX2_append_1 : decode cX2_append 1 = .ok (.istore 4, 2) := by decide +kernel
theorem dX2_append_3 : decode cX2_append 3 = .ok (.iload 4, 2) := by decide +kernel
theorem dX2_append_5 : decode cX2_append 5 = .ok (.iload_n 3, 1) := by decide +kernel
theorem dX2_append_6 : decode cX2_append 6 = .ok (.if_icmp .ge 43, 3) := by decide +kernel
theorem dX2_append_9 : decode cX2_append 9 = .ok (.aload_n 0, 1) := by decide +kernel
theorem dX2_append_10 : decode cX2_append 10 = .ok (.getfield 21, 3) := by decide +kernel
theorem dX2_append_13 : decode cX2_append 13 = .ok (.bipush 24, 2) := by decide +kernel
theorem dX2_append_15 : decode cX2_append 15 = .ok (.if_icmp .ge 34, 3) := by decide +kernel
theorem dX2_append_18 : decode cX2_append 18 = .ok (.aload_n 0, 1) := by decide +kernel
theorem dX2_append_19 : decode cX2_append 19 = .ok (.getfield 9, 3) := by decide +kernel
theorem dX2_append_22 : decode cX2_append 22 = .ok (.aload_n 0, 1) := by decide +kernel
theorem dX2_append_23 : decode cX2_append 23 = .ok (.getfield 21, 3) := by decide +kernel
theorem dX2_append_26 : decode cX2_append 26 = .ok (.lload_n 1, 1) := by decide +kernel
theorem dX2_append_27 : decode cX2_append 27 = .ok (.iload 4, 2) := by decide +kernel
theorem dX2_append_29 : decode cX2_append 29 = .ok (.invokestatic 17, 3) := by decide +kernel
theorem dX2_append_32 : decode cX2_append 32 = .ok (.iastore, 1) := by decide +kernel
theorem dX2_append_33 : decode cX2_append 33 = .ok (.aload_n 0, 1) := by decide +kernel
theorem dX2_append_34 : decode cX2_append 34 = .ok (.dup, 1) := by decide +kernel
theorem dX2_append_35 : decode cX2_append 35 = .ok (.getfield 21, 3) := by decide +kernel
theorem dX2_append_38 : decode cX2_append 38 = .ok (.iconst 1, 1) := by decide +kernel
theorem dX2_append_39 : decode cX2_append 39 = .ok (.iadd, 1) := by decide +kernel
theorem dX2_append_40 : decode cX2_append 40 = .ok (.putfield 21, 3) := by decide +kernel
theorem dX2_append_43 : decode cX2_append 43 = .ok (.iinc 4 1, 3) := by decide +kernel
theorem dX2_append_46 : decode cX2_append 46 = .ok (.goto (-43), 3) := by decide +kernel
theorem dX2_append_49 : decode cX2_append 49 = .ok (.return_, 1) := by decide +kernel
theorem dX2_hasInches_0 : decode cX2_hasInches 0 = .ok (.iload_n 0, 1) := by decide +kernel
theorem dX2_hasInches_1 : decode cX2_hasInches 1 = .ok (.bipush 99, 2) := by decide +kernel
theorem dX2_hasInches_3 : decode cX2_hasInches 3 = .ok (.if_icmp .eq 9, 3) := by decide +kernel
theorem dX2_hasInches_6 : decode cX2_hasInches 6 = .ok (.iload_n 0, 1) := by decide +kernel
theorem dX2_hasInches_7 : decode cX2_hasInches 7 = .ok (.bipush 116, 2) := by decide +kernel
theorem dX2_hasInches_9 : decode cX2_hasInches 9 = .ok (.if_icmp .ne 7, 3) := by decide +kernel
theorem dX2_hasInches_12 : decode cX2_hasInches 12 = .ok (.iconst 1, 1) := by decide +kernel
theorem dX2_hasInches_13 : decode cX2_hasInches 13 = .ok (.goto 4, 3) := by decide +kernel
theorem dX2_hasInches_16 : decode cX2_hasInches 16 = .ok (.iconst 0, 1) := by decide +kernel
theorem dX2_hasInches_17 : decode cX2_hasInches 17 = .ok (.ireturn, 1) := by decide +kernel
theorem dX2_isWholeDay_0 : decode cX2_isWholeDay 0 = .ok (.iload_n 0, 1) := by decide +kernel
theorem dX2_isWholeDay_1 : decode cX2_isWholeDay 1 = .ok (.bipush 115, 2) := by decide +kernel
theorem dX2_isWholeDay_3 : decode cX2_isWholeDay 3 = .ok (.if_icmp .eq 9, 3) := by decide +kernel
theorem dX2_isWholeDay_6 : decode cX2_isWholeDay 6 = .ok (.iload_n 0, 1) := by decide +kernel
theorem dX2_isWholeDay_7 : decode cX2_isWholeDay 7 = .ok (.bipush 119, 2) := by decide +kernel
theorem dX2_isWholeDay_9 : decode cX2_isWholeDay 9 = .ok (.if_icmp .ne 7, 3) := by decide +kernel
theorem dX2_isWholeDay_12 : decode cX2_isWholeDay 12 = .ok (.iconst 1, 1) := by decide +kernel
theorem dX2_isWholeDay_13 : decode cX2_isWholeDay 13 = .ok (.goto 4, 3) := by decide +kernel
theorem dX2_isWholeDay_16 : decode cX2_isWholeDay 16 = .ok (.iconst 0, 1) := by decide +kernel
theorem dX2_isWholeDay_17 : decode cX2_isWholeDay 17 = .ok (.ireturn, 1) := by decide +kernel
theorem dX2_firstWrong_0 : decode cX2_firstWrong 0 = .ok (.iconst 0, 1) := by decide +kernel
theorem dX2_firstWrong_1 : decode cX2_firstWrong 1 = .ok (.istore_n 1, 1) := by decide +kernel
theorem dX2_firstWrong_2 : decode cX2_firstWrong 2 = .ok (.iconst 0, 1) := by decide +kernel
theorem dX2_firstWrong_3 : decode cX2_firstWrong 3 = .ok (.istore_n 2, 1) := by decide +kernel
theorem dX2_firstWrong_4 : decode cX2_firstWrong 4 = .ok (.iconst 0, 1) := by decide +kernel
theorem dX2_firstWrong_5 : decode cX2_firstWrong 5 = .ok (.istore_n 3, 1) := by decide +kernel
theorem dX2_firstWrong_6 : decode cX2_firstWrong 6 = .ok (.iload_n 3, 1) := by decide +kernel
theorem dX2_firstWrong_7 : decode cX2_firstWrong 7 = .ok (.aload_n 0, 1) := by decide +kernel
theorem dX2_firstWrong_8 : decode cX2_firstWrong 8 = .ok (.getfield 21, 3) := by decide +kernel
theorem dX2_firstWrong_11 : decode cX2_firstWrong 11 = .ok (.if_icmp .ge 75, 3) := by decide +kernel
theorem dX2_firstWrong_14 : decode cX2_firstWrong 14 = .ok (.aload_n 0, 1) := by decide +kernel
theorem dX2_firstWrong_15 : decode cX2_firstWrong 15 = .ok (.getfield 9, 3) := by decide +kernel
theorem dX2_firstWrong_18 : decode cX2_firstWrong 18 = .ok (.iload_n 3, 1) := by decide +kernel
theorem dX2_firstWrong_19 : decode cX2_firstWrong 19 = .ok (.iaload, 1) := by decide +kernel
theorem dX2_firstWrong_20 : decode cX2_firstWrong 20 = .ok (.istore 4, 2) := by decide +kernel
theorem dX2_firstWrong_22 : decode cX2_firstWrong 22 = .ok (.iload_n 2, 1) := by decide +kernel
theorem dX2_firstWrong_23 : decode cX2_firstWrong 23 = .ok (.ifCond .eq 24, 3) := by decide +kernel
theorem dX2_firstWrong_26 : decode cX2_firstWrong 26 = .ok (.iload 4, 2) := by decide +kernel
theorem dX2_firstWrong_28 : decode cX2_firstWrong 28 = .ok (.bipush 49, 2) := by decide +kernel
theorem dX2_firstWrong_30 : decode cX2_firstWrong 30 = .ok (.if_icmp .lt 10, 3) := by decide +kernel
theorem dX2_firstWrong_33 : decode cX2_firstWrong 33 = .ok (.iload 4, 2) := by decide +kernel
theorem dX2_firstWrong_35 : decode cX2_firstWrong 35 = .ok (.bipush 57, 2) := by decide +kernel
theorem dX2_firstWrong_37 : decode cX2_firstWrong 37 = .ok (.if_icmp .le 5, 3) := by decide +kernel
theorem dX2_firstWrong_40 : decode cX2_firstWrong 40 = .ok (.iload_n 3, 1) := by decide +kernel
theorem dX2_firstWrong_41 : decode cX2_firstWrong 41 = .ok (.ireturn, 1) := by decide +kernel
theorem dX2_firstWrong_42 : decode cX2_firstWrong 42 = .ok (.iconst 0, 1) := by decide +kernel
theorem dX2_firstWrong_43 : decode cX2_firstWrong 43 = .ok (.istore_n 2, 1) := by decide +kernel
theorem dX2_firstWrong_44 : decode cX2_firstWrong 44 = .ok (.goto 36, 3) := by decide +kernel
theorem dX2_firstWrong_47 : decode cX2_firstWrong 47 = .ok (.iload_n 1, 1) := by decide +kernel
theorem dX2_firstWrong_48 : decode cX2_firstWrong 48 = .ok (.bipush 12, 2) := by decide +kernel
theorem dX2_firstWrong_50 : decode cX2_firstWrong 50 = .ok (.if_icmp .eq 19, 3) := by decide +kernel
theorem dX2_firstWrong_53 : decode cX2_firstWrong 53 = .ok (.iload 4, 2) := by decide +kernel
theorem dX2_firstWrong_55 : decode cX2_firstWrong 55 = .ok (.invokestatic 25, 3) := by decide +kernel
theorem dX2_firstWrong_58 : decode cX2_firstWrong 58 = .ok (.ifCond .ne 13, 3) := by decide +kernel
theorem dX2_firstWrong_61 : decode cX2_firstWrong 61 = .ok (.iload 4, 2) := by decide +kernel
theorem dX2_firstWrong_63 : decode cX2_firstWrong 63 = .ok (.invokestatic 29, 3) := by decide +kernel
theorem dX2_firstWrong_66 : decode cX2_firstWrong 66 = .ok (.ifCond .ne 5, 3) := by decide +kernel
theorem dX2_firstWrong_69 : decode cX2_firstWrong 69 = .ok (.iload_n 3, 1) := by decide +kernel
theorem dX2_firstWrong_70 : decode cX2_firstWrong 70 = .ok (.ireturn, 1) := by decide +kernel
theorem dX2_firstWrong_71 : decode cX2_firstWrong 71 = .ok (.iinc 1 1, 3) := by decide +kernel
theorem dX2_firstWrong_74 : decode cX2_firstWrong 74 = .ok (.iload 4, 2) := by decide +kernel
theorem dX2_firstWrong_76 : decode cX2_firstWrong 76 = .ok (.invokestatic 25, 3) := by decide +kernel
theorem dX2_firstWrong_79 : decode cX2_firstWrong 79 = .ok (.istore_n 2, 1) := by decide +kernel
theorem dX2_firstWrong_80 : decode cX2_firstWrong 80 = .ok (.iinc 3 1, 3) := by decide +kernel
theorem dX2_firstWrong_83 : decode cX2_firstWrong 83 = .ok (.goto (-77), 3) := by decide +kernel
theorem dX2_firstWrong_86 : decode cX2_firstWrong 86 = .ok (.aload_n 0, 1) := by decide +kernel
theorem dX2_firstWrong_87 : decode cX2_firstWrong 87 = .ok (.getfield 21, 3) := by decide +kernel
theorem dX2_firstWrong_90 : decode cX2_firstWrong 90 = .ok (.ireturn, 1) := by decide +kernel
theorem dX2_isDays_0 : decode cX2_isDays 0 = .ok (.aload_n 0, 1) := by decide +kernel
theorem dX2_isDays_1 : decode cX2_isDays 1 = .ok (.getfield 21, 3) := by decide +kernel
theorem dX2_isDays_4 : decode cX2_isDays 4 = .ok (.ifCond .le 35, 3) := by decide +kernel
theorem dX2_isDays_7 : decode cX2_isDays 7 = .ok (.aload_n 0, 1) := by decide +kernel
theorem dX2_isDays_8 : decode cX2_isDays 8 = .ok (.invokevirtual 32, 3) := by decide +kernel
theorem dX2_isDays_11 : decode cX2_isDays 11 = .ok (.aload_n 0, 1) := by decide +kernel
theorem dX2_isDays_12 : decode cX2_isDays 12 = .ok (.getfield 21, 3) := by decide +kernel
theorem dX2_isDays_15 : decode cX2_isDays 15 = .ok (.if_icmp .ne 24, 3) := by decide +kernel
theorem dX2_isDays_18 : decode cX2_isDays 18 = .ok (.aload_n 0, 1) := by decide +kernel
theorem dX2_isDays_19 : decode cX2_isDays 19 = .ok (.getfield 9, 3) := by decide +kernel
theorem dX2_isDays_22 : decode cX2_isDays 22 = .ok (.aload_n 0, 1) := by decide +kernel
theorem dX2_isDays_23 : decode cX2_isDays 23 = .ok (.getfield 21, 3) := by decide +kernel
theorem dX2_isDays_26 : decode cX2_isDays 26 = .ok (.iconst 1, 1) := by decide +kernel
theorem dX2_isDays_27 : decode cX2_isDays 27 = .ok (.isub, 1) := by decide +kernel
theorem dX2_isDays_28 : decode cX2_isDays 28 = .ok (.iaload, 1) := by decide +kernel
theorem dX2_isDays_29 : decode cX2_isDays 29 = .ok (.invokestatic 25, 3) := by decide +kernel
theorem dX2_isDays_32 : decode cX2_isDays 32 = .ok (.ifCond .ne 7, 3) := by decide +kernel
theorem dX2_isDays_35 : decode cX2_isDays 35 = .ok (.iconst 1, 1) := by decide +kernel
theorem dX2_isDays_36 : decode cX2_isDays 36 = .ok (.goto 4, 3) := by decide +kernel
theorem dX2_isDays_39 : decode cX2_isDays 39 = .ok (.iconst 0, 1) := by decide +kernel
theorem dX2_isDays_40 : decode cX2_isDays 40 = .ok (.ireturn, 1) := by decide +kernel
theorem dX2_lengthAt_0 : decode cX2_lengthAt 0 = .ok (.aload_n 0, 1) := by decide +kernel
theorem dX2_lengthAt_1 : decode cX2_lengthAt 1 = .ok (.getfield 9, 3) := by decide +kernel
theorem dX2_lengthAt_4 : decode cX2_lengthAt 4 = .ok (.iload_n 1, 1) := by decide +kernel
theorem dX2_lengthAt_5 : decode cX2_lengthAt 5 = .ok (.iaload, 1) := by decide +kernel
theorem dX2_lengthAt_6 : decode cX2_lengthAt 6 = .ok (.invokestatic 25, 3) := by decide +kernel
theorem dX2_lengthAt_9 : decode cX2_lengthAt 9 = .ok (.ifCond .eq 7, 3) := by decide +kernel
theorem dX2_lengthAt_12 : decode cX2_lengthAt 12 = .ok (.iconst 2, 1) := by decide +kernel
theorem dX2_lengthAt_13 : decode cX2_lengthAt 13 = .ok (.goto 4, 3) := by decide +kernel
theorem dX2_lengthAt_16 : decode cX2_lengthAt 16 = .ok (.iconst 1, 1) := by decide +kernel
theorem dX2_lengthAt_17 : decode cX2_lengthAt 17 = .ok (.ireturn, 1) := by decide +kernel
theorem dX2_dayAt_0 : decode cX2_dayAt 0 = .ok (.aload_n 0, 1) := by decide +kernel
theorem dX2_dayAt_1 : decode cX2_dayAt 1 = .ok (.getfield 9, 3) := by decide +kernel
theorem dX2_dayAt_4 : decode cX2_dayAt 4 = .ok (.iload_n 1, 1) := by decide +kernel
theorem dX2_dayAt_5 : decode cX2_dayAt 5 = .ok (.iaload, 1) := by decide +kernel
theorem dX2_dayAt_6 : decode cX2_dayAt 6 = .ok (.lookupswitch 40 #[(99, 34), (115, 38), (116, 36)], 34) := by decide +kernel
theorem dX2_dayAt_40 : decode cX2_dayAt 40 = .ok (.iconst 0, 1) := by decide +kernel
theorem dX2_dayAt_41 : decode cX2_dayAt 41 = .ok (.ireturn, 1) := by decide +kernel
theorem dX2_dayAt_42 : decode cX2_dayAt 42 = .ok (.iconst 1, 1) := by decide +kernel
theorem dX2_dayAt_43 : decode cX2_dayAt 43 = .ok (.ireturn, 1) := by decide +kernel
theorem dX2_dayAt_44 : decode cX2_dayAt 44 = .ok (.iconst 2, 1) := by decide +kernel
theorem dX2_dayAt_45 : decode cX2_dayAt 45 = .ok (.ireturn, 1) := by decide +kernel
theorem dX2_dayAt_46 : decode cX2_dayAt 46 = .ok (.iconst 3, 1) := by decide +kernel
theorem dX2_dayAt_47 : decode cX2_dayAt 47 = .ok (.ireturn, 1) := by decide +kernel
theorem dX2_inchesAt_0 : decode cX2_inchesAt 0 = .ok (.aload_n 0, 1) := by decide +kernel
theorem dX2_inchesAt_1 : decode cX2_inchesAt 1 = .ok (.getfield 9, 3) := by decide +kernel
theorem dX2_inchesAt_4 : decode cX2_inchesAt 4 = .ok (.iload_n 1, 1) := by decide +kernel
theorem dX2_inchesAt_5 : decode cX2_inchesAt 5 = .ok (.iaload, 1) := by decide +kernel
theorem dX2_inchesAt_6 : decode cX2_inchesAt 6 = .ok (.invokestatic 25, 3) := by decide +kernel
theorem dX2_inchesAt_9 : decode cX2_inchesAt 9 = .ok (.ifCond .eq 27, 3) := by decide +kernel
theorem dX2_inchesAt_12 : decode cX2_inchesAt 12 = .ok (.iload_n 1, 1) := by decide +kernel
theorem dX2_inchesAt_13 : decode cX2_inchesAt 13 = .ok (.iconst 1, 1) := by decide +kernel
theorem dX2_inchesAt_14 : decode cX2_inchesAt 14 = .ok (.iadd, 1) := by decide +kernel
theorem dX2_inchesAt_15 : decode cX2_inchesAt 15 = .ok (.aload_n 0, 1) := by decide +kernel
theorem dX2_inchesAt_16 : decode cX2_inchesAt 16 = .ok (.getfield 21, 3) := by decide +kernel
theorem dX2_inchesAt_19 : decode cX2_inchesAt 19 = .ok (.if_icmp .ge 17, 3) := by decide +kernel
theorem dX2_inchesAt_22 : decode cX2_inchesAt 22 = .ok (.aload_n 0, 1) := by decide +kernel
theorem dX2_inchesAt_23 : decode cX2_inchesAt 23 = .ok (.getfield 9, 3) := by decide +kernel
theorem dX2_inchesAt_26 : decode cX2_inchesAt 26 = .ok (.iload_n 1, 1) := by decide +kernel
theorem dX2_inchesAt_27 : decode cX2_inchesAt 27 = .ok (.iconst 1, 1) := by decide +kernel
theorem dX2_inchesAt_28 : decode cX2_inchesAt 28 = .ok (.iadd, 1) := by decide +kernel
theorem dX2_inchesAt_29 : decode cX2_inchesAt 29 = .ok (.iaload, 1) := by decide +kernel
theorem dX2_inchesAt_30 : decode cX2_inchesAt 30 = .ok (.bipush 48, 2) := by decide +kernel
theorem dX2_inchesAt_32 : decode cX2_inchesAt 32 = .ok (.isub, 1) := by decide +kernel
theorem dX2_inchesAt_33 : decode cX2_inchesAt 33 = .ok (.goto 4, 3) := by decide +kernel
theorem dX2_inchesAt_36 : decode cX2_inchesAt 36 = .ok (.iconst 0, 1) := by decide +kernel
theorem dX2_inchesAt_37 : decode cX2_inchesAt 37 = .ok (.ireturn, 1) := by decide +kernel
theorem dX2_outlasts_0 : decode cX2_outlasts 0 = .ok (.iload_n 3, 1) := by decide +kernel
theorem dX2_outlasts_1 : decode cX2_outlasts 1 = .ok (.istore 4, 2) := by decide +kernel
theorem dX2_outlasts_3 : decode cX2_outlasts 3 = .ok (.iload_n 2, 1) := by decide +kernel
theorem dX2_outlasts_4 : decode cX2_outlasts 4 = .ok (.istore 5, 2) := by decide +kernel
theorem dX2_outlasts_6 : decode cX2_outlasts 6 = .ok (.iconst 0, 1) := by decide +kernel
theorem dX2_outlasts_7 : decode cX2_outlasts 7 = .ok (.istore 6, 2) := by decide +kernel
theorem dX2_outlasts_9 : decode cX2_outlasts 9 = .ok (.iload 6, 2) := by decide +kernel
theorem dX2_outlasts_11 : decode cX2_outlasts 11 = .ok (.aload_n 0, 1) := by decide +kernel
theorem dX2_outlasts_12 : decode cX2_outlasts 12 = .ok (.getfield 21, 3) := by decide +kernel
theorem dX2_outlasts_15 : decode cX2_outlasts 15 = .ok (.if_icmp .ge 69, 3) := by decide +kernel
theorem dX2_outlasts_18 : decode cX2_outlasts 18 = .ok (.aload_n 0, 1) := by decide +kernel
theorem dX2_outlasts_19 : decode cX2_outlasts 19 = .ok (.iload 6, 2) := by decide +kernel
theorem dX2_outlasts_21 : decode cX2_outlasts 21 = .ok (.invokevirtual 36, 3) := by decide +kernel
theorem dX2_outlasts_24 : decode cX2_outlasts 24 = .ok (.aload_n 0, 1) := by decide +kernel
theorem dX2_outlasts_25 : decode cX2_outlasts 25 = .ok (.iload 6, 2) := by decide +kernel
theorem dX2_outlasts_27 : decode cX2_outlasts 27 = .ok (.invokevirtual 40, 3) := by decide +kernel
theorem dX2_outlasts_30 : decode cX2_outlasts 30 = .ok (.iload 4, 2) := by decide +kernel
theorem dX2_outlasts_32 : decode cX2_outlasts 32 = .ok (.invokestatic 43, 3) := by decide +kernel
theorem dX2_outlasts_35 : decode cX2_outlasts 35 = .ok (.istore 4, 2) := by decide +kernel
theorem dX2_outlasts_37 : decode cX2_outlasts 37 = .ok (.aload_n 0, 1) := by decide +kernel
theorem dX2_outlasts_38 : decode cX2_outlasts 38 = .ok (.iload 6, 2) := by decide +kernel
theorem dX2_outlasts_40 : decode cX2_outlasts 40 = .ok (.invokevirtual 36, 3) := by decide +kernel
theorem dX2_outlasts_43 : decode cX2_outlasts 43 = .ok (.iconst 1, 1) := by decide +kernel
theorem dX2_outlasts_44 : decode cX2_outlasts 44 = .ok (.if_icmp .ne 19, 3) := by decide +kernel
theorem dX2_outlasts_47 : decode cX2_outlasts 47 = .ok (.iload_n 1, 1) := by decide +kernel
theorem dX2_outlasts_48 : decode cX2_outlasts 48 = .ok (.iload 5, 2) := by decide +kernel
theorem dX2_outlasts_50 : decode cX2_outlasts 50 = .ok (.aload_n 0, 1) := by decide +kernel
theorem dX2_outlasts_51 : decode cX2_outlasts 51 = .ok (.iload 6, 2) := by decide +kernel
theorem dX2_outlasts_53 : decode cX2_outlasts 53 = .ok (.invokevirtual 40, 3) := by decide +kernel
theorem dX2_outlasts_56 : decode cX2_outlasts 56 = .ok (.iload 4, 2) := by decide +kernel
theorem dX2_outlasts_58 : decode cX2_outlasts 58 = .ok (.invokestatic 47, 3) := by decide +kernel
theorem dX2_outlasts_61 : decode cX2_outlasts 61 = .ok (.istore 5, 2) := by decide +kernel
theorem dX2_outlasts_63 : decode cX2_outlasts 63 = .ok (.iload 5, 2) := by decide +kernel
theorem dX2_outlasts_65 : decode cX2_outlasts 65 = .ok (.ifCond .ne 5, 3) := by decide +kernel
theorem dX2_outlasts_68 : decode cX2_outlasts 68 = .ok (.iconst 0, 1) := by decide +kernel
theorem dX2_outlasts_69 : decode cX2_outlasts 69 = .ok (.ireturn, 1) := by decide +kernel
theorem dX2_outlasts_70 : decode cX2_outlasts 70 = .ok (.iload 6, 2) := by decide +kernel
theorem dX2_outlasts_72 : decode cX2_outlasts 72 = .ok (.aload_n 0, 1) := by decide +kernel
theorem dX2_outlasts_73 : decode cX2_outlasts 73 = .ok (.iload 6, 2) := by decide +kernel
theorem dX2_outlasts_75 : decode cX2_outlasts 75 = .ok (.invokevirtual 53, 3) := by decide +kernel
theorem dX2_outlasts_78 : decode cX2_outlasts 78 = .ok (.iadd, 1) := by decide +kernel
theorem dX2_outlasts_79 : decode cX2_outlasts 79 = .ok (.istore 6, 2) := by decide +kernel
theorem dX2_outlasts_81 : decode cX2_outlasts 81 = .ok (.goto (-72), 3) := by decide +kernel
theorem dX2_outlasts_84 : decode cX2_outlasts 84 = .ok (.iconst 1, 1) := by decide +kernel
theorem dX2_outlasts_85 : decode cX2_outlasts 85 = .ok (.ireturn, 1) := by decide +kernel
theorem dX2_daysUntilBearing_0 : decode cX2_daysUntilBearing 0 = .ok (.iload_n 1, 1) := by decide +kernel
theorem dX2_daysUntilBearing_1 : decode cX2_daysUntilBearing 1 = .ok (.istore_n 2, 1) := by decide +kernel
theorem dX2_daysUntilBearing_2 : decode cX2_daysUntilBearing 2 = .ok (.iconst 0, 1) := by decide +kernel
theorem dX2_daysUntilBearing_3 : decode cX2_daysUntilBearing 3 = .ok (.istore_n 3, 1) := by decide +kernel
theorem dX2_daysUntilBearing_4 : decode cX2_daysUntilBearing 4 = .ok (.iconst 0, 1) := by decide +kernel
theorem dX2_daysUntilBearing_5 : decode cX2_daysUntilBearing 5 = .ok (.istore 4, 2) := by decide +kernel
theorem dX2_daysUntilBearing_7 : decode cX2_daysUntilBearing 7 = .ok (.iload 4, 2) := by decide +kernel
theorem dX2_daysUntilBearing_9 : decode cX2_daysUntilBearing 9 = .ok (.aload_n 0, 1) := by decide +kernel
theorem dX2_daysUntilBearing_10 : decode cX2_daysUntilBearing 10 = .ok (.getfield 21, 3) := by decide +kernel
theorem dX2_daysUntilBearing_13 : decode cX2_daysUntilBearing 13 = .ok (.if_icmp .ge 42, 3) := by decide +kernel
theorem dX2_daysUntilBearing_16 : decode cX2_daysUntilBearing 16 = .ok (.iload_n 2, 1) := by decide +kernel
theorem dX2_daysUntilBearing_17 : decode cX2_daysUntilBearing 17 = .ok (.iconst 4, 1) := by decide +kernel
theorem dX2_daysUntilBearing_18 : decode cX2_daysUntilBearing 18 = .ok (.if_icmp .ge 37, 3) := by decide +kernel
theorem dX2_daysUntilBearing_21 : decode cX2_daysUntilBearing 21 = .ok (.aload_n 0, 1) := by decide +kernel
theorem dX2_daysUntilBearing_22 : decode cX2_daysUntilBearing 22 = .ok (.iload 4, 2) := by decide +kernel
theorem dX2_daysUntilBearing_24 : decode cX2_daysUntilBearing 24 = .ok (.invokevirtual 36, 3) := by decide +kernel
theorem dX2_daysUntilBearing_27 : decode cX2_daysUntilBearing 27 = .ok (.aload_n 0, 1) := by decide +kernel
theorem dX2_daysUntilBearing_28 : decode cX2_daysUntilBearing 28 = .ok (.iload 4, 2) := by decide +kernel
theorem dX2_daysUntilBearing_30 : decode cX2_daysUntilBearing 30 = .ok (.invokevirtual 40, 3) := by decide +kernel
theorem dX2_daysUntilBearing_33 : decode cX2_daysUntilBearing 33 = .ok (.iload_n 2, 1) := by decide +kernel
theorem dX2_daysUntilBearing_34 : decode cX2_daysUntilBearing 34 = .ok (.invokestatic 43, 3) := by decide +kernel
theorem dX2_daysUntilBearing_37 : decode cX2_daysUntilBearing 37 = .ok (.istore_n 2, 1) := by decide +kernel
theorem dX2_daysUntilBearing_38 : decode cX2_daysUntilBearing 38 = .ok (.iinc 3 1, 3) := by decide +kernel
theorem dX2_daysUntilBearing_41 : decode cX2_daysUntilBearing 41 = .ok (.iload 4, 2) := by decide +kernel
theorem dX2_daysUntilBearing_43 : decode cX2_daysUntilBearing 43 = .ok (.aload_n 0, 1) := by decide +kernel
theorem dX2_daysUntilBearing_44 : decode cX2_daysUntilBearing 44 = .ok (.iload 4, 2) := by decide +kernel
theorem dX2_daysUntilBearing_46 : decode cX2_daysUntilBearing 46 = .ok (.invokevirtual 53, 3) := by decide +kernel
theorem dX2_daysUntilBearing_49 : decode cX2_daysUntilBearing 49 = .ok (.iadd, 1) := by decide +kernel
theorem dX2_daysUntilBearing_50 : decode cX2_daysUntilBearing 50 = .ok (.istore 4, 2) := by decide +kernel
theorem dX2_daysUntilBearing_52 : decode cX2_daysUntilBearing 52 = .ok (.goto (-45), 3) := by decide +kernel
theorem dX2_daysUntilBearing_55 : decode cX2_daysUntilBearing 55 = .ok (.iload_n 2, 1) := by decide +kernel
theorem dX2_daysUntilBearing_56 : decode cX2_daysUntilBearing 56 = .ok (.iconst 4, 1) := by decide +kernel
theorem dX2_daysUntilBearing_57 : decode cX2_daysUntilBearing 57 = .ok (.if_icmp .lt 7, 3) := by decide +kernel
theorem dX2_daysUntilBearing_60 : decode cX2_daysUntilBearing 60 = .ok (.iload_n 3, 1) := by decide +kernel
theorem dX2_daysUntilBearing_61 : decode cX2_daysUntilBearing 61 = .ok (.goto 4, 3) := by decide +kernel
theorem dX2_daysUntilBearing_64 : decode cX2_daysUntilBearing 64 = .ok (.iconst (-1), 1) := by decide +kernel
theorem dX2_daysUntilBearing_65 : decode cX2_daysUntilBearing 65 = .ok (.ireturn, 1) := by decide +kernel
end
section
theorem dX3_init_0 : decode cX3_init 0 = .ok (.aload_n 0, 1) := by decide +kernel
theorem dX3_init_1 : decode cX3_init 1 = .ok (.invokespecial 3, 3) := by decide +kernel
theorem dX3_init_4 : decode cX3_init 4 = .ok (.aload_n 0, 1) := by decide +kernel
theorem dX3_init_5 : decode cX3_init 5 = .ok (.bipush 6, 2) := by decide +kernel
theorem dX3_init_7 : decode cX3_init 7 = .ok (.newarray .int, 2) := by decide +kernel
theorem dX3_init_9 : decode cX3_init 9 = .ok (.putfield 9, 3) := by decide +kernel
theorem dX3_init_12 : decode cX3_init 12 = .ok (.aload_n 0, 1) := by decide +kernel
theorem dX3_init_13 : decode cX3_init 13 = .ok (.bipush 64, 2) := by decide +kernel
theorem dX3_init_15 : decode cX3_init 15 = .ok (.newarray .int, 2) := by decide +kernel
theorem dX3_init_17 : decode cX3_init 17 = .ok (.putfield 15, 3) := by decide +kernel
theorem dX3_init_20 : decode cX3_init 20 = .ok (.aload_n 0, 1) := by decide +kernel
theorem dX3_init_21 : decode cX3_init 21 = .ok (.bipush 64, 2) := by decide +kernel
theorem dX3_init_23 : decode cX3_init 23 = .ok (.newarray .int, 2) := by decide +kernel
theorem dX3_init_25 : decode cX3_init 25 = .ok (.putfield 18, 3) := by decide +kernel
theorem dX3_init_28 : decode cX3_init 28 = .ok (.return_, 1) := by decide +kernel
theorem dX3_mostGroups_0 : decode cX3_mostGroups 0 = .ok (.iconst 0, 1) := by decide +kernel
theorem dX3_mostGroups_1 : decode cX3_mostGroups 1 = .ok (.istore_n 2, 1) := by decide +kernel
theorem dX3_mostGroups_2 : decode cX3_mostGroups 2 = .ok (.iload_n 2, 1) := by decide +kernel
theorem dX3_mostGroups_3 : decode cX3_mostGroups 3 = .ok (.bipush 6, 2) := by decide +kernel
theorem dX3_mostGroups_5 : decode cX3_mostGroups 5 = .ok (.if_icmp .ge 20, 3) := by decide +kernel
theorem dX3_mostGroups_8 : decode cX3_mostGroups 8 = .ok (.aload_n 0, 1) := by decide +kernel
theorem dX3_mostGroups_9 : decode cX3_mostGroups 9 = .ok (.getfield 9, 3) := by decide +kernel
theorem dX3_mostGroups_12 : decode cX3_mostGroups 12 = .ok (.iload_n 2, 1) := by decide +kernel
theorem dX3_mostGroups_13 : decode cX3_mostGroups 13 = .ok (.aload_n 1, 1) := by decide +kernel
theorem dX3_mostGroups_14 : decode cX3_mostGroups 14 = .ok (.iload_n 2, 1) := by decide +kernel
theorem dX3_mostGroups_15 : decode cX3_mostGroups 15 = .ok (.invokevirtual 21, 3) := by decide +kernel
theorem dX3_mostGroups_18 : decode cX3_mostGroups 18 = .ok (.iastore, 1) := by decide +kernel
theorem dX3_mostGroups_19 : decode cX3_mostGroups 19 = .ok (.iinc 2 1, 3) := by decide +kernel
theorem dX3_mostGroups_22 : decode cX3_mostGroups 22 = .ok (.goto (-20), 3) := by decide +kernel
theorem dX3_mostGroups_25 : decode cX3_mostGroups 25 = .ok (.iconst 1, 1) := by decide +kernel
theorem dX3_mostGroups_26 : decode cX3_mostGroups 26 = .ok (.istore_n 2, 1) := by decide +kernel
theorem dX3_mostGroups_27 : decode cX3_mostGroups 27 = .ok (.iload_n 2, 1) := by decide +kernel
theorem dX3_mostGroups_28 : decode cX3_mostGroups 28 = .ok (.aload_n 0, 1) := by decide +kernel
theorem dX3_mostGroups_29 : decode cX3_mostGroups 29 = .ok (.getfield 18, 3) := by decide +kernel
theorem dX3_mostGroups_32 : decode cX3_mostGroups 32 = .ok (.arraylength, 1) := by decide +kernel
theorem dX3_mostGroups_33 : decode cX3_mostGroups 33 = .ok (.if_icmp .ge 14, 3) := by decide +kernel
theorem dX3_mostGroups_36 : decode cX3_mostGroups 36 = .ok (.aload_n 0, 1) := by decide +kernel
theorem dX3_mostGroups_37 : decode cX3_mostGroups 37 = .ok (.iload_n 2, 1) := by decide +kernel
theorem dX3_mostGroups_38 : decode cX3_mostGroups 38 = .ok (.invokevirtual 27, 3) := by decide +kernel
theorem dX3_mostGroups_41 : decode cX3_mostGroups 41 = .ok (.iinc 2 1, 3) := by decide +kernel
theorem dX3_mostGroups_44 : decode cX3_mostGroups 44 = .ok (.goto (-17), 3) := by decide +kernel
theorem dX3_mostGroups_47 : decode cX3_mostGroups 47 = .ok (.aload_n 0, 1) := by decide +kernel
theorem dX3_mostGroups_48 : decode cX3_mostGroups 48 = .ok (.getfield 18, 3) := by decide +kernel
theorem dX3_mostGroups_51 : decode cX3_mostGroups 51 = .ok (.aload_n 0, 1) := by decide +kernel
theorem dX3_mostGroups_52 : decode cX3_mostGroups 52 = .ok (.getfield 18, 3) := by decide +kernel
theorem dX3_mostGroups_55 : decode cX3_mostGroups 55 = .ok (.arraylength, 1) := by decide +kernel
theorem dX3_mostGroups_56 : decode cX3_mostGroups 56 = .ok (.iconst 1, 1) := by decide +kernel
theorem dX3_mostGroups_57 : decode cX3_mostGroups 57 = .ok (.isub, 1) := by decide +kernel
theorem dX3_mostGroups_58 : decode cX3_mostGroups 58 = .ok (.iaload, 1) := by decide +kernel
theorem dX3_mostGroups_59 : decode cX3_mostGroups 59 = .ok (.ireturn, 1) := by decide +kernel
theorem dX3_addSet_0 : decode cX3_addSet 0 = .ok (.iconst 0, 1) := by decide +kernel
theorem dX3_addSet_1 : decode cX3_addSet 1 = .ok (.istore_n 2, 1) := by decide +kernel
theorem dX3_addSet_2 : decode cX3_addSet 2 = .ok (.iconst 0, 1) := by decide +kernel
theorem dX3_addSet_3 : decode cX3_addSet 3 = .ok (.istore_n 3, 1) := by decide +kernel
theorem dX3_addSet_4 : decode cX3_addSet 4 = .ok (.iload_n 3, 1) := by decide +kernel
theorem dX3_addSet_5 : decode cX3_addSet 5 = .ok (.bipush 6, 2) := by decide +kernel
theorem dX3_addSet_7 : decode cX3_addSet 7 = .ok (.if_icmp .ge 56, 3) := by decide +kernel
theorem dX3_addSet_10 : decode cX3_addSet 10 = .ok (.iload_n 1, 1) := by decide +kernel
theorem dX3_addSet_11 : decode cX3_addSet 11 = .ok (.iload_n 3, 1) := by decide +kernel
theorem dX3_addSet_12 : decode cX3_addSet 12 = .ok (.ishr, 1) := by decide +kernel
theorem dX3_addSet_13 : decode cX3_addSet 13 = .ok (.iconst 1, 1) := by decide +kernel
theorem dX3_addSet_14 : decode cX3_addSet 14 = .ok (.iand, 1) := by decide +kernel
theorem dX3_addSet_15 : decode cX3_addSet 15 = .ok (.ifCond .eq 42, 3) := by decide +kernel
theorem dX3_addSet_18 : decode cX3_addSet 18 = .ok (.iload_n 1, 1) := by decide +kernel
theorem dX3_addSet_19 : decode cX3_addSet 19 = .ok (.iconst 1, 1) := by decide +kernel
theorem dX3_addSet_20 : decode cX3_addSet 20 = .ok (.iload_n 3, 1) := by decide +kernel
theorem dX3_addSet_21 : decode cX3_addSet 21 = .ok (.ishl, 1) := by decide +kernel
theorem dX3_addSet_22 : decode cX3_addSet 22 = .ok (.ixor, 1) := by decide +kernel
theorem dX3_addSet_23 : decode cX3_addSet 23 = .ok (.istore 4, 2) := by decide +kernel
theorem dX3_addSet_25 : decode cX3_addSet 25 = .ok (.aload_n 0, 1) := by decide +kernel
theorem dX3_addSet_26 : decode cX3_addSet 26 = .ok (.getfield 15, 3) := by decide +kernel
theorem dX3_addSet_29 : decode cX3_addSet 29 = .ok (.iload_n 1, 1) := by decide +kernel
theorem dX3_addSet_30 : decode cX3_addSet 30 = .ok (.aload_n 0, 1) := by decide +kernel
theorem dX3_addSet_31 : decode cX3_addSet 31 = .ok (.getfield 15, 3) := by decide +kernel
theorem dX3_addSet_34 : decode cX3_addSet 34 = .ok (.iload 4, 2) := by decide +kernel
theorem dX3_addSet_36 : decode cX3_addSet 36 = .ok (.iaload, 1) := by decide +kernel
theorem dX3_addSet_37 : decode cX3_addSet 37 = .ok (.aload_n 0, 1) := by decide +kernel
theorem dX3_addSet_38 : decode cX3_addSet 38 = .ok (.getfield 9, 3) := by decide +kernel
theorem dX3_addSet_41 : decode cX3_addSet 41 = .ok (.iload_n 3, 1) := by decide +kernel
theorem dX3_addSet_42 : decode cX3_addSet 42 = .ok (.iaload, 1) := by decide +kernel
theorem dX3_addSet_43 : decode cX3_addSet 43 = .ok (.iadd, 1) := by decide +kernel
theorem dX3_addSet_44 : decode cX3_addSet 44 = .ok (.iastore, 1) := by decide +kernel
theorem dX3_addSet_45 : decode cX3_addSet 45 = .ok (.iload_n 2, 1) := by decide +kernel
theorem dX3_addSet_46 : decode cX3_addSet 46 = .ok (.aload_n 0, 1) := by decide +kernel
theorem dX3_addSet_47 : decode cX3_addSet 47 = .ok (.getfield 18, 3) := by decide +kernel
theorem dX3_addSet_50 : decode cX3_addSet 50 = .ok (.iload 4, 2) := by decide +kernel
theorem dX3_addSet_52 : decode cX3_addSet 52 = .ok (.iaload, 1) := by decide +kernel
theorem dX3_addSet_53 : decode cX3_addSet 53 = .ok (.invokestatic 31, 3) := by decide +kernel
theorem dX3_addSet_56 : decode cX3_addSet 56 = .ok (.istore_n 2, 1) := by decide +kernel
theorem dX3_addSet_57 : decode cX3_addSet 57 = .ok (.iinc 3 1, 3) := by decide +kernel
theorem dX3_addSet_60 : decode cX3_addSet 60 = .ok (.goto (-56), 3) := by decide +kernel
theorem dX3_addSet_63 : decode cX3_addSet 63 = .ok (.aload_n 0, 1) := by decide +kernel
theorem dX3_addSet_64 : decode cX3_addSet 64 = .ok (.getfield 18, 3) := by decide +kernel
theorem dX3_addSet_67 : decode cX3_addSet 67 = .ok (.iload_n 1, 1) := by decide +kernel
theorem dX3_addSet_68 : decode cX3_addSet 68 = .ok (.aload_n 0, 1) := by decide +kernel
theorem dX3_addSet_69 : decode cX3_addSet 69 = .ok (.getfield 15, 3) := by decide +kernel
theorem dX3_addSet_72 : decode cX3_addSet 72 = .ok (.iload_n 1, 1) := by decide +kernel
theorem dX3_addSet_73 : decode cX3_addSet 73 = .ok (.iaload, 1) := by decide +kernel
theorem dX3_addSet_74 : decode cX3_addSet 74 = .ok (.ifCond .ne 9, 3) := by decide +kernel
theorem dX3_addSet_77 : decode cX3_addSet 77 = .ok (.iload_n 2, 1) := by decide +kernel
theorem dX3_addSet_78 : decode cX3_addSet 78 = .ok (.iconst 1, 1) := by decide +kernel
theorem dX3_addSet_79 : decode cX3_addSet 79 = .ok (.iadd, 1) := by decide +kernel
theorem dX3_addSet_80 : decode cX3_addSet 80 = .ok (.goto 4, 3) := by decide +kernel
theorem dX3_addSet_83 : decode cX3_addSet 83 = .ok (.iload_n 2, 1) := by decide +kernel
theorem dX3_addSet_84 : decode cX3_addSet 84 = .ok (.iastore, 1) := by decide +kernel
theorem dX3_addSet_85 : decode cX3_addSet 85 = .ok (.return_, 1) := by decide +kernel
end
section
theorem dX4_init_0 : decode cX4_init 0 = .ok (.aload_n 0, 1) := by decide +kernel
theorem dX4_init_1 : decode cX4_init 1 = .ok (.invokespecial 3, 3) := by decide +kernel
theorem dX4_init_4 : decode cX4_init 4 = .ok (.aload_n 0, 1) := by decide +kernel
theorem dX4_init_5 : decode cX4_init 5 = .ok (.bipush 16, 2) := by decide +kernel
theorem dX4_init_7 : decode cX4_init 7 = .ok (.newarray .int, 2) := by decide +kernel
theorem dX4_init_9 : decode cX4_init 9 = .ok (.putfield 9, 3) := by decide +kernel
theorem dX4_init_12 : decode cX4_init 12 = .ok (.aload_n 0, 1) := by decide +kernel
theorem dX4_init_13 : decode cX4_init 13 = .ok (.bipush 16, 2) := by decide +kernel
theorem dX4_init_15 : decode cX4_init 15 = .ok (.newarray .int, 2) := by decide +kernel
theorem dX4_init_17 : decode cX4_init 17 = .ok (.putfield 15, 3) := by decide +kernel
theorem dX4_init_20 : decode cX4_init 20 = .ok (.aload_n 0, 1) := by decide +kernel
theorem dX4_init_21 : decode cX4_init 21 = .ok (.bipush 16, 2) := by decide +kernel
theorem dX4_init_23 : decode cX4_init 23 = .ok (.newarray .int, 2) := by decide +kernel
theorem dX4_init_25 : decode cX4_init 25 = .ok (.putfield 18, 3) := by decide +kernel
theorem dX4_init_28 : decode cX4_init 28 = .ok (.aload_n 0, 1) := by decide +kernel
theorem dX4_init_29 : decode cX4_init 29 = .ok (.bipush 16, 2) := by decide +kernel
theorem dX4_init_31 : decode cX4_init 31 = .ok (.newarray .int, 2) := by decide +kernel
theorem dX4_init_33 : decode cX4_init 33 = .ok (.putfield 21, 3) := by decide +kernel
theorem dX4_init_36 : decode cX4_init 36 = .ok (.return_, 1) := by decide +kernel
theorem dX4_roam_0 : decode cX4_roam 0 = .ok (.iconst 0, 1) := by decide +kernel
theorem dX4_roam_1 : decode cX4_roam 1 = .ok (.istore_n 3, 1) := by decide +kernel
theorem dX4_roam_2 : decode cX4_roam 2 = .ok (.iload_n 3, 1) := by decide +kernel
theorem dX4_roam_3 : decode cX4_roam 3 = .ok (.bipush 16, 2) := by decide +kernel
theorem dX4_roam_5 : decode cX4_roam 5 = .ok (.if_icmp .ge 27, 3) := by decide +kernel
theorem dX4_roam_8 : decode cX4_roam 8 = .ok (.aload_n 0, 1) := by decide +kernel
theorem dX4_roam_9 : decode cX4_roam 9 = .ok (.getfield 9, 3) := by decide +kernel
theorem dX4_roam_12 : decode cX4_roam 12 = .ok (.iload_n 3, 1) := by decide +kernel
theorem dX4_roam_13 : decode cX4_roam 13 = .ok (.iconst (-1), 1) := by decide +kernel
theorem dX4_roam_14 : decode cX4_roam 14 = .ok (.iastore, 1) := by decide +kernel
theorem dX4_roam_15 : decode cX4_roam 15 = .ok (.aload_n 0, 1) := by decide +kernel
theorem dX4_roam_16 : decode cX4_roam 16 = .ok (.getfield 18, 3) := by decide +kernel
theorem dX4_roam_19 : decode cX4_roam 19 = .ok (.iload_n 3, 1) := by decide +kernel
theorem dX4_roam_20 : decode cX4_roam 20 = .ok (.aload_n 1, 1) := by decide +kernel
theorem dX4_roam_21 : decode cX4_roam 21 = .ok (.iload_n 3, 1) := by decide +kernel
theorem dX4_roam_22 : decode cX4_roam 22 = .ok (.invokevirtual 24, 3) := by decide +kernel
theorem dX4_roam_25 : decode cX4_roam 25 = .ok (.iastore, 1) := by decide +kernel
theorem dX4_roam_26 : decode cX4_roam 26 = .ok (.iinc 3 1, 3) := by decide +kernel
theorem dX4_roam_29 : decode cX4_roam 29 = .ok (.goto (-27), 3) := by decide +kernel
theorem dX4_roam_32 : decode cX4_roam 32 = .ok (.aload_n 0, 1) := by decide +kernel
theorem dX4_roam_33 : decode cX4_roam 33 = .ok (.iconst 0, 1) := by decide +kernel
theorem dX4_roam_34 : decode cX4_roam 34 = .ok (.putfield 30, 3) := by decide +kernel
theorem dX4_roam_37 : decode cX4_roam 37 = .ok (.aload_n 1, 1) := by decide +kernel
theorem dX4_roam_38 : decode cX4_roam 38 = .ok (.iload_n 2, 1) := by decide +kernel
theorem dX4_roam_39 : decode cX4_roam 39 = .ok (.invokevirtual 34, 3) := by decide +kernel
theorem dX4_roam_42 : decode cX4_roam 42 = .ok (.ifCond .ne 4, 3) := by decide +kernel
theorem dX4_roam_45 : decode cX4_roam 45 = .ok (.return_, 1) := by decide +kernel
theorem dX4_roam_46 : decode cX4_roam 46 = .ok (.aload_n 0, 1) := by decide +kernel
theorem dX4_roam_47 : decode cX4_roam 47 = .ok (.iload_n 2, 1) := by decide +kernel
theorem dX4_roam_48 : decode cX4_roam 48 = .ok (.iconst 0, 1) := by decide +kernel
theorem dX4_roam_49 : decode cX4_roam 49 = .ok (.aload_n 0, 1) := by decide +kernel
theorem dX4_roam_50 : decode cX4_roam 50 = .ok (.getfield 18, 3) := by decide +kernel
theorem dX4_roam_53 : decode cX4_roam 53 = .ok (.iload_n 2, 1) := by decide +kernel
theorem dX4_roam_54 : decode cX4_roam 54 = .ok (.iaload, 1) := by decide +kernel
theorem dX4_roam_55 : decode cX4_roam 55 = .ok (.invokevirtual 38, 3) := by decide +kernel
theorem dX4_roam_58 : decode cX4_roam 58 = .ok (.iconst 0, 1) := by decide +kernel
theorem dX4_roam_59 : decode cX4_roam 59 = .ok (.istore_n 3, 1) := by decide +kernel
theorem dX4_roam_60 : decode cX4_roam 60 = .ok (.iload_n 3, 1) := by decide +kernel
theorem dX4_roam_61 : decode cX4_roam 61 = .ok (.aload_n 0, 1) := by decide +kernel
theorem dX4_roam_62 : decode cX4_roam 62 = .ok (.getfield 30, 3) := by decide +kernel
theorem dX4_roam_65 : decode cX4_roam 65 = .ok (.if_icmp .ge 20, 3) := by decide +kernel
theorem dX4_roam_68 : decode cX4_roam 68 = .ok (.aload_n 0, 1) := by decide +kernel
theorem dX4_roam_69 : decode cX4_roam 69 = .ok (.aload_n 1, 1) := by decide +kernel
theorem dX4_roam_70 : decode cX4_roam 70 = .ok (.aload_n 0, 1) := by decide +kernel
theorem dX4_roam_71 : decode cX4_roam 71 = .ok (.getfield 21, 3) := by decide +kernel
theorem dX4_roam_74 : decode cX4_roam 74 = .ok (.iload_n 3, 1) := by decide +kernel
theorem dX4_roam_75 : decode cX4_roam 75 = .ok (.iaload, 1) := by decide +kernel
theorem dX4_roam_76 : decode cX4_roam 76 = .ok (.invokevirtual 42, 3) := by decide +kernel
theorem dX4_roam_79 : decode cX4_roam 79 = .ok (.iinc 3 1, 3) := by decide +kernel
theorem dX4_roam_82 : decode cX4_roam 82 = .ok (.goto (-22), 3) := by decide +kernel
theorem dX4_roam_85 : decode cX4_roam 85 = .ok (.return_, 1) := by decide +kernel
theorem dX4_leave_0 : decode cX4_leave 0 = .ok (.aload_n 0, 1) := by decide +kernel
theorem dX4_leave_1 : decode cX4_leave 1 = .ok (.aload_n 1, 1) := by decide +kernel
theorem dX4_leave_2 : decode cX4_leave 2 = .ok (.iload_n 2, 1) := by decide +kernel
theorem dX4_leave_3 : decode cX4_leave 3 = .ok (.iload_n 2, 1) := by decide +kernel
theorem dX4_leave_4 : decode cX4_leave 4 = .ok (.aload_n 1, 1) := by decide +kernel
theorem dX4_leave_5 : decode cX4_leave 5 = .ok (.getfield 46, 3) := by decide +kernel
theorem dX4_leave_8 : decode cX4_leave 8 = .ok (.isub, 1) := by decide +kernel
theorem dX4_leave_9 : decode cX4_leave 9 = .ok (.invokevirtual 49, 3) := by decide +kernel
theorem dX4_leave_12 : decode cX4_leave 12 = .ok (.aload_n 1, 1) := by decide +kernel
theorem dX4_leave_13 : decode cX4_leave 13 = .ok (.getfield 46, 3) := by decide +kernel
theorem dX4_leave_16 : decode cX4_leave 16 = .ok (.ifCond .le 23, 3) := by decide +kernel
theorem dX4_leave_19 : decode cX4_leave 19 = .ok (.iload_n 2, 1) := by decide +kernel
theorem dX4_leave_20 : decode cX4_leave 20 = .ok (.iconst 1, 1) := by decide +kernel
theorem dX4_leave_21 : decode cX4_leave 21 = .ok (.iadd, 1) := by decide +kernel
theorem dX4_leave_22 : decode cX4_leave 22 = .ok (.aload_n 1, 1) := by decide +kernel
theorem dX4_leave_23 : decode cX4_leave 23 = .ok (.getfield 46, 3) := by decide +kernel
theorem dX4_leave_26 : decode cX4_leave 26 = .ok (.irem, 1) := by decide +kernel
theorem dX4_leave_27 : decode cX4_leave 27 = .ok (.ifCond .eq 12, 3) := by decide +kernel
theorem dX4_leave_30 : decode cX4_leave 30 = .ok (.aload_n 0, 1) := by decide +kernel
theorem dX4_leave_31 : decode cX4_leave 31 = .ok (.aload_n 1, 1) := by decide +kernel
theorem dX4_leave_32 : decode cX4_leave 32 = .ok (.iload_n 2, 1) := by decide +kernel
theorem dX4_leave_33 : decode cX4_leave 33 = .ok (.iload_n 2, 1) := by decide +kernel
theorem dX4_leave_34 : decode cX4_leave 34 = .ok (.iconst 1, 1) := by decide +kernel
theorem dX4_leave_35 : decode cX4_leave 35 = .ok (.iadd, 1) := by decide +kernel
theorem dX4_leave_36 : decode cX4_leave 36 = .ok (.invokevirtual 49, 3) := by decide +kernel
theorem dX4_leave_39 : decode cX4_leave 39 = .ok (.aload_n 0, 1) := by decide +kernel
theorem dX4_leave_40 : decode cX4_leave 40 = .ok (.aload_n 1, 1) := by decide +kernel
theorem dX4_leave_41 : decode cX4_leave 41 = .ok (.iload_n 2, 1) := by decide +kernel
theorem dX4_leave_42 : decode cX4_leave 42 = .ok (.iload_n 2, 1) := by decide +kernel
theorem dX4_leave_43 : decode cX4_leave 43 = .ok (.aload_n 1, 1) := by decide +kernel
theorem dX4_leave_44 : decode cX4_leave 44 = .ok (.getfield 46, 3) := by decide +kernel
theorem dX4_leave_47 : decode cX4_leave 47 = .ok (.iadd, 1) := by decide +kernel
theorem dX4_leave_48 : decode cX4_leave 48 = .ok (.invokevirtual 49, 3) := by decide +kernel
theorem dX4_leave_51 : decode cX4_leave 51 = .ok (.aload_n 1, 1) := by decide +kernel
theorem dX4_leave_52 : decode cX4_leave 52 = .ok (.getfield 46, 3) := by decide +kernel
theorem dX4_leave_55 : decode cX4_leave 55 = .ok (.ifCond .le 21, 3) := by decide +kernel
theorem dX4_leave_58 : decode cX4_leave 58 = .ok (.iload_n 2, 1) := by decide +kernel
theorem dX4_leave_59 : decode cX4_leave 59 = .ok (.aload_n 1, 1) := by decide +kernel
theorem dX4_leave_60 : decode cX4_leave 60 = .ok (.getfield 46, 3) := by decide +kernel
theorem dX4_leave_63 : decode cX4_leave 63 = .ok (.irem, 1) := by decide +kernel
theorem dX4_leave_64 : decode cX4_leave 64 = .ok (.ifCond .eq 12, 3) := by decide +kernel
theorem dX4_leave_67 : decode cX4_leave 67 = .ok (.aload_n 0, 1) := by decide +kernel
theorem dX4_leave_68 : decode cX4_leave 68 = .ok (.aload_n 1, 1) := by decide +kernel
theorem dX4_leave_69 : decode cX4_leave 69 = .ok (.iload_n 2, 1) := by decide +kernel
theorem dX4_leave_70 : decode cX4_leave 70 = .ok (.iload_n 2, 1) := by decide +kernel
theorem dX4_leave_71 : decode cX4_leave 71 = .ok (.iconst 1, 1) := by decide +kernel
theorem dX4_leave_72 : decode cX4_leave 72 = .ok (.isub, 1) := by decide +kernel
theorem dX4_leave_73 : decode cX4_leave 73 = .ok (.invokevirtual 49, 3) := by decide +kernel
theorem dX4_leave_76 : decode cX4_leave 76 = .ok (.return_, 1) := by decide +kernel
theorem dX4_reach_0 : decode cX4_reach 0 = .ok (.aload_n 1, 1) := by decide +kernel
theorem dX4_reach_1 : decode cX4_reach 1 = .ok (.iload_n 3, 1) := by decide +kernel
theorem dX4_reach_2 : decode cX4_reach 2 = .ok (.invokevirtual 34, 3) := by decide +kernel
theorem dX4_reach_5 : decode cX4_reach 5 = .ok (.ifCond .ne 4, 3) := by decide +kernel
theorem dX4_reach_8 : decode cX4_reach 8 = .ok (.return_, 1) := by decide +kernel
theorem dX4_reach_9 : decode cX4_reach 9 = .ok (.aload_n 0, 1) := by decide +kernel
theorem dX4_reach_10 : decode cX4_reach 10 = .ok (.getfield 15, 3) := by decide +kernel
theorem dX4_reach_13 : decode cX4_reach 13 = .ok (.iload_n 2, 1) := by decide +kernel
theorem dX4_reach_14 : decode cX4_reach 14 = .ok (.iaload, 1) := by decide +kernel
theorem dX4_reach_15 : decode cX4_reach 15 = .ok (.aload_n 0, 1) := by decide +kernel
theorem dX4_reach_16 : decode cX4_reach 16 = .ok (.getfield 18, 3) := by decide +kernel
theorem dX4_reach_19 : decode cX4_reach 19 = .ok (.iload_n 3, 1) := by decide +kernel
theorem dX4_reach_20 : decode cX4_reach 20 = .ok (.iaload, 1) := by decide +kernel
theorem dX4_reach_21 : decode cX4_reach 21 = .ok (.iadd, 1) := by decide +kernel
theorem dX4_reach_22 : decode cX4_reach 22 = .ok (.istore 4, 2) := by decide +kernel
theorem dX4_reach_24 : decode cX4_reach 24 = .ok (.aload_n 0, 1) := by decide +kernel
theorem dX4_reach_25 : decode cX4_reach 25 = .ok (.getfield 9, 3) := by decide +kernel
theorem dX4_reach_28 : decode cX4_reach 28 = .ok (.iload_n 3, 1) := by decide +kernel
theorem dX4_reach_29 : decode cX4_reach 29 = .ok (.iaload, 1) := by decide +kernel
theorem dX4_reach_30 : decode cX4_reach 30 = .ok (.iconst (-1), 1) := by decide +kernel
theorem dX4_reach_31 : decode cX4_reach 31 = .ok (.if_icmp .ne 21, 3) := by decide +kernel
theorem dX4_reach_34 : decode cX4_reach 34 = .ok (.aload_n 0, 1) := by decide +kernel
theorem dX4_reach_35 : decode cX4_reach 35 = .ok (.iload_n 3, 1) := by decide +kernel
theorem dX4_reach_36 : decode cX4_reach 36 = .ok (.aload_n 0, 1) := by decide +kernel
theorem dX4_reach_37 : decode cX4_reach 37 = .ok (.getfield 9, 3) := by decide +kernel
theorem dX4_reach_40 : decode cX4_reach 40 = .ok (.iload_n 2, 1) := by decide +kernel
theorem dX4_reach_41 : decode cX4_reach 41 = .ok (.iaload, 1) := by decide +kernel
theorem dX4_reach_42 : decode cX4_reach 42 = .ok (.iconst 1, 1) := by decide +kernel
theorem dX4_reach_43 : decode cX4_reach 43 = .ok (.iadd, 1) := by decide +kernel
theorem dX4_reach_44 : decode cX4_reach 44 = .ok (.iload 4, 2) := by decide +kernel
theorem dX4_reach_46 : decode cX4_reach 46 = .ok (.invokevirtual 38, 3) := by decide +kernel
theorem dX4_reach_49 : decode cX4_reach 49 = .ok (.goto 37, 3) := by decide +kernel
theorem dX4_reach_52 : decode cX4_reach 52 = .ok (.aload_n 0, 1) := by decide +kernel
theorem dX4_reach_53 : decode cX4_reach 53 = .ok (.getfield 9, 3) := by decide +kernel
theorem dX4_reach_56 : decode cX4_reach 56 = .ok (.iload_n 3, 1) := by decide +kernel
theorem dX4_reach_57 : decode cX4_reach 57 = .ok (.iaload, 1) := by decide +kernel
theorem dX4_reach_58 : decode cX4_reach 58 = .ok (.aload_n 0, 1) := by decide +kernel
theorem dX4_reach_59 : decode cX4_reach 59 = .ok (.getfield 9, 3) := by decide +kernel
theorem dX4_reach_62 : decode cX4_reach 62 = .ok (.iload_n 2, 1) := by decide +kernel
theorem dX4_reach_63 : decode cX4_reach 63 = .ok (.iaload, 1) := by decide +kernel
theorem dX4_reach_64 : decode cX4_reach 64 = .ok (.iconst 1, 1) := by decide +kernel
theorem dX4_reach_65 : decode cX4_reach 65 = .ok (.iadd, 1) := by decide +kernel
theorem dX4_reach_66 : decode cX4_reach 66 = .ok (.if_icmp .ne 20, 3) := by decide +kernel
theorem dX4_reach_69 : decode cX4_reach 69 = .ok (.aload_n 0, 1) := by decide +kernel
theorem dX4_reach_70 : decode cX4_reach 70 = .ok (.getfield 15, 3) := by decide +kernel
theorem dX4_reach_73 : decode cX4_reach 73 = .ok (.iload_n 3, 1) := by decide +kernel
theorem dX4_reach_74 : decode cX4_reach 74 = .ok (.aload_n 0, 1) := by decide +kernel
theorem dX4_reach_75 : decode cX4_reach 75 = .ok (.getfield 15, 3) := by decide +kernel
theorem dX4_reach_78 : decode cX4_reach 78 = .ok (.iload_n 3, 1) := by decide +kernel
theorem dX4_reach_79 : decode cX4_reach 79 = .ok (.iaload, 1) := by decide +kernel
theorem dX4_reach_80 : decode cX4_reach 80 = .ok (.iload 4, 2) := by decide +kernel
theorem dX4_reach_82 : decode cX4_reach 82 = .ok (.invokestatic 53, 3) := by decide +kernel
theorem dX4_reach_85 : decode cX4_reach 85 = .ok (.iastore, 1) := by decide +kernel
theorem dX4_reach_86 : decode cX4_reach 86 = .ok (.return_, 1) := by decide +kernel
theorem dX4_enter_0 : decode cX4_enter 0 = .ok (.aload_n 0, 1) := by decide +kernel
theorem dX4_enter_1 : decode cX4_enter 1 = .ok (.getfield 9, 3) := by decide +kernel
theorem dX4_enter_4 : decode cX4_enter 4 = .ok (.iload_n 1, 1) := by decide +kernel
theorem dX4_enter_5 : decode cX4_enter 5 = .ok (.iload_n 2, 1) := by decide +kernel
theorem dX4_enter_6 : decode cX4_enter 6 = .ok (.iastore, 1) := by decide +kernel
theorem dX4_enter_7 : decode cX4_enter 7 = .ok (.aload_n 0, 1) := by decide +kernel
theorem dX4_enter_8 : decode cX4_enter 8 = .ok (.getfield 15, 3) := by decide +kernel
theorem dX4_enter_11 : decode cX4_enter 11 = .ok (.iload_n 1, 1) := by decide +kernel
theorem dX4_enter_12 : decode cX4_enter 12 = .ok (.iload_n 3, 1) := by decide +kernel
theorem dX4_enter_13 : decode cX4_enter 13 = .ok (.iastore, 1) := by decide +kernel
theorem dX4_enter_14 : decode cX4_enter 14 = .ok (.aload_n 0, 1) := by decide +kernel
theorem dX4_enter_15 : decode cX4_enter 15 = .ok (.getfield 30, 3) := by decide +kernel
theorem dX4_enter_18 : decode cX4_enter 18 = .ok (.bipush 16, 2) := by decide +kernel
theorem dX4_enter_20 : decode cX4_enter 20 = .ok (.if_icmp .ge 23, 3) := by decide +kernel
theorem dX4_enter_23 : decode cX4_enter 23 = .ok (.aload_n 0, 1) := by decide +kernel
theorem dX4_enter_24 : decode cX4_enter 24 = .ok (.getfield 21, 3) := by decide +kernel
theorem dX4_enter_27 : decode cX4_enter 27 = .ok (.aload_n 0, 1) := by decide +kernel
theorem dX4_enter_28 : decode cX4_enter 28 = .ok (.getfield 30, 3) := by decide +kernel
theorem dX4_enter_31 : decode cX4_enter 31 = .ok (.iload_n 1, 1) := by decide +kernel
theorem dX4_enter_32 : decode cX4_enter 32 = .ok (.iastore, 1) := by decide +kernel
theorem dX4_enter_33 : decode cX4_enter 33 = .ok (.aload_n 0, 1) := by decide +kernel
theorem dX4_enter_34 : decode cX4_enter 34 = .ok (.dup, 1) := by decide +kernel
theorem dX4_enter_35 : decode cX4_enter 35 = .ok (.getfield 30, 3) := by decide +kernel
theorem dX4_enter_38 : decode cX4_enter 38 = .ok (.iconst 1, 1) := by decide +kernel
theorem dX4_enter_39 : decode cX4_enter 39 = .ok (.iadd, 1) := by decide +kernel
theorem dX4_enter_40 : decode cX4_enter 40 = .ok (.putfield 30, 3) := by decide +kernel
theorem dX4_enter_43 : decode cX4_enter 43 = .ok (.return_, 1) := by decide +kernel
end
section
theorem dX5_init_0 : decode cX5_init 0 = .ok (.aload_n 0, 1) := by decide +kernel
theorem dX5_init_1 : decode cX5_init 1 = .ok (.invokespecial 3, 3) := by decide +kernel
theorem dX5_init_4 : decode cX5_init 4 = .ok (.aload_n 0, 1) := by decide +kernel
theorem dX5_init_5 : decode cX5_init 5 = .ok (.bipush 16, 2) := by decide +kernel
theorem dX5_init_7 : decode cX5_init 7 = .ok (.newarray .int, 2) := by decide +kernel
theorem dX5_init_9 : decode cX5_init 9 = .ok (.putfield 9, 3) := by decide +kernel
theorem dX5_init_12 : decode cX5_init 12 = .ok (.aload_n 0, 1) := by decide +kernel
theorem dX5_init_13 : decode cX5_init 13 = .ok (.bipush 10, 2) := by decide +kernel
theorem dX5_init_15 : decode cX5_init 15 = .ok (.anewarray 15, 3) := by decide +kernel
theorem dX5_init_18 : decode cX5_init 18 = .ok (.putfield 17, 3) := by decide +kernel
theorem dX5_init_21 : decode cX5_init 21 = .ok (.iconst 0, 1) := by decide +kernel
theorem dX5_init_22 : decode cX5_init 22 = .ok (.istore_n 1, 1) := by decide +kernel
theorem dX5_init_23 : decode cX5_init 23 = .ok (.iload_n 1, 1) := by decide +kernel
theorem dX5_init_24 : decode cX5_init 24 = .ok (.bipush 10, 2) := by decide +kernel
theorem dX5_init_26 : decode cX5_init 26 = .ok (.if_icmp .ge 22, 3) := by decide +kernel
theorem dX5_init_29 : decode cX5_init 29 = .ok (.aload_n 0, 1) := by decide +kernel
theorem dX5_init_30 : decode cX5_init 30 = .ok (.getfield 17, 3) := by decide +kernel
theorem dX5_init_33 : decode cX5_init 33 = .ok (.iload_n 1, 1) := by decide +kernel
theorem dX5_init_34 : decode cX5_init 34 = .ok (.new 15, 3) := by decide +kernel
theorem dX5_init_37 : decode cX5_init 37 = .ok (.dup, 1) := by decide +kernel
theorem dX5_init_38 : decode cX5_init 38 = .ok (.invokespecial 21, 3) := by decide +kernel
theorem dX5_init_41 : decode cX5_init 41 = .ok (.aastore, 1) := by decide +kernel
theorem dX5_init_42 : decode cX5_init 42 = .ok (.iinc 1 1, 3) := by decide +kernel
theorem dX5_init_45 : decode cX5_init 45 = .ok (.goto (-22), 3) := by decide +kernel
theorem dX5_init_48 : decode cX5_init 48 = .ok (.return_, 1) := by decide +kernel
theorem dX5_begin_0 : decode cX5_begin 0 = .ok (.aload_n 0, 1) := by decide +kernel
theorem dX5_begin_1 : decode cX5_begin 1 = .ok (.iload_n 2, 1) := by decide +kernel
theorem dX5_begin_2 : decode cX5_begin 2 = .ok (.putfield 22, 3) := by decide +kernel
theorem dX5_begin_5 : decode cX5_begin 5 = .ok (.aload_n 0, 1) := by decide +kernel
theorem dX5_begin_6 : decode cX5_begin 6 = .ok (.iload_n 1, 1) := by decide +kernel
theorem dX5_begin_7 : decode cX5_begin 7 = .ok (.iload_n 2, 1) := by decide +kernel
theorem dX5_begin_8 : decode cX5_begin 8 = .ok (.imul, 1) := by decide +kernel
theorem dX5_begin_9 : decode cX5_begin 9 = .ok (.putfield 26, 3) := by decide +kernel
theorem dX5_begin_12 : decode cX5_begin 12 = .ok (.aload_n 0, 1) := by decide +kernel
theorem dX5_begin_13 : decode cX5_begin 13 = .ok (.iconst 0, 1) := by decide +kernel
theorem dX5_begin_14 : decode cX5_begin 14 = .ok (.putfield 29, 3) := by decide +kernel
theorem dX5_begin_17 : decode cX5_begin 17 = .ok (.aload_n 0, 1) := by decide +kernel
theorem dX5_begin_18 : decode cX5_begin 18 = .ok (.iconst 0, 1) := by decide +kernel
theorem dX5_begin_19 : decode cX5_begin 19 = .ok (.putfield 32, 3) := by decide +kernel
theorem dX5_begin_22 : decode cX5_begin 22 = .ok (.aload_n 0, 1) := by decide +kernel
theorem dX5_begin_23 : decode cX5_begin 23 = .ok (.iconst 0, 1) := by decide +kernel
theorem dX5_begin_24 : decode cX5_begin 24 = .ok (.putfield 35, 3) := by decide +kernel
theorem dX5_begin_27 : decode cX5_begin 27 = .ok (.iconst 0, 1) := by decide +kernel
theorem dX5_begin_28 : decode cX5_begin 28 = .ok (.istore_n 3, 1) := by decide +kernel
theorem dX5_begin_29 : decode cX5_begin 29 = .ok (.iload_n 3, 1) := by decide +kernel
theorem dX5_begin_30 : decode cX5_begin 30 = .ok (.bipush 16, 2) := by decide +kernel
theorem dX5_begin_32 : decode cX5_begin 32 = .ok (.if_icmp .ge 17, 3) := by decide +kernel
theorem dX5_begin_35 : decode cX5_begin 35 = .ok (.aload_n 0, 1) := by decide +kernel
theorem dX5_begin_36 : decode cX5_begin 36 = .ok (.getfield 9, 3) := by decide +kernel
theorem dX5_begin_39 : decode cX5_begin 39 = .ok (.iload_n 3, 1) := by decide +kernel
theorem dX5_begin_40 : decode cX5_begin 40 = .ok (.bipush 10, 2) := by decide +kernel
theorem dX5_begin_42 : decode cX5_begin 42 = .ok (.iastore, 1) := by decide +kernel
theorem dX5_begin_43 : decode cX5_begin 43 = .ok (.iinc 3 1, 3) := by decide +kernel
theorem dX5_begin_46 : decode cX5_begin 46 = .ok (.goto (-17), 3) := by decide +kernel
theorem dX5_begin_49 : decode cX5_begin 49 = .ok (.return_, 1) := by decide +kernel
theorem dX5_copyFrom_0 : decode cX5_copyFrom 0 = .ok (.aload_n 0, 1) := by decide +kernel
theorem dX5_copyFrom_1 : decode cX5_copyFrom 1 = .ok (.aload_n 1, 1) := by decide +kernel
theorem dX5_copyFrom_2 : decode cX5_copyFrom 2 = .ok (.getfield 22, 3) := by decide +kernel
theorem dX5_copyFrom_5 : decode cX5_copyFrom 5 = .ok (.putfield 22, 3) := by decide +kernel
theorem dX5_copyFrom_8 : decode cX5_copyFrom 8 = .ok (.aload_n 0, 1) := by decide +kernel
theorem dX5_copyFrom_9 : decode cX5_copyFrom 9 = .ok (.aload_n 1, 1) := by decide +kernel
theorem dX5_copyFrom_10 : decode cX5_copyFrom 10 = .ok (.getfield 26, 3) := by decide +kernel
theorem dX5_copyFrom_13 : decode cX5_copyFrom 13 = .ok (.putfield 26, 3) := by decide +kernel
theorem dX5_copyFrom_16 : decode cX5_copyFrom 16 = .ok (.aload_n 0, 1) := by decide +kernel
theorem dX5_copyFrom_17 : decode cX5_copyFrom 17 = .ok (.aload_n 1, 1) := by decide +kernel
theorem dX5_copyFrom_18 : decode cX5_copyFrom 18 = .ok (.getfield 29, 3) := by decide +kernel
theorem dX5_copyFrom_21 : decode cX5_copyFrom 21 = .ok (.putfield 29, 3) := by decide +kernel
theorem dX5_copyFrom_24 : decode cX5_copyFrom 24 = .ok (.aload_n 0, 1) := by decide +kernel
theorem dX5_copyFrom_25 : decode cX5_copyFrom 25 = .ok (.aload_n 1, 1) := by decide +kernel
theorem dX5_copyFrom_26 : decode cX5_copyFrom 26 = .ok (.getfield 32, 3) := by decide +kernel
theorem dX5_copyFrom_29 : decode cX5_copyFrom 29 = .ok (.putfield 32, 3) := by decide +kernel
theorem dX5_copyFrom_32 : decode cX5_copyFrom 32 = .ok (.aload_n 0, 1) := by decide +kernel
theorem dX5_copyFrom_33 : decode cX5_copyFrom 33 = .ok (.aload_n 1, 1) := by decide +kernel
theorem dX5_copyFrom_34 : decode cX5_copyFrom 34 = .ok (.getfield 35, 3) := by decide +kernel
theorem dX5_copyFrom_37 : decode cX5_copyFrom 37 = .ok (.putfield 35, 3) := by decide +kernel
theorem dX5_copyFrom_40 : decode cX5_copyFrom 40 = .ok (.iconst 0, 1) := by decide +kernel
theorem dX5_copyFrom_41 : decode cX5_copyFrom 41 = .ok (.istore_n 2, 1) := by decide +kernel
theorem dX5_copyFrom_42 : decode cX5_copyFrom 42 = .ok (.iload_n 2, 1) := by decide +kernel
theorem dX5_copyFrom_43 : decode cX5_copyFrom 43 = .ok (.bipush 16, 2) := by decide +kernel
theorem dX5_copyFrom_45 : decode cX5_copyFrom 45 = .ok (.if_icmp .ge 21, 3) := by decide +kernel
theorem dX5_copyFrom_48 : decode cX5_copyFrom 48 = .ok (.aload_n 0, 1) := by decide +kernel
theorem dX5_copyFrom_49 : decode cX5_copyFrom 49 = .ok (.getfield 9, 3) := by decide +kernel
theorem dX5_copyFrom_52 : decode cX5_copyFrom 52 = .ok (.iload_n 2, 1) := by decide +kernel
theorem dX5_copyFrom_53 : decode cX5_copyFrom 53 = .ok (.aload_n 1, 1) := by decide +kernel
theorem dX5_copyFrom_54 : decode cX5_copyFrom 54 = .ok (.getfield 9, 3) := by decide +kernel
theorem dX5_copyFrom_57 : decode cX5_copyFrom 57 = .ok (.iload_n 2, 1) := by decide +kernel
theorem dX5_copyFrom_58 : decode cX5_copyFrom 58 = .ok (.iaload, 1) := by decide +kernel
theorem dX5_copyFrom_59 : decode cX5_copyFrom 59 = .ok (.iastore, 1) := by decide +kernel
theorem dX5_copyFrom_60 : decode cX5_copyFrom 60 = .ok (.iinc 2 1, 3) := by decide +kernel
theorem dX5_copyFrom_63 : decode cX5_copyFrom 63 = .ok (.goto (-21), 3) := by decide +kernel
theorem dX5_copyFrom_66 : decode cX5_copyFrom 66 = .ok (.iconst 0, 1) := by decide +kernel
theorem dX5_copyFrom_67 : decode cX5_copyFrom 67 = .ok (.istore_n 2, 1) := by decide +kernel
theorem dX5_copyFrom_68 : decode cX5_copyFrom 68 = .ok (.iload_n 2, 1) := by decide +kernel
theorem dX5_copyFrom_69 : decode cX5_copyFrom 69 = .ok (.aload_n 0, 1) := by decide +kernel
theorem dX5_copyFrom_70 : decode cX5_copyFrom 70 = .ok (.getfield 35, 3) := by decide +kernel
theorem dX5_copyFrom_73 : decode cX5_copyFrom 73 = .ok (.if_icmp .ge 24, 3) := by decide +kernel
theorem dX5_copyFrom_76 : decode cX5_copyFrom 76 = .ok (.aload_n 0, 1) := by decide +kernel
theorem dX5_copyFrom_77 : decode cX5_copyFrom 77 = .ok (.getfield 17, 3) := by decide +kernel
theorem dX5_copyFrom_80 : decode cX5_copyFrom 80 = .ok (.iload_n 2, 1) := by decide +kernel
theorem dX5_copyFrom_81 : decode cX5_copyFrom 81 = .ok (.aaload, 1) := by decide +kernel
theorem dX5_copyFrom_82 : decode cX5_copyFrom 82 = .ok (.aload_n 1, 1) := by decide +kernel
theorem dX5_copyFrom_83 : decode cX5_copyFrom 83 = .ok (.getfield 17, 3) := by decide +kernel
theorem dX5_copyFrom_86 : decode cX5_copyFrom 86 = .ok (.iload_n 2, 1) := by decide +kernel
theorem dX5_copyFrom_87 : decode cX5_copyFrom 87 = .ok (.aaload, 1) := by decide +kernel
theorem dX5_copyFrom_88 : decode cX5_copyFrom 88 = .ok (.invokevirtual 38, 3) := by decide +kernel
theorem dX5_copyFrom_91 : decode cX5_copyFrom 91 = .ok (.iinc 2 1, 3) := by decide +kernel
theorem dX5_copyFrom_94 : decode cX5_copyFrom 94 = .ok (.goto (-26), 3) := by decide +kernel
theorem dX5_copyFrom_97 : decode cX5_copyFrom 97 = .ok (.return_, 1) := by decide +kernel
theorem dX5_hasSquare_0 : decode cX5_hasSquare 0 = .ok (.iload_n 1, 1) := by decide +kernel
theorem dX5_hasSquare_1 : decode cX5_hasSquare 1 = .ok (.ifCond .lt 15, 3) := by decide +kernel
theorem dX5_hasSquare_4 : decode cX5_hasSquare 4 = .ok (.iload_n 1, 1) := by decide +kernel
theorem dX5_hasSquare_5 : decode cX5_hasSquare 5 = .ok (.aload_n 0, 1) := by decide +kernel
theorem dX5_hasSquare_6 : decode cX5_hasSquare 6 = .ok (.getfield 26, 3) := by decide +kernel
theorem dX5_hasSquare_9 : decode cX5_hasSquare 9 = .ok (.if_icmp .ge 7, 3) := by decide +kernel
theorem dX5_hasSquare_12 : decode cX5_hasSquare 12 = .ok (.iconst 1, 1) := by decide +kernel
theorem dX5_hasSquare_13 : decode cX5_hasSquare 13 = .ok (.goto 4, 3) := by decide +kernel
theorem dX5_hasSquare_16 : decode cX5_hasSquare 16 = .ok (.iconst 0, 1) := by decide +kernel
theorem dX5_hasSquare_17 : decode cX5_hasSquare 17 = .ok (.ireturn, 1) := by decide +kernel
theorem dX5_hasDebt_0 : decode cX5_hasDebt 0 = .ok (.iload_n 1, 1) := by decide +kernel
theorem dX5_hasDebt_1 : decode cX5_hasDebt 1 = .ok (.ifCond .lt 15, 3) := by decide +kernel
theorem dX5_hasDebt_4 : decode cX5_hasDebt 4 = .ok (.iload_n 1, 1) := by decide +kernel
theorem dX5_hasDebt_5 : decode cX5_hasDebt 5 = .ok (.aload_n 0, 1) := by decide +kernel
theorem dX5_hasDebt_6 : decode cX5_hasDebt 6 = .ok (.getfield 35, 3) := by decide +kernel
theorem dX5_hasDebt_9 : decode cX5_hasDebt 9 = .ok (.if_icmp .ge 7, 3) := by decide +kernel
theorem dX5_hasDebt_12 : decode cX5_hasDebt 12 = .ok (.iconst 1, 1) := by decide +kernel
theorem dX5_hasDebt_13 : decode cX5_hasDebt 13 = .ok (.goto 4, 3) := by decide +kernel
theorem dX5_hasDebt_16 : decode cX5_hasDebt 16 = .ok (.iconst 0, 1) := by decide +kernel
theorem dX5_hasDebt_17 : decode cX5_hasDebt 17 = .ok (.ireturn, 1) := by decide +kernel
theorem dX5_bearsSkater_0 : decode cX5_bearsSkater 0 = .ok (.aload_n 0, 1) := by decide +kernel
theorem dX5_bearsSkater_1 : decode cX5_bearsSkater 1 = .ok (.iload_n 1, 1) := by decide +kernel
theorem dX5_bearsSkater_2 : decode cX5_bearsSkater 2 = .ok (.invokevirtual 42, 3) := by decide +kernel
theorem dX5_bearsSkater_5 : decode cX5_bearsSkater 5 = .ok (.ifCond .eq 17, 3) := by decide +kernel
theorem dX5_bearsSkater_8 : decode cX5_bearsSkater 8 = .ok (.aload_n 0, 1) := by decide +kernel
theorem dX5_bearsSkater_9 : decode cX5_bearsSkater 9 = .ok (.getfield 9, 3) := by decide +kernel
theorem dX5_bearsSkater_12 : decode cX5_bearsSkater 12 = .ok (.iload_n 1, 1) := by decide +kernel
theorem dX5_bearsSkater_13 : decode cX5_bearsSkater 13 = .ok (.iaload, 1) := by decide +kernel
theorem dX5_bearsSkater_14 : decode cX5_bearsSkater 14 = .ok (.iconst 4, 1) := by decide +kernel
theorem dX5_bearsSkater_15 : decode cX5_bearsSkater 15 = .ok (.if_icmp .lt 7, 3) := by decide +kernel
theorem dX5_bearsSkater_18 : decode cX5_bearsSkater 18 = .ok (.iconst 1, 1) := by decide +kernel
theorem dX5_bearsSkater_19 : decode cX5_bearsSkater 19 = .ok (.goto 4, 3) := by decide +kernel
theorem dX5_bearsSkater_22 : decode cX5_bearsSkater 22 = .ok (.iconst 0, 1) := by decide +kernel
theorem dX5_bearsSkater_23 : decode cX5_bearsSkater 23 = .ok (.ireturn, 1) := by decide +kernel
theorem dX5_iceUnder_0 : decode cX5_iceUnder 0 = .ok (.aload_n 0, 1) := by decide +kernel
theorem dX5_iceUnder_1 : decode cX5_iceUnder 1 = .ok (.getfield 17, 3) := by decide +kernel
theorem dX5_iceUnder_4 : decode cX5_iceUnder 4 = .ok (.iload_n 1, 1) := by decide +kernel
theorem dX5_iceUnder_5 : decode cX5_iceUnder 5 = .ok (.aaload, 1) := by decide +kernel
theorem dX5_iceUnder_6 : decode cX5_iceUnder 6 = .ok (.getfield 46, 3) := by decide +kernel
theorem dX5_iceUnder_9 : decode cX5_iceUnder 9 = .ok (.istore_n 2, 1) := by decide +kernel
theorem dX5_iceUnder_10 : decode cX5_iceUnder 10 = .ok (.aload_n 0, 1) := by decide +kernel
theorem dX5_iceUnder_11 : decode cX5_iceUnder 11 = .ok (.iload_n 2, 1) := by decide +kernel
theorem dX5_iceUnder_12 : decode cX5_iceUnder 12 = .ok (.invokevirtual 42, 3) := by decide +kernel
theorem dX5_iceUnder_15 : decode cX5_iceUnder 15 = .ok (.ifCond .eq 12, 3) := by decide +kernel
theorem dX5_iceUnder_18 : decode cX5_iceUnder 18 = .ok (.aload_n 0, 1) := by decide +kernel
theorem dX5_iceUnder_19 : decode cX5_iceUnder 19 = .ok (.getfield 9, 3) := by decide +kernel
theorem dX5_iceUnder_22 : decode cX5_iceUnder 22 = .ok (.iload_n 2, 1) := by decide +kernel
theorem dX5_iceUnder_23 : decode cX5_iceUnder 23 = .ok (.iaload, 1) := by decide +kernel
theorem dX5_iceUnder_24 : decode cX5_iceUnder 24 = .ok (.goto 4, 3) := by decide +kernel
theorem dX5_iceUnder_27 : decode cX5_iceUnder 27 = .ok (.iconst 0, 1) := by decide +kernel
theorem dX5_iceUnder_28 : decode cX5_iceUnder 28 = .ok (.ireturn, 1) := by decide +kernel
theorem dX5_worthOf_0 : decode cX5_worthOf 0 = .ok (.aload_n 0, 1) := by decide +kernel
theorem dX5_worthOf_1 : decode cX5_worthOf 1 = .ok (.getfield 17, 3) := by decide +kernel
theorem dX5_worthOf_4 : decode cX5_worthOf 4 = .ok (.iload_n 1, 1) := by decide +kernel
theorem dX5_worthOf_5 : decode cX5_worthOf 5 = .ok (.aaload, 1) := by decide +kernel
theorem dX5_worthOf_6 : decode cX5_worthOf 6 = .ok (.aload_n 0, 1) := by decide +kernel
theorem dX5_worthOf_7 : decode cX5_worthOf 7 = .ok (.iload_n 1, 1) := by decide +kernel
theorem dX5_worthOf_8 : decode cX5_worthOf 8 = .ok (.invokevirtual 49, 3) := by decide +kernel
theorem dX5_worthOf_11 : decode cX5_worthOf 11 = .ok (.invokevirtual 53, 3) := by decide +kernel
theorem dX5_worthOf_14 : decode cX5_worthOf 14 = .ok (.ireturn, 1) := by decide +kernel
theorem dX5_debtsThereIn_0 : decode cX5_debtsThereIn 0 = .ok (.iconst 0, 1) := by decide +kernel
theorem dX5_debtsThereIn_1 : decode cX5_debtsThereIn 1 = .ok (.istore_n 2, 1) := by decide +kernel
theorem dX5_debtsThereIn_2 : decode cX5_debtsThereIn 2 = .ok (.iconst 0, 1) := by decide +kernel
theorem dX5_debtsThereIn_3 : decode cX5_debtsThereIn 3 = .ok (.istore_n 3, 1) := by decide +kernel
theorem dX5_debtsThereIn_4 : decode cX5_debtsThereIn 4 = .ok (.iload_n 3, 1) := by decide +kernel
theorem dX5_debtsThereIn_5 : decode cX5_debtsThereIn 5 = .ok (.aload_n 0, 1) := by decide +kernel
theorem dX5_debtsThereIn_6 : decode cX5_debtsThereIn 6 = .ok (.getfield 35, 3) := by decide +kernel
theorem dX5_debtsThereIn_9 : decode cX5_debtsThereIn 9 = .ok (.if_icmp .ge 37, 3) := by decide +kernel
theorem dX5_debtsThereIn_12 : decode cX5_debtsThereIn 12 = .ok (.aload_n 0, 1) := by decide +kernel
theorem dX5_debtsThereIn_13 : decode cX5_debtsThereIn 13 = .ok (.getfield 17, 3) := by decide +kernel
theorem dX5_debtsThereIn_16 : decode cX5_debtsThereIn 16 = .ok (.iload_n 3, 1) := by decide +kernel
theorem dX5_debtsThereIn_17 : decode cX5_debtsThereIn 17 = .ok (.aaload, 1) := by decide +kernel
theorem dX5_debtsThereIn_18 : decode cX5_debtsThereIn 18 = .ok (.invokevirtual 56, 3) := by decide +kernel
theorem dX5_debtsThereIn_21 : decode cX5_debtsThereIn 21 = .ok (.ifCond .eq 19, 3) := by decide +kernel
theorem dX5_debtsThereIn_24 : decode cX5_debtsThereIn 24 = .ok (.aload_n 0, 1) := by decide +kernel
theorem dX5_debtsThereIn_25 : decode cX5_debtsThereIn 25 = .ok (.getfield 17, 3) := by decide +kernel
theorem dX5_debtsThereIn_28 : decode cX5_debtsThereIn 28 = .ok (.iload_n 3, 1) := by decide +kernel
theorem dX5_debtsThereIn_29 : decode cX5_debtsThereIn 29 = .ok (.aaload, 1) := by decide +kernel
theorem dX5_debtsThereIn_30 : decode cX5_debtsThereIn 30 = .ok (.getfield 46, 3) := by decide +kernel
theorem dX5_debtsThereIn_33 : decode cX5_debtsThereIn 33 = .ok (.iload_n 1, 1) := by decide +kernel
theorem dX5_debtsThereIn_34 : decode cX5_debtsThereIn 34 = .ok (.if_icmp .ne 6, 3) := by decide +kernel
theorem dX5_debtsThereIn_37 : decode cX5_debtsThereIn 37 = .ok (.iinc 2 1, 3) := by decide +kernel
theorem dX5_debtsThereIn_40 : decode cX5_debtsThereIn 40 = .ok (.iinc 3 1, 3) := by decide +kernel
theorem dX5_debtsThereIn_43 : decode cX5_debtsThereIn 43 = .ok (.goto (-39), 3) := by decide +kernel
theorem dX5_debtsThereIn_46 : decode cX5_debtsThereIn 46 = .ok (.iload_n 2, 1) := by decide +kernel
theorem dX5_debtsThereIn_47 : decode cX5_debtsThereIn 47 = .ok (.ireturn, 1) := by decide +kernel
theorem dX5_debtsStanding_0 : decode cX5_debtsStanding 0 = .ok (.iconst 0, 1) := by decide +kernel
theorem dX5_debtsStanding_1 : decode cX5_debtsStanding 1 = .ok (.istore_n 1, 1) := by decide +kernel
theorem dX5_debtsStanding_2 : decode cX5_debtsStanding 2 = .ok (.iconst 0, 1) := by decide +kernel
theorem dX5_debtsStanding_3 : decode cX5_debtsStanding 3 = .ok (.istore_n 2, 1) := by decide +kernel
theorem dX5_debtsStanding_4 : decode cX5_debtsStanding 4 = .ok (.iload_n 2, 1) := by decide +kernel
theorem dX5_debtsStanding_5 : decode cX5_debtsStanding 5 = .ok (.aload_n 0, 1) := by decide +kernel
theorem dX5_debtsStanding_6 : decode cX5_debtsStanding 6 = .ok (.getfield 35, 3) := by decide +kernel
theorem dX5_debtsStanding_9 : decode cX5_debtsStanding 9 = .ok (.if_icmp .ge 24, 3) := by decide +kernel
theorem dX5_debtsStanding_12 : decode cX5_debtsStanding 12 = .ok (.aload_n 0, 1) := by decide +kernel
theorem dX5_debtsStanding_13 : decode cX5_debtsStanding 13 = .ok (.getfield 17, 3) := by decide +kernel
theorem dX5_debtsStanding_16 : decode cX5_debtsStanding 16 = .ok (.iload_n 2, 1) := by decide +kernel
theorem dX5_debtsStanding_17 : decode cX5_debtsStanding 17 = .ok (.aaload, 1) := by decide +kernel
theorem dX5_debtsStanding_18 : decode cX5_debtsStanding 18 = .ok (.getfield 60, 3) := by decide +kernel
theorem dX5_debtsStanding_21 : decode cX5_debtsStanding 21 = .ok (.ifCond .le 6, 3) := by decide +kernel
theorem dX5_debtsStanding_24 : decode cX5_debtsStanding 24 = .ok (.iinc 1 1, 3) := by decide +kernel
theorem dX5_debtsStanding_27 : decode cX5_debtsStanding 27 = .ok (.iinc 2 1, 3) := by decide +kernel
theorem dX5_debtsStanding_30 : decode cX5_debtsStanding 30 = .ok (.goto (-26), 3) := by decide +kernel
theorem dX5_debtsStanding_33 : decode cX5_debtsStanding 33 = .ok (.iload_n 1, 1) := by decide +kernel
theorem dX5_debtsStanding_34 : decode cX5_debtsStanding 34 = .ok (.ireturn, 1) := by decide +kernel
theorem dX5_iceTogether_0 : decode cX5_iceTogether 0 = .ok (.iconst 0, 1) := by decide +kernel
theorem dX5_iceTogether_1 : decode cX5_iceTogether 1 = .ok (.istore_n 1, 1) := by decide +kernel
theorem dX5_iceTogether_2 : decode cX5_iceTogether 2 = .ok (.iconst 0, 1) := by decide +kernel
theorem dX5_iceTogether_3 : decode cX5_iceTogether 3 = .ok (.istore_n 2, 1) := by decide +kernel
theorem dX5_iceTogether_4 : decode cX5_iceTogether 4 = .ok (.iload_n 2, 1) := by decide +kernel
theorem dX5_iceTogether_5 : decode cX5_iceTogether 5 = .ok (.aload_n 0, 1) := by decide +kernel
theorem dX5_iceTogether_6 : decode cX5_iceTogether 6 = .ok (.getfield 26, 3) := by decide +kernel
theorem dX5_iceTogether_9 : decode cX5_iceTogether 9 = .ok (.if_icmp .ge 18, 3) := by decide +kernel
theorem dX5_iceTogether_12 : decode cX5_iceTogether 12 = .ok (.iload_n 1, 1) := by decide +kernel
theorem dX5_iceTogether_13 : decode cX5_iceTogether 13 = .ok (.aload_n 0, 1) := by decide +kernel
theorem dX5_iceTogether_14 : decode cX5_iceTogether 14 = .ok (.getfield 9, 3) := by decide +kernel
theorem dX5_iceTogether_17 : decode cX5_iceTogether 17 = .ok (.iload_n 2, 1) := by decide +kernel
theorem dX5_iceTogether_18 : decode cX5_iceTogether 18 = .ok (.iaload, 1) := by decide +kernel
theorem dX5_iceTogether_19 : decode cX5_iceTogether 19 = .ok (.iadd, 1) := by decide +kernel
theorem dX5_iceTogether_20 : decode cX5_iceTogether 20 = .ok (.istore_n 1, 1) := by decide +kernel
theorem dX5_iceTogether_21 : decode cX5_iceTogether 21 = .ok (.iinc 2 1, 3) := by decide +kernel
theorem dX5_iceTogether_24 : decode cX5_iceTogether 24 = .ok (.goto (-20), 3) := by decide +kernel
theorem dX5_iceTogether_27 : decode cX5_iceTogether 27 = .ok (.iload_n 1, 1) := by decide +kernel
theorem dX5_iceTogether_28 : decode cX5_iceTogether 28 = .ok (.ireturn, 1) := by decide +kernel
theorem dX5_restOf_0 : decode cX5_restOf 0 = .ok (.iconst 0, 1) := by decide +kernel
theorem dX5_restOf_1 : decode cX5_restOf 1 = .ok (.istore_n 2, 1) := by decide +kernel
theorem dX5_restOf_2 : decode cX5_restOf 2 = .ok (.iconst 0, 1) := by decide +kernel
theorem dX5_restOf_3 : decode cX5_restOf 3 = .ok (.istore_n 3, 1) := by decide +kernel
theorem dX5_restOf_4 : decode cX5_restOf 4 = .ok (.iload_n 3, 1) := by decide +kernel
theorem dX5_restOf_5 : decode cX5_restOf 5 = .ok (.aload_n 0, 1) := by decide +kernel
theorem dX5_restOf_6 : decode cX5_restOf 6 = .ok (.getfield 35, 3) := by decide +kernel
theorem dX5_restOf_9 : decode cX5_restOf 9 = .ok (.if_icmp .ge 51, 3) := by decide +kernel
theorem dX5_restOf_12 : decode cX5_restOf 12 = .ok (.aload_n 0, 1) := by decide +kernel
theorem dX5_restOf_13 : decode cX5_restOf 13 = .ok (.getfield 17, 3) := by decide +kernel
theorem dX5_restOf_16 : decode cX5_restOf 16 = .ok (.iload_n 3, 1) := by decide +kernel
theorem dX5_restOf_17 : decode cX5_restOf 17 = .ok (.aaload, 1) := by decide +kernel
theorem dX5_restOf_18 : decode cX5_restOf 18 = .ok (.getfield 63, 3) := by decide +kernel
theorem dX5_restOf_21 : decode cX5_restOf 21 = .ok (.iload_n 1, 1) := by decide +kernel
theorem dX5_restOf_22 : decode cX5_restOf 22 = .ok (.if_icmp .ne 11, 3) := by decide +kernel
theorem dX5_restOf_25 : decode cX5_restOf 25 = .ok (.iload_n 2, 1) := by decide +kernel
theorem dX5_restOf_26 : decode cX5_restOf 26 = .ok (.aload_n 0, 1) := by decide +kernel
theorem dX5_restOf_27 : decode cX5_restOf 27 = .ok (.iload_n 3, 1) := by decide +kernel
theorem dX5_restOf_28 : decode cX5_restOf 28 = .ok (.invokevirtual 66, 3) := by decide +kernel
theorem dX5_restOf_31 : decode cX5_restOf 31 = .ok (.iadd, 1) := by decide +kernel
theorem dX5_restOf_32 : decode cX5_restOf 32 = .ok (.istore_n 2, 1) := by decide +kernel
theorem dX5_restOf_33 : decode cX5_restOf 33 = .ok (.aload_n 0, 1) := by decide +kernel
theorem dX5_restOf_34 : decode cX5_restOf 34 = .ok (.getfield 17, 3) := by decide +kernel
theorem dX5_restOf_37 : decode cX5_restOf 37 = .ok (.iload_n 3, 1) := by decide +kernel
theorem dX5_restOf_38 : decode cX5_restOf 38 = .ok (.aaload, 1) := by decide +kernel
theorem dX5_restOf_39 : decode cX5_restOf 39 = .ok (.getfield 69, 3) := by decide +kernel
theorem dX5_restOf_42 : decode cX5_restOf 42 = .ok (.iload_n 1, 1) := by decide +kernel
theorem dX5_restOf_43 : decode cX5_restOf 43 = .ok (.if_icmp .ne 11, 3) := by decide +kernel
theorem dX5_restOf_46 : decode cX5_restOf 46 = .ok (.iload_n 2, 1) := by decide +kernel
theorem dX5_restOf_47 : decode cX5_restOf 47 = .ok (.aload_n 0, 1) := by decide +kernel
theorem dX5_restOf_48 : decode cX5_restOf 48 = .ok (.iload_n 3, 1) := by decide +kernel
theorem dX5_restOf_49 : decode cX5_restOf 49 = .ok (.invokevirtual 66, 3) := by decide +kernel
theorem dX5_restOf_52 : decode cX5_restOf 52 = .ok (.isub, 1) := by decide +kernel
theorem dX5_restOf_53 : decode cX5_restOf 53 = .ok (.istore_n 2, 1) := by decide +kernel
theorem dX5_restOf_54 : decode cX5_restOf 54 = .ok (.iinc 3 1, 3) := by decide +kernel
theorem dX5_restOf_57 : decode cX5_restOf 57 = .ok (.goto (-53), 3) := by decide +kernel
theorem dX5_restOf_60 : decode cX5_restOf 60 = .ok (.iload_n 2, 1) := by decide +kernel
theorem dX5_restOf_61 : decode cX5_restOf 61 = .ok (.ireturn, 1) := by decide +kernel
theorem dX5_readableIn_0 : decode cX5_readableIn 0 = .ok (.iconst 0, 1) := by decide +kernel
theorem dX5_readableIn_1 : decode cX5_readableIn 1 = .ok (.istore_n 2, 1) := by decide +kernel
theorem dX5_readableIn_2 : decode cX5_readableIn 2 = .ok (.iconst 0, 1) := by decide +kernel
theorem dX5_readableIn_3 : decode cX5_readableIn 3 = .ok (.istore_n 3, 1) := by decide +kernel
theorem dX5_readableIn_4 : decode cX5_readableIn 4 = .ok (.iload_n 3, 1) := by decide +kernel
theorem dX5_readableIn_5 : decode cX5_readableIn 5 = .ok (.aload_n 0, 1) := by decide +kernel
theorem dX5_readableIn_6 : decode cX5_readableIn 6 = .ok (.getfield 35, 3) := by decide +kernel
theorem dX5_readableIn_9 : decode cX5_readableIn 9 = .ok (.if_icmp .ge 49, 3) := by decide +kernel
theorem dX5_readableIn_12 : decode cX5_readableIn 12 = .ok (.aload_n 0, 1) := by decide +kernel
theorem dX5_readableIn_13 : decode cX5_readableIn 13 = .ok (.getfield 29, 3) := by decide +kernel
theorem dX5_readableIn_16 : decode cX5_readableIn 16 = .ok (.ifCond .ne 36, 3) := by decide +kernel
theorem dX5_readableIn_19 : decode cX5_readableIn 19 = .ok (.aload_n 0, 1) := by decide +kernel
theorem dX5_readableIn_20 : decode cX5_readableIn 20 = .ok (.getfield 17, 3) := by decide +kernel
theorem dX5_readableIn_23 : decode cX5_readableIn 23 = .ok (.iload_n 3, 1) := by decide +kernel
theorem dX5_readableIn_24 : decode cX5_readableIn 24 = .ok (.aaload, 1) := by decide +kernel
theorem dX5_readableIn_25 : decode cX5_readableIn 25 = .ok (.invokevirtual 56, 3) := by decide +kernel
theorem dX5_readableIn_28 : decode cX5_readableIn 28 = .ok (.ifCond .eq 24, 3) := by decide +kernel
theorem dX5_readableIn_31 : decode cX5_readableIn 31 = .ok (.aload_n 0, 1) := by decide +kernel
theorem dX5_readableIn_32 : decode cX5_readableIn 32 = .ok (.getfield 17, 3) := by decide +kernel
theorem dX5_readableIn_35 : decode cX5_readableIn 35 = .ok (.iload_n 3, 1) := by decide +kernel
theorem dX5_readableIn_36 : decode cX5_readableIn 36 = .ok (.aaload, 1) := by decide +kernel
theorem dX5_readableIn_37 : decode cX5_readableIn 37 = .ok (.getfield 46, 3) := by decide +kernel
theorem dX5_readableIn_40 : decode cX5_readableIn 40 = .ok (.iload_n 1, 1) := by decide +kernel
theorem dX5_readableIn_41 : decode cX5_readableIn 41 = .ok (.if_icmp .ne 11, 3) := by decide +kernel
theorem dX5_readableIn_44 : decode cX5_readableIn 44 = .ok (.iload_n 2, 1) := by decide +kernel
theorem dX5_readableIn_45 : decode cX5_readableIn 45 = .ok (.aload_n 0, 1) := by decide +kernel
theorem dX5_readableIn_46 : decode cX5_readableIn 46 = .ok (.iload_n 3, 1) := by decide +kernel
theorem dX5_readableIn_47 : decode cX5_readableIn 47 = .ok (.invokevirtual 66, 3) := by decide +kernel
theorem dX5_readableIn_50 : decode cX5_readableIn 50 = .ok (.iadd, 1) := by decide +kernel
theorem dX5_readableIn_51 : decode cX5_readableIn 51 = .ok (.istore_n 2, 1) := by decide +kernel
theorem dX5_readableIn_52 : decode cX5_readableIn 52 = .ok (.iinc 3 1, 3) := by decide +kernel
theorem dX5_readableIn_55 : decode cX5_readableIn 55 = .ok (.goto (-51), 3) := by decide +kernel
theorem dX5_readableIn_58 : decode cX5_readableIn 58 = .ok (.iload_n 2, 1) := by decide +kernel
theorem dX5_readableIn_59 : decode cX5_readableIn 59 = .ok (.ireturn, 1) := by decide +kernel
theorem dX5_makeHole_0 : decode cX5_makeHole 0 = .ok (.iconst 0, 1) := by decide +kernel
theorem dX5_makeHole_1 : decode cX5_makeHole 1 = .ok (.istore_n 2, 1) := by decide +kernel
theorem dX5_makeHole_2 : decode cX5_makeHole 2 = .ok (.aload_n 0, 1) := by decide +kernel
theorem dX5_makeHole_3 : decode cX5_makeHole 3 = .ok (.getfield 9, 3) := by decide +kernel
theorem dX5_makeHole_6 : decode cX5_makeHole 6 = .ok (.iload_n 1, 1) := by decide +kernel
theorem dX5_makeHole_7 : decode cX5_makeHole 7 = .ok (.iconst 0, 1) := by decide +kernel
theorem dX5_makeHole_8 : decode cX5_makeHole 8 = .ok (.iastore, 1) := by decide +kernel
theorem dX5_makeHole_9 : decode cX5_makeHole 9 = .ok (.iconst 0, 1) := by decide +kernel
theorem dX5_makeHole_10 : decode cX5_makeHole 10 = .ok (.istore_n 3, 1) := by decide +kernel
theorem dX5_makeHole_11 : decode cX5_makeHole 11 = .ok (.iload_n 3, 1) := by decide +kernel
theorem dX5_makeHole_12 : decode cX5_makeHole 12 = .ok (.aload_n 0, 1) := by decide +kernel
theorem dX5_makeHole_13 : decode cX5_makeHole 13 = .ok (.getfield 35, 3) := by decide +kernel
theorem dX5_makeHole_16 : decode cX5_makeHole 16 = .ok (.if_icmp .ge 47, 3) := by decide +kernel
theorem dX5_makeHole_19 : decode cX5_makeHole 19 = .ok (.aload_n 0, 1) := by decide +kernel
theorem dX5_makeHole_20 : decode cX5_makeHole 20 = .ok (.getfield 17, 3) := by decide +kernel
theorem dX5_makeHole_23 : decode cX5_makeHole 23 = .ok (.iload_n 3, 1) := by decide +kernel
theorem dX5_makeHole_24 : decode cX5_makeHole 24 = .ok (.aaload, 1) := by decide +kernel
theorem dX5_makeHole_25 : decode cX5_makeHole 25 = .ok (.invokevirtual 56, 3) := by decide +kernel
theorem dX5_makeHole_28 : decode cX5_makeHole 28 = .ok (.ifCond .eq 29, 3) := by decide +kernel
theorem dX5_makeHole_31 : decode cX5_makeHole 31 = .ok (.aload_n 0, 1) := by decide +kernel
theorem dX5_makeHole_32 : decode cX5_makeHole 32 = .ok (.getfield 17, 3) := by decide +kernel
theorem dX5_makeHole_35 : decode cX5_makeHole 35 = .ok (.iload_n 3, 1) := by decide +kernel
theorem dX5_makeHole_36 : decode cX5_makeHole 36 = .ok (.aaload, 1) := by decide +kernel
theorem dX5_makeHole_37 : decode cX5_makeHole 37 = .ok (.getfield 46, 3) := by decide +kernel
theorem dX5_makeHole_40 : decode cX5_makeHole 40 = .ok (.iload_n 1, 1) := by decide +kernel
theorem dX5_makeHole_41 : decode cX5_makeHole 41 = .ok (.if_icmp .ne 16, 3) := by decide +kernel
theorem dX5_makeHole_44 : decode cX5_makeHole 44 = .ok (.aload_n 0, 1) := by decide +kernel
theorem dX5_makeHole_45 : decode cX5_makeHole 45 = .ok (.getfield 17, 3) := by decide +kernel
theorem dX5_makeHole_48 : decode cX5_makeHole 48 = .ok (.iload_n 3, 1) := by decide +kernel
theorem dX5_makeHole_49 : decode cX5_makeHole 49 = .ok (.aaload, 1) := by decide +kernel
theorem dX5_makeHole_50 : decode cX5_makeHole 50 = .ok (.iconst 0, 1) := by decide +kernel
theorem dX5_makeHole_51 : decode cX5_makeHole 51 = .ok (.putfield 60, 3) := by decide +kernel
theorem dX5_makeHole_54 : decode cX5_makeHole 54 = .ok (.iinc 2 1, 3) := by decide +kernel
theorem dX5_makeHole_57 : decode cX5_makeHole 57 = .ok (.iinc 3 1, 3) := by decide +kernel
theorem dX5_makeHole_60 : decode cX5_makeHole 60 = .ok (.goto (-49), 3) := by decide +kernel
theorem dX5_makeHole_63 : decode cX5_makeHole 63 = .ok (.iload_n 2, 1) := by decide +kernel
theorem dX5_makeHole_64 : decode cX5_makeHole 64 = .ok (.ireturn, 1) := by decide +kernel
theorem dX5_passDay_0 : decode cX5_passDay 0 = .ok (.iload_n 1, 1) := by decide +kernel
theorem dX5_passDay_1 : decode cX5_passDay 1 = .ok (.iconst 2, 1) := by decide +kernel
theorem dX5_passDay_2 : decode cX5_passDay 2 = .ok (.if_icmp .ne 21, 3) := by decide +kernel
theorem dX5_passDay_5 : decode cX5_passDay 5 = .ok (.aload_n 0, 1) := by decide +kernel
theorem dX5_passDay_6 : decode cX5_passDay 6 = .ok (.bipush 9, 2) := by decide +kernel
theorem dX5_passDay_8 : decode cX5_passDay 8 = .ok (.aload_n 0, 1) := by decide +kernel
theorem dX5_passDay_9 : decode cX5_passDay 9 = .ok (.getfield 29, 3) := by decide +kernel
theorem dX5_passDay_12 : decode cX5_passDay 12 = .ok (.iconst 1, 1) := by decide +kernel
theorem dX5_passDay_13 : decode cX5_passDay 13 = .ok (.iadd, 1) := by decide +kernel
theorem dX5_passDay_14 : decode cX5_passDay 14 = .ok (.invokestatic 72, 3) := by decide +kernel
theorem dX5_passDay_17 : decode cX5_passDay 17 = .ok (.putfield 29, 3) := by decide +kernel
theorem dX5_passDay_20 : decode cX5_passDay 20 = .ok (.goto 18, 3) := by decide +kernel
theorem dX5_passDay_23 : decode cX5_passDay 23 = .ok (.iload_n 1, 1) := by decide +kernel
theorem dX5_passDay_24 : decode cX5_passDay 24 = .ok (.iconst 3, 1) := by decide +kernel
theorem dX5_passDay_25 : decode cX5_passDay 25 = .ok (.if_icmp .eq 8, 3) := by decide +kernel
theorem dX5_passDay_28 : decode cX5_passDay 28 = .ok (.iload_n 1, 1) := by decide +kernel
theorem dX5_passDay_29 : decode cX5_passDay 29 = .ok (.iconst 1, 1) := by decide +kernel
theorem dX5_passDay_30 : decode cX5_passDay 30 = .ok (.if_icmp .ne 8, 3) := by decide +kernel
theorem dX5_passDay_33 : decode cX5_passDay 33 = .ok (.aload_n 0, 1) := by decide +kernel
theorem dX5_passDay_34 : decode cX5_passDay 34 = .ok (.iconst 0, 1) := by decide +kernel
theorem dX5_passDay_35 : decode cX5_passDay 35 = .ok (.putfield 29, 3) := by decide +kernel
theorem dX5_passDay_38 : decode cX5_passDay 38 = .ok (.iconst 0, 1) := by decide +kernel
theorem dX5_passDay_39 : decode cX5_passDay 39 = .ok (.istore_n 3, 1) := by decide +kernel
theorem dX5_passDay_40 : decode cX5_passDay 40 = .ok (.iload_n 3, 1) := by decide +kernel
theorem dX5_passDay_41 : decode cX5_passDay 41 = .ok (.aload_n 0, 1) := by decide +kernel
theorem dX5_passDay_42 : decode cX5_passDay 42 = .ok (.getfield 26, 3) := by decide +kernel
theorem dX5_passDay_45 : decode cX5_passDay 45 = .ok (.if_icmp .ge 26, 3) := by decide +kernel
theorem dX5_passDay_48 : decode cX5_passDay 48 = .ok (.aload_n 0, 1) := by decide +kernel
theorem dX5_passDay_49 : decode cX5_passDay 49 = .ok (.getfield 9, 3) := by decide +kernel
theorem dX5_passDay_52 : decode cX5_passDay 52 = .ok (.iload_n 3, 1) := by decide +kernel
theorem dX5_passDay_53 : decode cX5_passDay 53 = .ok (.iload_n 1, 1) := by decide +kernel
theorem dX5_passDay_54 : decode cX5_passDay 54 = .ok (.iload_n 2, 1) := by decide +kernel
theorem dX5_passDay_55 : decode cX5_passDay 55 = .ok (.aload_n 0, 1) := by decide +kernel
theorem dX5_passDay_56 : decode cX5_passDay 56 = .ok (.getfield 9, 3) := by decide +kernel
theorem dX5_passDay_59 : decode cX5_passDay 59 = .ok (.iload_n 3, 1) := by decide +kernel
theorem dX5_passDay_60 : decode cX5_passDay 60 = .ok (.iaload, 1) := by decide +kernel
theorem dX5_passDay_61 : decode cX5_passDay 61 = .ok (.invokestatic 78, 3) := by decide +kernel
theorem dX5_passDay_64 : decode cX5_passDay 64 = .ok (.iastore, 1) := by decide +kernel
theorem dX5_passDay_65 : decode cX5_passDay 65 = .ok (.iinc 3 1, 3) := by decide +kernel
theorem dX5_passDay_68 : decode cX5_passDay 68 = .ok (.goto (-28), 3) := by decide +kernel
theorem dX5_passDay_71 : decode cX5_passDay 71 = .ok (.iload_n 1, 1) := by decide +kernel
theorem dX5_passDay_72 : decode cX5_passDay 72 = .ok (.iconst 1, 1) := by decide +kernel
theorem dX5_passDay_73 : decode cX5_passDay 73 = .ok (.if_icmp .ne 11, 3) := by decide +kernel
theorem dX5_passDay_76 : decode cX5_passDay 76 = .ok (.aload_n 0, 1) := by decide +kernel
theorem dX5_passDay_77 : decode cX5_passDay 77 = .ok (.iload_n 2, 1) := by decide +kernel
theorem dX5_passDay_78 : decode cX5_passDay 78 = .ok (.invokevirtual 82, 3) := by decide +kernel
theorem dX5_passDay_81 : decode cX5_passDay 81 = .ok (.goto 4, 3) := by decide +kernel
theorem dX5_passDay_84 : decode cX5_passDay 84 = .ok (.iconst 0, 1) := by decide +kernel
theorem dX5_passDay_85 : decode cX5_passDay 85 = .ok (.ireturn, 1) := by decide +kernel
theorem dX5_meltCuts_0 : decode cX5_meltCuts 0 = .ok (.iconst 0, 1) := by decide +kernel
theorem dX5_meltCuts_1 : decode cX5_meltCuts 1 = .ok (.istore_n 2, 1) := by decide +kernel
theorem dX5_meltCuts_2 : decode cX5_meltCuts 2 = .ok (.iconst 0, 1) := by decide +kernel
theorem dX5_meltCuts_3 : decode cX5_meltCuts 3 = .ok (.istore_n 3, 1) := by decide +kernel
theorem dX5_meltCuts_4 : decode cX5_meltCuts 4 = .ok (.iload_n 3, 1) := by decide +kernel
theorem dX5_meltCuts_5 : decode cX5_meltCuts 5 = .ok (.aload_n 0, 1) := by decide +kernel
theorem dX5_meltCuts_6 : decode cX5_meltCuts 6 = .ok (.getfield 35, 3) := by decide +kernel
theorem dX5_meltCuts_9 : decode cX5_meltCuts 9 = .ok (.if_icmp .ge 77, 3) := by decide +kernel
theorem dX5_meltCuts_12 : decode cX5_meltCuts 12 = .ok (.aload_n 0, 1) := by decide +kernel
theorem dX5_meltCuts_13 : decode cX5_meltCuts 13 = .ok (.getfield 17, 3) := by decide +kernel
theorem dX5_meltCuts_16 : decode cX5_meltCuts 16 = .ok (.iload_n 3, 1) := by decide +kernel
theorem dX5_meltCuts_17 : decode cX5_meltCuts 17 = .ok (.aaload, 1) := by decide +kernel
theorem dX5_meltCuts_18 : decode cX5_meltCuts 18 = .ok (.invokevirtual 56, 3) := by decide +kernel
theorem dX5_meltCuts_21 : decode cX5_meltCuts 21 = .ok (.ifCond .eq 59, 3) := by decide +kernel
theorem dX5_meltCuts_24 : decode cX5_meltCuts 24 = .ok (.aload_n 0, 1) := by decide +kernel
theorem dX5_meltCuts_25 : decode cX5_meltCuts 25 = .ok (.getfield 17, 3) := by decide +kernel
theorem dX5_meltCuts_28 : decode cX5_meltCuts 28 = .ok (.iload_n 3, 1) := by decide +kernel
theorem dX5_meltCuts_29 : decode cX5_meltCuts 29 = .ok (.aaload, 1) := by decide +kernel
theorem dX5_meltCuts_30 : decode cX5_meltCuts 30 = .ok (.aload_n 0, 1) := by decide +kernel
theorem dX5_meltCuts_31 : decode cX5_meltCuts 31 = .ok (.getfield 17, 3) := by decide +kernel
theorem dX5_meltCuts_34 : decode cX5_meltCuts 34 = .ok (.iload_n 3, 1) := by decide +kernel
theorem dX5_meltCuts_35 : decode cX5_meltCuts 35 = .ok (.aaload, 1) := by decide +kernel
theorem dX5_meltCuts_36 : decode cX5_meltCuts 36 = .ok (.getfield 85, 3) := by decide +kernel
theorem dX5_meltCuts_39 : decode cX5_meltCuts 39 = .ok (.aload_n 0, 1) := by decide +kernel
theorem dX5_meltCuts_40 : decode cX5_meltCuts 40 = .ok (.getfield 17, 3) := by decide +kernel
theorem dX5_meltCuts_43 : decode cX5_meltCuts 43 = .ok (.iload_n 3, 1) := by decide +kernel
theorem dX5_meltCuts_44 : decode cX5_meltCuts 44 = .ok (.aaload, 1) := by decide +kernel
theorem dX5_meltCuts_45 : decode cX5_meltCuts 45 = .ok (.getfield 60, 3) := by decide +kernel
theorem dX5_meltCuts_48 : decode cX5_meltCuts 48 = .ok (.iload_n 1, 1) := by decide +kernel
theorem dX5_meltCuts_49 : decode cX5_meltCuts 49 = .ok (.aload_n 0, 1) := by decide +kernel
theorem dX5_meltCuts_50 : decode cX5_meltCuts 50 = .ok (.iload_n 3, 1) := by decide +kernel
theorem dX5_meltCuts_51 : decode cX5_meltCuts 51 = .ok (.invokevirtual 49, 3) := by decide +kernel
theorem dX5_meltCuts_54 : decode cX5_meltCuts 54 = .ok (.invokestatic 88, 3) := by decide +kernel
theorem dX5_meltCuts_57 : decode cX5_meltCuts 57 = .ok (.putfield 60, 3) := by decide +kernel
theorem dX5_meltCuts_60 : decode cX5_meltCuts 60 = .ok (.iload_n 2, 1) := by decide +kernel
theorem dX5_meltCuts_61 : decode cX5_meltCuts 61 = .ok (.aload_n 0, 1) := by decide +kernel
theorem dX5_meltCuts_62 : decode cX5_meltCuts 62 = .ok (.getfield 17, 3) := by decide +kernel
theorem dX5_meltCuts_65 : decode cX5_meltCuts 65 = .ok (.iload_n 3, 1) := by decide +kernel
theorem dX5_meltCuts_66 : decode cX5_meltCuts 66 = .ok (.aaload, 1) := by decide +kernel
theorem dX5_meltCuts_67 : decode cX5_meltCuts 67 = .ok (.getfield 60, 3) := by decide +kernel
theorem dX5_meltCuts_70 : decode cX5_meltCuts 70 = .ok (.ifCond .ne 7, 3) := by decide +kernel
theorem dX5_meltCuts_73 : decode cX5_meltCuts 73 = .ok (.iconst 1, 1) := by decide +kernel
theorem dX5_meltCuts_74 : decode cX5_meltCuts 74 = .ok (.goto 4, 3) := by decide +kernel
theorem dX5_meltCuts_77 : decode cX5_meltCuts 77 = .ok (.iconst 0, 1) := by decide +kernel
theorem dX5_meltCuts_78 : decode cX5_meltCuts 78 = .ok (.iadd, 1) := by decide +kernel
theorem dX5_meltCuts_79 : decode cX5_meltCuts 79 = .ok (.istore_n 2, 1) := by decide +kernel
theorem dX5_meltCuts_80 : decode cX5_meltCuts 80 = .ok (.iinc 3 1, 3) := by decide +kernel
theorem dX5_meltCuts_83 : decode cX5_meltCuts 83 = .ok (.goto (-79), 3) := by decide +kernel
theorem dX5_meltCuts_86 : decode cX5_meltCuts 86 = .ok (.iload_n 2, 1) := by decide +kernel
theorem dX5_meltCuts_87 : decode cX5_meltCuts 87 = .ok (.ireturn, 1) := by decide +kernel
end
section
theorem dX6_init_0 : decode cX6_init 0 = .ok (.aload_n 0, 1) := by decide +kernel
theorem dX6_init_1 : decode cX6_init 1 = .ok (.invokespecial 1, 3) := by decide +kernel
theorem dX6_init_4 : decode cX6_init 4 = .ok (.aload_n 0, 1) := by decide +kernel
theorem dX6_init_5 : decode cX6_init 5 = .ok (.new 7, 3) := by decide +kernel
theorem dX6_init_8 : decode cX6_init 8 = .ok (.dup, 1) := by decide +kernel
theorem dX6_init_9 : decode cX6_init 9 = .ok (.invokespecial 9, 3) := by decide +kernel
theorem dX6_init_12 : decode cX6_init 12 = .ok (.putfield 10, 3) := by decide +kernel
theorem dX6_init_15 : decode cX6_init 15 = .ok (.aload_n 0, 1) := by decide +kernel
theorem dX6_init_16 : decode cX6_init 16 = .ok (.new 7, 3) := by decide +kernel
theorem dX6_init_19 : decode cX6_init 19 = .ok (.dup, 1) := by decide +kernel
theorem dX6_init_20 : decode cX6_init 20 = .ok (.invokespecial 9, 3) := by decide +kernel
theorem dX6_init_23 : decode cX6_init 23 = .ok (.putfield 16, 3) := by decide +kernel
theorem dX6_init_26 : decode cX6_init 26 = .ok (.aload_n 0, 1) := by decide +kernel
theorem dX6_init_27 : decode cX6_init 27 = .ok (.new 7, 3) := by decide +kernel
theorem dX6_init_30 : decode cX6_init 30 = .ok (.dup, 1) := by decide +kernel
theorem dX6_init_31 : decode cX6_init 31 = .ok (.invokespecial 9, 3) := by decide +kernel
theorem dX6_init_34 : decode cX6_init 34 = .ok (.putfield 19, 3) := by decide +kernel
theorem dX6_init_37 : decode cX6_init 37 = .ok (.aload_n 0, 1) := by decide +kernel
theorem dX6_init_38 : decode cX6_init 38 = .ok (.new 22, 3) := by decide +kernel
theorem dX6_init_41 : decode cX6_init 41 = .ok (.dup, 1) := by decide +kernel
theorem dX6_init_42 : decode cX6_init 42 = .ok (.invokespecial 24, 3) := by decide +kernel
theorem dX6_init_45 : decode cX6_init 45 = .ok (.putfield 25, 3) := by decide +kernel
theorem dX6_init_48 : decode cX6_init 48 = .ok (.aload_n 0, 1) := by decide +kernel
theorem dX6_init_49 : decode cX6_init 49 = .ok (.new 29, 3) := by decide +kernel
theorem dX6_init_52 : decode cX6_init 52 = .ok (.dup, 1) := by decide +kernel
theorem dX6_init_53 : decode cX6_init 53 = .ok (.invokespecial 31, 3) := by decide +kernel
theorem dX6_init_56 : decode cX6_init 56 = .ok (.putfield 32, 3) := by decide +kernel
theorem dX6_init_59 : decode cX6_init 59 = .ok (.aload_n 0, 1) := by decide +kernel
theorem dX6_init_60 : decode cX6_init 60 = .ok (.new 36, 3) := by decide +kernel
theorem dX6_init_63 : decode cX6_init 63 = .ok (.dup, 1) := by decide +kernel
theorem dX6_init_64 : decode cX6_init 64 = .ok (.invokespecial 38, 3) := by decide +kernel
theorem dX6_init_67 : decode cX6_init 67 = .ok (.putfield 39, 3) := by decide +kernel
theorem dX6_init_70 : decode cX6_init 70 = .ok (.aload_n 0, 1) := by decide +kernel
theorem dX6_init_71 : decode cX6_init 71 = .ok (.new 43, 3) := by decide +kernel
theorem dX6_init_74 : decode cX6_init 74 = .ok (.dup, 1) := by decide +kernel
theorem dX6_init_75 : decode cX6_init 75 = .ok (.invokespecial 45, 3) := by decide +kernel
theorem dX6_init_78 : decode cX6_init 78 = .ok (.putfield 46, 3) := by decide +kernel
theorem dX6_init_81 : decode cX6_init 81 = .ok (.aload_n 0, 1) := by decide +kernel
theorem dX6_init_82 : decode cX6_init 82 = .ok (.getfield 10, 3) := by decide +kernel
theorem dX6_init_85 : decode cX6_init 85 = .ok (.iconst 3, 1) := by decide +kernel
theorem dX6_init_86 : decode cX6_init 86 = .ok (.iconst 3, 1) := by decide +kernel
theorem dX6_init_87 : decode cX6_init 87 = .ok (.invokevirtual 50, 3) := by decide +kernel
theorem dX6_init_90 : decode cX6_init 90 = .ok (.return_, 1) := by decide +kernel
theorem dX6_lake_0 : decode cX6_lake 0 = .ok (.iload_n 1, 1) := by decide +kernel
theorem dX6_lake_1 : decode cX6_lake 1 = .ok (.iconst 2, 1) := by decide +kernel
theorem dX6_lake_2 : decode cX6_lake 2 = .ok (.iconst 4, 1) := by decide +kernel
theorem dX6_lake_3 : decode cX6_lake 3 = .ok (.invokestatic 54, 3) := by decide +kernel
theorem dX6_lake_6 : decode cX6_lake 6 = .ok (.ifCond .eq 12, 3) := by decide +kernel
theorem dX6_lake_9 : decode cX6_lake 9 = .ok (.iload_n 2, 1) := by decide +kernel
theorem dX6_lake_10 : decode cX6_lake 10 = .ok (.iconst 2, 1) := by decide +kernel
theorem dX6_lake_11 : decode cX6_lake 11 = .ok (.iconst 4, 1) := by decide +kernel
theorem dX6_lake_12 : decode cX6_lake 12 = .ok (.invokestatic 54, 3) := by decide +kernel
theorem dX6_lake_15 : decode cX6_lake 15 = .ok (.ifCond .ne 6, 3) := by decide +kernel
theorem dX6_lake_18 : decode cX6_lake 18 = .ok (.bipush (-102), 2) := by decide +kernel
theorem dX6_lake_20 : decode cX6_lake 20 = .ok (.ireturn, 1) := by decide +kernel
theorem dX6_lake_21 : decode cX6_lake 21 = .ok (.aload_n 0, 1) := by decide +kernel
theorem dX6_lake_22 : decode cX6_lake 22 = .ok (.getfield 10, 3) := by decide +kernel
theorem dX6_lake_25 : decode cX6_lake 25 = .ok (.iload_n 1, 1) := by decide +kernel
theorem dX6_lake_26 : decode cX6_lake 26 = .ok (.iload_n 2, 1) := by decide +kernel
theorem dX6_lake_27 : decode cX6_lake 27 = .ok (.invokevirtual 50, 3) := by decide +kernel
theorem dX6_lake_30 : decode cX6_lake 30 = .ok (.aload_n 0, 1) := by decide +kernel
theorem dX6_lake_31 : decode cX6_lake 31 = .ok (.iconst 0, 1) := by decide +kernel
theorem dX6_lake_32 : decode cX6_lake 32 = .ok (.putfield 58, 3) := by decide +kernel
theorem dX6_lake_35 : decode cX6_lake 35 = .ok (.aload_n 0, 1) := by decide +kernel
theorem dX6_lake_36 : decode cX6_lake 36 = .ok (.getfield 10, 3) := by decide +kernel
theorem dX6_lake_39 : decode cX6_lake 39 = .ok (.getfield 62, 3) := by decide +kernel
theorem dX6_lake_42 : decode cX6_lake 42 = .ok (.ireturn, 1) := by decide +kernel
theorem dX6_ice_0 : decode cX6_ice 0 = .ok (.aload_n 0, 1) := by decide +kernel
theorem dX6_ice_1 : decode cX6_ice 1 = .ok (.getfield 10, 3) := by decide +kernel
theorem dX6_ice_4 : decode cX6_ice 4 = .ok (.iload_n 1, 1) := by decide +kernel
theorem dX6_ice_5 : decode cX6_ice 5 = .ok (.invokevirtual 66, 3) := by decide +kernel
theorem dX6_ice_8 : decode cX6_ice 8 = .ok (.ifCond .ne 6, 3) := by decide +kernel
theorem dX6_ice_11 : decode cX6_ice 11 = .ok (.bipush (-101), 2) := by decide +kernel
theorem dX6_ice_13 : decode cX6_ice 13 = .ok (.ireturn, 1) := by decide +kernel
theorem dX6_ice_14 : decode cX6_ice 14 = .ok (.iload_n 2, 1) := by decide +kernel
theorem dX6_ice_15 : decode cX6_ice 15 = .ok (.iconst 0, 1) := by decide +kernel
theorem dX6_ice_16 : decode cX6_ice 16 = .ok (.bipush 99, 2) := by decide +kernel
theorem dX6_ice_18 : decode cX6_ice 18 = .ok (.invokestatic 54, 3) := by decide +kernel
theorem dX6_ice_21 : decode cX6_ice 21 = .ok (.ifCond .ne 6, 3) := by decide +kernel
theorem dX6_ice_24 : decode cX6_ice 24 = .ok (.bipush (-102), 2) := by decide +kernel
theorem dX6_ice_26 : decode cX6_ice 26 = .ok (.ireturn, 1) := by decide +kernel
theorem dX6_ice_27 : decode cX6_ice 27 = .ok (.aload_n 0, 1) := by decide +kernel
theorem dX6_ice_28 : decode cX6_ice 28 = .ok (.getfield 10, 3) := by decide +kernel
theorem dX6_ice_31 : decode cX6_ice 31 = .ok (.iload_n 1, 1) := by decide +kernel
theorem dX6_ice_32 : decode cX6_ice 32 = .ok (.invokevirtual 70, 3) := by decide +kernel
theorem dX6_ice_35 : decode cX6_ice 35 = .ok (.ifCond .le 6, 3) := by decide +kernel
theorem dX6_ice_38 : decode cX6_ice 38 = .ok (.bipush (-103), 2) := by decide +kernel
theorem dX6_ice_40 : decode cX6_ice 40 = .ok (.ireturn, 1) := by decide +kernel
theorem dX6_ice_41 : decode cX6_ice 41 = .ok (.aload_n 0, 1) := by decide +kernel
theorem dX6_ice_42 : decode cX6_ice 42 = .ok (.getfield 10, 3) := by decide +kernel
theorem dX6_ice_45 : decode cX6_ice 45 = .ok (.getfield 74, 3) := by decide +kernel
theorem dX6_ice_48 : decode cX6_ice 48 = .ok (.iload_n 1, 1) := by decide +kernel
theorem dX6_ice_49 : decode cX6_ice 49 = .ok (.iaload, 1) := by decide +kernel
theorem dX6_ice_50 : decode cX6_ice 50 = .ok (.istore_n 3, 1) := by decide +kernel
theorem dX6_ice_51 : decode cX6_ice 51 = .ok (.aload_n 0, 1) := by decide +kernel
theorem dX6_ice_52 : decode cX6_ice 52 = .ok (.getfield 10, 3) := by decide +kernel
theorem dX6_ice_55 : decode cX6_ice 55 = .ok (.getfield 74, 3) := by decide +kernel
theorem dX6_ice_58 : decode cX6_ice 58 = .ok (.iload_n 1, 1) := by decide +kernel
theorem dX6_ice_59 : decode cX6_ice 59 = .ok (.iload_n 2, 1) := by decide +kernel
theorem dX6_ice_60 : decode cX6_ice 60 = .ok (.iastore, 1) := by decide +kernel
theorem dX6_ice_61 : decode cX6_ice 61 = .ok (.iload_n 3, 1) := by decide +kernel
theorem dX6_ice_62 : decode cX6_ice 62 = .ok (.ireturn, 1) := by decide +kernel
theorem dX6_square_0 : decode cX6_square 0 = .ok (.aload_n 0, 1) := by decide +kernel
theorem dX6_square_1 : decode cX6_square 1 = .ok (.getfield 10, 3) := by decide +kernel
theorem dX6_square_4 : decode cX6_square 4 = .ok (.iload_n 1, 1) := by decide +kernel
theorem dX6_square_5 : decode cX6_square 5 = .ok (.invokevirtual 66, 3) := by decide +kernel
theorem dX6_square_8 : decode cX6_square 8 = .ok (.ifCond .ne 6, 3) := by decide +kernel
theorem dX6_square_11 : decode cX6_square 11 = .ok (.bipush (-101), 2) := by decide +kernel
theorem dX6_square_13 : decode cX6_square 13 = .ok (.ireturn, 1) := by decide +kernel
theorem dX6_square_14 : decode cX6_square 14 = .ok (.iload_n 2, 1) := by decide +kernel
theorem dX6_square_15 : decode cX6_square 15 = .ok (.tableswitch 75 0 3 #[29, 39, 47, 56], 29) := by decide +kernel
theorem dX6_square_44 : decode cX6_square 44 = .ok (.aload_n 0, 1) := by decide +kernel
theorem dX6_square_45 : decode cX6_square 45 = .ok (.getfield 10, 3) := by decide +kernel
theorem dX6_square_48 : decode cX6_square 48 = .ok (.getfield 74, 3) := by decide +kernel
theorem dX6_square_51 : decode cX6_square 51 = .ok (.iload_n 1, 1) := by decide +kernel
theorem dX6_square_52 : decode cX6_square 52 = .ok (.iaload, 1) := by decide +kernel
theorem dX6_square_53 : decode cX6_square 53 = .ok (.ireturn, 1) := by decide +kernel
theorem dX6_square_54 : decode cX6_square 54 = .ok (.aload_n 0, 1) := by decide +kernel
theorem dX6_square_55 : decode cX6_square 55 = .ok (.getfield 10, 3) := by decide +kernel
theorem dX6_square_58 : decode cX6_square 58 = .ok (.getfield 78, 3) := by decide +kernel
theorem dX6_square_61 : decode cX6_square 61 = .ok (.ireturn, 1) := by decide +kernel
theorem dX6_square_62 : decode cX6_square 62 = .ok (.aload_n 0, 1) := by decide +kernel
theorem dX6_square_63 : decode cX6_square 63 = .ok (.getfield 10, 3) := by decide +kernel
theorem dX6_square_66 : decode cX6_square 66 = .ok (.iload_n 1, 1) := by decide +kernel
theorem dX6_square_67 : decode cX6_square 67 = .ok (.invokevirtual 70, 3) := by decide +kernel
theorem dX6_square_70 : decode cX6_square 70 = .ok (.ireturn, 1) := by decide +kernel
theorem dX6_square_71 : decode cX6_square 71 = .ok (.aload_n 0, 1) := by decide +kernel
theorem dX6_square_72 : decode cX6_square 72 = .ok (.getfield 10, 3) := by decide +kernel
theorem dX6_square_75 : decode cX6_square 75 = .ok (.getfield 74, 3) := by decide +kernel
theorem dX6_square_78 : decode cX6_square 78 = .ok (.iload_n 1, 1) := by decide +kernel
theorem dX6_square_79 : decode cX6_square 79 = .ok (.iaload, 1) := by decide +kernel
theorem dX6_square_80 : decode cX6_square 80 = .ok (.iconst 4, 1) := by decide +kernel
theorem dX6_square_81 : decode cX6_square 81 = .ok (.if_icmp .lt 7, 3) := by decide +kernel
theorem dX6_square_84 : decode cX6_square 84 = .ok (.iconst 1, 1) := by decide +kernel
theorem dX6_square_85 : decode cX6_square 85 = .ok (.goto 4, 3) := by decide +kernel
theorem dX6_square_88 : decode cX6_square 88 = .ok (.iconst 0, 1) := by decide +kernel
theorem dX6_square_89 : decode cX6_square 89 = .ok (.ireturn, 1) := by decide +kernel
theorem dX6_square_90 : decode cX6_square 90 = .ok (.bipush (-102), 2) := by decide +kernel
theorem dX6_square_92 : decode cX6_square 92 = .ok (.ireturn, 1) := by decide +kernel
theorem dX6_fish_0 : decode cX6_fish 0 = .ok (.aload_n 0, 1) := by decide +kernel
theorem dX6_fish_1 : decode cX6_fish 1 = .ok (.getfield 10, 3) := by decide +kernel
theorem dX6_fish_4 : decode cX6_fish 4 = .ok (.iload_n 1, 1) := by decide +kernel
theorem dX6_fish_5 : decode cX6_fish 5 = .ok (.invokevirtual 66, 3) := by decide +kernel
theorem dX6_fish_8 : decode cX6_fish 8 = .ok (.ifCond .ne 6, 3) := by decide +kernel
theorem dX6_fish_11 : decode cX6_fish 11 = .ok (.bipush (-101), 2) := by decide +kernel
theorem dX6_fish_13 : decode cX6_fish 13 = .ok (.ireturn, 1) := by decide +kernel
theorem dX6_fish_14 : decode cX6_fish 14 = .ok (.aload_n 0, 1) := by decide +kernel
theorem dX6_fish_15 : decode cX6_fish 15 = .ok (.getfield 10, 3) := by decide +kernel
theorem dX6_fish_18 : decode cX6_fish 18 = .ok (.getfield 74, 3) := by decide +kernel
theorem dX6_fish_21 : decode cX6_fish 21 = .ok (.iload_n 1, 1) := by decide +kernel
theorem dX6_fish_22 : decode cX6_fish 22 = .ok (.iaload, 1) := by decide +kernel
theorem dX6_fish_23 : decode cX6_fish 23 = .ok (.ifCond .ne 6, 3) := by decide +kernel
theorem dX6_fish_26 : decode cX6_fish 26 = .ok (.bipush (-103), 2) := by decide +kernel
theorem dX6_fish_28 : decode cX6_fish 28 = .ok (.ireturn, 1) := by decide +kernel
theorem dX6_fish_29 : decode cX6_fish 29 = .ok (.aload_n 0, 1) := by decide +kernel
theorem dX6_fish_30 : decode cX6_fish 30 = .ok (.getfield 10, 3) := by decide +kernel
theorem dX6_fish_33 : decode cX6_fish 33 = .ok (.iload_n 1, 1) := by decide +kernel
theorem dX6_fish_34 : decode cX6_fish 34 = .ok (.invokevirtual 81, 3) := by decide +kernel
theorem dX6_fish_37 : decode cX6_fish 37 = .ok (.ireturn, 1) := by decide +kernel
theorem dX6_write_0 : decode cX6_write 0 = .ok (.aload_n 0, 1) := by decide +kernel
theorem dX6_write_1 : decode cX6_write 1 = .ok (.getfield 10, 3) := by decide +kernel
theorem dX6_write_4 : decode cX6_write 4 = .ok (.iload_n 2, 1) := by decide +kernel
theorem dX6_write_5 : decode cX6_write 5 = .ok (.invokevirtual 66, 3) := by decide +kernel
theorem dX6_write_8 : decode cX6_write 8 = .ok (.ifCond .eq 12, 3) := by decide +kernel
theorem dX6_write_11 : decode cX6_write 11 = .ok (.iload_n 3, 1) := by decide +kernel
theorem dX6_write_12 : decode cX6_write 12 = .ok (.iload 4, 2) := by decide +kernel
theorem dX6_write_14 : decode cX6_write 14 = .ok (.invokestatic 84, 3) := by decide +kernel
theorem dX6_write_17 : decode cX6_write 17 = .ok (.ifCond .ne 6, 3) := by decide +kernel
theorem dX6_write_20 : decode cX6_write 20 = .ok (.bipush (-101), 2) := by decide +kernel
theorem dX6_write_22 : decode cX6_write 22 = .ok (.ireturn, 1) := by decide +kernel
theorem dX6_write_23 : decode cX6_write 23 = .ok (.iload_n 1, 1) := by decide +kernel
theorem dX6_write_24 : decode cX6_write 24 = .ok (.invokestatic 88, 3) := by decide +kernel
theorem dX6_write_27 : decode cX6_write 27 = .ok (.ifCond .eq 25, 3) := by decide +kernel
theorem dX6_write_30 : decode cX6_write 30 = .ok (.iload 5, 2) := by decide +kernel
theorem dX6_write_32 : decode cX6_write 32 = .ok (.iconst 1, 1) := by decide +kernel
theorem dX6_write_33 : decode cX6_write 33 = .ok (.bipush 99, 2) := by decide +kernel
theorem dX6_write_35 : decode cX6_write 35 = .ok (.invokestatic 54, 3) := by decide +kernel
theorem dX6_write_38 : decode cX6_write 38 = .ok (.ifCond .eq 14, 3) := by decide +kernel
theorem dX6_write_41 : decode cX6_write 41 = .ok (.iload 6, 2) := by decide +kernel
theorem dX6_write_43 : decode cX6_write 43 = .ok (.iconst 1, 1) := by decide +kernel
theorem dX6_write_44 : decode cX6_write 44 = .ok (.bipush 9, 2) := by decide +kernel
theorem dX6_write_46 : decode cX6_write 46 = .ok (.invokestatic 54, 3) := by decide +kernel
theorem dX6_write_49 : decode cX6_write 49 = .ok (.ifCond .ne 6, 3) := by decide +kernel
theorem dX6_write_52 : decode cX6_write 52 = .ok (.bipush (-102), 2) := by decide +kernel
theorem dX6_write_54 : decode cX6_write 54 = .ok (.ireturn, 1) := by decide +kernel
theorem dX6_write_55 : decode cX6_write 55 = .ok (.aload_n 0, 1) := by decide +kernel
theorem dX6_write_56 : decode cX6_write 56 = .ok (.getfield 10, 3) := by decide +kernel
theorem dX6_write_59 : decode cX6_write 59 = .ok (.getfield 74, 3) := by decide +kernel
theorem dX6_write_62 : decode cX6_write 62 = .ok (.iload_n 2, 1) := by decide +kernel
theorem dX6_write_63 : decode cX6_write 63 = .ok (.iaload, 1) := by decide +kernel
theorem dX6_write_64 : decode cX6_write 64 = .ok (.iload_n 1, 1) := by decide +kernel
theorem dX6_write_65 : decode cX6_write 65 = .ok (.iload 6, 2) := by decide +kernel
theorem dX6_write_67 : decode cX6_write 67 = .ok (.invokestatic 91, 3) := by decide +kernel
theorem dX6_write_70 : decode cX6_write 70 = .ok (.if_icmp .ge 6, 3) := by decide +kernel
theorem dX6_write_73 : decode cX6_write 73 = .ok (.bipush (-103), 2) := by decide +kernel
theorem dX6_write_75 : decode cX6_write 75 = .ok (.ireturn, 1) := by decide +kernel
theorem dX6_write_76 : decode cX6_write 76 = .ok (.aload_n 0, 1) := by decide +kernel
theorem dX6_write_77 : decode cX6_write 77 = .ok (.getfield 10, 3) := by decide +kernel
theorem dX6_write_80 : decode cX6_write 80 = .ok (.getfield 97, 3) := by decide +kernel
theorem dX6_write_83 : decode cX6_write 83 = .ok (.bipush 10, 2) := by decide +kernel
theorem dX6_write_85 : decode cX6_write 85 = .ok (.if_icmp .lt 6, 3) := by decide +kernel
theorem dX6_write_88 : decode cX6_write 88 = .ok (.bipush (-104), 2) := by decide +kernel
theorem dX6_write_90 : decode cX6_write 90 = .ok (.ireturn, 1) := by decide +kernel
theorem dX6_write_91 : decode cX6_write 91 = .ok (.aload_n 0, 1) := by decide +kernel
theorem dX6_write_92 : decode cX6_write 92 = .ok (.getfield 10, 3) := by decide +kernel
theorem dX6_write_95 : decode cX6_write 95 = .ok (.getfield 97, 3) := by decide +kernel
theorem dX6_write_98 : decode cX6_write 98 = .ok (.istore 7, 2) := by decide +kernel
theorem dX6_write_100 : decode cX6_write 100 = .ok (.aload_n 0, 1) := by decide +kernel
theorem dX6_write_101 : decode cX6_write 101 = .ok (.getfield 10, 3) := by decide +kernel
theorem dX6_write_104 : decode cX6_write 104 = .ok (.getfield 100, 3) := by decide +kernel
theorem dX6_write_107 : decode cX6_write 107 = .ok (.iload 7, 2) := by decide +kernel
theorem dX6_write_109 : decode cX6_write 109 = .ok (.aaload, 1) := by decide +kernel
theorem dX6_write_110 : decode cX6_write 110 = .ok (.astore 8, 2) := by decide +kernel
theorem dX6_write_112 : decode cX6_write 112 = .ok (.aload 8, 2) := by decide +kernel
theorem dX6_write_114 : decode cX6_write 114 = .ok (.iload_n 1, 1) := by decide +kernel
theorem dX6_write_115 : decode cX6_write 115 = .ok (.iload_n 2, 1) := by decide +kernel
theorem dX6_write_116 : decode cX6_write 116 = .ok (.iload_n 3, 1) := by decide +kernel
theorem dX6_write_117 : decode cX6_write 117 = .ok (.iload 4, 2) := by decide +kernel
theorem dX6_write_119 : decode cX6_write 119 = .ok (.invokevirtual 104, 3) := by decide +kernel
theorem dX6_write_122 : decode cX6_write 122 = .ok (.aload 8, 2) := by decide +kernel
theorem dX6_write_124 : decode cX6_write 124 = .ok (.iload 5, 2) := by decide +kernel
theorem dX6_write_126 : decode cX6_write 126 = .ok (.iload_n 1, 1) := by decide +kernel
theorem dX6_write_127 : decode cX6_write 127 = .ok (.iload 6, 2) := by decide +kernel
theorem dX6_write_129 : decode cX6_write 129 = .ok (.invokestatic 91, 3) := by decide +kernel
theorem dX6_write_132 : decode cX6_write 132 = .ok (.invokevirtual 108, 3) := by decide +kernel
theorem dX6_write_135 : decode cX6_write 135 = .ok (.aload_n 0, 1) := by decide +kernel
theorem dX6_write_136 : decode cX6_write 136 = .ok (.getfield 10, 3) := by decide +kernel
theorem dX6_write_139 : decode cX6_write 139 = .ok (.iload 7, 2) := by decide +kernel
theorem dX6_write_141 : decode cX6_write 141 = .ok (.iconst 1, 1) := by decide +kernel
theorem dX6_write_142 : decode cX6_write 142 = .ok (.iadd, 1) := by decide +kernel
theorem dX6_write_143 : decode cX6_write 143 = .ok (.putfield 97, 3) := by decide +kernel
theorem dX6_write_146 : decode cX6_write 146 = .ok (.iload 7, 2) := by decide +kernel
theorem dX6_write_148 : decode cX6_write 148 = .ok (.ireturn, 1) := by decide +kernel
theorem dX6_about_0 : decode cX6_about 0 = .ok (.aload_n 0, 1) := by decide +kernel
theorem dX6_about_1 : decode cX6_about 1 = .ok (.getfield 10, 3) := by decide +kernel
theorem dX6_about_4 : decode cX6_about 4 = .ok (.iload_n 1, 1) := by decide +kernel
theorem dX6_about_5 : decode cX6_about 5 = .ok (.invokevirtual 111, 3) := by decide +kernel
theorem dX6_about_8 : decode cX6_about 8 = .ok (.ifCond .ne 6, 3) := by decide +kernel
theorem dX6_about_11 : decode cX6_about 11 = .ok (.bipush (-101), 2) := by decide +kernel
theorem dX6_about_13 : decode cX6_about 13 = .ok (.ireturn, 1) := by decide +kernel
theorem dX6_about_14 : decode cX6_about 14 = .ok (.aload_n 0, 1) := by decide +kernel
theorem dX6_about_15 : decode cX6_about 15 = .ok (.getfield 10, 3) := by decide +kernel
theorem dX6_about_18 : decode cX6_about 18 = .ok (.getfield 100, 3) := by decide +kernel
theorem dX6_about_21 : decode cX6_about 21 = .ok (.iload_n 1, 1) := by decide +kernel
theorem dX6_about_22 : decode cX6_about 22 = .ok (.aaload, 1) := by decide +kernel
theorem dX6_about_23 : decode cX6_about 23 = .ok (.astore_n 3, 1) := by decide +kernel
theorem dX6_about_24 : decode cX6_about 24 = .ok (.iload_n 2, 1) := by decide +kernel
theorem dX6_about_25 : decode cX6_about 25 = .ok (.tableswitch 92 0 7 #[47, 52, 57, 62, 67, 72, 77, 86], 47) := by decide +kernel
theorem dX6_about_72 : decode cX6_about 72 = .ok (.aload_n 3, 1) := by decide +kernel
theorem dX6_about_73 : decode cX6_about 73 = .ok (.getfield 114, 3) := by decide +kernel
theorem dX6_about_76 : decode cX6_about 76 = .ok (.ireturn, 1) := by decide +kernel
theorem dX6_about_77 : decode cX6_about 77 = .ok (.aload_n 3, 1) := by decide +kernel
theorem dX6_about_78 : decode cX6_about 78 = .ok (.getfield 117, 3) := by decide +kernel
theorem dX6_about_81 : decode cX6_about 81 = .ok (.ireturn, 1) := by decide +kernel
theorem dX6_about_82 : decode cX6_about 82 = .ok (.aload_n 3, 1) := by decide +kernel
theorem dX6_about_83 : decode cX6_about 83 = .ok (.getfield 120, 3) := by decide +kernel
theorem dX6_about_86 : decode cX6_about 86 = .ok (.ireturn, 1) := by decide +kernel
theorem dX6_about_87 : decode cX6_about 87 = .ok (.aload_n 3, 1) := by decide +kernel
theorem dX6_about_88 : decode cX6_about 88 = .ok (.getfield 123, 3) := by decide +kernel
theorem dX6_about_91 : decode cX6_about 91 = .ok (.ireturn, 1) := by decide +kernel
theorem dX6_about_92 : decode cX6_about 92 = .ok (.aload_n 3, 1) := by decide +kernel
theorem dX6_about_93 : decode cX6_about 93 = .ok (.getfield 126, 3) := by decide +kernel
theorem dX6_about_96 : decode cX6_about 96 = .ok (.ireturn, 1) := by decide +kernel
theorem dX6_about_97 : decode cX6_about 97 = .ok (.aload_n 3, 1) := by decide +kernel
theorem dX6_about_98 : decode cX6_about 98 = .ok (.getfield 129, 3) := by decide +kernel
theorem dX6_about_101 : decode cX6_about 101 = .ok (.ireturn, 1) := by decide +kernel
theorem dX6_about_102 : decode cX6_about 102 = .ok (.aload_n 0, 1) := by decide +kernel
theorem dX6_about_103 : decode cX6_about 103 = .ok (.getfield 10, 3) := by decide +kernel
theorem dX6_about_106 : decode cX6_about 106 = .ok (.iload_n 1, 1) := by decide +kernel
theorem dX6_about_107 : decode cX6_about 107 = .ok (.invokevirtual 132, 3) := by decide +kernel
theorem dX6_about_110 : decode cX6_about 110 = .ok (.ireturn, 1) := by decide +kernel
theorem dX6_about_111 : decode cX6_about 111 = .ok (.aload_n 0, 1) := by decide +kernel
theorem dX6_about_112 : decode cX6_about 112 = .ok (.aload_n 3, 1) := by decide +kernel
theorem dX6_about_113 : decode cX6_about 113 = .ok (.invokevirtual 135, 3) := by decide +kernel
theorem dX6_about_116 : decode cX6_about 116 = .ok (.ireturn, 1) := by decide +kernel
theorem dX6_about_117 : decode cX6_about 117 = .ok (.bipush (-102), 2) := by decide +kernel
theorem dX6_about_119 : decode cX6_about 119 = .ok (.ireturn, 1) := by decide +kernel
theorem dX6_conditionOf_0 : decode cX6_conditionOf 0 = .ok (.aload_n 1, 1) := by decide +kernel
theorem dX6_conditionOf_1 : decode cX6_conditionOf 1 = .ok (.getfield 139, 3) := by decide +kernel
theorem dX6_conditionOf_4 : decode cX6_conditionOf 4 = .ok (.ifCond .eq 5, 3) := by decide +kernel
theorem dX6_conditionOf_7 : decode cX6_conditionOf 7 = .ok (.iconst 3, 1) := by decide +kernel
theorem dX6_conditionOf_8 : decode cX6_conditionOf 8 = .ok (.ireturn, 1) := by decide +kernel
theorem dX6_conditionOf_9 : decode cX6_conditionOf 9 = .ok (.aload_n 1, 1) := by decide +kernel
theorem dX6_conditionOf_10 : decode cX6_conditionOf 10 = .ok (.invokevirtual 142, 3) := by decide +kernel
theorem dX6_conditionOf_13 : decode cX6_conditionOf 13 = .ok (.ifCond .ne 5, 3) := by decide +kernel
theorem dX6_conditionOf_16 : decode cX6_conditionOf 16 = .ok (.iconst 0, 1) := by decide +kernel
theorem dX6_conditionOf_17 : decode cX6_conditionOf 17 = .ok (.ireturn, 1) := by decide +kernel
theorem dX6_conditionOf_18 : decode cX6_conditionOf 18 = .ok (.aload_n 0, 1) := by decide +kernel
theorem dX6_conditionOf_19 : decode cX6_conditionOf 19 = .ok (.getfield 10, 3) := by decide +kernel
theorem dX6_conditionOf_22 : decode cX6_conditionOf 22 = .ok (.getfield 78, 3) := by decide +kernel
theorem dX6_conditionOf_25 : decode cX6_conditionOf 25 = .ok (.ifCond .le 7, 3) := by decide +kernel
theorem dX6_conditionOf_28 : decode cX6_conditionOf 28 = .ok (.iconst 1, 1) := by decide +kernel
theorem dX6_conditionOf_29 : decode cX6_conditionOf 29 = .ok (.goto 4, 3) := by decide +kernel
theorem dX6_conditionOf_32 : decode cX6_conditionOf 32 = .ok (.iconst 2, 1) := by decide +kernel
theorem dX6_conditionOf_33 : decode cX6_conditionOf 33 = .ok (.ireturn, 1) := by decide +kernel
theorem dX6_as_0 : decode cX6_as 0 = .ok (.aload_n 0, 1) := by decide +kernel
theorem dX6_as_1 : decode cX6_as 1 = .ok (.getfield 10, 3) := by decide +kernel
theorem dX6_as_4 : decode cX6_as 4 = .ok (.iload_n 1, 1) := by decide +kernel
theorem dX6_as_5 : decode cX6_as 5 = .ok (.invokevirtual 111, 3) := by decide +kernel
theorem dX6_as_8 : decode cX6_as 8 = .ok (.ifCond .ne 6, 3) := by decide +kernel
theorem dX6_as_11 : decode cX6_as 11 = .ok (.bipush (-101), 2) := by decide +kernel
theorem dX6_as_13 : decode cX6_as 13 = .ok (.ireturn, 1) := by decide +kernel
theorem dX6_as_14 : decode cX6_as 14 = .ok (.iload_n 2, 1) := by decide +kernel
theorem dX6_as_15 : decode cX6_as 15 = .ok (.invokestatic 88, 3) := by decide +kernel
theorem dX6_as_18 : decode cX6_as 18 = .ok (.ifCond .ne 6, 3) := by decide +kernel
theorem dX6_as_21 : decode cX6_as 21 = .ok (.bipush (-102), 2) := by decide +kernel
theorem dX6_as_23 : decode cX6_as 23 = .ok (.ireturn, 1) := by decide +kernel
theorem dX6_as_24 : decode cX6_as 24 = .ok (.aload_n 0, 1) := by decide +kernel
theorem dX6_as_25 : decode cX6_as 25 = .ok (.getfield 10, 3) := by decide +kernel
theorem dX6_as_28 : decode cX6_as 28 = .ok (.getfield 100, 3) := by decide +kernel
theorem dX6_as_31 : decode cX6_as 31 = .ok (.iload_n 1, 1) := by decide +kernel
theorem dX6_as_32 : decode cX6_as 32 = .ok (.aaload, 1) := by decide +kernel
theorem dX6_as_33 : decode cX6_as 33 = .ok (.getfield 114, 3) := by decide +kernel
theorem dX6_as_36 : decode cX6_as 36 = .ok (.iload_n 2, 1) := by decide +kernel
theorem dX6_as_37 : decode cX6_as 37 = .ok (.invokestatic 146, 3) := by decide +kernel
theorem dX6_as_40 : decode cX6_as 40 = .ok (.ifCond .eq 7, 3) := by decide +kernel
theorem dX6_as_43 : decode cX6_as 43 = .ok (.iload_n 1, 1) := by decide +kernel
theorem dX6_as_44 : decode cX6_as 44 = .ok (.goto 4, 3) := by decide +kernel
theorem dX6_as_47 : decode cX6_as 47 = .ok (.iconst (-1), 1) := by decide +kernel
theorem dX6_as_48 : decode cX6_as 48 = .ok (.ireturn, 1) := by decide +kernel
theorem dX6_saw_0 : decode cX6_saw 0 = .ok (.aload_n 0, 1) := by decide +kernel
theorem dX6_saw_1 : decode cX6_saw 1 = .ok (.getfield 10, 3) := by decide +kernel
theorem dX6_saw_4 : decode cX6_saw 4 = .ok (.iload_n 1, 1) := by decide +kernel
theorem dX6_saw_5 : decode cX6_saw 5 = .ok (.invokevirtual 111, 3) := by decide +kernel
theorem dX6_saw_8 : decode cX6_saw 8 = .ok (.ifCond .ne 6, 3) := by decide +kernel
theorem dX6_saw_11 : decode cX6_saw 11 = .ok (.bipush (-101), 2) := by decide +kernel
theorem dX6_saw_13 : decode cX6_saw 13 = .ok (.ireturn, 1) := by decide +kernel
theorem dX6_saw_14 : decode cX6_saw 14 = .ok (.aload_n 0, 1) := by decide +kernel
theorem dX6_saw_15 : decode cX6_saw 15 = .ok (.getfield 10, 3) := by decide +kernel
theorem dX6_saw_18 : decode cX6_saw 18 = .ok (.getfield 100, 3) := by decide +kernel
theorem dX6_saw_21 : decode cX6_saw 21 = .ok (.iload_n 1, 1) := by decide +kernel
theorem dX6_saw_22 : decode cX6_saw 22 = .ok (.aaload, 1) := by decide +kernel
theorem dX6_saw_23 : decode cX6_saw 23 = .ok (.invokevirtual 142, 3) := by decide +kernel
theorem dX6_saw_26 : decode cX6_saw 26 = .ok (.ifCond .ne 6, 3) := by decide +kernel
theorem dX6_saw_29 : decode cX6_saw 29 = .ok (.bipush (-103), 2) := by decide +kernel
theorem dX6_saw_31 : decode cX6_saw 31 = .ok (.ireturn, 1) := by decide +kernel
theorem dX6_saw_32 : decode cX6_saw 32 = .ok (.aload_n 0, 1) := by decide +kernel
theorem dX6_saw_33 : decode cX6_saw 33 = .ok (.getfield 10, 3) := by decide +kernel
theorem dX6_saw_36 : decode cX6_saw 36 = .ok (.iload_n 1, 1) := by decide +kernel
theorem dX6_saw_37 : decode cX6_saw 37 = .ok (.invokevirtual 149, 3) := by decide +kernel
theorem dX6_saw_40 : decode cX6_saw 40 = .ok (.istore_n 2, 1) := by decide +kernel
theorem dX6_saw_41 : decode cX6_saw 41 = .ok (.aload_n 0, 1) := by decide +kernel
theorem dX6_saw_42 : decode cX6_saw 42 = .ok (.getfield 10, 3) := by decide +kernel
theorem dX6_saw_45 : decode cX6_saw 45 = .ok (.getfield 100, 3) := by decide +kernel
theorem dX6_saw_48 : decode cX6_saw 48 = .ok (.iload_n 1, 1) := by decide +kernel
theorem dX6_saw_49 : decode cX6_saw 49 = .ok (.aaload, 1) := by decide +kernel
theorem dX6_saw_50 : decode cX6_saw 50 = .ok (.iload_n 2, 1) := by decide +kernel
theorem dX6_saw_51 : decode cX6_saw 51 = .ok (.invokevirtual 152, 3) := by decide +kernel
theorem dX6_saw_54 : decode cX6_saw 54 = .ok (.iload_n 2, 1) := by decide +kernel
theorem dX6_saw_55 : decode cX6_saw 55 = .ok (.ireturn, 1) := by decide +kernel
theorem dX6_letters_0 : decode cX6_letters 0 = .ok (.lload_n 1, 1) := by decide +kernel
theorem dX6_letters_1 : decode cX6_letters 1 = .ok (.invokestatic 156, 3) := by decide +kernel
theorem dX6_letters_4 : decode cX6_letters 4 = .ok (.istore_n 3, 1) := by decide +kernel
theorem dX6_letters_5 : decode cX6_letters 5 = .ok (.iload_n 3, 1) := by decide +kernel
theorem dX6_letters_6 : decode cX6_letters 6 = .ok (.ifCond .ge 6, 3) := by decide +kernel
theorem dX6_letters_9 : decode cX6_letters 9 = .ok (.bipush (-102), 2) := by decide +kernel
theorem dX6_letters_11 : decode cX6_letters 11 = .ok (.ireturn, 1) := by decide +kernel
theorem dX6_letters_12 : decode cX6_letters 12 = .ok (.aload_n 0, 1) := by decide +kernel
theorem dX6_letters_13 : decode cX6_letters 13 = .ok (.getfield 25, 3) := by decide +kernel
theorem dX6_letters_16 : decode cX6_letters 16 = .ok (.getfield 160, 3) := by decide +kernel
theorem dX6_letters_19 : decode cX6_letters 19 = .ok (.iload_n 3, 1) := by decide +kernel
theorem dX6_letters_20 : decode cX6_letters 20 = .ok (.iadd, 1) := by decide +kernel
theorem dX6_letters_21 : decode cX6_letters 21 = .ok (.bipush 24, 2) := by decide +kernel
theorem dX6_letters_23 : decode cX6_letters 23 = .ok (.if_icmp .le 6, 3) := by decide +kernel
theorem dX6_letters_26 : decode cX6_letters 26 = .ok (.bipush (-104), 2) := by decide +kernel
theorem dX6_letters_28 : decode cX6_letters 28 = .ok (.ireturn, 1) := by decide +kernel
theorem dX6_letters_29 : decode cX6_letters 29 = .ok (.aload_n 0, 1) := by decide +kernel
theorem dX6_letters_30 : decode cX6_letters 30 = .ok (.getfield 25, 3) := by decide +kernel
theorem dX6_letters_33 : decode cX6_letters 33 = .ok (.lload_n 1, 1) := by decide +kernel
theorem dX6_letters_34 : decode cX6_letters 34 = .ok (.iload_n 3, 1) := by decide +kernel
theorem dX6_letters_35 : decode cX6_letters 35 = .ok (.invokevirtual 163, 3) := by decide +kernel
theorem dX6_letters_38 : decode cX6_letters 38 = .ok (.aload_n 0, 1) := by decide +kernel
theorem dX6_letters_39 : decode cX6_letters 39 = .ok (.getfield 25, 3) := by decide +kernel
theorem dX6_letters_42 : decode cX6_letters 42 = .ok (.getfield 160, 3) := by decide +kernel
theorem dX6_letters_45 : decode cX6_letters 45 = .ok (.ireturn, 1) := by decide +kernel
theorem dX6_blank_0 : decode cX6_blank 0 = .ok (.aload_n 0, 1) := by decide +kernel
theorem dX6_blank_1 : decode cX6_blank 1 = .ok (.getfield 25, 3) := by decide +kernel
theorem dX6_blank_4 : decode cX6_blank 4 = .ok (.getfield 160, 3) := by decide +kernel
theorem dX6_blank_7 : decode cX6_blank 7 = .ok (.istore_n 1, 1) := by decide +kernel
theorem dX6_blank_8 : decode cX6_blank 8 = .ok (.aload_n 0, 1) := by decide +kernel
theorem dX6_blank_9 : decode cX6_blank 9 = .ok (.getfield 25, 3) := by decide +kernel
theorem dX6_blank_12 : decode cX6_blank 12 = .ok (.iconst 0, 1) := by decide +kernel
theorem dX6_blank_13 : decode cX6_blank 13 = .ok (.putfield 160, 3) := by decide +kernel
theorem dX6_blank_16 : decode cX6_blank 16 = .ok (.iload_n 1, 1) := by decide +kernel
theorem dX6_blank_17 : decode cX6_blank 17 = .ok (.ireturn, 1) := by decide +kernel
theorem dX6_fault_0 : decode cX6_fault 0 = .ok (.aload_n 0, 1) := by decide +kernel
theorem dX6_fault_1 : decode cX6_fault 1 = .ok (.getfield 25, 3) := by decide +kernel
theorem dX6_fault_4 : decode cX6_fault 4 = .ok (.invokevirtual 167, 3) := by decide +kernel
theorem dX6_fault_7 : decode cX6_fault 7 = .ok (.ireturn, 1) := by decide +kernel
theorem dX6_days_0 : decode cX6_days 0 = .ok (.aload_n 0, 1) := by decide +kernel
theorem dX6_days_1 : decode cX6_days 1 = .ok (.getfield 25, 3) := by decide +kernel
theorem dX6_days_4 : decode cX6_days 4 = .ok (.invokevirtual 171, 3) := by decide +kernel
theorem dX6_days_7 : decode cX6_days 7 = .ok (.ifCond .ne 6, 3) := by decide +kernel
theorem dX6_days_10 : decode cX6_days 10 = .ok (.bipush (-103), 2) := by decide +kernel
theorem dX6_days_12 : decode cX6_days 12 = .ok (.ireturn, 1) := by decide +kernel
theorem dX6_days_13 : decode cX6_days 13 = .ok (.iconst 0, 1) := by decide +kernel
theorem dX6_days_14 : decode cX6_days 14 = .ok (.istore_n 1, 1) := by decide +kernel
theorem dX6_days_15 : decode cX6_days 15 = .ok (.iconst 0, 1) := by decide +kernel
theorem dX6_days_16 : decode cX6_days 16 = .ok (.istore_n 2, 1) := by decide +kernel
theorem dX6_days_17 : decode cX6_days 17 = .ok (.iload_n 2, 1) := by decide +kernel
theorem dX6_days_18 : decode cX6_days 18 = .ok (.aload_n 0, 1) := by decide +kernel
theorem dX6_days_19 : decode cX6_days 19 = .ok (.getfield 25, 3) := by decide +kernel
theorem dX6_days_22 : decode cX6_days 22 = .ok (.getfield 160, 3) := by decide +kernel
theorem dX6_days_25 : decode cX6_days 25 = .ok (.if_icmp .ge 56, 3) := by decide +kernel
theorem dX6_days_28 : decode cX6_days 28 = .ok (.iload_n 1, 1) := by decide +kernel
theorem dX6_days_29 : decode cX6_days 29 = .ok (.aload_n 0, 1) := by decide +kernel
theorem dX6_days_30 : decode cX6_days 30 = .ok (.getfield 10, 3) := by decide +kernel
theorem dX6_days_33 : decode cX6_days 33 = .ok (.aload_n 0, 1) := by decide +kernel
theorem dX6_days_34 : decode cX6_days 34 = .ok (.getfield 25, 3) := by decide +kernel
theorem dX6_days_37 : decode cX6_days 37 = .ok (.iload_n 2, 1) := by decide +kernel
theorem dX6_days_38 : decode cX6_days 38 = .ok (.invokevirtual 174, 3) := by decide +kernel
theorem dX6_days_41 : decode cX6_days 41 = .ok (.aload_n 0, 1) := by decide +kernel
theorem dX6_days_42 : decode cX6_days 42 = .ok (.getfield 25, 3) := by decide +kernel
theorem dX6_days_45 : decode cX6_days 45 = .ok (.iload_n 2, 1) := by decide +kernel
theorem dX6_days_46 : decode cX6_days 46 = .ok (.invokevirtual 177, 3) := by decide +kernel
theorem dX6_days_49 : decode cX6_days 49 = .ok (.invokevirtual 180, 3) := by decide +kernel
theorem dX6_days_52 : decode cX6_days 52 = .ok (.iadd, 1) := by decide +kernel
theorem dX6_days_53 : decode cX6_days 53 = .ok (.istore_n 1, 1) := by decide +kernel
theorem dX6_days_54 : decode cX6_days 54 = .ok (.aload_n 0, 1) := by decide +kernel
theorem dX6_days_55 : decode cX6_days 55 = .ok (.getfield 10, 3) := by decide +kernel
theorem dX6_days_58 : decode cX6_days 58 = .ok (.dup, 1) := by decide +kernel
theorem dX6_days_59 : decode cX6_days 59 = .ok (.getfield 183, 3) := by decide +kernel
theorem dX6_days_62 : decode cX6_days 62 = .ok (.iconst 1, 1) := by decide +kernel
theorem dX6_days_63 : decode cX6_days 63 = .ok (.iadd, 1) := by decide +kernel
theorem dX6_days_64 : decode cX6_days 64 = .ok (.putfield 183, 3) := by decide +kernel
theorem dX6_days_67 : decode cX6_days 67 = .ok (.iload_n 2, 1) := by decide +kernel
theorem dX6_days_68 : decode cX6_days 68 = .ok (.aload_n 0, 1) := by decide +kernel
theorem dX6_days_69 : decode cX6_days 69 = .ok (.getfield 25, 3) := by decide +kernel
theorem dX6_days_72 : decode cX6_days 72 = .ok (.iload_n 2, 1) := by decide +kernel
theorem dX6_days_73 : decode cX6_days 73 = .ok (.invokevirtual 186, 3) := by decide +kernel
theorem dX6_days_76 : decode cX6_days 76 = .ok (.iadd, 1) := by decide +kernel
theorem dX6_days_77 : decode cX6_days 77 = .ok (.istore_n 2, 1) := by decide +kernel
theorem dX6_days_78 : decode cX6_days 78 = .ok (.goto (-61), 3) := by decide +kernel
theorem dX6_days_81 : decode cX6_days 81 = .ok (.aload_n 0, 1) := by decide +kernel
theorem dX6_days_82 : decode cX6_days 82 = .ok (.getfield 25, 3) := by decide +kernel
theorem dX6_days_85 : decode cX6_days 85 = .ok (.iconst 0, 1) := by decide +kernel
theorem dX6_days_86 : decode cX6_days 86 = .ok (.putfield 160, 3) := by decide +kernel
theorem dX6_days_89 : decode cX6_days 89 = .ok (.iload_n 1, 1) := by decide +kernel
theorem dX6_days_90 : decode cX6_days 90 = .ok (.ireturn, 1) := by decide +kernel
theorem dX6_needed_0 : decode cX6_needed 0 = .ok (.aload_n 0, 1) := by decide +kernel
theorem dX6_needed_1 : decode cX6_needed 1 = .ok (.getfield 10, 3) := by decide +kernel
theorem dX6_needed_4 : decode cX6_needed 4 = .ok (.iload_n 2, 1) := by decide +kernel
theorem dX6_needed_5 : decode cX6_needed 5 = .ok (.invokevirtual 66, 3) := by decide +kernel
theorem dX6_needed_8 : decode cX6_needed 8 = .ok (.ifCond .ne 6, 3) := by decide +kernel
theorem dX6_needed_11 : decode cX6_needed 11 = .ok (.bipush (-101), 2) := by decide +kernel
theorem dX6_needed_13 : decode cX6_needed 13 = .ok (.ireturn, 1) := by decide +kernel
theorem dX6_needed_14 : decode cX6_needed 14 = .ok (.iload_n 1, 1) := by decide +kernel
theorem dX6_needed_15 : decode cX6_needed 15 = .ok (.invokestatic 88, 3) := by decide +kernel
theorem dX6_needed_18 : decode cX6_needed 18 = .ok (.ifCond .ne 6, 3) := by decide +kernel
theorem dX6_needed_21 : decode cX6_needed 21 = .ok (.bipush (-102), 2) := by decide +kernel
theorem dX6_needed_23 : decode cX6_needed 23 = .ok (.ireturn, 1) := by decide +kernel
theorem dX6_needed_24 : decode cX6_needed 24 = .ok (.aload_n 0, 1) := by decide +kernel
theorem dX6_needed_25 : decode cX6_needed 25 = .ok (.getfield 25, 3) := by decide +kernel
theorem dX6_needed_28 : decode cX6_needed 28 = .ok (.invokevirtual 171, 3) := by decide +kernel
theorem dX6_needed_31 : decode cX6_needed 31 = .ok (.ifCond .ne 6, 3) := by decide +kernel
theorem dX6_needed_34 : decode cX6_needed 34 = .ok (.bipush (-103), 2) := by decide +kernel
theorem dX6_needed_36 : decode cX6_needed 36 = .ok (.ireturn, 1) := by decide +kernel
theorem dX6_needed_37 : decode cX6_needed 37 = .ok (.aload_n 0, 1) := by decide +kernel
theorem dX6_needed_38 : decode cX6_needed 38 = .ok (.getfield 10, 3) := by decide +kernel
theorem dX6_needed_41 : decode cX6_needed 41 = .ok (.getfield 74, 3) := by decide +kernel
theorem dX6_needed_44 : decode cX6_needed 44 = .ok (.iload_n 2, 1) := by decide +kernel
theorem dX6_needed_45 : decode cX6_needed 45 = .ok (.iaload, 1) := by decide +kernel
theorem dX6_needed_46 : decode cX6_needed 46 = .ok (.istore_n 3, 1) := by decide +kernel
theorem dX6_needed_47 : decode cX6_needed 47 = .ok (.iconst 1, 1) := by decide +kernel
theorem dX6_needed_48 : decode cX6_needed 48 = .ok (.istore 4, 2) := by decide +kernel
theorem dX6_needed_50 : decode cX6_needed 50 = .ok (.iload 4, 2) := by decide +kernel
theorem dX6_needed_52 : decode cX6_needed 52 = .ok (.bipush 9, 2) := by decide +kernel
theorem dX6_needed_54 : decode cX6_needed 54 = .ok (.if_icmp .gt 40, 3) := by decide +kernel
theorem dX6_needed_57 : decode cX6_needed 57 = .ok (.iload_n 1, 1) := by decide +kernel
theorem dX6_needed_58 : decode cX6_needed 58 = .ok (.iload 4, 2) := by decide +kernel
theorem dX6_needed_60 : decode cX6_needed 60 = .ok (.invokestatic 91, 3) := by decide +kernel
theorem dX6_needed_63 : decode cX6_needed 63 = .ok (.istore 5, 2) := by decide +kernel
theorem dX6_needed_65 : decode cX6_needed 65 = .ok (.iload 5, 2) := by decide +kernel
theorem dX6_needed_67 : decode cX6_needed 67 = .ok (.iload_n 3, 1) := by decide +kernel
theorem dX6_needed_68 : decode cX6_needed 68 = .ok (.if_icmp .gt 20, 3) := by decide +kernel
theorem dX6_needed_71 : decode cX6_needed 71 = .ok (.aload_n 0, 1) := by decide +kernel
theorem dX6_needed_72 : decode cX6_needed 72 = .ok (.getfield 25, 3) := by decide +kernel
theorem dX6_needed_75 : decode cX6_needed 75 = .ok (.iload_n 1, 1) := by decide +kernel
theorem dX6_needed_76 : decode cX6_needed 76 = .ok (.iload 5, 2) := by decide +kernel
theorem dX6_needed_78 : decode cX6_needed 78 = .ok (.iload_n 3, 1) := by decide +kernel
theorem dX6_needed_79 : decode cX6_needed 79 = .ok (.invokevirtual 189, 3) := by decide +kernel
theorem dX6_needed_82 : decode cX6_needed 82 = .ok (.ifCond .eq 6, 3) := by decide +kernel
theorem dX6_needed_85 : decode cX6_needed 85 = .ok (.iload 4, 2) := by decide +kernel
theorem dX6_needed_87 : decode cX6_needed 87 = .ok (.ireturn, 1) := by decide +kernel
theorem dX6_needed_88 : decode cX6_needed 88 = .ok (.iinc 4 1, 3) := by decide +kernel
theorem dX6_needed_91 : decode cX6_needed 91 = .ok (.goto (-41), 3) := by decide +kernel
theorem dX6_needed_94 : decode cX6_needed 94 = .ok (.iconst (-1), 1) := by decide +kernel
theorem dX6_needed_95 : decode cX6_needed 95 = .ok (.ireturn, 1) := by decide +kernel
theorem dX6_bears_0 : decode cX6_bears 0 = .ok (.aload_n 0, 1) := by decide +kernel
theorem dX6_bears_1 : decode cX6_bears 1 = .ok (.getfield 10, 3) := by decide +kernel
theorem dX6_bears_4 : decode cX6_bears 4 = .ok (.iload_n 1, 1) := by decide +kernel
theorem dX6_bears_5 : decode cX6_bears 5 = .ok (.invokevirtual 66, 3) := by decide +kernel
theorem dX6_bears_8 : decode cX6_bears 8 = .ok (.ifCond .ne 6, 3) := by decide +kernel
theorem dX6_bears_11 : decode cX6_bears 11 = .ok (.bipush (-101), 2) := by decide +kernel
theorem dX6_bears_13 : decode cX6_bears 13 = .ok (.ireturn, 1) := by decide +kernel
theorem dX6_bears_14 : decode cX6_bears 14 = .ok (.aload_n 0, 1) := by decide +kernel
theorem dX6_bears_15 : decode cX6_bears 15 = .ok (.getfield 25, 3) := by decide +kernel
theorem dX6_bears_18 : decode cX6_bears 18 = .ok (.invokevirtual 171, 3) := by decide +kernel
theorem dX6_bears_21 : decode cX6_bears 21 = .ok (.ifCond .ne 6, 3) := by decide +kernel
theorem dX6_bears_24 : decode cX6_bears 24 = .ok (.bipush (-103), 2) := by decide +kernel
theorem dX6_bears_26 : decode cX6_bears 26 = .ok (.ireturn, 1) := by decide +kernel
theorem dX6_bears_27 : decode cX6_bears 27 = .ok (.aload_n 0, 1) := by decide +kernel
theorem dX6_bears_28 : decode cX6_bears 28 = .ok (.getfield 25, 3) := by decide +kernel
theorem dX6_bears_31 : decode cX6_bears 31 = .ok (.aload_n 0, 1) := by decide +kernel
theorem dX6_bears_32 : decode cX6_bears 32 = .ok (.getfield 10, 3) := by decide +kernel
theorem dX6_bears_35 : decode cX6_bears 35 = .ok (.getfield 74, 3) := by decide +kernel
theorem dX6_bears_38 : decode cX6_bears 38 = .ok (.iload_n 1, 1) := by decide +kernel
theorem dX6_bears_39 : decode cX6_bears 39 = .ok (.iaload, 1) := by decide +kernel
theorem dX6_bears_40 : decode cX6_bears 40 = .ok (.invokevirtual 192, 3) := by decide +kernel
theorem dX6_bears_43 : decode cX6_bears 43 = .ok (.ireturn, 1) := by decide +kernel
theorem dX6_owes_0 : decode cX6_owes 0 = .ok (.iload_n 1, 1) := by decide +kernel
theorem dX6_owes_1 : decode cX6_owes 1 = .ok (.iload_n 2, 1) := by decide +kernel
theorem dX6_owes_2 : decode cX6_owes 2 = .ok (.invokestatic 84, 3) := by decide +kernel
theorem dX6_owes_5 : decode cX6_owes 5 = .ok (.ifCond .ne 6, 3) := by decide +kernel
theorem dX6_owes_8 : decode cX6_owes 8 = .ok (.bipush (-101), 2) := by decide +kernel
theorem dX6_owes_10 : decode cX6_owes 10 = .ok (.ireturn, 1) := by decide +kernel
theorem dX6_owes_11 : decode cX6_owes 11 = .ok (.iconst 0, 1) := by decide +kernel
theorem dX6_owes_12 : decode cX6_owes 12 = .ok (.istore 4, 2) := by decide +kernel
theorem dX6_owes_14 : decode cX6_owes 14 = .ok (.iconst 0, 1) := by decide +kernel
theorem dX6_owes_15 : decode cX6_owes 15 = .ok (.istore 5, 2) := by decide +kernel
theorem dX6_owes_17 : decode cX6_owes 17 = .ok (.iload 5, 2) := by decide +kernel
theorem dX6_owes_19 : decode cX6_owes 19 = .ok (.aload_n 0, 1) := by decide +kernel
theorem dX6_owes_20 : decode cX6_owes 20 = .ok (.getfield 10, 3) := by decide +kernel
theorem dX6_owes_23 : decode cX6_owes 23 = .ok (.getfield 97, 3) := by decide +kernel
theorem dX6_owes_26 : decode cX6_owes 26 = .ok (.if_icmp .ge 79, 3) := by decide +kernel
theorem dX6_owes_29 : decode cX6_owes 29 = .ok (.aload_n 0, 1) := by decide +kernel
theorem dX6_owes_30 : decode cX6_owes 30 = .ok (.getfield 10, 3) := by decide +kernel
theorem dX6_owes_33 : decode cX6_owes 33 = .ok (.getfield 100, 3) := by decide +kernel
theorem dX6_owes_36 : decode cX6_owes 36 = .ok (.iload 5, 2) := by decide +kernel
theorem dX6_owes_38 : decode cX6_owes 38 = .ok (.aaload, 1) := by decide +kernel
theorem dX6_owes_39 : decode cX6_owes 39 = .ok (.astore 6, 2) := by decide +kernel
theorem dX6_owes_41 : decode cX6_owes 41 = .ok (.iload_n 3, 1) := by decide +kernel
theorem dX6_owes_42 : decode cX6_owes 42 = .ok (.ifCond .eq 13, 3) := by decide +kernel
theorem dX6_owes_45 : decode cX6_owes 45 = .ok (.aload_n 0, 1) := by decide +kernel
theorem dX6_owes_46 : decode cX6_owes 46 = .ok (.aload 6, 2) := by decide +kernel
theorem dX6_owes_48 : decode cX6_owes 48 = .ok (.invokevirtual 135, 3) := by decide +kernel
theorem dX6_owes_51 : decode cX6_owes 51 = .ok (.iconst 2, 1) := by decide +kernel
theorem dX6_owes_52 : decode cX6_owes 52 = .ok (.if_icmp .lt 7, 3) := by decide +kernel
theorem dX6_owes_55 : decode cX6_owes 55 = .ok (.iconst 1, 1) := by decide +kernel
theorem dX6_owes_56 : decode cX6_owes 56 = .ok (.goto 4, 3) := by decide +kernel
theorem dX6_owes_59 : decode cX6_owes 59 = .ok (.iconst 0, 1) := by decide +kernel
theorem dX6_owes_60 : decode cX6_owes 60 = .ok (.istore 7, 2) := by decide +kernel
theorem dX6_owes_62 : decode cX6_owes 62 = .ok (.iload 7, 2) := by decide +kernel
theorem dX6_owes_64 : decode cX6_owes 64 = .ok (.ifCond .eq 35, 3) := by decide +kernel
theorem dX6_owes_67 : decode cX6_owes 67 = .ok (.aload 6, 2) := by decide +kernel
theorem dX6_owes_69 : decode cX6_owes 69 = .ok (.getfield 120, 3) := by decide +kernel
theorem dX6_owes_72 : decode cX6_owes 72 = .ok (.iload_n 1, 1) := by decide +kernel
theorem dX6_owes_73 : decode cX6_owes 73 = .ok (.if_icmp .ne 26, 3) := by decide +kernel
theorem dX6_owes_76 : decode cX6_owes 76 = .ok (.aload 6, 2) := by decide +kernel
theorem dX6_owes_78 : decode cX6_owes 78 = .ok (.getfield 123, 3) := by decide +kernel
theorem dX6_owes_81 : decode cX6_owes 81 = .ok (.iload_n 2, 1) := by decide +kernel
theorem dX6_owes_82 : decode cX6_owes 82 = .ok (.if_icmp .ne 17, 3) := by decide +kernel
theorem dX6_owes_85 : decode cX6_owes 85 = .ok (.iload 4, 2) := by decide +kernel
theorem dX6_owes_87 : decode cX6_owes 87 = .ok (.aload_n 0, 1) := by decide +kernel
theorem dX6_owes_88 : decode cX6_owes 88 = .ok (.getfield 10, 3) := by decide +kernel
theorem dX6_owes_91 : decode cX6_owes 91 = .ok (.iload 5, 2) := by decide +kernel
theorem dX6_owes_93 : decode cX6_owes 93 = .ok (.invokevirtual 132, 3) := by decide +kernel
theorem dX6_owes_96 : decode cX6_owes 96 = .ok (.iadd, 1) := by decide +kernel
theorem dX6_owes_97 : decode cX6_owes 97 = .ok (.istore 4, 2) := by decide +kernel
theorem dX6_owes_99 : decode cX6_owes 99 = .ok (.iinc 5 1, 3) := by decide +kernel
theorem dX6_owes_102 : decode cX6_owes 102 = .ok (.goto (-85), 3) := by decide +kernel
theorem dX6_owes_105 : decode cX6_owes 105 = .ok (.iload 4, 2) := by decide +kernel
theorem dX6_owes_107 : decode cX6_owes 107 = .ok (.ireturn, 1) := by decide +kernel
theorem dX6_rest_0 : decode cX6_rest 0 = .ok (.iload_n 1, 1) := by decide +kernel
theorem dX6_rest_1 : decode cX6_rest 1 = .ok (.invokestatic 195, 3) := by decide +kernel
theorem dX6_rest_4 : decode cX6_rest 4 = .ok (.ifCond .eq 14, 3) := by decide +kernel
theorem dX6_rest_7 : decode cX6_rest 7 = .ok (.aload_n 0, 1) := by decide +kernel
theorem dX6_rest_8 : decode cX6_rest 8 = .ok (.getfield 10, 3) := by decide +kernel
theorem dX6_rest_11 : decode cX6_rest 11 = .ok (.iload_n 1, 1) := by decide +kernel
theorem dX6_rest_12 : decode cX6_rest 12 = .ok (.invokevirtual 198, 3) := by decide +kernel
theorem dX6_rest_15 : decode cX6_rest 15 = .ok (.goto 5, 3) := by decide +kernel
theorem dX6_rest_18 : decode cX6_rest 18 = .ok (.ldc 201, 2) := by decide +kernel
theorem dX6_rest_20 : decode cX6_rest 20 = .ok (.ireturn, 1) := by decide +kernel
theorem dX6_sledges_0 : decode cX6_sledges 0 = .ok (.iload_n 1, 1) := by decide +kernel
theorem dX6_sledges_1 : decode cX6_sledges 1 = .ok (.iconst 1, 1) := by decide +kernel
theorem dX6_sledges_2 : decode cX6_sledges 2 = .ok (.iconst 3, 1) := by decide +kernel
theorem dX6_sledges_3 : decode cX6_sledges 3 = .ok (.invokestatic 54, 3) := by decide +kernel
theorem dX6_sledges_6 : decode cX6_sledges 6 = .ok (.ifCond .eq 23, 3) := by decide +kernel
theorem dX6_sledges_9 : decode cX6_sledges 9 = .ok (.iload_n 2, 1) := by decide +kernel
theorem dX6_sledges_10 : decode cX6_sledges 10 = .ok (.iconst 1, 1) := by decide +kernel
theorem dX6_sledges_11 : decode cX6_sledges 11 = .ok (.sipush 200, 3) := by decide +kernel
theorem dX6_sledges_14 : decode cX6_sledges 14 = .ok (.invokestatic 54, 3) := by decide +kernel
theorem dX6_sledges_17 : decode cX6_sledges 17 = .ok (.ifCond .eq 12, 3) := by decide +kernel
theorem dX6_sledges_20 : decode cX6_sledges 20 = .ok (.iload_n 3, 1) := by decide +kernel
theorem dX6_sledges_21 : decode cX6_sledges 21 = .ok (.iconst 0, 1) := by decide +kernel
theorem dX6_sledges_22 : decode cX6_sledges 22 = .ok (.iconst 1, 1) := by decide +kernel
theorem dX6_sledges_23 : decode cX6_sledges 23 = .ok (.invokestatic 54, 3) := by decide +kernel
theorem dX6_sledges_26 : decode cX6_sledges 26 = .ok (.ifCond .ne 6, 3) := by decide +kernel
theorem dX6_sledges_29 : decode cX6_sledges 29 = .ok (.bipush (-102), 2) := by decide +kernel
theorem dX6_sledges_31 : decode cX6_sledges 31 = .ok (.ireturn, 1) := by decide +kernel
theorem dX6_sledges_32 : decode cX6_sledges 32 = .ok (.aload_n 0, 1) := by decide +kernel
theorem dX6_sledges_33 : decode cX6_sledges 33 = .ok (.getfield 202, 3) := by decide +kernel
theorem dX6_sledges_36 : decode cX6_sledges 36 = .ok (.bipush 20, 2) := by decide +kernel
theorem dX6_sledges_38 : decode cX6_sledges 38 = .ok (.if_icmp .lt 6, 3) := by decide +kernel
theorem dX6_sledges_41 : decode cX6_sledges 41 = .ok (.bipush (-103), 2) := by decide +kernel
theorem dX6_sledges_43 : decode cX6_sledges 43 = .ok (.ireturn, 1) := by decide +kernel
theorem dX6_sledges_44 : decode cX6_sledges 44 = .ok (.aload_n 0, 1) := by decide +kernel
theorem dX6_sledges_45 : decode cX6_sledges 45 = .ok (.dup, 1) := by decide +kernel
theorem dX6_sledges_46 : decode cX6_sledges 46 = .ok (.getfield 202, 3) := by decide +kernel
theorem dX6_sledges_49 : decode cX6_sledges 49 = .ok (.iconst 1, 1) := by decide +kernel
end
section
theorem dX6_sledges_50 : decode cX6_sledges 50 = .ok (.iadd, 1) := by decide +kernel
theorem dX6_sledges_51 : decode cX6_sledges 51 = .ok (.putfield 202, 3) := by decide +kernel
theorem dX6_sledges_54 : decode cX6_sledges 54 = .ok (.aload_n 0, 1) := by decide +kernel
theorem dX6_sledges_55 : decode cX6_sledges 55 = .ok (.getfield 39, 3) := by decide +kernel
theorem dX6_sledges_58 : decode cX6_sledges 58 = .ok (.aload_n 0, 1) := by decide +kernel
theorem dX6_sledges_59 : decode cX6_sledges 59 = .ok (.getfield 10, 3) := by decide +kernel
theorem dX6_sledges_62 : decode cX6_sledges 62 = .ok (.iload_n 1, 1) := by decide +kernel
theorem dX6_sledges_63 : decode cX6_sledges 63 = .ok (.iload_n 2, 1) := by decide +kernel
theorem dX6_sledges_64 : decode cX6_sledges 64 = .ok (.invokevirtual 205, 3) := by decide +kernel
theorem dX6_sledges_67 : decode cX6_sledges 67 = .ok (.iload_n 3, 1) := by decide +kernel
theorem dX6_sledges_68 : decode cX6_sledges 68 = .ok (.ifCond .ne 13, 3) := by decide +kernel
theorem dX6_sledges_71 : decode cX6_sledges 71 = .ok (.aload_n 0, 1) := by decide +kernel
theorem dX6_sledges_72 : decode cX6_sledges 72 = .ok (.getfield 39, 3) := by decide +kernel
theorem dX6_sledges_75 : decode cX6_sledges 75 = .ok (.getfield 209, 3) := by decide +kernel
theorem dX6_sledges_78 : decode cX6_sledges 78 = .ok (.goto 10, 3) := by decide +kernel
theorem dX6_sledges_81 : decode cX6_sledges 81 = .ok (.aload_n 0, 1) := by decide +kernel
theorem dX6_sledges_82 : decode cX6_sledges 82 = .ok (.getfield 39, 3) := by decide +kernel
theorem dX6_sledges_85 : decode cX6_sledges 85 = .ok (.getfield 212, 3) := by decide +kernel
theorem dX6_sledges_88 : decode cX6_sledges 88 = .ok (.ireturn, 1) := by decide +kernel
theorem dX6_settled_0 : decode cX6_settled 0 = .ok (.iload_n 1, 1) := by decide +kernel
theorem dX6_settled_1 : decode cX6_settled 1 = .ok (.iconst 0, 1) := by decide +kernel
theorem dX6_settled_2 : decode cX6_settled 2 = .ok (.iconst 1, 1) := by decide +kernel
theorem dX6_settled_3 : decode cX6_settled 3 = .ok (.invokestatic 54, 3) := by decide +kernel
theorem dX6_settled_6 : decode cX6_settled 6 = .ok (.ifCond .ne 6, 3) := by decide +kernel
theorem dX6_settled_9 : decode cX6_settled 9 = .ok (.bipush (-102), 2) := by decide +kernel
theorem dX6_settled_11 : decode cX6_settled 11 = .ok (.ireturn, 1) := by decide +kernel
theorem dX6_settled_12 : decode cX6_settled 12 = .ok (.aload_n 0, 1) := by decide +kernel
theorem dX6_settled_13 : decode cX6_settled 13 = .ok (.getfield 46, 3) := by decide +kernel
theorem dX6_settled_16 : decode cX6_settled 16 = .ok (.aload_n 0, 1) := by decide +kernel
theorem dX6_settled_17 : decode cX6_settled 17 = .ok (.getfield 10, 3) := by decide +kernel
theorem dX6_settled_20 : decode cX6_settled 20 = .ok (.invokevirtual 215, 3) := by decide +kernel
theorem dX6_settled_23 : decode cX6_settled 23 = .ok (.istore_n 2, 1) := by decide +kernel
theorem dX6_settled_24 : decode cX6_settled 24 = .ok (.iload_n 1, 1) := by decide +kernel
theorem dX6_settled_25 : decode cX6_settled 25 = .ok (.ifCond .ne 10, 3) := by decide +kernel
theorem dX6_settled_28 : decode cX6_settled 28 = .ok (.bipush 6, 2) := by decide +kernel
theorem dX6_settled_30 : decode cX6_settled 30 = .ok (.iload_n 2, 1) := by decide +kernel
theorem dX6_settled_31 : decode cX6_settled 31 = .ok (.isub, 1) := by decide +kernel
theorem dX6_settled_32 : decode cX6_settled 32 = .ok (.goto 4, 3) := by decide +kernel
theorem dX6_settled_35 : decode cX6_settled 35 = .ok (.iload_n 2, 1) := by decide +kernel
theorem dX6_settled_36 : decode cX6_settled 36 = .ok (.ireturn, 1) := by decide +kernel
theorem dX6_skate_0 : decode cX6_skate 0 = .ok (.aload_n 0, 1) := by decide +kernel
theorem dX6_skate_1 : decode cX6_skate 1 = .ok (.getfield 10, 3) := by decide +kernel
theorem dX6_skate_4 : decode cX6_skate 4 = .ok (.iload_n 1, 1) := by decide +kernel
theorem dX6_skate_5 : decode cX6_skate 5 = .ok (.invokevirtual 66, 3) := by decide +kernel
theorem dX6_skate_8 : decode cX6_skate 8 = .ok (.ifCond .eq 14, 3) := by decide +kernel
theorem dX6_skate_11 : decode cX6_skate 11 = .ok (.aload_n 0, 1) := by decide +kernel
theorem dX6_skate_12 : decode cX6_skate 12 = .ok (.getfield 10, 3) := by decide +kernel
theorem dX6_skate_15 : decode cX6_skate 15 = .ok (.iload_n 2, 1) := by decide +kernel
theorem dX6_skate_16 : decode cX6_skate 16 = .ok (.invokevirtual 66, 3) := by decide +kernel
theorem dX6_skate_19 : decode cX6_skate 19 = .ok (.ifCond .ne 6, 3) := by decide +kernel
theorem dX6_skate_22 : decode cX6_skate 22 = .ok (.bipush (-101), 2) := by decide +kernel
theorem dX6_skate_24 : decode cX6_skate 24 = .ok (.ireturn, 1) := by decide +kernel
theorem dX6_skate_25 : decode cX6_skate 25 = .ok (.iload_n 3, 1) := by decide +kernel
theorem dX6_skate_26 : decode cX6_skate 26 = .ok (.iconst 0, 1) := by decide +kernel
theorem dX6_skate_27 : decode cX6_skate 27 = .ok (.iconst 1, 1) := by decide +kernel
theorem dX6_skate_28 : decode cX6_skate 28 = .ok (.invokestatic 54, 3) := by decide +kernel
theorem dX6_skate_31 : decode cX6_skate 31 = .ok (.ifCond .ne 6, 3) := by decide +kernel
theorem dX6_skate_34 : decode cX6_skate 34 = .ok (.bipush (-102), 2) := by decide +kernel
theorem dX6_skate_36 : decode cX6_skate 36 = .ok (.ireturn, 1) := by decide +kernel
theorem dX6_skate_37 : decode cX6_skate 37 = .ok (.aload_n 0, 1) := by decide +kernel
theorem dX6_skate_38 : decode cX6_skate 38 = .ok (.getfield 32, 3) := by decide +kernel
theorem dX6_skate_41 : decode cX6_skate 41 = .ok (.aload_n 0, 1) := by decide +kernel
theorem dX6_skate_42 : decode cX6_skate 42 = .ok (.getfield 10, 3) := by decide +kernel
theorem dX6_skate_45 : decode cX6_skate 45 = .ok (.iload_n 1, 1) := by decide +kernel
theorem dX6_skate_46 : decode cX6_skate 46 = .ok (.invokevirtual 219, 3) := by decide +kernel
theorem dX6_skate_49 : decode cX6_skate 49 = .ok (.aload_n 0, 1) := by decide +kernel
theorem dX6_skate_50 : decode cX6_skate 50 = .ok (.getfield 32, 3) := by decide +kernel
theorem dX6_skate_53 : decode cX6_skate 53 = .ok (.getfield 223, 3) := by decide +kernel
theorem dX6_skate_56 : decode cX6_skate 56 = .ok (.iload_n 2, 1) := by decide +kernel
theorem dX6_skate_57 : decode cX6_skate 57 = .ok (.iaload, 1) := by decide +kernel
theorem dX6_skate_58 : decode cX6_skate 58 = .ok (.ifCond .ge 5, 3) := by decide +kernel
theorem dX6_skate_61 : decode cX6_skate 61 = .ok (.iconst (-1), 1) := by decide +kernel
theorem dX6_skate_62 : decode cX6_skate 62 = .ok (.ireturn, 1) := by decide +kernel
theorem dX6_skate_63 : decode cX6_skate 63 = .ok (.iload_n 3, 1) := by decide +kernel
theorem dX6_skate_64 : decode cX6_skate 64 = .ok (.ifCond .ne 15, 3) := by decide +kernel
theorem dX6_skate_67 : decode cX6_skate 67 = .ok (.aload_n 0, 1) := by decide +kernel
theorem dX6_skate_68 : decode cX6_skate 68 = .ok (.getfield 32, 3) := by decide +kernel
theorem dX6_skate_71 : decode cX6_skate 71 = .ok (.getfield 223, 3) := by decide +kernel
theorem dX6_skate_74 : decode cX6_skate 74 = .ok (.iload_n 2, 1) := by decide +kernel
theorem dX6_skate_75 : decode cX6_skate 75 = .ok (.iaload, 1) := by decide +kernel
theorem dX6_skate_76 : decode cX6_skate 76 = .ok (.goto 12, 3) := by decide +kernel
theorem dX6_skate_79 : decode cX6_skate 79 = .ok (.aload_n 0, 1) := by decide +kernel
theorem dX6_skate_80 : decode cX6_skate 80 = .ok (.getfield 32, 3) := by decide +kernel
theorem dX6_skate_83 : decode cX6_skate 83 = .ok (.getfield 226, 3) := by decide +kernel
theorem dX6_skate_86 : decode cX6_skate 86 = .ok (.iload_n 2, 1) := by decide +kernel
theorem dX6_skate_87 : decode cX6_skate 87 = .ok (.iaload, 1) := by decide +kernel
theorem dX6_skate_88 : decode cX6_skate 88 = .ok (.ireturn, 1) := by decide +kernel
theorem dX6_odds_0 : decode cX6_odds 0 = .ok (.aload_n 0, 1) := by decide +kernel
theorem dX6_odds_1 : decode cX6_odds 1 = .ok (.getfield 10, 3) := by decide +kernel
theorem dX6_odds_4 : decode cX6_odds 4 = .ok (.iload_n 1, 1) := by decide +kernel
theorem dX6_odds_5 : decode cX6_odds 5 = .ok (.invokevirtual 111, 3) := by decide +kernel
theorem dX6_odds_8 : decode cX6_odds 8 = .ok (.ifCond .ne 7, 3) := by decide +kernel
theorem dX6_odds_11 : decode cX6_odds 11 = .ok (.ldc2_w 229, 3) := by decide +kernel
theorem dX6_odds_14 : decode cX6_odds 14 = .ok (.lreturn, 1) := by decide +kernel
theorem dX6_odds_15 : decode cX6_odds 15 = .ok (.iload_n 2, 1) := by decide +kernel
theorem dX6_odds_16 : decode cX6_odds 16 = .ok (.iconst 1, 1) := by decide +kernel
theorem dX6_odds_17 : decode cX6_odds 17 = .ok (.bipush 9, 2) := by decide +kernel
theorem dX6_odds_19 : decode cX6_odds 19 = .ok (.invokestatic 54, 3) := by decide +kernel
theorem dX6_odds_22 : decode cX6_odds 22 = .ok (.ifCond .eq 34, 3) := by decide +kernel
theorem dX6_odds_25 : decode cX6_odds 25 = .ok (.iload_n 3, 1) := by decide +kernel
theorem dX6_odds_26 : decode cX6_odds 26 = .ok (.iconst 0, 1) := by decide +kernel
theorem dX6_odds_27 : decode cX6_odds 27 = .ok (.bipush 9, 2) := by decide +kernel
theorem dX6_odds_29 : decode cX6_odds 29 = .ok (.invokestatic 54, 3) := by decide +kernel
theorem dX6_odds_32 : decode cX6_odds 32 = .ok (.ifCond .eq 24, 3) := by decide +kernel
theorem dX6_odds_35 : decode cX6_odds 35 = .ok (.iload 4, 2) := by decide +kernel
theorem dX6_odds_37 : decode cX6_odds 37 = .ok (.iconst 1, 1) := by decide +kernel
theorem dX6_odds_38 : decode cX6_odds 38 = .ok (.bipush 9, 2) := by decide +kernel
theorem dX6_odds_40 : decode cX6_odds 40 = .ok (.invokestatic 54, 3) := by decide +kernel
theorem dX6_odds_43 : decode cX6_odds 43 = .ok (.ifCond .eq 13, 3) := by decide +kernel
theorem dX6_odds_46 : decode cX6_odds 46 = .ok (.iload 5, 2) := by decide +kernel
theorem dX6_odds_48 : decode cX6_odds 48 = .ok (.iconst 0, 1) := by decide +kernel
theorem dX6_odds_49 : decode cX6_odds 49 = .ok (.iconst 1, 1) := by decide +kernel
theorem dX6_odds_50 : decode cX6_odds 50 = .ok (.invokestatic 54, 3) := by decide +kernel
theorem dX6_odds_53 : decode cX6_odds 53 = .ok (.ifCond .ne 7, 3) := by decide +kernel
theorem dX6_odds_56 : decode cX6_odds 56 = .ok (.ldc2_w 231, 3) := by decide +kernel
theorem dX6_odds_59 : decode cX6_odds 59 = .ok (.lreturn, 1) := by decide +kernel
theorem dX6_odds_60 : decode cX6_odds 60 = .ok (.lconst 0, 1) := by decide +kernel
theorem dX6_odds_61 : decode cX6_odds 61 = .ok (.lstore 6, 2) := by decide +kernel
theorem dX6_odds_63 : decode cX6_odds 63 = .ok (.aload_n 0, 1) := by decide +kernel
theorem dX6_odds_64 : decode cX6_odds 64 = .ok (.iload_n 1, 1) := by decide +kernel
theorem dX6_odds_65 : decode cX6_odds 65 = .ok (.iload_n 2, 1) := by decide +kernel
theorem dX6_odds_66 : decode cX6_odds 66 = .ok (.iload 4, 2) := by decide +kernel
theorem dX6_odds_68 : decode cX6_odds 68 = .ok (.invokevirtual 233, 3) := by decide +kernel
theorem dX6_odds_71 : decode cX6_odds 71 = .ok (.istore 8, 2) := by decide +kernel
theorem dX6_odds_73 : decode cX6_odds 73 = .ok (.iconst 0, 1) := by decide +kernel
theorem dX6_odds_74 : decode cX6_odds 74 = .ok (.istore 9, 2) := by decide +kernel
theorem dX6_odds_76 : decode cX6_odds 76 = .ok (.iload 9, 2) := by decide +kernel
theorem dX6_odds_78 : decode cX6_odds 78 = .ok (.iload 8, 2) := by decide +kernel
theorem dX6_odds_80 : decode cX6_odds 80 = .ok (.if_icmp .gt 39, 3) := by decide +kernel
theorem dX6_odds_83 : decode cX6_odds 83 = .ok (.lload 6, 2) := by decide +kernel
theorem dX6_odds_85 : decode cX6_odds 85 = .ok (.iload_n 2, 1) := by decide +kernel
theorem dX6_odds_86 : decode cX6_odds 86 = .ok (.iload 9, 2) := by decide +kernel
theorem dX6_odds_88 : decode cX6_odds 88 = .ok (.invokestatic 237, 3) := by decide +kernel
theorem dX6_odds_91 : decode cX6_odds 91 = .ok (.iload_n 3, 1) := by decide +kernel
theorem dX6_odds_92 : decode cX6_odds 92 = .ok (.iload 9, 2) := by decide +kernel
theorem dX6_odds_94 : decode cX6_odds 94 = .ok (.invokestatic 240, 3) := by decide +kernel
theorem dX6_odds_97 : decode cX6_odds 97 = .ok (.lmul, 1) := by decide +kernel
theorem dX6_odds_98 : decode cX6_odds 98 = .ok (.bipush 10, 2) := by decide +kernel
theorem dX6_odds_100 : decode cX6_odds 100 = .ok (.iload_n 3, 1) := by decide +kernel
theorem dX6_odds_101 : decode cX6_odds 101 = .ok (.isub, 1) := by decide +kernel
theorem dX6_odds_102 : decode cX6_odds 102 = .ok (.iload_n 2, 1) := by decide +kernel
theorem dX6_odds_103 : decode cX6_odds 103 = .ok (.iload 9, 2) := by decide +kernel
theorem dX6_odds_105 : decode cX6_odds 105 = .ok (.isub, 1) := by decide +kernel
theorem dX6_odds_106 : decode cX6_odds 106 = .ok (.invokestatic 240, 3) := by decide +kernel
theorem dX6_odds_109 : decode cX6_odds 109 = .ok (.lmul, 1) := by decide +kernel
theorem dX6_odds_110 : decode cX6_odds 110 = .ok (.ladd, 1) := by decide +kernel
theorem dX6_odds_111 : decode cX6_odds 111 = .ok (.lstore 6, 2) := by decide +kernel
theorem dX6_odds_113 : decode cX6_odds 113 = .ok (.iinc 9 1, 3) := by decide +kernel
theorem dX6_odds_116 : decode cX6_odds 116 = .ok (.goto (-40), 3) := by decide +kernel
theorem dX6_odds_119 : decode cX6_odds 119 = .ok (.bipush 10, 2) := by decide +kernel
theorem dX6_odds_121 : decode cX6_odds 121 = .ok (.iload_n 2, 1) := by decide +kernel
theorem dX6_odds_122 : decode cX6_odds 122 = .ok (.invokestatic 240, 3) := by decide +kernel
theorem dX6_odds_125 : decode cX6_odds 125 = .ok (.lstore 9, 2) := by decide +kernel
theorem dX6_odds_127 : decode cX6_odds 127 = .ok (.lload 6, 2) := by decide +kernel
theorem dX6_odds_129 : decode cX6_odds 129 = .ok (.lload 9, 2) := by decide +kernel
theorem dX6_odds_131 : decode cX6_odds 131 = .ok (.invokestatic 243, 3) := by decide +kernel
theorem dX6_odds_134 : decode cX6_odds 134 = .ok (.lstore 11, 2) := by decide +kernel
theorem dX6_odds_136 : decode cX6_odds 136 = .ok (.lload 11, 2) := by decide +kernel
theorem dX6_odds_138 : decode cX6_odds 138 = .ok (.lconst 0, 1) := by decide +kernel
theorem dX6_odds_139 : decode cX6_odds 139 = .ok (.lcmp, 1) := by decide +kernel
theorem dX6_odds_140 : decode cX6_odds 140 = .ok (.ifCond .gt 7, 3) := by decide +kernel
theorem dX6_odds_143 : decode cX6_odds 143 = .ok (.ldc2_w 247, 3) := by decide +kernel
theorem dX6_odds_146 : decode cX6_odds 146 = .ok (.lreturn, 1) := by decide +kernel
theorem dX6_odds_147 : decode cX6_odds 147 = .ok (.iload 5, 2) := by decide +kernel
theorem dX6_odds_149 : decode cX6_odds 149 = .ok (.ifCond .ne 8, 3) := by decide +kernel
theorem dX6_odds_152 : decode cX6_odds 152 = .ok (.lload 6, 2) := by decide +kernel
theorem dX6_odds_154 : decode cX6_odds 154 = .ok (.goto 5, 3) := by decide +kernel
theorem dX6_odds_157 : decode cX6_odds 157 = .ok (.lload 9, 2) := by decide +kernel
theorem dX6_odds_159 : decode cX6_odds 159 = .ok (.lload 11, 2) := by decide +kernel
theorem dX6_odds_161 : decode cX6_odds 161 = .ok (.ldiv, 1) := by decide +kernel
theorem dX6_odds_162 : decode cX6_odds 162 = .ok (.lreturn, 1) := by decide +kernel
theorem dX6_thawsOutlasted_0 : decode cX6_thawsOutlasted 0 = .ok (.aload_n 0, 1) := by decide +kernel
theorem dX6_thawsOutlasted_1 : decode cX6_thawsOutlasted 1 = .ok (.getfield 10, 3) := by decide +kernel
theorem dX6_thawsOutlasted_4 : decode cX6_thawsOutlasted 4 = .ok (.getfield 100, 3) := by decide +kernel
theorem dX6_thawsOutlasted_7 : decode cX6_thawsOutlasted 7 = .ok (.iload_n 1, 1) := by decide +kernel
theorem dX6_thawsOutlasted_8 : decode cX6_thawsOutlasted 8 = .ok (.aaload, 1) := by decide +kernel
theorem dX6_thawsOutlasted_9 : decode cX6_thawsOutlasted 9 = .ok (.astore 4, 2) := by decide +kernel
theorem dX6_thawsOutlasted_11 : decode cX6_thawsOutlasted 11 = .ok (.aload 4, 2) := by decide +kernel
theorem dX6_thawsOutlasted_13 : decode cX6_thawsOutlasted 13 = .ok (.getfield 139, 3) := by decide +kernel
theorem dX6_thawsOutlasted_16 : decode cX6_thawsOutlasted 16 = .ok (.ifCond .eq 5, 3) := by decide +kernel
theorem dX6_thawsOutlasted_19 : decode cX6_thawsOutlasted 19 = .ok (.iload_n 2, 1) := by decide +kernel
theorem dX6_thawsOutlasted_20 : decode cX6_thawsOutlasted 20 = .ok (.ireturn, 1) := by decide +kernel
theorem dX6_thawsOutlasted_21 : decode cX6_thawsOutlasted 21 = .ok (.aload_n 0, 1) := by decide +kernel
theorem dX6_thawsOutlasted_22 : decode cX6_thawsOutlasted 22 = .ok (.getfield 10, 3) := by decide +kernel
theorem dX6_thawsOutlasted_25 : decode cX6_thawsOutlasted 25 = .ok (.iload_n 1, 1) := by decide +kernel
theorem dX6_thawsOutlasted_26 : decode cX6_thawsOutlasted 26 = .ok (.invokevirtual 149, 3) := by decide +kernel
theorem dX6_thawsOutlasted_29 : decode cX6_thawsOutlasted 29 = .ok (.istore 5, 2) := by decide +kernel
theorem dX6_thawsOutlasted_31 : decode cX6_thawsOutlasted 31 = .ok (.aload 4, 2) := by decide +kernel
theorem dX6_thawsOutlasted_33 : decode cX6_thawsOutlasted 33 = .ok (.getfield 129, 3) := by decide +kernel
theorem dX6_thawsOutlasted_36 : decode cX6_thawsOutlasted 36 = .ok (.istore 6, 2) := by decide +kernel
theorem dX6_thawsOutlasted_38 : decode cX6_thawsOutlasted 38 = .ok (.iconst (-1), 1) := by decide +kernel
theorem dX6_thawsOutlasted_39 : decode cX6_thawsOutlasted 39 = .ok (.istore 7, 2) := by decide +kernel
theorem dX6_thawsOutlasted_41 : decode cX6_thawsOutlasted 41 = .ok (.iload 6, 2) := by decide +kernel
theorem dX6_thawsOutlasted_43 : decode cX6_thawsOutlasted 43 = .ok (.ifCond .le 39, 3) := by decide +kernel
theorem dX6_thawsOutlasted_46 : decode cX6_thawsOutlasted 46 = .ok (.iload 7, 2) := by decide +kernel
theorem dX6_thawsOutlasted_48 : decode cX6_thawsOutlasted 48 = .ok (.iload_n 2, 1) := by decide +kernel
theorem dX6_thawsOutlasted_49 : decode cX6_thawsOutlasted 49 = .ok (.if_icmp .ge 33, 3) := by decide +kernel
theorem dX6_thawsOutlasted_52 : decode cX6_thawsOutlasted 52 = .ok (.iinc 7 1, 3) := by decide +kernel
theorem dX6_thawsOutlasted_55 : decode cX6_thawsOutlasted 55 = .ok (.iconst 1, 1) := by decide +kernel
theorem dX6_thawsOutlasted_56 : decode cX6_thawsOutlasted 56 = .ok (.iload_n 3, 1) := by decide +kernel
theorem dX6_thawsOutlasted_57 : decode cX6_thawsOutlasted 57 = .ok (.iload 5, 2) := by decide +kernel
theorem dX6_thawsOutlasted_59 : decode cX6_thawsOutlasted 59 = .ok (.invokestatic 249, 3) := by decide +kernel
theorem dX6_thawsOutlasted_62 : decode cX6_thawsOutlasted 62 = .ok (.istore 5, 2) := by decide +kernel
theorem dX6_thawsOutlasted_64 : decode cX6_thawsOutlasted 64 = .ok (.aload 4, 2) := by decide +kernel
theorem dX6_thawsOutlasted_66 : decode cX6_thawsOutlasted 66 = .ok (.getfield 114, 3) := by decide +kernel
theorem dX6_thawsOutlasted_69 : decode cX6_thawsOutlasted 69 = .ok (.iload 6, 2) := by decide +kernel
theorem dX6_thawsOutlasted_71 : decode cX6_thawsOutlasted 71 = .ok (.iload_n 3, 1) := by decide +kernel
theorem dX6_thawsOutlasted_72 : decode cX6_thawsOutlasted 72 = .ok (.iload 5, 2) := by decide +kernel
theorem dX6_thawsOutlasted_74 : decode cX6_thawsOutlasted 74 = .ok (.invokestatic 252, 3) := by decide +kernel
theorem dX6_thawsOutlasted_77 : decode cX6_thawsOutlasted 77 = .ok (.istore 6, 2) := by decide +kernel
theorem dX6_thawsOutlasted_79 : decode cX6_thawsOutlasted 79 = .ok (.goto (-38), 3) := by decide +kernel
theorem dX6_thawsOutlasted_82 : decode cX6_thawsOutlasted 82 = .ok (.iload 7, 2) := by decide +kernel
theorem dX6_thawsOutlasted_84 : decode cX6_thawsOutlasted 84 = .ok (.ireturn, 1) := by decide +kernel
theorem dX6_winter_0 : decode cX6_winter 0 = .ok (.iload_n 1, 1) := by decide +kernel
theorem dX6_winter_1 : decode cX6_winter 1 = .ok (.iconst 1, 1) := by decide +kernel
theorem dX6_winter_2 : decode cX6_winter 2 = .ok (.bipush 60, 2) := by decide +kernel
theorem dX6_winter_4 : decode cX6_winter 4 = .ok (.invokestatic 54, 3) := by decide +kernel
theorem dX6_winter_7 : decode cX6_winter 7 = .ok (.ifCond .eq 16, 3) := by decide +kernel
theorem dX6_winter_10 : decode cX6_winter 10 = .ok (.iload_n 2, 1) := by decide +kernel
theorem dX6_winter_11 : decode cX6_winter 11 = .ok (.ifCond .lt 12, 3) := by decide +kernel
theorem dX6_winter_14 : decode cX6_winter 14 = .ok (.iload_n 3, 1) := by decide +kernel
theorem dX6_winter_15 : decode cX6_winter 15 = .ok (.iconst 0, 1) := by decide +kernel
theorem dX6_winter_16 : decode cX6_winter 16 = .ok (.iconst 2, 1) := by decide +kernel
theorem dX6_winter_17 : decode cX6_winter 17 = .ok (.invokestatic 54, 3) := by decide +kernel
theorem dX6_winter_20 : decode cX6_winter 20 = .ok (.ifCond .ne 6, 3) := by decide +kernel
theorem dX6_winter_23 : decode cX6_winter 23 = .ok (.bipush (-102), 2) := by decide +kernel
theorem dX6_winter_25 : decode cX6_winter 25 = .ok (.ireturn, 1) := by decide +kernel
theorem dX6_winter_26 : decode cX6_winter 26 = .ok (.aload_n 0, 1) := by decide +kernel
theorem dX6_winter_27 : decode cX6_winter 27 = .ok (.getfield 19, 3) := by decide +kernel
theorem dX6_winter_30 : decode cX6_winter 30 = .ok (.aload_n 0, 1) := by decide +kernel
theorem dX6_winter_31 : decode cX6_winter 31 = .ok (.getfield 10, 3) := by decide +kernel
theorem dX6_winter_34 : decode cX6_winter 34 = .ok (.invokevirtual 256, 3) := by decide +kernel
theorem dX6_winter_37 : decode cX6_winter 37 = .ok (.iload_n 2, 1) := by decide +kernel
theorem dX6_winter_38 : decode cX6_winter 38 = .ok (.istore 4, 2) := by decide +kernel
theorem dX6_winter_40 : decode cX6_winter 40 = .ok (.iconst 0, 1) := by decide +kernel
theorem dX6_winter_41 : decode cX6_winter 41 = .ok (.istore 5, 2) := by decide +kernel
theorem dX6_winter_43 : decode cX6_winter 43 = .ok (.iload 5, 2) := by decide +kernel
theorem dX6_winter_45 : decode cX6_winter 45 = .ok (.iload_n 1, 1) := by decide +kernel
theorem dX6_winter_46 : decode cX6_winter 46 = .ok (.if_icmp .ge 68, 3) := by decide +kernel
theorem dX6_winter_49 : decode cX6_winter 49 = .ok (.iload 4, 2) := by decide +kernel
theorem dX6_winter_51 : decode cX6_winter 51 = .ok (.invokestatic 260, 3) := by decide +kernel
theorem dX6_winter_54 : decode cX6_winter 54 = .ok (.istore 4, 2) := by decide +kernel
theorem dX6_winter_56 : decode cX6_winter 56 = .ok (.iload 4, 2) := by decide +kernel
theorem dX6_winter_58 : decode cX6_winter 58 = .ok (.iconst 4, 1) := by decide +kernel
theorem dX6_winter_59 : decode cX6_winter 59 = .ok (.invokestatic 263, 3) := by decide +kernel
theorem dX6_winter_62 : decode cX6_winter 62 = .ok (.istore 6, 2) := by decide +kernel
theorem dX6_winter_64 : decode cX6_winter 64 = .ok (.iconst 0, 1) := by decide +kernel
theorem dX6_winter_65 : decode cX6_winter 65 = .ok (.istore 7, 2) := by decide +kernel
theorem dX6_winter_67 : decode cX6_winter 67 = .ok (.iload 6, 2) := by decide +kernel
theorem dX6_winter_69 : decode cX6_winter 69 = .ok (.ifCond .eq 9, 3) := by decide +kernel
theorem dX6_winter_72 : decode cX6_winter 72 = .ok (.iload 6, 2) := by decide +kernel
theorem dX6_winter_74 : decode cX6_winter 74 = .ok (.iconst 1, 1) := by decide +kernel
theorem dX6_winter_75 : decode cX6_winter 75 = .ok (.if_icmp .ne 21, 3) := by decide +kernel
theorem dX6_winter_78 : decode cX6_winter 78 = .ok (.iload 4, 2) := by decide +kernel
theorem dX6_winter_80 : decode cX6_winter 80 = .ok (.invokestatic 260, 3) := by decide +kernel
theorem dX6_winter_83 : decode cX6_winter 83 = .ok (.istore 4, 2) := by decide +kernel
theorem dX6_winter_85 : decode cX6_winter 85 = .ok (.iload 4, 2) := by decide +kernel
theorem dX6_winter_87 : decode cX6_winter 87 = .ok (.bipush 9, 2) := by decide +kernel
theorem dX6_winter_89 : decode cX6_winter 89 = .ok (.invokestatic 263, 3) := by decide +kernel
theorem dX6_winter_92 : decode cX6_winter 92 = .ok (.iconst 1, 1) := by decide +kernel
theorem dX6_winter_93 : decode cX6_winter 93 = .ok (.iadd, 1) := by decide +kernel
theorem dX6_winter_94 : decode cX6_winter 94 = .ok (.istore 7, 2) := by decide +kernel
theorem dX6_winter_96 : decode cX6_winter 96 = .ok (.aload_n 0, 1) := by decide +kernel
theorem dX6_winter_97 : decode cX6_winter 97 = .ok (.getfield 19, 3) := by decide +kernel
theorem dX6_winter_100 : decode cX6_winter 100 = .ok (.iload 6, 2) := by decide +kernel
theorem dX6_winter_102 : decode cX6_winter 102 = .ok (.iload 7, 2) := by decide +kernel
theorem dX6_winter_104 : decode cX6_winter 104 = .ok (.invokevirtual 180, 3) := by decide +kernel
theorem dX6_winter_107 : decode cX6_winter 107 = .ok (.pop, 1) := by decide +kernel
theorem dX6_winter_108 : decode cX6_winter 108 = .ok (.iinc 5 1, 3) := by decide +kernel
theorem dX6_winter_111 : decode cX6_winter 111 = .ok (.goto (-68), 3) := by decide +kernel
theorem dX6_winter_114 : decode cX6_winter 114 = .ok (.iload_n 3, 1) := by decide +kernel
theorem dX6_winter_115 : decode cX6_winter 115 = .ok (.iconst 2, 1) := by decide +kernel
theorem dX6_winter_116 : decode cX6_winter 116 = .ok (.if_icmp .ne 6, 3) := by decide +kernel
theorem dX6_winter_119 : decode cX6_winter 119 = .ok (.iload 4, 2) := by decide +kernel
theorem dX6_winter_121 : decode cX6_winter 121 = .ok (.ireturn, 1) := by decide +kernel
theorem dX6_winter_122 : decode cX6_winter 122 = .ok (.iload_n 3, 1) := by decide +kernel
theorem dX6_winter_123 : decode cX6_winter 123 = .ok (.ifCond .ne 13, 3) := by decide +kernel
theorem dX6_winter_126 : decode cX6_winter 126 = .ok (.aload_n 0, 1) := by decide +kernel
theorem dX6_winter_127 : decode cX6_winter 127 = .ok (.getfield 19, 3) := by decide +kernel
theorem dX6_winter_130 : decode cX6_winter 130 = .ok (.invokevirtual 266, 3) := by decide +kernel
theorem dX6_winter_133 : decode cX6_winter 133 = .ok (.goto 10, 3) := by decide +kernel
theorem dX6_winter_136 : decode cX6_winter 136 = .ok (.aload_n 0, 1) := by decide +kernel
theorem dX6_winter_137 : decode cX6_winter 137 = .ok (.getfield 19, 3) := by decide +kernel
theorem dX6_winter_140 : decode cX6_winter 140 = .ok (.invokevirtual 269, 3) := by decide +kernel
theorem dX6_winter_143 : decode cX6_winter 143 = .ok (.ireturn, 1) := by decide +kernel
theorem dX6_nextSeed_0 : decode cX6_nextSeed 0 = .ok (.ldc2_w 272, 3) := by decide +kernel
theorem dX6_nextSeed_3 : decode cX6_nextSeed 3 = .ok (.iload_n 0, 1) := by decide +kernel
theorem dX6_nextSeed_4 : decode cX6_nextSeed 4 = .ok (.i2l, 1) := by decide +kernel
theorem dX6_nextSeed_5 : decode cX6_nextSeed 5 = .ok (.lmul, 1) := by decide +kernel
theorem dX6_nextSeed_6 : decode cX6_nextSeed 6 = .ok (.ldc2_w 274, 3) := by decide +kernel
theorem dX6_nextSeed_9 : decode cX6_nextSeed 9 = .ok (.ladd, 1) := by decide +kernel
theorem dX6_nextSeed_10 : decode cX6_nextSeed 10 = .ok (.ldc2_w 276, 3) := by decide +kernel
theorem dX6_nextSeed_13 : decode cX6_nextSeed 13 = .ok (.land, 1) := by decide +kernel
theorem dX6_nextSeed_14 : decode cX6_nextSeed 14 = .ok (.l2i, 1) := by decide +kernel
theorem dX6_nextSeed_15 : decode cX6_nextSeed 15 = .ok (.ireturn, 1) := by decide +kernel
theorem dX6_drawFrom_0 : decode cX6_drawFrom 0 = .ok (.iload_n 1, 1) := by decide +kernel
theorem dX6_drawFrom_1 : decode cX6_drawFrom 1 = .ok (.ifCond .le 12, 3) := by decide +kernel
theorem dX6_drawFrom_4 : decode cX6_drawFrom 4 = .ok (.iload_n 0, 1) := by decide +kernel
theorem dX6_drawFrom_5 : decode cX6_drawFrom 5 = .ok (.bipush 16, 2) := by decide +kernel
theorem dX6_drawFrom_7 : decode cX6_drawFrom 7 = .ok (.ishr, 1) := by decide +kernel
theorem dX6_drawFrom_8 : decode cX6_drawFrom 8 = .ok (.iload_n 1, 1) := by decide +kernel
theorem dX6_drawFrom_9 : decode cX6_drawFrom 9 = .ok (.irem, 1) := by decide +kernel
theorem dX6_drawFrom_10 : decode cX6_drawFrom 10 = .ok (.goto 4, 3) := by decide +kernel
theorem dX6_drawFrom_13 : decode cX6_drawFrom 13 = .ok (.iconst 0, 1) := by decide +kernel
theorem dX6_drawFrom_14 : decode cX6_drawFrom 14 = .ok (.ireturn, 1) := by decide +kernel
theorem dX6_image_0 : decode cX6_image 0 = .ok (.aload_n 0, 1) := by decide +kernel
theorem dX6_image_1 : decode cX6_image 1 = .ok (.getfield 16, 3) := by decide +kernel
theorem dX6_image_4 : decode cX6_image 4 = .ok (.aload_n 0, 1) := by decide +kernel
theorem dX6_image_5 : decode cX6_image 5 = .ok (.getfield 10, 3) := by decide +kernel
theorem dX6_image_8 : decode cX6_image 8 = .ok (.invokevirtual 256, 3) := by decide +kernel
theorem dX6_image_11 : decode cX6_image 11 = .ok (.aload_n 0, 1) := by decide +kernel
theorem dX6_image_12 : decode cX6_image 12 = .ok (.iconst 1, 1) := by decide +kernel
theorem dX6_image_13 : decode cX6_image 13 = .ok (.putfield 58, 3) := by decide +kernel
theorem dX6_image_16 : decode cX6_image 16 = .ok (.aload_n 0, 1) := by decide +kernel
theorem dX6_image_17 : decode cX6_image 17 = .ok (.getfield 10, 3) := by decide +kernel
theorem dX6_image_20 : decode cX6_image 20 = .ok (.getfield 97, 3) := by decide +kernel
theorem dX6_image_23 : decode cX6_image 23 = .ok (.ireturn, 1) := by decide +kernel
theorem dX6_restore_0 : decode cX6_restore 0 = .ok (.aload_n 0, 1) := by decide +kernel
theorem dX6_restore_1 : decode cX6_restore 1 = .ok (.getfield 58, 3) := by decide +kernel
theorem dX6_restore_4 : decode cX6_restore 4 = .ok (.ifCond .ne 6, 3) := by decide +kernel
theorem dX6_restore_7 : decode cX6_restore 7 = .ok (.bipush (-103), 2) := by decide +kernel
theorem dX6_restore_9 : decode cX6_restore 9 = .ok (.ireturn, 1) := by decide +kernel
theorem dX6_restore_10 : decode cX6_restore 10 = .ok (.aload_n 0, 1) := by decide +kernel
theorem dX6_restore_11 : decode cX6_restore 11 = .ok (.getfield 10, 3) := by decide +kernel
theorem dX6_restore_14 : decode cX6_restore 14 = .ok (.aload_n 0, 1) := by decide +kernel
theorem dX6_restore_15 : decode cX6_restore 15 = .ok (.getfield 16, 3) := by decide +kernel
theorem dX6_restore_18 : decode cX6_restore 18 = .ok (.invokevirtual 256, 3) := by decide +kernel
theorem dX6_restore_21 : decode cX6_restore 21 = .ok (.aload_n 0, 1) := by decide +kernel
theorem dX6_restore_22 : decode cX6_restore 22 = .ok (.getfield 10, 3) := by decide +kernel
theorem dX6_restore_25 : decode cX6_restore 25 = .ok (.getfield 97, 3) := by decide +kernel
theorem dX6_restore_28 : decode cX6_restore 28 = .ok (.ireturn, 1) := by decide +kernel
theorem dX6_count_0 : decode cX6_count 0 = .ok (.iload_n 1, 1) := by decide +kernel
theorem dX6_count_1 : decode cX6_count 1 = .ok (.tableswitch 84 0 5 #[39, 47, 55, 63, 71, 79], 39) := by decide +kernel
theorem dX6_count_40 : decode cX6_count 40 = .ok (.aload_n 0, 1) := by decide +kernel
theorem dX6_count_41 : decode cX6_count 41 = .ok (.getfield 10, 3) := by decide +kernel
theorem dX6_count_44 : decode cX6_count 44 = .ok (.getfield 62, 3) := by decide +kernel
theorem dX6_count_47 : decode cX6_count 47 = .ok (.ireturn, 1) := by decide +kernel
theorem dX6_count_48 : decode cX6_count 48 = .ok (.aload_n 0, 1) := by decide +kernel
theorem dX6_count_49 : decode cX6_count 49 = .ok (.getfield 10, 3) := by decide +kernel
theorem dX6_count_52 : decode cX6_count 52 = .ok (.getfield 97, 3) := by decide +kernel
theorem dX6_count_55 : decode cX6_count 55 = .ok (.ireturn, 1) := by decide +kernel
theorem dX6_count_56 : decode cX6_count 56 = .ok (.aload_n 0, 1) := by decide +kernel
theorem dX6_count_57 : decode cX6_count 57 = .ok (.getfield 10, 3) := by decide +kernel
theorem dX6_count_60 : decode cX6_count 60 = .ok (.invokevirtual 266, 3) := by decide +kernel
theorem dX6_count_63 : decode cX6_count 63 = .ok (.ireturn, 1) := by decide +kernel
theorem dX6_count_64 : decode cX6_count 64 = .ok (.aload_n 0, 1) := by decide +kernel
theorem dX6_count_65 : decode cX6_count 65 = .ok (.getfield 10, 3) := by decide +kernel
theorem dX6_count_68 : decode cX6_count 68 = .ok (.getfield 183, 3) := by decide +kernel
theorem dX6_count_71 : decode cX6_count 71 = .ok (.ireturn, 1) := by decide +kernel
theorem dX6_count_72 : decode cX6_count 72 = .ok (.aload_n 0, 1) := by decide +kernel
theorem dX6_count_73 : decode cX6_count 73 = .ok (.getfield 25, 3) := by decide +kernel
theorem dX6_count_76 : decode cX6_count 76 = .ok (.getfield 160, 3) := by decide +kernel
theorem dX6_count_79 : decode cX6_count 79 = .ok (.ireturn, 1) := by decide +kernel
theorem dX6_count_80 : decode cX6_count 80 = .ok (.aload_n 0, 1) := by decide +kernel
theorem dX6_count_81 : decode cX6_count 81 = .ok (.getfield 202, 3) := by decide +kernel
theorem dX6_count_84 : decode cX6_count 84 = .ok (.ireturn, 1) := by decide +kernel
theorem dX6_count_85 : decode cX6_count 85 = .ok (.bipush (-102), 2) := by decide +kernel
theorem dX6_count_87 : decode cX6_count 87 = .ok (.ireturn, 1) := by decide +kernel
theorem dX6_digest_0 : decode cX6_digest 0 = .ok (.ldc2_w 278, 3) := by decide +kernel
theorem dX6_digest_3 : decode cX6_digest 3 = .ok (.lstore_n 1, 1) := by decide +kernel
theorem dX6_digest_4 : decode cX6_digest 4 = .ok (.iconst 0, 1) := by decide +kernel
theorem dX6_digest_5 : decode cX6_digest 5 = .ok (.istore_n 3, 1) := by decide +kernel
theorem dX6_digest_6 : decode cX6_digest 6 = .ok (.iload_n 3, 1) := by decide +kernel
theorem dX6_digest_7 : decode cX6_digest 7 = .ok (.aload_n 0, 1) := by decide +kernel
theorem dX6_digest_8 : decode cX6_digest 8 = .ok (.getfield 10, 3) := by decide +kernel
theorem dX6_digest_11 : decode cX6_digest 11 = .ok (.getfield 62, 3) := by decide +kernel
theorem dX6_digest_14 : decode cX6_digest 14 = .ok (.if_icmp .ge 39, 3) := by decide +kernel
theorem dX6_digest_17 : decode cX6_digest 17 = .ok (.iconst 0, 1) := by decide +kernel
theorem dX6_digest_18 : decode cX6_digest 18 = .ok (.istore 4, 2) := by decide +kernel
theorem dX6_digest_20 : decode cX6_digest 20 = .ok (.iload 4, 2) := by decide +kernel
theorem dX6_digest_22 : decode cX6_digest 22 = .ok (.iconst 3, 1) := by decide +kernel
theorem dX6_digest_23 : decode cX6_digest 23 = .ok (.if_icmp .gt 24, 3) := by decide +kernel
theorem dX6_digest_26 : decode cX6_digest 26 = .ok (.ldc2_w 280, 3) := by decide +kernel
theorem dX6_digest_29 : decode cX6_digest 29 = .ok (.lload_n 1, 1) := by decide +kernel
theorem dX6_digest_30 : decode cX6_digest 30 = .ok (.lmul, 1) := by decide +kernel
theorem dX6_digest_31 : decode cX6_digest 31 = .ok (.aload_n 0, 1) := by decide +kernel
theorem dX6_digest_32 : decode cX6_digest 32 = .ok (.iload_n 3, 1) := by decide +kernel
theorem dX6_digest_33 : decode cX6_digest 33 = .ok (.iload 4, 2) := by decide +kernel
theorem dX6_digest_35 : decode cX6_digest 35 = .ok (.invokevirtual 282, 3) := by decide +kernel
theorem dX6_digest_38 : decode cX6_digest 38 = .ok (.i2l, 1) := by decide +kernel
theorem dX6_digest_39 : decode cX6_digest 39 = .ok (.ladd, 1) := by decide +kernel
theorem dX6_digest_40 : decode cX6_digest 40 = .ok (.lstore_n 1, 1) := by decide +kernel
theorem dX6_digest_41 : decode cX6_digest 41 = .ok (.iinc 4 1, 3) := by decide +kernel
theorem dX6_digest_44 : decode cX6_digest 44 = .ok (.goto (-24), 3) := by decide +kernel
theorem dX6_digest_47 : decode cX6_digest 47 = .ok (.iinc 3 1, 3) := by decide +kernel
theorem dX6_digest_50 : decode cX6_digest 50 = .ok (.goto (-44), 3) := by decide +kernel
theorem dX6_digest_53 : decode cX6_digest 53 = .ok (.iconst 0, 1) := by decide +kernel
theorem dX6_digest_54 : decode cX6_digest 54 = .ok (.istore_n 3, 1) := by decide +kernel
theorem dX6_digest_55 : decode cX6_digest 55 = .ok (.iload_n 3, 1) := by decide +kernel
theorem dX6_digest_56 : decode cX6_digest 56 = .ok (.aload_n 0, 1) := by decide +kernel
theorem dX6_digest_57 : decode cX6_digest 57 = .ok (.getfield 10, 3) := by decide +kernel
theorem dX6_digest_60 : decode cX6_digest 60 = .ok (.getfield 97, 3) := by decide +kernel
theorem dX6_digest_63 : decode cX6_digest 63 = .ok (.if_icmp .ge 40, 3) := by decide +kernel
theorem dX6_digest_66 : decode cX6_digest 66 = .ok (.iconst 0, 1) := by decide +kernel
theorem dX6_digest_67 : decode cX6_digest 67 = .ok (.istore 4, 2) := by decide +kernel
theorem dX6_digest_69 : decode cX6_digest 69 = .ok (.iload 4, 2) := by decide +kernel
theorem dX6_digest_71 : decode cX6_digest 71 = .ok (.bipush 7, 2) := by decide +kernel
theorem dX6_digest_73 : decode cX6_digest 73 = .ok (.if_icmp .gt 24, 3) := by decide +kernel
theorem dX6_digest_76 : decode cX6_digest 76 = .ok (.ldc2_w 280, 3) := by decide +kernel
theorem dX6_digest_79 : decode cX6_digest 79 = .ok (.lload_n 1, 1) := by decide +kernel
theorem dX6_digest_80 : decode cX6_digest 80 = .ok (.lmul, 1) := by decide +kernel
theorem dX6_digest_81 : decode cX6_digest 81 = .ok (.aload_n 0, 1) := by decide +kernel
theorem dX6_digest_82 : decode cX6_digest 82 = .ok (.iload_n 3, 1) := by decide +kernel
theorem dX6_digest_83 : decode cX6_digest 83 = .ok (.iload 4, 2) := by decide +kernel
theorem dX6_digest_85 : decode cX6_digest 85 = .ok (.invokevirtual 285, 3) := by decide +kernel
theorem dX6_digest_88 : decode cX6_digest 88 = .ok (.i2l, 1) := by decide +kernel
theorem dX6_digest_89 : decode cX6_digest 89 = .ok (.ladd, 1) := by decide +kernel
theorem dX6_digest_90 : decode cX6_digest 90 = .ok (.lstore_n 1, 1) := by decide +kernel
theorem dX6_digest_91 : decode cX6_digest 91 = .ok (.iinc 4 1, 3) := by decide +kernel
theorem dX6_digest_94 : decode cX6_digest 94 = .ok (.goto (-25), 3) := by decide +kernel
theorem dX6_digest_97 : decode cX6_digest 97 = .ok (.iinc 3 1, 3) := by decide +kernel
theorem dX6_digest_100 : decode cX6_digest 100 = .ok (.goto (-45), 3) := by decide +kernel
theorem dX6_digest_103 : decode cX6_digest 103 = .ok (.iconst 0, 1) := by decide +kernel
theorem dX6_digest_104 : decode cX6_digest 104 = .ok (.istore_n 3, 1) := by decide +kernel
theorem dX6_digest_105 : decode cX6_digest 105 = .ok (.iload_n 3, 1) := by decide +kernel
theorem dX6_digest_106 : decode cX6_digest 106 = .ok (.bipush 6, 2) := by decide +kernel
theorem dX6_digest_108 : decode cX6_digest 108 = .ok (.if_icmp .ge 22, 3) := by decide +kernel
theorem dX6_digest_111 : decode cX6_digest 111 = .ok (.ldc2_w 280, 3) := by decide +kernel
theorem dX6_digest_114 : decode cX6_digest 114 = .ok (.lload_n 1, 1) := by decide +kernel
theorem dX6_digest_115 : decode cX6_digest 115 = .ok (.lmul, 1) := by decide +kernel
theorem dX6_digest_116 : decode cX6_digest 116 = .ok (.aload_n 0, 1) := by decide +kernel
theorem dX6_digest_117 : decode cX6_digest 117 = .ok (.iload_n 3, 1) := by decide +kernel
theorem dX6_digest_118 : decode cX6_digest 118 = .ok (.invokevirtual 288, 3) := by decide +kernel
theorem dX6_digest_121 : decode cX6_digest 121 = .ok (.i2l, 1) := by decide +kernel
theorem dX6_digest_122 : decode cX6_digest 122 = .ok (.ladd, 1) := by decide +kernel
theorem dX6_digest_123 : decode cX6_digest 123 = .ok (.lstore_n 1, 1) := by decide +kernel
theorem dX6_digest_124 : decode cX6_digest 124 = .ok (.iinc 3 1, 3) := by decide +kernel
theorem dX6_digest_127 : decode cX6_digest 127 = .ok (.goto (-22), 3) := by decide +kernel
theorem dX6_digest_130 : decode cX6_digest 130 = .ok (.ldc2_w 280, 3) := by decide +kernel
theorem dX6_digest_133 : decode cX6_digest 133 = .ok (.lload_n 1, 1) := by decide +kernel
theorem dX6_digest_134 : decode cX6_digest 134 = .ok (.lmul, 1) := by decide +kernel
theorem dX6_digest_135 : decode cX6_digest 135 = .ok (.aload_n 0, 1) := by decide +kernel
theorem dX6_digest_136 : decode cX6_digest 136 = .ok (.iconst 0, 1) := by decide +kernel
theorem dX6_digest_137 : decode cX6_digest 137 = .ok (.invokevirtual 291, 3) := by decide +kernel
theorem dX6_digest_140 : decode cX6_digest 140 = .ok (.i2l, 1) := by decide +kernel
theorem dX6_digest_141 : decode cX6_digest 141 = .ok (.ladd, 1) := by decide +kernel
theorem dX6_digest_142 : decode cX6_digest 142 = .ok (.lstore_n 1, 1) := by decide +kernel
theorem dX6_digest_143 : decode cX6_digest 143 = .ok (.ldc2_w 280, 3) := by decide +kernel
theorem dX6_digest_146 : decode cX6_digest 146 = .ok (.lload_n 1, 1) := by decide +kernel
theorem dX6_digest_147 : decode cX6_digest 147 = .ok (.lmul, 1) := by decide +kernel
theorem dX6_digest_148 : decode cX6_digest 148 = .ok (.aload_n 0, 1) := by decide +kernel
theorem dX6_digest_149 : decode cX6_digest 149 = .ok (.iconst 1, 1) := by decide +kernel
theorem dX6_digest_150 : decode cX6_digest 150 = .ok (.invokevirtual 291, 3) := by decide +kernel
theorem dX6_digest_153 : decode cX6_digest 153 = .ok (.i2l, 1) := by decide +kernel
theorem dX6_digest_154 : decode cX6_digest 154 = .ok (.ladd, 1) := by decide +kernel
theorem dX6_digest_155 : decode cX6_digest 155 = .ok (.lstore_n 1, 1) := by decide +kernel
theorem dX6_digest_156 : decode cX6_digest 156 = .ok (.ldc2_w 280, 3) := by decide +kernel
theorem dX6_digest_159 : decode cX6_digest 159 = .ok (.lload_n 1, 1) := by decide +kernel
theorem dX6_digest_160 : decode cX6_digest 160 = .ok (.lmul, 1) := by decide +kernel
theorem dX6_digest_161 : decode cX6_digest 161 = .ok (.aload_n 0, 1) := by decide +kernel
theorem dX6_digest_162 : decode cX6_digest 162 = .ok (.iconst 0, 1) := by decide +kernel
theorem dX6_digest_163 : decode cX6_digest 163 = .ok (.aload_n 0, 1) := by decide +kernel
theorem dX6_digest_164 : decode cX6_digest 164 = .ok (.getfield 10, 3) := by decide +kernel
theorem dX6_digest_167 : decode cX6_digest 167 = .ok (.getfield 62, 3) := by decide +kernel
theorem dX6_digest_170 : decode cX6_digest 170 = .ok (.iconst 1, 1) := by decide +kernel
theorem dX6_digest_171 : decode cX6_digest 171 = .ok (.isub, 1) := by decide +kernel
theorem dX6_digest_172 : decode cX6_digest 172 = .ok (.iconst 0, 1) := by decide +kernel
theorem dX6_digest_173 : decode cX6_digest 173 = .ok (.invokevirtual 294, 3) := by decide +kernel
theorem dX6_digest_176 : decode cX6_digest 176 = .ok (.i2l, 1) := by decide +kernel
theorem dX6_digest_177 : decode cX6_digest 177 = .ok (.ladd, 1) := by decide +kernel
theorem dX6_digest_178 : decode cX6_digest 178 = .ok (.lstore_n 1, 1) := by decide +kernel
theorem dX6_digest_179 : decode cX6_digest 179 = .ok (.ldc2_w 280, 3) := by decide +kernel
theorem dX6_digest_182 : decode cX6_digest 182 = .ok (.lload_n 1, 1) := by decide +kernel
theorem dX6_digest_183 : decode cX6_digest 183 = .ok (.lmul, 1) := by decide +kernel
theorem dX6_digest_184 : decode cX6_digest 184 = .ok (.aload_n 0, 1) := by decide +kernel
theorem dX6_digest_185 : decode cX6_digest 185 = .ok (.iconst 0, 1) := by decide +kernel
theorem dX6_digest_186 : decode cX6_digest 186 = .ok (.aload_n 0, 1) := by decide +kernel
theorem dX6_digest_187 : decode cX6_digest 187 = .ok (.getfield 10, 3) := by decide +kernel
theorem dX6_digest_190 : decode cX6_digest 190 = .ok (.getfield 62, 3) := by decide +kernel
theorem dX6_digest_193 : decode cX6_digest 193 = .ok (.iconst 1, 1) := by decide +kernel
theorem dX6_digest_194 : decode cX6_digest 194 = .ok (.isub, 1) := by decide +kernel
theorem dX6_digest_195 : decode cX6_digest 195 = .ok (.iconst 1, 1) := by decide +kernel
theorem dX6_digest_196 : decode cX6_digest 196 = .ok (.invokevirtual 294, 3) := by decide +kernel
theorem dX6_digest_199 : decode cX6_digest 199 = .ok (.i2l, 1) := by decide +kernel
theorem dX6_digest_200 : decode cX6_digest 200 = .ok (.ladd, 1) := by decide +kernel
theorem dX6_digest_201 : decode cX6_digest 201 = .ok (.lstore_n 1, 1) := by decide +kernel
theorem dX6_digest_202 : decode cX6_digest 202 = .ok (.iconst 0, 1) := by decide +kernel
theorem dX6_digest_203 : decode cX6_digest 203 = .ok (.istore_n 3, 1) := by decide +kernel
theorem dX6_digest_204 : decode cX6_digest 204 = .ok (.iload_n 3, 1) := by decide +kernel
theorem dX6_digest_205 : decode cX6_digest 205 = .ok (.aload_n 0, 1) := by decide +kernel
theorem dX6_digest_206 : decode cX6_digest 206 = .ok (.getfield 25, 3) := by decide +kernel
theorem dX6_digest_209 : decode cX6_digest 209 = .ok (.getfield 160, 3) := by decide +kernel
theorem dX6_digest_212 : decode cX6_digest 212 = .ok (.if_icmp .ge 26, 3) := by decide +kernel
theorem dX6_digest_215 : decode cX6_digest 215 = .ok (.ldc2_w 280, 3) := by decide +kernel
theorem dX6_digest_218 : decode cX6_digest 218 = .ok (.lload_n 1, 1) := by decide +kernel
theorem dX6_digest_219 : decode cX6_digest 219 = .ok (.lmul, 1) := by decide +kernel
theorem dX6_digest_220 : decode cX6_digest 220 = .ok (.aload_n 0, 1) := by decide +kernel
theorem dX6_digest_221 : decode cX6_digest 221 = .ok (.getfield 25, 3) := by decide +kernel
theorem dX6_digest_224 : decode cX6_digest 224 = .ok (.getfield 297, 3) := by decide +kernel
theorem dX6_digest_227 : decode cX6_digest 227 = .ok (.iload_n 3, 1) := by decide +kernel
theorem dX6_digest_228 : decode cX6_digest 228 = .ok (.iaload, 1) := by decide +kernel
theorem dX6_digest_229 : decode cX6_digest 229 = .ok (.i2l, 1) := by decide +kernel
theorem dX6_digest_230 : decode cX6_digest 230 = .ok (.ladd, 1) := by decide +kernel
theorem dX6_digest_231 : decode cX6_digest 231 = .ok (.lstore_n 1, 1) := by decide +kernel
theorem dX6_digest_232 : decode cX6_digest 232 = .ok (.iinc 3 1, 3) := by decide +kernel
theorem dX6_digest_235 : decode cX6_digest 235 = .ok (.goto (-31), 3) := by decide +kernel
theorem dX6_digest_238 : decode cX6_digest 238 = .ok (.iconst 0, 1) := by decide +kernel
theorem dX6_digest_239 : decode cX6_digest 239 = .ok (.istore_n 3, 1) := by decide +kernel
theorem dX6_digest_240 : decode cX6_digest 240 = .ok (.iload_n 3, 1) := by decide +kernel
theorem dX6_digest_241 : decode cX6_digest 241 = .ok (.iconst 5, 1) := by decide +kernel
theorem dX6_digest_242 : decode cX6_digest 242 = .ok (.if_icmp .gt 22, 3) := by decide +kernel
theorem dX6_digest_245 : decode cX6_digest 245 = .ok (.ldc2_w 280, 3) := by decide +kernel
theorem dX6_digest_248 : decode cX6_digest 248 = .ok (.lload_n 1, 1) := by decide +kernel
theorem dX6_digest_249 : decode cX6_digest 249 = .ok (.lmul, 1) := by decide +kernel
theorem dX6_digest_250 : decode cX6_digest 250 = .ok (.aload_n 0, 1) := by decide +kernel
theorem dX6_digest_251 : decode cX6_digest 251 = .ok (.iload_n 3, 1) := by decide +kernel
theorem dX6_digest_252 : decode cX6_digest 252 = .ok (.invokevirtual 300, 3) := by decide +kernel
theorem dX6_digest_255 : decode cX6_digest 255 = .ok (.i2l, 1) := by decide +kernel
theorem dX6_digest_256 : decode cX6_digest 256 = .ok (.ladd, 1) := by decide +kernel
theorem dX6_digest_257 : decode cX6_digest 257 = .ok (.lstore_n 1, 1) := by decide +kernel
theorem dX6_digest_258 : decode cX6_digest 258 = .ok (.iinc 3 1, 3) := by decide +kernel
theorem dX6_digest_261 : decode cX6_digest 261 = .ok (.goto (-21), 3) := by decide +kernel
theorem dX6_digest_264 : decode cX6_digest 264 = .ok (.lload_n 1, 1) := by decide +kernel
theorem dX6_digest_265 : decode cX6_digest 265 = .ok (.lreturn, 1) := by decide +kernel
theorem dX6_within_0 : decode cX6_within 0 = .ok (.iload_n 0, 1) := by decide +kernel
theorem dX6_within_1 : decode cX6_within 1 = .ok (.iload_n 1, 1) := by decide +kernel
theorem dX6_within_2 : decode cX6_within 2 = .ok (.if_icmp .lt 12, 3) := by decide +kernel
theorem dX6_within_5 : decode cX6_within 5 = .ok (.iload_n 0, 1) := by decide +kernel
theorem dX6_within_6 : decode cX6_within 6 = .ok (.iload_n 2, 1) := by decide +kernel
theorem dX6_within_7 : decode cX6_within 7 = .ok (.if_icmp .gt 7, 3) := by decide +kernel
theorem dX6_within_10 : decode cX6_within 10 = .ok (.iconst 1, 1) := by decide +kernel
theorem dX6_within_11 : decode cX6_within 11 = .ok (.goto 4, 3) := by decide +kernel
theorem dX6_within_14 : decode cX6_within 14 = .ok (.iconst 0, 1) := by decide +kernel
theorem dX6_within_15 : decode cX6_within 15 = .ok (.ireturn, 1) := by decide +kernel
theorem dX6_isKind_0 : decode cX6_isKind 0 = .ok (.iload_n 0, 1) := by decide +kernel
theorem dX6_isKind_1 : decode cX6_isKind 1 = .ok (.iconst 0, 1) := by decide +kernel
theorem dX6_isKind_2 : decode cX6_isKind 2 = .ok (.iconst 4, 1) := by decide +kernel
theorem dX6_isKind_3 : decode cX6_isKind 3 = .ok (.invokestatic 54, 3) := by decide +kernel
theorem dX6_isKind_6 : decode cX6_isKind 6 = .ok (.ireturn, 1) := by decide +kernel
theorem dX6_isPerson_0 : decode cX6_isPerson 0 = .ok (.iload_n 0, 1) := by decide +kernel
theorem dX6_isPerson_1 : decode cX6_isPerson 1 = .ok (.iconst 0, 1) := by decide +kernel
theorem dX6_isPerson_2 : decode cX6_isPerson 2 = .ok (.iconst 5, 1) := by decide +kernel
theorem dX6_isPerson_3 : decode cX6_isPerson 3 = .ok (.invokestatic 54, 3) := by decide +kernel
theorem dX6_isPerson_6 : decode cX6_isPerson 6 = .ok (.ireturn, 1) := by decide +kernel
theorem dX6_arePair_0 : decode cX6_arePair 0 = .ok (.iload_n 0, 1) := by decide +kernel
theorem dX6_arePair_1 : decode cX6_arePair 1 = .ok (.invokestatic 195, 3) := by decide +kernel
theorem dX6_arePair_4 : decode cX6_arePair 4 = .ok (.ifCond .eq 19, 3) := by decide +kernel
theorem dX6_arePair_7 : decode cX6_arePair 7 = .ok (.iload_n 1, 1) := by decide +kernel
theorem dX6_arePair_8 : decode cX6_arePair 8 = .ok (.invokestatic 195, 3) := by decide +kernel
theorem dX6_arePair_11 : decode cX6_arePair 11 = .ok (.ifCond .eq 12, 3) := by decide +kernel
theorem dX6_arePair_14 : decode cX6_arePair 14 = .ok (.iload_n 0, 1) := by decide +kernel
theorem dX6_arePair_15 : decode cX6_arePair 15 = .ok (.iload_n 1, 1) := by decide +kernel
theorem dX6_arePair_16 : decode cX6_arePair 16 = .ok (.if_icmp .eq 7, 3) := by decide +kernel
theorem dX6_arePair_19 : decode cX6_arePair 19 = .ok (.iconst 1, 1) := by decide +kernel
theorem dX6_arePair_20 : decode cX6_arePair 20 = .ok (.goto 4, 3) := by decide +kernel
theorem dX6_arePair_23 : decode cX6_arePair 23 = .ok (.iconst 0, 1) := by decide +kernel
theorem dX6_arePair_24 : decode cX6_arePair 24 = .ok (.ireturn, 1) := by decide +kernel
theorem dX6_iceBehind_0 : decode cX6_iceBehind 0 = .ok (.iload_n 0, 1) := by decide +kernel
theorem dX6_iceBehind_1 : decode cX6_iceBehind 1 = .ok (.ifCond .ne 12, 3) := by decide +kernel
theorem dX6_iceBehind_4 : decode cX6_iceBehind 4 = .ok (.bipush 99, 2) := by decide +kernel
theorem dX6_iceBehind_6 : decode cX6_iceBehind 6 = .ok (.iload_n 2, 1) := by decide +kernel
theorem dX6_iceBehind_7 : decode cX6_iceBehind 7 = .ok (.iload_n 1, 1) := by decide +kernel
theorem dX6_iceBehind_8 : decode cX6_iceBehind 8 = .ok (.iadd, 1) := by decide +kernel
theorem dX6_iceBehind_9 : decode cX6_iceBehind 9 = .ok (.invokestatic 303, 3) := by decide +kernel
theorem dX6_iceBehind_12 : decode cX6_iceBehind 12 = .ok (.ireturn, 1) := by decide +kernel
theorem dX6_iceBehind_13 : decode cX6_iceBehind 13 = .ok (.iload_n 0, 1) := by decide +kernel
theorem dX6_iceBehind_14 : decode cX6_iceBehind 14 = .ok (.iconst 1, 1) := by decide +kernel
theorem dX6_iceBehind_15 : decode cX6_iceBehind 15 = .ok (.if_icmp .ne 13, 3) := by decide +kernel
theorem dX6_iceBehind_18 : decode cX6_iceBehind 18 = .ok (.iconst 0, 1) := by decide +kernel
theorem dX6_iceBehind_19 : decode cX6_iceBehind 19 = .ok (.iload_n 2, 1) := by decide +kernel
theorem dX6_iceBehind_20 : decode cX6_iceBehind 20 = .ok (.iload_n 1, 1) := by decide +kernel
theorem dX6_iceBehind_21 : decode cX6_iceBehind 21 = .ok (.isub, 1) := by decide +kernel
theorem dX6_iceBehind_22 : decode cX6_iceBehind 22 = .ok (.invokestatic 308, 3) := by decide +kernel
theorem dX6_iceBehind_25 : decode cX6_iceBehind 25 = .ok (.goto 4, 3) := by decide +kernel
theorem dX6_iceBehind_28 : decode cX6_iceBehind 28 = .ok (.iload_n 2, 1) := by decide +kernel
theorem dX6_iceBehind_29 : decode cX6_iceBehind 29 = .ok (.ireturn, 1) := by decide +kernel
theorem dX6_power_0 : decode cX6_power 0 = .ok (.lconst 1, 1) := by decide +kernel
theorem dX6_power_1 : decode cX6_power 1 = .ok (.lstore_n 2, 1) := by decide +kernel
theorem dX6_power_2 : decode cX6_power 2 = .ok (.iconst 0, 1) := by decide +kernel
theorem dX6_power_3 : decode cX6_power 3 = .ok (.istore 4, 2) := by decide +kernel
theorem dX6_power_5 : decode cX6_power 5 = .ok (.iload 4, 2) := by decide +kernel
theorem dX6_power_7 : decode cX6_power 7 = .ok (.iload_n 1, 1) := by decide +kernel
theorem dX6_power_8 : decode cX6_power 8 = .ok (.if_icmp .ge 14, 3) := by decide +kernel
theorem dX6_power_11 : decode cX6_power 11 = .ok (.lload_n 2, 1) := by decide +kernel
theorem dX6_power_12 : decode cX6_power 12 = .ok (.iload_n 0, 1) := by decide +kernel
theorem dX6_power_13 : decode cX6_power 13 = .ok (.i2l, 1) := by decide +kernel
theorem dX6_power_14 : decode cX6_power 14 = .ok (.lmul, 1) := by decide +kernel
theorem dX6_power_15 : decode cX6_power 15 = .ok (.lstore_n 2, 1) := by decide +kernel
theorem dX6_power_16 : decode cX6_power 16 = .ok (.iinc 4 1, 3) := by decide +kernel
theorem dX6_power_19 : decode cX6_power 19 = .ok (.goto (-14), 3) := by decide +kernel
theorem dX6_power_22 : decode cX6_power 22 = .ok (.lload_n 2, 1) := by decide +kernel
theorem dX6_power_23 : decode cX6_power 23 = .ok (.lreturn, 1) := by decide +kernel
theorem dX6_choose_0 : decode cX6_choose 0 = .ok (.lconst 1, 1) := by decide +kernel
theorem dX6_choose_1 : decode cX6_choose 1 = .ok (.lstore_n 2, 1) := by decide +kernel
theorem dX6_choose_2 : decode cX6_choose 2 = .ok (.iconst 1, 1) := by decide +kernel
theorem dX6_choose_3 : decode cX6_choose 3 = .ok (.istore 4, 2) := by decide +kernel
theorem dX6_choose_5 : decode cX6_choose 5 = .ok (.iload 4, 2) := by decide +kernel
theorem dX6_choose_7 : decode cX6_choose 7 = .ok (.iload_n 1, 1) := by decide +kernel
theorem dX6_choose_8 : decode cX6_choose 8 = .ok (.if_icmp .gt 23, 3) := by decide +kernel
theorem dX6_choose_11 : decode cX6_choose 11 = .ok (.lload_n 2, 1) := by decide +kernel
theorem dX6_choose_12 : decode cX6_choose 12 = .ok (.iload_n 0, 1) := by decide +kernel
theorem dX6_choose_13 : decode cX6_choose 13 = .ok (.iload_n 1, 1) := by decide +kernel
theorem dX6_choose_14 : decode cX6_choose 14 = .ok (.isub, 1) := by decide +kernel
theorem dX6_choose_15 : decode cX6_choose 15 = .ok (.iload 4, 2) := by decide +kernel
theorem dX6_choose_17 : decode cX6_choose 17 = .ok (.iadd, 1) := by decide +kernel
theorem dX6_choose_18 : decode cX6_choose 18 = .ok (.i2l, 1) := by decide +kernel
theorem dX6_choose_19 : decode cX6_choose 19 = .ok (.lmul, 1) := by decide +kernel
theorem dX6_choose_20 : decode cX6_choose 20 = .ok (.iload 4, 2) := by decide +kernel
theorem dX6_choose_22 : decode cX6_choose 22 = .ok (.i2l, 1) := by decide +kernel
theorem dX6_choose_23 : decode cX6_choose 23 = .ok (.ldiv, 1) := by decide +kernel
end
section
theorem dX6_choose_24 : decode cX6_choose 24 = .ok (.lstore_n 2, 1) := by decide +kernel
theorem dX6_choose_25 : decode cX6_choose 25 = .ok (.iinc 4 1, 3) := by decide +kernel
theorem dX6_choose_28 : decode cX6_choose 28 = .ok (.goto (-23), 3) := by decide +kernel
theorem dX6_choose_31 : decode cX6_choose 31 = .ok (.lload_n 2, 1) := by decide +kernel
theorem dX6_choose_32 : decode cX6_choose 32 = .ok (.lreturn, 1) := by decide +kernel
theorem dX6_commonDivisor_0 : decode cX6_commonDivisor 0 = .ok (.lload_n 2, 1) := by decide +kernel
theorem dX6_commonDivisor_1 : decode cX6_commonDivisor 1 = .ok (.lstore 4, 2) := by decide +kernel
theorem dX6_commonDivisor_3 : decode cX6_commonDivisor 3 = .ok (.lload_n 0, 1) := by decide +kernel
theorem dX6_commonDivisor_4 : decode cX6_commonDivisor 4 = .ok (.lstore 6, 2) := by decide +kernel
theorem dX6_commonDivisor_6 : decode cX6_commonDivisor 6 = .ok (.iconst 0, 1) := by decide +kernel
theorem dX6_commonDivisor_7 : decode cX6_commonDivisor 7 = .ok (.istore 8, 2) := by decide +kernel
theorem dX6_commonDivisor_9 : decode cX6_commonDivisor 9 = .ok (.iload 8, 2) := by decide +kernel
theorem dX6_commonDivisor_11 : decode cX6_commonDivisor 11 = .ok (.bipush 100, 2) := by decide +kernel
theorem dX6_commonDivisor_13 : decode cX6_commonDivisor 13 = .ok (.if_icmp .ge 31, 3) := by decide +kernel
theorem dX6_commonDivisor_16 : decode cX6_commonDivisor 16 = .ok (.lload 6, 2) := by decide +kernel
theorem dX6_commonDivisor_18 : decode cX6_commonDivisor 18 = .ok (.lconst 0, 1) := by decide +kernel
theorem dX6_commonDivisor_19 : decode cX6_commonDivisor 19 = .ok (.lcmp, 1) := by decide +kernel
theorem dX6_commonDivisor_20 : decode cX6_commonDivisor 20 = .ok (.ifCond .eq 24, 3) := by decide +kernel
theorem dX6_commonDivisor_23 : decode cX6_commonDivisor 23 = .ok (.lload 4, 2) := by decide +kernel
theorem dX6_commonDivisor_25 : decode cX6_commonDivisor 25 = .ok (.lload 6, 2) := by decide +kernel
theorem dX6_commonDivisor_27 : decode cX6_commonDivisor 27 = .ok (.lrem, 1) := by decide +kernel
theorem dX6_commonDivisor_28 : decode cX6_commonDivisor 28 = .ok (.lstore 9, 2) := by decide +kernel
theorem dX6_commonDivisor_30 : decode cX6_commonDivisor 30 = .ok (.lload 6, 2) := by decide +kernel
theorem dX6_commonDivisor_32 : decode cX6_commonDivisor 32 = .ok (.lstore 4, 2) := by decide +kernel
theorem dX6_commonDivisor_34 : decode cX6_commonDivisor 34 = .ok (.lload 9, 2) := by decide +kernel
theorem dX6_commonDivisor_36 : decode cX6_commonDivisor 36 = .ok (.lstore 6, 2) := by decide +kernel
theorem dX6_commonDivisor_38 : decode cX6_commonDivisor 38 = .ok (.iinc 8 1, 3) := by decide +kernel
theorem dX6_commonDivisor_41 : decode cX6_commonDivisor 41 = .ok (.goto (-32), 3) := by decide +kernel
theorem dX6_commonDivisor_44 : decode cX6_commonDivisor 44 = .ok (.lload 4, 2) := by decide +kernel
theorem dX6_commonDivisor_46 : decode cX6_commonDivisor 46 = .ok (.lreturn, 1) := by decide +kernel
end
section
theorem dX7_init_0 : decode cX7_init 0 = .ok (.aload_n 0, 1) := by decide +kernel
theorem dX7_init_1 : decode cX7_init 1 = .ok (.invokespecial 1, 3) := by decide +kernel
theorem dX7_init_4 : decode cX7_init 4 = .ok (.aload_n 0, 1) := by decide +kernel
theorem dX7_init_5 : decode cX7_init 5 = .ok (.bipush 16, 2) := by decide +kernel
theorem dX7_init_7 : decode cX7_init 7 = .ok (.newarray .int, 2) := by decide +kernel
theorem dX7_init_9 : decode cX7_init 9 = .ok (.putfield 7, 3) := by decide +kernel
theorem dX7_init_12 : decode cX7_init 12 = .ok (.aload_n 0, 1) := by decide +kernel
theorem dX7_init_13 : decode cX7_init 13 = .ok (.bipush 16, 2) := by decide +kernel
theorem dX7_init_15 : decode cX7_init 15 = .ok (.newarray .int, 2) := by decide +kernel
theorem dX7_init_17 : decode cX7_init 17 = .ok (.putfield 13, 3) := by decide +kernel
theorem dX7_init_20 : decode cX7_init 20 = .ok (.aload_n 0, 1) := by decide +kernel
theorem dX7_init_21 : decode cX7_init 21 = .ok (.bipush 80, 2) := by decide +kernel
theorem dX7_init_23 : decode cX7_init 23 = .ok (.newarray .int, 2) := by decide +kernel
theorem dX7_init_25 : decode cX7_init 25 = .ok (.putfield 16, 3) := by decide +kernel
theorem dX7_init_28 : decode cX7_init 28 = .ok (.aload_n 0, 1) := by decide +kernel
theorem dX7_init_29 : decode cX7_init 29 = .ok (.bipush 24, 2) := by decide +kernel
theorem dX7_init_31 : decode cX7_init 31 = .ok (.newarray .int, 2) := by decide +kernel
theorem dX7_init_33 : decode cX7_init 33 = .ok (.putfield 19, 3) := by decide +kernel
theorem dX7_init_36 : decode cX7_init 36 = .ok (.aload_n 0, 1) := by decide +kernel
theorem dX7_init_37 : decode cX7_init 37 = .ok (.bipush 12, 2) := by decide +kernel
theorem dX7_init_39 : decode cX7_init 39 = .ok (.newarray .int, 2) := by decide +kernel
theorem dX7_init_41 : decode cX7_init 41 = .ok (.putfield 22, 3) := by decide +kernel
theorem dX7_init_44 : decode cX7_init 44 = .ok (.aload_n 0, 1) := by decide +kernel
theorem dX7_init_45 : decode cX7_init 45 = .ok (.bipush 12, 2) := by decide +kernel
theorem dX7_init_47 : decode cX7_init 47 = .ok (.newarray .int, 2) := by decide +kernel
theorem dX7_init_49 : decode cX7_init 49 = .ok (.putfield 25, 3) := by decide +kernel
theorem dX7_init_52 : decode cX7_init 52 = .ok (.aload_n 0, 1) := by decide +kernel
theorem dX7_init_53 : decode cX7_init 53 = .ok (.sipush 1024, 3) := by decide +kernel
theorem dX7_init_56 : decode cX7_init 56 = .ok (.newarray .int, 2) := by decide +kernel
theorem dX7_init_58 : decode cX7_init 58 = .ok (.putfield 28, 3) := by decide +kernel
theorem dX7_init_61 : decode cX7_init 61 = .ok (.aload_n 0, 1) := by decide +kernel
theorem dX7_init_62 : decode cX7_init 62 = .ok (.bipush 64, 2) := by decide +kernel
theorem dX7_init_64 : decode cX7_init 64 = .ok (.newarray .int, 2) := by decide +kernel
theorem dX7_init_66 : decode cX7_init 66 = .ok (.putfield 31, 3) := by decide +kernel
theorem dX7_init_69 : decode cX7_init 69 = .ok (.aload_n 0, 1) := by decide +kernel
theorem dX7_init_70 : decode cX7_init 70 = .ok (.bipush 6, 2) := by decide +kernel
theorem dX7_init_72 : decode cX7_init 72 = .ok (.newarray .int, 2) := by decide +kernel
theorem dX7_init_74 : decode cX7_init 74 = .ok (.putfield 34, 3) := by decide +kernel
theorem dX7_init_77 : decode cX7_init 77 = .ok (.aload_n 0, 1) := by decide +kernel
theorem dX7_init_78 : decode cX7_init 78 = .ok (.bipush 16, 2) := by decide +kernel
theorem dX7_init_80 : decode cX7_init 80 = .ok (.newarray .int, 2) := by decide +kernel
theorem dX7_init_82 : decode cX7_init 82 = .ok (.putfield 37, 3) := by decide +kernel
theorem dX7_init_85 : decode cX7_init 85 = .ok (.aload_n 0, 1) := by decide +kernel
theorem dX7_init_86 : decode cX7_init 86 = .ok (.bipush 16, 2) := by decide +kernel
theorem dX7_init_88 : decode cX7_init 88 = .ok (.newarray .int, 2) := by decide +kernel
theorem dX7_init_90 : decode cX7_init 90 = .ok (.putfield 40, 3) := by decide +kernel
theorem dX7_init_93 : decode cX7_init 93 = .ok (.aload_n 0, 1) := by decide +kernel
theorem dX7_init_94 : decode cX7_init 94 = .ok (.bipush 16, 2) := by decide +kernel
theorem dX7_init_96 : decode cX7_init 96 = .ok (.newarray .int, 2) := by decide +kernel
theorem dX7_init_98 : decode cX7_init 98 = .ok (.putfield 43, 3) := by decide +kernel
theorem dX7_init_101 : decode cX7_init 101 = .ok (.aload_n 0, 1) := by decide +kernel
theorem dX7_init_102 : decode cX7_init 102 = .ok (.bipush 16, 2) := by decide +kernel
theorem dX7_init_104 : decode cX7_init 104 = .ok (.newarray .int, 2) := by decide +kernel
theorem dX7_init_106 : decode cX7_init 106 = .ok (.putfield 46, 3) := by decide +kernel
theorem dX7_init_109 : decode cX7_init 109 = .ok (.aload_n 0, 1) := by decide +kernel
theorem dX7_init_110 : decode cX7_init 110 = .ok (.bipush 80, 2) := by decide +kernel
theorem dX7_init_112 : decode cX7_init 112 = .ok (.newarray .int, 2) := by decide +kernel
theorem dX7_init_114 : decode cX7_init 114 = .ok (.putfield 49, 3) := by decide +kernel
theorem dX7_init_117 : decode cX7_init 117 = .ok (.aload_n 0, 1) := by decide +kernel
theorem dX7_init_118 : decode cX7_init 118 = .ok (.bipush 16, 2) := by decide +kernel
theorem dX7_init_120 : decode cX7_init 120 = .ok (.newarray .int, 2) := by decide +kernel
theorem dX7_init_122 : decode cX7_init 122 = .ok (.putfield 52, 3) := by decide +kernel
theorem dX7_init_125 : decode cX7_init 125 = .ok (.aload_n 0, 1) := by decide +kernel
theorem dX7_init_126 : decode cX7_init 126 = .ok (.bipush 16, 2) := by decide +kernel
theorem dX7_init_128 : decode cX7_init 128 = .ok (.newarray .int, 2) := by decide +kernel
theorem dX7_init_130 : decode cX7_init 130 = .ok (.putfield 55, 3) := by decide +kernel
theorem dX7_init_133 : decode cX7_init 133 = .ok (.aload_n 0, 1) := by decide +kernel
theorem dX7_init_134 : decode cX7_init 134 = .ok (.bipush 80, 2) := by decide +kernel
theorem dX7_init_136 : decode cX7_init 136 = .ok (.newarray .int, 2) := by decide +kernel
theorem dX7_init_138 : decode cX7_init 138 = .ok (.putfield 58, 3) := by decide +kernel
theorem dX7_init_141 : decode cX7_init 141 = .ok (.aload_n 0, 1) := by decide +kernel
theorem dX7_init_142 : decode cX7_init 142 = .ok (.iconst (-1), 1) := by decide +kernel
theorem dX7_init_143 : decode cX7_init 143 = .ok (.putfield 61, 3) := by decide +kernel
theorem dX7_init_146 : decode cX7_init 146 = .ok (.aload_n 0, 1) := by decide +kernel
theorem dX7_init_147 : decode cX7_init 147 = .ok (.iconst 3, 1) := by decide +kernel
theorem dX7_init_148 : decode cX7_init 148 = .ok (.putfield 65, 3) := by decide +kernel
theorem dX7_init_151 : decode cX7_init 151 = .ok (.aload_n 0, 1) := by decide +kernel
theorem dX7_init_152 : decode cX7_init 152 = .ok (.iconst 3, 1) := by decide +kernel
theorem dX7_init_153 : decode cX7_init 153 = .ok (.putfield 68, 3) := by decide +kernel
theorem dX7_init_156 : decode cX7_init 156 = .ok (.iconst 0, 1) := by decide +kernel
theorem dX7_init_157 : decode cX7_init 157 = .ok (.istore_n 1, 1) := by decide +kernel
theorem dX7_init_158 : decode cX7_init 158 = .ok (.iload_n 1, 1) := by decide +kernel
theorem dX7_init_159 : decode cX7_init 159 = .ok (.bipush 16, 2) := by decide +kernel
theorem dX7_init_161 : decode cX7_init 161 = .ok (.if_icmp .ge 17, 3) := by decide +kernel
theorem dX7_init_164 : decode cX7_init 164 = .ok (.aload_n 0, 1) := by decide +kernel
theorem dX7_init_165 : decode cX7_init 165 = .ok (.getfield 7, 3) := by decide +kernel
theorem dX7_init_168 : decode cX7_init 168 = .ok (.iload_n 1, 1) := by decide +kernel
theorem dX7_init_169 : decode cX7_init 169 = .ok (.bipush 10, 2) := by decide +kernel
theorem dX7_init_171 : decode cX7_init 171 = .ok (.iastore, 1) := by decide +kernel
theorem dX7_init_172 : decode cX7_init 172 = .ok (.iinc 1 1, 3) := by decide +kernel
theorem dX7_init_175 : decode cX7_init 175 = .ok (.goto (-17), 3) := by decide +kernel
theorem dX7_init_178 : decode cX7_init 178 = .ok (.return_, 1) := by decide +kernel
theorem dX7_in_0 : decode cX7_in 0 = .ok (.lload_n 0, 1) := by decide +kernel
theorem dX7_in_1 : decode cX7_in 1 = .ok (.lload_n 2, 1) := by decide +kernel
theorem dX7_in_2 : decode cX7_in 2 = .ok (.lcmp, 1) := by decide +kernel
theorem dX7_in_3 : decode cX7_in 3 = .ok (.ifCond .lt 14, 3) := by decide +kernel
theorem dX7_in_6 : decode cX7_in 6 = .ok (.lload_n 0, 1) := by decide +kernel
theorem dX7_in_7 : decode cX7_in 7 = .ok (.lload 4, 2) := by decide +kernel
theorem dX7_in_9 : decode cX7_in 9 = .ok (.lcmp, 1) := by decide +kernel
theorem dX7_in_10 : decode cX7_in 10 = .ok (.ifCond .gt 7, 3) := by decide +kernel
theorem dX7_in_13 : decode cX7_in 13 = .ok (.iconst 1, 1) := by decide +kernel
theorem dX7_in_14 : decode cX7_in 14 = .ok (.goto 4, 3) := by decide +kernel
theorem dX7_in_17 : decode cX7_in 17 = .ok (.iconst 0, 1) := by decide +kernel
theorem dX7_in_18 : decode cX7_in 18 = .ok (.ireturn, 1) := by decide +kernel
theorem dX7_squares_0 : decode cX7_squares 0 = .ok (.aload_n 0, 1) := by decide +kernel
theorem dX7_squares_1 : decode cX7_squares 1 = .ok (.getfield 65, 3) := by decide +kernel
theorem dX7_squares_4 : decode cX7_squares 4 = .ok (.aload_n 0, 1) := by decide +kernel
theorem dX7_squares_5 : decode cX7_squares 5 = .ok (.getfield 68, 3) := by decide +kernel
theorem dX7_squares_8 : decode cX7_squares 8 = .ok (.imul, 1) := by decide +kernel
theorem dX7_squares_9 : decode cX7_squares 9 = .ok (.ireturn, 1) := by decide +kernel
theorem dX7_isSquare_0 : decode cX7_isSquare 0 = .ok (.iload_n 1, 1) := by decide +kernel
theorem dX7_isSquare_1 : decode cX7_isSquare 1 = .ok (.i2l, 1) := by decide +kernel
theorem dX7_isSquare_2 : decode cX7_isSquare 2 = .ok (.lconst 0, 1) := by decide +kernel
theorem dX7_isSquare_3 : decode cX7_isSquare 3 = .ok (.aload_n 0, 1) := by decide +kernel
theorem dX7_isSquare_4 : decode cX7_isSquare 4 = .ok (.invokevirtual 71, 3) := by decide +kernel
theorem dX7_isSquare_7 : decode cX7_isSquare 7 = .ok (.iconst 1, 1) := by decide +kernel
theorem dX7_isSquare_8 : decode cX7_isSquare 8 = .ok (.isub, 1) := by decide +kernel
theorem dX7_isSquare_9 : decode cX7_isSquare 9 = .ok (.i2l, 1) := by decide +kernel
theorem dX7_isSquare_10 : decode cX7_isSquare 10 = .ok (.invokestatic 75, 3) := by decide +kernel
theorem dX7_isSquare_13 : decode cX7_isSquare 13 = .ok (.ireturn, 1) := by decide +kernel
theorem dX7_isDebt_0 : decode cX7_isDebt 0 = .ok (.iload_n 1, 1) := by decide +kernel
theorem dX7_isDebt_1 : decode cX7_isDebt 1 = .ok (.i2l, 1) := by decide +kernel
theorem dX7_isDebt_2 : decode cX7_isDebt 2 = .ok (.lconst 0, 1) := by decide +kernel
theorem dX7_isDebt_3 : decode cX7_isDebt 3 = .ok (.aload_n 0, 1) := by decide +kernel
theorem dX7_isDebt_4 : decode cX7_isDebt 4 = .ok (.getfield 79, 3) := by decide +kernel
theorem dX7_isDebt_7 : decode cX7_isDebt 7 = .ok (.iconst 1, 1) := by decide +kernel
theorem dX7_isDebt_8 : decode cX7_isDebt 8 = .ok (.isub, 1) := by decide +kernel
theorem dX7_isDebt_9 : decode cX7_isDebt 9 = .ok (.i2l, 1) := by decide +kernel
theorem dX7_isDebt_10 : decode cX7_isDebt 10 = .ok (.invokestatic 75, 3) := by decide +kernel
theorem dX7_isDebt_13 : decode cX7_isDebt 13 = .ok (.ireturn, 1) := by decide +kernel
theorem dX7_isPerson_0 : decode cX7_isPerson 0 = .ok (.iload_n 0, 1) := by decide +kernel
theorem dX7_isPerson_1 : decode cX7_isPerson 1 = .ok (.i2l, 1) := by decide +kernel
theorem dX7_isPerson_2 : decode cX7_isPerson 2 = .ok (.lconst 0, 1) := by decide +kernel
theorem dX7_isPerson_3 : decode cX7_isPerson 3 = .ok (.ldc2_w 82, 3) := by decide +kernel
theorem dX7_isPerson_6 : decode cX7_isPerson 6 = .ok (.invokestatic 75, 3) := by decide +kernel
theorem dX7_isPerson_9 : decode cX7_isPerson 9 = .ok (.ireturn, 1) := by decide +kernel
theorem dX7_lake_0 : decode cX7_lake 0 = .ok (.iload_n 1, 1) := by decide +kernel
theorem dX7_lake_1 : decode cX7_lake 1 = .ok (.i2l, 1) := by decide +kernel
theorem dX7_lake_2 : decode cX7_lake 2 = .ok (.ldc2_w 84, 3) := by decide +kernel
theorem dX7_lake_5 : decode cX7_lake 5 = .ok (.ldc2_w 86, 3) := by decide +kernel
theorem dX7_lake_8 : decode cX7_lake 8 = .ok (.invokestatic 75, 3) := by decide +kernel
theorem dX7_lake_11 : decode cX7_lake 11 = .ok (.ifCond .eq 17, 3) := by decide +kernel
theorem dX7_lake_14 : decode cX7_lake 14 = .ok (.iload_n 2, 1) := by decide +kernel
theorem dX7_lake_15 : decode cX7_lake 15 = .ok (.i2l, 1) := by decide +kernel
theorem dX7_lake_16 : decode cX7_lake 16 = .ok (.ldc2_w 84, 3) := by decide +kernel
theorem dX7_lake_19 : decode cX7_lake 19 = .ok (.ldc2_w 86, 3) := by decide +kernel
theorem dX7_lake_22 : decode cX7_lake 22 = .ok (.invokestatic 75, 3) := by decide +kernel
theorem dX7_lake_25 : decode cX7_lake 25 = .ok (.ifCond .ne 6, 3) := by decide +kernel
theorem dX7_lake_28 : decode cX7_lake 28 = .ok (.bipush (-102), 2) := by decide +kernel
theorem dX7_lake_30 : decode cX7_lake 30 = .ok (.ireturn, 1) := by decide +kernel
theorem dX7_lake_31 : decode cX7_lake 31 = .ok (.aload_n 0, 1) := by decide +kernel
theorem dX7_lake_32 : decode cX7_lake 32 = .ok (.iload_n 1, 1) := by decide +kernel
theorem dX7_lake_33 : decode cX7_lake 33 = .ok (.putfield 65, 3) := by decide +kernel
theorem dX7_lake_36 : decode cX7_lake 36 = .ok (.aload_n 0, 1) := by decide +kernel
theorem dX7_lake_37 : decode cX7_lake 37 = .ok (.iload_n 2, 1) := by decide +kernel
theorem dX7_lake_38 : decode cX7_lake 38 = .ok (.putfield 68, 3) := by decide +kernel
theorem dX7_lake_41 : decode cX7_lake 41 = .ok (.iconst 0, 1) := by decide +kernel
theorem dX7_lake_42 : decode cX7_lake 42 = .ok (.istore_n 3, 1) := by decide +kernel
theorem dX7_lake_43 : decode cX7_lake 43 = .ok (.iload_n 3, 1) := by decide +kernel
theorem dX7_lake_44 : decode cX7_lake 44 = .ok (.bipush 16, 2) := by decide +kernel
theorem dX7_lake_46 : decode cX7_lake 46 = .ok (.if_icmp .ge 24, 3) := by decide +kernel
theorem dX7_lake_49 : decode cX7_lake 49 = .ok (.aload_n 0, 1) := by decide +kernel
theorem dX7_lake_50 : decode cX7_lake 50 = .ok (.getfield 7, 3) := by decide +kernel
theorem dX7_lake_53 : decode cX7_lake 53 = .ok (.iload_n 3, 1) := by decide +kernel
theorem dX7_lake_54 : decode cX7_lake 54 = .ok (.bipush 10, 2) := by decide +kernel
theorem dX7_lake_56 : decode cX7_lake 56 = .ok (.iastore, 1) := by decide +kernel
theorem dX7_lake_57 : decode cX7_lake 57 = .ok (.aload_n 0, 1) := by decide +kernel
theorem dX7_lake_58 : decode cX7_lake 58 = .ok (.getfield 13, 3) := by decide +kernel
theorem dX7_lake_61 : decode cX7_lake 61 = .ok (.iload_n 3, 1) := by decide +kernel
theorem dX7_lake_62 : decode cX7_lake 62 = .ok (.iconst 0, 1) := by decide +kernel
theorem dX7_lake_63 : decode cX7_lake 63 = .ok (.iastore, 1) := by decide +kernel
theorem dX7_lake_64 : decode cX7_lake 64 = .ok (.iinc 3 1, 3) := by decide +kernel
theorem dX7_lake_67 : decode cX7_lake 67 = .ok (.goto (-24), 3) := by decide +kernel
theorem dX7_lake_70 : decode cX7_lake 70 = .ok (.aload_n 0, 1) := by decide +kernel
theorem dX7_lake_71 : decode cX7_lake 71 = .ok (.iconst 0, 1) := by decide +kernel
theorem dX7_lake_72 : decode cX7_lake 72 = .ok (.putfield 79, 3) := by decide +kernel
theorem dX7_lake_75 : decode cX7_lake 75 = .ok (.aload_n 0, 1) := by decide +kernel
theorem dX7_lake_76 : decode cX7_lake 76 = .ok (.iconst 0, 1) := by decide +kernel
theorem dX7_lake_77 : decode cX7_lake 77 = .ok (.putfield 88, 3) := by decide +kernel
theorem dX7_lake_80 : decode cX7_lake 80 = .ok (.aload_n 0, 1) := by decide +kernel
theorem dX7_lake_81 : decode cX7_lake 81 = .ok (.dup, 1) := by decide +kernel
theorem dX7_lake_82 : decode cX7_lake 82 = .ok (.getfield 91, 3) := by decide +kernel
theorem dX7_lake_85 : decode cX7_lake 85 = .ok (.iconst 1, 1) := by decide +kernel
theorem dX7_lake_86 : decode cX7_lake 86 = .ok (.iadd, 1) := by decide +kernel
theorem dX7_lake_87 : decode cX7_lake 87 = .ok (.putfield 91, 3) := by decide +kernel
theorem dX7_lake_90 : decode cX7_lake 90 = .ok (.aload_n 0, 1) := by decide +kernel
theorem dX7_lake_91 : decode cX7_lake 91 = .ok (.invokevirtual 71, 3) := by decide +kernel
theorem dX7_lake_94 : decode cX7_lake 94 = .ok (.ireturn, 1) := by decide +kernel
theorem dX7_isThere_0 : decode cX7_isThere 0 = .ok (.aload_n 0, 1) := by decide +kernel
theorem dX7_isThere_1 : decode cX7_isThere 1 = .ok (.getfield 16, 3) := by decide +kernel
theorem dX7_isThere_4 : decode cX7_isThere 4 = .ok (.bipush 8, 2) := by decide +kernel
theorem dX7_isThere_6 : decode cX7_isThere 6 = .ok (.iload_n 1, 1) := by decide +kernel
theorem dX7_isThere_7 : decode cX7_isThere 7 = .ok (.imul, 1) := by decide +kernel
theorem dX7_isThere_8 : decode cX7_isThere 8 = .ok (.bipush 6, 2) := by decide +kernel
theorem dX7_isThere_10 : decode cX7_isThere 10 = .ok (.iadd, 1) := by decide +kernel
theorem dX7_isThere_11 : decode cX7_isThere 11 = .ok (.iaload, 1) := by decide +kernel
theorem dX7_isThere_12 : decode cX7_isThere 12 = .ok (.iconst 1, 1) := by decide +kernel
theorem dX7_isThere_13 : decode cX7_isThere 13 = .ok (.if_icmp .ne 7, 3) := by decide +kernel
theorem dX7_isThere_16 : decode cX7_isThere 16 = .ok (.iconst 1, 1) := by decide +kernel
theorem dX7_isThere_17 : decode cX7_isThere 17 = .ok (.goto 4, 3) := by decide +kernel
theorem dX7_isThere_20 : decode cX7_isThere 20 = .ok (.iconst 0, 1) := by decide +kernel
theorem dX7_isThere_21 : decode cX7_isThere 21 = .ok (.ireturn, 1) := by decide +kernel
theorem dX7_thereIn_0 : decode cX7_thereIn 0 = .ok (.iconst 0, 1) := by decide +kernel
theorem dX7_thereIn_1 : decode cX7_thereIn 1 = .ok (.istore_n 2, 1) := by decide +kernel
theorem dX7_thereIn_2 : decode cX7_thereIn 2 = .ok (.iconst 0, 1) := by decide +kernel
theorem dX7_thereIn_3 : decode cX7_thereIn 3 = .ok (.istore_n 3, 1) := by decide +kernel
theorem dX7_thereIn_4 : decode cX7_thereIn 4 = .ok (.iload_n 3, 1) := by decide +kernel
theorem dX7_thereIn_5 : decode cX7_thereIn 5 = .ok (.aload_n 0, 1) := by decide +kernel
theorem dX7_thereIn_6 : decode cX7_thereIn 6 = .ok (.getfield 79, 3) := by decide +kernel
theorem dX7_thereIn_9 : decode cX7_thereIn 9 = .ok (.if_icmp .ge 40, 3) := by decide +kernel
theorem dX7_thereIn_12 : decode cX7_thereIn 12 = .ok (.iload_n 2, 1) := by decide +kernel
theorem dX7_thereIn_13 : decode cX7_thereIn 13 = .ok (.aload_n 0, 1) := by decide +kernel
theorem dX7_thereIn_14 : decode cX7_thereIn 14 = .ok (.iload_n 3, 1) := by decide +kernel
theorem dX7_thereIn_15 : decode cX7_thereIn 15 = .ok (.invokevirtual 94, 3) := by decide +kernel
theorem dX7_thereIn_18 : decode cX7_thereIn 18 = .ok (.ifCond .eq 22, 3) := by decide +kernel
theorem dX7_thereIn_21 : decode cX7_thereIn 21 = .ok (.aload_n 0, 1) := by decide +kernel
theorem dX7_thereIn_22 : decode cX7_thereIn 22 = .ok (.getfield 16, 3) := by decide +kernel
theorem dX7_thereIn_25 : decode cX7_thereIn 25 = .ok (.bipush 8, 2) := by decide +kernel
theorem dX7_thereIn_27 : decode cX7_thereIn 27 = .ok (.iload_n 3, 1) := by decide +kernel
theorem dX7_thereIn_28 : decode cX7_thereIn 28 = .ok (.imul, 1) := by decide +kernel
theorem dX7_thereIn_29 : decode cX7_thereIn 29 = .ok (.iconst 1, 1) := by decide +kernel
theorem dX7_thereIn_30 : decode cX7_thereIn 30 = .ok (.iadd, 1) := by decide +kernel
theorem dX7_thereIn_31 : decode cX7_thereIn 31 = .ok (.iaload, 1) := by decide +kernel
theorem dX7_thereIn_32 : decode cX7_thereIn 32 = .ok (.iload_n 1, 1) := by decide +kernel
theorem dX7_thereIn_33 : decode cX7_thereIn 33 = .ok (.if_icmp .ne 7, 3) := by decide +kernel
theorem dX7_thereIn_36 : decode cX7_thereIn 36 = .ok (.iconst 1, 1) := by decide +kernel
theorem dX7_thereIn_37 : decode cX7_thereIn 37 = .ok (.goto 4, 3) := by decide +kernel
theorem dX7_thereIn_40 : decode cX7_thereIn 40 = .ok (.iconst 0, 1) := by decide +kernel
theorem dX7_thereIn_41 : decode cX7_thereIn 41 = .ok (.iadd, 1) := by decide +kernel
theorem dX7_thereIn_42 : decode cX7_thereIn 42 = .ok (.istore_n 2, 1) := by decide +kernel
theorem dX7_thereIn_43 : decode cX7_thereIn 43 = .ok (.iinc 3 1, 3) := by decide +kernel
theorem dX7_thereIn_46 : decode cX7_thereIn 46 = .ok (.goto (-42), 3) := by decide +kernel
theorem dX7_thereIn_49 : decode cX7_thereIn 49 = .ok (.iload_n 2, 1) := by decide +kernel
theorem dX7_thereIn_50 : decode cX7_thereIn 50 = .ok (.ireturn, 1) := by decide +kernel
theorem dX7_ice_0 : decode cX7_ice 0 = .ok (.aload_n 0, 1) := by decide +kernel
theorem dX7_ice_1 : decode cX7_ice 1 = .ok (.iload_n 1, 1) := by decide +kernel
theorem dX7_ice_2 : decode cX7_ice 2 = .ok (.invokevirtual 98, 3) := by decide +kernel
theorem dX7_ice_5 : decode cX7_ice 5 = .ok (.ifCond .ne 6, 3) := by decide +kernel
theorem dX7_ice_8 : decode cX7_ice 8 = .ok (.bipush (-101), 2) := by decide +kernel
theorem dX7_ice_10 : decode cX7_ice 10 = .ok (.ireturn, 1) := by decide +kernel
theorem dX7_ice_11 : decode cX7_ice 11 = .ok (.iload_n 2, 1) := by decide +kernel
theorem dX7_ice_12 : decode cX7_ice 12 = .ok (.i2l, 1) := by decide +kernel
theorem dX7_ice_13 : decode cX7_ice 13 = .ok (.lconst 0, 1) := by decide +kernel
theorem dX7_ice_14 : decode cX7_ice 14 = .ok (.ldc2_w 101, 3) := by decide +kernel
theorem dX7_ice_17 : decode cX7_ice 17 = .ok (.invokestatic 75, 3) := by decide +kernel
theorem dX7_ice_20 : decode cX7_ice 20 = .ok (.ifCond .ne 6, 3) := by decide +kernel
theorem dX7_ice_23 : decode cX7_ice 23 = .ok (.bipush (-102), 2) := by decide +kernel
theorem dX7_ice_25 : decode cX7_ice 25 = .ok (.ireturn, 1) := by decide +kernel
theorem dX7_ice_26 : decode cX7_ice 26 = .ok (.aload_n 0, 1) := by decide +kernel
theorem dX7_ice_27 : decode cX7_ice 27 = .ok (.iload_n 1, 1) := by decide +kernel
theorem dX7_ice_28 : decode cX7_ice 28 = .ok (.invokevirtual 103, 3) := by decide +kernel
theorem dX7_ice_31 : decode cX7_ice 31 = .ok (.ifCond .le 6, 3) := by decide +kernel
theorem dX7_ice_34 : decode cX7_ice 34 = .ok (.bipush (-103), 2) := by decide +kernel
theorem dX7_ice_36 : decode cX7_ice 36 = .ok (.ireturn, 1) := by decide +kernel
theorem dX7_ice_37 : decode cX7_ice 37 = .ok (.aload_n 0, 1) := by decide +kernel
theorem dX7_ice_38 : decode cX7_ice 38 = .ok (.getfield 7, 3) := by decide +kernel
theorem dX7_ice_41 : decode cX7_ice 41 = .ok (.iload_n 1, 1) := by decide +kernel
theorem dX7_ice_42 : decode cX7_ice 42 = .ok (.iaload, 1) := by decide +kernel
theorem dX7_ice_43 : decode cX7_ice 43 = .ok (.istore_n 3, 1) := by decide +kernel
theorem dX7_ice_44 : decode cX7_ice 44 = .ok (.aload_n 0, 1) := by decide +kernel
theorem dX7_ice_45 : decode cX7_ice 45 = .ok (.getfield 7, 3) := by decide +kernel
theorem dX7_ice_48 : decode cX7_ice 48 = .ok (.iload_n 1, 1) := by decide +kernel
theorem dX7_ice_49 : decode cX7_ice 49 = .ok (.iload_n 2, 1) := by decide +kernel
theorem dX7_ice_50 : decode cX7_ice 50 = .ok (.iastore, 1) := by decide +kernel
theorem dX7_ice_51 : decode cX7_ice 51 = .ok (.iload_n 3, 1) := by decide +kernel
theorem dX7_ice_52 : decode cX7_ice 52 = .ok (.ireturn, 1) := by decide +kernel
theorem dX7_bearsOne_0 : decode cX7_bearsOne 0 = .ok (.aload_n 0, 1) := by decide +kernel
theorem dX7_bearsOne_1 : decode cX7_bearsOne 1 = .ok (.getfield 7, 3) := by decide +kernel
theorem dX7_bearsOne_4 : decode cX7_bearsOne 4 = .ok (.iload_n 1, 1) := by decide +kernel
theorem dX7_bearsOne_5 : decode cX7_bearsOne 5 = .ok (.iaload, 1) := by decide +kernel
theorem dX7_bearsOne_6 : decode cX7_bearsOne 6 = .ok (.iconst 3, 1) := by decide +kernel
theorem dX7_bearsOne_7 : decode cX7_bearsOne 7 = .ok (.if_icmp .le 7, 3) := by decide +kernel
theorem dX7_bearsOne_10 : decode cX7_bearsOne 10 = .ok (.iconst 1, 1) := by decide +kernel
theorem dX7_bearsOne_11 : decode cX7_bearsOne 11 = .ok (.goto 4, 3) := by decide +kernel
theorem dX7_bearsOne_14 : decode cX7_bearsOne 14 = .ok (.iconst 0, 1) := by decide +kernel
theorem dX7_bearsOne_15 : decode cX7_bearsOne 15 = .ok (.ireturn, 1) := by decide +kernel
theorem dX7_tellSquare_0 : decode cX7_tellSquare 0 = .ok (.iload_n 2, 1) := by decide +kernel
theorem dX7_tellSquare_1 : decode cX7_tellSquare 1 = .ok (.tableswitch 65 0 3 #[31, 38, 45, 51], 31) := by decide +kernel
theorem dX7_tellSquare_32 : decode cX7_tellSquare 32 = .ok (.aload_n 0, 1) := by decide +kernel
theorem dX7_tellSquare_33 : decode cX7_tellSquare 33 = .ok (.getfield 7, 3) := by decide +kernel
theorem dX7_tellSquare_36 : decode cX7_tellSquare 36 = .ok (.iload_n 1, 1) := by decide +kernel
theorem dX7_tellSquare_37 : decode cX7_tellSquare 37 = .ok (.iaload, 1) := by decide +kernel
theorem dX7_tellSquare_38 : decode cX7_tellSquare 38 = .ok (.ireturn, 1) := by decide +kernel
theorem dX7_tellSquare_39 : decode cX7_tellSquare 39 = .ok (.aload_n 0, 1) := by decide +kernel
theorem dX7_tellSquare_40 : decode cX7_tellSquare 40 = .ok (.getfield 13, 3) := by decide +kernel
theorem dX7_tellSquare_43 : decode cX7_tellSquare 43 = .ok (.iload_n 1, 1) := by decide +kernel
theorem dX7_tellSquare_44 : decode cX7_tellSquare 44 = .ok (.iaload, 1) := by decide +kernel
theorem dX7_tellSquare_45 : decode cX7_tellSquare 45 = .ok (.ireturn, 1) := by decide +kernel
theorem dX7_tellSquare_46 : decode cX7_tellSquare 46 = .ok (.aload_n 0, 1) := by decide +kernel
theorem dX7_tellSquare_47 : decode cX7_tellSquare 47 = .ok (.iload_n 1, 1) := by decide +kernel
theorem dX7_tellSquare_48 : decode cX7_tellSquare 48 = .ok (.invokevirtual 103, 3) := by decide +kernel
theorem dX7_tellSquare_51 : decode cX7_tellSquare 51 = .ok (.ireturn, 1) := by decide +kernel
theorem dX7_tellSquare_52 : decode cX7_tellSquare 52 = .ok (.aload_n 0, 1) := by decide +kernel
theorem dX7_tellSquare_53 : decode cX7_tellSquare 53 = .ok (.iload_n 1, 1) := by decide +kernel
theorem dX7_tellSquare_54 : decode cX7_tellSquare 54 = .ok (.invokevirtual 107, 3) := by decide +kernel
theorem dX7_tellSquare_57 : decode cX7_tellSquare 57 = .ok (.ifCond .eq 7, 3) := by decide +kernel
theorem dX7_tellSquare_60 : decode cX7_tellSquare 60 = .ok (.iconst 1, 1) := by decide +kernel
theorem dX7_tellSquare_61 : decode cX7_tellSquare 61 = .ok (.goto 4, 3) := by decide +kernel
theorem dX7_tellSquare_64 : decode cX7_tellSquare 64 = .ok (.iconst 0, 1) := by decide +kernel
theorem dX7_tellSquare_65 : decode cX7_tellSquare 65 = .ok (.ireturn, 1) := by decide +kernel
theorem dX7_tellSquare_66 : decode cX7_tellSquare 66 = .ok (.bipush (-102), 2) := by decide +kernel
theorem dX7_tellSquare_68 : decode cX7_tellSquare 68 = .ok (.ireturn, 1) := by decide +kernel
theorem dX7_square_0 : decode cX7_square 0 = .ok (.aload_n 0, 1) := by decide +kernel
theorem dX7_square_1 : decode cX7_square 1 = .ok (.iload_n 1, 1) := by decide +kernel
theorem dX7_square_2 : decode cX7_square 2 = .ok (.invokevirtual 98, 3) := by decide +kernel
theorem dX7_square_5 : decode cX7_square 5 = .ok (.ifCond .eq 12, 3) := by decide +kernel
theorem dX7_square_8 : decode cX7_square 8 = .ok (.aload_n 0, 1) := by decide +kernel
theorem dX7_square_9 : decode cX7_square 9 = .ok (.iload_n 1, 1) := by decide +kernel
theorem dX7_square_10 : decode cX7_square 10 = .ok (.iload_n 2, 1) := by decide +kernel
theorem dX7_square_11 : decode cX7_square 11 = .ok (.invokevirtual 110, 3) := by decide +kernel
theorem dX7_square_14 : decode cX7_square 14 = .ok (.goto 5, 3) := by decide +kernel
theorem dX7_square_17 : decode cX7_square 17 = .ok (.bipush (-101), 2) := by decide +kernel
theorem dX7_square_19 : decode cX7_square 19 = .ok (.ireturn, 1) := by decide +kernel
theorem dX7_lose_0 : decode cX7_lose 0 = .ok (.aload_n 0, 1) := by decide +kernel
theorem dX7_lose_1 : decode cX7_lose 1 = .ok (.getfield 16, 3) := by decide +kernel
theorem dX7_lose_4 : decode cX7_lose 4 = .ok (.bipush 8, 2) := by decide +kernel
theorem dX7_lose_6 : decode cX7_lose 6 = .ok (.iload_n 1, 1) := by decide +kernel
theorem dX7_lose_7 : decode cX7_lose 7 = .ok (.imul, 1) := by decide +kernel
theorem dX7_lose_8 : decode cX7_lose 8 = .ok (.bipush 6, 2) := by decide +kernel
theorem dX7_lose_10 : decode cX7_lose 10 = .ok (.iadd, 1) := by decide +kernel
theorem dX7_lose_11 : decode cX7_lose 11 = .ok (.iconst 0, 1) := by decide +kernel
theorem dX7_lose_12 : decode cX7_lose 12 = .ok (.iastore, 1) := by decide +kernel
theorem dX7_lose_13 : decode cX7_lose 13 = .ok (.aload_n 0, 1) := by decide +kernel
theorem dX7_lose_14 : decode cX7_lose 14 = .ok (.getfield 16, 3) := by decide +kernel
theorem dX7_lose_17 : decode cX7_lose 17 = .ok (.bipush 8, 2) := by decide +kernel
theorem dX7_lose_19 : decode cX7_lose 19 = .ok (.iload_n 1, 1) := by decide +kernel
theorem dX7_lose_20 : decode cX7_lose 20 = .ok (.imul, 1) := by decide +kernel
theorem dX7_lose_21 : decode cX7_lose 21 = .ok (.iconst 5, 1) := by decide +kernel
theorem dX7_lose_22 : decode cX7_lose 22 = .ok (.iadd, 1) := by decide +kernel
theorem dX7_lose_23 : decode cX7_lose 23 = .ok (.iconst 0, 1) := by decide +kernel
theorem dX7_lose_24 : decode cX7_lose 24 = .ok (.iastore, 1) := by decide +kernel
theorem dX7_lose_25 : decode cX7_lose 25 = .ok (.return_, 1) := by decide +kernel
theorem dX7_fish_0 : decode cX7_fish 0 = .ok (.aload_n 0, 1) := by decide +kernel
theorem dX7_fish_1 : decode cX7_fish 1 = .ok (.iload_n 1, 1) := by decide +kernel
theorem dX7_fish_2 : decode cX7_fish 2 = .ok (.invokevirtual 98, 3) := by decide +kernel
theorem dX7_fish_5 : decode cX7_fish 5 = .ok (.ifCond .ne 6, 3) := by decide +kernel
theorem dX7_fish_8 : decode cX7_fish 8 = .ok (.bipush (-101), 2) := by decide +kernel
theorem dX7_fish_10 : decode cX7_fish 10 = .ok (.ireturn, 1) := by decide +kernel
theorem dX7_fish_11 : decode cX7_fish 11 = .ok (.aload_n 0, 1) := by decide +kernel
theorem dX7_fish_12 : decode cX7_fish 12 = .ok (.getfield 7, 3) := by decide +kernel
theorem dX7_fish_15 : decode cX7_fish 15 = .ok (.iload_n 1, 1) := by decide +kernel
theorem dX7_fish_16 : decode cX7_fish 16 = .ok (.iaload, 1) := by decide +kernel
theorem dX7_fish_17 : decode cX7_fish 17 = .ok (.ifCond .ne 6, 3) := by decide +kernel
theorem dX7_fish_20 : decode cX7_fish 20 = .ok (.bipush (-103), 2) := by decide +kernel
theorem dX7_fish_22 : decode cX7_fish 22 = .ok (.ireturn, 1) := by decide +kernel
theorem dX7_fish_23 : decode cX7_fish 23 = .ok (.aload_n 0, 1) := by decide +kernel
theorem dX7_fish_24 : decode cX7_fish 24 = .ok (.iload_n 1, 1) := by decide +kernel
theorem dX7_fish_25 : decode cX7_fish 25 = .ok (.invokevirtual 103, 3) := by decide +kernel
theorem dX7_fish_28 : decode cX7_fish 28 = .ok (.istore_n 2, 1) := by decide +kernel
theorem dX7_fish_29 : decode cX7_fish 29 = .ok (.iconst 0, 1) := by decide +kernel
theorem dX7_fish_30 : decode cX7_fish 30 = .ok (.istore_n 3, 1) := by decide +kernel
theorem dX7_fish_31 : decode cX7_fish 31 = .ok (.iload_n 3, 1) := by decide +kernel
theorem dX7_fish_32 : decode cX7_fish 32 = .ok (.aload_n 0, 1) := by decide +kernel
theorem dX7_fish_33 : decode cX7_fish 33 = .ok (.getfield 79, 3) := by decide +kernel
theorem dX7_fish_36 : decode cX7_fish 36 = .ok (.if_icmp .ge 37, 3) := by decide +kernel
theorem dX7_fish_39 : decode cX7_fish 39 = .ok (.aload_n 0, 1) := by decide +kernel
theorem dX7_fish_40 : decode cX7_fish 40 = .ok (.iload_n 3, 1) := by decide +kernel
theorem dX7_fish_41 : decode cX7_fish 41 = .ok (.invokevirtual 94, 3) := by decide +kernel
theorem dX7_fish_44 : decode cX7_fish 44 = .ok (.ifCond .eq 23, 3) := by decide +kernel
theorem dX7_fish_47 : decode cX7_fish 47 = .ok (.aload_n 0, 1) := by decide +kernel
theorem dX7_fish_48 : decode cX7_fish 48 = .ok (.getfield 16, 3) := by decide +kernel
theorem dX7_fish_51 : decode cX7_fish 51 = .ok (.bipush 8, 2) := by decide +kernel
theorem dX7_fish_53 : decode cX7_fish 53 = .ok (.iload_n 3, 1) := by decide +kernel
theorem dX7_fish_54 : decode cX7_fish 54 = .ok (.imul, 1) := by decide +kernel
theorem dX7_fish_55 : decode cX7_fish 55 = .ok (.iconst 1, 1) := by decide +kernel
theorem dX7_fish_56 : decode cX7_fish 56 = .ok (.iadd, 1) := by decide +kernel
theorem dX7_fish_57 : decode cX7_fish 57 = .ok (.iaload, 1) := by decide +kernel
theorem dX7_fish_58 : decode cX7_fish 58 = .ok (.iload_n 1, 1) := by decide +kernel
theorem dX7_fish_59 : decode cX7_fish 59 = .ok (.if_icmp .ne 8, 3) := by decide +kernel
theorem dX7_fish_62 : decode cX7_fish 62 = .ok (.aload_n 0, 1) := by decide +kernel
theorem dX7_fish_63 : decode cX7_fish 63 = .ok (.iload_n 3, 1) := by decide +kernel
theorem dX7_fish_64 : decode cX7_fish 64 = .ok (.invokevirtual 114, 3) := by decide +kernel
theorem dX7_fish_67 : decode cX7_fish 67 = .ok (.iinc 3 1, 3) := by decide +kernel
theorem dX7_fish_70 : decode cX7_fish 70 = .ok (.goto (-39), 3) := by decide +kernel
theorem dX7_fish_73 : decode cX7_fish 73 = .ok (.aload_n 0, 1) := by decide +kernel
theorem dX7_fish_74 : decode cX7_fish 74 = .ok (.getfield 7, 3) := by decide +kernel
theorem dX7_fish_77 : decode cX7_fish 77 = .ok (.iload_n 1, 1) := by decide +kernel
theorem dX7_fish_78 : decode cX7_fish 78 = .ok (.iconst 0, 1) := by decide +kernel
theorem dX7_fish_79 : decode cX7_fish 79 = .ok (.iastore, 1) := by decide +kernel
theorem dX7_fish_80 : decode cX7_fish 80 = .ok (.iload_n 2, 1) := by decide +kernel
theorem dX7_fish_81 : decode cX7_fish 81 = .ok (.ireturn, 1) := by decide +kernel
theorem dX7_write_0 : decode cX7_write 0 = .ok (.aload_n 0, 1) := by decide +kernel
theorem dX7_write_1 : decode cX7_write 1 = .ok (.iload_n 2, 1) := by decide +kernel
theorem dX7_write_2 : decode cX7_write 2 = .ok (.invokevirtual 98, 3) := by decide +kernel
theorem dX7_write_5 : decode cX7_write 5 = .ok (.ifCond .eq 24, 3) := by decide +kernel
theorem dX7_write_8 : decode cX7_write 8 = .ok (.iload_n 3, 1) := by decide +kernel
theorem dX7_write_9 : decode cX7_write 9 = .ok (.invokestatic 118, 3) := by decide +kernel
theorem dX7_write_12 : decode cX7_write 12 = .ok (.ifCond .eq 17, 3) := by decide +kernel
theorem dX7_write_15 : decode cX7_write 15 = .ok (.iload 4, 2) := by decide +kernel
theorem dX7_write_17 : decode cX7_write 17 = .ok (.invokestatic 118, 3) := by decide +kernel
theorem dX7_write_20 : decode cX7_write 20 = .ok (.ifCond .eq 9, 3) := by decide +kernel
theorem dX7_write_23 : decode cX7_write 23 = .ok (.iload_n 3, 1) := by decide +kernel
theorem dX7_write_24 : decode cX7_write 24 = .ok (.iload 4, 2) := by decide +kernel
theorem dX7_write_26 : decode cX7_write 26 = .ok (.if_icmp .ne 6, 3) := by decide +kernel
theorem dX7_write_29 : decode cX7_write 29 = .ok (.bipush (-101), 2) := by decide +kernel
theorem dX7_write_31 : decode cX7_write 31 = .ok (.ireturn, 1) := by decide +kernel
theorem dX7_write_32 : decode cX7_write 32 = .ok (.iload_n 1, 1) := by decide +kernel
theorem dX7_write_33 : decode cX7_write 33 = .ok (.i2l, 1) := by decide +kernel
theorem dX7_write_34 : decode cX7_write 34 = .ok (.lconst 0, 1) := by decide +kernel
theorem dX7_write_35 : decode cX7_write 35 = .ok (.ldc2_w 86, 3) := by decide +kernel
theorem dX7_write_38 : decode cX7_write 38 = .ok (.invokestatic 75, 3) := by decide +kernel
theorem dX7_write_41 : decode cX7_write 41 = .ok (.ifCond .eq 29, 3) := by decide +kernel
theorem dX7_write_44 : decode cX7_write 44 = .ok (.iload 5, 2) := by decide +kernel
theorem dX7_write_46 : decode cX7_write 46 = .ok (.i2l, 1) := by decide +kernel
theorem dX7_write_47 : decode cX7_write 47 = .ok (.lconst 1, 1) := by decide +kernel
theorem dX7_write_48 : decode cX7_write 48 = .ok (.ldc2_w 101, 3) := by decide +kernel
theorem dX7_write_51 : decode cX7_write 51 = .ok (.invokestatic 75, 3) := by decide +kernel
theorem dX7_write_54 : decode cX7_write 54 = .ok (.ifCond .eq 16, 3) := by decide +kernel
theorem dX7_write_57 : decode cX7_write 57 = .ok (.iload 6, 2) := by decide +kernel
theorem dX7_write_59 : decode cX7_write 59 = .ok (.i2l, 1) := by decide +kernel
theorem dX7_write_60 : decode cX7_write 60 = .ok (.lconst 1, 1) := by decide +kernel
theorem dX7_write_61 : decode cX7_write 61 = .ok (.ldc2_w 121, 3) := by decide +kernel
theorem dX7_write_64 : decode cX7_write 64 = .ok (.invokestatic 75, 3) := by decide +kernel
theorem dX7_write_67 : decode cX7_write 67 = .ok (.ifCond .ne 6, 3) := by decide +kernel
theorem dX7_write_70 : decode cX7_write 70 = .ok (.bipush (-102), 2) := by decide +kernel
theorem dX7_write_72 : decode cX7_write 72 = .ok (.ireturn, 1) := by decide +kernel
theorem dX7_write_73 : decode cX7_write 73 = .ok (.iload_n 1, 1) := by decide +kernel
theorem dX7_write_74 : decode cX7_write 74 = .ok (.iconst 1, 1) := by decide +kernel
theorem dX7_write_75 : decode cX7_write 75 = .ok (.if_icmp .ne 10, 3) := by decide +kernel
theorem dX7_write_78 : decode cX7_write 78 = .ok (.iconst 2, 1) := by decide +kernel
theorem dX7_write_79 : decode cX7_write 79 = .ok (.iload 6, 2) := by decide +kernel
theorem dX7_write_81 : decode cX7_write 81 = .ok (.imul, 1) := by decide +kernel
theorem dX7_write_82 : decode cX7_write 82 = .ok (.goto 5, 3) := by decide +kernel
theorem dX7_write_85 : decode cX7_write 85 = .ok (.iload 6, 2) := by decide +kernel
theorem dX7_write_87 : decode cX7_write 87 = .ok (.istore 7, 2) := by decide +kernel
theorem dX7_write_89 : decode cX7_write 89 = .ok (.iload 7, 2) := by decide +kernel
theorem dX7_write_91 : decode cX7_write 91 = .ok (.aload_n 0, 1) := by decide +kernel
theorem dX7_write_92 : decode cX7_write 92 = .ok (.getfield 7, 3) := by decide +kernel
theorem dX7_write_95 : decode cX7_write 95 = .ok (.iload_n 2, 1) := by decide +kernel
theorem dX7_write_96 : decode cX7_write 96 = .ok (.iaload, 1) := by decide +kernel
theorem dX7_write_97 : decode cX7_write 97 = .ok (.if_icmp .le 6, 3) := by decide +kernel
theorem dX7_write_100 : decode cX7_write 100 = .ok (.bipush (-103), 2) := by decide +kernel
theorem dX7_write_102 : decode cX7_write 102 = .ok (.ireturn, 1) := by decide +kernel
theorem dX7_write_103 : decode cX7_write 103 = .ok (.aload_n 0, 1) := by decide +kernel
theorem dX7_write_104 : decode cX7_write 104 = .ok (.getfield 79, 3) := by decide +kernel
theorem dX7_write_107 : decode cX7_write 107 = .ok (.bipush 10, 2) := by decide +kernel
theorem dX7_write_109 : decode cX7_write 109 = .ok (.if_icmp .ne 6, 3) := by decide +kernel
theorem dX7_write_112 : decode cX7_write 112 = .ok (.bipush (-104), 2) := by decide +kernel
theorem dX7_write_114 : decode cX7_write 114 = .ok (.ireturn, 1) := by decide +kernel
theorem dX7_write_115 : decode cX7_write 115 = .ok (.bipush 8, 2) := by decide +kernel
theorem dX7_write_117 : decode cX7_write 117 = .ok (.aload_n 0, 1) := by decide +kernel
theorem dX7_write_118 : decode cX7_write 118 = .ok (.getfield 79, 3) := by decide +kernel
theorem dX7_write_121 : decode cX7_write 121 = .ok (.imul, 1) := by decide +kernel
theorem dX7_write_122 : decode cX7_write 122 = .ok (.istore 8, 2) := by decide +kernel
theorem dX7_write_124 : decode cX7_write 124 = .ok (.aload_n 0, 1) := by decide +kernel
theorem dX7_write_125 : decode cX7_write 125 = .ok (.getfield 16, 3) := by decide +kernel
theorem dX7_write_128 : decode cX7_write 128 = .ok (.iload 8, 2) := by decide +kernel
theorem dX7_write_130 : decode cX7_write 130 = .ok (.iload_n 1, 1) := by decide +kernel
theorem dX7_write_131 : decode cX7_write 131 = .ok (.iastore, 1) := by decide +kernel
theorem dX7_write_132 : decode cX7_write 132 = .ok (.aload_n 0, 1) := by decide +kernel
theorem dX7_write_133 : decode cX7_write 133 = .ok (.getfield 16, 3) := by decide +kernel
theorem dX7_write_136 : decode cX7_write 136 = .ok (.iload 8, 2) := by decide +kernel
theorem dX7_write_138 : decode cX7_write 138 = .ok (.iconst 1, 1) := by decide +kernel
theorem dX7_write_139 : decode cX7_write 139 = .ok (.iadd, 1) := by decide +kernel
theorem dX7_write_140 : decode cX7_write 140 = .ok (.iload_n 2, 1) := by decide +kernel
theorem dX7_write_141 : decode cX7_write 141 = .ok (.iastore, 1) := by decide +kernel
theorem dX7_write_142 : decode cX7_write 142 = .ok (.aload_n 0, 1) := by decide +kernel
theorem dX7_write_143 : decode cX7_write 143 = .ok (.getfield 16, 3) := by decide +kernel
theorem dX7_write_146 : decode cX7_write 146 = .ok (.iload 8, 2) := by decide +kernel
theorem dX7_write_148 : decode cX7_write 148 = .ok (.iconst 2, 1) := by decide +kernel
theorem dX7_write_149 : decode cX7_write 149 = .ok (.iadd, 1) := by decide +kernel
theorem dX7_write_150 : decode cX7_write 150 = .ok (.iload_n 3, 1) := by decide +kernel
theorem dX7_write_151 : decode cX7_write 151 = .ok (.iastore, 1) := by decide +kernel
theorem dX7_write_152 : decode cX7_write 152 = .ok (.aload_n 0, 1) := by decide +kernel
theorem dX7_write_153 : decode cX7_write 153 = .ok (.getfield 16, 3) := by decide +kernel
theorem dX7_write_156 : decode cX7_write 156 = .ok (.iload 8, 2) := by decide +kernel
theorem dX7_write_158 : decode cX7_write 158 = .ok (.iconst 3, 1) := by decide +kernel
theorem dX7_write_159 : decode cX7_write 159 = .ok (.iadd, 1) := by decide +kernel
theorem dX7_write_160 : decode cX7_write 160 = .ok (.iload 4, 2) := by decide +kernel
theorem dX7_write_162 : decode cX7_write 162 = .ok (.iastore, 1) := by decide +kernel
theorem dX7_write_163 : decode cX7_write 163 = .ok (.aload_n 0, 1) := by decide +kernel
theorem dX7_write_164 : decode cX7_write 164 = .ok (.getfield 16, 3) := by decide +kernel
theorem dX7_write_167 : decode cX7_write 167 = .ok (.iload 8, 2) := by decide +kernel
theorem dX7_write_169 : decode cX7_write 169 = .ok (.iconst 4, 1) := by decide +kernel
theorem dX7_write_170 : decode cX7_write 170 = .ok (.iadd, 1) := by decide +kernel
theorem dX7_write_171 : decode cX7_write 171 = .ok (.iload 5, 2) := by decide +kernel
theorem dX7_write_173 : decode cX7_write 173 = .ok (.iastore, 1) := by decide +kernel
theorem dX7_write_174 : decode cX7_write 174 = .ok (.aload_n 0, 1) := by decide +kernel
theorem dX7_write_175 : decode cX7_write 175 = .ok (.getfield 16, 3) := by decide +kernel
theorem dX7_write_178 : decode cX7_write 178 = .ok (.iload 8, 2) := by decide +kernel
theorem dX7_write_180 : decode cX7_write 180 = .ok (.iconst 5, 1) := by decide +kernel
theorem dX7_write_181 : decode cX7_write 181 = .ok (.iadd, 1) := by decide +kernel
theorem dX7_write_182 : decode cX7_write 182 = .ok (.iload 7, 2) := by decide +kernel
theorem dX7_write_184 : decode cX7_write 184 = .ok (.iastore, 1) := by decide +kernel
theorem dX7_write_185 : decode cX7_write 185 = .ok (.aload_n 0, 1) := by decide +kernel
theorem dX7_write_186 : decode cX7_write 186 = .ok (.getfield 16, 3) := by decide +kernel
theorem dX7_write_189 : decode cX7_write 189 = .ok (.iload 8, 2) := by decide +kernel
theorem dX7_write_191 : decode cX7_write 191 = .ok (.bipush 6, 2) := by decide +kernel
theorem dX7_write_193 : decode cX7_write 193 = .ok (.iadd, 1) := by decide +kernel
theorem dX7_write_194 : decode cX7_write 194 = .ok (.iconst 1, 1) := by decide +kernel
theorem dX7_write_195 : decode cX7_write 195 = .ok (.iastore, 1) := by decide +kernel
theorem dX7_write_196 : decode cX7_write 196 = .ok (.aload_n 0, 1) := by decide +kernel
theorem dX7_write_197 : decode cX7_write 197 = .ok (.getfield 16, 3) := by decide +kernel
theorem dX7_write_200 : decode cX7_write 200 = .ok (.iload 8, 2) := by decide +kernel
theorem dX7_write_202 : decode cX7_write 202 = .ok (.bipush 7, 2) := by decide +kernel
theorem dX7_write_204 : decode cX7_write 204 = .ok (.iadd, 1) := by decide +kernel
theorem dX7_write_205 : decode cX7_write 205 = .ok (.iconst 0, 1) := by decide +kernel
theorem dX7_write_206 : decode cX7_write 206 = .ok (.iastore, 1) := by decide +kernel
theorem dX7_write_207 : decode cX7_write 207 = .ok (.aload_n 0, 1) := by decide +kernel
theorem dX7_write_208 : decode cX7_write 208 = .ok (.dup, 1) := by decide +kernel
theorem dX7_write_209 : decode cX7_write 209 = .ok (.getfield 79, 3) := by decide +kernel
theorem dX7_write_212 : decode cX7_write 212 = .ok (.iconst 1, 1) := by decide +kernel
theorem dX7_write_213 : decode cX7_write 213 = .ok (.iadd, 1) := by decide +kernel
theorem dX7_write_214 : decode cX7_write 214 = .ok (.putfield 79, 3) := by decide +kernel
theorem dX7_write_217 : decode cX7_write 217 = .ok (.aload_n 0, 1) := by decide +kernel
theorem dX7_write_218 : decode cX7_write 218 = .ok (.getfield 79, 3) := by decide +kernel
theorem dX7_write_221 : decode cX7_write 221 = .ok (.iconst 1, 1) := by decide +kernel
theorem dX7_write_222 : decode cX7_write 222 = .ok (.isub, 1) := by decide +kernel
theorem dX7_write_223 : decode cX7_write 223 = .ok (.ireturn, 1) := by decide +kernel
theorem dX7_worthOf_0 : decode cX7_worthOf 0 = .ok (.bipush 8, 2) := by decide +kernel
theorem dX7_worthOf_2 : decode cX7_worthOf 2 = .ok (.iload_n 1, 1) := by decide +kernel
theorem dX7_worthOf_3 : decode cX7_worthOf 3 = .ok (.imul, 1) := by decide +kernel
theorem dX7_worthOf_4 : decode cX7_worthOf 4 = .ok (.istore_n 2, 1) := by decide +kernel
theorem dX7_worthOf_5 : decode cX7_worthOf 5 = .ok (.aload_n 0, 1) := by decide +kernel
theorem dX7_worthOf_6 : decode cX7_worthOf 6 = .ok (.getfield 16, 3) := by decide +kernel
theorem dX7_worthOf_9 : decode cX7_worthOf 9 = .ok (.iload_n 2, 1) := by decide +kernel
theorem dX7_worthOf_10 : decode cX7_worthOf 10 = .ok (.bipush 6, 2) := by decide +kernel
theorem dX7_worthOf_12 : decode cX7_worthOf 12 = .ok (.iadd, 1) := by decide +kernel
theorem dX7_worthOf_13 : decode cX7_worthOf 13 = .ok (.iaload, 1) := by decide +kernel
theorem dX7_worthOf_14 : decode cX7_worthOf 14 = .ok (.istore_n 3, 1) := by decide +kernel
theorem dX7_worthOf_15 : decode cX7_worthOf 15 = .ok (.aload_n 0, 1) := by decide +kernel
theorem dX7_worthOf_16 : decode cX7_worthOf 16 = .ok (.getfield 16, 3) := by decide +kernel
theorem dX7_worthOf_19 : decode cX7_worthOf 19 = .ok (.iload_n 2, 1) := by decide +kernel
theorem dX7_worthOf_20 : decode cX7_worthOf 20 = .ok (.iaload, 1) := by decide +kernel
theorem dX7_worthOf_21 : decode cX7_worthOf 21 = .ok (.iconst 2, 1) := by decide +kernel
theorem dX7_worthOf_22 : decode cX7_worthOf 22 = .ok (.if_icmp .eq 13, 3) := by decide +kernel
theorem dX7_worthOf_25 : decode cX7_worthOf 25 = .ok (.aload_n 0, 1) := by decide +kernel
theorem dX7_worthOf_26 : decode cX7_worthOf 26 = .ok (.getfield 16, 3) := by decide +kernel
theorem dX7_worthOf_29 : decode cX7_worthOf 29 = .ok (.iload_n 2, 1) := by decide +kernel
theorem dX7_worthOf_30 : decode cX7_worthOf 30 = .ok (.iaload, 1) := by decide +kernel
theorem dX7_worthOf_31 : decode cX7_worthOf 31 = .ok (.iconst 4, 1) := by decide +kernel
theorem dX7_worthOf_32 : decode cX7_worthOf 32 = .ok (.if_icmp .ne 7, 3) := by decide +kernel
theorem dX7_worthOf_35 : decode cX7_worthOf 35 = .ok (.iconst 1, 1) := by decide +kernel
theorem dX7_worthOf_36 : decode cX7_worthOf 36 = .ok (.goto 4, 3) := by decide +kernel
theorem dX7_worthOf_39 : decode cX7_worthOf 39 = .ok (.iconst 0, 1) := by decide +kernel
theorem dX7_worthOf_40 : decode cX7_worthOf 40 = .ok (.istore 4, 2) := by decide +kernel
theorem dX7_worthOf_42 : decode cX7_worthOf 42 = .ok (.aload_n 0, 1) := by decide +kernel
theorem dX7_worthOf_43 : decode cX7_worthOf 43 = .ok (.getfield 16, 3) := by decide +kernel
theorem dX7_worthOf_46 : decode cX7_worthOf 46 = .ok (.iload_n 2, 1) := by decide +kernel
theorem dX7_worthOf_47 : decode cX7_worthOf 47 = .ok (.iconst 4, 1) := by decide +kernel
theorem dX7_worthOf_48 : decode cX7_worthOf 48 = .ok (.iadd, 1) := by decide +kernel
theorem dX7_worthOf_49 : decode cX7_worthOf 49 = .ok (.iaload, 1) := by decide +kernel
theorem dX7_worthOf_50 : decode cX7_worthOf 50 = .ok (.iload 4, 2) := by decide +kernel
theorem dX7_worthOf_52 : decode cX7_worthOf 52 = .ok (.ifCond .eq 22, 3) := by decide +kernel
theorem dX7_worthOf_55 : decode cX7_worthOf 55 = .ok (.aload_n 0, 1) := by decide +kernel
theorem dX7_worthOf_56 : decode cX7_worthOf 56 = .ok (.getfield 7, 3) := by decide +kernel
theorem dX7_worthOf_59 : decode cX7_worthOf 59 = .ok (.aload_n 0, 1) := by decide +kernel
theorem dX7_worthOf_60 : decode cX7_worthOf 60 = .ok (.getfield 16, 3) := by decide +kernel
theorem dX7_worthOf_63 : decode cX7_worthOf 63 = .ok (.iload_n 2, 1) := by decide +kernel
theorem dX7_worthOf_64 : decode cX7_worthOf 64 = .ok (.iconst 1, 1) := by decide +kernel
theorem dX7_worthOf_65 : decode cX7_worthOf 65 = .ok (.iadd, 1) := by decide +kernel
theorem dX7_worthOf_66 : decode cX7_worthOf 66 = .ok (.iaload, 1) := by decide +kernel
theorem dX7_worthOf_67 : decode cX7_worthOf 67 = .ok (.iaload, 1) := by decide +kernel
theorem dX7_worthOf_68 : decode cX7_worthOf 68 = .ok (.bipush 10, 2) := by decide +kernel
theorem dX7_worthOf_70 : decode cX7_worthOf 70 = .ok (.idiv, 1) := by decide +kernel
theorem dX7_worthOf_71 : decode cX7_worthOf 71 = .ok (.goto 4, 3) := by decide +kernel
theorem dX7_worthOf_74 : decode cX7_worthOf 74 = .ok (.iconst 0, 1) := by decide +kernel
theorem dX7_worthOf_75 : decode cX7_worthOf 75 = .ok (.iadd, 1) := by decide +kernel
theorem dX7_worthOf_76 : decode cX7_worthOf 76 = .ok (.istore 5, 2) := by decide +kernel
theorem dX7_worthOf_78 : decode cX7_worthOf 78 = .ok (.iload_n 3, 1) := by decide +kernel
theorem dX7_worthOf_79 : decode cX7_worthOf 79 = .ok (.ifCond .ne 7, 3) := by decide +kernel
theorem dX7_worthOf_82 : decode cX7_worthOf 82 = .ok (.iconst 0, 1) := by decide +kernel
theorem dX7_worthOf_83 : decode cX7_worthOf 83 = .ok (.goto 22, 3) := by decide +kernel
theorem dX7_worthOf_86 : decode cX7_worthOf 86 = .ok (.iload_n 3, 1) := by decide +kernel
theorem dX7_worthOf_87 : decode cX7_worthOf 87 = .ok (.iconst 2, 1) := by decide +kernel
theorem dX7_worthOf_88 : decode cX7_worthOf 88 = .ok (.if_icmp .ne 15, 3) := by decide +kernel
theorem dX7_worthOf_91 : decode cX7_worthOf 91 = .ok (.aload_n 0, 1) := by decide +kernel
theorem dX7_worthOf_92 : decode cX7_worthOf 92 = .ok (.getfield 16, 3) := by decide +kernel
theorem dX7_worthOf_95 : decode cX7_worthOf 95 = .ok (.iload_n 2, 1) := by decide +kernel
theorem dX7_worthOf_96 : decode cX7_worthOf 96 = .ok (.bipush 7, 2) := by decide +kernel
theorem dX7_worthOf_98 : decode cX7_worthOf 98 = .ok (.iadd, 1) := by decide +kernel
theorem dX7_worthOf_99 : decode cX7_worthOf 99 = .ok (.iaload, 1) := by decide +kernel
theorem dX7_worthOf_100 : decode cX7_worthOf 100 = .ok (.goto 5, 3) := by decide +kernel
theorem dX7_worthOf_103 : decode cX7_worthOf 103 = .ok (.iload 5, 2) := by decide +kernel
theorem dX7_worthOf_105 : decode cX7_worthOf 105 = .ok (.ireturn, 1) := by decide +kernel
theorem dX7_lookOf_0 : decode cX7_lookOf 0 = .ok (.aload_n 0, 1) := by decide +kernel
theorem dX7_lookOf_1 : decode cX7_lookOf 1 = .ok (.getfield 16, 3) := by decide +kernel
theorem dX7_lookOf_4 : decode cX7_lookOf 4 = .ok (.bipush 8, 2) := by decide +kernel
theorem dX7_lookOf_6 : decode cX7_lookOf 6 = .ok (.iload_n 1, 1) := by decide +kernel
theorem dX7_lookOf_7 : decode cX7_lookOf 7 = .ok (.imul, 1) := by decide +kernel
theorem dX7_lookOf_8 : decode cX7_lookOf 8 = .ok (.bipush 6, 2) := by decide +kernel
theorem dX7_lookOf_10 : decode cX7_lookOf 10 = .ok (.iadd, 1) := by decide +kernel
theorem dX7_lookOf_11 : decode cX7_lookOf 11 = .ok (.iaload, 1) := by decide +kernel
theorem dX7_lookOf_12 : decode cX7_lookOf 12 = .ok (.istore_n 2, 1) := by decide +kernel
theorem dX7_lookOf_13 : decode cX7_lookOf 13 = .ok (.iload_n 2, 1) := by decide +kernel
theorem dX7_lookOf_14 : decode cX7_lookOf 14 = .ok (.ifCond .ne 7, 3) := by decide +kernel
theorem dX7_lookOf_17 : decode cX7_lookOf 17 = .ok (.iconst 0, 1) := by decide +kernel
theorem dX7_lookOf_18 : decode cX7_lookOf 18 = .ok (.goto 36, 3) := by decide +kernel
theorem dX7_lookOf_21 : decode cX7_lookOf 21 = .ok (.iload_n 2, 1) := by decide +kernel
theorem dX7_lookOf_22 : decode cX7_lookOf 22 = .ok (.iconst 2, 1) := by decide +kernel
theorem dX7_lookOf_23 : decode cX7_lookOf 23 = .ok (.if_icmp .ne 7, 3) := by decide +kernel
theorem dX7_lookOf_26 : decode cX7_lookOf 26 = .ok (.iconst 3, 1) := by decide +kernel
theorem dX7_lookOf_27 : decode cX7_lookOf 27 = .ok (.goto 27, 3) := by decide +kernel
theorem dX7_lookOf_30 : decode cX7_lookOf 30 = .ok (.aload_n 0, 1) := by decide +kernel
theorem dX7_lookOf_31 : decode cX7_lookOf 31 = .ok (.getfield 13, 3) := by decide +kernel
theorem dX7_lookOf_34 : decode cX7_lookOf 34 = .ok (.aload_n 0, 1) := by decide +kernel
theorem dX7_lookOf_35 : decode cX7_lookOf 35 = .ok (.getfield 16, 3) := by decide +kernel
theorem dX7_lookOf_38 : decode cX7_lookOf 38 = .ok (.bipush 8, 2) := by decide +kernel
theorem dX7_lookOf_40 : decode cX7_lookOf 40 = .ok (.iload_n 1, 1) := by decide +kernel
theorem dX7_lookOf_41 : decode cX7_lookOf 41 = .ok (.imul, 1) := by decide +kernel
end
section
theorem dX7_lookOf_42 : decode cX7_lookOf 42 = .ok (.iconst 1, 1) := by decide +kernel
theorem dX7_lookOf_43 : decode cX7_lookOf 43 = .ok (.iadd, 1) := by decide +kernel
theorem dX7_lookOf_44 : decode cX7_lookOf 44 = .ok (.iaload, 1) := by decide +kernel
theorem dX7_lookOf_45 : decode cX7_lookOf 45 = .ok (.iaload, 1) := by decide +kernel
theorem dX7_lookOf_46 : decode cX7_lookOf 46 = .ok (.ifCond .ne 7, 3) := by decide +kernel
theorem dX7_lookOf_49 : decode cX7_lookOf 49 = .ok (.iconst 2, 1) := by decide +kernel
theorem dX7_lookOf_50 : decode cX7_lookOf 50 = .ok (.goto 4, 3) := by decide +kernel
theorem dX7_lookOf_53 : decode cX7_lookOf 53 = .ok (.iconst 1, 1) := by decide +kernel
theorem dX7_lookOf_54 : decode cX7_lookOf 54 = .ok (.ireturn, 1) := by decide +kernel
theorem dX7_tellDebt_0 : decode cX7_tellDebt 0 = .ok (.iload_n 2, 1) := by decide +kernel
theorem dX7_tellDebt_1 : decode cX7_tellDebt 1 = .ok (.bipush 6, 2) := by decide +kernel
theorem dX7_tellDebt_3 : decode cX7_tellDebt 3 = .ok (.if_icmp .ne 11, 3) := by decide +kernel
theorem dX7_tellDebt_6 : decode cX7_tellDebt 6 = .ok (.aload_n 0, 1) := by decide +kernel
theorem dX7_tellDebt_7 : decode cX7_tellDebt 7 = .ok (.iload_n 1, 1) := by decide +kernel
theorem dX7_tellDebt_8 : decode cX7_tellDebt 8 = .ok (.invokevirtual 123, 3) := by decide +kernel
theorem dX7_tellDebt_11 : decode cX7_tellDebt 11 = .ok (.goto 45, 3) := by decide +kernel
theorem dX7_tellDebt_14 : decode cX7_tellDebt 14 = .ok (.iload_n 2, 1) := by decide +kernel
theorem dX7_tellDebt_15 : decode cX7_tellDebt 15 = .ok (.bipush 7, 2) := by decide +kernel
theorem dX7_tellDebt_17 : decode cX7_tellDebt 17 = .ok (.if_icmp .ne 11, 3) := by decide +kernel
theorem dX7_tellDebt_20 : decode cX7_tellDebt 20 = .ok (.aload_n 0, 1) := by decide +kernel
theorem dX7_tellDebt_21 : decode cX7_tellDebt 21 = .ok (.iload_n 1, 1) := by decide +kernel
theorem dX7_tellDebt_22 : decode cX7_tellDebt 22 = .ok (.invokevirtual 126, 3) := by decide +kernel
theorem dX7_tellDebt_25 : decode cX7_tellDebt 25 = .ok (.goto 31, 3) := by decide +kernel
theorem dX7_tellDebt_28 : decode cX7_tellDebt 28 = .ok (.iload_n 2, 1) := by decide +kernel
theorem dX7_tellDebt_29 : decode cX7_tellDebt 29 = .ok (.i2l, 1) := by decide +kernel
theorem dX7_tellDebt_30 : decode cX7_tellDebt 30 = .ok (.lconst 0, 1) := by decide +kernel
theorem dX7_tellDebt_31 : decode cX7_tellDebt 31 = .ok (.ldc2_w 82, 3) := by decide +kernel
theorem dX7_tellDebt_34 : decode cX7_tellDebt 34 = .ok (.invokestatic 75, 3) := by decide +kernel
theorem dX7_tellDebt_37 : decode cX7_tellDebt 37 = .ok (.ifCond .eq 17, 3) := by decide +kernel
theorem dX7_tellDebt_40 : decode cX7_tellDebt 40 = .ok (.aload_n 0, 1) := by decide +kernel
theorem dX7_tellDebt_41 : decode cX7_tellDebt 41 = .ok (.getfield 16, 3) := by decide +kernel
theorem dX7_tellDebt_44 : decode cX7_tellDebt 44 = .ok (.bipush 8, 2) := by decide +kernel
theorem dX7_tellDebt_46 : decode cX7_tellDebt 46 = .ok (.iload_n 1, 1) := by decide +kernel
theorem dX7_tellDebt_47 : decode cX7_tellDebt 47 = .ok (.imul, 1) := by decide +kernel
theorem dX7_tellDebt_48 : decode cX7_tellDebt 48 = .ok (.iload_n 2, 1) := by decide +kernel
theorem dX7_tellDebt_49 : decode cX7_tellDebt 49 = .ok (.iadd, 1) := by decide +kernel
theorem dX7_tellDebt_50 : decode cX7_tellDebt 50 = .ok (.iaload, 1) := by decide +kernel
theorem dX7_tellDebt_51 : decode cX7_tellDebt 51 = .ok (.goto 5, 3) := by decide +kernel
theorem dX7_tellDebt_54 : decode cX7_tellDebt 54 = .ok (.bipush (-102), 2) := by decide +kernel
theorem dX7_tellDebt_56 : decode cX7_tellDebt 56 = .ok (.ireturn, 1) := by decide +kernel
theorem dX7_about_0 : decode cX7_about 0 = .ok (.aload_n 0, 1) := by decide +kernel
theorem dX7_about_1 : decode cX7_about 1 = .ok (.iload_n 1, 1) := by decide +kernel
theorem dX7_about_2 : decode cX7_about 2 = .ok (.invokevirtual 129, 3) := by decide +kernel
theorem dX7_about_5 : decode cX7_about 5 = .ok (.ifCond .eq 12, 3) := by decide +kernel
theorem dX7_about_8 : decode cX7_about 8 = .ok (.aload_n 0, 1) := by decide +kernel
theorem dX7_about_9 : decode cX7_about 9 = .ok (.iload_n 1, 1) := by decide +kernel
theorem dX7_about_10 : decode cX7_about 10 = .ok (.iload_n 2, 1) := by decide +kernel
theorem dX7_about_11 : decode cX7_about 11 = .ok (.invokevirtual 132, 3) := by decide +kernel
theorem dX7_about_14 : decode cX7_about 14 = .ok (.goto 5, 3) := by decide +kernel
theorem dX7_about_17 : decode cX7_about 17 = .ok (.bipush (-101), 2) := by decide +kernel
theorem dX7_about_19 : decode cX7_about 19 = .ok (.ireturn, 1) := by decide +kernel
theorem dX7_as_0 : decode cX7_as 0 = .ok (.aload_n 0, 1) := by decide +kernel
theorem dX7_as_1 : decode cX7_as 1 = .ok (.iload_n 1, 1) := by decide +kernel
theorem dX7_as_2 : decode cX7_as 2 = .ok (.invokevirtual 129, 3) := by decide +kernel
theorem dX7_as_5 : decode cX7_as 5 = .ok (.ifCond .ne 6, 3) := by decide +kernel
theorem dX7_as_8 : decode cX7_as 8 = .ok (.bipush (-101), 2) := by decide +kernel
theorem dX7_as_10 : decode cX7_as 10 = .ok (.ireturn, 1) := by decide +kernel
theorem dX7_as_11 : decode cX7_as 11 = .ok (.iload_n 2, 1) := by decide +kernel
theorem dX7_as_12 : decode cX7_as 12 = .ok (.i2l, 1) := by decide +kernel
theorem dX7_as_13 : decode cX7_as 13 = .ok (.lconst 0, 1) := by decide +kernel
theorem dX7_as_14 : decode cX7_as 14 = .ok (.ldc2_w 86, 3) := by decide +kernel
theorem dX7_as_17 : decode cX7_as 17 = .ok (.invokestatic 75, 3) := by decide +kernel
theorem dX7_as_20 : decode cX7_as 20 = .ok (.ifCond .ne 6, 3) := by decide +kernel
theorem dX7_as_23 : decode cX7_as 23 = .ok (.bipush (-102), 2) := by decide +kernel
theorem dX7_as_25 : decode cX7_as 25 = .ok (.ireturn, 1) := by decide +kernel
theorem dX7_as_26 : decode cX7_as 26 = .ok (.aload_n 0, 1) := by decide +kernel
theorem dX7_as_27 : decode cX7_as 27 = .ok (.getfield 16, 3) := by decide +kernel
theorem dX7_as_30 : decode cX7_as 30 = .ok (.bipush 8, 2) := by decide +kernel
theorem dX7_as_32 : decode cX7_as 32 = .ok (.iload_n 1, 1) := by decide +kernel
theorem dX7_as_33 : decode cX7_as 33 = .ok (.imul, 1) := by decide +kernel
theorem dX7_as_34 : decode cX7_as 34 = .ok (.iaload, 1) := by decide +kernel
theorem dX7_as_35 : decode cX7_as 35 = .ok (.istore_n 3, 1) := by decide +kernel
theorem dX7_as_36 : decode cX7_as 36 = .ok (.iload_n 2, 1) := by decide +kernel
theorem dX7_as_37 : decode cX7_as 37 = .ok (.ifCond .eq 18, 3) := by decide +kernel
theorem dX7_as_40 : decode cX7_as 40 = .ok (.iload_n 2, 1) := by decide +kernel
theorem dX7_as_41 : decode cX7_as 41 = .ok (.iload_n 3, 1) := by decide +kernel
theorem dX7_as_42 : decode cX7_as 42 = .ok (.if_icmp .eq 13, 3) := by decide +kernel
theorem dX7_as_45 : decode cX7_as 45 = .ok (.iload_n 2, 1) := by decide +kernel
theorem dX7_as_46 : decode cX7_as 46 = .ok (.iconst 2, 1) := by decide +kernel
theorem dX7_as_47 : decode cX7_as 47 = .ok (.if_icmp .ne 12, 3) := by decide +kernel
theorem dX7_as_50 : decode cX7_as 50 = .ok (.iload_n 3, 1) := by decide +kernel
theorem dX7_as_51 : decode cX7_as 51 = .ok (.iconst 4, 1) := by decide +kernel
theorem dX7_as_52 : decode cX7_as 52 = .ok (.if_icmp .ne 7, 3) := by decide +kernel
theorem dX7_as_55 : decode cX7_as 55 = .ok (.iconst 1, 1) := by decide +kernel
theorem dX7_as_56 : decode cX7_as 56 = .ok (.goto 4, 3) := by decide +kernel
theorem dX7_as_59 : decode cX7_as 59 = .ok (.iconst 0, 1) := by decide +kernel
theorem dX7_as_60 : decode cX7_as 60 = .ok (.istore 4, 2) := by decide +kernel
theorem dX7_as_62 : decode cX7_as 62 = .ok (.iload 4, 2) := by decide +kernel
theorem dX7_as_64 : decode cX7_as 64 = .ok (.ifCond .eq 7, 3) := by decide +kernel
theorem dX7_as_67 : decode cX7_as 67 = .ok (.iload_n 1, 1) := by decide +kernel
theorem dX7_as_68 : decode cX7_as 68 = .ok (.goto 4, 3) := by decide +kernel
theorem dX7_as_71 : decode cX7_as 71 = .ok (.iconst (-1), 1) := by decide +kernel
theorem dX7_as_72 : decode cX7_as 72 = .ok (.ireturn, 1) := by decide +kernel
theorem dX7_saw_0 : decode cX7_saw 0 = .ok (.aload_n 0, 1) := by decide +kernel
theorem dX7_saw_1 : decode cX7_saw 1 = .ok (.iload_n 1, 1) := by decide +kernel
theorem dX7_saw_2 : decode cX7_saw 2 = .ok (.invokevirtual 129, 3) := by decide +kernel
theorem dX7_saw_5 : decode cX7_saw 5 = .ok (.ifCond .ne 6, 3) := by decide +kernel
theorem dX7_saw_8 : decode cX7_saw 8 = .ok (.bipush (-101), 2) := by decide +kernel
theorem dX7_saw_10 : decode cX7_saw 10 = .ok (.ireturn, 1) := by decide +kernel
theorem dX7_saw_11 : decode cX7_saw 11 = .ok (.aload_n 0, 1) := by decide +kernel
theorem dX7_saw_12 : decode cX7_saw 12 = .ok (.iload_n 1, 1) := by decide +kernel
theorem dX7_saw_13 : decode cX7_saw 13 = .ok (.invokevirtual 94, 3) := by decide +kernel
theorem dX7_saw_16 : decode cX7_saw 16 = .ok (.ifCond .ne 6, 3) := by decide +kernel
theorem dX7_saw_19 : decode cX7_saw 19 = .ok (.bipush (-103), 2) := by decide +kernel
theorem dX7_saw_21 : decode cX7_saw 21 = .ok (.ireturn, 1) := by decide +kernel
theorem dX7_saw_22 : decode cX7_saw 22 = .ok (.aload_n 0, 1) := by decide +kernel
theorem dX7_saw_23 : decode cX7_saw 23 = .ok (.getfield 16, 3) := by decide +kernel
theorem dX7_saw_26 : decode cX7_saw 26 = .ok (.bipush 8, 2) := by decide +kernel
theorem dX7_saw_28 : decode cX7_saw 28 = .ok (.iload_n 1, 1) := by decide +kernel
theorem dX7_saw_29 : decode cX7_saw 29 = .ok (.imul, 1) := by decide +kernel
theorem dX7_saw_30 : decode cX7_saw 30 = .ok (.bipush 7, 2) := by decide +kernel
theorem dX7_saw_32 : decode cX7_saw 32 = .ok (.iadd, 1) := by decide +kernel
theorem dX7_saw_33 : decode cX7_saw 33 = .ok (.aload_n 0, 1) := by decide +kernel
theorem dX7_saw_34 : decode cX7_saw 34 = .ok (.iload_n 1, 1) := by decide +kernel
theorem dX7_saw_35 : decode cX7_saw 35 = .ok (.invokevirtual 123, 3) := by decide +kernel
theorem dX7_saw_38 : decode cX7_saw 38 = .ok (.iastore, 1) := by decide +kernel
theorem dX7_saw_39 : decode cX7_saw 39 = .ok (.aload_n 0, 1) := by decide +kernel
theorem dX7_saw_40 : decode cX7_saw 40 = .ok (.getfield 16, 3) := by decide +kernel
theorem dX7_saw_43 : decode cX7_saw 43 = .ok (.bipush 8, 2) := by decide +kernel
theorem dX7_saw_45 : decode cX7_saw 45 = .ok (.iload_n 1, 1) := by decide +kernel
theorem dX7_saw_46 : decode cX7_saw 46 = .ok (.imul, 1) := by decide +kernel
theorem dX7_saw_47 : decode cX7_saw 47 = .ok (.bipush 6, 2) := by decide +kernel
theorem dX7_saw_49 : decode cX7_saw 49 = .ok (.iadd, 1) := by decide +kernel
theorem dX7_saw_50 : decode cX7_saw 50 = .ok (.iconst 2, 1) := by decide +kernel
theorem dX7_saw_51 : decode cX7_saw 51 = .ok (.iastore, 1) := by decide +kernel
theorem dX7_saw_52 : decode cX7_saw 52 = .ok (.aload_n 0, 1) := by decide +kernel
theorem dX7_saw_53 : decode cX7_saw 53 = .ok (.getfield 7, 3) := by decide +kernel
theorem dX7_saw_56 : decode cX7_saw 56 = .ok (.aload_n 0, 1) := by decide +kernel
theorem dX7_saw_57 : decode cX7_saw 57 = .ok (.getfield 16, 3) := by decide +kernel
theorem dX7_saw_60 : decode cX7_saw 60 = .ok (.bipush 8, 2) := by decide +kernel
theorem dX7_saw_62 : decode cX7_saw 62 = .ok (.iload_n 1, 1) := by decide +kernel
theorem dX7_saw_63 : decode cX7_saw 63 = .ok (.imul, 1) := by decide +kernel
theorem dX7_saw_64 : decode cX7_saw 64 = .ok (.iconst 1, 1) := by decide +kernel
theorem dX7_saw_65 : decode cX7_saw 65 = .ok (.iadd, 1) := by decide +kernel
theorem dX7_saw_66 : decode cX7_saw 66 = .ok (.iaload, 1) := by decide +kernel
theorem dX7_saw_67 : decode cX7_saw 67 = .ok (.iaload, 1) := by decide +kernel
theorem dX7_saw_68 : decode cX7_saw 68 = .ok (.ireturn, 1) := by decide +kernel
theorem dX7_letters_0 : decode cX7_letters 0 = .ok (.iconst 0, 1) := by decide +kernel
theorem dX7_letters_1 : decode cX7_letters 1 = .ok (.istore_n 3, 1) := by decide +kernel
theorem dX7_letters_2 : decode cX7_letters 2 = .ok (.iconst 1, 1) := by decide +kernel
theorem dX7_letters_3 : decode cX7_letters 3 = .ok (.istore 4, 2) := by decide +kernel
theorem dX7_letters_5 : decode cX7_letters 5 = .ok (.lload_n 1, 1) := by decide +kernel
theorem dX7_letters_6 : decode cX7_letters 6 = .ok (.lstore 5, 2) := by decide +kernel
theorem dX7_letters_8 : decode cX7_letters 8 = .ok (.iconst 0, 1) := by decide +kernel
theorem dX7_letters_9 : decode cX7_letters 9 = .ok (.istore 7, 2) := by decide +kernel
theorem dX7_letters_11 : decode cX7_letters 11 = .ok (.iload 7, 2) := by decide +kernel
theorem dX7_letters_13 : decode cX7_letters 13 = .ok (.bipush 8, 2) := by decide +kernel
theorem dX7_letters_15 : decode cX7_letters 15 = .ok (.if_icmp .ge 68, 3) := by decide +kernel
theorem dX7_letters_18 : decode cX7_letters 18 = .ok (.lload 5, 2) := by decide +kernel
theorem dX7_letters_20 : decode cX7_letters 20 = .ok (.ldc2_w 135, 3) := by decide +kernel
theorem dX7_letters_23 : decode cX7_letters 23 = .ok (.land, 1) := by decide +kernel
theorem dX7_letters_24 : decode cX7_letters 24 = .ok (.l2i, 1) := by decide +kernel
theorem dX7_letters_25 : decode cX7_letters 25 = .ok (.istore 8, 2) := by decide +kernel
theorem dX7_letters_27 : decode cX7_letters 27 = .ok (.lload 5, 2) := by decide +kernel
theorem dX7_letters_29 : decode cX7_letters 29 = .ok (.bipush 8, 2) := by decide +kernel
theorem dX7_letters_31 : decode cX7_letters 31 = .ok (.lushr, 1) := by decide +kernel
theorem dX7_letters_32 : decode cX7_letters 32 = .ok (.lstore 5, 2) := by decide +kernel
theorem dX7_letters_34 : decode cX7_letters 34 = .ok (.iload 4, 2) := by decide +kernel
theorem dX7_letters_36 : decode cX7_letters 36 = .ok (.ifCond .eq 25, 3) := by decide +kernel
theorem dX7_letters_39 : decode cX7_letters 39 = .ok (.iload 8, 2) := by decide +kernel
theorem dX7_letters_41 : decode cX7_letters 41 = .ok (.bipush 126, 2) := by decide +kernel
theorem dX7_letters_43 : decode cX7_letters 43 = .ok (.if_icmp .gt 18, 3) := by decide +kernel
theorem dX7_letters_46 : decode cX7_letters 46 = .ok (.iload 8, 2) := by decide +kernel
theorem dX7_letters_48 : decode cX7_letters 48 = .ok (.ifCond .eq 9, 3) := by decide +kernel
theorem dX7_letters_51 : decode cX7_letters 51 = .ok (.iload_n 3, 1) := by decide +kernel
theorem dX7_letters_52 : decode cX7_letters 52 = .ok (.iload 7, 2) := by decide +kernel
theorem dX7_letters_54 : decode cX7_letters 54 = .ok (.if_icmp .ne 7, 3) := by decide +kernel
theorem dX7_letters_57 : decode cX7_letters 57 = .ok (.iconst 1, 1) := by decide +kernel
theorem dX7_letters_58 : decode cX7_letters 58 = .ok (.goto 4, 3) := by decide +kernel
theorem dX7_letters_61 : decode cX7_letters 61 = .ok (.iconst 0, 1) := by decide +kernel
theorem dX7_letters_62 : decode cX7_letters 62 = .ok (.istore 4, 2) := by decide +kernel
theorem dX7_letters_64 : decode cX7_letters 64 = .ok (.iload_n 3, 1) := by decide +kernel
theorem dX7_letters_65 : decode cX7_letters 65 = .ok (.iload 8, 2) := by decide +kernel
theorem dX7_letters_67 : decode cX7_letters 67 = .ok (.ifCond .le 7, 3) := by decide +kernel
theorem dX7_letters_70 : decode cX7_letters 70 = .ok (.iconst 1, 1) := by decide +kernel
theorem dX7_letters_71 : decode cX7_letters 71 = .ok (.goto 4, 3) := by decide +kernel
theorem dX7_letters_74 : decode cX7_letters 74 = .ok (.iconst 0, 1) := by decide +kernel
theorem dX7_letters_75 : decode cX7_letters 75 = .ok (.iadd, 1) := by decide +kernel
theorem dX7_letters_76 : decode cX7_letters 76 = .ok (.istore_n 3, 1) := by decide +kernel
theorem dX7_letters_77 : decode cX7_letters 77 = .ok (.iinc 7 1, 3) := by decide +kernel
theorem dX7_letters_80 : decode cX7_letters 80 = .ok (.goto (-69), 3) := by decide +kernel
theorem dX7_letters_83 : decode cX7_letters 83 = .ok (.iload 4, 2) := by decide +kernel
theorem dX7_letters_85 : decode cX7_letters 85 = .ok (.ifCond .ne 6, 3) := by decide +kernel
theorem dX7_letters_88 : decode cX7_letters 88 = .ok (.bipush (-102), 2) := by decide +kernel
theorem dX7_letters_90 : decode cX7_letters 90 = .ok (.ireturn, 1) := by decide +kernel
theorem dX7_letters_91 : decode cX7_letters 91 = .ok (.aload_n 0, 1) := by decide +kernel
theorem dX7_letters_92 : decode cX7_letters 92 = .ok (.getfield 137, 3) := by decide +kernel
theorem dX7_letters_95 : decode cX7_letters 95 = .ok (.iload_n 3, 1) := by decide +kernel
theorem dX7_letters_96 : decode cX7_letters 96 = .ok (.iadd, 1) := by decide +kernel
theorem dX7_letters_97 : decode cX7_letters 97 = .ok (.bipush 24, 2) := by decide +kernel
theorem dX7_letters_99 : decode cX7_letters 99 = .ok (.if_icmp .le 6, 3) := by decide +kernel
theorem dX7_letters_102 : decode cX7_letters 102 = .ok (.bipush (-104), 2) := by decide +kernel
theorem dX7_letters_104 : decode cX7_letters 104 = .ok (.ireturn, 1) := by decide +kernel
theorem dX7_letters_105 : decode cX7_letters 105 = .ok (.iconst 0, 1) := by decide +kernel
theorem dX7_letters_106 : decode cX7_letters 106 = .ok (.istore 7, 2) := by decide +kernel
theorem dX7_letters_108 : decode cX7_letters 108 = .ok (.iload 7, 2) := by decide +kernel
theorem dX7_letters_110 : decode cX7_letters 110 = .ok (.iload_n 3, 1) := by decide +kernel
theorem dX7_letters_111 : decode cX7_letters 111 = .ok (.if_icmp .ge 40, 3) := by decide +kernel
theorem dX7_letters_114 : decode cX7_letters 114 = .ok (.aload_n 0, 1) := by decide +kernel
theorem dX7_letters_115 : decode cX7_letters 115 = .ok (.getfield 19, 3) := by decide +kernel
theorem dX7_letters_118 : decode cX7_letters 118 = .ok (.aload_n 0, 1) := by decide +kernel
theorem dX7_letters_119 : decode cX7_letters 119 = .ok (.getfield 137, 3) := by decide +kernel
theorem dX7_letters_122 : decode cX7_letters 122 = .ok (.lload_n 1, 1) := by decide +kernel
theorem dX7_letters_123 : decode cX7_letters 123 = .ok (.bipush 8, 2) := by decide +kernel
theorem dX7_letters_125 : decode cX7_letters 125 = .ok (.iload 7, 2) := by decide +kernel
theorem dX7_letters_127 : decode cX7_letters 127 = .ok (.imul, 1) := by decide +kernel
theorem dX7_letters_128 : decode cX7_letters 128 = .ok (.lushr, 1) := by decide +kernel
theorem dX7_letters_129 : decode cX7_letters 129 = .ok (.ldc2_w 135, 3) := by decide +kernel
theorem dX7_letters_132 : decode cX7_letters 132 = .ok (.land, 1) := by decide +kernel
theorem dX7_letters_133 : decode cX7_letters 133 = .ok (.l2i, 1) := by decide +kernel
theorem dX7_letters_134 : decode cX7_letters 134 = .ok (.iastore, 1) := by decide +kernel
theorem dX7_letters_135 : decode cX7_letters 135 = .ok (.aload_n 0, 1) := by decide +kernel
theorem dX7_letters_136 : decode cX7_letters 136 = .ok (.dup, 1) := by decide +kernel
theorem dX7_letters_137 : decode cX7_letters 137 = .ok (.getfield 137, 3) := by decide +kernel
theorem dX7_letters_140 : decode cX7_letters 140 = .ok (.iconst 1, 1) := by decide +kernel
theorem dX7_letters_141 : decode cX7_letters 141 = .ok (.iadd, 1) := by decide +kernel
theorem dX7_letters_142 : decode cX7_letters 142 = .ok (.putfield 137, 3) := by decide +kernel
theorem dX7_letters_145 : decode cX7_letters 145 = .ok (.iinc 7 1, 3) := by decide +kernel
theorem dX7_letters_148 : decode cX7_letters 148 = .ok (.goto (-40), 3) := by decide +kernel
theorem dX7_letters_151 : decode cX7_letters 151 = .ok (.aload_n 0, 1) := by decide +kernel
theorem dX7_letters_152 : decode cX7_letters 152 = .ok (.getfield 137, 3) := by decide +kernel
theorem dX7_letters_155 : decode cX7_letters 155 = .ok (.ireturn, 1) := by decide +kernel
theorem dX7_blank_0 : decode cX7_blank 0 = .ok (.aload_n 0, 1) := by decide +kernel
theorem dX7_blank_1 : decode cX7_blank 1 = .ok (.getfield 137, 3) := by decide +kernel
theorem dX7_blank_4 : decode cX7_blank 4 = .ok (.istore_n 1, 1) := by decide +kernel
theorem dX7_blank_5 : decode cX7_blank 5 = .ok (.aload_n 0, 1) := by decide +kernel
theorem dX7_blank_6 : decode cX7_blank 6 = .ok (.iconst 0, 1) := by decide +kernel
theorem dX7_blank_7 : decode cX7_blank 7 = .ok (.putfield 137, 3) := by decide +kernel
theorem dX7_blank_10 : decode cX7_blank 10 = .ok (.iload_n 1, 1) := by decide +kernel
theorem dX7_blank_11 : decode cX7_blank 11 = .ok (.ireturn, 1) := by decide +kernel
theorem dX7_dayOf_0 : decode cX7_dayOf 0 = .ok (.iload_n 0, 1) := by decide +kernel
theorem dX7_dayOf_1 : decode cX7_dayOf 1 = .ok (.bipush 99, 2) := by decide +kernel
theorem dX7_dayOf_3 : decode cX7_dayOf 3 = .ok (.if_icmp .ne 7, 3) := by decide +kernel
theorem dX7_dayOf_6 : decode cX7_dayOf 6 = .ok (.iconst 0, 1) := by decide +kernel
theorem dX7_dayOf_7 : decode cX7_dayOf 7 = .ok (.goto 34, 3) := by decide +kernel
theorem dX7_dayOf_10 : decode cX7_dayOf 10 = .ok (.iload_n 0, 1) := by decide +kernel
theorem dX7_dayOf_11 : decode cX7_dayOf 11 = .ok (.bipush 116, 2) := by decide +kernel
theorem dX7_dayOf_13 : decode cX7_dayOf 13 = .ok (.if_icmp .ne 7, 3) := by decide +kernel
theorem dX7_dayOf_16 : decode cX7_dayOf 16 = .ok (.iconst 1, 1) := by decide +kernel
theorem dX7_dayOf_17 : decode cX7_dayOf 17 = .ok (.goto 24, 3) := by decide +kernel
theorem dX7_dayOf_20 : decode cX7_dayOf 20 = .ok (.iload_n 0, 1) := by decide +kernel
theorem dX7_dayOf_21 : decode cX7_dayOf 21 = .ok (.bipush 115, 2) := by decide +kernel
theorem dX7_dayOf_23 : decode cX7_dayOf 23 = .ok (.if_icmp .ne 7, 3) := by decide +kernel
theorem dX7_dayOf_26 : decode cX7_dayOf 26 = .ok (.iconst 2, 1) := by decide +kernel
theorem dX7_dayOf_27 : decode cX7_dayOf 27 = .ok (.goto 14, 3) := by decide +kernel
theorem dX7_dayOf_30 : decode cX7_dayOf 30 = .ok (.iload_n 0, 1) := by decide +kernel
theorem dX7_dayOf_31 : decode cX7_dayOf 31 = .ok (.bipush 119, 2) := by decide +kernel
theorem dX7_dayOf_33 : decode cX7_dayOf 33 = .ok (.if_icmp .ne 7, 3) := by decide +kernel
theorem dX7_dayOf_36 : decode cX7_dayOf 36 = .ok (.iconst 3, 1) := by decide +kernel
theorem dX7_dayOf_37 : decode cX7_dayOf 37 = .ok (.goto 4, 3) := by decide +kernel
theorem dX7_dayOf_40 : decode cX7_dayOf 40 = .ok (.iconst (-1), 1) := by decide +kernel
theorem dX7_dayOf_41 : decode cX7_dayOf 41 = .ok (.ireturn, 1) := by decide +kernel
theorem dX7_go_0 : decode cX7_go 0 = .ok (.aload_n 0, 1) := by decide +kernel
theorem dX7_go_1 : decode cX7_go 1 = .ok (.getfield 140, 3) := by decide +kernel
theorem dX7_go_4 : decode cX7_go 4 = .ok (.ifCond .eq 43, 3) := by decide +kernel
theorem dX7_go_7 : decode cX7_go 7 = .ok (.aload_n 0, 1) := by decide +kernel
theorem dX7_go_8 : decode cX7_go 8 = .ok (.getfield 25, 3) := by decide +kernel
theorem dX7_go_11 : decode cX7_go 11 = .ok (.aload_n 0, 1) := by decide +kernel
theorem dX7_go_12 : decode cX7_go 12 = .ok (.getfield 144, 3) := by decide +kernel
theorem dX7_go_15 : decode cX7_go 15 = .ok (.iload_n 1, 1) := by decide +kernel
theorem dX7_go_16 : decode cX7_go 16 = .ok (.bipush 48, 2) := by decide +kernel
theorem dX7_go_18 : decode cX7_go 18 = .ok (.isub, 1) := by decide +kernel
theorem dX7_go_19 : decode cX7_go 19 = .ok (.iastore, 1) := by decide +kernel
theorem dX7_go_20 : decode cX7_go 20 = .ok (.aload_n 0, 1) := by decide +kernel
theorem dX7_go_21 : decode cX7_go 21 = .ok (.dup, 1) := by decide +kernel
theorem dX7_go_22 : decode cX7_go 22 = .ok (.getfield 144, 3) := by decide +kernel
theorem dX7_go_25 : decode cX7_go 25 = .ok (.iconst 1, 1) := by decide +kernel
theorem dX7_go_26 : decode cX7_go 26 = .ok (.iadd, 1) := by decide +kernel
theorem dX7_go_27 : decode cX7_go 27 = .ok (.putfield 144, 3) := by decide +kernel
theorem dX7_go_30 : decode cX7_go 30 = .ok (.aload_n 0, 1) := by decide +kernel
theorem dX7_go_31 : decode cX7_go 31 = .ok (.iconst 0, 1) := by decide +kernel
theorem dX7_go_32 : decode cX7_go 32 = .ok (.putfield 140, 3) := by decide +kernel
theorem dX7_go_35 : decode cX7_go 35 = .ok (.iload_n 1, 1) := by decide +kernel
theorem dX7_go_36 : decode cX7_go 36 = .ok (.i2l, 1) := by decide +kernel
theorem dX7_go_37 : decode cX7_go 37 = .ok (.ldc2_w 147, 3) := by decide +kernel
theorem dX7_go_40 : decode cX7_go 40 = .ok (.ldc2_w 149, 3) := by decide +kernel
theorem dX7_go_43 : decode cX7_go 43 = .ok (.invokestatic 75, 3) := by decide +kernel
theorem dX7_go_46 : decode cX7_go 46 = .ok (.ireturn, 1) := by decide +kernel
theorem dX7_go_47 : decode cX7_go 47 = .ok (.iload_n 1, 1) := by decide +kernel
theorem dX7_go_48 : decode cX7_go 48 = .ok (.invokestatic 151, 3) := by decide +kernel
theorem dX7_go_51 : decode cX7_go 51 = .ok (.iconst (-1), 1) := by decide +kernel
theorem dX7_go_52 : decode cX7_go 52 = .ok (.if_icmp .eq 16, 3) := by decide +kernel
theorem dX7_go_55 : decode cX7_go 55 = .ok (.aload_n 0, 1) := by decide +kernel
theorem dX7_go_56 : decode cX7_go 56 = .ok (.getfield 144, 3) := by decide +kernel
theorem dX7_go_59 : decode cX7_go 59 = .ok (.bipush 12, 2) := by decide +kernel
theorem dX7_go_61 : decode cX7_go 61 = .ok (.if_icmp .ge 7, 3) := by decide +kernel
theorem dX7_go_64 : decode cX7_go 64 = .ok (.iconst 1, 1) := by decide +kernel
theorem dX7_go_65 : decode cX7_go 65 = .ok (.goto 4, 3) := by decide +kernel
theorem dX7_go_68 : decode cX7_go 68 = .ok (.iconst 0, 1) := by decide +kernel
theorem dX7_go_69 : decode cX7_go 69 = .ok (.istore_n 2, 1) := by decide +kernel
theorem dX7_go_70 : decode cX7_go 70 = .ok (.iload_n 2, 1) := by decide +kernel
theorem dX7_go_71 : decode cX7_go 71 = .ok (.ifCond .eq 64, 3) := by decide +kernel
theorem dX7_go_74 : decode cX7_go 74 = .ok (.aload_n 0, 1) := by decide +kernel
theorem dX7_go_75 : decode cX7_go 75 = .ok (.getfield 22, 3) := by decide +kernel
theorem dX7_go_78 : decode cX7_go 78 = .ok (.aload_n 0, 1) := by decide +kernel
theorem dX7_go_79 : decode cX7_go 79 = .ok (.getfield 144, 3) := by decide +kernel
theorem dX7_go_82 : decode cX7_go 82 = .ok (.iload_n 1, 1) := by decide +kernel
theorem dX7_go_83 : decode cX7_go 83 = .ok (.invokestatic 151, 3) := by decide +kernel
theorem dX7_go_86 : decode cX7_go 86 = .ok (.iastore, 1) := by decide +kernel
theorem dX7_go_87 : decode cX7_go 87 = .ok (.aload_n 0, 1) := by decide +kernel
theorem dX7_go_88 : decode cX7_go 88 = .ok (.getfield 25, 3) := by decide +kernel
theorem dX7_go_91 : decode cX7_go 91 = .ok (.aload_n 0, 1) := by decide +kernel
theorem dX7_go_92 : decode cX7_go 92 = .ok (.getfield 144, 3) := by decide +kernel
theorem dX7_go_95 : decode cX7_go 95 = .ok (.iconst 0, 1) := by decide +kernel
theorem dX7_go_96 : decode cX7_go 96 = .ok (.iastore, 1) := by decide +kernel
theorem dX7_go_97 : decode cX7_go 97 = .ok (.aload_n 0, 1) := by decide +kernel
theorem dX7_go_98 : decode cX7_go 98 = .ok (.iload_n 1, 1) := by decide +kernel
theorem dX7_go_99 : decode cX7_go 99 = .ok (.invokestatic 151, 3) := by decide +kernel
theorem dX7_go_102 : decode cX7_go 102 = .ok (.iconst 2, 1) := by decide +kernel
theorem dX7_go_103 : decode cX7_go 103 = .ok (.if_icmp .ge 7, 3) := by decide +kernel
theorem dX7_go_106 : decode cX7_go 106 = .ok (.iconst 1, 1) := by decide +kernel
theorem dX7_go_107 : decode cX7_go 107 = .ok (.goto 4, 3) := by decide +kernel
theorem dX7_go_110 : decode cX7_go 110 = .ok (.iconst 0, 1) := by decide +kernel
theorem dX7_go_111 : decode cX7_go 111 = .ok (.putfield 140, 3) := by decide +kernel
theorem dX7_go_114 : decode cX7_go 114 = .ok (.aload_n 0, 1) := by decide +kernel
theorem dX7_go_115 : decode cX7_go 115 = .ok (.dup, 1) := by decide +kernel
theorem dX7_go_116 : decode cX7_go 116 = .ok (.getfield 144, 3) := by decide +kernel
theorem dX7_go_119 : decode cX7_go 119 = .ok (.aload_n 0, 1) := by decide +kernel
theorem dX7_go_120 : decode cX7_go 120 = .ok (.getfield 140, 3) := by decide +kernel
theorem dX7_go_123 : decode cX7_go 123 = .ok (.ifCond .eq 7, 3) := by decide +kernel
theorem dX7_go_126 : decode cX7_go 126 = .ok (.iconst 0, 1) := by decide +kernel
theorem dX7_go_127 : decode cX7_go 127 = .ok (.goto 4, 3) := by decide +kernel
theorem dX7_go_130 : decode cX7_go 130 = .ok (.iconst 1, 1) := by decide +kernel
theorem dX7_go_131 : decode cX7_go 131 = .ok (.iadd, 1) := by decide +kernel
theorem dX7_go_132 : decode cX7_go 132 = .ok (.putfield 144, 3) := by decide +kernel
theorem dX7_go_135 : decode cX7_go 135 = .ok (.iload_n 2, 1) := by decide +kernel
theorem dX7_go_136 : decode cX7_go 136 = .ok (.ireturn, 1) := by decide +kernel
theorem dX7_faultOf_0 : decode cX7_faultOf 0 = .ok (.aload_n 0, 1) := by decide +kernel
theorem dX7_faultOf_1 : decode cX7_faultOf 1 = .ok (.iconst 0, 1) := by decide +kernel
theorem dX7_faultOf_2 : decode cX7_faultOf 2 = .ok (.putfield 144, 3) := by decide +kernel
theorem dX7_faultOf_5 : decode cX7_faultOf 5 = .ok (.aload_n 0, 1) := by decide +kernel
theorem dX7_faultOf_6 : decode cX7_faultOf 6 = .ok (.iconst 0, 1) := by decide +kernel
theorem dX7_faultOf_7 : decode cX7_faultOf 7 = .ok (.putfield 140, 3) := by decide +kernel
theorem dX7_faultOf_10 : decode cX7_faultOf 10 = .ok (.iconst 0, 1) := by decide +kernel
theorem dX7_faultOf_11 : decode cX7_faultOf 11 = .ok (.istore_n 1, 1) := by decide +kernel
theorem dX7_faultOf_12 : decode cX7_faultOf 12 = .ok (.iload_n 1, 1) := by decide +kernel
theorem dX7_faultOf_13 : decode cX7_faultOf 13 = .ok (.aload_n 0, 1) := by decide +kernel
theorem dX7_faultOf_14 : decode cX7_faultOf 14 = .ok (.getfield 137, 3) := by decide +kernel
theorem dX7_faultOf_17 : decode cX7_faultOf 17 = .ok (.if_icmp .ge 22, 3) := by decide +kernel
theorem dX7_faultOf_20 : decode cX7_faultOf 20 = .ok (.aload_n 0, 1) := by decide +kernel
theorem dX7_faultOf_21 : decode cX7_faultOf 21 = .ok (.aload_n 0, 1) := by decide +kernel
theorem dX7_faultOf_22 : decode cX7_faultOf 22 = .ok (.getfield 19, 3) := by decide +kernel
theorem dX7_faultOf_25 : decode cX7_faultOf 25 = .ok (.iload_n 1, 1) := by decide +kernel
theorem dX7_faultOf_26 : decode cX7_faultOf 26 = .ok (.iaload, 1) := by decide +kernel
theorem dX7_faultOf_27 : decode cX7_faultOf 27 = .ok (.invokevirtual 154, 3) := by decide +kernel
theorem dX7_faultOf_30 : decode cX7_faultOf 30 = .ok (.ifCond .eq 9, 3) := by decide +kernel
theorem dX7_faultOf_33 : decode cX7_faultOf 33 = .ok (.iinc 1 1, 3) := by decide +kernel
theorem dX7_faultOf_36 : decode cX7_faultOf 36 = .ok (.goto (-24), 3) := by decide +kernel
theorem dX7_faultOf_39 : decode cX7_faultOf 39 = .ok (.iload_n 1, 1) := by decide +kernel
theorem dX7_faultOf_40 : decode cX7_faultOf 40 = .ok (.ireturn, 1) := by decide +kernel
theorem dX7_fault_0 : decode cX7_fault 0 = .ok (.aload_n 0, 1) := by decide +kernel
theorem dX7_fault_1 : decode cX7_fault 1 = .ok (.invokevirtual 157, 3) := by decide +kernel
theorem dX7_fault_4 : decode cX7_fault 4 = .ok (.ireturn, 1) := by decide +kernel
theorem dX7_areDays_0 : decode cX7_areDays 0 = .ok (.aload_n 0, 1) := by decide +kernel
theorem dX7_areDays_1 : decode cX7_areDays 1 = .ok (.invokevirtual 157, 3) := by decide +kernel
theorem dX7_areDays_4 : decode cX7_areDays 4 = .ok (.aload_n 0, 1) := by decide +kernel
theorem dX7_areDays_5 : decode cX7_areDays 5 = .ok (.getfield 137, 3) := by decide +kernel
theorem dX7_areDays_8 : decode cX7_areDays 8 = .ok (.if_icmp .ne 21, 3) := by decide +kernel
theorem dX7_areDays_11 : decode cX7_areDays 11 = .ok (.aload_n 0, 1) := by decide +kernel
theorem dX7_areDays_12 : decode cX7_areDays 12 = .ok (.getfield 140, 3) := by decide +kernel
theorem dX7_areDays_15 : decode cX7_areDays 15 = .ok (.ifCond .ne 14, 3) := by decide +kernel
theorem dX7_areDays_18 : decode cX7_areDays 18 = .ok (.aload_n 0, 1) := by decide +kernel
theorem dX7_areDays_19 : decode cX7_areDays 19 = .ok (.getfield 144, 3) := by decide +kernel
theorem dX7_areDays_22 : decode cX7_areDays 22 = .ok (.ifCond .le 7, 3) := by decide +kernel
theorem dX7_areDays_25 : decode cX7_areDays 25 = .ok (.iconst 1, 1) := by decide +kernel
theorem dX7_areDays_26 : decode cX7_areDays 26 = .ok (.goto 4, 3) := by decide +kernel
theorem dX7_areDays_29 : decode cX7_areDays 29 = .ok (.iconst 0, 1) := by decide +kernel
theorem dX7_areDays_30 : decode cX7_areDays 30 = .ok (.ireturn, 1) := by decide +kernel
theorem dX7_less_0 : decode cX7_less 0 = .ok (.iload_n 0, 1) := by decide +kernel
theorem dX7_less_1 : decode cX7_less 1 = .ok (.iload_n 1, 1) := by decide +kernel
theorem dX7_less_2 : decode cX7_less 2 = .ok (.if_icmp .le 9, 3) := by decide +kernel
theorem dX7_less_5 : decode cX7_less 5 = .ok (.iload_n 0, 1) := by decide +kernel
theorem dX7_less_6 : decode cX7_less 6 = .ok (.iload_n 1, 1) := by decide +kernel
theorem dX7_less_7 : decode cX7_less 7 = .ok (.isub, 1) := by decide +kernel
theorem dX7_less_8 : decode cX7_less 8 = .ok (.goto 4, 3) := by decide +kernel
theorem dX7_less_11 : decode cX7_less 11 = .ok (.iconst 0, 1) := by decide +kernel
theorem dX7_less_12 : decode cX7_less 12 = .ok (.ireturn, 1) := by decide +kernel
theorem dX7_thawOf_0 : decode cX7_thawOf 0 = .ok (.iload_n 0, 1) := by decide +kernel
theorem dX7_thawOf_1 : decode cX7_thawOf 1 = .ok (.iconst 4, 1) := by decide +kernel
theorem dX7_thawOf_2 : decode cX7_thawOf 2 = .ok (.if_icmp .ne 11, 3) := by decide +kernel
theorem dX7_thawOf_5 : decode cX7_thawOf 5 = .ok (.iload_n 1, 1) := by decide +kernel
theorem dX7_thawOf_6 : decode cX7_thawOf 6 = .ok (.iconst 1, 1) := by decide +kernel
theorem dX7_thawOf_7 : decode cX7_thawOf 7 = .ok (.iadd, 1) := by decide +kernel
theorem dX7_thawOf_8 : decode cX7_thawOf 8 = .ok (.iconst 2, 1) := by decide +kernel
theorem dX7_thawOf_9 : decode cX7_thawOf 9 = .ok (.idiv, 1) := by decide +kernel
theorem dX7_thawOf_10 : decode cX7_thawOf 10 = .ok (.goto 4, 3) := by decide +kernel
theorem dX7_thawOf_13 : decode cX7_thawOf 13 = .ok (.iload_n 1, 1) := by decide +kernel
theorem dX7_thawOf_14 : decode cX7_thawOf 14 = .ok (.ireturn, 1) := by decide +kernel
theorem dX7_thaw_0 : decode cX7_thaw 0 = .ok (.iconst 0, 1) := by decide +kernel
theorem dX7_thaw_1 : decode cX7_thaw 1 = .ok (.istore_n 2, 1) := by decide +kernel
theorem dX7_thaw_2 : decode cX7_thaw 2 = .ok (.iload_n 2, 1) := by decide +kernel
theorem dX7_thaw_3 : decode cX7_thaw 3 = .ok (.bipush 16, 2) := by decide +kernel
theorem dX7_thaw_5 : decode cX7_thaw 5 = .ok (.if_icmp .ge 32, 3) := by decide +kernel
theorem dX7_thaw_8 : decode cX7_thaw 8 = .ok (.aload_n 0, 1) := by decide +kernel
theorem dX7_thaw_9 : decode cX7_thaw 9 = .ok (.getfield 13, 3) := by decide +kernel
theorem dX7_thaw_12 : decode cX7_thaw 12 = .ok (.iload_n 2, 1) := by decide +kernel
theorem dX7_thaw_13 : decode cX7_thaw 13 = .ok (.iconst 0, 1) := by decide +kernel
theorem dX7_thaw_14 : decode cX7_thaw 14 = .ok (.iastore, 1) := by decide +kernel
theorem dX7_thaw_15 : decode cX7_thaw 15 = .ok (.aload_n 0, 1) := by decide +kernel
theorem dX7_thaw_16 : decode cX7_thaw 16 = .ok (.getfield 7, 3) := by decide +kernel
theorem dX7_thaw_19 : decode cX7_thaw 19 = .ok (.iload_n 2, 1) := by decide +kernel
theorem dX7_thaw_20 : decode cX7_thaw 20 = .ok (.aload_n 0, 1) := by decide +kernel
theorem dX7_thaw_21 : decode cX7_thaw 21 = .ok (.getfield 7, 3) := by decide +kernel
theorem dX7_thaw_24 : decode cX7_thaw 24 = .ok (.iload_n 2, 1) := by decide +kernel
theorem dX7_thaw_25 : decode cX7_thaw 25 = .ok (.iaload, 1) := by decide +kernel
theorem dX7_thaw_26 : decode cX7_thaw 26 = .ok (.iload_n 1, 1) := by decide +kernel
theorem dX7_thaw_27 : decode cX7_thaw 27 = .ok (.invokestatic 160, 3) := by decide +kernel
theorem dX7_thaw_30 : decode cX7_thaw 30 = .ok (.iastore, 1) := by decide +kernel
theorem dX7_thaw_31 : decode cX7_thaw 31 = .ok (.iinc 2 1, 3) := by decide +kernel
theorem dX7_thaw_34 : decode cX7_thaw 34 = .ok (.goto (-32), 3) := by decide +kernel
theorem dX7_thaw_37 : decode cX7_thaw 37 = .ok (.iconst 0, 1) := by decide +kernel
theorem dX7_thaw_38 : decode cX7_thaw 38 = .ok (.istore_n 2, 1) := by decide +kernel
theorem dX7_thaw_39 : decode cX7_thaw 39 = .ok (.iload_n 2, 1) := by decide +kernel
theorem dX7_thaw_40 : decode cX7_thaw 40 = .ok (.aload_n 0, 1) := by decide +kernel
theorem dX7_thaw_41 : decode cX7_thaw 41 = .ok (.getfield 79, 3) := by decide +kernel
theorem dX7_thaw_44 : decode cX7_thaw 44 = .ok (.if_icmp .ge 98, 3) := by decide +kernel
theorem dX7_thaw_47 : decode cX7_thaw 47 = .ok (.aload_n 0, 1) := by decide +kernel
theorem dX7_thaw_48 : decode cX7_thaw 48 = .ok (.iload_n 2, 1) := by decide +kernel
theorem dX7_thaw_49 : decode cX7_thaw 49 = .ok (.invokevirtual 94, 3) := by decide +kernel
theorem dX7_thaw_52 : decode cX7_thaw 52 = .ok (.ifCond .eq 84, 3) := by decide +kernel
theorem dX7_thaw_55 : decode cX7_thaw 55 = .ok (.aload_n 0, 1) := by decide +kernel
theorem dX7_thaw_56 : decode cX7_thaw 56 = .ok (.getfield 16, 3) := by decide +kernel
theorem dX7_thaw_59 : decode cX7_thaw 59 = .ok (.bipush 8, 2) := by decide +kernel
theorem dX7_thaw_61 : decode cX7_thaw 61 = .ok (.iload_n 2, 1) := by decide +kernel
theorem dX7_thaw_62 : decode cX7_thaw 62 = .ok (.imul, 1) := by decide +kernel
theorem dX7_thaw_63 : decode cX7_thaw 63 = .ok (.iconst 5, 1) := by decide +kernel
theorem dX7_thaw_64 : decode cX7_thaw 64 = .ok (.iadd, 1) := by decide +kernel
theorem dX7_thaw_65 : decode cX7_thaw 65 = .ok (.iaload, 1) := by decide +kernel
theorem dX7_thaw_66 : decode cX7_thaw 66 = .ok (.aload_n 0, 1) := by decide +kernel
theorem dX7_thaw_67 : decode cX7_thaw 67 = .ok (.getfield 16, 3) := by decide +kernel
theorem dX7_thaw_70 : decode cX7_thaw 70 = .ok (.bipush 8, 2) := by decide +kernel
theorem dX7_thaw_72 : decode cX7_thaw 72 = .ok (.iload_n 2, 1) := by decide +kernel
theorem dX7_thaw_73 : decode cX7_thaw 73 = .ok (.imul, 1) := by decide +kernel
theorem dX7_thaw_74 : decode cX7_thaw 74 = .ok (.iaload, 1) := by decide +kernel
theorem dX7_thaw_75 : decode cX7_thaw 75 = .ok (.iload_n 1, 1) := by decide +kernel
theorem dX7_thaw_76 : decode cX7_thaw 76 = .ok (.invokestatic 163, 3) := by decide +kernel
theorem dX7_thaw_79 : decode cX7_thaw 79 = .ok (.invokestatic 160, 3) := by decide +kernel
theorem dX7_thaw_82 : decode cX7_thaw 82 = .ok (.istore_n 3, 1) := by decide +kernel
theorem dX7_thaw_83 : decode cX7_thaw 83 = .ok (.aload_n 0, 1) := by decide +kernel
theorem dX7_thaw_84 : decode cX7_thaw 84 = .ok (.getfield 16, 3) := by decide +kernel
theorem dX7_thaw_87 : decode cX7_thaw 87 = .ok (.bipush 8, 2) := by decide +kernel
theorem dX7_thaw_89 : decode cX7_thaw 89 = .ok (.iload_n 2, 1) := by decide +kernel
theorem dX7_thaw_90 : decode cX7_thaw 90 = .ok (.imul, 1) := by decide +kernel
theorem dX7_thaw_91 : decode cX7_thaw 91 = .ok (.iconst 5, 1) := by decide +kernel
theorem dX7_thaw_92 : decode cX7_thaw 92 = .ok (.iadd, 1) := by decide +kernel
theorem dX7_thaw_93 : decode cX7_thaw 93 = .ok (.iload_n 3, 1) := by decide +kernel
theorem dX7_thaw_94 : decode cX7_thaw 94 = .ok (.iastore, 1) := by decide +kernel
theorem dX7_thaw_95 : decode cX7_thaw 95 = .ok (.iload_n 3, 1) := by decide +kernel
theorem dX7_thaw_96 : decode cX7_thaw 96 = .ok (.ifCond .eq 35, 3) := by decide +kernel
theorem dX7_thaw_99 : decode cX7_thaw 99 = .ok (.aload_n 0, 1) := by decide +kernel
theorem dX7_thaw_100 : decode cX7_thaw 100 = .ok (.getfield 7, 3) := by decide +kernel
theorem dX7_thaw_103 : decode cX7_thaw 103 = .ok (.aload_n 0, 1) := by decide +kernel
theorem dX7_thaw_104 : decode cX7_thaw 104 = .ok (.getfield 16, 3) := by decide +kernel
theorem dX7_thaw_107 : decode cX7_thaw 107 = .ok (.bipush 8, 2) := by decide +kernel
theorem dX7_thaw_109 : decode cX7_thaw 109 = .ok (.iload_n 2, 1) := by decide +kernel
theorem dX7_thaw_110 : decode cX7_thaw 110 = .ok (.imul, 1) := by decide +kernel
theorem dX7_thaw_111 : decode cX7_thaw 111 = .ok (.iconst 1, 1) := by decide +kernel
theorem dX7_thaw_112 : decode cX7_thaw 112 = .ok (.iadd, 1) := by decide +kernel
theorem dX7_thaw_113 : decode cX7_thaw 113 = .ok (.iaload, 1) := by decide +kernel
theorem dX7_thaw_114 : decode cX7_thaw 114 = .ok (.iaload, 1) := by decide +kernel
theorem dX7_thaw_115 : decode cX7_thaw 115 = .ok (.ifCond .eq 16, 3) := by decide +kernel
theorem dX7_thaw_118 : decode cX7_thaw 118 = .ok (.aload_n 0, 1) := by decide +kernel
theorem dX7_thaw_119 : decode cX7_thaw 119 = .ok (.getfield 16, 3) := by decide +kernel
theorem dX7_thaw_122 : decode cX7_thaw 122 = .ok (.bipush 8, 2) := by decide +kernel
theorem dX7_thaw_124 : decode cX7_thaw 124 = .ok (.iload_n 2, 1) := by decide +kernel
theorem dX7_thaw_125 : decode cX7_thaw 125 = .ok (.imul, 1) := by decide +kernel
theorem dX7_thaw_126 : decode cX7_thaw 126 = .ok (.iaload, 1) := by decide +kernel
theorem dX7_thaw_127 : decode cX7_thaw 127 = .ok (.iconst 3, 1) := by decide +kernel
theorem dX7_thaw_128 : decode cX7_thaw 128 = .ok (.if_icmp .ne 8, 3) := by decide +kernel
theorem dX7_thaw_131 : decode cX7_thaw 131 = .ok (.aload_n 0, 1) := by decide +kernel
theorem dX7_thaw_132 : decode cX7_thaw 132 = .ok (.iload_n 2, 1) := by decide +kernel
theorem dX7_thaw_133 : decode cX7_thaw 133 = .ok (.invokevirtual 114, 3) := by decide +kernel
theorem dX7_thaw_136 : decode cX7_thaw 136 = .ok (.iinc 2 1, 3) := by decide +kernel
theorem dX7_thaw_139 : decode cX7_thaw 139 = .ok (.goto (-100), 3) := by decide +kernel
theorem dX7_thaw_142 : decode cX7_thaw 142 = .ok (.return_, 1) := by decide +kernel
theorem dX7_day_0 : decode cX7_day 0 = .ok (.iload_n 1, 1) := by decide +kernel
theorem dX7_day_1 : decode cX7_day 1 = .ok (.iconst 1, 1) := by decide +kernel
theorem dX7_day_2 : decode cX7_day 2 = .ok (.if_icmp .ne 8, 3) := by decide +kernel
theorem dX7_day_5 : decode cX7_day 5 = .ok (.aload_n 0, 1) := by decide +kernel
theorem dX7_day_6 : decode cX7_day 6 = .ok (.iload_n 2, 1) := by decide +kernel
theorem dX7_day_7 : decode cX7_day 7 = .ok (.invokevirtual 166, 3) := by decide +kernel
theorem dX7_day_10 : decode cX7_day 10 = .ok (.iconst 0, 1) := by decide +kernel
theorem dX7_day_11 : decode cX7_day 11 = .ok (.istore_n 3, 1) := by decide +kernel
theorem dX7_day_12 : decode cX7_day 12 = .ok (.iload_n 3, 1) := by decide +kernel
theorem dX7_day_13 : decode cX7_day 13 = .ok (.bipush 16, 2) := by decide +kernel
theorem dX7_day_15 : decode cX7_day 15 = .ok (.if_icmp .ge 102, 3) := by decide +kernel
theorem dX7_day_18 : decode cX7_day 18 = .ok (.aload_n 0, 1) := by decide +kernel
theorem dX7_day_19 : decode cX7_day 19 = .ok (.getfield 7, 3) := by decide +kernel
theorem dX7_day_22 : decode cX7_day 22 = .ok (.iload_n 3, 1) := by decide +kernel
theorem dX7_day_23 : decode cX7_day 23 = .ok (.iload_n 1, 1) := by decide +kernel
theorem dX7_day_24 : decode cX7_day 24 = .ok (.ifCond .ne 32, 3) := by decide +kernel
theorem dX7_day_27 : decode cX7_day 27 = .ok (.aload_n 0, 1) := by decide +kernel
theorem dX7_day_28 : decode cX7_day 28 = .ok (.getfield 7, 3) := by decide +kernel
theorem dX7_day_31 : decode cX7_day 31 = .ok (.iload_n 3, 1) := by decide +kernel
theorem dX7_day_32 : decode cX7_day 32 = .ok (.iaload, 1) := by decide +kernel
theorem dX7_day_33 : decode cX7_day 33 = .ok (.iload_n 2, 1) := by decide +kernel
theorem dX7_day_34 : decode cX7_day 34 = .ok (.iadd, 1) := by decide +kernel
theorem dX7_day_35 : decode cX7_day 35 = .ok (.bipush 99, 2) := by decide +kernel
theorem dX7_day_37 : decode cX7_day 37 = .ok (.if_icmp .le 8, 3) := by decide +kernel
theorem dX7_day_40 : decode cX7_day 40 = .ok (.bipush 99, 2) := by decide +kernel
theorem dX7_day_42 : decode cX7_day 42 = .ok (.goto 20, 3) := by decide +kernel
theorem dX7_day_45 : decode cX7_day 45 = .ok (.aload_n 0, 1) := by decide +kernel
theorem dX7_day_46 : decode cX7_day 46 = .ok (.getfield 7, 3) := by decide +kernel
theorem dX7_day_49 : decode cX7_day 49 = .ok (.iload_n 3, 1) := by decide +kernel
theorem dX7_day_50 : decode cX7_day 50 = .ok (.iaload, 1) := by decide +kernel
theorem dX7_day_51 : decode cX7_day 51 = .ok (.iload_n 2, 1) := by decide +kernel
theorem dX7_day_52 : decode cX7_day 52 = .ok (.iadd, 1) := by decide +kernel
theorem dX7_day_53 : decode cX7_day 53 = .ok (.goto 9, 3) := by decide +kernel
theorem dX7_day_56 : decode cX7_day 56 = .ok (.aload_n 0, 1) := by decide +kernel
theorem dX7_day_57 : decode cX7_day 57 = .ok (.getfield 7, 3) := by decide +kernel
theorem dX7_day_60 : decode cX7_day 60 = .ok (.iload_n 3, 1) := by decide +kernel
theorem dX7_day_61 : decode cX7_day 61 = .ok (.iaload, 1) := by decide +kernel
theorem dX7_day_62 : decode cX7_day 62 = .ok (.iastore, 1) := by decide +kernel
theorem dX7_day_63 : decode cX7_day 63 = .ok (.aload_n 0, 1) := by decide +kernel
theorem dX7_day_64 : decode cX7_day 64 = .ok (.getfield 13, 3) := by decide +kernel
theorem dX7_day_67 : decode cX7_day 67 = .ok (.iload_n 3, 1) := by decide +kernel
theorem dX7_day_68 : decode cX7_day 68 = .ok (.iload_n 1, 1) := by decide +kernel
theorem dX7_day_69 : decode cX7_day 69 = .ok (.iconst 3, 1) := by decide +kernel
theorem dX7_day_70 : decode cX7_day 70 = .ok (.if_icmp .ne 7, 3) := by decide +kernel
theorem dX7_day_73 : decode cX7_day 73 = .ok (.iconst 0, 1) := by decide +kernel
theorem dX7_day_74 : decode cX7_day 74 = .ok (.goto 36, 3) := by decide +kernel
theorem dX7_day_77 : decode cX7_day 77 = .ok (.iload_n 1, 1) := by decide +kernel
theorem dX7_day_78 : decode cX7_day 78 = .ok (.iconst 2, 1) := by decide +kernel
theorem dX7_day_79 : decode cX7_day 79 = .ok (.if_icmp .ne 25, 3) := by decide +kernel
theorem dX7_day_82 : decode cX7_day 82 = .ok (.aload_n 0, 1) := by decide +kernel
theorem dX7_day_83 : decode cX7_day 83 = .ok (.getfield 13, 3) := by decide +kernel
theorem dX7_day_86 : decode cX7_day 86 = .ok (.iload_n 3, 1) := by decide +kernel
theorem dX7_day_87 : decode cX7_day 87 = .ok (.iaload, 1) := by decide +kernel
theorem dX7_day_88 : decode cX7_day 88 = .ok (.bipush 9, 2) := by decide +kernel
theorem dX7_day_90 : decode cX7_day 90 = .ok (.if_icmp .ge 14, 3) := by decide +kernel
theorem dX7_day_93 : decode cX7_day 93 = .ok (.aload_n 0, 1) := by decide +kernel
theorem dX7_day_94 : decode cX7_day 94 = .ok (.getfield 13, 3) := by decide +kernel
theorem dX7_day_97 : decode cX7_day 97 = .ok (.iload_n 3, 1) := by decide +kernel
theorem dX7_day_98 : decode cX7_day 98 = .ok (.iaload, 1) := by decide +kernel
theorem dX7_day_99 : decode cX7_day 99 = .ok (.iconst 1, 1) := by decide +kernel
theorem dX7_day_100 : decode cX7_day 100 = .ok (.iadd, 1) := by decide +kernel
theorem dX7_day_101 : decode cX7_day 101 = .ok (.goto 9, 3) := by decide +kernel
theorem dX7_day_104 : decode cX7_day 104 = .ok (.aload_n 0, 1) := by decide +kernel
theorem dX7_day_105 : decode cX7_day 105 = .ok (.getfield 13, 3) := by decide +kernel
theorem dX7_day_108 : decode cX7_day 108 = .ok (.iload_n 3, 1) := by decide +kernel
theorem dX7_day_109 : decode cX7_day 109 = .ok (.iaload, 1) := by decide +kernel
theorem dX7_day_110 : decode cX7_day 110 = .ok (.iastore, 1) := by decide +kernel
theorem dX7_day_111 : decode cX7_day 111 = .ok (.iinc 3 1, 3) := by decide +kernel
theorem dX7_day_114 : decode cX7_day 114 = .ok (.goto (-102), 3) := by decide +kernel
theorem dX7_day_117 : decode cX7_day 117 = .ok (.return_, 1) := by decide +kernel
theorem dX7_thereMany_0 : decode cX7_thereMany 0 = .ok (.iconst 0, 1) := by decide +kernel
theorem dX7_thereMany_1 : decode cX7_thereMany 1 = .ok (.istore_n 1, 1) := by decide +kernel
theorem dX7_thereMany_2 : decode cX7_thereMany 2 = .ok (.iconst 0, 1) := by decide +kernel
theorem dX7_thereMany_3 : decode cX7_thereMany 3 = .ok (.istore_n 2, 1) := by decide +kernel
theorem dX7_thereMany_4 : decode cX7_thereMany 4 = .ok (.iload_n 2, 1) := by decide +kernel
theorem dX7_thereMany_5 : decode cX7_thereMany 5 = .ok (.aload_n 0, 1) := by decide +kernel
theorem dX7_thereMany_6 : decode cX7_thereMany 6 = .ok (.getfield 79, 3) := by decide +kernel
theorem dX7_thereMany_9 : decode cX7_thereMany 9 = .ok (.if_icmp .ge 32, 3) := by decide +kernel
theorem dX7_thereMany_12 : decode cX7_thereMany 12 = .ok (.iload_n 1, 1) := by decide +kernel
theorem dX7_thereMany_13 : decode cX7_thereMany 13 = .ok (.aload_n 0, 1) := by decide +kernel
theorem dX7_thereMany_14 : decode cX7_thereMany 14 = .ok (.getfield 16, 3) := by decide +kernel
theorem dX7_thereMany_17 : decode cX7_thereMany 17 = .ok (.bipush 8, 2) := by decide +kernel
theorem dX7_thereMany_19 : decode cX7_thereMany 19 = .ok (.iload_n 2, 1) := by decide +kernel
theorem dX7_thereMany_20 : decode cX7_thereMany 20 = .ok (.imul, 1) := by decide +kernel
theorem dX7_thereMany_21 : decode cX7_thereMany 21 = .ok (.bipush 6, 2) := by decide +kernel
theorem dX7_thereMany_23 : decode cX7_thereMany 23 = .ok (.iadd, 1) := by decide +kernel
theorem dX7_thereMany_24 : decode cX7_thereMany 24 = .ok (.iaload, 1) := by decide +kernel
theorem dX7_thereMany_25 : decode cX7_thereMany 25 = .ok (.ifCond .le 7, 3) := by decide +kernel
theorem dX7_thereMany_28 : decode cX7_thereMany 28 = .ok (.iconst 1, 1) := by decide +kernel
theorem dX7_thereMany_29 : decode cX7_thereMany 29 = .ok (.goto 4, 3) := by decide +kernel
theorem dX7_thereMany_32 : decode cX7_thereMany 32 = .ok (.iconst 0, 1) := by decide +kernel
theorem dX7_thereMany_33 : decode cX7_thereMany 33 = .ok (.iadd, 1) := by decide +kernel
theorem dX7_thereMany_34 : decode cX7_thereMany 34 = .ok (.istore_n 1, 1) := by decide +kernel
theorem dX7_thereMany_35 : decode cX7_thereMany 35 = .ok (.iinc 2 1, 3) := by decide +kernel
theorem dX7_thereMany_38 : decode cX7_thereMany 38 = .ok (.goto (-34), 3) := by decide +kernel
theorem dX7_thereMany_41 : decode cX7_thereMany 41 = .ok (.iload_n 1, 1) := by decide +kernel
theorem dX7_thereMany_42 : decode cX7_thereMany 42 = .ok (.ireturn, 1) := by decide +kernel
theorem dX7_days_0 : decode cX7_days 0 = .ok (.aload_n 0, 1) := by decide +kernel
theorem dX7_days_1 : decode cX7_days 1 = .ok (.invokevirtual 169, 3) := by decide +kernel
theorem dX7_days_4 : decode cX7_days 4 = .ok (.ifCond .ne 6, 3) := by decide +kernel
theorem dX7_days_7 : decode cX7_days 7 = .ok (.bipush (-103), 2) := by decide +kernel
theorem dX7_days_9 : decode cX7_days 9 = .ok (.ireturn, 1) := by decide +kernel
theorem dX7_days_10 : decode cX7_days 10 = .ok (.aload_n 0, 1) := by decide +kernel
theorem dX7_days_11 : decode cX7_days 11 = .ok (.invokevirtual 173, 3) := by decide +kernel
theorem dX7_days_14 : decode cX7_days 14 = .ok (.istore_n 1, 1) := by decide +kernel
theorem dX7_days_15 : decode cX7_days 15 = .ok (.iconst 0, 1) := by decide +kernel
theorem dX7_days_16 : decode cX7_days 16 = .ok (.istore_n 2, 1) := by decide +kernel
theorem dX7_days_17 : decode cX7_days 17 = .ok (.iload_n 2, 1) := by decide +kernel
theorem dX7_days_18 : decode cX7_days 18 = .ok (.aload_n 0, 1) := by decide +kernel
theorem dX7_days_19 : decode cX7_days 19 = .ok (.getfield 144, 3) := by decide +kernel
theorem dX7_days_22 : decode cX7_days 22 = .ok (.if_icmp .ge 25, 3) := by decide +kernel
theorem dX7_days_25 : decode cX7_days 25 = .ok (.aload_n 0, 1) := by decide +kernel
theorem dX7_days_26 : decode cX7_days 26 = .ok (.aload_n 0, 1) := by decide +kernel
theorem dX7_days_27 : decode cX7_days 27 = .ok (.getfield 22, 3) := by decide +kernel
theorem dX7_days_30 : decode cX7_days 30 = .ok (.iload_n 2, 1) := by decide +kernel
theorem dX7_days_31 : decode cX7_days 31 = .ok (.iaload, 1) := by decide +kernel
theorem dX7_days_32 : decode cX7_days 32 = .ok (.aload_n 0, 1) := by decide +kernel
theorem dX7_days_33 : decode cX7_days 33 = .ok (.getfield 25, 3) := by decide +kernel
theorem dX7_days_36 : decode cX7_days 36 = .ok (.iload_n 2, 1) := by decide +kernel
theorem dX7_days_37 : decode cX7_days 37 = .ok (.iaload, 1) := by decide +kernel
theorem dX7_days_38 : decode cX7_days 38 = .ok (.invokevirtual 176, 3) := by decide +kernel
theorem dX7_days_41 : decode cX7_days 41 = .ok (.iinc 2 1, 3) := by decide +kernel
theorem dX7_days_44 : decode cX7_days 44 = .ok (.goto (-27), 3) := by decide +kernel
theorem dX7_days_47 : decode cX7_days 47 = .ok (.aload_n 0, 1) := by decide +kernel
theorem dX7_days_48 : decode cX7_days 48 = .ok (.dup, 1) := by decide +kernel
end
section
theorem dX7_days_49 : decode cX7_days 49 = .ok (.getfield 88, 3) := by decide +kernel
theorem dX7_days_52 : decode cX7_days 52 = .ok (.aload_n 0, 1) := by decide +kernel
theorem dX7_days_53 : decode cX7_days 53 = .ok (.getfield 144, 3) := by decide +kernel
theorem dX7_days_56 : decode cX7_days 56 = .ok (.iadd, 1) := by decide +kernel
theorem dX7_days_57 : decode cX7_days 57 = .ok (.putfield 88, 3) := by decide +kernel
theorem dX7_days_60 : decode cX7_days 60 = .ok (.aload_n 0, 1) := by decide +kernel
theorem dX7_days_61 : decode cX7_days 61 = .ok (.iconst 0, 1) := by decide +kernel
theorem dX7_days_62 : decode cX7_days 62 = .ok (.putfield 137, 3) := by decide +kernel
theorem dX7_days_65 : decode cX7_days 65 = .ok (.iload_n 1, 1) := by decide +kernel
theorem dX7_days_66 : decode cX7_days 66 = .ok (.aload_n 0, 1) := by decide +kernel
theorem dX7_days_67 : decode cX7_days 67 = .ok (.invokevirtual 173, 3) := by decide +kernel
theorem dX7_days_70 : decode cX7_days 70 = .ok (.isub, 1) := by decide +kernel
theorem dX7_days_71 : decode cX7_days 71 = .ok (.ireturn, 1) := by decide +kernel
theorem dX7_stays_0 : decode cX7_stays 0 = .ok (.iload_n 2, 1) := by decide +kernel
theorem dX7_stays_1 : decode cX7_stays 1 = .ok (.istore 4, 2) := by decide +kernel
theorem dX7_stays_3 : decode cX7_stays 3 = .ok (.iload_n 3, 1) := by decide +kernel
theorem dX7_stays_4 : decode cX7_stays 4 = .ok (.istore 5, 2) := by decide +kernel
theorem dX7_stays_6 : decode cX7_stays 6 = .ok (.iload 4, 2) := by decide +kernel
theorem dX7_stays_8 : decode cX7_stays 8 = .ok (.iload 5, 2) := by decide +kernel
theorem dX7_stays_10 : decode cX7_stays 10 = .ok (.if_icmp .gt 7, 3) := by decide +kernel
theorem dX7_stays_13 : decode cX7_stays 13 = .ok (.iconst 1, 1) := by decide +kernel
theorem dX7_stays_14 : decode cX7_stays 14 = .ok (.goto 4, 3) := by decide +kernel
theorem dX7_stays_17 : decode cX7_stays 17 = .ok (.iconst 0, 1) := by decide +kernel
theorem dX7_stays_18 : decode cX7_stays 18 = .ok (.istore 6, 2) := by decide +kernel
theorem dX7_stays_20 : decode cX7_stays 20 = .ok (.iconst 0, 1) := by decide +kernel
theorem dX7_stays_21 : decode cX7_stays 21 = .ok (.istore 7, 2) := by decide +kernel
theorem dX7_stays_23 : decode cX7_stays 23 = .ok (.iload 7, 2) := by decide +kernel
theorem dX7_stays_25 : decode cX7_stays 25 = .ok (.aload_n 0, 1) := by decide +kernel
theorem dX7_stays_26 : decode cX7_stays 26 = .ok (.getfield 144, 3) := by decide +kernel
theorem dX7_stays_29 : decode cX7_stays 29 = .ok (.if_icmp .ge 113, 3) := by decide +kernel
theorem dX7_stays_32 : decode cX7_stays 32 = .ok (.iload 6, 2) := by decide +kernel
theorem dX7_stays_34 : decode cX7_stays 34 = .ok (.ifCond .eq 108, 3) := by decide +kernel
theorem dX7_stays_37 : decode cX7_stays 37 = .ok (.aload_n 0, 1) := by decide +kernel
theorem dX7_stays_38 : decode cX7_stays 38 = .ok (.getfield 25, 3) := by decide +kernel
theorem dX7_stays_41 : decode cX7_stays 41 = .ok (.iload 7, 2) := by decide +kernel
theorem dX7_stays_43 : decode cX7_stays 43 = .ok (.iaload, 1) := by decide +kernel
theorem dX7_stays_44 : decode cX7_stays 44 = .ok (.istore 8, 2) := by decide +kernel
theorem dX7_stays_46 : decode cX7_stays 46 = .ok (.aload_n 0, 1) := by decide +kernel
theorem dX7_stays_47 : decode cX7_stays 47 = .ok (.getfield 22, 3) := by decide +kernel
theorem dX7_stays_50 : decode cX7_stays 50 = .ok (.iload 7, 2) := by decide +kernel
theorem dX7_stays_52 : decode cX7_stays 52 = .ok (.iaload, 1) := by decide +kernel
theorem dX7_stays_53 : decode cX7_stays 53 = .ok (.iconst 1, 1) := by decide +kernel
theorem dX7_stays_54 : decode cX7_stays 54 = .ok (.if_icmp .ne 50, 3) := by decide +kernel
theorem dX7_stays_57 : decode cX7_stays 57 = .ok (.iload 5, 2) := by decide +kernel
theorem dX7_stays_59 : decode cX7_stays 59 = .ok (.iload 8, 2) := by decide +kernel
theorem dX7_stays_61 : decode cX7_stays 61 = .ok (.invokestatic 160, 3) := by decide +kernel
theorem dX7_stays_64 : decode cX7_stays 64 = .ok (.istore 5, 2) := by decide +kernel
theorem dX7_stays_66 : decode cX7_stays 66 = .ok (.iload 4, 2) := by decide +kernel
theorem dX7_stays_68 : decode cX7_stays 68 = .ok (.iload_n 1, 1) := by decide +kernel
theorem dX7_stays_69 : decode cX7_stays 69 = .ok (.iload 8, 2) := by decide +kernel
theorem dX7_stays_71 : decode cX7_stays 71 = .ok (.invokestatic 163, 3) := by decide +kernel
theorem dX7_stays_74 : decode cX7_stays 74 = .ok (.invokestatic 160, 3) := by decide +kernel
theorem dX7_stays_77 : decode cX7_stays 77 = .ok (.istore 4, 2) := by decide +kernel
theorem dX7_stays_79 : decode cX7_stays 79 = .ok (.iload 5, 2) := by decide +kernel
theorem dX7_stays_81 : decode cX7_stays 81 = .ok (.ifCond .le 17, 3) := by decide +kernel
theorem dX7_stays_84 : decode cX7_stays 84 = .ok (.iload 4, 2) := by decide +kernel
theorem dX7_stays_86 : decode cX7_stays 86 = .ok (.ifCond .le 12, 3) := by decide +kernel
theorem dX7_stays_89 : decode cX7_stays 89 = .ok (.iload_n 1, 1) := by decide +kernel
theorem dX7_stays_90 : decode cX7_stays 90 = .ok (.iconst 3, 1) := by decide +kernel
theorem dX7_stays_91 : decode cX7_stays 91 = .ok (.if_icmp .eq 7, 3) := by decide +kernel
theorem dX7_stays_94 : decode cX7_stays 94 = .ok (.iconst 1, 1) := by decide +kernel
theorem dX7_stays_95 : decode cX7_stays 95 = .ok (.goto 4, 3) := by decide +kernel
theorem dX7_stays_98 : decode cX7_stays 98 = .ok (.iconst 0, 1) := by decide +kernel
theorem dX7_stays_99 : decode cX7_stays 99 = .ok (.istore 6, 2) := by decide +kernel
theorem dX7_stays_101 : decode cX7_stays 101 = .ok (.goto 35, 3) := by decide +kernel
theorem dX7_stays_104 : decode cX7_stays 104 = .ok (.aload_n 0, 1) := by decide +kernel
theorem dX7_stays_105 : decode cX7_stays 105 = .ok (.getfield 22, 3) := by decide +kernel
theorem dX7_stays_108 : decode cX7_stays 108 = .ok (.iload 7, 2) := by decide +kernel
theorem dX7_stays_110 : decode cX7_stays 110 = .ok (.iaload, 1) := by decide +kernel
theorem dX7_stays_111 : decode cX7_stays 111 = .ok (.ifCond .ne 25, 3) := by decide +kernel
theorem dX7_stays_114 : decode cX7_stays 114 = .ok (.iload 5, 2) := by decide +kernel
theorem dX7_stays_116 : decode cX7_stays 116 = .ok (.iload 8, 2) := by decide +kernel
theorem dX7_stays_118 : decode cX7_stays 118 = .ok (.iadd, 1) := by decide +kernel
theorem dX7_stays_119 : decode cX7_stays 119 = .ok (.bipush 99, 2) := by decide +kernel
theorem dX7_stays_121 : decode cX7_stays 121 = .ok (.if_icmp .le 8, 3) := by decide +kernel
theorem dX7_stays_124 : decode cX7_stays 124 = .ok (.bipush 99, 2) := by decide +kernel
theorem dX7_stays_126 : decode cX7_stays 126 = .ok (.goto 8, 3) := by decide +kernel
theorem dX7_stays_129 : decode cX7_stays 129 = .ok (.iload 5, 2) := by decide +kernel
theorem dX7_stays_131 : decode cX7_stays 131 = .ok (.iload 8, 2) := by decide +kernel
theorem dX7_stays_133 : decode cX7_stays 133 = .ok (.iadd, 1) := by decide +kernel
theorem dX7_stays_134 : decode cX7_stays 134 = .ok (.istore 5, 2) := by decide +kernel
theorem dX7_stays_136 : decode cX7_stays 136 = .ok (.iinc 7 1, 3) := by decide +kernel
theorem dX7_stays_139 : decode cX7_stays 139 = .ok (.goto (-116), 3) := by decide +kernel
theorem dX7_stays_142 : decode cX7_stays 142 = .ok (.iload 6, 2) := by decide +kernel
theorem dX7_stays_144 : decode cX7_stays 144 = .ok (.ireturn, 1) := by decide +kernel
theorem dX7_needed_0 : decode cX7_needed 0 = .ok (.aload_n 0, 1) := by decide +kernel
theorem dX7_needed_1 : decode cX7_needed 1 = .ok (.iload_n 2, 1) := by decide +kernel
theorem dX7_needed_2 : decode cX7_needed 2 = .ok (.invokevirtual 98, 3) := by decide +kernel
theorem dX7_needed_5 : decode cX7_needed 5 = .ok (.ifCond .ne 6, 3) := by decide +kernel
theorem dX7_needed_8 : decode cX7_needed 8 = .ok (.bipush (-101), 2) := by decide +kernel
theorem dX7_needed_10 : decode cX7_needed 10 = .ok (.ireturn, 1) := by decide +kernel
theorem dX7_needed_11 : decode cX7_needed 11 = .ok (.iload_n 1, 1) := by decide +kernel
theorem dX7_needed_12 : decode cX7_needed 12 = .ok (.i2l, 1) := by decide +kernel
theorem dX7_needed_13 : decode cX7_needed 13 = .ok (.lconst 0, 1) := by decide +kernel
theorem dX7_needed_14 : decode cX7_needed 14 = .ok (.ldc2_w 86, 3) := by decide +kernel
theorem dX7_needed_17 : decode cX7_needed 17 = .ok (.invokestatic 75, 3) := by decide +kernel
theorem dX7_needed_20 : decode cX7_needed 20 = .ok (.ifCond .ne 6, 3) := by decide +kernel
theorem dX7_needed_23 : decode cX7_needed 23 = .ok (.bipush (-102), 2) := by decide +kernel
theorem dX7_needed_25 : decode cX7_needed 25 = .ok (.ireturn, 1) := by decide +kernel
theorem dX7_needed_26 : decode cX7_needed 26 = .ok (.aload_n 0, 1) := by decide +kernel
theorem dX7_needed_27 : decode cX7_needed 27 = .ok (.invokevirtual 169, 3) := by decide +kernel
theorem dX7_needed_30 : decode cX7_needed 30 = .ok (.ifCond .ne 6, 3) := by decide +kernel
theorem dX7_needed_33 : decode cX7_needed 33 = .ok (.bipush (-103), 2) := by decide +kernel
theorem dX7_needed_35 : decode cX7_needed 35 = .ok (.ireturn, 1) := by decide +kernel
theorem dX7_needed_36 : decode cX7_needed 36 = .ok (.iconst 1, 1) := by decide +kernel
theorem dX7_needed_37 : decode cX7_needed 37 = .ok (.istore_n 3, 1) := by decide +kernel
theorem dX7_needed_38 : decode cX7_needed 38 = .ok (.iload_n 3, 1) := by decide +kernel
theorem dX7_needed_39 : decode cX7_needed 39 = .ok (.bipush 10, 2) := by decide +kernel
theorem dX7_needed_41 : decode cX7_needed 41 = .ok (.if_icmp .ge 37, 3) := by decide +kernel
theorem dX7_needed_44 : decode cX7_needed 44 = .ok (.aload_n 0, 1) := by decide +kernel
theorem dX7_needed_45 : decode cX7_needed 45 = .ok (.iload_n 1, 1) := by decide +kernel
theorem dX7_needed_46 : decode cX7_needed 46 = .ok (.iload_n 1, 1) := by decide +kernel
theorem dX7_needed_47 : decode cX7_needed 47 = .ok (.iconst 1, 1) := by decide +kernel
theorem dX7_needed_48 : decode cX7_needed 48 = .ok (.if_icmp .ne 9, 3) := by decide +kernel
theorem dX7_needed_51 : decode cX7_needed 51 = .ok (.iconst 2, 1) := by decide +kernel
theorem dX7_needed_52 : decode cX7_needed 52 = .ok (.iload_n 3, 1) := by decide +kernel
theorem dX7_needed_53 : decode cX7_needed 53 = .ok (.imul, 1) := by decide +kernel
theorem dX7_needed_54 : decode cX7_needed 54 = .ok (.goto 4, 3) := by decide +kernel
theorem dX7_needed_57 : decode cX7_needed 57 = .ok (.iload_n 3, 1) := by decide +kernel
theorem dX7_needed_58 : decode cX7_needed 58 = .ok (.aload_n 0, 1) := by decide +kernel
theorem dX7_needed_59 : decode cX7_needed 59 = .ok (.getfield 7, 3) := by decide +kernel
theorem dX7_needed_62 : decode cX7_needed 62 = .ok (.iload_n 2, 1) := by decide +kernel
theorem dX7_needed_63 : decode cX7_needed 63 = .ok (.iaload, 1) := by decide +kernel
theorem dX7_needed_64 : decode cX7_needed 64 = .ok (.invokevirtual 180, 3) := by decide +kernel
theorem dX7_needed_67 : decode cX7_needed 67 = .ok (.ifCond .eq 5, 3) := by decide +kernel
theorem dX7_needed_70 : decode cX7_needed 70 = .ok (.iload_n 3, 1) := by decide +kernel
theorem dX7_needed_71 : decode cX7_needed 71 = .ok (.ireturn, 1) := by decide +kernel
theorem dX7_needed_72 : decode cX7_needed 72 = .ok (.iinc 3 1, 3) := by decide +kernel
theorem dX7_needed_75 : decode cX7_needed 75 = .ok (.goto (-37), 3) := by decide +kernel
theorem dX7_needed_78 : decode cX7_needed 78 = .ok (.iconst (-1), 1) := by decide +kernel
theorem dX7_needed_79 : decode cX7_needed 79 = .ok (.ireturn, 1) := by decide +kernel
theorem dX7_bears_0 : decode cX7_bears 0 = .ok (.aload_n 0, 1) := by decide +kernel
theorem dX7_bears_1 : decode cX7_bears 1 = .ok (.iload_n 1, 1) := by decide +kernel
theorem dX7_bears_2 : decode cX7_bears 2 = .ok (.invokevirtual 98, 3) := by decide +kernel
theorem dX7_bears_5 : decode cX7_bears 5 = .ok (.ifCond .ne 6, 3) := by decide +kernel
theorem dX7_bears_8 : decode cX7_bears 8 = .ok (.bipush (-101), 2) := by decide +kernel
theorem dX7_bears_10 : decode cX7_bears 10 = .ok (.ireturn, 1) := by decide +kernel
theorem dX7_bears_11 : decode cX7_bears 11 = .ok (.aload_n 0, 1) := by decide +kernel
theorem dX7_bears_12 : decode cX7_bears 12 = .ok (.invokevirtual 169, 3) := by decide +kernel
theorem dX7_bears_15 : decode cX7_bears 15 = .ok (.ifCond .ne 6, 3) := by decide +kernel
theorem dX7_bears_18 : decode cX7_bears 18 = .ok (.bipush (-103), 2) := by decide +kernel
theorem dX7_bears_20 : decode cX7_bears 20 = .ok (.ireturn, 1) := by decide +kernel
theorem dX7_bears_21 : decode cX7_bears 21 = .ok (.aload_n 0, 1) := by decide +kernel
theorem dX7_bears_22 : decode cX7_bears 22 = .ok (.getfield 7, 3) := by decide +kernel
theorem dX7_bears_25 : decode cX7_bears 25 = .ok (.iload_n 1, 1) := by decide +kernel
theorem dX7_bears_26 : decode cX7_bears 26 = .ok (.iaload, 1) := by decide +kernel
theorem dX7_bears_27 : decode cX7_bears 27 = .ok (.istore_n 2, 1) := by decide +kernel
theorem dX7_bears_28 : decode cX7_bears 28 = .ok (.iconst 0, 1) := by decide +kernel
theorem dX7_bears_29 : decode cX7_bears 29 = .ok (.istore_n 3, 1) := by decide +kernel
theorem dX7_bears_30 : decode cX7_bears 30 = .ok (.iload_n 2, 1) := by decide +kernel
theorem dX7_bears_31 : decode cX7_bears 31 = .ok (.iconst 4, 1) := by decide +kernel
theorem dX7_bears_32 : decode cX7_bears 32 = .ok (.if_icmp .ge 62, 3) := by decide +kernel
theorem dX7_bears_35 : decode cX7_bears 35 = .ok (.iload_n 3, 1) := by decide +kernel
theorem dX7_bears_36 : decode cX7_bears 36 = .ok (.aload_n 0, 1) := by decide +kernel
theorem dX7_bears_37 : decode cX7_bears 37 = .ok (.getfield 144, 3) := by decide +kernel
theorem dX7_bears_40 : decode cX7_bears 40 = .ok (.if_icmp .ge 54, 3) := by decide +kernel
theorem dX7_bears_43 : decode cX7_bears 43 = .ok (.aload_n 0, 1) := by decide +kernel
theorem dX7_bears_44 : decode cX7_bears 44 = .ok (.getfield 22, 3) := by decide +kernel
theorem dX7_bears_47 : decode cX7_bears 47 = .ok (.iload_n 3, 1) := by decide +kernel
theorem dX7_bears_48 : decode cX7_bears 48 = .ok (.iaload, 1) := by decide +kernel
theorem dX7_bears_49 : decode cX7_bears 49 = .ok (.ifCond .ne 14, 3) := by decide +kernel
theorem dX7_bears_52 : decode cX7_bears 52 = .ok (.iload_n 2, 1) := by decide +kernel
theorem dX7_bears_53 : decode cX7_bears 53 = .ok (.aload_n 0, 1) := by decide +kernel
theorem dX7_bears_54 : decode cX7_bears 54 = .ok (.getfield 25, 3) := by decide +kernel
theorem dX7_bears_57 : decode cX7_bears 57 = .ok (.iload_n 3, 1) := by decide +kernel
theorem dX7_bears_58 : decode cX7_bears 58 = .ok (.iaload, 1) := by decide +kernel
theorem dX7_bears_59 : decode cX7_bears 59 = .ok (.iadd, 1) := by decide +kernel
theorem dX7_bears_60 : decode cX7_bears 60 = .ok (.goto 27, 3) := by decide +kernel
theorem dX7_bears_63 : decode cX7_bears 63 = .ok (.aload_n 0, 1) := by decide +kernel
theorem dX7_bears_64 : decode cX7_bears 64 = .ok (.getfield 22, 3) := by decide +kernel
theorem dX7_bears_67 : decode cX7_bears 67 = .ok (.iload_n 3, 1) := by decide +kernel
theorem dX7_bears_68 : decode cX7_bears 68 = .ok (.iaload, 1) := by decide +kernel
theorem dX7_bears_69 : decode cX7_bears 69 = .ok (.iconst 1, 1) := by decide +kernel
theorem dX7_bears_70 : decode cX7_bears 70 = .ok (.if_icmp .ne 16, 3) := by decide +kernel
theorem dX7_bears_73 : decode cX7_bears 73 = .ok (.iload_n 2, 1) := by decide +kernel
theorem dX7_bears_74 : decode cX7_bears 74 = .ok (.aload_n 0, 1) := by decide +kernel
theorem dX7_bears_75 : decode cX7_bears 75 = .ok (.getfield 25, 3) := by decide +kernel
theorem dX7_bears_78 : decode cX7_bears 78 = .ok (.iload_n 3, 1) := by decide +kernel
theorem dX7_bears_79 : decode cX7_bears 79 = .ok (.iaload, 1) := by decide +kernel
theorem dX7_bears_80 : decode cX7_bears 80 = .ok (.invokestatic 160, 3) := by decide +kernel
theorem dX7_bears_83 : decode cX7_bears 83 = .ok (.goto 4, 3) := by decide +kernel
theorem dX7_bears_86 : decode cX7_bears 86 = .ok (.iload_n 2, 1) := by decide +kernel
theorem dX7_bears_87 : decode cX7_bears 87 = .ok (.istore_n 2, 1) := by decide +kernel
theorem dX7_bears_88 : decode cX7_bears 88 = .ok (.iinc 3 1, 3) := by decide +kernel
theorem dX7_bears_91 : decode cX7_bears 91 = .ok (.goto (-61), 3) := by decide +kernel
theorem dX7_bears_94 : decode cX7_bears 94 = .ok (.iload_n 2, 1) := by decide +kernel
theorem dX7_bears_95 : decode cX7_bears 95 = .ok (.iconst 4, 1) := by decide +kernel
theorem dX7_bears_96 : decode cX7_bears 96 = .ok (.if_icmp .ge 7, 3) := by decide +kernel
theorem dX7_bears_99 : decode cX7_bears 99 = .ok (.iconst (-1), 1) := by decide +kernel
theorem dX7_bears_100 : decode cX7_bears 100 = .ok (.goto 4, 3) := by decide +kernel
theorem dX7_bears_103 : decode cX7_bears 103 = .ok (.iload_n 3, 1) := by decide +kernel
theorem dX7_bears_104 : decode cX7_bears 104 = .ok (.ireturn, 1) := by decide +kernel
theorem dX7_owesOf_0 : decode cX7_owesOf 0 = .ok (.iconst 0, 1) := by decide +kernel
theorem dX7_owesOf_1 : decode cX7_owesOf 1 = .ok (.istore 4, 2) := by decide +kernel
theorem dX7_owesOf_3 : decode cX7_owesOf 3 = .ok (.iconst 0, 1) := by decide +kernel
theorem dX7_owesOf_4 : decode cX7_owesOf 4 = .ok (.istore 5, 2) := by decide +kernel
theorem dX7_owesOf_6 : decode cX7_owesOf 6 = .ok (.iload 5, 2) := by decide +kernel
theorem dX7_owesOf_8 : decode cX7_owesOf 8 = .ok (.aload_n 0, 1) := by decide +kernel
theorem dX7_owesOf_9 : decode cX7_owesOf 9 = .ok (.getfield 79, 3) := by decide +kernel
theorem dX7_owesOf_12 : decode cX7_owesOf 12 = .ok (.if_icmp .ge 82, 3) := by decide +kernel
theorem dX7_owesOf_15 : decode cX7_owesOf 15 = .ok (.aload_n 0, 1) := by decide +kernel
theorem dX7_owesOf_16 : decode cX7_owesOf 16 = .ok (.getfield 16, 3) := by decide +kernel
theorem dX7_owesOf_19 : decode cX7_owesOf 19 = .ok (.bipush 8, 2) := by decide +kernel
theorem dX7_owesOf_21 : decode cX7_owesOf 21 = .ok (.iload 5, 2) := by decide +kernel
theorem dX7_owesOf_23 : decode cX7_owesOf 23 = .ok (.imul, 1) := by decide +kernel
theorem dX7_owesOf_24 : decode cX7_owesOf 24 = .ok (.iconst 2, 1) := by decide +kernel
theorem dX7_owesOf_25 : decode cX7_owesOf 25 = .ok (.iadd, 1) := by decide +kernel
theorem dX7_owesOf_26 : decode cX7_owesOf 26 = .ok (.iaload, 1) := by decide +kernel
theorem dX7_owesOf_27 : decode cX7_owesOf 27 = .ok (.iload_n 1, 1) := by decide +kernel
theorem dX7_owesOf_28 : decode cX7_owesOf 28 = .ok (.if_icmp .ne 37, 3) := by decide +kernel
theorem dX7_owesOf_31 : decode cX7_owesOf 31 = .ok (.aload_n 0, 1) := by decide +kernel
theorem dX7_owesOf_32 : decode cX7_owesOf 32 = .ok (.getfield 16, 3) := by decide +kernel
theorem dX7_owesOf_35 : decode cX7_owesOf 35 = .ok (.bipush 8, 2) := by decide +kernel
theorem dX7_owesOf_37 : decode cX7_owesOf 37 = .ok (.iload 5, 2) := by decide +kernel
theorem dX7_owesOf_39 : decode cX7_owesOf 39 = .ok (.imul, 1) := by decide +kernel
theorem dX7_owesOf_40 : decode cX7_owesOf 40 = .ok (.iconst 3, 1) := by decide +kernel
theorem dX7_owesOf_41 : decode cX7_owesOf 41 = .ok (.iadd, 1) := by decide +kernel
theorem dX7_owesOf_42 : decode cX7_owesOf 42 = .ok (.iaload, 1) := by decide +kernel
theorem dX7_owesOf_43 : decode cX7_owesOf 43 = .ok (.iload_n 2, 1) := by decide +kernel
theorem dX7_owesOf_44 : decode cX7_owesOf 44 = .ok (.if_icmp .ne 21, 3) := by decide +kernel
theorem dX7_owesOf_47 : decode cX7_owesOf 47 = .ok (.iload_n 3, 1) := by decide +kernel
theorem dX7_owesOf_48 : decode cX7_owesOf 48 = .ok (.ifCond .eq 13, 3) := by decide +kernel
theorem dX7_owesOf_51 : decode cX7_owesOf 51 = .ok (.aload_n 0, 1) := by decide +kernel
theorem dX7_owesOf_52 : decode cX7_owesOf 52 = .ok (.iload 5, 2) := by decide +kernel
theorem dX7_owesOf_54 : decode cX7_owesOf 54 = .ok (.invokevirtual 126, 3) := by decide +kernel
theorem dX7_owesOf_57 : decode cX7_owesOf 57 = .ok (.iconst 1, 1) := by decide +kernel
theorem dX7_owesOf_58 : decode cX7_owesOf 58 = .ok (.if_icmp .le 7, 3) := by decide +kernel
theorem dX7_owesOf_61 : decode cX7_owesOf 61 = .ok (.iconst 1, 1) := by decide +kernel
theorem dX7_owesOf_62 : decode cX7_owesOf 62 = .ok (.goto 4, 3) := by decide +kernel
theorem dX7_owesOf_65 : decode cX7_owesOf 65 = .ok (.iconst 0, 1) := by decide +kernel
theorem dX7_owesOf_66 : decode cX7_owesOf 66 = .ok (.istore 6, 2) := by decide +kernel
theorem dX7_owesOf_68 : decode cX7_owesOf 68 = .ok (.iload 4, 2) := by decide +kernel
theorem dX7_owesOf_70 : decode cX7_owesOf 70 = .ok (.iload 6, 2) := by decide +kernel
theorem dX7_owesOf_72 : decode cX7_owesOf 72 = .ok (.ifCond .eq 12, 3) := by decide +kernel
theorem dX7_owesOf_75 : decode cX7_owesOf 75 = .ok (.aload_n 0, 1) := by decide +kernel
theorem dX7_owesOf_76 : decode cX7_owesOf 76 = .ok (.iload 5, 2) := by decide +kernel
theorem dX7_owesOf_78 : decode cX7_owesOf 78 = .ok (.invokevirtual 123, 3) := by decide +kernel
theorem dX7_owesOf_81 : decode cX7_owesOf 81 = .ok (.goto 4, 3) := by decide +kernel
theorem dX7_owesOf_84 : decode cX7_owesOf 84 = .ok (.iconst 0, 1) := by decide +kernel
theorem dX7_owesOf_85 : decode cX7_owesOf 85 = .ok (.iadd, 1) := by decide +kernel
theorem dX7_owesOf_86 : decode cX7_owesOf 86 = .ok (.istore 4, 2) := by decide +kernel
theorem dX7_owesOf_88 : decode cX7_owesOf 88 = .ok (.iinc 5 1, 3) := by decide +kernel
theorem dX7_owesOf_91 : decode cX7_owesOf 91 = .ok (.goto (-85), 3) := by decide +kernel
theorem dX7_owesOf_94 : decode cX7_owesOf 94 = .ok (.iload 4, 2) := by decide +kernel
theorem dX7_owesOf_96 : decode cX7_owesOf 96 = .ok (.ireturn, 1) := by decide +kernel
theorem dX7_owes_0 : decode cX7_owes 0 = .ok (.iload_n 1, 1) := by decide +kernel
theorem dX7_owes_1 : decode cX7_owes 1 = .ok (.invokestatic 118, 3) := by decide +kernel
theorem dX7_owes_4 : decode cX7_owes 4 = .ok (.ifCond .eq 25, 3) := by decide +kernel
theorem dX7_owes_7 : decode cX7_owes 7 = .ok (.iload_n 2, 1) := by decide +kernel
theorem dX7_owes_8 : decode cX7_owes 8 = .ok (.invokestatic 118, 3) := by decide +kernel
theorem dX7_owes_11 : decode cX7_owes 11 = .ok (.ifCond .eq 18, 3) := by decide +kernel
theorem dX7_owes_14 : decode cX7_owes 14 = .ok (.iload_n 1, 1) := by decide +kernel
theorem dX7_owes_15 : decode cX7_owes 15 = .ok (.iload_n 2, 1) := by decide +kernel
theorem dX7_owes_16 : decode cX7_owes 16 = .ok (.if_icmp .eq 13, 3) := by decide +kernel
theorem dX7_owes_19 : decode cX7_owes 19 = .ok (.aload_n 0, 1) := by decide +kernel
theorem dX7_owes_20 : decode cX7_owes 20 = .ok (.iload_n 1, 1) := by decide +kernel
theorem dX7_owes_21 : decode cX7_owes 21 = .ok (.iload_n 2, 1) := by decide +kernel
theorem dX7_owes_22 : decode cX7_owes 22 = .ok (.iload_n 3, 1) := by decide +kernel
theorem dX7_owes_23 : decode cX7_owes 23 = .ok (.invokevirtual 184, 3) := by decide +kernel
theorem dX7_owes_26 : decode cX7_owes 26 = .ok (.goto 5, 3) := by decide +kernel
theorem dX7_owes_29 : decode cX7_owes 29 = .ok (.bipush (-101), 2) := by decide +kernel
theorem dX7_owes_31 : decode cX7_owes 31 = .ok (.ireturn, 1) := by decide +kernel
theorem dX7_restOf_0 : decode cX7_restOf 0 = .ok (.iconst 0, 1) := by decide +kernel
theorem dX7_restOf_1 : decode cX7_restOf 1 = .ok (.istore_n 2, 1) := by decide +kernel
theorem dX7_restOf_2 : decode cX7_restOf 2 = .ok (.iconst 0, 1) := by decide +kernel
theorem dX7_restOf_3 : decode cX7_restOf 3 = .ok (.istore_n 3, 1) := by decide +kernel
theorem dX7_restOf_4 : decode cX7_restOf 4 = .ok (.iload_n 3, 1) := by decide +kernel
theorem dX7_restOf_5 : decode cX7_restOf 5 = .ok (.bipush 6, 2) := by decide +kernel
theorem dX7_restOf_7 : decode cX7_restOf 7 = .ok (.if_icmp .ge 27, 3) := by decide +kernel
theorem dX7_restOf_10 : decode cX7_restOf 10 = .ok (.iload_n 2, 1) := by decide +kernel
theorem dX7_restOf_11 : decode cX7_restOf 11 = .ok (.aload_n 0, 1) := by decide +kernel
theorem dX7_restOf_12 : decode cX7_restOf 12 = .ok (.iload_n 3, 1) := by decide +kernel
theorem dX7_restOf_13 : decode cX7_restOf 13 = .ok (.iload_n 1, 1) := by decide +kernel
theorem dX7_restOf_14 : decode cX7_restOf 14 = .ok (.iconst 0, 1) := by decide +kernel
theorem dX7_restOf_15 : decode cX7_restOf 15 = .ok (.invokevirtual 184, 3) := by decide +kernel
theorem dX7_restOf_18 : decode cX7_restOf 18 = .ok (.aload_n 0, 1) := by decide +kernel
theorem dX7_restOf_19 : decode cX7_restOf 19 = .ok (.iload_n 1, 1) := by decide +kernel
theorem dX7_restOf_20 : decode cX7_restOf 20 = .ok (.iload_n 3, 1) := by decide +kernel
theorem dX7_restOf_21 : decode cX7_restOf 21 = .ok (.iconst 0, 1) := by decide +kernel
theorem dX7_restOf_22 : decode cX7_restOf 22 = .ok (.invokevirtual 184, 3) := by decide +kernel
theorem dX7_restOf_25 : decode cX7_restOf 25 = .ok (.isub, 1) := by decide +kernel
theorem dX7_restOf_26 : decode cX7_restOf 26 = .ok (.iadd, 1) := by decide +kernel
theorem dX7_restOf_27 : decode cX7_restOf 27 = .ok (.istore_n 2, 1) := by decide +kernel
theorem dX7_restOf_28 : decode cX7_restOf 28 = .ok (.iinc 3 1, 3) := by decide +kernel
theorem dX7_restOf_31 : decode cX7_restOf 31 = .ok (.goto (-27), 3) := by decide +kernel
theorem dX7_restOf_34 : decode cX7_restOf 34 = .ok (.iload_n 2, 1) := by decide +kernel
theorem dX7_restOf_35 : decode cX7_restOf 35 = .ok (.ireturn, 1) := by decide +kernel
theorem dX7_rest_0 : decode cX7_rest 0 = .ok (.iload_n 1, 1) := by decide +kernel
theorem dX7_rest_1 : decode cX7_rest 1 = .ok (.invokestatic 118, 3) := by decide +kernel
theorem dX7_rest_4 : decode cX7_rest 4 = .ok (.ifCond .eq 11, 3) := by decide +kernel
theorem dX7_rest_7 : decode cX7_rest 7 = .ok (.aload_n 0, 1) := by decide +kernel
theorem dX7_rest_8 : decode cX7_rest 8 = .ok (.iload_n 1, 1) := by decide +kernel
theorem dX7_rest_9 : decode cX7_rest 9 = .ok (.invokevirtual 188, 3) := by decide +kernel
theorem dX7_rest_12 : decode cX7_rest 12 = .ok (.goto 5, 3) := by decide +kernel
theorem dX7_rest_15 : decode cX7_rest 15 = .ok (.ldc 191, 2) := by decide +kernel
theorem dX7_rest_17 : decode cX7_rest 17 = .ok (.ireturn, 1) := by decide +kernel
theorem dX7_weightOf_0 : decode cX7_weightOf 0 = .ok (.iconst 0, 1) := by decide +kernel
theorem dX7_weightOf_1 : decode cX7_weightOf 1 = .ok (.istore_n 2, 1) := by decide +kernel
theorem dX7_weightOf_2 : decode cX7_weightOf 2 = .ok (.iconst 0, 1) := by decide +kernel
theorem dX7_weightOf_3 : decode cX7_weightOf 3 = .ok (.istore_n 3, 1) := by decide +kernel
theorem dX7_weightOf_4 : decode cX7_weightOf 4 = .ok (.iload_n 3, 1) := by decide +kernel
theorem dX7_weightOf_5 : decode cX7_weightOf 5 = .ok (.aload_n 0, 1) := by decide +kernel
theorem dX7_weightOf_6 : decode cX7_weightOf 6 = .ok (.getfield 79, 3) := by decide +kernel
theorem dX7_weightOf_9 : decode cX7_weightOf 9 = .ok (.if_icmp .ge 41, 3) := by decide +kernel
theorem dX7_weightOf_12 : decode cX7_weightOf 12 = .ok (.iload_n 2, 1) := by decide +kernel
theorem dX7_weightOf_13 : decode cX7_weightOf 13 = .ok (.iload_n 1, 1) := by decide +kernel
theorem dX7_weightOf_14 : decode cX7_weightOf 14 = .ok (.iload_n 3, 1) := by decide +kernel
theorem dX7_weightOf_15 : decode cX7_weightOf 15 = .ok (.ishr, 1) := by decide +kernel
theorem dX7_weightOf_16 : decode cX7_weightOf 16 = .ok (.iconst 1, 1) := by decide +kernel
theorem dX7_weightOf_17 : decode cX7_weightOf 17 = .ok (.iand, 1) := by decide +kernel
theorem dX7_weightOf_18 : decode cX7_weightOf 18 = .ok (.iconst 1, 1) := by decide +kernel
theorem dX7_weightOf_19 : decode cX7_weightOf 19 = .ok (.if_icmp .ne 22, 3) := by decide +kernel
theorem dX7_weightOf_22 : decode cX7_weightOf 22 = .ok (.aload_n 0, 1) := by decide +kernel
theorem dX7_weightOf_23 : decode cX7_weightOf 23 = .ok (.getfield 7, 3) := by decide +kernel
theorem dX7_weightOf_26 : decode cX7_weightOf 26 = .ok (.aload_n 0, 1) := by decide +kernel
theorem dX7_weightOf_27 : decode cX7_weightOf 27 = .ok (.getfield 16, 3) := by decide +kernel
theorem dX7_weightOf_30 : decode cX7_weightOf 30 = .ok (.bipush 8, 2) := by decide +kernel
theorem dX7_weightOf_32 : decode cX7_weightOf 32 = .ok (.iload_n 3, 1) := by decide +kernel
theorem dX7_weightOf_33 : decode cX7_weightOf 33 = .ok (.imul, 1) := by decide +kernel
theorem dX7_weightOf_34 : decode cX7_weightOf 34 = .ok (.iconst 1, 1) := by decide +kernel
theorem dX7_weightOf_35 : decode cX7_weightOf 35 = .ok (.iadd, 1) := by decide +kernel
theorem dX7_weightOf_36 : decode cX7_weightOf 36 = .ok (.iaload, 1) := by decide +kernel
theorem dX7_weightOf_37 : decode cX7_weightOf 37 = .ok (.iaload, 1) := by decide +kernel
theorem dX7_weightOf_38 : decode cX7_weightOf 38 = .ok (.goto 4, 3) := by decide +kernel
theorem dX7_weightOf_41 : decode cX7_weightOf 41 = .ok (.iconst 0, 1) := by decide +kernel
theorem dX7_weightOf_42 : decode cX7_weightOf 42 = .ok (.iadd, 1) := by decide +kernel
theorem dX7_weightOf_43 : decode cX7_weightOf 43 = .ok (.istore_n 2, 1) := by decide +kernel
theorem dX7_weightOf_44 : decode cX7_weightOf 44 = .ok (.iinc 3 1, 3) := by decide +kernel
theorem dX7_weightOf_47 : decode cX7_weightOf 47 = .ok (.goto (-43), 3) := by decide +kernel
theorem dX7_weightOf_50 : decode cX7_weightOf 50 = .ok (.iload_n 2, 1) := by decide +kernel
theorem dX7_weightOf_51 : decode cX7_weightOf 51 = .ok (.ireturn, 1) := by decide +kernel
theorem dX7_ones_0 : decode cX7_ones 0 = .ok (.iconst 0, 1) := by decide +kernel
theorem dX7_ones_1 : decode cX7_ones 1 = .ok (.istore_n 1, 1) := by decide +kernel
theorem dX7_ones_2 : decode cX7_ones 2 = .ok (.iconst 0, 1) := by decide +kernel
theorem dX7_ones_3 : decode cX7_ones 3 = .ok (.istore_n 2, 1) := by decide +kernel
theorem dX7_ones_4 : decode cX7_ones 4 = .ok (.iload_n 2, 1) := by decide +kernel
theorem dX7_ones_5 : decode cX7_ones 5 = .ok (.bipush 10, 2) := by decide +kernel
theorem dX7_ones_7 : decode cX7_ones 7 = .ok (.if_icmp .ge 17, 3) := by decide +kernel
theorem dX7_ones_10 : decode cX7_ones 10 = .ok (.iload_n 1, 1) := by decide +kernel
theorem dX7_ones_11 : decode cX7_ones 11 = .ok (.iload_n 0, 1) := by decide +kernel
theorem dX7_ones_12 : decode cX7_ones 12 = .ok (.iload_n 2, 1) := by decide +kernel
theorem dX7_ones_13 : decode cX7_ones 13 = .ok (.ishr, 1) := by decide +kernel
theorem dX7_ones_14 : decode cX7_ones 14 = .ok (.iconst 1, 1) := by decide +kernel
theorem dX7_ones_15 : decode cX7_ones 15 = .ok (.iand, 1) := by decide +kernel
theorem dX7_ones_16 : decode cX7_ones 16 = .ok (.iadd, 1) := by decide +kernel
theorem dX7_ones_17 : decode cX7_ones 17 = .ok (.istore_n 1, 1) := by decide +kernel
theorem dX7_ones_18 : decode cX7_ones 18 = .ok (.iinc 2 1, 3) := by decide +kernel
theorem dX7_ones_21 : decode cX7_ones 21 = .ok (.goto (-17), 3) := by decide +kernel
theorem dX7_ones_24 : decode cX7_ones 24 = .ok (.iload_n 1, 1) := by decide +kernel
theorem dX7_ones_25 : decode cX7_ones 25 = .ok (.ireturn, 1) := by decide +kernel
theorem dX7_layFits_0 : decode cX7_layFits 0 = .ok (.iconst 1, 1) := by decide +kernel
theorem dX7_layFits_1 : decode cX7_layFits 1 = .ok (.aload_n 0, 1) := by decide +kernel
theorem dX7_layFits_2 : decode cX7_layFits 2 = .ok (.getfield 79, 3) := by decide +kernel
theorem dX7_layFits_5 : decode cX7_layFits 5 = .ok (.ishl, 1) := by decide +kernel
theorem dX7_layFits_6 : decode cX7_layFits 6 = .ok (.istore_n 2, 1) := by decide +kernel
theorem dX7_layFits_7 : decode cX7_layFits 7 = .ok (.iconst 0, 1) := by decide +kernel
theorem dX7_layFits_8 : decode cX7_layFits 8 = .ok (.istore_n 3, 1) := by decide +kernel
theorem dX7_layFits_9 : decode cX7_layFits 9 = .ok (.iload_n 3, 1) := by decide +kernel
theorem dX7_layFits_10 : decode cX7_layFits 10 = .ok (.iload_n 2, 1) := by decide +kernel
theorem dX7_layFits_11 : decode cX7_layFits 11 = .ok (.if_icmp .ge 30, 3) := by decide +kernel
theorem dX7_layFits_14 : decode cX7_layFits 14 = .ok (.aload_n 0, 1) := by decide +kernel
theorem dX7_layFits_15 : decode cX7_layFits 15 = .ok (.getfield 28, 3) := by decide +kernel
theorem dX7_layFits_18 : decode cX7_layFits 18 = .ok (.iload_n 3, 1) := by decide +kernel
theorem dX7_layFits_19 : decode cX7_layFits 19 = .ok (.aload_n 0, 1) := by decide +kernel
theorem dX7_layFits_20 : decode cX7_layFits 20 = .ok (.iload_n 3, 1) := by decide +kernel
theorem dX7_layFits_21 : decode cX7_layFits 21 = .ok (.invokevirtual 192, 3) := by decide +kernel
theorem dX7_layFits_24 : decode cX7_layFits 24 = .ok (.iload_n 1, 1) := by decide +kernel
theorem dX7_layFits_25 : decode cX7_layFits 25 = .ok (.if_icmp .gt 7, 3) := by decide +kernel
theorem dX7_layFits_28 : decode cX7_layFits 28 = .ok (.iconst 1, 1) := by decide +kernel
theorem dX7_layFits_29 : decode cX7_layFits 29 = .ok (.goto 5, 3) := by decide +kernel
theorem dX7_layFits_32 : decode cX7_layFits 32 = .ok (.bipush 9, 2) := by decide +kernel
theorem dX7_layFits_34 : decode cX7_layFits 34 = .ok (.iastore, 1) := by decide +kernel
theorem dX7_layFits_35 : decode cX7_layFits 35 = .ok (.iinc 3 1, 3) := by decide +kernel
theorem dX7_layFits_38 : decode cX7_layFits 38 = .ok (.goto (-29), 3) := by decide +kernel
theorem dX7_layFits_41 : decode cX7_layFits 41 = .ok (.iconst 2, 1) := by decide +kernel
theorem dX7_layFits_42 : decode cX7_layFits 42 = .ok (.istore_n 3, 1) := by decide +kernel
theorem dX7_layFits_43 : decode cX7_layFits 43 = .ok (.iload_n 3, 1) := by decide +kernel
theorem dX7_layFits_44 : decode cX7_layFits 44 = .ok (.iconst 4, 1) := by decide +kernel
theorem dX7_layFits_45 : decode cX7_layFits 45 = .ok (.if_icmp .ge 114, 3) := by decide +kernel
theorem dX7_layFits_48 : decode cX7_layFits 48 = .ok (.iconst 0, 1) := by decide +kernel
theorem dX7_layFits_49 : decode cX7_layFits 49 = .ok (.istore 4, 2) := by decide +kernel
theorem dX7_layFits_51 : decode cX7_layFits 51 = .ok (.iload 4, 2) := by decide +kernel
theorem dX7_layFits_53 : decode cX7_layFits 53 = .ok (.iload_n 2, 1) := by decide +kernel
theorem dX7_layFits_54 : decode cX7_layFits 54 = .ok (.if_icmp .ge 99, 3) := by decide +kernel
theorem dX7_layFits_57 : decode cX7_layFits 57 = .ok (.iload 4, 2) := by decide +kernel
theorem dX7_layFits_59 : decode cX7_layFits 59 = .ok (.istore 5, 2) := by decide +kernel
theorem dX7_layFits_61 : decode cX7_layFits 61 = .ok (.iload 5, 2) := by decide +kernel
theorem dX7_layFits_63 : decode cX7_layFits 63 = .ok (.ifCond .le 84, 3) := by decide +kernel
theorem dX7_layFits_66 : decode cX7_layFits 66 = .ok (.aload_n 0, 1) := by decide +kernel
theorem dX7_layFits_67 : decode cX7_layFits 67 = .ok (.getfield 28, 3) := by decide +kernel
theorem dX7_layFits_70 : decode cX7_layFits 70 = .ok (.iload 4, 2) := by decide +kernel
theorem dX7_layFits_72 : decode cX7_layFits 72 = .ok (.iaload, 1) := by decide +kernel
theorem dX7_layFits_73 : decode cX7_layFits 73 = .ok (.bipush 9, 2) := by decide +kernel
theorem dX7_layFits_75 : decode cX7_layFits 75 = .ok (.if_icmp .ne 72, 3) := by decide +kernel
theorem dX7_layFits_78 : decode cX7_layFits 78 = .ok (.aload_n 0, 1) := by decide +kernel
theorem dX7_layFits_79 : decode cX7_layFits 79 = .ok (.getfield 28, 3) := by decide +kernel
theorem dX7_layFits_82 : decode cX7_layFits 82 = .ok (.iload 5, 2) := by decide +kernel
theorem dX7_layFits_84 : decode cX7_layFits 84 = .ok (.iaload, 1) := by decide +kernel
theorem dX7_layFits_85 : decode cX7_layFits 85 = .ok (.iconst 1, 1) := by decide +kernel
theorem dX7_layFits_86 : decode cX7_layFits 86 = .ok (.if_icmp .ne 23, 3) := by decide +kernel
theorem dX7_layFits_89 : decode cX7_layFits 89 = .ok (.aload_n 0, 1) := by decide +kernel
theorem dX7_layFits_90 : decode cX7_layFits 90 = .ok (.getfield 28, 3) := by decide +kernel
theorem dX7_layFits_93 : decode cX7_layFits 93 = .ok (.iload 4, 2) := by decide +kernel
theorem dX7_layFits_95 : decode cX7_layFits 95 = .ok (.iload 5, 2) := by decide +kernel
theorem dX7_layFits_97 : decode cX7_layFits 97 = .ok (.isub, 1) := by decide +kernel
theorem dX7_layFits_98 : decode cX7_layFits 98 = .ok (.iaload, 1) := by decide +kernel
theorem dX7_layFits_99 : decode cX7_layFits 99 = .ok (.iload_n 3, 1) := by decide +kernel
theorem dX7_layFits_100 : decode cX7_layFits 100 = .ok (.iconst 1, 1) := by decide +kernel
theorem dX7_layFits_101 : decode cX7_layFits 101 = .ok (.isub, 1) := by decide +kernel
theorem dX7_layFits_102 : decode cX7_layFits 102 = .ok (.if_icmp .ne 7, 3) := by decide +kernel
theorem dX7_layFits_105 : decode cX7_layFits 105 = .ok (.iconst 1, 1) := by decide +kernel
theorem dX7_layFits_106 : decode cX7_layFits 106 = .ok (.goto 4, 3) := by decide +kernel
theorem dX7_layFits_109 : decode cX7_layFits 109 = .ok (.iconst 0, 1) := by decide +kernel
theorem dX7_layFits_110 : decode cX7_layFits 110 = .ok (.istore 6, 2) := by decide +kernel
theorem dX7_layFits_112 : decode cX7_layFits 112 = .ok (.aload_n 0, 1) := by decide +kernel
theorem dX7_layFits_113 : decode cX7_layFits 113 = .ok (.getfield 28, 3) := by decide +kernel
theorem dX7_layFits_116 : decode cX7_layFits 116 = .ok (.iload 4, 2) := by decide +kernel
theorem dX7_layFits_118 : decode cX7_layFits 118 = .ok (.iload 6, 2) := by decide +kernel
theorem dX7_layFits_120 : decode cX7_layFits 120 = .ok (.ifCond .eq 7, 3) := by decide +kernel
theorem dX7_layFits_123 : decode cX7_layFits 123 = .ok (.iload_n 3, 1) := by decide +kernel
theorem dX7_layFits_124 : decode cX7_layFits 124 = .ok (.goto 10, 3) := by decide +kernel
theorem dX7_layFits_127 : decode cX7_layFits 127 = .ok (.aload_n 0, 1) := by decide +kernel
theorem dX7_layFits_128 : decode cX7_layFits 128 = .ok (.getfield 28, 3) := by decide +kernel
theorem dX7_layFits_131 : decode cX7_layFits 131 = .ok (.iload 4, 2) := by decide +kernel
theorem dX7_layFits_133 : decode cX7_layFits 133 = .ok (.iaload, 1) := by decide +kernel
theorem dX7_layFits_134 : decode cX7_layFits 134 = .ok (.iastore, 1) := by decide +kernel
theorem dX7_layFits_135 : decode cX7_layFits 135 = .ok (.iload 5, 2) := by decide +kernel
theorem dX7_layFits_137 : decode cX7_layFits 137 = .ok (.iconst 1, 1) := by decide +kernel
theorem dX7_layFits_138 : decode cX7_layFits 138 = .ok (.isub, 1) := by decide +kernel
theorem dX7_layFits_139 : decode cX7_layFits 139 = .ok (.iload 4, 2) := by decide +kernel
theorem dX7_layFits_141 : decode cX7_layFits 141 = .ok (.iand, 1) := by decide +kernel
theorem dX7_layFits_142 : decode cX7_layFits 142 = .ok (.istore 5, 2) := by decide +kernel
theorem dX7_layFits_144 : decode cX7_layFits 144 = .ok (.goto (-83), 3) := by decide +kernel
theorem dX7_layFits_147 : decode cX7_layFits 147 = .ok (.iinc 4 1, 3) := by decide +kernel
theorem dX7_layFits_150 : decode cX7_layFits 150 = .ok (.goto (-99), 3) := by decide +kernel
theorem dX7_layFits_153 : decode cX7_layFits 153 = .ok (.iinc 3 1, 3) := by decide +kernel
theorem dX7_layFits_156 : decode cX7_layFits 156 = .ok (.goto (-113), 3) := by decide +kernel
theorem dX7_layFits_159 : decode cX7_layFits 159 = .ok (.return_, 1) := by decide +kernel
theorem dX7_sledges_0 : decode cX7_sledges 0 = .ok (.iload_n 1, 1) := by decide +kernel
theorem dX7_sledges_1 : decode cX7_sledges 1 = .ok (.i2l, 1) := by decide +kernel
theorem dX7_sledges_2 : decode cX7_sledges 2 = .ok (.lconst 1, 1) := by decide +kernel
theorem dX7_sledges_3 : decode cX7_sledges 3 = .ok (.ldc2_w 195, 3) := by decide +kernel
theorem dX7_sledges_6 : decode cX7_sledges 6 = .ok (.invokestatic 75, 3) := by decide +kernel
theorem dX7_sledges_9 : decode cX7_sledges 9 = .ok (.ifCond .eq 25, 3) := by decide +kernel
theorem dX7_sledges_12 : decode cX7_sledges 12 = .ok (.iload_n 2, 1) := by decide +kernel
theorem dX7_sledges_13 : decode cX7_sledges 13 = .ok (.i2l, 1) := by decide +kernel
theorem dX7_sledges_14 : decode cX7_sledges 14 = .ok (.lconst 1, 1) := by decide +kernel
theorem dX7_sledges_15 : decode cX7_sledges 15 = .ok (.ldc2_w 197, 3) := by decide +kernel
theorem dX7_sledges_18 : decode cX7_sledges 18 = .ok (.invokestatic 75, 3) := by decide +kernel
theorem dX7_sledges_21 : decode cX7_sledges 21 = .ok (.ifCond .eq 13, 3) := by decide +kernel
theorem dX7_sledges_24 : decode cX7_sledges 24 = .ok (.iload_n 3, 1) := by decide +kernel
theorem dX7_sledges_25 : decode cX7_sledges 25 = .ok (.i2l, 1) := by decide +kernel
theorem dX7_sledges_26 : decode cX7_sledges 26 = .ok (.lconst 0, 1) := by decide +kernel
theorem dX7_sledges_27 : decode cX7_sledges 27 = .ok (.lconst 1, 1) := by decide +kernel
theorem dX7_sledges_28 : decode cX7_sledges 28 = .ok (.invokestatic 75, 3) := by decide +kernel
theorem dX7_sledges_31 : decode cX7_sledges 31 = .ok (.ifCond .ne 6, 3) := by decide +kernel
theorem dX7_sledges_34 : decode cX7_sledges 34 = .ok (.bipush (-102), 2) := by decide +kernel
theorem dX7_sledges_36 : decode cX7_sledges 36 = .ok (.ireturn, 1) := by decide +kernel
theorem dX7_sledges_37 : decode cX7_sledges 37 = .ok (.aload_n 0, 1) := by decide +kernel
theorem dX7_sledges_38 : decode cX7_sledges 38 = .ok (.getfield 199, 3) := by decide +kernel
theorem dX7_sledges_41 : decode cX7_sledges 41 = .ok (.bipush 20, 2) := by decide +kernel
theorem dX7_sledges_43 : decode cX7_sledges 43 = .ok (.if_icmp .ne 6, 3) := by decide +kernel
theorem dX7_sledges_46 : decode cX7_sledges 46 = .ok (.bipush (-103), 2) := by decide +kernel
theorem dX7_sledges_48 : decode cX7_sledges 48 = .ok (.ireturn, 1) := by decide +kernel
theorem dX7_sledges_49 : decode cX7_sledges 49 = .ok (.aload_n 0, 1) := by decide +kernel
theorem dX7_sledges_50 : decode cX7_sledges 50 = .ok (.dup, 1) := by decide +kernel
theorem dX7_sledges_51 : decode cX7_sledges 51 = .ok (.getfield 199, 3) := by decide +kernel
theorem dX7_sledges_54 : decode cX7_sledges 54 = .ok (.iconst 1, 1) := by decide +kernel
theorem dX7_sledges_55 : decode cX7_sledges 55 = .ok (.iadd, 1) := by decide +kernel
theorem dX7_sledges_56 : decode cX7_sledges 56 = .ok (.putfield 199, 3) := by decide +kernel
theorem dX7_sledges_59 : decode cX7_sledges 59 = .ok (.aload_n 0, 1) := by decide +kernel
theorem dX7_sledges_60 : decode cX7_sledges 60 = .ok (.iload_n 2, 1) := by decide +kernel
theorem dX7_sledges_61 : decode cX7_sledges 61 = .ok (.invokevirtual 202, 3) := by decide +kernel
theorem dX7_sledges_64 : decode cX7_sledges 64 = .ok (.iconst 0, 1) := by decide +kernel
theorem dX7_sledges_65 : decode cX7_sledges 65 = .ok (.istore 4, 2) := by decide +kernel
theorem dX7_sledges_67 : decode cX7_sledges 67 = .ok (.iconst 0, 1) := by decide +kernel
theorem dX7_sledges_68 : decode cX7_sledges 68 = .ok (.istore 5, 2) := by decide +kernel
theorem dX7_sledges_70 : decode cX7_sledges 70 = .ok (.iconst 1, 1) := by decide +kernel
theorem dX7_sledges_71 : decode cX7_sledges 71 = .ok (.istore 6, 2) := by decide +kernel
theorem dX7_sledges_73 : decode cX7_sledges 73 = .ok (.iload 6, 2) := by decide +kernel
theorem dX7_sledges_75 : decode cX7_sledges 75 = .ok (.iconst 1, 1) := by decide +kernel
theorem dX7_sledges_76 : decode cX7_sledges 76 = .ok (.aload_n 0, 1) := by decide +kernel
theorem dX7_sledges_77 : decode cX7_sledges 77 = .ok (.getfield 79, 3) := by decide +kernel
theorem dX7_sledges_80 : decode cX7_sledges 80 = .ok (.ishl, 1) := by decide +kernel
theorem dX7_sledges_81 : decode cX7_sledges 81 = .ok (.if_icmp .ge 152, 3) := by decide +kernel
theorem dX7_sledges_84 : decode cX7_sledges 84 = .ok (.iconst 0, 1) := by decide +kernel
theorem dX7_sledges_85 : decode cX7_sledges 85 = .ok (.istore 7, 2) := by decide +kernel
theorem dX7_sledges_87 : decode cX7_sledges 87 = .ok (.aload_n 0, 1) := by decide +kernel
theorem dX7_sledges_88 : decode cX7_sledges 88 = .ok (.getfield 28, 3) := by decide +kernel
theorem dX7_sledges_91 : decode cX7_sledges 91 = .ok (.iload 6, 2) := by decide +kernel
theorem dX7_sledges_93 : decode cX7_sledges 93 = .ok (.iaload, 1) := by decide +kernel
theorem dX7_sledges_94 : decode cX7_sledges 94 = .ok (.iload_n 1, 1) := by decide +kernel
theorem dX7_sledges_95 : decode cX7_sledges 95 = .ok (.if_icmp .gt 7, 3) := by decide +kernel
theorem dX7_sledges_98 : decode cX7_sledges 98 = .ok (.iconst 1, 1) := by decide +kernel
theorem dX7_sledges_99 : decode cX7_sledges 99 = .ok (.goto 4, 3) := by decide +kernel
theorem dX7_sledges_102 : decode cX7_sledges 102 = .ok (.iconst 0, 1) := by decide +kernel
theorem dX7_sledges_103 : decode cX7_sledges 103 = .ok (.istore 8, 2) := by decide +kernel
theorem dX7_sledges_105 : decode cX7_sledges 105 = .ok (.iconst 0, 1) := by decide +kernel
theorem dX7_sledges_106 : decode cX7_sledges 106 = .ok (.istore 9, 2) := by decide +kernel
theorem dX7_sledges_108 : decode cX7_sledges 108 = .ok (.iload 9, 2) := by decide +kernel
theorem dX7_sledges_110 : decode cX7_sledges 110 = .ok (.aload_n 0, 1) := by decide +kernel
theorem dX7_sledges_111 : decode cX7_sledges 111 = .ok (.getfield 79, 3) := by decide +kernel
theorem dX7_sledges_114 : decode cX7_sledges 114 = .ok (.if_icmp .ge 73, 3) := by decide +kernel
theorem dX7_sledges_117 : decode cX7_sledges 117 = .ok (.iload 6, 2) := by decide +kernel
theorem dX7_sledges_119 : decode cX7_sledges 119 = .ok (.iload 9, 2) := by decide +kernel
theorem dX7_sledges_121 : decode cX7_sledges 121 = .ok (.ishr, 1) := by decide +kernel
theorem dX7_sledges_122 : decode cX7_sledges 122 = .ok (.iconst 1, 1) := by decide +kernel
theorem dX7_sledges_123 : decode cX7_sledges 123 = .ok (.iand, 1) := by decide +kernel
theorem dX7_sledges_124 : decode cX7_sledges 124 = .ok (.iconst 1, 1) := by decide +kernel
theorem dX7_sledges_125 : decode cX7_sledges 125 = .ok (.if_icmp .ne 7, 3) := by decide +kernel
theorem dX7_sledges_128 : decode cX7_sledges 128 = .ok (.iconst 1, 1) := by decide +kernel
theorem dX7_sledges_129 : decode cX7_sledges 129 = .ok (.goto 4, 3) := by decide +kernel
theorem dX7_sledges_132 : decode cX7_sledges 132 = .ok (.iconst 0, 1) := by decide +kernel
theorem dX7_sledges_133 : decode cX7_sledges 133 = .ok (.istore 10, 2) := by decide +kernel
theorem dX7_sledges_135 : decode cX7_sledges 135 = .ok (.iload 8, 2) := by decide +kernel
theorem dX7_sledges_137 : decode cX7_sledges 137 = .ok (.ifCond .eq 21, 3) := by decide +kernel
theorem dX7_sledges_140 : decode cX7_sledges 140 = .ok (.iload 10, 2) := by decide +kernel
theorem dX7_sledges_142 : decode cX7_sledges 142 = .ok (.ifCond .eq 12, 3) := by decide +kernel
theorem dX7_sledges_145 : decode cX7_sledges 145 = .ok (.aload_n 0, 1) := by decide +kernel
theorem dX7_sledges_146 : decode cX7_sledges 146 = .ok (.iload 9, 2) := by decide +kernel
theorem dX7_sledges_148 : decode cX7_sledges 148 = .ok (.invokevirtual 94, 3) := by decide +kernel
theorem dX7_sledges_151 : decode cX7_sledges 151 = .ok (.ifCond .eq 7, 3) := by decide +kernel
theorem dX7_sledges_154 : decode cX7_sledges 154 = .ok (.iconst 1, 1) := by decide +kernel
theorem dX7_sledges_155 : decode cX7_sledges 155 = .ok (.goto 4, 3) := by decide +kernel
theorem dX7_sledges_158 : decode cX7_sledges 158 = .ok (.iconst 0, 1) := by decide +kernel
theorem dX7_sledges_159 : decode cX7_sledges 159 = .ok (.istore 8, 2) := by decide +kernel
theorem dX7_sledges_161 : decode cX7_sledges 161 = .ok (.iload 7, 2) := by decide +kernel
theorem dX7_sledges_163 : decode cX7_sledges 163 = .ok (.iload 10, 2) := by decide +kernel
theorem dX7_sledges_165 : decode cX7_sledges 165 = .ok (.ifCond .eq 12, 3) := by decide +kernel
theorem dX7_sledges_168 : decode cX7_sledges 168 = .ok (.aload_n 0, 1) := by decide +kernel
theorem dX7_sledges_169 : decode cX7_sledges 169 = .ok (.iload 9, 2) := by decide +kernel
theorem dX7_sledges_171 : decode cX7_sledges 171 = .ok (.invokevirtual 123, 3) := by decide +kernel
theorem dX7_sledges_174 : decode cX7_sledges 174 = .ok (.goto 4, 3) := by decide +kernel
theorem dX7_sledges_177 : decode cX7_sledges 177 = .ok (.iconst 0, 1) := by decide +kernel
theorem dX7_sledges_178 : decode cX7_sledges 178 = .ok (.iadd, 1) := by decide +kernel
theorem dX7_sledges_179 : decode cX7_sledges 179 = .ok (.istore 7, 2) := by decide +kernel
theorem dX7_sledges_181 : decode cX7_sledges 181 = .ok (.iinc 9 1, 3) := by decide +kernel
theorem dX7_sledges_184 : decode cX7_sledges 184 = .ok (.goto (-76), 3) := by decide +kernel
theorem dX7_sledges_187 : decode cX7_sledges 187 = .ok (.iload 8, 2) := by decide +kernel
theorem dX7_sledges_189 : decode cX7_sledges 189 = .ok (.ifCond .eq 38, 3) := by decide +kernel
theorem dX7_sledges_192 : decode cX7_sledges 192 = .ok (.iload 7, 2) := by decide +kernel
theorem dX7_sledges_194 : decode cX7_sledges 194 = .ok (.iload 5, 2) := by decide +kernel
theorem dX7_sledges_196 : decode cX7_sledges 196 = .ok (.if_icmp .gt 23, 3) := by decide +kernel
theorem dX7_sledges_199 : decode cX7_sledges 199 = .ok (.iload 7, 2) := by decide +kernel
theorem dX7_sledges_201 : decode cX7_sledges 201 = .ok (.iload 5, 2) := by decide +kernel
theorem dX7_sledges_203 : decode cX7_sledges 203 = .ok (.if_icmp .ne 24, 3) := by decide +kernel
theorem dX7_sledges_206 : decode cX7_sledges 206 = .ok (.iload 6, 2) := by decide +kernel
theorem dX7_sledges_208 : decode cX7_sledges 208 = .ok (.invokestatic 205, 3) := by decide +kernel
theorem dX7_sledges_211 : decode cX7_sledges 211 = .ok (.iload 4, 2) := by decide +kernel
theorem dX7_sledges_213 : decode cX7_sledges 213 = .ok (.invokestatic 205, 3) := by decide +kernel
theorem dX7_sledges_216 : decode cX7_sledges 216 = .ok (.if_icmp .ge 11, 3) := by decide +kernel
theorem dX7_sledges_219 : decode cX7_sledges 219 = .ok (.iload 6, 2) := by decide +kernel
theorem dX7_sledges_221 : decode cX7_sledges 221 = .ok (.istore 4, 2) := by decide +kernel
theorem dX7_sledges_223 : decode cX7_sledges 223 = .ok (.iload 7, 2) := by decide +kernel
theorem dX7_sledges_225 : decode cX7_sledges 225 = .ok (.istore 5, 2) := by decide +kernel
theorem dX7_sledges_227 : decode cX7_sledges 227 = .ok (.iinc 6 1, 3) := by decide +kernel
theorem dX7_sledges_230 : decode cX7_sledges 230 = .ok (.goto (-157), 3) := by decide +kernel
theorem dX7_sledges_233 : decode cX7_sledges 233 = .ok (.iload_n 3, 1) := by decide +kernel
theorem dX7_sledges_234 : decode cX7_sledges 234 = .ok (.ifCond .ne 8, 3) := by decide +kernel
theorem dX7_sledges_237 : decode cX7_sledges 237 = .ok (.iload 5, 2) := by decide +kernel
theorem dX7_sledges_239 : decode cX7_sledges 239 = .ok (.goto 5, 3) := by decide +kernel
theorem dX7_sledges_242 : decode cX7_sledges 242 = .ok (.iload 4, 2) := by decide +kernel
theorem dX7_sledges_244 : decode cX7_sledges 244 = .ok (.ireturn, 1) := by decide +kernel
theorem dX7_groupsOf_0 : decode cX7_groupsOf 0 = .ok (.iconst 0, 1) := by decide +kernel
theorem dX7_groupsOf_1 : decode cX7_groupsOf 1 = .ok (.istore_n 1, 1) := by decide +kernel
theorem dX7_groupsOf_2 : decode cX7_groupsOf 2 = .ok (.iload_n 1, 1) := by decide +kernel
theorem dX7_groupsOf_3 : decode cX7_groupsOf 3 = .ok (.bipush 6, 2) := by decide +kernel
theorem dX7_groupsOf_5 : decode cX7_groupsOf 5 = .ok (.if_icmp .ge 20, 3) := by decide +kernel
theorem dX7_groupsOf_8 : decode cX7_groupsOf 8 = .ok (.aload_n 0, 1) := by decide +kernel
theorem dX7_groupsOf_9 : decode cX7_groupsOf 9 = .ok (.getfield 34, 3) := by decide +kernel
theorem dX7_groupsOf_12 : decode cX7_groupsOf 12 = .ok (.iload_n 1, 1) := by decide +kernel
theorem dX7_groupsOf_13 : decode cX7_groupsOf 13 = .ok (.aload_n 0, 1) := by decide +kernel
theorem dX7_groupsOf_14 : decode cX7_groupsOf 14 = .ok (.iload_n 1, 1) := by decide +kernel
theorem dX7_groupsOf_15 : decode cX7_groupsOf 15 = .ok (.invokevirtual 188, 3) := by decide +kernel
theorem dX7_groupsOf_18 : decode cX7_groupsOf 18 = .ok (.iastore, 1) := by decide +kernel
theorem dX7_groupsOf_19 : decode cX7_groupsOf 19 = .ok (.iinc 1 1, 3) := by decide +kernel
theorem dX7_groupsOf_22 : decode cX7_groupsOf 22 = .ok (.goto (-20), 3) := by decide +kernel
theorem dX7_groupsOf_25 : decode cX7_groupsOf 25 = .ok (.iconst 1, 1) := by decide +kernel
theorem dX7_groupsOf_26 : decode cX7_groupsOf 26 = .ok (.istore_n 1, 1) := by decide +kernel
theorem dX7_groupsOf_27 : decode cX7_groupsOf 27 = .ok (.iload_n 1, 1) := by decide +kernel
theorem dX7_groupsOf_28 : decode cX7_groupsOf 28 = .ok (.bipush 64, 2) := by decide +kernel
theorem dX7_groupsOf_30 : decode cX7_groupsOf 30 = .ok (.if_icmp .ge 157, 3) := by decide +kernel
theorem dX7_groupsOf_33 : decode cX7_groupsOf 33 = .ok (.iconst 0, 1) := by decide +kernel
theorem dX7_groupsOf_34 : decode cX7_groupsOf 34 = .ok (.istore_n 2, 1) := by decide +kernel
theorem dX7_groupsOf_35 : decode cX7_groupsOf 35 = .ok (.iconst 0, 1) := by decide +kernel
theorem dX7_groupsOf_36 : decode cX7_groupsOf 36 = .ok (.istore_n 3, 1) := by decide +kernel
theorem dX7_groupsOf_37 : decode cX7_groupsOf 37 = .ok (.iload_n 3, 1) := by decide +kernel
theorem dX7_groupsOf_38 : decode cX7_groupsOf 38 = .ok (.bipush 6, 2) := by decide +kernel
theorem dX7_groupsOf_40 : decode cX7_groupsOf 40 = .ok (.if_icmp .ge 31, 3) := by decide +kernel
theorem dX7_groupsOf_43 : decode cX7_groupsOf 43 = .ok (.iload_n 2, 1) := by decide +kernel
theorem dX7_groupsOf_44 : decode cX7_groupsOf 44 = .ok (.iload_n 1, 1) := by decide +kernel
theorem dX7_groupsOf_45 : decode cX7_groupsOf 45 = .ok (.iload_n 3, 1) := by decide +kernel
theorem dX7_groupsOf_46 : decode cX7_groupsOf 46 = .ok (.ishr, 1) := by decide +kernel
theorem dX7_groupsOf_47 : decode cX7_groupsOf 47 = .ok (.iconst 1, 1) := by decide +kernel
theorem dX7_groupsOf_48 : decode cX7_groupsOf 48 = .ok (.iand, 1) := by decide +kernel
theorem dX7_groupsOf_49 : decode cX7_groupsOf 49 = .ok (.iconst 1, 1) := by decide +kernel
theorem dX7_groupsOf_50 : decode cX7_groupsOf 50 = .ok (.if_icmp .ne 12, 3) := by decide +kernel
theorem dX7_groupsOf_53 : decode cX7_groupsOf 53 = .ok (.aload_n 0, 1) := by decide +kernel
theorem dX7_groupsOf_54 : decode cX7_groupsOf 54 = .ok (.getfield 34, 3) := by decide +kernel
theorem dX7_groupsOf_57 : decode cX7_groupsOf 57 = .ok (.iload_n 3, 1) := by decide +kernel
end
section
theorem dX7_groupsOf_58 : decode cX7_groupsOf 58 = .ok (.iaload, 1) := by decide +kernel
theorem dX7_groupsOf_59 : decode cX7_groupsOf 59 = .ok (.goto 4, 3) := by decide +kernel
theorem dX7_groupsOf_62 : decode cX7_groupsOf 62 = .ok (.iconst 0, 1) := by decide +kernel
theorem dX7_groupsOf_63 : decode cX7_groupsOf 63 = .ok (.iadd, 1) := by decide +kernel
theorem dX7_groupsOf_64 : decode cX7_groupsOf 64 = .ok (.istore_n 2, 1) := by decide +kernel
theorem dX7_groupsOf_65 : decode cX7_groupsOf 65 = .ok (.iinc 3 1, 3) := by decide +kernel
theorem dX7_groupsOf_68 : decode cX7_groupsOf 68 = .ok (.goto (-31), 3) := by decide +kernel
theorem dX7_groupsOf_71 : decode cX7_groupsOf 71 = .ok (.iload_n 2, 1) := by decide +kernel
theorem dX7_groupsOf_72 : decode cX7_groupsOf 72 = .ok (.ifCond .ne 7, 3) := by decide +kernel
theorem dX7_groupsOf_75 : decode cX7_groupsOf 75 = .ok (.iconst 1, 1) := by decide +kernel
theorem dX7_groupsOf_76 : decode cX7_groupsOf 76 = .ok (.goto 4, 3) := by decide +kernel
theorem dX7_groupsOf_79 : decode cX7_groupsOf 79 = .ok (.iconst (-1), 1) := by decide +kernel
theorem dX7_groupsOf_80 : decode cX7_groupsOf 80 = .ok (.istore_n 3, 1) := by decide +kernel
theorem dX7_groupsOf_81 : decode cX7_groupsOf 81 = .ok (.iload_n 1, 1) := by decide +kernel
theorem dX7_groupsOf_82 : decode cX7_groupsOf 82 = .ok (.iconst 1, 1) := by decide +kernel
theorem dX7_groupsOf_83 : decode cX7_groupsOf 83 = .ok (.isub, 1) := by decide +kernel
theorem dX7_groupsOf_84 : decode cX7_groupsOf 84 = .ok (.iload_n 1, 1) := by decide +kernel
theorem dX7_groupsOf_85 : decode cX7_groupsOf 85 = .ok (.iand, 1) := by decide +kernel
theorem dX7_groupsOf_86 : decode cX7_groupsOf 86 = .ok (.istore 4, 2) := by decide +kernel
theorem dX7_groupsOf_88 : decode cX7_groupsOf 88 = .ok (.iload 4, 2) := by decide +kernel
theorem dX7_groupsOf_90 : decode cX7_groupsOf 90 = .ok (.ifCond .le 84, 3) := by decide +kernel
theorem dX7_groupsOf_93 : decode cX7_groupsOf 93 = .ok (.aload_n 0, 1) := by decide +kernel
theorem dX7_groupsOf_94 : decode cX7_groupsOf 94 = .ok (.getfield 31, 3) := by decide +kernel
theorem dX7_groupsOf_97 : decode cX7_groupsOf 97 = .ok (.iload 4, 2) := by decide +kernel
theorem dX7_groupsOf_99 : decode cX7_groupsOf 99 = .ok (.iaload, 1) := by decide +kernel
theorem dX7_groupsOf_100 : decode cX7_groupsOf 100 = .ok (.ifCond .le 19, 3) := by decide +kernel
theorem dX7_groupsOf_103 : decode cX7_groupsOf 103 = .ok (.aload_n 0, 1) := by decide +kernel
theorem dX7_groupsOf_104 : decode cX7_groupsOf 104 = .ok (.getfield 31, 3) := by decide +kernel
theorem dX7_groupsOf_107 : decode cX7_groupsOf 107 = .ok (.iload_n 1, 1) := by decide +kernel
theorem dX7_groupsOf_108 : decode cX7_groupsOf 108 = .ok (.iload 4, 2) := by decide +kernel
theorem dX7_groupsOf_110 : decode cX7_groupsOf 110 = .ok (.isub, 1) := by decide +kernel
theorem dX7_groupsOf_111 : decode cX7_groupsOf 111 = .ok (.iaload, 1) := by decide +kernel
theorem dX7_groupsOf_112 : decode cX7_groupsOf 112 = .ok (.ifCond .le 7, 3) := by decide +kernel
theorem dX7_groupsOf_115 : decode cX7_groupsOf 115 = .ok (.iconst 1, 1) := by decide +kernel
theorem dX7_groupsOf_116 : decode cX7_groupsOf 116 = .ok (.goto 4, 3) := by decide +kernel
theorem dX7_groupsOf_119 : decode cX7_groupsOf 119 = .ok (.iconst 0, 1) := by decide +kernel
theorem dX7_groupsOf_120 : decode cX7_groupsOf 120 = .ok (.istore 5, 2) := by decide +kernel
theorem dX7_groupsOf_122 : decode cX7_groupsOf 122 = .ok (.iload 5, 2) := by decide +kernel
theorem dX7_groupsOf_124 : decode cX7_groupsOf 124 = .ok (.ifCond .eq 23, 3) := by decide +kernel
theorem dX7_groupsOf_127 : decode cX7_groupsOf 127 = .ok (.aload_n 0, 1) := by decide +kernel
theorem dX7_groupsOf_128 : decode cX7_groupsOf 128 = .ok (.getfield 31, 3) := by decide +kernel
theorem dX7_groupsOf_131 : decode cX7_groupsOf 131 = .ok (.iload 4, 2) := by decide +kernel
theorem dX7_groupsOf_133 : decode cX7_groupsOf 133 = .ok (.iaload, 1) := by decide +kernel
theorem dX7_groupsOf_134 : decode cX7_groupsOf 134 = .ok (.aload_n 0, 1) := by decide +kernel
theorem dX7_groupsOf_135 : decode cX7_groupsOf 135 = .ok (.getfield 31, 3) := by decide +kernel
theorem dX7_groupsOf_138 : decode cX7_groupsOf 138 = .ok (.iload_n 1, 1) := by decide +kernel
theorem dX7_groupsOf_139 : decode cX7_groupsOf 139 = .ok (.iload 4, 2) := by decide +kernel
theorem dX7_groupsOf_141 : decode cX7_groupsOf 141 = .ok (.isub, 1) := by decide +kernel
theorem dX7_groupsOf_142 : decode cX7_groupsOf 142 = .ok (.iaload, 1) := by decide +kernel
theorem dX7_groupsOf_143 : decode cX7_groupsOf 143 = .ok (.iadd, 1) := by decide +kernel
theorem dX7_groupsOf_144 : decode cX7_groupsOf 144 = .ok (.goto 4, 3) := by decide +kernel
theorem dX7_groupsOf_147 : decode cX7_groupsOf 147 = .ok (.iconst (-1), 1) := by decide +kernel
theorem dX7_groupsOf_148 : decode cX7_groupsOf 148 = .ok (.istore 6, 2) := by decide +kernel
theorem dX7_groupsOf_150 : decode cX7_groupsOf 150 = .ok (.iload 6, 2) := by decide +kernel
theorem dX7_groupsOf_152 : decode cX7_groupsOf 152 = .ok (.iload_n 3, 1) := by decide +kernel
theorem dX7_groupsOf_153 : decode cX7_groupsOf 153 = .ok (.if_icmp .le 8, 3) := by decide +kernel
theorem dX7_groupsOf_156 : decode cX7_groupsOf 156 = .ok (.iload 6, 2) := by decide +kernel
theorem dX7_groupsOf_158 : decode cX7_groupsOf 158 = .ok (.goto 4, 3) := by decide +kernel
theorem dX7_groupsOf_161 : decode cX7_groupsOf 161 = .ok (.iload_n 3, 1) := by decide +kernel
theorem dX7_groupsOf_162 : decode cX7_groupsOf 162 = .ok (.istore_n 3, 1) := by decide +kernel
theorem dX7_groupsOf_163 : decode cX7_groupsOf 163 = .ok (.iload 4, 2) := by decide +kernel
theorem dX7_groupsOf_165 : decode cX7_groupsOf 165 = .ok (.iconst 1, 1) := by decide +kernel
theorem dX7_groupsOf_166 : decode cX7_groupsOf 166 = .ok (.isub, 1) := by decide +kernel
theorem dX7_groupsOf_167 : decode cX7_groupsOf 167 = .ok (.iload_n 1, 1) := by decide +kernel
theorem dX7_groupsOf_168 : decode cX7_groupsOf 168 = .ok (.iand, 1) := by decide +kernel
theorem dX7_groupsOf_169 : decode cX7_groupsOf 169 = .ok (.istore 4, 2) := by decide +kernel
theorem dX7_groupsOf_171 : decode cX7_groupsOf 171 = .ok (.goto (-83), 3) := by decide +kernel
theorem dX7_groupsOf_174 : decode cX7_groupsOf 174 = .ok (.aload_n 0, 1) := by decide +kernel
theorem dX7_groupsOf_175 : decode cX7_groupsOf 175 = .ok (.getfield 31, 3) := by decide +kernel
theorem dX7_groupsOf_178 : decode cX7_groupsOf 178 = .ok (.iload_n 1, 1) := by decide +kernel
theorem dX7_groupsOf_179 : decode cX7_groupsOf 179 = .ok (.iload_n 3, 1) := by decide +kernel
theorem dX7_groupsOf_180 : decode cX7_groupsOf 180 = .ok (.iastore, 1) := by decide +kernel
theorem dX7_groupsOf_181 : decode cX7_groupsOf 181 = .ok (.iinc 1 1, 3) := by decide +kernel
theorem dX7_groupsOf_184 : decode cX7_groupsOf 184 = .ok (.goto (-157), 3) := by decide +kernel
theorem dX7_groupsOf_187 : decode cX7_groupsOf 187 = .ok (.aload_n 0, 1) := by decide +kernel
theorem dX7_groupsOf_188 : decode cX7_groupsOf 188 = .ok (.getfield 31, 3) := by decide +kernel
theorem dX7_groupsOf_191 : decode cX7_groupsOf 191 = .ok (.bipush 63, 2) := by decide +kernel
theorem dX7_groupsOf_193 : decode cX7_groupsOf 193 = .ok (.iaload, 1) := by decide +kernel
theorem dX7_groupsOf_194 : decode cX7_groupsOf 194 = .ok (.ireturn, 1) := by decide +kernel
theorem dX7_settled_0 : decode cX7_settled 0 = .ok (.iload_n 1, 1) := by decide +kernel
theorem dX7_settled_1 : decode cX7_settled 1 = .ok (.i2l, 1) := by decide +kernel
theorem dX7_settled_2 : decode cX7_settled 2 = .ok (.lconst 0, 1) := by decide +kernel
theorem dX7_settled_3 : decode cX7_settled 3 = .ok (.lconst 1, 1) := by decide +kernel
theorem dX7_settled_4 : decode cX7_settled 4 = .ok (.invokestatic 75, 3) := by decide +kernel
theorem dX7_settled_7 : decode cX7_settled 7 = .ok (.ifCond .ne 6, 3) := by decide +kernel
theorem dX7_settled_10 : decode cX7_settled 10 = .ok (.bipush (-102), 2) := by decide +kernel
theorem dX7_settled_12 : decode cX7_settled 12 = .ok (.ireturn, 1) := by decide +kernel
theorem dX7_settled_13 : decode cX7_settled 13 = .ok (.aload_n 0, 1) := by decide +kernel
theorem dX7_settled_14 : decode cX7_settled 14 = .ok (.invokevirtual 208, 3) := by decide +kernel
theorem dX7_settled_17 : decode cX7_settled 17 = .ok (.istore_n 2, 1) := by decide +kernel
theorem dX7_settled_18 : decode cX7_settled 18 = .ok (.iload_n 1, 1) := by decide +kernel
theorem dX7_settled_19 : decode cX7_settled 19 = .ok (.ifCond .ne 10, 3) := by decide +kernel
theorem dX7_settled_22 : decode cX7_settled 22 = .ok (.bipush 6, 2) := by decide +kernel
theorem dX7_settled_24 : decode cX7_settled 24 = .ok (.iload_n 2, 1) := by decide +kernel
theorem dX7_settled_25 : decode cX7_settled 25 = .ok (.isub, 1) := by decide +kernel
theorem dX7_settled_26 : decode cX7_settled 26 = .ok (.goto 4, 3) := by decide +kernel
theorem dX7_settled_29 : decode cX7_settled 29 = .ok (.iload_n 2, 1) := by decide +kernel
theorem dX7_settled_30 : decode cX7_settled 30 = .ok (.ireturn, 1) := by decide +kernel
theorem dX7_readIn_0 : decode cX7_readIn 0 = .ok (.iconst 0, 1) := by decide +kernel
theorem dX7_readIn_1 : decode cX7_readIn 1 = .ok (.istore_n 2, 1) := by decide +kernel
theorem dX7_readIn_2 : decode cX7_readIn 2 = .ok (.iconst 0, 1) := by decide +kernel
theorem dX7_readIn_3 : decode cX7_readIn 3 = .ok (.istore_n 3, 1) := by decide +kernel
theorem dX7_readIn_4 : decode cX7_readIn 4 = .ok (.iload_n 3, 1) := by decide +kernel
theorem dX7_readIn_5 : decode cX7_readIn 5 = .ok (.aload_n 0, 1) := by decide +kernel
theorem dX7_readIn_6 : decode cX7_readIn 6 = .ok (.getfield 79, 3) := by decide +kernel
theorem dX7_readIn_9 : decode cX7_readIn 9 = .ok (.if_icmp .ge 45, 3) := by decide +kernel
theorem dX7_readIn_12 : decode cX7_readIn 12 = .ok (.iload_n 2, 1) := by decide +kernel
theorem dX7_readIn_13 : decode cX7_readIn 13 = .ok (.aload_n 0, 1) := by decide +kernel
theorem dX7_readIn_14 : decode cX7_readIn 14 = .ok (.getfield 16, 3) := by decide +kernel
theorem dX7_readIn_17 : decode cX7_readIn 17 = .ok (.bipush 8, 2) := by decide +kernel
theorem dX7_readIn_19 : decode cX7_readIn 19 = .ok (.iload_n 3, 1) := by decide +kernel
theorem dX7_readIn_20 : decode cX7_readIn 20 = .ok (.imul, 1) := by decide +kernel
theorem dX7_readIn_21 : decode cX7_readIn 21 = .ok (.iconst 1, 1) := by decide +kernel
theorem dX7_readIn_22 : decode cX7_readIn 22 = .ok (.iadd, 1) := by decide +kernel
theorem dX7_readIn_23 : decode cX7_readIn 23 = .ok (.iaload, 1) := by decide +kernel
theorem dX7_readIn_24 : decode cX7_readIn 24 = .ok (.iload_n 1, 1) := by decide +kernel
theorem dX7_readIn_25 : decode cX7_readIn 25 = .ok (.if_icmp .ne 20, 3) := by decide +kernel
theorem dX7_readIn_28 : decode cX7_readIn 28 = .ok (.aload_n 0, 1) := by decide +kernel
theorem dX7_readIn_29 : decode cX7_readIn 29 = .ok (.iload_n 3, 1) := by decide +kernel
theorem dX7_readIn_30 : decode cX7_readIn 30 = .ok (.invokevirtual 126, 3) := by decide +kernel
theorem dX7_readIn_33 : decode cX7_readIn 33 = .ok (.iconst 2, 1) := by decide +kernel
theorem dX7_readIn_34 : decode cX7_readIn 34 = .ok (.if_icmp .ne 11, 3) := by decide +kernel
theorem dX7_readIn_37 : decode cX7_readIn 37 = .ok (.aload_n 0, 1) := by decide +kernel
theorem dX7_readIn_38 : decode cX7_readIn 38 = .ok (.iload_n 3, 1) := by decide +kernel
theorem dX7_readIn_39 : decode cX7_readIn 39 = .ok (.invokevirtual 123, 3) := by decide +kernel
theorem dX7_readIn_42 : decode cX7_readIn 42 = .ok (.goto 4, 3) := by decide +kernel
theorem dX7_readIn_45 : decode cX7_readIn 45 = .ok (.iconst 0, 1) := by decide +kernel
theorem dX7_readIn_46 : decode cX7_readIn 46 = .ok (.iadd, 1) := by decide +kernel
theorem dX7_readIn_47 : decode cX7_readIn 47 = .ok (.istore_n 2, 1) := by decide +kernel
theorem dX7_readIn_48 : decode cX7_readIn 48 = .ok (.iinc 3 1, 3) := by decide +kernel
theorem dX7_readIn_51 : decode cX7_readIn 51 = .ok (.goto (-47), 3) := by decide +kernel
theorem dX7_readIn_54 : decode cX7_readIn 54 = .ok (.iload_n 2, 1) := by decide +kernel
theorem dX7_readIn_55 : decode cX7_readIn 55 = .ok (.ireturn, 1) := by decide +kernel
theorem dX7_areBeside_0 : decode cX7_areBeside 0 = .ok (.iload_n 1, 1) := by decide +kernel
theorem dX7_areBeside_1 : decode cX7_areBeside 1 = .ok (.aload_n 0, 1) := by decide +kernel
theorem dX7_areBeside_2 : decode cX7_areBeside 2 = .ok (.getfield 68, 3) := by decide +kernel
theorem dX7_areBeside_5 : decode cX7_areBeside 5 = .ok (.idiv, 1) := by decide +kernel
theorem dX7_areBeside_6 : decode cX7_areBeside 6 = .ok (.iload_n 2, 1) := by decide +kernel
theorem dX7_areBeside_7 : decode cX7_areBeside 7 = .ok (.aload_n 0, 1) := by decide +kernel
theorem dX7_areBeside_8 : decode cX7_areBeside 8 = .ok (.getfield 68, 3) := by decide +kernel
theorem dX7_areBeside_11 : decode cX7_areBeside 11 = .ok (.idiv, 1) := by decide +kernel
theorem dX7_areBeside_12 : decode cX7_areBeside 12 = .ok (.isub, 1) := by decide +kernel
theorem dX7_areBeside_13 : decode cX7_areBeside 13 = .ok (.istore_n 3, 1) := by decide +kernel
theorem dX7_areBeside_14 : decode cX7_areBeside 14 = .ok (.iload_n 1, 1) := by decide +kernel
theorem dX7_areBeside_15 : decode cX7_areBeside 15 = .ok (.aload_n 0, 1) := by decide +kernel
theorem dX7_areBeside_16 : decode cX7_areBeside 16 = .ok (.getfield 68, 3) := by decide +kernel
theorem dX7_areBeside_19 : decode cX7_areBeside 19 = .ok (.irem, 1) := by decide +kernel
theorem dX7_areBeside_20 : decode cX7_areBeside 20 = .ok (.iload_n 2, 1) := by decide +kernel
theorem dX7_areBeside_21 : decode cX7_areBeside 21 = .ok (.aload_n 0, 1) := by decide +kernel
theorem dX7_areBeside_22 : decode cX7_areBeside 22 = .ok (.getfield 68, 3) := by decide +kernel
theorem dX7_areBeside_25 : decode cX7_areBeside 25 = .ok (.irem, 1) := by decide +kernel
theorem dX7_areBeside_26 : decode cX7_areBeside 26 = .ok (.isub, 1) := by decide +kernel
theorem dX7_areBeside_27 : decode cX7_areBeside 27 = .ok (.istore 4, 2) := by decide +kernel
theorem dX7_areBeside_29 : decode cX7_areBeside 29 = .ok (.iload_n 3, 1) := by decide +kernel
theorem dX7_areBeside_30 : decode cX7_areBeside 30 = .ok (.iload_n 3, 1) := by decide +kernel
theorem dX7_areBeside_31 : decode cX7_areBeside 31 = .ok (.imul, 1) := by decide +kernel
theorem dX7_areBeside_32 : decode cX7_areBeside 32 = .ok (.iload 4, 2) := by decide +kernel
theorem dX7_areBeside_34 : decode cX7_areBeside 34 = .ok (.iload 4, 2) := by decide +kernel
theorem dX7_areBeside_36 : decode cX7_areBeside 36 = .ok (.imul, 1) := by decide +kernel
theorem dX7_areBeside_37 : decode cX7_areBeside 37 = .ok (.iadd, 1) := by decide +kernel
theorem dX7_areBeside_38 : decode cX7_areBeside 38 = .ok (.iconst 1, 1) := by decide +kernel
theorem dX7_areBeside_39 : decode cX7_areBeside 39 = .ok (.if_icmp .ne 7, 3) := by decide +kernel
theorem dX7_areBeside_42 : decode cX7_areBeside 42 = .ok (.iconst 1, 1) := by decide +kernel
theorem dX7_areBeside_43 : decode cX7_areBeside 43 = .ok (.goto 4, 3) := by decide +kernel
theorem dX7_areBeside_46 : decode cX7_areBeside 46 = .ok (.iconst 0, 1) := by decide +kernel
theorem dX7_areBeside_47 : decode cX7_areBeside 47 = .ok (.ireturn, 1) := by decide +kernel
theorem dX7_tellSkate_0 : decode cX7_tellSkate 0 = .ok (.iconst 0, 1) := by decide +kernel
theorem dX7_tellSkate_1 : decode cX7_tellSkate 1 = .ok (.istore 4, 2) := by decide +kernel
theorem dX7_tellSkate_3 : decode cX7_tellSkate 3 = .ok (.iload 4, 2) := by decide +kernel
theorem dX7_tellSkate_5 : decode cX7_tellSkate 5 = .ok (.bipush 16, 2) := by decide +kernel
theorem dX7_tellSkate_7 : decode cX7_tellSkate 7 = .ok (.if_icmp .ge 50, 3) := by decide +kernel
theorem dX7_tellSkate_10 : decode cX7_tellSkate 10 = .ok (.aload_n 0, 1) := by decide +kernel
theorem dX7_tellSkate_11 : decode cX7_tellSkate 11 = .ok (.getfield 37, 3) := by decide +kernel
theorem dX7_tellSkate_14 : decode cX7_tellSkate 14 = .ok (.iload 4, 2) := by decide +kernel
theorem dX7_tellSkate_16 : decode cX7_tellSkate 16 = .ok (.iload 4, 2) := by decide +kernel
theorem dX7_tellSkate_18 : decode cX7_tellSkate 18 = .ok (.iload_n 1, 1) := by decide +kernel
theorem dX7_tellSkate_19 : decode cX7_tellSkate 19 = .ok (.if_icmp .ne 16, 3) := by decide +kernel
theorem dX7_tellSkate_22 : decode cX7_tellSkate 22 = .ok (.aload_n 0, 1) := by decide +kernel
theorem dX7_tellSkate_23 : decode cX7_tellSkate 23 = .ok (.iload 4, 2) := by decide +kernel
theorem dX7_tellSkate_25 : decode cX7_tellSkate 25 = .ok (.invokevirtual 107, 3) := by decide +kernel
theorem dX7_tellSkate_28 : decode cX7_tellSkate 28 = .ok (.ifCond .eq 7, 3) := by decide +kernel
theorem dX7_tellSkate_31 : decode cX7_tellSkate 31 = .ok (.iconst 0, 1) := by decide +kernel
theorem dX7_tellSkate_32 : decode cX7_tellSkate 32 = .ok (.goto 5, 3) := by decide +kernel
theorem dX7_tellSkate_35 : decode cX7_tellSkate 35 = .ok (.bipush 99, 2) := by decide +kernel
theorem dX7_tellSkate_37 : decode cX7_tellSkate 37 = .ok (.iastore, 1) := by decide +kernel
theorem dX7_tellSkate_38 : decode cX7_tellSkate 38 = .ok (.aload_n 0, 1) := by decide +kernel
theorem dX7_tellSkate_39 : decode cX7_tellSkate 39 = .ok (.getfield 40, 3) := by decide +kernel
theorem dX7_tellSkate_42 : decode cX7_tellSkate 42 = .ok (.iload 4, 2) := by decide +kernel
theorem dX7_tellSkate_44 : decode cX7_tellSkate 44 = .ok (.aload_n 0, 1) := by decide +kernel
theorem dX7_tellSkate_45 : decode cX7_tellSkate 45 = .ok (.iload 4, 2) := by decide +kernel
theorem dX7_tellSkate_47 : decode cX7_tellSkate 47 = .ok (.invokevirtual 211, 3) := by decide +kernel
theorem dX7_tellSkate_50 : decode cX7_tellSkate 50 = .ok (.iastore, 1) := by decide +kernel
theorem dX7_tellSkate_51 : decode cX7_tellSkate 51 = .ok (.iinc 4 1, 3) := by decide +kernel
theorem dX7_tellSkate_54 : decode cX7_tellSkate 54 = .ok (.goto (-51), 3) := by decide +kernel
theorem dX7_tellSkate_57 : decode cX7_tellSkate 57 = .ok (.aload_n 0, 1) := by decide +kernel
theorem dX7_tellSkate_58 : decode cX7_tellSkate 58 = .ok (.getfield 37, 3) := by decide +kernel
theorem dX7_tellSkate_61 : decode cX7_tellSkate 61 = .ok (.iload_n 1, 1) := by decide +kernel
theorem dX7_tellSkate_62 : decode cX7_tellSkate 62 = .ok (.iaload, 1) := by decide +kernel
theorem dX7_tellSkate_63 : decode cX7_tellSkate 63 = .ok (.ifCond .ne 7, 3) := by decide +kernel
theorem dX7_tellSkate_66 : decode cX7_tellSkate 66 = .ok (.iconst 1, 1) := by decide +kernel
theorem dX7_tellSkate_67 : decode cX7_tellSkate 67 = .ok (.goto 4, 3) := by decide +kernel
theorem dX7_tellSkate_70 : decode cX7_tellSkate 70 = .ok (.iconst 0, 1) := by decide +kernel
theorem dX7_tellSkate_71 : decode cX7_tellSkate 71 = .ok (.istore 4, 2) := by decide +kernel
theorem dX7_tellSkate_73 : decode cX7_tellSkate 73 = .ok (.iconst 1, 1) := by decide +kernel
theorem dX7_tellSkate_74 : decode cX7_tellSkate 74 = .ok (.istore 5, 2) := by decide +kernel
theorem dX7_tellSkate_76 : decode cX7_tellSkate 76 = .ok (.iload 4, 2) := by decide +kernel
theorem dX7_tellSkate_78 : decode cX7_tellSkate 78 = .ok (.ifCond .le 153, 3) := by decide +kernel
theorem dX7_tellSkate_81 : decode cX7_tellSkate 81 = .ok (.iconst 0, 1) := by decide +kernel
theorem dX7_tellSkate_82 : decode cX7_tellSkate 82 = .ok (.istore 4, 2) := by decide +kernel
theorem dX7_tellSkate_84 : decode cX7_tellSkate 84 = .ok (.iconst 0, 1) := by decide +kernel
theorem dX7_tellSkate_85 : decode cX7_tellSkate 85 = .ok (.istore 6, 2) := by decide +kernel
theorem dX7_tellSkate_87 : decode cX7_tellSkate 87 = .ok (.iload 6, 2) := by decide +kernel
theorem dX7_tellSkate_89 : decode cX7_tellSkate 89 = .ok (.aload_n 0, 1) := by decide +kernel
theorem dX7_tellSkate_90 : decode cX7_tellSkate 90 = .ok (.invokevirtual 71, 3) := by decide +kernel
theorem dX7_tellSkate_93 : decode cX7_tellSkate 93 = .ok (.if_icmp .ge 132, 3) := by decide +kernel
theorem dX7_tellSkate_96 : decode cX7_tellSkate 96 = .ok (.iconst (-1), 1) := by decide +kernel
theorem dX7_tellSkate_97 : decode cX7_tellSkate 97 = .ok (.istore 7, 2) := by decide +kernel
theorem dX7_tellSkate_99 : decode cX7_tellSkate 99 = .ok (.iconst 0, 1) := by decide +kernel
theorem dX7_tellSkate_100 : decode cX7_tellSkate 100 = .ok (.istore 8, 2) := by decide +kernel
theorem dX7_tellSkate_102 : decode cX7_tellSkate 102 = .ok (.iload 8, 2) := by decide +kernel
theorem dX7_tellSkate_104 : decode cX7_tellSkate 104 = .ok (.aload_n 0, 1) := by decide +kernel
theorem dX7_tellSkate_105 : decode cX7_tellSkate 105 = .ok (.invokevirtual 71, 3) := by decide +kernel
theorem dX7_tellSkate_108 : decode cX7_tellSkate 108 = .ok (.if_icmp .ge 81, 3) := by decide +kernel
theorem dX7_tellSkate_111 : decode cX7_tellSkate 111 = .ok (.aload_n 0, 1) := by decide +kernel
theorem dX7_tellSkate_112 : decode cX7_tellSkate 112 = .ok (.getfield 37, 3) := by decide +kernel
theorem dX7_tellSkate_115 : decode cX7_tellSkate 115 = .ok (.iload 6, 2) := by decide +kernel
theorem dX7_tellSkate_117 : decode cX7_tellSkate 117 = .ok (.iaload, 1) := by decide +kernel
theorem dX7_tellSkate_118 : decode cX7_tellSkate 118 = .ok (.bipush 99, 2) := by decide +kernel
theorem dX7_tellSkate_120 : decode cX7_tellSkate 120 = .ok (.if_icmp .ne 69, 3) := by decide +kernel
theorem dX7_tellSkate_123 : decode cX7_tellSkate 123 = .ok (.aload_n 0, 1) := by decide +kernel
theorem dX7_tellSkate_124 : decode cX7_tellSkate 124 = .ok (.iload 6, 2) := by decide +kernel
theorem dX7_tellSkate_126 : decode cX7_tellSkate 126 = .ok (.invokevirtual 107, 3) := by decide +kernel
theorem dX7_tellSkate_129 : decode cX7_tellSkate 129 = .ok (.ifCond .eq 60, 3) := by decide +kernel
theorem dX7_tellSkate_132 : decode cX7_tellSkate 132 = .ok (.aload_n 0, 1) := by decide +kernel
theorem dX7_tellSkate_133 : decode cX7_tellSkate 133 = .ok (.getfield 37, 3) := by decide +kernel
theorem dX7_tellSkate_136 : decode cX7_tellSkate 136 = .ok (.iload 8, 2) := by decide +kernel
theorem dX7_tellSkate_138 : decode cX7_tellSkate 138 = .ok (.iaload, 1) := by decide +kernel
theorem dX7_tellSkate_139 : decode cX7_tellSkate 139 = .ok (.iload 5, 2) := by decide +kernel
theorem dX7_tellSkate_141 : decode cX7_tellSkate 141 = .ok (.iconst 1, 1) := by decide +kernel
theorem dX7_tellSkate_142 : decode cX7_tellSkate 142 = .ok (.isub, 1) := by decide +kernel
theorem dX7_tellSkate_143 : decode cX7_tellSkate 143 = .ok (.if_icmp .ne 36, 3) := by decide +kernel
theorem dX7_tellSkate_146 : decode cX7_tellSkate 146 = .ok (.aload_n 0, 1) := by decide +kernel
theorem dX7_tellSkate_147 : decode cX7_tellSkate 147 = .ok (.iload 8, 2) := by decide +kernel
theorem dX7_tellSkate_149 : decode cX7_tellSkate 149 = .ok (.iload 6, 2) := by decide +kernel
theorem dX7_tellSkate_151 : decode cX7_tellSkate 151 = .ok (.invokevirtual 214, 3) := by decide +kernel
theorem dX7_tellSkate_154 : decode cX7_tellSkate 154 = .ok (.ifCond .eq 25, 3) := by decide +kernel
theorem dX7_tellSkate_157 : decode cX7_tellSkate 157 = .ok (.aload_n 0, 1) := by decide +kernel
theorem dX7_tellSkate_158 : decode cX7_tellSkate 158 = .ok (.getfield 40, 3) := by decide +kernel
theorem dX7_tellSkate_161 : decode cX7_tellSkate 161 = .ok (.iload 8, 2) := by decide +kernel
theorem dX7_tellSkate_163 : decode cX7_tellSkate 163 = .ok (.iaload, 1) := by decide +kernel
theorem dX7_tellSkate_164 : decode cX7_tellSkate 164 = .ok (.iload 7, 2) := by decide +kernel
theorem dX7_tellSkate_166 : decode cX7_tellSkate 166 = .ok (.if_icmp .le 13, 3) := by decide +kernel
theorem dX7_tellSkate_169 : decode cX7_tellSkate 169 = .ok (.aload_n 0, 1) := by decide +kernel
theorem dX7_tellSkate_170 : decode cX7_tellSkate 170 = .ok (.getfield 40, 3) := by decide +kernel
theorem dX7_tellSkate_173 : decode cX7_tellSkate 173 = .ok (.iload 8, 2) := by decide +kernel
theorem dX7_tellSkate_175 : decode cX7_tellSkate 175 = .ok (.iaload, 1) := by decide +kernel
theorem dX7_tellSkate_176 : decode cX7_tellSkate 176 = .ok (.goto 5, 3) := by decide +kernel
theorem dX7_tellSkate_179 : decode cX7_tellSkate 179 = .ok (.iload 7, 2) := by decide +kernel
theorem dX7_tellSkate_181 : decode cX7_tellSkate 181 = .ok (.istore 7, 2) := by decide +kernel
theorem dX7_tellSkate_183 : decode cX7_tellSkate 183 = .ok (.iinc 8 1, 3) := by decide +kernel
theorem dX7_tellSkate_186 : decode cX7_tellSkate 186 = .ok (.goto (-84), 3) := by decide +kernel
theorem dX7_tellSkate_189 : decode cX7_tellSkate 189 = .ok (.iload 7, 2) := by decide +kernel
theorem dX7_tellSkate_191 : decode cX7_tellSkate 191 = .ok (.iconst (-1), 1) := by decide +kernel
theorem dX7_tellSkate_192 : decode cX7_tellSkate 192 = .ok (.if_icmp .eq 27, 3) := by decide +kernel
theorem dX7_tellSkate_195 : decode cX7_tellSkate 195 = .ok (.aload_n 0, 1) := by decide +kernel
theorem dX7_tellSkate_196 : decode cX7_tellSkate 196 = .ok (.getfield 37, 3) := by decide +kernel
theorem dX7_tellSkate_199 : decode cX7_tellSkate 199 = .ok (.iload 6, 2) := by decide +kernel
theorem dX7_tellSkate_201 : decode cX7_tellSkate 201 = .ok (.iload 5, 2) := by decide +kernel
theorem dX7_tellSkate_203 : decode cX7_tellSkate 203 = .ok (.iastore, 1) := by decide +kernel
theorem dX7_tellSkate_204 : decode cX7_tellSkate 204 = .ok (.aload_n 0, 1) := by decide +kernel
theorem dX7_tellSkate_205 : decode cX7_tellSkate 205 = .ok (.getfield 40, 3) := by decide +kernel
theorem dX7_tellSkate_208 : decode cX7_tellSkate 208 = .ok (.iload 6, 2) := by decide +kernel
theorem dX7_tellSkate_210 : decode cX7_tellSkate 210 = .ok (.dup2, 1) := by decide +kernel
theorem dX7_tellSkate_211 : decode cX7_tellSkate 211 = .ok (.iaload, 1) := by decide +kernel
theorem dX7_tellSkate_212 : decode cX7_tellSkate 212 = .ok (.iload 7, 2) := by decide +kernel
theorem dX7_tellSkate_214 : decode cX7_tellSkate 214 = .ok (.iadd, 1) := by decide +kernel
theorem dX7_tellSkate_215 : decode cX7_tellSkate 215 = .ok (.iastore, 1) := by decide +kernel
theorem dX7_tellSkate_216 : decode cX7_tellSkate 216 = .ok (.iinc 4 1, 3) := by decide +kernel
theorem dX7_tellSkate_219 : decode cX7_tellSkate 219 = .ok (.iinc 6 1, 3) := by decide +kernel
theorem dX7_tellSkate_222 : decode cX7_tellSkate 222 = .ok (.goto (-135), 3) := by decide +kernel
theorem dX7_tellSkate_225 : decode cX7_tellSkate 225 = .ok (.iinc 5 1, 3) := by decide +kernel
theorem dX7_tellSkate_228 : decode cX7_tellSkate 228 = .ok (.goto (-152), 3) := by decide +kernel
theorem dX7_tellSkate_231 : decode cX7_tellSkate 231 = .ok (.aload_n 0, 1) := by decide +kernel
theorem dX7_tellSkate_232 : decode cX7_tellSkate 232 = .ok (.getfield 37, 3) := by decide +kernel
theorem dX7_tellSkate_235 : decode cX7_tellSkate 235 = .ok (.iload_n 2, 1) := by decide +kernel
theorem dX7_tellSkate_236 : decode cX7_tellSkate 236 = .ok (.iaload, 1) := by decide +kernel
theorem dX7_tellSkate_237 : decode cX7_tellSkate 237 = .ok (.bipush 99, 2) := by decide +kernel
theorem dX7_tellSkate_239 : decode cX7_tellSkate 239 = .ok (.if_icmp .ne 7, 3) := by decide +kernel
theorem dX7_tellSkate_242 : decode cX7_tellSkate 242 = .ok (.iconst (-1), 1) := by decide +kernel
theorem dX7_tellSkate_243 : decode cX7_tellSkate 243 = .ok (.goto 22, 3) := by decide +kernel
theorem dX7_tellSkate_246 : decode cX7_tellSkate 246 = .ok (.iload_n 3, 1) := by decide +kernel
theorem dX7_tellSkate_247 : decode cX7_tellSkate 247 = .ok (.ifCond .ne 12, 3) := by decide +kernel
theorem dX7_tellSkate_250 : decode cX7_tellSkate 250 = .ok (.aload_n 0, 1) := by decide +kernel
theorem dX7_tellSkate_251 : decode cX7_tellSkate 251 = .ok (.getfield 37, 3) := by decide +kernel
theorem dX7_tellSkate_254 : decode cX7_tellSkate 254 = .ok (.iload_n 2, 1) := by decide +kernel
theorem dX7_tellSkate_255 : decode cX7_tellSkate 255 = .ok (.iaload, 1) := by decide +kernel
theorem dX7_tellSkate_256 : decode cX7_tellSkate 256 = .ok (.goto 9, 3) := by decide +kernel
theorem dX7_tellSkate_259 : decode cX7_tellSkate 259 = .ok (.aload_n 0, 1) := by decide +kernel
theorem dX7_tellSkate_260 : decode cX7_tellSkate 260 = .ok (.getfield 40, 3) := by decide +kernel
theorem dX7_tellSkate_263 : decode cX7_tellSkate 263 = .ok (.iload_n 2, 1) := by decide +kernel
theorem dX7_tellSkate_264 : decode cX7_tellSkate 264 = .ok (.iaload, 1) := by decide +kernel
theorem dX7_tellSkate_265 : decode cX7_tellSkate 265 = .ok (.ireturn, 1) := by decide +kernel
theorem dX7_skate_0 : decode cX7_skate 0 = .ok (.aload_n 0, 1) := by decide +kernel
theorem dX7_skate_1 : decode cX7_skate 1 = .ok (.iload_n 1, 1) := by decide +kernel
theorem dX7_skate_2 : decode cX7_skate 2 = .ok (.invokevirtual 98, 3) := by decide +kernel
theorem dX7_skate_5 : decode cX7_skate 5 = .ok (.ifCond .eq 11, 3) := by decide +kernel
theorem dX7_skate_8 : decode cX7_skate 8 = .ok (.aload_n 0, 1) := by decide +kernel
theorem dX7_skate_9 : decode cX7_skate 9 = .ok (.iload_n 2, 1) := by decide +kernel
theorem dX7_skate_10 : decode cX7_skate 10 = .ok (.invokevirtual 98, 3) := by decide +kernel
theorem dX7_skate_13 : decode cX7_skate 13 = .ok (.ifCond .ne 6, 3) := by decide +kernel
theorem dX7_skate_16 : decode cX7_skate 16 = .ok (.bipush (-101), 2) := by decide +kernel
theorem dX7_skate_18 : decode cX7_skate 18 = .ok (.ireturn, 1) := by decide +kernel
theorem dX7_skate_19 : decode cX7_skate 19 = .ok (.iload_n 3, 1) := by decide +kernel
theorem dX7_skate_20 : decode cX7_skate 20 = .ok (.i2l, 1) := by decide +kernel
theorem dX7_skate_21 : decode cX7_skate 21 = .ok (.lconst 0, 1) := by decide +kernel
theorem dX7_skate_22 : decode cX7_skate 22 = .ok (.lconst 1, 1) := by decide +kernel
theorem dX7_skate_23 : decode cX7_skate 23 = .ok (.invokestatic 75, 3) := by decide +kernel
theorem dX7_skate_26 : decode cX7_skate 26 = .ok (.ifCond .eq 13, 3) := by decide +kernel
theorem dX7_skate_29 : decode cX7_skate 29 = .ok (.aload_n 0, 1) := by decide +kernel
theorem dX7_skate_30 : decode cX7_skate 30 = .ok (.iload_n 1, 1) := by decide +kernel
theorem dX7_skate_31 : decode cX7_skate 31 = .ok (.iload_n 2, 1) := by decide +kernel
theorem dX7_skate_32 : decode cX7_skate 32 = .ok (.iload_n 3, 1) := by decide +kernel
theorem dX7_skate_33 : decode cX7_skate 33 = .ok (.invokevirtual 218, 3) := by decide +kernel
theorem dX7_skate_36 : decode cX7_skate 36 = .ok (.goto 5, 3) := by decide +kernel
theorem dX7_skate_39 : decode cX7_skate 39 = .ok (.bipush (-102), 2) := by decide +kernel
theorem dX7_skate_41 : decode cX7_skate 41 = .ok (.ireturn, 1) := by decide +kernel
theorem dX7_term_0 : decode cX7_term 0 = .ok (.lload_n 0, 1) := by decide +kernel
theorem dX7_term_1 : decode cX7_term 1 = .ok (.lstore 5, 2) := by decide +kernel
theorem dX7_term_3 : decode cX7_term 3 = .ok (.lload_n 2, 1) := by decide +kernel
theorem dX7_term_4 : decode cX7_term 4 = .ok (.lstore 7, 2) := by decide +kernel
theorem dX7_term_6 : decode cX7_term 6 = .ok (.lload 5, 2) := by decide +kernel
theorem dX7_term_8 : decode cX7_term 8 = .ok (.lconst 0, 1) := by decide +kernel
theorem dX7_term_9 : decode cX7_term 9 = .ok (.lcmp, 1) := by decide +kernel
theorem dX7_term_10 : decode cX7_term 10 = .ok (.ifCond .eq 21, 3) := by decide +kernel
theorem dX7_term_13 : decode cX7_term 13 = .ok (.lload 7, 2) := by decide +kernel
theorem dX7_term_15 : decode cX7_term 15 = .ok (.lload 5, 2) := by decide +kernel
theorem dX7_term_17 : decode cX7_term 17 = .ok (.lrem, 1) := by decide +kernel
theorem dX7_term_18 : decode cX7_term 18 = .ok (.lstore 9, 2) := by decide +kernel
theorem dX7_term_20 : decode cX7_term 20 = .ok (.lload 5, 2) := by decide +kernel
theorem dX7_term_22 : decode cX7_term 22 = .ok (.lstore 7, 2) := by decide +kernel
theorem dX7_term_24 : decode cX7_term 24 = .ok (.lload 9, 2) := by decide +kernel
theorem dX7_term_26 : decode cX7_term 26 = .ok (.lstore 5, 2) := by decide +kernel
theorem dX7_term_28 : decode cX7_term 28 = .ok (.goto (-22), 3) := by decide +kernel
theorem dX7_term_31 : decode cX7_term 31 = .ok (.iload 4, 2) := by decide +kernel
theorem dX7_term_33 : decode cX7_term 33 = .ok (.ifCond .ne 10, 3) := by decide +kernel
theorem dX7_term_36 : decode cX7_term 36 = .ok (.lload_n 0, 1) := by decide +kernel
theorem dX7_term_37 : decode cX7_term 37 = .ok (.lload 7, 2) := by decide +kernel
theorem dX7_term_39 : decode cX7_term 39 = .ok (.ldiv, 1) := by decide +kernel
theorem dX7_term_40 : decode cX7_term 40 = .ok (.goto 7, 3) := by decide +kernel
theorem dX7_term_43 : decode cX7_term 43 = .ok (.lload_n 2, 1) := by decide +kernel
theorem dX7_term_44 : decode cX7_term 44 = .ok (.lload 7, 2) := by decide +kernel
theorem dX7_term_46 : decode cX7_term 46 = .ok (.ldiv, 1) := by decide +kernel
theorem dX7_term_47 : decode cX7_term 47 = .ok (.lreturn, 1) := by decide +kernel
theorem dX7_staysBy_0 : decode cX7_staysBy 0 = .ok (.aload_n 0, 1) := by decide +kernel
theorem dX7_staysBy_1 : decode cX7_staysBy 1 = .ok (.getfield 16, 3) := by decide +kernel
theorem dX7_staysBy_4 : decode cX7_staysBy 4 = .ok (.bipush 8, 2) := by decide +kernel
theorem dX7_staysBy_6 : decode cX7_staysBy 6 = .ok (.iload_n 1, 1) := by decide +kernel
theorem dX7_staysBy_7 : decode cX7_staysBy 7 = .ok (.imul, 1) := by decide +kernel
theorem dX7_staysBy_8 : decode cX7_staysBy 8 = .ok (.iaload, 1) := by decide +kernel
theorem dX7_staysBy_9 : decode cX7_staysBy 9 = .ok (.istore 4, 2) := by decide +kernel
theorem dX7_staysBy_11 : decode cX7_staysBy 11 = .ok (.aload_n 0, 1) := by decide +kernel
theorem dX7_staysBy_12 : decode cX7_staysBy 12 = .ok (.getfield 7, 3) := by decide +kernel
theorem dX7_staysBy_15 : decode cX7_staysBy 15 = .ok (.aload_n 0, 1) := by decide +kernel
theorem dX7_staysBy_16 : decode cX7_staysBy 16 = .ok (.getfield 16, 3) := by decide +kernel
theorem dX7_staysBy_19 : decode cX7_staysBy 19 = .ok (.bipush 8, 2) := by decide +kernel
theorem dX7_staysBy_21 : decode cX7_staysBy 21 = .ok (.iload_n 1, 1) := by decide +kernel
theorem dX7_staysBy_22 : decode cX7_staysBy 22 = .ok (.imul, 1) := by decide +kernel
theorem dX7_staysBy_23 : decode cX7_staysBy 23 = .ok (.iconst 1, 1) := by decide +kernel
theorem dX7_staysBy_24 : decode cX7_staysBy 24 = .ok (.iadd, 1) := by decide +kernel
theorem dX7_staysBy_25 : decode cX7_staysBy 25 = .ok (.iaload, 1) := by decide +kernel
theorem dX7_staysBy_26 : decode cX7_staysBy 26 = .ok (.iaload, 1) := by decide +kernel
theorem dX7_staysBy_27 : decode cX7_staysBy 27 = .ok (.iload_n 2, 1) := by decide +kernel
theorem dX7_staysBy_28 : decode cX7_staysBy 28 = .ok (.iload_n 3, 1) := by decide +kernel
theorem dX7_staysBy_29 : decode cX7_staysBy 29 = .ok (.imul, 1) := by decide +kernel
theorem dX7_staysBy_30 : decode cX7_staysBy 30 = .ok (.isub, 1) := by decide +kernel
theorem dX7_staysBy_31 : decode cX7_staysBy 31 = .ok (.istore 5, 2) := by decide +kernel
theorem dX7_staysBy_33 : decode cX7_staysBy 33 = .ok (.aload_n 0, 1) := by decide +kernel
theorem dX7_staysBy_34 : decode cX7_staysBy 34 = .ok (.getfield 16, 3) := by decide +kernel
theorem dX7_staysBy_37 : decode cX7_staysBy 37 = .ok (.bipush 8, 2) := by decide +kernel
theorem dX7_staysBy_39 : decode cX7_staysBy 39 = .ok (.iload_n 1, 1) := by decide +kernel
theorem dX7_staysBy_40 : decode cX7_staysBy 40 = .ok (.imul, 1) := by decide +kernel
theorem dX7_staysBy_41 : decode cX7_staysBy 41 = .ok (.iconst 5, 1) := by decide +kernel
theorem dX7_staysBy_42 : decode cX7_staysBy 42 = .ok (.iadd, 1) := by decide +kernel
theorem dX7_staysBy_43 : decode cX7_staysBy 43 = .ok (.iaload, 1) := by decide +kernel
theorem dX7_staysBy_44 : decode cX7_staysBy 44 = .ok (.iload_n 2, 1) := by decide +kernel
theorem dX7_staysBy_45 : decode cX7_staysBy 45 = .ok (.iload 4, 2) := by decide +kernel
theorem dX7_staysBy_47 : decode cX7_staysBy 47 = .ok (.iload_n 3, 1) := by decide +kernel
theorem dX7_staysBy_48 : decode cX7_staysBy 48 = .ok (.invokestatic 163, 3) := by decide +kernel
theorem dX7_staysBy_51 : decode cX7_staysBy 51 = .ok (.imul, 1) := by decide +kernel
theorem dX7_staysBy_52 : decode cX7_staysBy 52 = .ok (.isub, 1) := by decide +kernel
theorem dX7_staysBy_53 : decode cX7_staysBy 53 = .ok (.istore 6, 2) := by decide +kernel
theorem dX7_staysBy_55 : decode cX7_staysBy 55 = .ok (.aload_n 0, 1) := by decide +kernel
theorem dX7_staysBy_56 : decode cX7_staysBy 56 = .ok (.getfield 16, 3) := by decide +kernel
theorem dX7_staysBy_59 : decode cX7_staysBy 59 = .ok (.bipush 8, 2) := by decide +kernel
theorem dX7_staysBy_61 : decode cX7_staysBy 61 = .ok (.iload_n 1, 1) := by decide +kernel
theorem dX7_staysBy_62 : decode cX7_staysBy 62 = .ok (.imul, 1) := by decide +kernel
theorem dX7_staysBy_63 : decode cX7_staysBy 63 = .ok (.bipush 6, 2) := by decide +kernel
theorem dX7_staysBy_65 : decode cX7_staysBy 65 = .ok (.iadd, 1) := by decide +kernel
theorem dX7_staysBy_66 : decode cX7_staysBy 66 = .ok (.iaload, 1) := by decide +kernel
theorem dX7_staysBy_67 : decode cX7_staysBy 67 = .ok (.iconst 2, 1) := by decide +kernel
theorem dX7_staysBy_68 : decode cX7_staysBy 68 = .ok (.if_icmp .eq 31, 3) := by decide +kernel
theorem dX7_staysBy_71 : decode cX7_staysBy 71 = .ok (.aload_n 0, 1) := by decide +kernel
theorem dX7_staysBy_72 : decode cX7_staysBy 72 = .ok (.iload_n 1, 1) := by decide +kernel
theorem dX7_staysBy_73 : decode cX7_staysBy 73 = .ok (.invokevirtual 94, 3) := by decide +kernel
theorem dX7_staysBy_76 : decode cX7_staysBy 76 = .ok (.ifCond .eq 27, 3) := by decide +kernel
theorem dX7_staysBy_79 : decode cX7_staysBy 79 = .ok (.iload_n 2, 1) := by decide +kernel
theorem dX7_staysBy_80 : decode cX7_staysBy 80 = .ok (.ifCond .eq 19, 3) := by decide +kernel
theorem dX7_staysBy_83 : decode cX7_staysBy 83 = .ok (.iload 5, 2) := by decide +kernel
theorem dX7_staysBy_85 : decode cX7_staysBy 85 = .ok (.ifCond .le 18, 3) := by decide +kernel
theorem dX7_staysBy_88 : decode cX7_staysBy 88 = .ok (.iload 6, 2) := by decide +kernel
theorem dX7_staysBy_90 : decode cX7_staysBy 90 = .ok (.ifCond .le 13, 3) := by decide +kernel
theorem dX7_staysBy_93 : decode cX7_staysBy 93 = .ok (.iload 4, 2) := by decide +kernel
theorem dX7_staysBy_95 : decode cX7_staysBy 95 = .ok (.iconst 3, 1) := by decide +kernel
theorem dX7_staysBy_96 : decode cX7_staysBy 96 = .ok (.if_icmp .eq 7, 3) := by decide +kernel
theorem dX7_staysBy_99 : decode cX7_staysBy 99 = .ok (.iconst 1, 1) := by decide +kernel
theorem dX7_staysBy_100 : decode cX7_staysBy 100 = .ok (.goto 4, 3) := by decide +kernel
theorem dX7_staysBy_103 : decode cX7_staysBy 103 = .ok (.iconst 0, 1) := by decide +kernel
theorem dX7_staysBy_104 : decode cX7_staysBy 104 = .ok (.ireturn, 1) := by decide +kernel
theorem dX7_odds_0 : decode cX7_odds 0 = .ok (.aload_n 0, 1) := by decide +kernel
theorem dX7_odds_1 : decode cX7_odds 1 = .ok (.iload_n 1, 1) := by decide +kernel
theorem dX7_odds_2 : decode cX7_odds 2 = .ok (.invokevirtual 129, 3) := by decide +kernel
theorem dX7_odds_5 : decode cX7_odds 5 = .ok (.ifCond .ne 7, 3) := by decide +kernel
theorem dX7_odds_8 : decode cX7_odds 8 = .ok (.ldc2_w 222, 3) := by decide +kernel
theorem dX7_odds_11 : decode cX7_odds 11 = .ok (.lreturn, 1) := by decide +kernel
theorem dX7_odds_12 : decode cX7_odds 12 = .ok (.iload_n 2, 1) := by decide +kernel
theorem dX7_odds_13 : decode cX7_odds 13 = .ok (.i2l, 1) := by decide +kernel
theorem dX7_odds_14 : decode cX7_odds 14 = .ok (.lconst 1, 1) := by decide +kernel
theorem dX7_odds_15 : decode cX7_odds 15 = .ok (.ldc2_w 121, 3) := by decide +kernel
theorem dX7_odds_18 : decode cX7_odds 18 = .ok (.invokestatic 75, 3) := by decide +kernel
theorem dX7_odds_21 : decode cX7_odds 21 = .ok (.ifCond .eq 39, 3) := by decide +kernel
theorem dX7_odds_24 : decode cX7_odds 24 = .ok (.iload_n 3, 1) := by decide +kernel
theorem dX7_odds_25 : decode cX7_odds 25 = .ok (.i2l, 1) := by decide +kernel
theorem dX7_odds_26 : decode cX7_odds 26 = .ok (.lconst 0, 1) := by decide +kernel
theorem dX7_odds_27 : decode cX7_odds 27 = .ok (.ldc2_w 121, 3) := by decide +kernel
theorem dX7_odds_30 : decode cX7_odds 30 = .ok (.invokestatic 75, 3) := by decide +kernel
theorem dX7_odds_33 : decode cX7_odds 33 = .ok (.ifCond .eq 27, 3) := by decide +kernel
theorem dX7_odds_36 : decode cX7_odds 36 = .ok (.iload 4, 2) := by decide +kernel
theorem dX7_odds_38 : decode cX7_odds 38 = .ok (.i2l, 1) := by decide +kernel
theorem dX7_odds_39 : decode cX7_odds 39 = .ok (.lconst 1, 1) := by decide +kernel
theorem dX7_odds_40 : decode cX7_odds 40 = .ok (.ldc2_w 121, 3) := by decide +kernel
theorem dX7_odds_43 : decode cX7_odds 43 = .ok (.invokestatic 75, 3) := by decide +kernel
theorem dX7_odds_46 : decode cX7_odds 46 = .ok (.ifCond .eq 14, 3) := by decide +kernel
theorem dX7_odds_49 : decode cX7_odds 49 = .ok (.iload 5, 2) := by decide +kernel
theorem dX7_odds_51 : decode cX7_odds 51 = .ok (.i2l, 1) := by decide +kernel
theorem dX7_odds_52 : decode cX7_odds 52 = .ok (.lconst 0, 1) := by decide +kernel
theorem dX7_odds_53 : decode cX7_odds 53 = .ok (.lconst 1, 1) := by decide +kernel
theorem dX7_odds_54 : decode cX7_odds 54 = .ok (.invokestatic 75, 3) := by decide +kernel
theorem dX7_odds_57 : decode cX7_odds 57 = .ok (.ifCond .ne 7, 3) := by decide +kernel
theorem dX7_odds_60 : decode cX7_odds 60 = .ok (.ldc2_w 224, 3) := by decide +kernel
theorem dX7_odds_63 : decode cX7_odds 63 = .ok (.lreturn, 1) := by decide +kernel
theorem dX7_odds_64 : decode cX7_odds 64 = .ok (.lconst 0, 1) := by decide +kernel
theorem dX7_odds_65 : decode cX7_odds 65 = .ok (.lstore 6, 2) := by decide +kernel
theorem dX7_odds_67 : decode cX7_odds 67 = .ok (.lconst 1, 1) := by decide +kernel
theorem dX7_odds_68 : decode cX7_odds 68 = .ok (.lstore 8, 2) := by decide +kernel
theorem dX7_odds_70 : decode cX7_odds 70 = .ok (.lconst 1, 1) := by decide +kernel
theorem dX7_odds_71 : decode cX7_odds 71 = .ok (.lstore 10, 2) := by decide +kernel
theorem dX7_odds_73 : decode cX7_odds 73 = .ok (.iconst 0, 1) := by decide +kernel
theorem dX7_odds_74 : decode cX7_odds 74 = .ok (.istore 12, 2) := by decide +kernel
theorem dX7_odds_76 : decode cX7_odds 76 = .ok (.iload 12, 2) := by decide +kernel
theorem dX7_odds_78 : decode cX7_odds 78 = .ok (.iload_n 2, 1) := by decide +kernel
theorem dX7_odds_79 : decode cX7_odds 79 = .ok (.if_icmp .gt 107, 3) := by decide +kernel
theorem dX7_odds_82 : decode cX7_odds 82 = .ok (.lload 10, 2) := by decide +kernel
theorem dX7_odds_84 : decode cX7_odds 84 = .ok (.lstore 13, 2) := by decide +kernel
theorem dX7_odds_86 : decode cX7_odds 86 = .ok (.iconst 0, 1) := by decide +kernel
theorem dX7_odds_87 : decode cX7_odds 87 = .ok (.istore 15, 2) := by decide +kernel
theorem dX7_odds_89 : decode cX7_odds 89 = .ok (.iload 15, 2) := by decide +kernel
theorem dX7_odds_91 : decode cX7_odds 91 = .ok (.iload_n 2, 1) := by decide +kernel
theorem dX7_odds_92 : decode cX7_odds 92 = .ok (.if_icmp .ge 31, 3) := by decide +kernel
theorem dX7_odds_95 : decode cX7_odds 95 = .ok (.lload 13, 2) := by decide +kernel
theorem dX7_odds_97 : decode cX7_odds 97 = .ok (.iload 15, 2) := by decide +kernel
theorem dX7_odds_99 : decode cX7_odds 99 = .ok (.iload 12, 2) := by decide +kernel
theorem dX7_odds_101 : decode cX7_odds 101 = .ok (.if_icmp .ge 8, 3) := by decide +kernel
theorem dX7_odds_104 : decode cX7_odds 104 = .ok (.iload_n 3, 1) := by decide +kernel
theorem dX7_odds_105 : decode cX7_odds 105 = .ok (.i2l, 1) := by decide +kernel
theorem dX7_odds_106 : decode cX7_odds 106 = .ok (.goto 8, 3) := by decide +kernel
theorem dX7_odds_109 : decode cX7_odds 109 = .ok (.bipush 10, 2) := by decide +kernel
theorem dX7_odds_111 : decode cX7_odds 111 = .ok (.iload_n 3, 1) := by decide +kernel
theorem dX7_odds_112 : decode cX7_odds 112 = .ok (.isub, 1) := by decide +kernel
theorem dX7_odds_113 : decode cX7_odds 113 = .ok (.i2l, 1) := by decide +kernel
theorem dX7_odds_114 : decode cX7_odds 114 = .ok (.lmul, 1) := by decide +kernel
theorem dX7_odds_115 : decode cX7_odds 115 = .ok (.lstore 13, 2) := by decide +kernel
theorem dX7_odds_117 : decode cX7_odds 117 = .ok (.iinc 15 1, 3) := by decide +kernel
theorem dX7_odds_120 : decode cX7_odds 120 = .ok (.goto (-31), 3) := by decide +kernel
theorem dX7_odds_123 : decode cX7_odds 123 = .ok (.lload 6, 2) := by decide +kernel
theorem dX7_odds_125 : decode cX7_odds 125 = .ok (.aload_n 0, 1) := by decide +kernel
theorem dX7_odds_126 : decode cX7_odds 126 = .ok (.iload_n 1, 1) := by decide +kernel
theorem dX7_odds_127 : decode cX7_odds 127 = .ok (.iload 12, 2) := by decide +kernel
theorem dX7_odds_129 : decode cX7_odds 129 = .ok (.iload 4, 2) := by decide +kernel
theorem dX7_odds_131 : decode cX7_odds 131 = .ok (.invokevirtual 226, 3) := by decide +kernel
theorem dX7_odds_134 : decode cX7_odds 134 = .ok (.ifCond .eq 8, 3) := by decide +kernel
theorem dX7_odds_137 : decode cX7_odds 137 = .ok (.lload 13, 2) := by decide +kernel
theorem dX7_odds_139 : decode cX7_odds 139 = .ok (.goto 4, 3) := by decide +kernel
theorem dX7_odds_142 : decode cX7_odds 142 = .ok (.lconst 0, 1) := by decide +kernel
theorem dX7_odds_143 : decode cX7_odds 143 = .ok (.ladd, 1) := by decide +kernel
theorem dX7_odds_144 : decode cX7_odds 144 = .ok (.lstore 6, 2) := by decide +kernel
theorem dX7_odds_146 : decode cX7_odds 146 = .ok (.lload 10, 2) := by decide +kernel
theorem dX7_odds_148 : decode cX7_odds 148 = .ok (.iload_n 2, 1) := by decide +kernel
theorem dX7_odds_149 : decode cX7_odds 149 = .ok (.iload 12, 2) := by decide +kernel
theorem dX7_odds_151 : decode cX7_odds 151 = .ok (.isub, 1) := by decide +kernel
theorem dX7_odds_152 : decode cX7_odds 152 = .ok (.i2l, 1) := by decide +kernel
theorem dX7_odds_153 : decode cX7_odds 153 = .ok (.lmul, 1) := by decide +kernel
theorem dX7_odds_154 : decode cX7_odds 154 = .ok (.iload 12, 2) := by decide +kernel
theorem dX7_odds_156 : decode cX7_odds 156 = .ok (.iconst 1, 1) := by decide +kernel
theorem dX7_odds_157 : decode cX7_odds 157 = .ok (.iadd, 1) := by decide +kernel
theorem dX7_odds_158 : decode cX7_odds 158 = .ok (.i2l, 1) := by decide +kernel
theorem dX7_odds_159 : decode cX7_odds 159 = .ok (.ldiv, 1) := by decide +kernel
theorem dX7_odds_160 : decode cX7_odds 160 = .ok (.lstore 10, 2) := by decide +kernel
theorem dX7_odds_162 : decode cX7_odds 162 = .ok (.lload 8, 2) := by decide +kernel
theorem dX7_odds_164 : decode cX7_odds 164 = .ok (.iload 12, 2) := by decide +kernel
theorem dX7_odds_166 : decode cX7_odds 166 = .ok (.iload_n 2, 1) := by decide +kernel
theorem dX7_odds_167 : decode cX7_odds 167 = .ok (.if_icmp .ge 9, 3) := by decide +kernel
theorem dX7_odds_170 : decode cX7_odds 170 = .ok (.ldc2_w 229, 3) := by decide +kernel
theorem dX7_odds_173 : decode cX7_odds 173 = .ok (.goto 4, 3) := by decide +kernel
theorem dX7_odds_176 : decode cX7_odds 176 = .ok (.lconst 1, 1) := by decide +kernel
theorem dX7_odds_177 : decode cX7_odds 177 = .ok (.lmul, 1) := by decide +kernel
theorem dX7_odds_178 : decode cX7_odds 178 = .ok (.lstore 8, 2) := by decide +kernel
theorem dX7_odds_180 : decode cX7_odds 180 = .ok (.iinc 12 1, 3) := by decide +kernel
theorem dX7_odds_183 : decode cX7_odds 183 = .ok (.goto (-107), 3) := by decide +kernel
theorem dX7_odds_186 : decode cX7_odds 186 = .ok (.lload 6, 2) := by decide +kernel
theorem dX7_odds_188 : decode cX7_odds 188 = .ok (.lload 8, 2) := by decide +kernel
theorem dX7_odds_190 : decode cX7_odds 190 = .ok (.iload 5, 2) := by decide +kernel
theorem dX7_odds_192 : decode cX7_odds 192 = .ok (.invokestatic 231, 3) := by decide +kernel
theorem dX7_odds_195 : decode cX7_odds 195 = .ok (.lreturn, 1) := by decide +kernel
theorem dX7_copy_0 : decode cX7_copy 0 = .ok (.iconst 0, 1) := by decide +kernel
theorem dX7_copy_1 : decode cX7_copy 1 = .ok (.istore_n 2, 1) := by decide +kernel
theorem dX7_copy_2 : decode cX7_copy 2 = .ok (.iload_n 2, 1) := by decide +kernel
theorem dX7_copy_3 : decode cX7_copy 3 = .ok (.aload_n 0, 1) := by decide +kernel
theorem dX7_copy_4 : decode cX7_copy 4 = .ok (.arraylength, 1) := by decide +kernel
theorem dX7_copy_5 : decode cX7_copy 5 = .ok (.if_icmp .ge 15, 3) := by decide +kernel
theorem dX7_copy_8 : decode cX7_copy 8 = .ok (.aload_n 1, 1) := by decide +kernel
theorem dX7_copy_9 : decode cX7_copy 9 = .ok (.iload_n 2, 1) := by decide +kernel
theorem dX7_copy_10 : decode cX7_copy 10 = .ok (.aload_n 0, 1) := by decide +kernel
theorem dX7_copy_11 : decode cX7_copy 11 = .ok (.iload_n 2, 1) := by decide +kernel
theorem dX7_copy_12 : decode cX7_copy 12 = .ok (.iaload, 1) := by decide +kernel
theorem dX7_copy_13 : decode cX7_copy 13 = .ok (.iastore, 1) := by decide +kernel
theorem dX7_copy_14 : decode cX7_copy 14 = .ok (.iinc 2 1, 3) := by decide +kernel
theorem dX7_copy_17 : decode cX7_copy 17 = .ok (.goto (-15), 3) := by decide +kernel
theorem dX7_copy_20 : decode cX7_copy 20 = .ok (.return_, 1) := by decide +kernel
theorem dX7_draw_0 : decode cX7_draw 0 = .ok (.aload_n 0, 1) := by decide +kernel
theorem dX7_draw_1 : decode cX7_draw 1 = .ok (.ldc2_w 235, 3) := by decide +kernel
theorem dX7_draw_4 : decode cX7_draw 4 = .ok (.aload_n 0, 1) := by decide +kernel
theorem dX7_draw_5 : decode cX7_draw 5 = .ok (.getfield 237, 3) := by decide +kernel
theorem dX7_draw_8 : decode cX7_draw 8 = .ok (.i2l, 1) := by decide +kernel
theorem dX7_draw_9 : decode cX7_draw 9 = .ok (.lmul, 1) := by decide +kernel
theorem dX7_draw_10 : decode cX7_draw 10 = .ok (.ldc2_w 240, 3) := by decide +kernel
theorem dX7_draw_13 : decode cX7_draw 13 = .ok (.ladd, 1) := by decide +kernel
theorem dX7_draw_14 : decode cX7_draw 14 = .ok (.ldc2_w 242, 3) := by decide +kernel
theorem dX7_draw_17 : decode cX7_draw 17 = .ok (.land, 1) := by decide +kernel
theorem dX7_draw_18 : decode cX7_draw 18 = .ok (.l2i, 1) := by decide +kernel
theorem dX7_draw_19 : decode cX7_draw 19 = .ok (.putfield 237, 3) := by decide +kernel
theorem dX7_draw_22 : decode cX7_draw 22 = .ok (.aload_n 0, 1) := by decide +kernel
theorem dX7_draw_23 : decode cX7_draw 23 = .ok (.getfield 237, 3) := by decide +kernel
theorem dX7_draw_26 : decode cX7_draw 26 = .ok (.ldc 244, 2) := by decide +kernel
theorem dX7_draw_28 : decode cX7_draw 28 = .ok (.idiv, 1) := by decide +kernel
theorem dX7_draw_29 : decode cX7_draw 29 = .ok (.iload_n 1, 1) := by decide +kernel
theorem dX7_draw_30 : decode cX7_draw 30 = .ok (.irem, 1) := by decide +kernel
theorem dX7_draw_31 : decode cX7_draw 31 = .ok (.ireturn, 1) := by decide +kernel
theorem dX7_winter_0 : decode cX7_winter 0 = .ok (.iload_n 1, 1) := by decide +kernel
theorem dX7_winter_1 : decode cX7_winter 1 = .ok (.i2l, 1) := by decide +kernel
theorem dX7_winter_2 : decode cX7_winter 2 = .ok (.lconst 1, 1) := by decide +kernel
theorem dX7_winter_3 : decode cX7_winter 3 = .ok (.ldc2_w 245, 3) := by decide +kernel
theorem dX7_winter_6 : decode cX7_winter 6 = .ok (.invokestatic 75, 3) := by decide +kernel
theorem dX7_winter_9 : decode cX7_winter 9 = .ok (.ifCond .eq 19, 3) := by decide +kernel
theorem dX7_winter_12 : decode cX7_winter 12 = .ok (.iload_n 2, 1) := by decide +kernel
theorem dX7_winter_13 : decode cX7_winter 13 = .ok (.ifCond .lt 15, 3) := by decide +kernel
theorem dX7_winter_16 : decode cX7_winter 16 = .ok (.iload_n 3, 1) := by decide +kernel
theorem dX7_winter_17 : decode cX7_winter 17 = .ok (.i2l, 1) := by decide +kernel
theorem dX7_winter_18 : decode cX7_winter 18 = .ok (.lconst 0, 1) := by decide +kernel
theorem dX7_winter_19 : decode cX7_winter 19 = .ok (.ldc2_w 84, 3) := by decide +kernel
theorem dX7_winter_22 : decode cX7_winter 22 = .ok (.invokestatic 75, 3) := by decide +kernel
theorem dX7_winter_25 : decode cX7_winter 25 = .ok (.ifCond .ne 6, 3) := by decide +kernel
theorem dX7_winter_28 : decode cX7_winter 28 = .ok (.bipush (-102), 2) := by decide +kernel
theorem dX7_winter_30 : decode cX7_winter 30 = .ok (.ireturn, 1) := by decide +kernel
theorem dX7_winter_31 : decode cX7_winter 31 = .ok (.aload_n 0, 1) := by decide +kernel
theorem dX7_winter_32 : decode cX7_winter 32 = .ok (.getfield 7, 3) := by decide +kernel
theorem dX7_winter_35 : decode cX7_winter 35 = .ok (.aload_n 0, 1) := by decide +kernel
theorem dX7_winter_36 : decode cX7_winter 36 = .ok (.getfield 43, 3) := by decide +kernel
theorem dX7_winter_39 : decode cX7_winter 39 = .ok (.invokestatic 247, 3) := by decide +kernel
theorem dX7_winter_42 : decode cX7_winter 42 = .ok (.aload_n 0, 1) := by decide +kernel
theorem dX7_winter_43 : decode cX7_winter 43 = .ok (.getfield 13, 3) := by decide +kernel
theorem dX7_winter_46 : decode cX7_winter 46 = .ok (.aload_n 0, 1) := by decide +kernel
theorem dX7_winter_47 : decode cX7_winter 47 = .ok (.getfield 46, 3) := by decide +kernel
theorem dX7_winter_50 : decode cX7_winter 50 = .ok (.invokestatic 247, 3) := by decide +kernel
theorem dX7_winter_53 : decode cX7_winter 53 = .ok (.aload_n 0, 1) := by decide +kernel
theorem dX7_winter_54 : decode cX7_winter 54 = .ok (.getfield 16, 3) := by decide +kernel
theorem dX7_winter_57 : decode cX7_winter 57 = .ok (.aload_n 0, 1) := by decide +kernel
theorem dX7_winter_58 : decode cX7_winter 58 = .ok (.getfield 49, 3) := by decide +kernel
theorem dX7_winter_61 : decode cX7_winter 61 = .ok (.invokestatic 247, 3) := by decide +kernel
theorem dX7_winter_64 : decode cX7_winter 64 = .ok (.aload_n 0, 1) := by decide +kernel
theorem dX7_winter_65 : decode cX7_winter 65 = .ok (.iload_n 2, 1) := by decide +kernel
theorem dX7_winter_66 : decode cX7_winter 66 = .ok (.putfield 237, 3) := by decide +kernel
theorem dX7_winter_69 : decode cX7_winter 69 = .ok (.iconst 0, 1) := by decide +kernel
theorem dX7_winter_70 : decode cX7_winter 70 = .ok (.istore 4, 2) := by decide +kernel
theorem dX7_winter_72 : decode cX7_winter 72 = .ok (.iload 4, 2) := by decide +kernel
theorem dX7_winter_74 : decode cX7_winter 74 = .ok (.iload_n 1, 1) := by decide +kernel
theorem dX7_winter_75 : decode cX7_winter 75 = .ok (.if_icmp .ge 40, 3) := by decide +kernel
theorem dX7_winter_78 : decode cX7_winter 78 = .ok (.aload_n 0, 1) := by decide +kernel
theorem dX7_winter_79 : decode cX7_winter 79 = .ok (.iconst 4, 1) := by decide +kernel
theorem dX7_winter_80 : decode cX7_winter 80 = .ok (.invokevirtual 251, 3) := by decide +kernel
theorem dX7_winter_83 : decode cX7_winter 83 = .ok (.istore 5, 2) := by decide +kernel
end
section
theorem dX7_winter_85 : decode cX7_winter 85 = .ok (.aload_n 0, 1) := by decide +kernel
theorem dX7_winter_86 : decode cX7_winter 86 = .ok (.iload 5, 2) := by decide +kernel
theorem dX7_winter_88 : decode cX7_winter 88 = .ok (.iload 5, 2) := by decide +kernel
theorem dX7_winter_90 : decode cX7_winter 90 = .ok (.iconst 2, 1) := by decide +kernel
theorem dX7_winter_91 : decode cX7_winter 91 = .ok (.if_icmp .ge 14, 3) := by decide +kernel
theorem dX7_winter_94 : decode cX7_winter 94 = .ok (.iconst 1, 1) := by decide +kernel
theorem dX7_winter_95 : decode cX7_winter 95 = .ok (.aload_n 0, 1) := by decide +kernel
theorem dX7_winter_96 : decode cX7_winter 96 = .ok (.bipush 9, 2) := by decide +kernel
theorem dX7_winter_98 : decode cX7_winter 98 = .ok (.invokevirtual 251, 3) := by decide +kernel
theorem dX7_winter_101 : decode cX7_winter 101 = .ok (.iadd, 1) := by decide +kernel
theorem dX7_winter_102 : decode cX7_winter 102 = .ok (.goto 4, 3) := by decide +kernel
theorem dX7_winter_105 : decode cX7_winter 105 = .ok (.iconst 0, 1) := by decide +kernel
theorem dX7_winter_106 : decode cX7_winter 106 = .ok (.invokevirtual 176, 3) := by decide +kernel
theorem dX7_winter_109 : decode cX7_winter 109 = .ok (.iinc 4 1, 3) := by decide +kernel
theorem dX7_winter_112 : decode cX7_winter 112 = .ok (.goto (-40), 3) := by decide +kernel
theorem dX7_winter_115 : decode cX7_winter 115 = .ok (.aload_n 0, 1) := by decide +kernel
theorem dX7_winter_116 : decode cX7_winter 116 = .ok (.invokevirtual 173, 3) := by decide +kernel
theorem dX7_winter_119 : decode cX7_winter 119 = .ok (.istore 4, 2) := by decide +kernel
theorem dX7_winter_121 : decode cX7_winter 121 = .ok (.iconst 0, 1) := by decide +kernel
theorem dX7_winter_122 : decode cX7_winter 122 = .ok (.istore 5, 2) := by decide +kernel
theorem dX7_winter_124 : decode cX7_winter 124 = .ok (.iconst 0, 1) := by decide +kernel
theorem dX7_winter_125 : decode cX7_winter 125 = .ok (.istore 6, 2) := by decide +kernel
theorem dX7_winter_127 : decode cX7_winter 127 = .ok (.iload 6, 2) := by decide +kernel
theorem dX7_winter_129 : decode cX7_winter 129 = .ok (.aload_n 0, 1) := by decide +kernel
theorem dX7_winter_130 : decode cX7_winter 130 = .ok (.invokevirtual 71, 3) := by decide +kernel
theorem dX7_winter_133 : decode cX7_winter 133 = .ok (.if_icmp .ge 21, 3) := by decide +kernel
theorem dX7_winter_136 : decode cX7_winter 136 = .ok (.iload 5, 2) := by decide +kernel
theorem dX7_winter_138 : decode cX7_winter 138 = .ok (.aload_n 0, 1) := by decide +kernel
theorem dX7_winter_139 : decode cX7_winter 139 = .ok (.getfield 7, 3) := by decide +kernel
theorem dX7_winter_142 : decode cX7_winter 142 = .ok (.iload 6, 2) := by decide +kernel
theorem dX7_winter_144 : decode cX7_winter 144 = .ok (.iaload, 1) := by decide +kernel
theorem dX7_winter_145 : decode cX7_winter 145 = .ok (.iadd, 1) := by decide +kernel
theorem dX7_winter_146 : decode cX7_winter 146 = .ok (.istore 5, 2) := by decide +kernel
theorem dX7_winter_148 : decode cX7_winter 148 = .ok (.iinc 6 1, 3) := by decide +kernel
theorem dX7_winter_151 : decode cX7_winter 151 = .ok (.goto (-24), 3) := by decide +kernel
theorem dX7_winter_154 : decode cX7_winter 154 = .ok (.aload_n 0, 1) := by decide +kernel
theorem dX7_winter_155 : decode cX7_winter 155 = .ok (.getfield 43, 3) := by decide +kernel
theorem dX7_winter_158 : decode cX7_winter 158 = .ok (.aload_n 0, 1) := by decide +kernel
theorem dX7_winter_159 : decode cX7_winter 159 = .ok (.getfield 7, 3) := by decide +kernel
theorem dX7_winter_162 : decode cX7_winter 162 = .ok (.invokestatic 247, 3) := by decide +kernel
theorem dX7_winter_165 : decode cX7_winter 165 = .ok (.aload_n 0, 1) := by decide +kernel
theorem dX7_winter_166 : decode cX7_winter 166 = .ok (.getfield 46, 3) := by decide +kernel
theorem dX7_winter_169 : decode cX7_winter 169 = .ok (.aload_n 0, 1) := by decide +kernel
theorem dX7_winter_170 : decode cX7_winter 170 = .ok (.getfield 13, 3) := by decide +kernel
theorem dX7_winter_173 : decode cX7_winter 173 = .ok (.invokestatic 247, 3) := by decide +kernel
theorem dX7_winter_176 : decode cX7_winter 176 = .ok (.aload_n 0, 1) := by decide +kernel
theorem dX7_winter_177 : decode cX7_winter 177 = .ok (.getfield 49, 3) := by decide +kernel
theorem dX7_winter_180 : decode cX7_winter 180 = .ok (.aload_n 0, 1) := by decide +kernel
theorem dX7_winter_181 : decode cX7_winter 181 = .ok (.getfield 16, 3) := by decide +kernel
theorem dX7_winter_184 : decode cX7_winter 184 = .ok (.invokestatic 247, 3) := by decide +kernel
theorem dX7_winter_187 : decode cX7_winter 187 = .ok (.iload_n 3, 1) := by decide +kernel
theorem dX7_winter_188 : decode cX7_winter 188 = .ok (.ifCond .ne 8, 3) := by decide +kernel
theorem dX7_winter_191 : decode cX7_winter 191 = .ok (.iload 4, 2) := by decide +kernel
theorem dX7_winter_193 : decode cX7_winter 193 = .ok (.goto 17, 3) := by decide +kernel
theorem dX7_winter_196 : decode cX7_winter 196 = .ok (.iload_n 3, 1) := by decide +kernel
theorem dX7_winter_197 : decode cX7_winter 197 = .ok (.iconst 1, 1) := by decide +kernel
theorem dX7_winter_198 : decode cX7_winter 198 = .ok (.if_icmp .ne 8, 3) := by decide +kernel
theorem dX7_winter_201 : decode cX7_winter 201 = .ok (.iload 5, 2) := by decide +kernel
theorem dX7_winter_203 : decode cX7_winter 203 = .ok (.goto 7, 3) := by decide +kernel
theorem dX7_winter_206 : decode cX7_winter 206 = .ok (.aload_n 0, 1) := by decide +kernel
theorem dX7_winter_207 : decode cX7_winter 207 = .ok (.getfield 237, 3) := by decide +kernel
theorem dX7_winter_210 : decode cX7_winter 210 = .ok (.ireturn, 1) := by decide +kernel
theorem dX7_image_0 : decode cX7_image 0 = .ok (.aload_n 0, 1) := by decide +kernel
theorem dX7_image_1 : decode cX7_image 1 = .ok (.getfield 7, 3) := by decide +kernel
theorem dX7_image_4 : decode cX7_image 4 = .ok (.aload_n 0, 1) := by decide +kernel
theorem dX7_image_5 : decode cX7_image 5 = .ok (.getfield 52, 3) := by decide +kernel
theorem dX7_image_8 : decode cX7_image 8 = .ok (.invokestatic 247, 3) := by decide +kernel
theorem dX7_image_11 : decode cX7_image 11 = .ok (.aload_n 0, 1) := by decide +kernel
theorem dX7_image_12 : decode cX7_image 12 = .ok (.getfield 13, 3) := by decide +kernel
theorem dX7_image_15 : decode cX7_image 15 = .ok (.aload_n 0, 1) := by decide +kernel
theorem dX7_image_16 : decode cX7_image 16 = .ok (.getfield 55, 3) := by decide +kernel
theorem dX7_image_19 : decode cX7_image 19 = .ok (.invokestatic 247, 3) := by decide +kernel
theorem dX7_image_22 : decode cX7_image 22 = .ok (.aload_n 0, 1) := by decide +kernel
theorem dX7_image_23 : decode cX7_image 23 = .ok (.getfield 16, 3) := by decide +kernel
theorem dX7_image_26 : decode cX7_image 26 = .ok (.aload_n 0, 1) := by decide +kernel
theorem dX7_image_27 : decode cX7_image 27 = .ok (.getfield 58, 3) := by decide +kernel
theorem dX7_image_30 : decode cX7_image 30 = .ok (.invokestatic 247, 3) := by decide +kernel
theorem dX7_image_33 : decode cX7_image 33 = .ok (.aload_n 0, 1) := by decide +kernel
theorem dX7_image_34 : decode cX7_image 34 = .ok (.aload_n 0, 1) := by decide +kernel
theorem dX7_image_35 : decode cX7_image 35 = .ok (.getfield 79, 3) := by decide +kernel
theorem dX7_image_38 : decode cX7_image 38 = .ok (.putfield 254, 3) := by decide +kernel
theorem dX7_image_41 : decode cX7_image 41 = .ok (.aload_n 0, 1) := by decide +kernel
theorem dX7_image_42 : decode cX7_image 42 = .ok (.aload_n 0, 1) := by decide +kernel
theorem dX7_image_43 : decode cX7_image 43 = .ok (.getfield 88, 3) := by decide +kernel
theorem dX7_image_46 : decode cX7_image 46 = .ok (.putfield 257, 3) := by decide +kernel
theorem dX7_image_49 : decode cX7_image 49 = .ok (.aload_n 0, 1) := by decide +kernel
theorem dX7_image_50 : decode cX7_image 50 = .ok (.aload_n 0, 1) := by decide +kernel
theorem dX7_image_51 : decode cX7_image 51 = .ok (.getfield 91, 3) := by decide +kernel
theorem dX7_image_54 : decode cX7_image 54 = .ok (.putfield 61, 3) := by decide +kernel
theorem dX7_image_57 : decode cX7_image 57 = .ok (.aload_n 0, 1) := by decide +kernel
theorem dX7_image_58 : decode cX7_image 58 = .ok (.getfield 79, 3) := by decide +kernel
theorem dX7_image_61 : decode cX7_image 61 = .ok (.ireturn, 1) := by decide +kernel
theorem dX7_restore_0 : decode cX7_restore 0 = .ok (.aload_n 0, 1) := by decide +kernel
theorem dX7_restore_1 : decode cX7_restore 1 = .ok (.getfield 61, 3) := by decide +kernel
theorem dX7_restore_4 : decode cX7_restore 4 = .ok (.aload_n 0, 1) := by decide +kernel
theorem dX7_restore_5 : decode cX7_restore 5 = .ok (.getfield 91, 3) := by decide +kernel
theorem dX7_restore_8 : decode cX7_restore 8 = .ok (.if_icmp .eq 6, 3) := by decide +kernel
theorem dX7_restore_11 : decode cX7_restore 11 = .ok (.bipush (-103), 2) := by decide +kernel
theorem dX7_restore_13 : decode cX7_restore 13 = .ok (.ireturn, 1) := by decide +kernel
theorem dX7_restore_14 : decode cX7_restore 14 = .ok (.aload_n 0, 1) := by decide +kernel
theorem dX7_restore_15 : decode cX7_restore 15 = .ok (.getfield 52, 3) := by decide +kernel
theorem dX7_restore_18 : decode cX7_restore 18 = .ok (.aload_n 0, 1) := by decide +kernel
theorem dX7_restore_19 : decode cX7_restore 19 = .ok (.getfield 7, 3) := by decide +kernel
theorem dX7_restore_22 : decode cX7_restore 22 = .ok (.invokestatic 247, 3) := by decide +kernel
theorem dX7_restore_25 : decode cX7_restore 25 = .ok (.aload_n 0, 1) := by decide +kernel
theorem dX7_restore_26 : decode cX7_restore 26 = .ok (.getfield 55, 3) := by decide +kernel
theorem dX7_restore_29 : decode cX7_restore 29 = .ok (.aload_n 0, 1) := by decide +kernel
theorem dX7_restore_30 : decode cX7_restore 30 = .ok (.getfield 13, 3) := by decide +kernel
theorem dX7_restore_33 : decode cX7_restore 33 = .ok (.invokestatic 247, 3) := by decide +kernel
theorem dX7_restore_36 : decode cX7_restore 36 = .ok (.aload_n 0, 1) := by decide +kernel
theorem dX7_restore_37 : decode cX7_restore 37 = .ok (.getfield 58, 3) := by decide +kernel
theorem dX7_restore_40 : decode cX7_restore 40 = .ok (.aload_n 0, 1) := by decide +kernel
theorem dX7_restore_41 : decode cX7_restore 41 = .ok (.getfield 16, 3) := by decide +kernel
theorem dX7_restore_44 : decode cX7_restore 44 = .ok (.invokestatic 247, 3) := by decide +kernel
theorem dX7_restore_47 : decode cX7_restore 47 = .ok (.aload_n 0, 1) := by decide +kernel
theorem dX7_restore_48 : decode cX7_restore 48 = .ok (.aload_n 0, 1) := by decide +kernel
theorem dX7_restore_49 : decode cX7_restore 49 = .ok (.getfield 254, 3) := by decide +kernel
theorem dX7_restore_52 : decode cX7_restore 52 = .ok (.putfield 79, 3) := by decide +kernel
theorem dX7_restore_55 : decode cX7_restore 55 = .ok (.aload_n 0, 1) := by decide +kernel
theorem dX7_restore_56 : decode cX7_restore 56 = .ok (.aload_n 0, 1) := by decide +kernel
theorem dX7_restore_57 : decode cX7_restore 57 = .ok (.getfield 257, 3) := by decide +kernel
theorem dX7_restore_60 : decode cX7_restore 60 = .ok (.putfield 88, 3) := by decide +kernel
theorem dX7_restore_63 : decode cX7_restore 63 = .ok (.aload_n 0, 1) := by decide +kernel
theorem dX7_restore_64 : decode cX7_restore 64 = .ok (.getfield 79, 3) := by decide +kernel
theorem dX7_restore_67 : decode cX7_restore 67 = .ok (.ireturn, 1) := by decide +kernel
theorem dX7_countOf_0 : decode cX7_countOf 0 = .ok (.iload_n 1, 1) := by decide +kernel
theorem dX7_countOf_1 : decode cX7_countOf 1 = .ok (.tableswitch 69 0 5 #[39, 44, 49, 54, 59, 64], 39) := by decide +kernel
theorem dX7_countOf_40 : decode cX7_countOf 40 = .ok (.aload_n 0, 1) := by decide +kernel
theorem dX7_countOf_41 : decode cX7_countOf 41 = .ok (.invokevirtual 71, 3) := by decide +kernel
theorem dX7_countOf_44 : decode cX7_countOf 44 = .ok (.ireturn, 1) := by decide +kernel
theorem dX7_countOf_45 : decode cX7_countOf 45 = .ok (.aload_n 0, 1) := by decide +kernel
theorem dX7_countOf_46 : decode cX7_countOf 46 = .ok (.getfield 79, 3) := by decide +kernel
theorem dX7_countOf_49 : decode cX7_countOf 49 = .ok (.ireturn, 1) := by decide +kernel
theorem dX7_countOf_50 : decode cX7_countOf 50 = .ok (.aload_n 0, 1) := by decide +kernel
theorem dX7_countOf_51 : decode cX7_countOf 51 = .ok (.invokevirtual 173, 3) := by decide +kernel
theorem dX7_countOf_54 : decode cX7_countOf 54 = .ok (.ireturn, 1) := by decide +kernel
theorem dX7_countOf_55 : decode cX7_countOf 55 = .ok (.aload_n 0, 1) := by decide +kernel
theorem dX7_countOf_56 : decode cX7_countOf 56 = .ok (.getfield 88, 3) := by decide +kernel
theorem dX7_countOf_59 : decode cX7_countOf 59 = .ok (.ireturn, 1) := by decide +kernel
theorem dX7_countOf_60 : decode cX7_countOf 60 = .ok (.aload_n 0, 1) := by decide +kernel
theorem dX7_countOf_61 : decode cX7_countOf 61 = .ok (.getfield 137, 3) := by decide +kernel
theorem dX7_countOf_64 : decode cX7_countOf 64 = .ok (.ireturn, 1) := by decide +kernel
theorem dX7_countOf_65 : decode cX7_countOf 65 = .ok (.aload_n 0, 1) := by decide +kernel
theorem dX7_countOf_66 : decode cX7_countOf 66 = .ok (.getfield 199, 3) := by decide +kernel
theorem dX7_countOf_69 : decode cX7_countOf 69 = .ok (.ireturn, 1) := by decide +kernel
theorem dX7_countOf_70 : decode cX7_countOf 70 = .ok (.bipush (-102), 2) := by decide +kernel
theorem dX7_countOf_72 : decode cX7_countOf 72 = .ok (.ireturn, 1) := by decide +kernel
theorem dX7_count_0 : decode cX7_count 0 = .ok (.aload_n 0, 1) := by decide +kernel
theorem dX7_count_1 : decode cX7_count 1 = .ok (.iload_n 1, 1) := by decide +kernel
theorem dX7_count_2 : decode cX7_count 2 = .ok (.invokevirtual 260, 3) := by decide +kernel
theorem dX7_count_5 : decode cX7_count 5 = .ok (.ireturn, 1) := by decide +kernel
theorem dX7_say_0 : decode cX7_say 0 = .ok (.aload_n 0, 1) := by decide +kernel
theorem dX7_say_1 : decode cX7_say 1 = .ok (.ldc2_w 263, 3) := by decide +kernel
theorem dX7_say_4 : decode cX7_say 4 = .ok (.aload_n 0, 1) := by decide +kernel
theorem dX7_say_5 : decode cX7_say 5 = .ok (.getfield 265, 3) := by decide +kernel
theorem dX7_say_8 : decode cX7_say 8 = .ok (.lmul, 1) := by decide +kernel
theorem dX7_say_9 : decode cX7_say 9 = .ok (.lload_n 1, 1) := by decide +kernel
theorem dX7_say_10 : decode cX7_say 10 = .ok (.ladd, 1) := by decide +kernel
theorem dX7_say_11 : decode cX7_say 11 = .ok (.putfield 265, 3) := by decide +kernel
theorem dX7_say_14 : decode cX7_say 14 = .ok (.return_, 1) := by decide +kernel
theorem dX7_digest_0 : decode cX7_digest 0 = .ok (.aload_n 0, 1) := by decide +kernel
theorem dX7_digest_1 : decode cX7_digest 1 = .ok (.ldc2_w 269, 3) := by decide +kernel
theorem dX7_digest_4 : decode cX7_digest 4 = .ok (.putfield 265, 3) := by decide +kernel
theorem dX7_digest_7 : decode cX7_digest 7 = .ok (.iconst 0, 1) := by decide +kernel
theorem dX7_digest_8 : decode cX7_digest 8 = .ok (.istore_n 1, 1) := by decide +kernel
theorem dX7_digest_9 : decode cX7_digest 9 = .ok (.iload_n 1, 1) := by decide +kernel
theorem dX7_digest_10 : decode cX7_digest 10 = .ok (.aload_n 0, 1) := by decide +kernel
theorem dX7_digest_11 : decode cX7_digest 11 = .ok (.invokevirtual 71, 3) := by decide +kernel
theorem dX7_digest_14 : decode cX7_digest 14 = .ok (.if_icmp .ge 33, 3) := by decide +kernel
theorem dX7_digest_17 : decode cX7_digest 17 = .ok (.iconst 0, 1) := by decide +kernel
theorem dX7_digest_18 : decode cX7_digest 18 = .ok (.istore_n 2, 1) := by decide +kernel
theorem dX7_digest_19 : decode cX7_digest 19 = .ok (.iload_n 2, 1) := by decide +kernel
theorem dX7_digest_20 : decode cX7_digest 20 = .ok (.iconst 4, 1) := by decide +kernel
theorem dX7_digest_21 : decode cX7_digest 21 = .ok (.if_icmp .ge 20, 3) := by decide +kernel
theorem dX7_digest_24 : decode cX7_digest 24 = .ok (.aload_n 0, 1) := by decide +kernel
theorem dX7_digest_25 : decode cX7_digest 25 = .ok (.aload_n 0, 1) := by decide +kernel
theorem dX7_digest_26 : decode cX7_digest 26 = .ok (.iload_n 1, 1) := by decide +kernel
theorem dX7_digest_27 : decode cX7_digest 27 = .ok (.iload_n 2, 1) := by decide +kernel
theorem dX7_digest_28 : decode cX7_digest 28 = .ok (.invokevirtual 110, 3) := by decide +kernel
theorem dX7_digest_31 : decode cX7_digest 31 = .ok (.i2l, 1) := by decide +kernel
theorem dX7_digest_32 : decode cX7_digest 32 = .ok (.invokevirtual 271, 3) := by decide +kernel
theorem dX7_digest_35 : decode cX7_digest 35 = .ok (.iinc 2 1, 3) := by decide +kernel
theorem dX7_digest_38 : decode cX7_digest 38 = .ok (.goto (-19), 3) := by decide +kernel
theorem dX7_digest_41 : decode cX7_digest 41 = .ok (.iinc 1 1, 3) := by decide +kernel
theorem dX7_digest_44 : decode cX7_digest 44 = .ok (.goto (-35), 3) := by decide +kernel
theorem dX7_digest_47 : decode cX7_digest 47 = .ok (.iconst 0, 1) := by decide +kernel
theorem dX7_digest_48 : decode cX7_digest 48 = .ok (.istore_n 1, 1) := by decide +kernel
theorem dX7_digest_49 : decode cX7_digest 49 = .ok (.iload_n 1, 1) := by decide +kernel
theorem dX7_digest_50 : decode cX7_digest 50 = .ok (.aload_n 0, 1) := by decide +kernel
theorem dX7_digest_51 : decode cX7_digest 51 = .ok (.getfield 79, 3) := by decide +kernel
theorem dX7_digest_54 : decode cX7_digest 54 = .ok (.if_icmp .ge 34, 3) := by decide +kernel
theorem dX7_digest_57 : decode cX7_digest 57 = .ok (.iconst 0, 1) := by decide +kernel
theorem dX7_digest_58 : decode cX7_digest 58 = .ok (.istore_n 2, 1) := by decide +kernel
theorem dX7_digest_59 : decode cX7_digest 59 = .ok (.iload_n 2, 1) := by decide +kernel
theorem dX7_digest_60 : decode cX7_digest 60 = .ok (.bipush 8, 2) := by decide +kernel
theorem dX7_digest_62 : decode cX7_digest 62 = .ok (.if_icmp .ge 20, 3) := by decide +kernel
theorem dX7_digest_65 : decode cX7_digest 65 = .ok (.aload_n 0, 1) := by decide +kernel
theorem dX7_digest_66 : decode cX7_digest 66 = .ok (.aload_n 0, 1) := by decide +kernel
theorem dX7_digest_67 : decode cX7_digest 67 = .ok (.iload_n 1, 1) := by decide +kernel
theorem dX7_digest_68 : decode cX7_digest 68 = .ok (.iload_n 2, 1) := by decide +kernel
theorem dX7_digest_69 : decode cX7_digest 69 = .ok (.invokevirtual 132, 3) := by decide +kernel
theorem dX7_digest_72 : decode cX7_digest 72 = .ok (.i2l, 1) := by decide +kernel
theorem dX7_digest_73 : decode cX7_digest 73 = .ok (.invokevirtual 271, 3) := by decide +kernel
theorem dX7_digest_76 : decode cX7_digest 76 = .ok (.iinc 2 1, 3) := by decide +kernel
theorem dX7_digest_79 : decode cX7_digest 79 = .ok (.goto (-20), 3) := by decide +kernel
theorem dX7_digest_82 : decode cX7_digest 82 = .ok (.iinc 1 1, 3) := by decide +kernel
theorem dX7_digest_85 : decode cX7_digest 85 = .ok (.goto (-36), 3) := by decide +kernel
theorem dX7_digest_88 : decode cX7_digest 88 = .ok (.iconst 0, 1) := by decide +kernel
theorem dX7_digest_89 : decode cX7_digest 89 = .ok (.istore_n 1, 1) := by decide +kernel
theorem dX7_digest_90 : decode cX7_digest 90 = .ok (.iload_n 1, 1) := by decide +kernel
theorem dX7_digest_91 : decode cX7_digest 91 = .ok (.bipush 6, 2) := by decide +kernel
theorem dX7_digest_93 : decode cX7_digest 93 = .ok (.if_icmp .ge 19, 3) := by decide +kernel
theorem dX7_digest_96 : decode cX7_digest 96 = .ok (.aload_n 0, 1) := by decide +kernel
theorem dX7_digest_97 : decode cX7_digest 97 = .ok (.aload_n 0, 1) := by decide +kernel
theorem dX7_digest_98 : decode cX7_digest 98 = .ok (.iload_n 1, 1) := by decide +kernel
theorem dX7_digest_99 : decode cX7_digest 99 = .ok (.invokevirtual 188, 3) := by decide +kernel
theorem dX7_digest_102 : decode cX7_digest 102 = .ok (.i2l, 1) := by decide +kernel
theorem dX7_digest_103 : decode cX7_digest 103 = .ok (.invokevirtual 271, 3) := by decide +kernel
theorem dX7_digest_106 : decode cX7_digest 106 = .ok (.iinc 1 1, 3) := by decide +kernel
theorem dX7_digest_109 : decode cX7_digest 109 = .ok (.goto (-19), 3) := by decide +kernel
theorem dX7_digest_112 : decode cX7_digest 112 = .ok (.aload_n 0, 1) := by decide +kernel
theorem dX7_digest_113 : decode cX7_digest 113 = .ok (.invokevirtual 208, 3) := by decide +kernel
theorem dX7_digest_116 : decode cX7_digest 116 = .ok (.istore_n 1, 1) := by decide +kernel
theorem dX7_digest_117 : decode cX7_digest 117 = .ok (.aload_n 0, 1) := by decide +kernel
theorem dX7_digest_118 : decode cX7_digest 118 = .ok (.bipush 6, 2) := by decide +kernel
theorem dX7_digest_120 : decode cX7_digest 120 = .ok (.iload_n 1, 1) := by decide +kernel
theorem dX7_digest_121 : decode cX7_digest 121 = .ok (.isub, 1) := by decide +kernel
theorem dX7_digest_122 : decode cX7_digest 122 = .ok (.i2l, 1) := by decide +kernel
theorem dX7_digest_123 : decode cX7_digest 123 = .ok (.invokevirtual 271, 3) := by decide +kernel
theorem dX7_digest_126 : decode cX7_digest 126 = .ok (.aload_n 0, 1) := by decide +kernel
theorem dX7_digest_127 : decode cX7_digest 127 = .ok (.iload_n 1, 1) := by decide +kernel
theorem dX7_digest_128 : decode cX7_digest 128 = .ok (.i2l, 1) := by decide +kernel
theorem dX7_digest_129 : decode cX7_digest 129 = .ok (.invokevirtual 271, 3) := by decide +kernel
theorem dX7_digest_132 : decode cX7_digest 132 = .ok (.aload_n 0, 1) := by decide +kernel
theorem dX7_digest_133 : decode cX7_digest 133 = .ok (.aload_n 0, 1) := by decide +kernel
theorem dX7_digest_134 : decode cX7_digest 134 = .ok (.iconst 0, 1) := by decide +kernel
theorem dX7_digest_135 : decode cX7_digest 135 = .ok (.aload_n 0, 1) := by decide +kernel
theorem dX7_digest_136 : decode cX7_digest 136 = .ok (.invokevirtual 71, 3) := by decide +kernel
theorem dX7_digest_139 : decode cX7_digest 139 = .ok (.iconst 1, 1) := by decide +kernel
theorem dX7_digest_140 : decode cX7_digest 140 = .ok (.isub, 1) := by decide +kernel
theorem dX7_digest_141 : decode cX7_digest 141 = .ok (.iconst 0, 1) := by decide +kernel
theorem dX7_digest_142 : decode cX7_digest 142 = .ok (.invokevirtual 218, 3) := by decide +kernel
theorem dX7_digest_145 : decode cX7_digest 145 = .ok (.i2l, 1) := by decide +kernel
theorem dX7_digest_146 : decode cX7_digest 146 = .ok (.invokevirtual 271, 3) := by decide +kernel
theorem dX7_digest_149 : decode cX7_digest 149 = .ok (.aload_n 0, 1) := by decide +kernel
theorem dX7_digest_150 : decode cX7_digest 150 = .ok (.aload_n 0, 1) := by decide +kernel
theorem dX7_digest_151 : decode cX7_digest 151 = .ok (.iconst 0, 1) := by decide +kernel
theorem dX7_digest_152 : decode cX7_digest 152 = .ok (.aload_n 0, 1) := by decide +kernel
theorem dX7_digest_153 : decode cX7_digest 153 = .ok (.invokevirtual 71, 3) := by decide +kernel
theorem dX7_digest_156 : decode cX7_digest 156 = .ok (.iconst 1, 1) := by decide +kernel
theorem dX7_digest_157 : decode cX7_digest 157 = .ok (.isub, 1) := by decide +kernel
theorem dX7_digest_158 : decode cX7_digest 158 = .ok (.iconst 1, 1) := by decide +kernel
theorem dX7_digest_159 : decode cX7_digest 159 = .ok (.invokevirtual 218, 3) := by decide +kernel
theorem dX7_digest_162 : decode cX7_digest 162 = .ok (.i2l, 1) := by decide +kernel
theorem dX7_digest_163 : decode cX7_digest 163 = .ok (.invokevirtual 271, 3) := by decide +kernel
theorem dX7_digest_166 : decode cX7_digest 166 = .ok (.iconst 0, 1) := by decide +kernel
theorem dX7_digest_167 : decode cX7_digest 167 = .ok (.istore_n 2, 1) := by decide +kernel
theorem dX7_digest_168 : decode cX7_digest 168 = .ok (.iload_n 2, 1) := by decide +kernel
theorem dX7_digest_169 : decode cX7_digest 169 = .ok (.aload_n 0, 1) := by decide +kernel
theorem dX7_digest_170 : decode cX7_digest 170 = .ok (.getfield 137, 3) := by decide +kernel
theorem dX7_digest_173 : decode cX7_digest 173 = .ok (.if_icmp .ge 20, 3) := by decide +kernel
theorem dX7_digest_176 : decode cX7_digest 176 = .ok (.aload_n 0, 1) := by decide +kernel
theorem dX7_digest_177 : decode cX7_digest 177 = .ok (.aload_n 0, 1) := by decide +kernel
theorem dX7_digest_178 : decode cX7_digest 178 = .ok (.getfield 19, 3) := by decide +kernel
theorem dX7_digest_181 : decode cX7_digest 181 = .ok (.iload_n 2, 1) := by decide +kernel
theorem dX7_digest_182 : decode cX7_digest 182 = .ok (.iaload, 1) := by decide +kernel
theorem dX7_digest_183 : decode cX7_digest 183 = .ok (.i2l, 1) := by decide +kernel
theorem dX7_digest_184 : decode cX7_digest 184 = .ok (.invokevirtual 271, 3) := by decide +kernel
theorem dX7_digest_187 : decode cX7_digest 187 = .ok (.iinc 2 1, 3) := by decide +kernel
theorem dX7_digest_190 : decode cX7_digest 190 = .ok (.goto (-22), 3) := by decide +kernel
theorem dX7_digest_193 : decode cX7_digest 193 = .ok (.iconst 0, 1) := by decide +kernel
theorem dX7_digest_194 : decode cX7_digest 194 = .ok (.istore_n 2, 1) := by decide +kernel
theorem dX7_digest_195 : decode cX7_digest 195 = .ok (.iload_n 2, 1) := by decide +kernel
theorem dX7_digest_196 : decode cX7_digest 196 = .ok (.bipush 6, 2) := by decide +kernel
theorem dX7_digest_198 : decode cX7_digest 198 = .ok (.if_icmp .ge 19, 3) := by decide +kernel
theorem dX7_digest_201 : decode cX7_digest 201 = .ok (.aload_n 0, 1) := by decide +kernel
theorem dX7_digest_202 : decode cX7_digest 202 = .ok (.aload_n 0, 1) := by decide +kernel
theorem dX7_digest_203 : decode cX7_digest 203 = .ok (.iload_n 2, 1) := by decide +kernel
theorem dX7_digest_204 : decode cX7_digest 204 = .ok (.invokevirtual 260, 3) := by decide +kernel
theorem dX7_digest_207 : decode cX7_digest 207 = .ok (.i2l, 1) := by decide +kernel
theorem dX7_digest_208 : decode cX7_digest 208 = .ok (.invokevirtual 271, 3) := by decide +kernel
theorem dX7_digest_211 : decode cX7_digest 211 = .ok (.iinc 2 1, 3) := by decide +kernel
theorem dX7_digest_214 : decode cX7_digest 214 = .ok (.goto (-19), 3) := by decide +kernel
theorem dX7_digest_217 : decode cX7_digest 217 = .ok (.aload_n 0, 1) := by decide +kernel
theorem dX7_digest_218 : decode cX7_digest 218 = .ok (.getfield 265, 3) := by decide +kernel
theorem dX7_digest_221 : decode cX7_digest 221 = .ok (.lreturn, 1) := by decide +kernel
end
section
/-- the heap of both systems: ints by cell and place, and the one long -/
abbrev Hp : Type := (Nat → Nat → Int32) × Int64
abbrev Rs : Type := Option Value × Hp
def b2i (b : Bool) : Int32 := if b then 1 else 0
def inb (i : Int32) (n : Nat) : Bool := decide (¬ (i < 0 ∨ n ≤ i.toNatClampNeg))
theorem inb_in {i : Int32} {n : Nat} (h : inb i n = true) : vp_in i n := by
  have h1 : ¬ (i < 0 ∨ n ≤ i.toNatClampNeg) := of_decide_eq_true h
  exact h1
def isB (x : Int32) : Bool := decide (x = 0 ∨ x = 1)
def imax (a b : Int32) : Int32 := if a < b then b else a
def imin (a b : Int32) : Int32 := if b < a then b else a
def up (σ : Hp) (c k : Nat) (v : Int32) : Hp := (fun c' k' => if c' = c ∧ k' = k then v else σ.1 c' k', σ.2)
def upl (σ : Hp) (v : Int64) : Hp := (σ.1, v)
def gw : List Cond := lw_tbl.filter goodWord
theorem gd {w : Cond} (i : Nat) (h : lw_tbl[i]? = some w) (g : goodWord w = true) : w ∈ gw := List.mem_filter.mpr ⟨List.mem_of_getElem? h, g⟩
theorem gw_good {w : Cond} (h : w ∈ gw) : (w.onTables && w.keeps) = true ∨ ∃ ty, w = .arrayClass ty := good_of_word (List.mem_filter.mp h).2
def wsU (y : MethodName) (b : ByteArray) (n : Nat) (r : Option FieldType) : List Cond := Cond.code y b n r :: gw
def clz : List vw_C := [(RX0, TX0, 8), (RX1, TX1, 6), (RX2, TX2, 2), (RX3, TX3, 3), (RX4, TX4, 5), (RX5, TX5, 7), (RX6, TX6, 9), (RX7, TX7, 31)]
/-- lengths of the rows of ints -/
def alen (k : Nat) : Nat := if k = 40 then 24 else if k < 46 then 16 else if k < 49 then 10 else if k = 49 then 1024 else if k = 51 then 6 else if k < 54 then 64 else if k < 58 then 16 else if k = 58 then 80 else if k = 59 then 24 else if k < 62 then 12 else if k = 62 then 1024 else if k = 63 then 64 else if k = 64 then 6 else if k < 69 then 16 else if k = 69 then 80 else if k < 72 then 16 else 80
/-- the cells: 10 t + i DEBT i of town t, 30 + t a town, 33 + t its ice, 36 + t its row of debts, 39 the page (40 codes), 41 the skater (42 steps, 43 gain, 44 readable, 45 queue), 46 the loading (47 weight, 48 worth, 49 packed), 50 the settling (51 rests, 52 together, 53 groups), 54 the object, 55 the reference (56 ice .. 72 keptRows) -/
def cellE (cI cD : ClassId) (α : Nat → Nat) (σ : Hp) (k : Nat) : va_E :=
  if k < 30 then .inr (0, [.int (σ.1 k 0), .int (σ.1 k 1), .int (σ.1 k 2), .int (σ.1 k 3), .int (σ.1 k 4), .int (σ.1 k 5), .int (σ.1 k 6), .int (σ.1 k 7)])
  else if k < 33 then .inr (5, [.int (σ.1 k 0), .int (σ.1 k 1), .int (σ.1 k 2), .int (σ.1 k 3), .int (σ.1 k 4), .ref (α (k + 3)), .ref (α (k + 6))])
  else if k < 36 then .inl (cI, 16, .inl (σ.1 k))
  else if k < 39 then .inl (cD, 10, .inr (.inr (.inr (.inr (fun i => some (α (10 * (k - 36) + i)))))))
  else if k = 39 then .inr (2, [.ref (α 40), .int (σ.1 39 1)])
  else if k = 41 then .inr (4, [.ref (α 42), .ref (α 43), .ref (α 44), .ref (α 45), .int (σ.1 41 4)])
  else if k = 46 then .inr (1, [.int (σ.1 46 0), .int (σ.1 46 1), .int (σ.1 46 2), .ref (α 47), .ref (α 48), .ref (α 49)])
  else if k = 50 then .inr (3, [.ref (α 51), .ref (α 52), .ref (α 53)])
  else if k = 54 then .inr (6, [.ref (α 30), .ref (α 31), .ref (α 32), .ref (α 39), .ref (α 41), .ref (α 46), .ref (α 50), .int (σ.1 54 7), .int (σ.1 54 8)])
  else if k = 55 then .inr (7, [.int (σ.1 55 0), .int (σ.1 55 1), .int (σ.1 55 2), .ref (α 56), .ref (α 57), .int (σ.1 55 5), .int (σ.1 55 6), .ref (α 58), .ref (α 59), .int (σ.1 55 9), .int (σ.1 55 10), .int (σ.1 55 11), .ref (α 60), .ref (α 61), .int (σ.1 55 14), .ref (α 62), .ref (α 63), .ref (α 64), .ref (α 65), .ref (α 66), .ref (α 67), .ref (α 68), .ref (α 69), .int (σ.1 55 23), .int (σ.1 55 24), .int (σ.1 55 25), .int (σ.1 55 26), .ref (α 70), .ref (α 71), .ref (α 72), .long σ.2])
  else .inl (cI, alen k, .inl (σ.1 k))
def cells (cI cD : ClassId) (α : Nat → Nat) (σ : Hp) : va_W := (List.range 73).map (fun k => (α k, cellE cI cD α σ k))
theorem cells_at {cI cD : ClassId} {α : Nat → Nat} {σ : Hp} {k : Nat} (h : k < 73) : (cells cI cD α σ)[k]? = some (α k, cellE cI cD α σ k) := by
  simp [cells, h]
theorem cells_of {cI cD : ClassId} {α : Nat → Nat} {σ : Hp} {k : Nat} {q : Nat × va_E} (h : (cells cI cD α σ)[k]? = some q) : k < 73 ∧ q = (α k, cellE cI cD α σ k) := by
  have hk : k < 73 := by
    have h1 := (List.getElem?_eq_some_iff.mp h).1
    simpa [cells] using h1
  rw [cells_at hk] at h
  exact ⟨hk, (Option.some.inj h).symm⟩
theorem cellE_congr {cI cD : ClassId} {α : Nat → Nat} {σ τ : Hp} {k : Nat} (h : τ.1 k = σ.1 k) (h2 : k = 55 → τ.2 = σ.2) : cellE cI cD α τ k = cellE cI cD α σ k := by
  by_cases h39 : k = 39
  · subst h39; simp [cellE, h]
  by_cases h41 : k = 41
  · subst h41; simp [cellE, h]
  by_cases h46 : k = 46
  · subst h46; simp [cellE, h]
  by_cases h50 : k = 50
  · subst h50; simp [cellE]
  by_cases h54 : k = 54
  · subst h54; simp [cellE, h]
  by_cases h55 : k = 55
  · subst h55; simp [cellE, h, h2]
  simp only [cellE, h, if_neg h39, if_neg h41, if_neg h46, if_neg h50, if_neg h54, if_neg h55]
theorem cells_set {cI cD : ClassId} {α : Nat → Nat} {σ τ : Hp} {k : Nat} {E : va_E} (hk : k < 73) (h1 : cellE cI cD α τ k = E) (h2 : ∀ j, j ≠ k → cellE cI cD α τ j = cellE cI cD α σ j) : (cells cI cD α σ).set k (α k, E) = cells cI cD α τ := by
  apply List.ext_getElem?
  intro j
  by_cases hj : j = k
  · subst hj
    rw [List.getElem?_set_self (by simpa [cells] using hk), cells_at hk, h1]
  · rw [List.getElem?_set_ne (Ne.symm hj)]
    by_cases h73 : j < 73
    · rw [cells_at h73, cells_at h73, h2 j hj]
    · have a : (cells cI cD α σ)[j]? = none := by simp [cells]; omega
      have b : (cells cI cD α τ)[j]? = none := by simp [cells]; omega
      rw [a, b]
theorem up_off {σ : Hp} {c k j : Nat} {v : Int32} (h : j ≠ c) : (up σ c k v).1 j = σ.1 j := by
  funext q
  simp [up, h]
theorem up_row {σ : Hp} {c k : Nat} {v : Int32} : (up σ c k v).1 c = upd (σ.1 c) k v := by
  funext q
  simp [up, upd]
theorem cellE_up {cI cD : ClassId} {α : Nat → Nat} {σ : Hp} {c k j : Nat} {v : Int32} (h : j ≠ c) : cellE cI cD α (up σ c k v) j = cellE cI cD α σ j := cellE_congr (up_off h) (fun _ => rfl)
theorem cellE_upl {cI cD : ClassId} {α : Nat → Nat} {σ : Hp} {j : Nat} {v : Int64} (h : j ≠ 55) : cellE cI cD α (upl σ v) j = cellE cI cD α σ j := cellE_congr rfl (fun e => absurd e h)
def Inj (α : Nat → Nat) : Prop := ∀ i j, i < 73 → j < 73 → α i = α j → i = j
theorem cells_D {cI cD : ClassId} {α : Nat → Nat} {σ : Hp} {A : Nat → Prop} (hi : Inj α) (hA : ∀ k, k < 73 → A (α k)) : va_D A (cells cI cD α σ) := by
  refine ⟨fun i j p q h1 h2 h => ?_, fun k q h => ?_⟩
  · obtain ⟨a1, a2⟩ := cells_of h1
    obtain ⟨b1, b2⟩ := cells_of h2
    subst a2; subst b2
    exact hi i j a1 b1 h
  · obtain ⟨a1, a2⟩ := cells_of h
    subst a2
    exact hA k a1
def nw1 : Cond := .methodLinkNest RX5 78 yX6_iceBehind RX6
def nw2 : Cond := .methodLinkNest RX2 43 yX6_iceBehind RX6
def Nwz (U : State) : Prop := va_Nw nw1 U ∧ va_Nw nw2 U
theorem Nwz.warm {s U : State} (hW : s.WarmedH U.vm) (h : Nwz s) : Nwz U := ⟨va_Nw.warmM hW h.1, va_Nw.warmM hW h.2⟩
theorem Nwz.same {u U : State} (h : u.vm = U.vm) (hz : Nwz u) : Nwz U := ⟨va_Nw.same rfl h hz.1, va_Nw.same rfl h hz.2⟩
def tyz (cI cD : ClassId) : List (ClassId × FieldType) := [(cI, .int), (cD, .object RX0)]
def AA (α : Nat → Nat) (sz : Nat) : Nat → Prop := fun q => (∃ k, k < 73 ∧ q = α k) ∨ sz ≤ q
/-- a method's start: the world σ -/
def Wd (D : va_G) (cI cD : ClassId) (α : Nat → Nat) (σ : Hp) (sz : Nat) (U : State) : Prop := U.heap.size = sz ∧ va_P D clz (cells cI cD α σ) U.heap ∧ va_K D clz (tyz cI cD) U ∧ Inj α ∧ Nwz U
/-- a method's end: it returned r, the world is r's -/
def Qw (D : va_G) (cI cD : ClassId) (α : Nat → Nat) (A : Nat → Prop) (r : Rs) : Array Value → State → Outcome → State → Prop := fun _ st oc t => oc = .returned r.1 ∧ va_P D clz (cells cI cD α r.2) t.heap ∧ va_F A st t
/-- a method's contract: from the world σ with these arguments it returns what ex says -/
def Ct (y : MethodName) (b : ByteArray) (n : Nat) (ret : Option FieldType) (fr lo : Nat) (α : Nat → Nat) (as : List Value) (σ : Hp) (ex : Option Rs) : Prop :=
  ∀ (l : Launch) (D : va_G) (cI cD : ClassId) (r : Rs), ex = some r → ∀ sz : Nat, Met l y (wsU y b n ret) { frames := fr, cells := 0, slots := 0, locals := lo } (va_Pc as (Wd D cI cD α σ sz)) (Qw D cI cD α (AA α sz) r) 0 0 (AA α sz)
abbrev Gm : Type := Program × Launch × Env × Room × State × MethodId × Array Value × List Frame × Method × Code × va_G × ClassId × ClassId × (Nat → Prop) × Nat × Nat × (Rs → State → Prop)
/-- from here the machine comes to the end that x tells -/
def V {X : Type} (G : Gm) (α : Nat → Nat) (nL : Nat) (κ : X → Option Rs) (pc : Nat) (ls : List (Nat × Value)) (stk : List Value) (σ : Hp) (x : X) : Prop :=
  match G with
  | (p, l, e, R, s, m, args, below, meth, c, D, cI, cD, A, cs, sl, Qr) =>
    ∀ r : Rs, κ x = some r → ∀ (H : Heap) (locs : List Loc) (la : Array Slot), va_P D clz (cells cI cD α σ) H → va_S A s.heap H locs → lv_has la nL ls → W p l e R s m args below meth c H locs cs sl (Qr r) (F0 m pc la stk)
def Ok (G : Gm) (α : Nat → Nat) (cc : ByteArray) (nL : Nat) (own : String) (fr lo : Nat) : Prop :=
  match G with
  | (p, _, _, R, s, m, args, _, _, c, D, cI, cD, A, cs, sl, _) =>
    p.tables.exec = Jvm.exec ∧ c.code = cc ∧ c.maxLocals = nL ∧ s.vm.findClass own = some m.cls ∧ (∀ w ∈ gw, w.before args s = true) ∧ va_K D clz (tyz cI cD) s ∧ Inj α ∧ Nwz s ∧ (∀ k, k < 73 → A (α k)) ∧ (∀ q, s.heap.size ≤ q → A q) ∧ (R.frames = fr ∧ R.locals = lo) ∧ (cs ≤ R.cells ∧ sl ≤ R.slots)
def Rt (G : Gm) (α : Nat → Nat) (ret : Option FieldType) : Prop :=
  match G with
  | (_, _, _, _, s, _, args, below, meth, _, D, cI, cD, A, cs, sl, Qr) =>
    meth.sig.returnType = ret ∧ meth.locks = false ∧ cs = 0 ∧ sl = 0 ∧ Qr = fun r => MQ below (Qw D cI cD α A r) args s 0 0 A
theorem V_iload_n {X : Type} {G : Gm} {α : Nat → Nat} {nL : Nat} {κ : X → Option Rs} {pc : Nat} {ls : List (Nat × Value)} {stk : List Value} {σ : Hp} {x : X} {cc : ByteArray} {own : String} {fr lo : Nat} (hO : Ok G α cc nL own fr lo) (pl : Nat) {j : Fin 4} {i : Nat} {v : Int32} (d : decode cc pc = .ok (.iload_n j, 1)) (hi : (j : Nat) = i) (h : ls[pl]? = some (i, .int v)) (k : V G α nL κ (pc + 1) ls (.int v :: stk) σ x) : V G α nL κ pc ls stk σ x := by
  obtain ⟨p, l, e, R, s, m, args, below, meth, c, D, cI, cD, A, cs, sl, Qr⟩ := G
  obtain ⟨hx, hb, hml, hown, hts, hK, hinj, hnw, hAk, hAz, hR, hcs⟩ := hO
  intro r hr H locs la hP hS hl
  exact lv_iload_n hx hb d hi (lv_at hl pl h) (k r hr H locs la hP hS hl)
theorem V_iload {X : Type} {G : Gm} {α : Nat → Nat} {nL : Nat} {κ : X → Option Rs} {pc : Nat} {ls : List (Nat × Value)} {stk : List Value} {σ : Hp} {x : X} {cc : ByteArray} {own : String} {fr lo : Nat} (hO : Ok G α cc nL own fr lo) (pl : Nat) {i : Nat} {v : Int32} (d : decode cc pc = .ok (.iload i, 2)) (h : ls[pl]? = some (i, .int v)) (k : V G α nL κ (pc + 2) ls (.int v :: stk) σ x) : V G α nL κ pc ls stk σ x := by
  obtain ⟨p, l, e, R, s, m, args, below, meth, c, D, cI, cD, A, cs, sl, Qr⟩ := G
  obtain ⟨hx, hb, hml, hown, hts, hK, hinj, hnw, hAk, hAz, hR, hcs⟩ := hO
  intro r hr H locs la hP hS hl
  exact lv_iload hx hb d (lv_at hl pl h) (k r hr H locs la hP hS hl)
theorem V_istore_n {X : Type} {G : Gm} {α : Nat → Nat} {nL : Nat} {κ : X → Option Rs} {pc : Nat} {ls : List (Nat × Value)} {stk : List Value} {σ : Hp} {x : X} {cc : ByteArray} {own : String} {fr lo : Nat} (hO : Ok G α cc nL own fr lo) {ls2 : List (Nat × Value)} {j : Fin 4} {i : Nat} {v : Int32} (d : decode cc pc = .ok (.istore_n j, 1)) (hi : (j : Nat) = i) (hn : i < nL) (h : (i, Value.int v) :: ls.filter (fun q => !(q.1 == i) && !(q.1 + 1 == i && q.2.category == 2)) = ls2) (k : V G α nL κ (pc + 1) ls2 stk σ x) : V G α nL κ pc ls (.int v :: stk) σ x := by
  obtain ⟨p, l, e, R, s, m, args, below, meth, c, D, cI, cD, A, cs, sl, Qr⟩ := G
  obtain ⟨hx, hb, hml, hown, hts, hK, hinj, hnw, hAk, hAz, hR, hcs⟩ := hO
  intro r hr H locs la hP hS hl
  exact lv_istore_n hx hb d hi hl hn h (fun la2 hl2 => k r hr H locs la2 hP hS hl2)
theorem V_istore {X : Type} {G : Gm} {α : Nat → Nat} {nL : Nat} {κ : X → Option Rs} {pc : Nat} {ls : List (Nat × Value)} {stk : List Value} {σ : Hp} {x : X} {cc : ByteArray} {own : String} {fr lo : Nat} (hO : Ok G α cc nL own fr lo) {ls2 : List (Nat × Value)} {i : Nat} {v : Int32} (d : decode cc pc = .ok (.istore i, 2)) (hn : i < nL) (h : (i, Value.int v) :: ls.filter (fun q => !(q.1 == i) && !(q.1 + 1 == i && q.2.category == 2)) = ls2) (k : V G α nL κ (pc + 2) ls2 stk σ x) : V G α nL κ pc ls (.int v :: stk) σ x := by
  obtain ⟨p, l, e, R, s, m, args, below, meth, c, D, cI, cD, A, cs, sl, Qr⟩ := G
  obtain ⟨hx, hb, hml, hown, hts, hK, hinj, hnw, hAk, hAz, hR, hcs⟩ := hO
  intro r hr H locs la hP hS hl
  exact lv_istore hx hb d hl hn h (fun la2 hl2 => k r hr H locs la2 hP hS hl2)
theorem V_lload_n {X : Type} {G : Gm} {α : Nat → Nat} {nL : Nat} {κ : X → Option Rs} {pc : Nat} {ls : List (Nat × Value)} {stk : List Value} {σ : Hp} {x : X} {cc : ByteArray} {own : String} {fr lo : Nat} (hO : Ok G α cc nL own fr lo) (pl : Nat) {j : Fin 4} {i : Nat} {v : Int64} (d : decode cc pc = .ok (.lload_n j, 1)) (hi : (j : Nat) = i) (h : ls[pl]? = some (i, .long v)) (k : V G α nL κ (pc + 1) ls (.long v :: stk) σ x) : V G α nL κ pc ls stk σ x := by
  obtain ⟨p, l, e, R, s, m, args, below, meth, c, D, cI, cD, A, cs, sl, Qr⟩ := G
  obtain ⟨hx, hb, hml, hown, hts, hK, hinj, hnw, hAk, hAz, hR, hcs⟩ := hO
  intro r hr H locs la hP hS hl
  exact lv_lload_n hx hb d hi (lv_at hl pl h) (k r hr H locs la hP hS hl)
theorem V_lload {X : Type} {G : Gm} {α : Nat → Nat} {nL : Nat} {κ : X → Option Rs} {pc : Nat} {ls : List (Nat × Value)} {stk : List Value} {σ : Hp} {x : X} {cc : ByteArray} {own : String} {fr lo : Nat} (hO : Ok G α cc nL own fr lo) (pl : Nat) {i : Nat} {v : Int64} (d : decode cc pc = .ok (.lload i, 2)) (h : ls[pl]? = some (i, .long v)) (k : V G α nL κ (pc + 2) ls (.long v :: stk) σ x) : V G α nL κ pc ls stk σ x := by
  obtain ⟨p, l, e, R, s, m, args, below, meth, c, D, cI, cD, A, cs, sl, Qr⟩ := G
  obtain ⟨hx, hb, hml, hown, hts, hK, hinj, hnw, hAk, hAz, hR, hcs⟩ := hO
  intro r hr H locs la hP hS hl
  exact lv_lload hx hb d (lv_at hl pl h) (k r hr H locs la hP hS hl)
theorem V_lstore_n {X : Type} {G : Gm} {α : Nat → Nat} {nL : Nat} {κ : X → Option Rs} {pc : Nat} {ls : List (Nat × Value)} {stk : List Value} {σ : Hp} {x : X} {cc : ByteArray} {own : String} {fr lo : Nat} (hO : Ok G α cc nL own fr lo) {ls2 : List (Nat × Value)} {j : Fin 4} {i : Nat} {v : Int64} (d : decode cc pc = .ok (.lstore_n j, 1)) (hi : (j : Nat) = i) (hn : i + 1 < nL) (h : (i, Value.long v) :: ls.filter (fun q => !(q.1 == i) && (!(q.1 == i + 1) && !(q.1 + 1 == i && q.2.category == 2))) = ls2) (k : V G α nL κ (pc + 1) ls2 stk σ x) : V G α nL κ pc ls (.long v :: stk) σ x := by
  obtain ⟨p, l, e, R, s, m, args, below, meth, c, D, cI, cD, A, cs, sl, Qr⟩ := G
  obtain ⟨hx, hb, hml, hown, hts, hK, hinj, hnw, hAk, hAz, hR, hcs⟩ := hO
  intro r hr H locs la hP hS hl
  exact lv_lstore_n hx hb d hi hl hn h (fun la2 hl2 => k r hr H locs la2 hP hS hl2)
theorem V_lstore {X : Type} {G : Gm} {α : Nat → Nat} {nL : Nat} {κ : X → Option Rs} {pc : Nat} {ls : List (Nat × Value)} {stk : List Value} {σ : Hp} {x : X} {cc : ByteArray} {own : String} {fr lo : Nat} (hO : Ok G α cc nL own fr lo) {ls2 : List (Nat × Value)} {i : Nat} {v : Int64} (d : decode cc pc = .ok (.lstore i, 2)) (hn : i + 1 < nL) (h : (i, Value.long v) :: ls.filter (fun q => !(q.1 == i) && (!(q.1 == i + 1) && !(q.1 + 1 == i && q.2.category == 2))) = ls2) (k : V G α nL κ (pc + 2) ls2 stk σ x) : V G α nL κ pc ls (.long v :: stk) σ x := by
  obtain ⟨p, l, e, R, s, m, args, below, meth, c, D, cI, cD, A, cs, sl, Qr⟩ := G
  obtain ⟨hx, hb, hml, hown, hts, hK, hinj, hnw, hAk, hAz, hR, hcs⟩ := hO
  intro r hr H locs la hP hS hl
  exact lv_lstore hx hb d hl hn h (fun la2 hl2 => k r hr H locs la2 hP hS hl2)
theorem V_aload_n {X : Type} {G : Gm} {α : Nat → Nat} {nL : Nat} {κ : X → Option Rs} {pc : Nat} {ls : List (Nat × Value)} {stk : List Value} {σ : Hp} {x : X} {cc : ByteArray} {own : String} {fr lo : Nat} (hO : Ok G α cc nL own fr lo) (pl : Nat) {j : Fin 4} {i : Nat} {v : Nat} (d : decode cc pc = .ok (.aload_n j, 1)) (hi : (j : Nat) = i) (h : ls[pl]? = some (i, .ref v)) (k : V G α nL κ (pc + 1) ls (.ref v :: stk) σ x) : V G α nL κ pc ls stk σ x := by
  obtain ⟨p, l, e, R, s, m, args, below, meth, c, D, cI, cD, A, cs, sl, Qr⟩ := G
  obtain ⟨hx, hb, hml, hown, hts, hK, hinj, hnw, hAk, hAz, hR, hcs⟩ := hO
  intro r hr H locs la hP hS hl
  exact lv_aload_n hx hb d hi (lv_at hl pl h) (k r hr H locs la hP hS hl)
theorem V_aload {X : Type} {G : Gm} {α : Nat → Nat} {nL : Nat} {κ : X → Option Rs} {pc : Nat} {ls : List (Nat × Value)} {stk : List Value} {σ : Hp} {x : X} {cc : ByteArray} {own : String} {fr lo : Nat} (hO : Ok G α cc nL own fr lo) (pl : Nat) {i : Nat} {v : Nat} (d : decode cc pc = .ok (.aload i, 2)) (h : ls[pl]? = some (i, .ref v)) (k : V G α nL κ (pc + 2) ls (.ref v :: stk) σ x) : V G α nL κ pc ls stk σ x := by
  obtain ⟨p, l, e, R, s, m, args, below, meth, c, D, cI, cD, A, cs, sl, Qr⟩ := G
  obtain ⟨hx, hb, hml, hown, hts, hK, hinj, hnw, hAk, hAz, hR, hcs⟩ := hO
  intro r hr H locs la hP hS hl
  exact lv_aload hx hb d (lv_at hl pl h) (k r hr H locs la hP hS hl)
theorem V_astore_n {X : Type} {G : Gm} {α : Nat → Nat} {nL : Nat} {κ : X → Option Rs} {pc : Nat} {ls : List (Nat × Value)} {stk : List Value} {σ : Hp} {x : X} {cc : ByteArray} {own : String} {fr lo : Nat} (hO : Ok G α cc nL own fr lo) {ls2 : List (Nat × Value)} {j : Fin 4} {i : Nat} {v : Nat} (d : decode cc pc = .ok (.astore_n j, 1)) (hi : (j : Nat) = i) (hn : i < nL) (h : (i, Value.ref v) :: ls.filter (fun q => !(q.1 == i) && !(q.1 + 1 == i && q.2.category == 2)) = ls2) (k : V G α nL κ (pc + 1) ls2 stk σ x) : V G α nL κ pc ls (.ref v :: stk) σ x := by
  obtain ⟨p, l, e, R, s, m, args, below, meth, c, D, cI, cD, A, cs, sl, Qr⟩ := G
  obtain ⟨hx, hb, hml, hown, hts, hK, hinj, hnw, hAk, hAz, hR, hcs⟩ := hO
  intro r hr H locs la hP hS hl
  exact lv_astore_n hx hb d hi hl hn h (fun la2 hl2 => k r hr H locs la2 hP hS hl2)
theorem V_astore {X : Type} {G : Gm} {α : Nat → Nat} {nL : Nat} {κ : X → Option Rs} {pc : Nat} {ls : List (Nat × Value)} {stk : List Value} {σ : Hp} {x : X} {cc : ByteArray} {own : String} {fr lo : Nat} (hO : Ok G α cc nL own fr lo) {ls2 : List (Nat × Value)} {i : Nat} {v : Nat} (d : decode cc pc = .ok (.astore i, 2)) (hn : i < nL) (h : (i, Value.ref v) :: ls.filter (fun q => !(q.1 == i) && !(q.1 + 1 == i && q.2.category == 2)) = ls2) (k : V G α nL κ (pc + 2) ls2 stk σ x) : V G α nL κ pc ls (.ref v :: stk) σ x := by
  obtain ⟨p, l, e, R, s, m, args, below, meth, c, D, cI, cD, A, cs, sl, Qr⟩ := G
  obtain ⟨hx, hb, hml, hown, hts, hK, hinj, hnw, hAk, hAz, hR, hcs⟩ := hO
  intro r hr H locs la hP hS hl
  exact lv_astore hx hb d hl hn h (fun la2 hl2 => k r hr H locs la2 hP hS hl2)
theorem V_iinc {X : Type} {G : Gm} {α : Nat → Nat} {nL : Nat} {κ : X → Option Rs} {pc : Nat} {ls : List (Nat × Value)} {stk : List Value} {σ : Hp} {x : X} {cc : ByteArray} {own : String} {fr lo : Nat} (hO : Ok G α cc nL own fr lo) {ls2 : List (Nat × Value)} (pl : Nat) {i : Nat} {n : Int} {v z : Int32} (d : decode cc pc = .ok (.iinc i n, 3)) (hk : ls[pl]? = some (i, .int v)) (hz : Int32.ofInt n = z) (hn : i < nL) (h : (i, Value.int (v + z)) :: ls.filter (fun q => !(q.1 == i) && !(q.1 + 1 == i && q.2.category == 2)) = ls2) (k : V G α nL κ (pc + 3) ls2 stk σ x) : V G α nL κ pc ls stk σ x := by
  obtain ⟨p, l, e, R, s, m, args, below, meth, c, D, cI, cD, A, cs, sl, Qr⟩ := G
  obtain ⟨hx, hb, hml, hown, hts, hK, hinj, hnw, hAk, hAz, hR, hcs⟩ := hO
  intro r hr H locs la hP hS hl
  exact lv_iinc hx hb d hl hk (by rw [hz]) hn h (fun la2 hl2 => k r hr H locs la2 hP hS hl2)
theorem V_iconst {X : Type} {G : Gm} {α : Nat → Nat} {nL : Nat} {κ : X → Option Rs} {pc : Nat} {ls : List (Nat × Value)} {stk : List Value} {σ : Hp} {x : X} {cc : ByteArray} {own : String} {fr lo : Nat} (hO : Ok G α cc nL own fr lo) {n : Int} (v : Int32) (d : decode cc pc = .ok (.iconst n, 1)) (hv : Int32.ofInt n = v) (k : V G α nL κ (pc + 1) ls (.int v :: stk) σ x) : V G α nL κ pc ls stk σ x := by
  obtain ⟨p, l, e, R, s, m, args, below, meth, c, D, cI, cD, A, cs, sl, Qr⟩ := G
  obtain ⟨hx, hb, hml, hown, hts, hK, hinj, hnw, hAk, hAz, hR, hcs⟩ := hO
  intro r hr H locs la hP hS hl
  exact lv_iconst hx hb d hv (k r hr H locs la hP hS hl)
theorem V_bipush {X : Type} {G : Gm} {α : Nat → Nat} {nL : Nat} {κ : X → Option Rs} {pc : Nat} {ls : List (Nat × Value)} {stk : List Value} {σ : Hp} {x : X} {cc : ByteArray} {own : String} {fr lo : Nat} (hO : Ok G α cc nL own fr lo) {n : Int} (v : Int32) (d : decode cc pc = .ok (.bipush n, 2)) (hv : (Int8.ofInt n).toInt32 = v) (k : V G α nL κ (pc + 2) ls (.int v :: stk) σ x) : V G α nL κ pc ls stk σ x := by
  obtain ⟨p, l, e, R, s, m, args, below, meth, c, D, cI, cD, A, cs, sl, Qr⟩ := G
  obtain ⟨hx, hb, hml, hown, hts, hK, hinj, hnw, hAk, hAz, hR, hcs⟩ := hO
  intro r hr H locs la hP hS hl
  exact lv_bipush hx hb d hv (k r hr H locs la hP hS hl)
theorem V_sipush {X : Type} {G : Gm} {α : Nat → Nat} {nL : Nat} {κ : X → Option Rs} {pc : Nat} {ls : List (Nat × Value)} {stk : List Value} {σ : Hp} {x : X} {cc : ByteArray} {own : String} {fr lo : Nat} (hO : Ok G α cc nL own fr lo) {n : Int} (v : Int32) (d : decode cc pc = .ok (.sipush n, 3)) (hv : (Int16.ofInt n).toInt32 = v) (k : V G α nL κ (pc + 3) ls (.int v :: stk) σ x) : V G α nL κ pc ls stk σ x := by
  obtain ⟨p, l, e, R, s, m, args, below, meth, c, D, cI, cD, A, cs, sl, Qr⟩ := G
  obtain ⟨hx, hb, hml, hown, hts, hK, hinj, hnw, hAk, hAz, hR, hcs⟩ := hO
  intro r hr H locs la hP hS hl
  exact lv_sipush hx hb d hv (k r hr H locs la hP hS hl)
theorem V_lconst {X : Type} {G : Gm} {α : Nat → Nat} {nL : Nat} {κ : X → Option Rs} {pc : Nat} {ls : List (Nat × Value)} {stk : List Value} {σ : Hp} {x : X} {cc : ByteArray} {own : String} {fr lo : Nat} (hO : Ok G α cc nL own fr lo) {n : Fin 2} (v : Int64) (d : decode cc pc = .ok (.lconst n, 1)) (hv : Int64.ofNat (n : Nat) = v) (k : V G α nL κ (pc + 1) ls (.long v :: stk) σ x) : V G α nL κ pc ls stk σ x := by
  obtain ⟨p, l, e, R, s, m, args, below, meth, c, D, cI, cD, A, cs, sl, Qr⟩ := G
  obtain ⟨hx, hb, hml, hown, hts, hK, hinj, hnw, hAk, hAz, hR, hcs⟩ := hO
  intro r hr H locs la hP hS hl
  exact lv_lconst hx hb d hv (k r hr H locs la hP hS hl)
theorem V_ldc {X : Type} {G : Gm} {α : Nat → Nat} {nL : Nat} {κ : X → Option Rs} {pc : Nat} {ls : List (Nat × Value)} {stk : List Value} {σ : Hp} {x : X} {cc : ByteArray} {own : String} {fr lo : Nat} (hO : Ok G α cc nL own fr lo) {n : Nat} {v : Int32} (d : decode cc pc = .ok (.ldc n, 2)) (hv : Cond.constant own n v ∈ gw) (k : V G α nL κ (pc + 2) ls (.int v :: stk) σ x) : V G α nL κ pc ls stk σ x := by
  obtain ⟨p, l, e, R, s, m, args, below, meth, c, D, cI, cD, A, cs, sl, Qr⟩ := G
  obtain ⟨hx, hb, hml, hown, hts, hK, hinj, hnw, hAk, hAz, hR, hcs⟩ := hO
  intro r hr H locs la hP hS hl
  exact lv_ldc hx hb hown (hts _ hv) d (k r hr H locs la hP hS hl)
theorem V_ldcw {X : Type} {G : Gm} {α : Nat → Nat} {nL : Nat} {κ : X → Option Rs} {pc : Nat} {ls : List (Nat × Value)} {stk : List Value} {σ : Hp} {x : X} {cc : ByteArray} {own : String} {fr lo : Nat} (hO : Ok G α cc nL own fr lo) {n : Nat} {v : Int32} (d : decode cc pc = .ok (.ldc_w n, 3)) (hv : Cond.constant own n v ∈ gw) (k : V G α nL κ (pc + 3) ls (.int v :: stk) σ x) : V G α nL κ pc ls stk σ x := by
  obtain ⟨p, l, e, R, s, m, args, below, meth, c, D, cI, cD, A, cs, sl, Qr⟩ := G
  obtain ⟨hx, hb, hml, hown, hts, hK, hinj, hnw, hAk, hAz, hR, hcs⟩ := hO
  intro r hr H locs la hP hS hl
  exact lv_ldcw hx hb hown (hts _ hv) d (k r hr H locs la hP hS hl)
theorem V_ldc2 {X : Type} {G : Gm} {α : Nat → Nat} {nL : Nat} {κ : X → Option Rs} {pc : Nat} {ls : List (Nat × Value)} {stk : List Value} {σ : Hp} {x : X} {cc : ByteArray} {own : String} {fr lo : Nat} (hO : Ok G α cc nL own fr lo) {n : Nat} {v : Int64} (d : decode cc pc = .ok (.ldc2_w n, 3)) (hv : Cond.constantLong own n v ∈ gw) (k : V G α nL κ (pc + 3) ls (.long v :: stk) σ x) : V G α nL κ pc ls stk σ x := by
  obtain ⟨p, l, e, R, s, m, args, below, meth, c, D, cI, cD, A, cs, sl, Qr⟩ := G
  obtain ⟨hx, hb, hml, hown, hts, hK, hinj, hnw, hAk, hAz, hR, hcs⟩ := hO
  intro r hr H locs la hP hS hl
  exact lv_ldc2 hx hb hown (hts _ hv) d (k r hr H locs la hP hS hl)
theorem V_iadd {X : Type} {G : Gm} {α : Nat → Nat} {nL : Nat} {κ : X → Option Rs} {pc : Nat} {ls : List (Nat × Value)} {stk : List Value} {σ : Hp} {x : X} {cc : ByteArray} {own : String} {fr lo : Nat} (hO : Ok G α cc nL own fr lo) {a b : Int32} (d : decode cc pc = .ok (.iadd, 1))  (k : V G α nL κ (pc + 1) ls (.int (a + b) :: stk) σ x) : V G α nL κ pc ls (.int b :: .int a :: stk) σ x := by
  obtain ⟨p, l, e, R, s, m, args, below, meth, c, D, cI, cD, A, cs, sl, Qr⟩ := G
  obtain ⟨hx, hb, hml, hown, hts, hK, hinj, hnw, hAk, hAz, hR, hcs⟩ := hO
  intro r hr H locs la hP hS hl
  exact lv_iadd hx hb d (k r hr H locs la hP hS hl)
theorem V_isub {X : Type} {G : Gm} {α : Nat → Nat} {nL : Nat} {κ : X → Option Rs} {pc : Nat} {ls : List (Nat × Value)} {stk : List Value} {σ : Hp} {x : X} {cc : ByteArray} {own : String} {fr lo : Nat} (hO : Ok G α cc nL own fr lo) {a b : Int32} (d : decode cc pc = .ok (.isub, 1))  (k : V G α nL κ (pc + 1) ls (.int (a - b) :: stk) σ x) : V G α nL κ pc ls (.int b :: .int a :: stk) σ x := by
  obtain ⟨p, l, e, R, s, m, args, below, meth, c, D, cI, cD, A, cs, sl, Qr⟩ := G
  obtain ⟨hx, hb, hml, hown, hts, hK, hinj, hnw, hAk, hAz, hR, hcs⟩ := hO
  intro r hr H locs la hP hS hl
  exact lv_isub hx hb d (k r hr H locs la hP hS hl)
theorem V_imul {X : Type} {G : Gm} {α : Nat → Nat} {nL : Nat} {κ : X → Option Rs} {pc : Nat} {ls : List (Nat × Value)} {stk : List Value} {σ : Hp} {x : X} {cc : ByteArray} {own : String} {fr lo : Nat} (hO : Ok G α cc nL own fr lo) {a b : Int32} (d : decode cc pc = .ok (.imul, 1))  (k : V G α nL κ (pc + 1) ls (.int (a * b) :: stk) σ x) : V G α nL κ pc ls (.int b :: .int a :: stk) σ x := by
  obtain ⟨p, l, e, R, s, m, args, below, meth, c, D, cI, cD, A, cs, sl, Qr⟩ := G
  obtain ⟨hx, hb, hml, hown, hts, hK, hinj, hnw, hAk, hAz, hR, hcs⟩ := hO
  intro r hr H locs la hP hS hl
  exact lv_imul hx hb d (k r hr H locs la hP hS hl)
theorem V_iand {X : Type} {G : Gm} {α : Nat → Nat} {nL : Nat} {κ : X → Option Rs} {pc : Nat} {ls : List (Nat × Value)} {stk : List Value} {σ : Hp} {x : X} {cc : ByteArray} {own : String} {fr lo : Nat} (hO : Ok G α cc nL own fr lo) {a b : Int32} (d : decode cc pc = .ok (.iand, 1))  (k : V G α nL κ (pc + 1) ls (.int (a &&& b) :: stk) σ x) : V G α nL κ pc ls (.int b :: .int a :: stk) σ x := by
  obtain ⟨p, l, e, R, s, m, args, below, meth, c, D, cI, cD, A, cs, sl, Qr⟩ := G
  obtain ⟨hx, hb, hml, hown, hts, hK, hinj, hnw, hAk, hAz, hR, hcs⟩ := hO
  intro r hr H locs la hP hS hl
  exact lv_iand hx hb d (k r hr H locs la hP hS hl)
theorem V_ixor {X : Type} {G : Gm} {α : Nat → Nat} {nL : Nat} {κ : X → Option Rs} {pc : Nat} {ls : List (Nat × Value)} {stk : List Value} {σ : Hp} {x : X} {cc : ByteArray} {own : String} {fr lo : Nat} (hO : Ok G α cc nL own fr lo) {a b : Int32} (d : decode cc pc = .ok (.ixor, 1))  (k : V G α nL κ (pc + 1) ls (.int (a ^^^ b) :: stk) σ x) : V G α nL κ pc ls (.int b :: .int a :: stk) σ x := by
  obtain ⟨p, l, e, R, s, m, args, below, meth, c, D, cI, cD, A, cs, sl, Qr⟩ := G
  obtain ⟨hx, hb, hml, hown, hts, hK, hinj, hnw, hAk, hAz, hR, hcs⟩ := hO
  intro r hr H locs la hP hS hl
  exact lv_ixor hx hb d (k r hr H locs la hP hS hl)
theorem V_ishl {X : Type} {G : Gm} {α : Nat → Nat} {nL : Nat} {κ : X → Option Rs} {pc : Nat} {ls : List (Nat × Value)} {stk : List Value} {σ : Hp} {x : X} {cc : ByteArray} {own : String} {fr lo : Nat} (hO : Ok G α cc nL own fr lo) {a b : Int32} (d : decode cc pc = .ok (.ishl, 1))  (k : V G α nL κ (pc + 1) ls (.int (a <<< (b &&& 31)) :: stk) σ x) : V G α nL κ pc ls (.int b :: .int a :: stk) σ x := by
  obtain ⟨p, l, e, R, s, m, args, below, meth, c, D, cI, cD, A, cs, sl, Qr⟩ := G
  obtain ⟨hx, hb, hml, hown, hts, hK, hinj, hnw, hAk, hAz, hR, hcs⟩ := hO
  intro r hr H locs la hP hS hl
  exact lv_ishl hx hb d (k r hr H locs la hP hS hl)
theorem V_ishr {X : Type} {G : Gm} {α : Nat → Nat} {nL : Nat} {κ : X → Option Rs} {pc : Nat} {ls : List (Nat × Value)} {stk : List Value} {σ : Hp} {x : X} {cc : ByteArray} {own : String} {fr lo : Nat} (hO : Ok G α cc nL own fr lo) {a b : Int32} (d : decode cc pc = .ok (.ishr, 1))  (k : V G α nL κ (pc + 1) ls (.int (a >>> (b &&& 31)) :: stk) σ x) : V G α nL κ pc ls (.int b :: .int a :: stk) σ x := by
  obtain ⟨p, l, e, R, s, m, args, below, meth, c, D, cI, cD, A, cs, sl, Qr⟩ := G
  obtain ⟨hx, hb, hml, hown, hts, hK, hinj, hnw, hAk, hAz, hR, hcs⟩ := hO
  intro r hr H locs la hP hS hl
  exact lv_ishr hx hb d (k r hr H locs la hP hS hl)
theorem V_ladd {X : Type} {G : Gm} {α : Nat → Nat} {nL : Nat} {κ : X → Option Rs} {pc : Nat} {ls : List (Nat × Value)} {stk : List Value} {σ : Hp} {x : X} {cc : ByteArray} {own : String} {fr lo : Nat} (hO : Ok G α cc nL own fr lo) {a b : Int64} (d : decode cc pc = .ok (.ladd, 1))  (k : V G α nL κ (pc + 1) ls (.long (a + b) :: stk) σ x) : V G α nL κ pc ls (.long b :: .long a :: stk) σ x := by
  obtain ⟨p, l, e, R, s, m, args, below, meth, c, D, cI, cD, A, cs, sl, Qr⟩ := G
  obtain ⟨hx, hb, hml, hown, hts, hK, hinj, hnw, hAk, hAz, hR, hcs⟩ := hO
  intro r hr H locs la hP hS hl
  exact lv_ladd hx hb d (k r hr H locs la hP hS hl)
theorem V_lmul {X : Type} {G : Gm} {α : Nat → Nat} {nL : Nat} {κ : X → Option Rs} {pc : Nat} {ls : List (Nat × Value)} {stk : List Value} {σ : Hp} {x : X} {cc : ByteArray} {own : String} {fr lo : Nat} (hO : Ok G α cc nL own fr lo) {a b : Int64} (d : decode cc pc = .ok (.lmul, 1))  (k : V G α nL κ (pc + 1) ls (.long (a * b) :: stk) σ x) : V G α nL κ pc ls (.long b :: .long a :: stk) σ x := by
  obtain ⟨p, l, e, R, s, m, args, below, meth, c, D, cI, cD, A, cs, sl, Qr⟩ := G
  obtain ⟨hx, hb, hml, hown, hts, hK, hinj, hnw, hAk, hAz, hR, hcs⟩ := hO
  intro r hr H locs la hP hS hl
  exact lv_lmul hx hb d (k r hr H locs la hP hS hl)
theorem V_land {X : Type} {G : Gm} {α : Nat → Nat} {nL : Nat} {κ : X → Option Rs} {pc : Nat} {ls : List (Nat × Value)} {stk : List Value} {σ : Hp} {x : X} {cc : ByteArray} {own : String} {fr lo : Nat} (hO : Ok G α cc nL own fr lo) {a b : Int64} (d : decode cc pc = .ok (.land, 1))  (k : V G α nL κ (pc + 1) ls (.long (a &&& b) :: stk) σ x) : V G α nL κ pc ls (.long b :: .long a :: stk) σ x := by
  obtain ⟨p, l, e, R, s, m, args, below, meth, c, D, cI, cD, A, cs, sl, Qr⟩ := G
  obtain ⟨hx, hb, hml, hown, hts, hK, hinj, hnw, hAk, hAz, hR, hcs⟩ := hO
  intro r hr H locs la hP hS hl
  exact lv_land hx hb d (k r hr H locs la hP hS hl)
theorem V_lor {X : Type} {G : Gm} {α : Nat → Nat} {nL : Nat} {κ : X → Option Rs} {pc : Nat} {ls : List (Nat × Value)} {stk : List Value} {σ : Hp} {x : X} {cc : ByteArray} {own : String} {fr lo : Nat} (hO : Ok G α cc nL own fr lo) {a b : Int64} (d : decode cc pc = .ok (.lor, 1))  (k : V G α nL κ (pc + 1) ls (.long (a ||| b) :: stk) σ x) : V G α nL κ pc ls (.long b :: .long a :: stk) σ x := by
  obtain ⟨p, l, e, R, s, m, args, below, meth, c, D, cI, cD, A, cs, sl, Qr⟩ := G
  obtain ⟨hx, hb, hml, hown, hts, hK, hinj, hnw, hAk, hAz, hR, hcs⟩ := hO
  intro r hr H locs la hP hS hl
  exact lv_lor hx hb d (k r hr H locs la hP hS hl)
theorem V_iushr {X : Type} {G : Gm} {α : Nat → Nat} {nL : Nat} {κ : X → Option Rs} {pc : Nat} {ls : List (Nat × Value)} {stk : List Value} {σ : Hp} {x : X} {cc : ByteArray} {own : String} {fr lo : Nat} (hO : Ok G α cc nL own fr lo) {a b : Int32} (d : decode cc pc = .ok (.iushr, 1))  (k : V G α nL κ (pc + 1) ls (.int ((a.toUInt32 >>> (b.toUInt32 &&& Int32.toUInt32 31)).toInt32) :: stk) σ x) : V G α nL κ pc ls (.int b :: .int a :: stk) σ x := by
  obtain ⟨p, l, e, R, s, m, args, below, meth, c, D, cI, cD, A, cs, sl, Qr⟩ := G
  obtain ⟨hx, hb, hml, hown, hts, hK, hinj, hnw, hAk, hAz, hR, hcs⟩ := hO
  intro r hr H locs la hP hS hl
  exact lv_iushr hx hb d rfl (k r hr H locs la hP hS hl)
theorem V_lushr {X : Type} {G : Gm} {α : Nat → Nat} {nL : Nat} {κ : X → Option Rs} {pc : Nat} {ls : List (Nat × Value)} {stk : List Value} {σ : Hp} {x : X} {cc : ByteArray} {own : String} {fr lo : Nat} (hO : Ok G α cc nL own fr lo) {a : Int64} {b : Int32} (d : decode cc pc = .ok (.lushr, 1))  (k : V G α nL κ (pc + 1) ls (.long ((a.toUInt64 >>> (b.toInt64.toUInt64 &&& Int64.toUInt64 63)).toInt64) :: stk) σ x) : V G α nL κ pc ls (.int b :: .long a :: stk) σ x := by
  obtain ⟨p, l, e, R, s, m, args, below, meth, c, D, cI, cD, A, cs, sl, Qr⟩ := G
  obtain ⟨hx, hb, hml, hown, hts, hK, hinj, hnw, hAk, hAz, hR, hcs⟩ := hO
  intro r hr H locs la hP hS hl
  exact lv_lushr hx hb d rfl (k r hr H locs la hP hS hl)
theorem V_lshl {X : Type} {G : Gm} {α : Nat → Nat} {nL : Nat} {κ : X → Option Rs} {pc : Nat} {ls : List (Nat × Value)} {stk : List Value} {σ : Hp} {x : X} {cc : ByteArray} {own : String} {fr lo : Nat} (hO : Ok G α cc nL own fr lo) {a : Int64} {b : Int32} (d : decode cc pc = .ok (.lshl, 1))  (k : V G α nL κ (pc + 1) ls (.long (a <<< (b.toInt64 &&& 63)) :: stk) σ x) : V G α nL κ pc ls (.int b :: .long a :: stk) σ x := by
  obtain ⟨p, l, e, R, s, m, args, below, meth, c, D, cI, cD, A, cs, sl, Qr⟩ := G
  obtain ⟨hx, hb, hml, hown, hts, hK, hinj, hnw, hAk, hAz, hR, hcs⟩ := hO
  intro r hr H locs la hP hS hl
  exact lv_lshl hx hb d rfl (k r hr H locs la hP hS hl)
theorem V_i2l {X : Type} {G : Gm} {α : Nat → Nat} {nL : Nat} {κ : X → Option Rs} {pc : Nat} {ls : List (Nat × Value)} {stk : List Value} {σ : Hp} {x : X} {cc : ByteArray} {own : String} {fr lo : Nat} (hO : Ok G α cc nL own fr lo) {a : Int32} (d : decode cc pc = .ok (.i2l, 1))  (k : V G α nL κ (pc + 1) ls (.long a.toInt64 :: stk) σ x) : V G α nL κ pc ls (.int a :: stk) σ x := by
  obtain ⟨p, l, e, R, s, m, args, below, meth, c, D, cI, cD, A, cs, sl, Qr⟩ := G
  obtain ⟨hx, hb, hml, hown, hts, hK, hinj, hnw, hAk, hAz, hR, hcs⟩ := hO
  intro r hr H locs la hP hS hl
  exact lv_i2l hx hb d rfl (k r hr H locs la hP hS hl)
theorem V_l2i {X : Type} {G : Gm} {α : Nat → Nat} {nL : Nat} {κ : X → Option Rs} {pc : Nat} {ls : List (Nat × Value)} {stk : List Value} {σ : Hp} {x : X} {cc : ByteArray} {own : String} {fr lo : Nat} (hO : Ok G α cc nL own fr lo) {a : Int64} (d : decode cc pc = .ok (.l2i, 1))  (k : V G α nL κ (pc + 1) ls (.int a.toInt32 :: stk) σ x) : V G α nL κ pc ls (.long a :: stk) σ x := by
  obtain ⟨p, l, e, R, s, m, args, below, meth, c, D, cI, cD, A, cs, sl, Qr⟩ := G
  obtain ⟨hx, hb, hml, hown, hts, hK, hinj, hnw, hAk, hAz, hR, hcs⟩ := hO
  intro r hr H locs la hP hS hl
  exact lv_l2i hx hb d rfl (k r hr H locs la hP hS hl)
theorem V_idiv {X : Type} {G : Gm} {α : Nat → Nat} {nL : Nat} {κ : X → Option Rs} {pc : Nat} {ls : List (Nat × Value)} {stk : List Value} {σ : Hp} {x : X} {cc : ByteArray} {own : String} {fr lo : Nat} (hO : Ok G α cc nL own fr lo) {a b : Int32} (d : decode cc pc = .ok (.idiv, 1)) (hne : ¬ b = 0) (k : V G α nL κ (pc + 1) ls (.int (a / b) :: stk) σ x) : V G α nL κ pc ls (.int b :: .int a :: stk) σ x := by
  obtain ⟨p, l, e, R, s, m, args, below, meth, c, D, cI, cD, A, cs, sl, Qr⟩ := G
  obtain ⟨hx, hb, hml, hown, hts, hK, hinj, hnw, hAk, hAz, hR, hcs⟩ := hO
  intro r hr H locs la hP hS hl
  exact lv_idiv hx hb d hne (k r hr H locs la hP hS hl)
theorem V_irem {X : Type} {G : Gm} {α : Nat → Nat} {nL : Nat} {κ : X → Option Rs} {pc : Nat} {ls : List (Nat × Value)} {stk : List Value} {σ : Hp} {x : X} {cc : ByteArray} {own : String} {fr lo : Nat} (hO : Ok G α cc nL own fr lo) {a b : Int32} (d : decode cc pc = .ok (.irem, 1)) (hne : ¬ b = 0) (k : V G α nL κ (pc + 1) ls (.int (a - a / b * b) :: stk) σ x) : V G α nL κ pc ls (.int b :: .int a :: stk) σ x := by
  obtain ⟨p, l, e, R, s, m, args, below, meth, c, D, cI, cD, A, cs, sl, Qr⟩ := G
  obtain ⟨hx, hb, hml, hown, hts, hK, hinj, hnw, hAk, hAz, hR, hcs⟩ := hO
  intro r hr H locs la hP hS hl
  exact lv_irem hx hb d hne (k r hr H locs la hP hS hl)
theorem V_ldiv {X : Type} {G : Gm} {α : Nat → Nat} {nL : Nat} {κ : X → Option Rs} {pc : Nat} {ls : List (Nat × Value)} {stk : List Value} {σ : Hp} {x : X} {cc : ByteArray} {own : String} {fr lo : Nat} (hO : Ok G α cc nL own fr lo) {a b : Int64} (d : decode cc pc = .ok (.ldiv, 1)) (hne : ¬ b = 0) (k : V G α nL κ (pc + 1) ls (.long (a / b) :: stk) σ x) : V G α nL κ pc ls (.long b :: .long a :: stk) σ x := by
  obtain ⟨p, l, e, R, s, m, args, below, meth, c, D, cI, cD, A, cs, sl, Qr⟩ := G
  obtain ⟨hx, hb, hml, hown, hts, hK, hinj, hnw, hAk, hAz, hR, hcs⟩ := hO
  intro r hr H locs la hP hS hl
  exact lv_ldiv hx hb d hne (k r hr H locs la hP hS hl)
theorem V_lrem {X : Type} {G : Gm} {α : Nat → Nat} {nL : Nat} {κ : X → Option Rs} {pc : Nat} {ls : List (Nat × Value)} {stk : List Value} {σ : Hp} {x : X} {cc : ByteArray} {own : String} {fr lo : Nat} (hO : Ok G α cc nL own fr lo) {a b : Int64} (d : decode cc pc = .ok (.lrem, 1)) (hne : ¬ b = 0) (k : V G α nL κ (pc + 1) ls (.long (a - a / b * b) :: stk) σ x) : V G α nL κ pc ls (.long b :: .long a :: stk) σ x := by
  obtain ⟨p, l, e, R, s, m, args, below, meth, c, D, cI, cD, A, cs, sl, Qr⟩ := G
  obtain ⟨hx, hb, hml, hown, hts, hK, hinj, hnw, hAk, hAz, hR, hcs⟩ := hO
  intro r hr H locs la hP hS hl
  exact lv_lrem hx hb d hne (k r hr H locs la hP hS hl)
theorem V_dup {X : Type} {G : Gm} {α : Nat → Nat} {nL : Nat} {κ : X → Option Rs} {pc : Nat} {ls : List (Nat × Value)} {stk : List Value} {σ : Hp} {x : X} {cc : ByteArray} {own : String} {fr lo : Nat} (hO : Ok G α cc nL own fr lo) {v : Value} (d : decode cc pc = .ok (.dup, 1)) (hv : v.category = 1) (k : V G α nL κ (pc + 1) ls (v :: v :: stk) σ x) : V G α nL κ pc ls (v :: stk) σ x := by
  obtain ⟨p, l, e, R, s, m, args, below, meth, c, D, cI, cD, A, cs, sl, Qr⟩ := G
  obtain ⟨hx, hb, hml, hown, hts, hK, hinj, hnw, hAk, hAz, hR, hcs⟩ := hO
  intro r hr H locs la hP hS hl
  exact lv_dup hx hb d hv (k r hr H locs la hP hS hl)
theorem V_pop {X : Type} {G : Gm} {α : Nat → Nat} {nL : Nat} {κ : X → Option Rs} {pc : Nat} {ls : List (Nat × Value)} {stk : List Value} {σ : Hp} {x : X} {cc : ByteArray} {own : String} {fr lo : Nat} (hO : Ok G α cc nL own fr lo) {v : Value} (d : decode cc pc = .ok (.pop, 1)) (hv : v.category = 1) (k : V G α nL κ (pc + 1) ls stk σ x) : V G α nL κ pc ls (v :: stk) σ x := by
  obtain ⟨p, l, e, R, s, m, args, below, meth, c, D, cI, cD, A, cs, sl, Qr⟩ := G
  obtain ⟨hx, hb, hml, hown, hts, hK, hinj, hnw, hAk, hAz, hR, hcs⟩ := hO
  intro r hr H locs la hP hS hl
  exact lv_pop hx hb d hv (k r hr H locs la hP hS hl)
theorem V_dup2 {X : Type} {G : Gm} {α : Nat → Nat} {nL : Nat} {κ : X → Option Rs} {pc : Nat} {ls : List (Nat × Value)} {stk : List Value} {σ : Hp} {x : X} {cc : ByteArray} {own : String} {fr lo : Nat} (hO : Ok G α cc nL own fr lo) {v u : Value} (d : decode cc pc = .ok (.dup2, 1)) (hv : v.category = 1) (hu : u.category = 1) (k : V G α nL κ (pc + 1) ls (v :: u :: v :: u :: stk) σ x) : V G α nL κ pc ls (v :: u :: stk) σ x := by
  obtain ⟨p, l, e, R, s, m, args, below, meth, c, D, cI, cD, A, cs, sl, Qr⟩ := G
  obtain ⟨hx, hb, hml, hown, hts, hK, hinj, hnw, hAk, hAz, hR, hcs⟩ := hO
  intro r hr H locs la hP hS hl
  exact lv_dup2_11 hx hb d hv hu (k r hr H locs la hP hS hl)
theorem V_goto {X : Type} {G : Gm} {α : Nat → Nat} {nL : Nat} {κ : X → Option Rs} {pc : Nat} {ls : List (Nat × Value)} {stk : List Value} {σ : Hp} {x : X} {cc : ByteArray} {own : String} {fr lo : Nat} (hO : Ok G α cc nL own fr lo) {off : Int} (tgt : Nat) (d : decode cc pc = .ok (.goto off, 3)) (ht : (pc : Int) + off = (tgt : Int)) (k : V G α nL κ tgt ls stk σ x) : V G α nL κ pc ls stk σ x := by
  obtain ⟨p, l, e, R, s, m, args, below, meth, c, D, cI, cD, A, cs, sl, Qr⟩ := G
  obtain ⟨hx, hb, hml, hown, hts, hK, hinj, hnw, hAk, hAz, hR, hcs⟩ := hO
  intro r hr H locs la hP hS hl
  exact lv_goto hx hb d ht (k r hr H locs la hP hS hl)
theorem V_icmp_eq {X : Type} {G : Gm} {α : Nat → Nat} {nL : Nat} {κ : X → Option Rs} {pc : Nat} {ls : List (Nat × Value)} {stk : List Value} {σ : Hp} {xt xf : X} {cc : ByteArray} {own : String} {fr lo : Nat} (hO : Ok G α cc nL own fr lo) {a b : Int32} {off : Int} (tgt : Nat) {inst : Decidable (a = b)} (d : decode cc pc = .ok (.if_icmp .eq off, 3)) (ht : (pc : Int) + off = (tgt : Int)) (kt : V G α nL κ tgt ls stk σ xt) (kf : V G α nL κ (pc + 3) ls stk σ xf) : V G α nL κ pc ls (.int b :: .int a :: stk) σ (@ite X (a = b) inst xt xf) := by
  obtain ⟨p, l, e, R, s, m, args, below, meth, c, D, cI, cD, A, cs, sl, Qr⟩ := G
  obtain ⟨hx, hb, hml, hown, hts, hK, hinj, hnw, hAk, hAz, hR, hcs⟩ := hO
  intro r hr H locs la hP hS hl
  refine lv_icmp_eq hx hb d ht (fun hc => kt r (by first | rwa [if_pos hc] at hr | rwa [if_neg hc] at hr) H locs la hP hS hl) (fun hc => kf r (by first | rwa [if_pos hc] at hr | rwa [if_neg hc] at hr) H locs la hP hS hl)
theorem V_icmp_ne {X : Type} {G : Gm} {α : Nat → Nat} {nL : Nat} {κ : X → Option Rs} {pc : Nat} {ls : List (Nat × Value)} {stk : List Value} {σ : Hp} {xt xf : X} {cc : ByteArray} {own : String} {fr lo : Nat} (hO : Ok G α cc nL own fr lo) {a b : Int32} {off : Int} (tgt : Nat) {inst : Decidable (a = b)} (d : decode cc pc = .ok (.if_icmp .ne off, 3)) (ht : (pc : Int) + off = (tgt : Int)) (kt : V G α nL κ tgt ls stk σ xt) (kf : V G α nL κ (pc + 3) ls stk σ xf) : V G α nL κ pc ls (.int b :: .int a :: stk) σ (@ite X (a = b) inst xf xt) := by
  obtain ⟨p, l, e, R, s, m, args, below, meth, c, D, cI, cD, A, cs, sl, Qr⟩ := G
  obtain ⟨hx, hb, hml, hown, hts, hK, hinj, hnw, hAk, hAz, hR, hcs⟩ := hO
  intro r hr H locs la hP hS hl
  refine lv_icmp_ne hx hb d ht (fun hc => kt r (by first | rwa [if_pos hc] at hr | rwa [if_neg hc] at hr) H locs la hP hS hl) (fun hc => kf r (by first | rwa [if_pos hc] at hr | rwa [if_neg hc] at hr) H locs la hP hS hl)
theorem V_icmp_lt {X : Type} {G : Gm} {α : Nat → Nat} {nL : Nat} {κ : X → Option Rs} {pc : Nat} {ls : List (Nat × Value)} {stk : List Value} {σ : Hp} {xt xf : X} {cc : ByteArray} {own : String} {fr lo : Nat} (hO : Ok G α cc nL own fr lo) {a b : Int32} {off : Int} (tgt : Nat) {inst : Decidable (a < b)} (d : decode cc pc = .ok (.if_icmp .lt off, 3)) (ht : (pc : Int) + off = (tgt : Int)) (kt : V G α nL κ tgt ls stk σ xt) (kf : V G α nL κ (pc + 3) ls stk σ xf) : V G α nL κ pc ls (.int b :: .int a :: stk) σ (@ite X (a < b) inst xt xf) := by
  obtain ⟨p, l, e, R, s, m, args, below, meth, c, D, cI, cD, A, cs, sl, Qr⟩ := G
  obtain ⟨hx, hb, hml, hown, hts, hK, hinj, hnw, hAk, hAz, hR, hcs⟩ := hO
  intro r hr H locs la hP hS hl
  refine lv_icmp_lt hx hb d ht (fun hc => kt r (by first | rwa [if_pos hc] at hr | rwa [if_neg hc] at hr) H locs la hP hS hl) (fun hc => kf r (by first | rwa [if_pos hc] at hr | rwa [if_neg hc] at hr) H locs la hP hS hl)
theorem V_icmp_ge {X : Type} {G : Gm} {α : Nat → Nat} {nL : Nat} {κ : X → Option Rs} {pc : Nat} {ls : List (Nat × Value)} {stk : List Value} {σ : Hp} {xt xf : X} {cc : ByteArray} {own : String} {fr lo : Nat} (hO : Ok G α cc nL own fr lo) {a b : Int32} {off : Int} (tgt : Nat) {inst : Decidable (b ≤ a)} (d : decode cc pc = .ok (.if_icmp .ge off, 3)) (ht : (pc : Int) + off = (tgt : Int)) (kt : V G α nL κ tgt ls stk σ xt) (kf : V G α nL κ (pc + 3) ls stk σ xf) : V G α nL κ pc ls (.int b :: .int a :: stk) σ (@ite X (b ≤ a) inst xt xf) := by
  obtain ⟨p, l, e, R, s, m, args, below, meth, c, D, cI, cD, A, cs, sl, Qr⟩ := G
  obtain ⟨hx, hb, hml, hown, hts, hK, hinj, hnw, hAk, hAz, hR, hcs⟩ := hO
  intro r hr H locs la hP hS hl
  refine lv_icmp_ge hx hb d ht (fun hc => kt r (by first | rwa [if_pos hc] at hr | rwa [if_neg hc] at hr) H locs la hP hS hl) (fun hc => kf r (by first | rwa [if_pos hc] at hr | rwa [if_neg hc] at hr) H locs la hP hS hl)
theorem V_icmp_gt {X : Type} {G : Gm} {α : Nat → Nat} {nL : Nat} {κ : X → Option Rs} {pc : Nat} {ls : List (Nat × Value)} {stk : List Value} {σ : Hp} {xt xf : X} {cc : ByteArray} {own : String} {fr lo : Nat} (hO : Ok G α cc nL own fr lo) {a b : Int32} {off : Int} (tgt : Nat) {inst : Decidable (b < a)} (d : decode cc pc = .ok (.if_icmp .gt off, 3)) (ht : (pc : Int) + off = (tgt : Int)) (kt : V G α nL κ tgt ls stk σ xt) (kf : V G α nL κ (pc + 3) ls stk σ xf) : V G α nL κ pc ls (.int b :: .int a :: stk) σ (@ite X (b < a) inst xt xf) := by
  obtain ⟨p, l, e, R, s, m, args, below, meth, c, D, cI, cD, A, cs, sl, Qr⟩ := G
  obtain ⟨hx, hb, hml, hown, hts, hK, hinj, hnw, hAk, hAz, hR, hcs⟩ := hO
  intro r hr H locs la hP hS hl
  refine lv_icmp_gt hx hb d ht (fun hc => kt r (by first | rwa [if_pos hc] at hr | rwa [if_neg hc] at hr) H locs la hP hS hl) (fun hc => kf r (by first | rwa [if_pos hc] at hr | rwa [if_neg hc] at hr) H locs la hP hS hl)
theorem V_icmp_le {X : Type} {G : Gm} {α : Nat → Nat} {nL : Nat} {κ : X → Option Rs} {pc : Nat} {ls : List (Nat × Value)} {stk : List Value} {σ : Hp} {xt xf : X} {cc : ByteArray} {own : String} {fr lo : Nat} (hO : Ok G α cc nL own fr lo) {a b : Int32} {off : Int} (tgt : Nat) {inst : Decidable (a ≤ b)} (d : decode cc pc = .ok (.if_icmp .le off, 3)) (ht : (pc : Int) + off = (tgt : Int)) (kt : V G α nL κ tgt ls stk σ xt) (kf : V G α nL κ (pc + 3) ls stk σ xf) : V G α nL κ pc ls (.int b :: .int a :: stk) σ (@ite X (a ≤ b) inst xt xf) := by
  obtain ⟨p, l, e, R, s, m, args, below, meth, c, D, cI, cD, A, cs, sl, Qr⟩ := G
  obtain ⟨hx, hb, hml, hown, hts, hK, hinj, hnw, hAk, hAz, hR, hcs⟩ := hO
  intro r hr H locs la hP hS hl
  refine lv_icmp_le hx hb d ht (fun hc => kt r (by first | rwa [if_pos hc] at hr | rwa [if_neg hc] at hr) H locs la hP hS hl) (fun hc => kf r (by first | rwa [if_pos hc] at hr | rwa [if_neg hc] at hr) H locs la hP hS hl)
theorem V_if_eq {X : Type} {G : Gm} {α : Nat → Nat} {nL : Nat} {κ : X → Option Rs} {pc : Nat} {ls : List (Nat × Value)} {stk : List Value} {σ : Hp} {xt xf : X} {cc : ByteArray} {own : String} {fr lo : Nat} (hO : Ok G α cc nL own fr lo) {a : Int32} {off : Int} (tgt : Nat) {inst : Decidable (a = 0)} (d : decode cc pc = .ok (.ifCond .eq off, 3)) (ht : (pc : Int) + off = (tgt : Int)) (kt : V G α nL κ tgt ls stk σ xt) (kf : V G α nL κ (pc + 3) ls stk σ xf) : V G α nL κ pc ls (.int a :: stk) σ (@ite X (a = 0) inst xt xf) := by
  obtain ⟨p, l, e, R, s, m, args, below, meth, c, D, cI, cD, A, cs, sl, Qr⟩ := G
  obtain ⟨hx, hb, hml, hown, hts, hK, hinj, hnw, hAk, hAz, hR, hcs⟩ := hO
  intro r hr H locs la hP hS hl
  refine lv_if_eq hx hb d ht (fun hc => kt r (by first | rwa [if_pos hc] at hr | rwa [if_neg hc] at hr) H locs la hP hS hl) (fun hc => kf r (by first | rwa [if_pos hc] at hr | rwa [if_neg hc] at hr) H locs la hP hS hl)
theorem V_if_ne {X : Type} {G : Gm} {α : Nat → Nat} {nL : Nat} {κ : X → Option Rs} {pc : Nat} {ls : List (Nat × Value)} {stk : List Value} {σ : Hp} {xt xf : X} {cc : ByteArray} {own : String} {fr lo : Nat} (hO : Ok G α cc nL own fr lo) {a : Int32} {off : Int} (tgt : Nat) {inst : Decidable (a = 0)} (d : decode cc pc = .ok (.ifCond .ne off, 3)) (ht : (pc : Int) + off = (tgt : Int)) (kt : V G α nL κ tgt ls stk σ xt) (kf : V G α nL κ (pc + 3) ls stk σ xf) : V G α nL κ pc ls (.int a :: stk) σ (@ite X (a = 0) inst xf xt) := by
  obtain ⟨p, l, e, R, s, m, args, below, meth, c, D, cI, cD, A, cs, sl, Qr⟩ := G
  obtain ⟨hx, hb, hml, hown, hts, hK, hinj, hnw, hAk, hAz, hR, hcs⟩ := hO
  intro r hr H locs la hP hS hl
  refine lv_if_ne hx hb d ht (fun hc => kt r (by first | rwa [if_pos hc] at hr | rwa [if_neg hc] at hr) H locs la hP hS hl) (fun hc => kf r (by first | rwa [if_pos hc] at hr | rwa [if_neg hc] at hr) H locs la hP hS hl)
theorem V_if_lt {X : Type} {G : Gm} {α : Nat → Nat} {nL : Nat} {κ : X → Option Rs} {pc : Nat} {ls : List (Nat × Value)} {stk : List Value} {σ : Hp} {xt xf : X} {cc : ByteArray} {own : String} {fr lo : Nat} (hO : Ok G α cc nL own fr lo) {a : Int32} {off : Int} (tgt : Nat) {inst : Decidable (a < 0)} (d : decode cc pc = .ok (.ifCond .lt off, 3)) (ht : (pc : Int) + off = (tgt : Int)) (kt : V G α nL κ tgt ls stk σ xt) (kf : V G α nL κ (pc + 3) ls stk σ xf) : V G α nL κ pc ls (.int a :: stk) σ (@ite X (a < 0) inst xt xf) := by
  obtain ⟨p, l, e, R, s, m, args, below, meth, c, D, cI, cD, A, cs, sl, Qr⟩ := G
  obtain ⟨hx, hb, hml, hown, hts, hK, hinj, hnw, hAk, hAz, hR, hcs⟩ := hO
  intro r hr H locs la hP hS hl
  refine lv_if_lt hx hb d ht (fun hc => kt r (by first | rwa [if_pos hc] at hr | rwa [if_neg hc] at hr) H locs la hP hS hl) (fun hc => kf r (by first | rwa [if_pos hc] at hr | rwa [if_neg hc] at hr) H locs la hP hS hl)
theorem V_if_ge {X : Type} {G : Gm} {α : Nat → Nat} {nL : Nat} {κ : X → Option Rs} {pc : Nat} {ls : List (Nat × Value)} {stk : List Value} {σ : Hp} {xt xf : X} {cc : ByteArray} {own : String} {fr lo : Nat} (hO : Ok G α cc nL own fr lo) {a : Int32} {off : Int} (tgt : Nat) {inst : Decidable (0 ≤ a)} (d : decode cc pc = .ok (.ifCond .ge off, 3)) (ht : (pc : Int) + off = (tgt : Int)) (kt : V G α nL κ tgt ls stk σ xt) (kf : V G α nL κ (pc + 3) ls stk σ xf) : V G α nL κ pc ls (.int a :: stk) σ (@ite X (0 ≤ a) inst xt xf) := by
  obtain ⟨p, l, e, R, s, m, args, below, meth, c, D, cI, cD, A, cs, sl, Qr⟩ := G
  obtain ⟨hx, hb, hml, hown, hts, hK, hinj, hnw, hAk, hAz, hR, hcs⟩ := hO
  intro r hr H locs la hP hS hl
  refine lv_if_ge hx hb d ht (fun hc => kt r (by first | rwa [if_pos hc] at hr | rwa [if_neg hc] at hr) H locs la hP hS hl) (fun hc => kf r (by first | rwa [if_pos hc] at hr | rwa [if_neg hc] at hr) H locs la hP hS hl)
theorem V_if_gt {X : Type} {G : Gm} {α : Nat → Nat} {nL : Nat} {κ : X → Option Rs} {pc : Nat} {ls : List (Nat × Value)} {stk : List Value} {σ : Hp} {xt xf : X} {cc : ByteArray} {own : String} {fr lo : Nat} (hO : Ok G α cc nL own fr lo) {a : Int32} {off : Int} (tgt : Nat) {inst : Decidable (0 < a)} (d : decode cc pc = .ok (.ifCond .gt off, 3)) (ht : (pc : Int) + off = (tgt : Int)) (kt : V G α nL κ tgt ls stk σ xt) (kf : V G α nL κ (pc + 3) ls stk σ xf) : V G α nL κ pc ls (.int a :: stk) σ (@ite X (0 < a) inst xt xf) := by
  obtain ⟨p, l, e, R, s, m, args, below, meth, c, D, cI, cD, A, cs, sl, Qr⟩ := G
  obtain ⟨hx, hb, hml, hown, hts, hK, hinj, hnw, hAk, hAz, hR, hcs⟩ := hO
  intro r hr H locs la hP hS hl
  refine lv_if_gt hx hb d ht (fun hc => kt r (by first | rwa [if_pos hc] at hr | rwa [if_neg hc] at hr) H locs la hP hS hl) (fun hc => kf r (by first | rwa [if_pos hc] at hr | rwa [if_neg hc] at hr) H locs la hP hS hl)
theorem V_if_le {X : Type} {G : Gm} {α : Nat → Nat} {nL : Nat} {κ : X → Option Rs} {pc : Nat} {ls : List (Nat × Value)} {stk : List Value} {σ : Hp} {xt xf : X} {cc : ByteArray} {own : String} {fr lo : Nat} (hO : Ok G α cc nL own fr lo) {a : Int32} {off : Int} (tgt : Nat) {inst : Decidable (a ≤ 0)} (d : decode cc pc = .ok (.ifCond .le off, 3)) (ht : (pc : Int) + off = (tgt : Int)) (kt : V G α nL κ tgt ls stk σ xt) (kf : V G α nL κ (pc + 3) ls stk σ xf) : V G α nL κ pc ls (.int a :: stk) σ (@ite X (a ≤ 0) inst xt xf) := by
  obtain ⟨p, l, e, R, s, m, args, below, meth, c, D, cI, cD, A, cs, sl, Qr⟩ := G
  obtain ⟨hx, hb, hml, hown, hts, hK, hinj, hnw, hAk, hAz, hR, hcs⟩ := hO
  intro r hr H locs la hP hS hl
  refine lv_if_le hx hb d ht (fun hc => kt r (by first | rwa [if_pos hc] at hr | rwa [if_neg hc] at hr) H locs la hP hS hl) (fun hc => kf r (by first | rwa [if_pos hc] at hr | rwa [if_neg hc] at hr) H locs la hP hS hl)
theorem b2i_0 {b : Bool} : b2i b = 0 ↔ b = false := by cases b <;> decide
theorem V_ifeqZ {X : Type} {G : Gm} {α : Nat → Nat} {nL : Nat} {κ : X → Option Rs} {pc : Nat} {ls : List (Nat × Value)} {stk : List Value} {σ : Hp} {xt xf : X} {cc : ByteArray} {own : String} {fr lo : Nat} (hO : Ok G α cc nL own fr lo) {b : Bool} {off : Int} (tgt : Nat) {inst : Decidable (b = true)} (d : decode cc pc = .ok (.ifCond .eq off, 3)) (ht : (pc : Int) + off = (tgt : Int)) (kt : V G α nL κ tgt ls stk σ xt) (kf : V G α nL κ (pc + 3) ls stk σ xf) : V G α nL κ pc ls (.int (b2i b) :: stk) σ (@ite X (b = true) inst xf xt) := by
  obtain ⟨p, l, e, R, s, m, args, below, meth, c, D, cI, cD, A, cs, sl, Qr⟩ := G
  obtain ⟨hx, hb, hml, hown, hts, hK, hinj, hnw, hAk, hAz, hR, hcs⟩ := hO
  intro r hr H locs la hP hS hl
  refine lv_if_eq hx hb d ht (fun hc => kt r ?_ H locs la hP hS hl) (fun hc => kf r ?_ H locs la hP hS hl)
  · have h1 := b2i_0.mp hc
    rw [if_neg (by rw [h1]; decide)] at hr
    exact hr
  · have h1 : b = true := by
      cases b
      · exact absurd rfl hc
      · rfl
    rw [if_pos h1] at hr
    exact hr
theorem V_ifneZ {X : Type} {G : Gm} {α : Nat → Nat} {nL : Nat} {κ : X → Option Rs} {pc : Nat} {ls : List (Nat × Value)} {stk : List Value} {σ : Hp} {xt xf : X} {cc : ByteArray} {own : String} {fr lo : Nat} (hO : Ok G α cc nL own fr lo) {b : Bool} {off : Int} (tgt : Nat) {inst : Decidable (b = true)} (d : decode cc pc = .ok (.ifCond .ne off, 3)) (ht : (pc : Int) + off = (tgt : Int)) (kt : V G α nL κ tgt ls stk σ xt) (kf : V G α nL κ (pc + 3) ls stk σ xf) : V G α nL κ pc ls (.int (b2i b) :: stk) σ (@ite X (b = true) inst xt xf) := by
  obtain ⟨p, l, e, R, s, m, args, below, meth, c, D, cI, cD, A, cs, sl, Qr⟩ := G
  obtain ⟨hx, hb, hml, hown, hts, hK, hinj, hnw, hAk, hAz, hR, hcs⟩ := hO
  intro r hr H locs la hP hS hl
  refine lv_if_ne hx hb d ht (fun hc => kt r ?_ H locs la hP hS hl) (fun hc => kf r ?_ H locs la hP hS hl)
  · have h1 : b = true := by
      cases b
      · exact absurd rfl hc
      · rfl
    rw [if_pos h1] at hr
    exact hr
  · have h1 := b2i_0.mp hc
    rw [if_neg (by rw [h1]; decide)] at hr
    exact hr
theorem V_lcmp_lt {X : Type} {G : Gm} {α : Nat → Nat} {nL : Nat} {κ : X → Option Rs} {pc : Nat} {ls : List (Nat × Value)} {stk : List Value} {σ : Hp} {xt xf : X} {cc : ByteArray} {own : String} {fr lo : Nat} (hO : Ok G α cc nL own fr lo) {a b : Int64} {off : Int} (tgt : Nat) {inst : Decidable (a < b)} (d0 : decode cc pc = .ok (.lcmp, 1)) (d : decode cc (pc + 1) = .ok (.ifCond .lt off, 3)) (ht : ((pc + 1 : Nat) : Int) + off = (tgt : Int)) (kt : V G α nL κ tgt ls stk σ xt) (kf : V G α nL κ (pc + 1 + 3) ls stk σ xf) : V G α nL κ pc ls (.long b :: .long a :: stk) σ (@ite X (a < b) inst xt xf) := by
  obtain ⟨p, l, e, R, s, m, args, below, meth, c, D, cI, cD, A, cs, sl, Qr⟩ := G
  obtain ⟨hx, hb, hml, hown, hts, hK, hinj, hnw, hAk, hAz, hR, hcs⟩ := hO
  intro r hr H locs la hP hS hl
  refine W.lcmp hx hb d0 (lv_if_lt hx hb d ht (fun hc => kt r (by rwa [if_pos ((lg_cmp_lt _ _).mp hc)] at hr) H locs la hP hS hl) (fun hc => kf r (by rwa [if_neg (fun z => hc ((lg_cmp_lt _ _).mpr z))] at hr) H locs la hP hS hl))
theorem V_lcmp_ge {X : Type} {G : Gm} {α : Nat → Nat} {nL : Nat} {κ : X → Option Rs} {pc : Nat} {ls : List (Nat × Value)} {stk : List Value} {σ : Hp} {xt xf : X} {cc : ByteArray} {own : String} {fr lo : Nat} (hO : Ok G α cc nL own fr lo) {a b : Int64} {off : Int} (tgt : Nat) {inst : Decidable (b ≤ a)} (d0 : decode cc pc = .ok (.lcmp, 1)) (d : decode cc (pc + 1) = .ok (.ifCond .ge off, 3)) (ht : ((pc + 1 : Nat) : Int) + off = (tgt : Int)) (kt : V G α nL κ tgt ls stk σ xt) (kf : V G α nL κ (pc + 1 + 3) ls stk σ xf) : V G α nL κ pc ls (.long b :: .long a :: stk) σ (@ite X (b ≤ a) inst xt xf) := by
  obtain ⟨p, l, e, R, s, m, args, below, meth, c, D, cI, cD, A, cs, sl, Qr⟩ := G
  obtain ⟨hx, hb, hml, hown, hts, hK, hinj, hnw, hAk, hAz, hR, hcs⟩ := hO
  intro r hr H locs la hP hS hl
  refine W.lcmp hx hb d0 (lv_if_ge hx hb d ht (fun hc => kt r (by rwa [if_pos ((lg_cmp_ge _ _).mp hc)] at hr) H locs la hP hS hl) (fun hc => kf r (by rwa [if_neg (fun z => hc ((lg_cmp_ge _ _).mpr z))] at hr) H locs la hP hS hl))
theorem V_lcmp_gt {X : Type} {G : Gm} {α : Nat → Nat} {nL : Nat} {κ : X → Option Rs} {pc : Nat} {ls : List (Nat × Value)} {stk : List Value} {σ : Hp} {xt xf : X} {cc : ByteArray} {own : String} {fr lo : Nat} (hO : Ok G α cc nL own fr lo) {a b : Int64} {off : Int} (tgt : Nat) {inst : Decidable (b < a)} (d0 : decode cc pc = .ok (.lcmp, 1)) (d : decode cc (pc + 1) = .ok (.ifCond .gt off, 3)) (ht : ((pc + 1 : Nat) : Int) + off = (tgt : Int)) (kt : V G α nL κ tgt ls stk σ xt) (kf : V G α nL κ (pc + 1 + 3) ls stk σ xf) : V G α nL κ pc ls (.long b :: .long a :: stk) σ (@ite X (b < a) inst xt xf) := by
  obtain ⟨p, l, e, R, s, m, args, below, meth, c, D, cI, cD, A, cs, sl, Qr⟩ := G
  obtain ⟨hx, hb, hml, hown, hts, hK, hinj, hnw, hAk, hAz, hR, hcs⟩ := hO
  intro r hr H locs la hP hS hl
  refine W.lcmp hx hb d0 (lv_if_gt hx hb d ht (fun hc => kt r (by rwa [if_pos ((lg_cmp_gt _ _).mp hc)] at hr) H locs la hP hS hl) (fun hc => kf r (by rwa [if_neg (fun z => hc ((lg_cmp_gt _ _).mpr z))] at hr) H locs la hP hS hl))
theorem V_lcmp_le {X : Type} {G : Gm} {α : Nat → Nat} {nL : Nat} {κ : X → Option Rs} {pc : Nat} {ls : List (Nat × Value)} {stk : List Value} {σ : Hp} {xt xf : X} {cc : ByteArray} {own : String} {fr lo : Nat} (hO : Ok G α cc nL own fr lo) {a b : Int64} {off : Int} (tgt : Nat) {inst : Decidable (a ≤ b)} (d0 : decode cc pc = .ok (.lcmp, 1)) (d : decode cc (pc + 1) = .ok (.ifCond .le off, 3)) (ht : ((pc + 1 : Nat) : Int) + off = (tgt : Int)) (kt : V G α nL κ tgt ls stk σ xt) (kf : V G α nL κ (pc + 1 + 3) ls stk σ xf) : V G α nL κ pc ls (.long b :: .long a :: stk) σ (@ite X (a ≤ b) inst xt xf) := by
  obtain ⟨p, l, e, R, s, m, args, below, meth, c, D, cI, cD, A, cs, sl, Qr⟩ := G
  obtain ⟨hx, hb, hml, hown, hts, hK, hinj, hnw, hAk, hAz, hR, hcs⟩ := hO
  intro r hr H locs la hP hS hl
  refine W.lcmp hx hb d0 (lv_if_le hx hb d ht (fun hc => kt r (by rwa [if_pos ((lg_cmp_le _ _).mp hc)] at hr) H locs la hP hS hl) (fun hc => kf r (by rwa [if_neg (fun z => hc ((lg_cmp_le _ _).mpr z))] at hr) H locs la hP hS hl))
theorem V_lcmp_eq {X : Type} {G : Gm} {α : Nat → Nat} {nL : Nat} {κ : X → Option Rs} {pc : Nat} {ls : List (Nat × Value)} {stk : List Value} {σ : Hp} {xt xf : X} {cc : ByteArray} {own : String} {fr lo : Nat} (hO : Ok G α cc nL own fr lo) {a b : Int64} {off : Int} (tgt : Nat) {inst : Decidable (a = b)} (d0 : decode cc pc = .ok (.lcmp, 1)) (d : decode cc (pc + 1) = .ok (.ifCond .eq off, 3)) (ht : ((pc + 1 : Nat) : Int) + off = (tgt : Int)) (kt : V G α nL κ tgt ls stk σ xt) (kf : V G α nL κ (pc + 1 + 3) ls stk σ xf) : V G α nL κ pc ls (.long b :: .long a :: stk) σ (@ite X (a = b) inst xt xf) := by
  obtain ⟨p, l, e, R, s, m, args, below, meth, c, D, cI, cD, A, cs, sl, Qr⟩ := G
  obtain ⟨hx, hb, hml, hown, hts, hK, hinj, hnw, hAk, hAz, hR, hcs⟩ := hO
  intro r hr H locs la hP hS hl
  refine W.lcmp hx hb d0 (lv_if_eq hx hb d ht (fun hc => kt r (by rwa [if_pos ((lg_cmp_eq _ _).mp hc)] at hr) H locs la hP hS hl) (fun hc => kf r (by rwa [if_neg (fun z => hc ((lg_cmp_eq _ _).mpr z))] at hr) H locs la hP hS hl))
theorem V_lcmp_ne {X : Type} {G : Gm} {α : Nat → Nat} {nL : Nat} {κ : X → Option Rs} {pc : Nat} {ls : List (Nat × Value)} {stk : List Value} {σ : Hp} {xt xf : X} {cc : ByteArray} {own : String} {fr lo : Nat} (hO : Ok G α cc nL own fr lo) {a b : Int64} {off : Int} (tgt : Nat) {inst : Decidable (a = b)} (d0 : decode cc pc = .ok (.lcmp, 1)) (d : decode cc (pc + 1) = .ok (.ifCond .ne off, 3)) (ht : ((pc + 1 : Nat) : Int) + off = (tgt : Int)) (kt : V G α nL κ tgt ls stk σ xt) (kf : V G α nL κ (pc + 1 + 3) ls stk σ xf) : V G α nL κ pc ls (.long b :: .long a :: stk) σ (@ite X (a = b) inst xf xt) := by
  obtain ⟨p, l, e, R, s, m, args, below, meth, c, D, cI, cD, A, cs, sl, Qr⟩ := G
  obtain ⟨hx, hb, hml, hown, hts, hK, hinj, hnw, hAk, hAz, hR, hcs⟩ := hO
  intro r hr H locs la hP hS hl
  refine W.lcmp hx hb d0 (lv_if_ne hx hb d ht (fun hc => kt r (by rwa [if_neg (fun z => hc ((lg_cmp_eq _ _).mpr z))] at hr) H locs la hP hS hl) (fun hc => kf r (by rwa [if_pos ((lg_cmp_eq _ _).mp hc)] at hr) H locs la hP hS hl))
theorem V_tsIn {X : Type} {G : Gm} {α : Nat → Nat} {nL : Nat} {κ : X → Option Rs} {pc : Nat} {ls : List (Nat × Value)} {stk : List Value} {σ : Hp} {x : X} {cc : ByteArray} {own : String} {fr lo : Nat} (hO : Ok G α cc nL own fr lo) {dflt lo9 hi9 : Int} {offs : Array Int} {len : Nat} {a : Int32} {off : Int} (tgt : Nat) (d : decode cc pc = .ok (.tableswitch dflt lo9 hi9 offs, len)) (h1 : ¬ a.toInt < lo9) (h2 : ¬ hi9 < a.toInt) (ho : offs[(a.toInt - lo9).toNat]? = some off) (ht : (pc : Int) + off = (tgt : Int)) (k : V G α nL κ tgt ls stk σ x) : V G α nL κ pc ls (.int a :: stk) σ x := by
  obtain ⟨p, l, e, R, s, m, args, below, meth, c, D, cI, cD, A, cs, sl, Qr⟩ := G
  obtain ⟨hx, hb, hml, hown, hts, hK, hinj, hnw, hAk, hAz, hR, hcs⟩ := hO
  intro r hr H locs la hP hS hl
  exact lv_tableIn hx hb d h1 h2 ho ht (k r hr H locs la hP hS hl)
theorem V_tsOut {X : Type} {G : Gm} {α : Nat → Nat} {nL : Nat} {κ : X → Option Rs} {pc : Nat} {ls : List (Nat × Value)} {stk : List Value} {σ : Hp} {x : X} {cc : ByteArray} {own : String} {fr lo : Nat} (hO : Ok G α cc nL own fr lo) {dflt lo9 hi9 : Int} {offs : Array Int} {len : Nat} {a : Int32} (tgt : Nat) (d : decode cc pc = .ok (.tableswitch dflt lo9 hi9 offs, len)) (h : a.toInt < lo9 ∨ hi9 < a.toInt) (ht : (pc : Int) + dflt = (tgt : Int)) (k : V G α nL κ tgt ls stk σ x) : V G α nL κ pc ls (.int a :: stk) σ x := by
  obtain ⟨p, l, e, R, s, m, args, below, meth, c, D, cI, cD, A, cs, sl, Qr⟩ := G
  obtain ⟨hx, hb, hml, hown, hts, hK, hinj, hnw, hAk, hAz, hR, hcs⟩ := hO
  intro r hr H locs la hP hS hl
  exact lv_tableOut hx hb d h ht (k r hr H locs la hP hS hl)
theorem V_lsw {X : Type} {G : Gm} {α : Nat → Nat} {nL : Nat} {κ : X → Option Rs} {pc : Nat} {ls : List (Nat × Value)} {stk : List Value} {σ : Hp} {x : X} {cc : ByteArray} {own : String} {fr lo : Nat} (hO : Ok G α cc nL own fr lo) {dflt : Int} {ps : Array (Int × Int)} {len : Nat} {a : Int32} {off : Int} (tgt : Nat) (d : decode cc pc = .ok (.lookupswitch dflt ps, len)) (hp : (ps.toList.zip (ps.toList.drop 1)).all (fun (a, next) => a.1 < next.1) = true) (ho : Op.lookupswitch.offset ps.toList dflt a.toInt = off) (ht : (pc : Int) + off = (tgt : Int)) (k : V G α nL κ tgt ls stk σ x) : V G α nL κ pc ls (.int a :: stk) σ x := by
  obtain ⟨p, l, e, R, s, m, args, below, meth, c, D, cI, cD, A, cs, sl, Qr⟩ := G
  obtain ⟨hx, hb, hml, hown, hts, hK, hinj, hnw, hAk, hAz, hR, hcs⟩ := hO
  intro r hr H locs la hP hS hl
  exact lv_lookup hx hb d hp ho ht (k r hr H locs la hP hS hl)
theorem V_case {X : Type} {G : Gm} {α : Nat → Nat} {nL : Nat} {κ : X → Option Rs} {pc : Nat} {ls : List (Nat × Value)} {stk : List Value} {σ : Hp} {xt xf : X} {c : Prop} {inst : Decidable c} (kt : c → V G α nL κ pc ls stk σ xt) (kf : ¬ c → V G α nL κ pc ls stk σ xf) : V G α nL κ pc ls stk σ (@ite X c inst xt xf) := by
  by_cases h : c
  · rw [if_pos h]; exact kt h
  · rw [if_neg h]; exact kf h
theorem ts_out {a : Int32} (n : Nat) (h : ∀ j, j < n → ¬ a = Int32.ofNat j) (hn : n < 2 ^ 31) : a.toInt < 0 ∨ ((n : Int) - 1) < a.toInt := by
  rcases Int.lt_or_le a.toInt 0 with h0 | h0
  · exact Or.inl h0
  · right
    rcases Int.lt_or_le (↑n - 1) a.toInt with h1 | h1
    · exact h1
    · exfalso
      have hj : a.toInt.toNat < n := by omega
      apply h _ hj
      apply Int32.toInt_inj.mp
      rw [show Int32.ofNat a.toInt.toNat = nI a.toInt.toNat from rfl, nI_toInt (by omega)]
      omega
theorem V_sub {X : Type} {G : Gm} {α : Nat → Nat} {nL : Nat} {κ : X → Option Rs} {pc : Nat} {ls ls2 : List (Nat × Value)} {stk : List Value} {σ : Hp} {x : X} (ks : List Nat) (h : lv_pick ls ks = ls2) (k : V G α nL κ pc ls2 stk σ x) : V G α nL κ pc ls stk σ x := by
  obtain ⟨p, l, e, R, s, m, args, below, meth, c, D, cI, cD, A, cs, sl, Qr⟩ := G
  intro r hr H locs la hP hS hl
  exact k r hr H locs la hP hS (lv_sub hl ks h)
theorem V_none {X : Type} {G : Gm} {α : Nat → Nat} {nL : Nat} {κ : X → Option Rs} {pc : Nat} {ls : List (Nat × Value)} {stk : List Value} {σ : Hp} {x : X} (h : κ x = none) : V G α nL κ pc ls stk σ x := by
  obtain ⟨p, l, e, R, s, m, args, below, meth, c, D, cI, cD, A, cs, sl, Qr⟩ := G
  intro r hr
  rw [h] at hr
  cases hr
theorem V_chk {X : Type} {G : Gm} {α : Nat → Nat} {nL : Nat} {κ : X → Option Rs} {pc : Nat} {ls : List (Nat × Value)} {stk : List Value} {σ : Hp} {xt xf : X} {c : Prop} {inst : Decidable c} (hz : κ xf = none) (kt : c → V G α nL κ pc ls stk σ xt) : V G α nL κ pc ls stk σ (@ite X c inst xt xf) := V_case kt (fun _ => V_none hz)
def FL (own : String) (idx ci j : Nat) : Prop := ∃ (C : String) (T : u_T) (N : Nat), clz[ci]? = some (C, T, N) ∧ j < N ∧ (∀ w ∈ u_ws C T N, w ∈ gw) ∧ Cond.fieldLink own idx (T j).1 (T j).2.1 (T j).2.2.1 ∈ gw
def FP (own : String) (idx ci j : Nat) (ty : FieldType) : Prop := ∃ (C : String) (T : u_T) (N : Nat) (ty0 : Nat → FieldType), clz[ci]? = some (C, T, N) ∧ j < N ∧ (∀ w ∈ u_ws C T N, w ∈ gw) ∧ Cond.fieldLink own idx (T j).1 (T j).2.1 (T j).2.2.1 ∈ gw ∧ (∀ k, k < N → parseFieldDescriptor (T k).2.2.1 = some (ty0 k)) ∧ (∀ a, a < N → ∀ b, b < N → a ≠ b → (T a).2.1 ≠ (T b).2.1) ∧ (T j).2.2.2 = false ∧ parseFieldDescriptor (T j).2.2.1 = some ty
theorem V_get {X : Type} {G : Gm} {α : Nat → Nat} {nL : Nat} {κ : X → Option Rs} {pc : Nat} {ls : List (Nat × Value)} {stk : List Value} {σ : Hp} {x : X} {cc : ByteArray} {own : String} {fr lo : Nat} (hO : Ok G α cc nL own fr lo) {idx ci j kc : Nat} {fs : List Value} {v : Value} (hF : FL own idx ci j) (hk : kc < 73) (he : ∀ cI cD, cellE cI cD α σ kc = .inr (ci, fs)) (hv : fs[j]? = some v) (d : decode cc pc = .ok (.getfield idx, 3)) (k : V G α nL κ (pc + 3) ls (v :: stk) σ x) : V G α nL κ pc ls (.ref (α kc) :: stk) σ x := by
  obtain ⟨p, l, e, R, s, m, args, below, meth, c, D, cI, cD, A, cs, sl, Qr⟩ := G
  obtain ⟨hx, hb, hml, hown, hts, hK, hinj, hnw, hAk, hAz, hR, hcs⟩ := hO
  obtain ⟨C, T, N, h1, h2, h3, h4⟩ := hF
  intro r hr H locs la hP hS hl
  exact va_get (D := D) hx hb hts h3 hown hK hP kc (by rw [cells_at hk, he]) h1 j h2 (hts _ h4) (fun _ h => h) hv d (k r hr H locs la hP hS hl)
theorem V_put {X : Type} {G : Gm} {α : Nat → Nat} {nL : Nat} {κ : X → Option Rs} {pc : Nat} {ls : List (Nat × Value)} {stk : List Value} {σ : Hp} {x : X} {cc : ByteArray} {own : String} {fr lo : Nat} (hO : Ok G α cc nL own fr lo) {idx ci j kc : Nat} {fs : List Value} {v : Value} {ty : FieldType} {τ : Hp} (hF : FP own idx ci j ty) (hk : kc < 73) (he : ∀ cI cD, cellE cI cD α σ kc = .inr (ci, fs)) (hl9 : j < fs.length) (hn : narrow ty v = v) (hf : fits ty v = true) (h1 : ∀ cI cD, cellE cI cD α τ kc = .inr (ci, fs.set j v)) (h2 : ∀ cI cD i, i ≠ kc → cellE cI cD α τ i = cellE cI cD α σ i) (d : decode cc pc = .ok (.putfield idx, 3)) (k : V G α nL κ (pc + 3) ls stk τ x) : V G α nL κ pc ls (v :: .ref (α kc) :: stk) σ x := by
  obtain ⟨p, l, e, R, s, m, args, below, meth, c, D, cI, cD, A, cs, sl, Qr⟩ := G
  obtain ⟨hx, hb, hml, hown, hts, hK, hinj, hnw, hAk, hAz, hR, hcs⟩ := hO
  obtain ⟨C, T, N, ty0, a1, a2, a3, a4, a5, a6, a7, a8⟩ := hF
  intro r hr H locs la hP hS hl
  refine va_put (D := D) hx hb hts a3 ty0 a5 a6 hown hK hP (cells_D hinj hAk) hS kc (by rw [cells_at hk, he]) a1 j a2 (hts _ a4) (fun _ h => h) a7 a8 hn hf hl9 d (fun H1 locs1 hP1 _ hS1 => ?_)
  rw [cells_set hk (h1 cI cD) (h2 cI cD)] at hP1
  exact k r hr H1 locs1 la hP1 hS1 hl
theorem V_puti {X : Type} {G : Gm} {α : Nat → Nat} {nL : Nat} {κ : X → Option Rs} {pc : Nat} {ls : List (Nat × Value)} {stk : List Value} {σ : Hp} {x : X} {cc : ByteArray} {own : String} {fr lo : Nat} (hO : Ok G α cc nL own fr lo) {idx ci j kc : Nat} {fs : List Value} {v : Int32} (hF : FP own idx ci j .int) (hk : kc < 73) (he : ∀ cI cD, cellE cI cD α σ kc = .inr (ci, fs)) (hl9 : j < fs.length) (h1 : ∀ cI cD, cellE cI cD α (up σ kc j v) kc = .inr (ci, fs.set j (.int v))) (d : decode cc pc = .ok (.putfield idx, 3)) (k : V G α nL κ (pc + 3) ls stk (up σ kc j v) x) : V G α nL κ pc ls (.int v :: .ref (α kc) :: stk) σ x :=
  V_put hO hF hk he hl9 (by rfl) (by rfl) h1 (fun _ _ i hi => cellE_up hi) d k
theorem V_putz {X : Type} {G : Gm} {α : Nat → Nat} {nL : Nat} {κ : X → Option Rs} {pc : Nat} {ls : List (Nat × Value)} {stk : List Value} {σ : Hp} {x : X} {cc : ByteArray} {own : String} {fr lo : Nat} (hO : Ok G α cc nL own fr lo) {idx ci j kc : Nat} {fs : List Value} {v : Int32} (hF : FP own idx ci j .boolean) (hk : kc < 73) (he : ∀ cI cD, cellE cI cD α σ kc = .inr (ci, fs)) (hl9 : j < fs.length) (hv : v = 0 ∨ v = 1) (h1 : ∀ cI cD, cellE cI cD α (up σ kc j v) kc = .inr (ci, fs.set j (.int v))) (d : decode cc pc = .ok (.putfield idx, 3)) (k : V G α nL κ (pc + 3) ls stk (up σ kc j v) x) : V G α nL κ pc ls (.int v :: .ref (α kc) :: stk) σ x :=
  V_put hO hF hk he hl9 (by rcases hv with rfl | rfl <;> rfl) (by rcases hv with rfl | rfl <;> rfl) h1 (fun _ _ i hi => cellE_up hi) d k
theorem b2i_01 (b : Bool) : b2i b = 0 ∨ b2i b = 1 := by cases b <;> decide
theorem isB_01 {x : Int32} (h : isB x = true) : x = 0 ∨ x = 1 := of_decide_eq_true h
theorem V_putl {X : Type} {G : Gm} {α : Nat → Nat} {nL : Nat} {κ : X → Option Rs} {pc : Nat} {ls : List (Nat × Value)} {stk : List Value} {σ : Hp} {x : X} {cc : ByteArray} {own : String} {fr lo : Nat} (hO : Ok G α cc nL own fr lo) {idx ci j : Nat} {fs : List Value} {v : Int64} (hF : FP own idx ci j .long) (he : ∀ cI cD, cellE cI cD α σ 55 = .inr (ci, fs)) (hl9 : j < fs.length) (h1 : ∀ cI cD, cellE cI cD α (upl σ v) 55 = .inr (ci, fs.set j (.long v))) (d : decode cc pc = .ok (.putfield idx, 3)) (k : V G α nL κ (pc + 3) ls stk (upl σ v) x) : V G α nL κ pc ls (.long v :: .ref (α 55) :: stk) σ x :=
  V_put hO hF (by decide) he hl9 (by rfl) (by rfl) h1 (fun _ _ i hi => cellE_upl hi) d k
theorem V_iald {X : Type} {G : Gm} {α : Nat → Nat} {nL : Nat} {κ : X → Option Rs} {pc : Nat} {ls : List (Nat × Value)} {stk : List Value} {σ : Hp} {x : X} {cc : ByteArray} {own : String} {fr lo : Nat} (hO : Ok G α cc nL own fr lo) {n kc : Nat} {i : Int32} (hk : kc < 73) (he : ∀ cI cD, cellE cI cD α σ kc = .inl (cI, n, .inl (σ.1 kc))) (hin : vp_in i n) (d : decode cc pc = .ok (.iaload, 1)) (k : V G α nL κ (pc + 1) ls (.int (σ.1 kc i.toNatClampNeg) :: stk) σ x) : V G α nL κ pc ls (.int i :: .ref (α kc) :: stk) σ x := by
  obtain ⟨p, l, e, R, s, m, args, below, meth, c, D, cI, cD, A, cs, sl, Qr⟩ := G
  obtain ⟨hx, hb, hml, hown, hts, hK, hinj, hnw, hAk, hAz, hR, hcs⟩ := hO
  intro r hr H locs la hP hS hl
  exact va_iald hx hb hK hP kc 0 (by rw [cells_at hk, he]) rfl hin d (k r hr H locs la hP hS hl)
theorem V_iast {X : Type} {G : Gm} {α : Nat → Nat} {nL : Nat} {κ : X → Option Rs} {pc : Nat} {ls : List (Nat × Value)} {stk : List Value} {σ : Hp} {x : X} {cc : ByteArray} {own : String} {fr lo : Nat} (hO : Ok G α cc nL own fr lo) {n kc : Nat} {i v : Int32} (hk : kc < 73) (he : ∀ cI cD (τ : Hp), cellE cI cD α τ kc = .inl (cI, n, .inl (τ.1 kc))) (hin : vp_in i n) (d : decode cc pc = .ok (.iastore, 1)) (k : V G α nL κ (pc + 1) ls stk (up σ kc i.toNatClampNeg v) x) : V G α nL κ pc ls (.int v :: .int i :: .ref (α kc) :: stk) σ x := by
  obtain ⟨p, l, e, R, s, m, args, below, meth, c, D, cI, cD, A, cs, sl, Qr⟩ := G
  obtain ⟨hx, hb, hml, hown, hts, hK, hinj, hnw, hAk, hAz, hR, hcs⟩ := hO
  intro r hr H locs la hP hS hl
  refine va_iast hx hb hK hP (cells_D hinj hAk) hS kc 0 (by rw [cells_at hk, he]) rfl hin d (fun H1 locs1 hP1 _ hS1 => ?_)
  rw [cells_set (τ := up σ kc i.toNatClampNeg v) hk (by rw [he, up_row]) (fun j hj => cellE_up hj)] at hP1
  exact k r hr H1 locs1 la hP1 hS1 hl
theorem V_aald {X : Type} {G : Gm} {α : Nat → Nat} {nL : Nat} {κ : X → Option Rs} {pc : Nat} {ls : List (Nat × Value)} {stk : List Value} {σ : Hp} {x : X} {cc : ByteArray} {own : String} {fr lo : Nat} (hO : Ok G α cc nL own fr lo) {kc : Nat} {i : Int32} {f : Nat → Nat} (hk : kc < 73) (he : ∀ cI cD, cellE cI cD α σ kc = .inl (cD, 10, .inr (.inr (.inr (.inr (fun i => some (α (f i)))))))) (hin : vp_in i 10) (d : decode cc pc = .ok (.aaload, 1)) (k : V G α nL κ (pc + 1) ls (.ref (α (f i.toNatClampNeg)) :: stk) σ x) : V G α nL κ pc ls (.int i :: .ref (α kc) :: stk) σ x := by
  obtain ⟨p, l, e, R, s, m, args, below, meth, c, D, cI, cD, A, cs, sl, Qr⟩ := G
  obtain ⟨hx, hb, hml, hown, hts, hK, hinj, hnw, hAk, hAz, hR, hcs⟩ := hO
  intro r hr H locs la hP hS hl
  exact va_aldq (C := RX0) (f := fun i => some (α (f i))) hx hb hK hP kc 1 (by rw [cells_at hk, he]) rfl hin d (k r hr H locs la hP hS hl)
theorem V_alen {X : Type} {G : Gm} {α : Nat → Nat} {nL : Nat} {κ : X → Option Rs} {pc : Nat} {ls : List (Nat × Value)} {stk : List Value} {σ : Hp} {x : X} {cc : ByteArray} {own : String} {fr lo : Nat} (hO : Ok G α cc nL own fr lo) {kc n : Nat} {v : Int32} (hk : kc < 73) (he : ∀ cI cD, cellE cI cD α σ kc = .inl (cI, n, .inl (σ.1 kc))) (hv : Int32.ofNat n = v) (d : decode cc pc = .ok (.arraylength, 1)) (k : V G α nL κ (pc + 1) ls (.int v :: stk) σ x) : V G α nL κ pc ls (.ref (α kc) :: stk) σ x := by
  obtain ⟨p, l, e, R, s, m, args, below, meth, c, D, cI, cD, A, cs, sl, Qr⟩ := G
  obtain ⟨hx, hb, hml, hown, hts, hK, hinj, hnw, hAk, hAz, hR, hcs⟩ := hO
  intro r hr H locs la hP hS hl
  exact va_alen hx hb hK hP kc 0 (by rw [cells_at hk, he]) rfl hv d (k r hr H locs la hP hS hl)
theorem ce_debt {cI cD : ClassId} {α : Nat → Nat} {σ : Hp} {c : Nat} (h : c < 30) : cellE cI cD α σ c = .inr (0, [.int (σ.1 c 0), .int (σ.1 c 1), .int (σ.1 c 2), .int (σ.1 c 3), .int (σ.1 c 4), .int (σ.1 c 5), .int (σ.1 c 6), .int (σ.1 c 7)]) := by
  unfold cellE; rw [if_pos h]
theorem ce_town {cI cD : ClassId} {α : Nat → Nat} {σ : Hp} {t : Nat} (h : t < 3) : cellE cI cD α σ (30 + t) = .inr (5, [.int (σ.1 (30 + t) 0), .int (σ.1 (30 + t) 1), .int (σ.1 (30 + t) 2), .int (σ.1 (30 + t) 3), .int (σ.1 (30 + t) 4), .ref (α (33 + t)), .ref (α (36 + t))]) := by
  unfold cellE; rw [if_neg (by omega), if_pos (by omega), show 30 + t + 3 = 33 + t by omega, show 30 + t + 6 = 36 + t by omega]
theorem ce_ice {cI cD : ClassId} {α : Nat → Nat} {σ : Hp} {t : Nat} (h : t < 3) : cellE cI cD α σ (33 + t) = .inl (cI, 16, .inl (σ.1 (33 + t))) := by
  unfold cellE; rw [if_neg (by omega), if_neg (by omega), if_pos (by omega)]
theorem ce_da {cI cD : ClassId} {α : Nat → Nat} {σ : Hp} {t : Nat} (h : t < 3) : cellE cI cD α σ (36 + t) = .inl (cD, 10, .inr (.inr (.inr (.inr (fun i => some (α (10 * t + i))))))) := by
  unfold cellE; rw [if_neg (by omega), if_neg (by omega), if_neg (by omega), if_pos (by omega), show 36 + t - 36 = t by omega]
theorem cd_lt {t : Nat} {i : Int32} (ht : t < 3) (hi : vp_in i 10) : 10 * t + i.toNatClampNeg < 30 := by
  have : i.toNatClampNeg < 10 := Nat.not_le.mp fun q => hi (Or.inr q)
  omega
theorem pe_debt0 {cI cD : ClassId} {α : Nat → Nat} {σ : Hp} {c : Nat} {v : Int32} (h : c < 30) : cellE cI cD α (up σ c 0 v) c = .inr (0, List.set [.int (σ.1 c 0), .int (σ.1 c 1), .int (σ.1 c 2), .int (σ.1 c 3), .int (σ.1 c 4), .int (σ.1 c 5), .int (σ.1 c 6), .int (σ.1 c 7)] 0 (.int v)) := by
  rw [ce_debt h]; simp [up]
theorem pe_debt1 {cI cD : ClassId} {α : Nat → Nat} {σ : Hp} {c : Nat} {v : Int32} (h : c < 30) : cellE cI cD α (up σ c 1 v) c = .inr (0, List.set [.int (σ.1 c 0), .int (σ.1 c 1), .int (σ.1 c 2), .int (σ.1 c 3), .int (σ.1 c 4), .int (σ.1 c 5), .int (σ.1 c 6), .int (σ.1 c 7)] 1 (.int v)) := by
  rw [ce_debt h]; simp [up]
theorem pe_debt2 {cI cD : ClassId} {α : Nat → Nat} {σ : Hp} {c : Nat} {v : Int32} (h : c < 30) : cellE cI cD α (up σ c 2 v) c = .inr (0, List.set [.int (σ.1 c 0), .int (σ.1 c 1), .int (σ.1 c 2), .int (σ.1 c 3), .int (σ.1 c 4), .int (σ.1 c 5), .int (σ.1 c 6), .int (σ.1 c 7)] 2 (.int v)) := by
  rw [ce_debt h]; simp [up]
theorem pe_debt3 {cI cD : ClassId} {α : Nat → Nat} {σ : Hp} {c : Nat} {v : Int32} (h : c < 30) : cellE cI cD α (up σ c 3 v) c = .inr (0, List.set [.int (σ.1 c 0), .int (σ.1 c 1), .int (σ.1 c 2), .int (σ.1 c 3), .int (σ.1 c 4), .int (σ.1 c 5), .int (σ.1 c 6), .int (σ.1 c 7)] 3 (.int v)) := by
  rw [ce_debt h]; simp [up]
theorem pe_debt4 {cI cD : ClassId} {α : Nat → Nat} {σ : Hp} {c : Nat} {v : Int32} (h : c < 30) : cellE cI cD α (up σ c 4 v) c = .inr (0, List.set [.int (σ.1 c 0), .int (σ.1 c 1), .int (σ.1 c 2), .int (σ.1 c 3), .int (σ.1 c 4), .int (σ.1 c 5), .int (σ.1 c 6), .int (σ.1 c 7)] 4 (.int v)) := by
  rw [ce_debt h]; simp [up]
theorem pe_debt5 {cI cD : ClassId} {α : Nat → Nat} {σ : Hp} {c : Nat} {v : Int32} (h : c < 30) : cellE cI cD α (up σ c 5 v) c = .inr (0, List.set [.int (σ.1 c 0), .int (σ.1 c 1), .int (σ.1 c 2), .int (σ.1 c 3), .int (σ.1 c 4), .int (σ.1 c 5), .int (σ.1 c 6), .int (σ.1 c 7)] 5 (.int v)) := by
  rw [ce_debt h]; simp [up]
theorem pe_debt6 {cI cD : ClassId} {α : Nat → Nat} {σ : Hp} {c : Nat} {v : Int32} (h : c < 30) : cellE cI cD α (up σ c 6 v) c = .inr (0, List.set [.int (σ.1 c 0), .int (σ.1 c 1), .int (σ.1 c 2), .int (σ.1 c 3), .int (σ.1 c 4), .int (σ.1 c 5), .int (σ.1 c 6), .int (σ.1 c 7)] 6 (.int v)) := by
  rw [ce_debt h]; simp [up]
theorem pe_debt7 {cI cD : ClassId} {α : Nat → Nat} {σ : Hp} {c : Nat} {v : Int32} (h : c < 30) : cellE cI cD α (up σ c 7 v) c = .inr (0, List.set [.int (σ.1 c 0), .int (σ.1 c 1), .int (σ.1 c 2), .int (σ.1 c 3), .int (σ.1 c 4), .int (σ.1 c 5), .int (σ.1 c 6), .int (σ.1 c 7)] 7 (.int v)) := by
  rw [ce_debt h]; simp [up]
theorem pe_town0 {cI cD : ClassId} {α : Nat → Nat} {σ : Hp} {t : Nat} {v : Int32} (h : t < 3) : cellE cI cD α (up σ (30 + t) 0 v) (30 + t) = .inr (5, List.set [.int (σ.1 (30 + t) 0), .int (σ.1 (30 + t) 1), .int (σ.1 (30 + t) 2), .int (σ.1 (30 + t) 3), .int (σ.1 (30 + t) 4), .ref (α (33 + t)), .ref (α (36 + t))] 0 (.int v)) := by
  rw [ce_town h]; simp [up]
theorem pe_town1 {cI cD : ClassId} {α : Nat → Nat} {σ : Hp} {t : Nat} {v : Int32} (h : t < 3) : cellE cI cD α (up σ (30 + t) 1 v) (30 + t) = .inr (5, List.set [.int (σ.1 (30 + t) 0), .int (σ.1 (30 + t) 1), .int (σ.1 (30 + t) 2), .int (σ.1 (30 + t) 3), .int (σ.1 (30 + t) 4), .ref (α (33 + t)), .ref (α (36 + t))] 1 (.int v)) := by
  rw [ce_town h]; simp [up]
theorem pe_town2 {cI cD : ClassId} {α : Nat → Nat} {σ : Hp} {t : Nat} {v : Int32} (h : t < 3) : cellE cI cD α (up σ (30 + t) 2 v) (30 + t) = .inr (5, List.set [.int (σ.1 (30 + t) 0), .int (σ.1 (30 + t) 1), .int (σ.1 (30 + t) 2), .int (σ.1 (30 + t) 3), .int (σ.1 (30 + t) 4), .ref (α (33 + t)), .ref (α (36 + t))] 2 (.int v)) := by
  rw [ce_town h]; simp [up]
theorem pe_town3 {cI cD : ClassId} {α : Nat → Nat} {σ : Hp} {t : Nat} {v : Int32} (h : t < 3) : cellE cI cD α (up σ (30 + t) 3 v) (30 + t) = .inr (5, List.set [.int (σ.1 (30 + t) 0), .int (σ.1 (30 + t) 1), .int (σ.1 (30 + t) 2), .int (σ.1 (30 + t) 3), .int (σ.1 (30 + t) 4), .ref (α (33 + t)), .ref (α (36 + t))] 3 (.int v)) := by
  rw [ce_town h]; simp [up]
theorem pe_town4 {cI cD : ClassId} {α : Nat → Nat} {σ : Hp} {t : Nat} {v : Int32} (h : t < 3) : cellE cI cD α (up σ (30 + t) 4 v) (30 + t) = .inr (5, List.set [.int (σ.1 (30 + t) 0), .int (σ.1 (30 + t) 1), .int (σ.1 (30 + t) 2), .int (σ.1 (30 + t) 3), .int (σ.1 (30 + t) 4), .ref (α (33 + t)), .ref (α (36 + t))] 4 (.int v)) := by
  rw [ce_town h]; simp [up]
theorem V_iret {X : Type} {G : Gm} {α : Nat → Nat} {nL : Nat} {κ : X → Option Rs} {pc : Nat} {ls : List (Nat × Value)} {stk : List Value} {σ : Hp} {x : X} {cc : ByteArray} {own : String} {fr lo : Nat} (hO : Ok G α cc nL own fr lo) {v : Int32} (hr9 : Rt G α (some .int)) (hx9 : κ x = some (some (.int v), σ)) (d : decode cc pc = .ok (.ireturn, 1)) : V G α nL κ pc ls [.int v] σ x := by
  obtain ⟨p, l, e, R, s, m, args, below, meth, c, D, cI, cD, A, cs, sl, Qr⟩ := G
  obtain ⟨hx, hb, hml, hown, hts, hK, hinj, hnw, hAk, hAz, hR, hcs⟩ := hO
  obtain ⟨q1, q2, q3, q4, q5⟩ := hr9
  intro r hr H locs la hP hS hl
  obtain rfl := Option.some.inj (hx9.symm.trans hr)
  subst q3; subst q4; subst q5
  exact W.iret hx hb q1 (fun t ht hW => ⟨rfl, by rw [ht]; exact hP, hS.F ht⟩) hS.2.2 d q2
theorem V_zret {X : Type} {G : Gm} {α : Nat → Nat} {nL : Nat} {κ : X → Option Rs} {pc : Nat} {ls : List (Nat × Value)} {stk : List Value} {σ : Hp} {x : X} {cc : ByteArray} {own : String} {fr lo : Nat} (hO : Ok G α cc nL own fr lo) {v : Int32} (hr9 : Rt G α (some .boolean)) (hv : v = 0 ∨ v = 1) (hx9 : κ x = some (some (.int v), σ)) (d : decode cc pc = .ok (.ireturn, 1)) : V G α nL κ pc ls [.int v] σ x := by
  obtain ⟨p, l, e, R, s, m, args, below, meth, c, D, cI, cD, A, cs, sl, Qr⟩ := G
  obtain ⟨hx, hb, hml, hown, hts, hK, hinj, hnw, hAk, hAz, hR, hcs⟩ := hO
  obtain ⟨q1, q2, q3, q4, q5⟩ := hr9
  intro r hr H locs la hP hS hl
  obtain rfl := Option.some.inj (hx9.symm.trans hr)
  subst q3; subst q4; subst q5
  exact W.zret hx hb q1 (by rcases hv with rfl | rfl <;> rfl) (fun t ht hW => ⟨rfl, by rw [ht]; exact hP, hS.F ht⟩) hS.2.2 d q2
theorem V_lret {X : Type} {G : Gm} {α : Nat → Nat} {nL : Nat} {κ : X → Option Rs} {pc : Nat} {ls : List (Nat × Value)} {stk : List Value} {σ : Hp} {x : X} {cc : ByteArray} {own : String} {fr lo : Nat} (hO : Ok G α cc nL own fr lo) {v : Int64} (hr9 : Rt G α (some .long)) (hx9 : κ x = some (some (.long v), σ)) (d : decode cc pc = .ok (.lreturn, 1)) : V G α nL κ pc ls [.long v] σ x := by
  obtain ⟨p, l, e, R, s, m, args, below, meth, c, D, cI, cD, A, cs, sl, Qr⟩ := G
  obtain ⟨hx, hb, hml, hown, hts, hK, hinj, hnw, hAk, hAz, hR, hcs⟩ := hO
  obtain ⟨q1, q2, q3, q4, q5⟩ := hr9
  intro r hr H locs la hP hS hl
  obtain rfl := Option.some.inj (hx9.symm.trans hr)
  subst q3; subst q4; subst q5
  exact W.lret hx hb q1 (fun t ht hW => ⟨rfl, by rw [ht]; exact hP, hS.F ht⟩) hS.2.2 d q2
theorem V_vret {X : Type} {G : Gm} {α : Nat → Nat} {nL : Nat} {κ : X → Option Rs} {pc : Nat} {ls : List (Nat × Value)} {stk : List Value} {σ : Hp} {x : X} {cc : ByteArray} {own : String} {fr lo : Nat} (hO : Ok G α cc nL own fr lo) (hr9 : Rt G α none) (hx9 : κ x = some (none, σ)) (d : decode cc pc = .ok (.return_, 1)) : V G α nL κ pc ls [] σ x := by
  obtain ⟨p, l, e, R, s, m, args, below, meth, c, D, cI, cD, A, cs, sl, Qr⟩ := G
  obtain ⟨hx, hb, hml, hown, hts, hK, hinj, hnw, hAk, hAz, hR, hcs⟩ := hO
  obtain ⟨q1, q2, q3, q4, q5⟩ := hr9
  intro r hr H locs la hP hS hl
  obtain rfl := Option.some.inj (hx9.symm.trans hr)
  subst q3; subst q4; subst q5
  exact W.vret hx hb q1 (fun t ht hW => ⟨rfl, by rw [ht]; exact hP, hS.F ht⟩) hS.2.2 d q2
end
section
def kI (σ : Hp) (x : Int32) : Option Rs := some (some (.int x), σ)
def kZ (σ : Hp) (x : Bool) : Option Rs := some (some (.int (b2i x)), σ)
def kJ (σ : Hp) (x : Int64) : Option Rs := some (some (.long x), σ)
def kOI (σ : Hp) (x : Option Int32) : Option Rs := x.map fun v => (some (.int v), σ)
def kOZ (σ : Hp) (x : Option Bool) : Option Rs := x.map fun v => (some (.int (b2i v)), σ)
def kOJ (σ : Hp) (x : Option Int64) : Option Rs := x.map fun v => (some (.long v), σ)
def kTI (x : Int32 × Hp) : Option Rs := some (some (.int x.1), x.2)
def kTZ (x : Bool × Hp) : Option Rs := some (some (.int (b2i x.1)), x.2)
def kTJ (x : Int64 × Hp) : Option Rs := some (some (.long x.1), x.2)
def kTV (x : Hp) : Option Rs := some (none, x)
def kSI (x : Option (Int32 × Hp)) : Option Rs := x.map fun q => (some (.int q.1), q.2)
def kSZ (x : Option (Bool × Hp)) : Option Rs := x.map fun q => (some (.int (b2i q.1)), q.2)
def kSJ (x : Option (Int64 × Hp)) : Option Rs := x.map fun q => (some (.long q.1), q.2)
def kSV (x : Option Hp) : Option Rs := x.map fun q => (none, q)
def lt {A B : Type} (a : A) (f : A → B) : B := f a
/-- behind a call that answers as ex says -/
def Kc {X : Type} (G : Gm) (α : Nat → Nat) (nL : Nat) (κ : X → Option Rs) (pc : Nat) (ls : List (Nat × Value)) (rest : List Value) (ex : Option Rs) (x : X) : Prop :=
  (ex = none → κ x = none) ∧ ∀ q, ex = some q → V G α nL κ pc ls (q.1.toList ++ rest) q.2 x
theorem kc_I {X : Type} {G : Gm} {α : Nat → Nat} {nL : Nat} {κ : X → Option Rs} {pc : Nat} {ls : List (Nat × Value)} {rest : List Value} {σ : Hp} {x : X} {v : Int32} (k : V G α nL κ pc ls (.int v :: rest) σ x) : Kc G α nL κ pc ls rest (kI σ v) x :=
  ⟨fun h => (by cases h), fun q h => (by cases h; exact k)⟩
theorem kc_OI {Y : Type} {G : Gm} {α : Nat → Nat} {nL : Nat} {κ : Option Y → Option Rs} {pc : Nat} {ls : List (Nat × Value)} {rest : List Value} {σ : Hp} {K : Int32 → Option Y} {fx : Option Int32} (hz : κ none = none) (k : ∀ v, V G α nL κ pc ls (.int v :: rest) σ (K v)) : Kc G α nL κ pc ls rest (kOI σ fx) (fx.bind K) := by
  cases fx with
  | none => exact ⟨fun _ => hz, fun q h => (by cases h)⟩
  | some v => exact ⟨fun h => (by cases h), fun q h => (by cases h; exact k v)⟩
theorem kc_TI {X : Type} {G : Gm} {α : Nat → Nat} {nL : Nat} {κ : X → Option Rs} {pc : Nat} {ls : List (Nat × Value)} {rest : List Value} {K : Int32 × Hp → X} {fx : Int32 × Hp} (k : ∀ q, V G α nL κ pc ls (.int q.1 :: rest) q.2 (K q)) : Kc G α nL κ pc ls rest (kTI fx) (lt fx K) :=
  ⟨fun h => (by cases h), fun q h => (by cases h; exact k fx)⟩
theorem kc_SI {Y : Type} {G : Gm} {α : Nat → Nat} {nL : Nat} {κ : Option Y → Option Rs} {pc : Nat} {ls : List (Nat × Value)} {rest : List Value} {K : Int32 × Hp → Option Y} {fx : Option (Int32 × Hp)} (hz : κ none = none) (k : ∀ q, V G α nL κ pc ls (.int q.1 :: rest) q.2 (K q)) : Kc G α nL κ pc ls rest (kSI fx) (fx.bind K) := by
  cases fx with
  | none => exact ⟨fun _ => hz, fun q h => (by cases h)⟩
  | some v => exact ⟨fun h => (by cases h), fun q h => (by cases h; exact k v)⟩
theorem kc_Z {X : Type} {G : Gm} {α : Nat → Nat} {nL : Nat} {κ : X → Option Rs} {pc : Nat} {ls : List (Nat × Value)} {rest : List Value} {σ : Hp} {x : X} {v : Bool} (k : V G α nL κ pc ls (.int (b2i v) :: rest) σ x) : Kc G α nL κ pc ls rest (kZ σ v) x :=
  ⟨fun h => (by cases h), fun q h => (by cases h; exact k)⟩
theorem kc_OZ {Y : Type} {G : Gm} {α : Nat → Nat} {nL : Nat} {κ : Option Y → Option Rs} {pc : Nat} {ls : List (Nat × Value)} {rest : List Value} {σ : Hp} {K : Bool → Option Y} {fx : Option Bool} (hz : κ none = none) (k : ∀ v, V G α nL κ pc ls (.int (b2i v) :: rest) σ (K v)) : Kc G α nL κ pc ls rest (kOZ σ fx) (fx.bind K) := by
  cases fx with
  | none => exact ⟨fun _ => hz, fun q h => (by cases h)⟩
  | some v => exact ⟨fun h => (by cases h), fun q h => (by cases h; exact k v)⟩
theorem kc_TZ {X : Type} {G : Gm} {α : Nat → Nat} {nL : Nat} {κ : X → Option Rs} {pc : Nat} {ls : List (Nat × Value)} {rest : List Value} {K : Bool × Hp → X} {fx : Bool × Hp} (k : ∀ q, V G α nL κ pc ls (.int (b2i q.1) :: rest) q.2 (K q)) : Kc G α nL κ pc ls rest (kTZ fx) (lt fx K) :=
  ⟨fun h => (by cases h), fun q h => (by cases h; exact k fx)⟩
theorem kc_SZ {Y : Type} {G : Gm} {α : Nat → Nat} {nL : Nat} {κ : Option Y → Option Rs} {pc : Nat} {ls : List (Nat × Value)} {rest : List Value} {K : Bool × Hp → Option Y} {fx : Option (Bool × Hp)} (hz : κ none = none) (k : ∀ q, V G α nL κ pc ls (.int (b2i q.1) :: rest) q.2 (K q)) : Kc G α nL κ pc ls rest (kSZ fx) (fx.bind K) := by
  cases fx with
  | none => exact ⟨fun _ => hz, fun q h => (by cases h)⟩
  | some v => exact ⟨fun h => (by cases h), fun q h => (by cases h; exact k v)⟩
theorem kc_J {X : Type} {G : Gm} {α : Nat → Nat} {nL : Nat} {κ : X → Option Rs} {pc : Nat} {ls : List (Nat × Value)} {rest : List Value} {σ : Hp} {x : X} {v : Int64} (k : V G α nL κ pc ls (.long v :: rest) σ x) : Kc G α nL κ pc ls rest (kJ σ v) x :=
  ⟨fun h => (by cases h), fun q h => (by cases h; exact k)⟩
theorem kc_OJ {Y : Type} {G : Gm} {α : Nat → Nat} {nL : Nat} {κ : Option Y → Option Rs} {pc : Nat} {ls : List (Nat × Value)} {rest : List Value} {σ : Hp} {K : Int64 → Option Y} {fx : Option Int64} (hz : κ none = none) (k : ∀ v, V G α nL κ pc ls (.long v :: rest) σ (K v)) : Kc G α nL κ pc ls rest (kOJ σ fx) (fx.bind K) := by
  cases fx with
  | none => exact ⟨fun _ => hz, fun q h => (by cases h)⟩
  | some v => exact ⟨fun h => (by cases h), fun q h => (by cases h; exact k v)⟩
theorem kc_TJ {X : Type} {G : Gm} {α : Nat → Nat} {nL : Nat} {κ : X → Option Rs} {pc : Nat} {ls : List (Nat × Value)} {rest : List Value} {K : Int64 × Hp → X} {fx : Int64 × Hp} (k : ∀ q, V G α nL κ pc ls (.long q.1 :: rest) q.2 (K q)) : Kc G α nL κ pc ls rest (kTJ fx) (lt fx K) :=
  ⟨fun h => (by cases h), fun q h => (by cases h; exact k fx)⟩
theorem kc_SJ {Y : Type} {G : Gm} {α : Nat → Nat} {nL : Nat} {κ : Option Y → Option Rs} {pc : Nat} {ls : List (Nat × Value)} {rest : List Value} {K : Int64 × Hp → Option Y} {fx : Option (Int64 × Hp)} (hz : κ none = none) (k : ∀ q, V G α nL κ pc ls (.long q.1 :: rest) q.2 (K q)) : Kc G α nL κ pc ls rest (kSJ fx) (fx.bind K) := by
  cases fx with
  | none => exact ⟨fun _ => hz, fun q h => (by cases h)⟩
  | some v => exact ⟨fun h => (by cases h), fun q h => (by cases h; exact k v)⟩
theorem kc_TV {X : Type} {G : Gm} {α : Nat → Nat} {nL : Nat} {κ : X → Option Rs} {pc : Nat} {ls : List (Nat × Value)} {rest : List Value} {K : Hp → X} {fx : Hp} (k : ∀ q, V G α nL κ pc ls rest q (K q)) : Kc G α nL κ pc ls rest (kTV fx) (lt fx K) :=
  ⟨fun h => (by cases h), fun q h => (by cases h; exact k fx)⟩
theorem kc_SV {Y : Type} {G : Gm} {α : Nat → Nat} {nL : Nat} {κ : Option Y → Option Rs} {pc : Nat} {ls : List (Nat × Value)} {rest : List Value} {K : Hp → Option Y} {fx : Option Hp} (hz : κ none = none) (k : ∀ q, V G α nL κ pc ls rest q (K q)) : Kc G α nL κ pc ls rest (kSV fx) (fx.bind K) := by
  cases fx with
  | none => exact ⟨fun _ => hz, fun q h => (by cases h)⟩
  | some v => exact ⟨fun h => (by cases h), fun q h => (by cases h; exact k v)⟩
def MLd (y : MethodName) (n : Nat) : Prop := y.cls ≠ "java/lang/invoke/MethodHandle" ∧ y.cls ≠ "java/lang/invoke/VarHandle" ∧ (parseMethodDescriptor y.desc).map (fun d => d.parameters.length) = some n
def MLv (own : String) (idx : Nat) (y : MethodName) (b : ByteArray) (mL : Nat) (ret : Option FieldType) (n : Nat) : Prop := Cond.methodLink own idx y ∈ gw ∧ Cond.instanceMethod y ∈ gw ∧ Cond.selects y.cls y y ∈ gw ∧ Cond.initialized y.cls ∈ gw ∧ Cond.code y b mL ret ∈ gw ∧ MLd y n
def MLs (own : String) (idx : Nat) (y : MethodName) (b : ByteArray) (mL : Nat) (ret : Option FieldType) (n : Nat) : Prop := Cond.methodLink own idx y ∈ gw ∧ Cond.static y ∈ gw ∧ Cond.initialized y.cls ∈ gw ∧ Cond.code y b mL ret ∈ gw ∧ MLd y n
def MLn (own : String) (idx : Nat) (y : MethodName) (host : String) (b : ByteArray) (mL : Nat) (ret : Option FieldType) (n : Nat) : Prop := (∀ s : State, Nwz s → va_Nw (.methodLinkNest own idx y host) s) ∧ Cond.static y ∈ gw ∧ Cond.initialized y.cls ∈ gw ∧ Cond.code y b mL ret ∈ gw ∧ MLd y n
theorem wsU_pay {y : MethodName} {b : ByteArray} {n : Nat} {ret : Option FieldType} {args : Array Value} {s : State} (hts : ∀ w ∈ gw, w.before args s = true) (hc : Cond.code y b n ret ∈ gw) : ∀ w ∈ wsU y b n ret, ∀ (a' : Array Value) (U : State), s.WarmedH U.vm → w.before a' U = true := by
  intro w hw a' U hW
  have h1 : w ∈ gw := by
    rcases List.mem_cons.mp hw with h | h
    · rw [h]; exact hc
    · exact h
  exact word_at hW (gw_good h1) (hts w h1)
theorem Wd_blind {D : va_G} {cI cD : ClassId} {α : Nat → Nat} {σ : Hp} {sz : Nat} {as : List Value} : FrameBlind (va_Pc as (Wd D cI cD α σ sz)) :=
  fun a U g mk q => ⟨q.1, q.2.1, q.2.2.1, va_K.moved (u := U) (U := U.calling g mk a) (Vm.Alike.refl U.vm) q.2.2.2.1, q.2.2.2.2.1, Nwz.same (u := U) (U := U.calling g mk a) rfl q.2.2.2.2.2⟩
section CW
variable {p : Program} {l : Launch} {e : Env} {R : Room} {s : State} {m : MethodId} {args : Array Value} {below : List Frame} {meth : Method} {c : Code} {H : Heap} {locs : List Loc} {cells9 slots : Nat} {Q : State → Prop}
theorem va_callw {pc : Nat} {ls : Array Slot} {rest st0 : List Value} {a : Array Value} {A0 A1 : Nat → Prop} {H0 : Heap} {D : va_G} {cI cD : ClassId} {α : Nat → Nat} {r : Rs} (hr : va_Run p l e R s m args below meth c H locs cells9 slots 0 0 (F0 m pc ls st0) rest (Qw D cI cD α A1 r a) A1) (hS : va_S A0 H0 H locs) (hA : ∀ q, A1 q → A0 q)
    (kk : ∀ (H1 : Heap) (locs1 : List Loc), va_P D clz (cells cI cD α r.2) H1 → va_S A0 H0 H1 locs1 → W p l e R s m args below meth c H1 locs1 cells9 slots Q (F0 m (pc + 3) ls (r.1.toList ++ rest))) : W p l e R s m args below meth c H locs cells9 slots Q (F0 m pc ls st0) := by
  intro T hT X
  obtain ⟨v, st₀, t, T', L, h0, X', hL, e1, e2, ⟨hv, hp, hz, hk⟩, st⟩ := hr T hT X
  obtain rfl : v = r.1 := by injection hv
  rw [h0] at hz hk
  obtain ⟨t2, a1, b1⟩ := kk T'.heap (locs ++ L) (by rw [e1]; exact hp)
    ⟨Nat.le_trans hS.1 (by rw [e1]; exact hz), fun q h1 h2 => by rw [e1, hk q (Nat.lt_of_lt_of_le h1 hS.1) (fun z => h2 (hA q z))]; exact hS.2.1 q h1 h2, fun q hq => by
      rcases List.mem_append.mp hq with h | h
      · exact hS.2.2 q h
      · exact hA _ (hL q h)⟩ T' rfl X'
  exact ⟨t2, st t2 a1, b1⟩
end CW
theorem V_callV {X : Type} {G : Gm} {α : Nat → Nat} {nL : Nat} {κ : X → Option Rs} {pc : Nat} {ls : List (Nat × Value)} {stk : List Value} {σ : Hp} {x : X} {cc : ByteArray} {own : String} {fr lo : Nat} (hO : Ok G α cc nL own fr lo) {idx : Nat} {y : MethodName} {b : ByteArray} {mL : Nat} {ret : Option FieldType} {n fr2 lo2 : Nat} {as rest : List Value} {ex : Option Rs} {kc ci : Nat} {fs : List Value} {qc : vw_C} (hL : MLv own idx y b mL ret n) (hC : Ct y b mL ret fr2 lo2 α (.ref (α kc) :: as) σ ex) (hk : kc < 73) (he : ∀ cI cD, cellE cI cD α σ kc = .inr (ci, fs)) (hc : clz[ci]? = some qc) (hq : qc.1 = y.cls) (hst : stk = as.reverse ++ .ref (α kc) :: rest) (hn : as.length = n) (hW : (rest.map fun v => v.category).sum ≤ 8) (hR : fr2 + 1 ≤ fr ∧ 8 + (mL + 11) + lo2 ≤ lo) (d : decode cc pc = .ok (.invokevirtual idx, 3)) (kk : Kc G α nL κ (pc + 3) ls rest ex x) : V G α nL κ pc ls stk σ x := by
  obtain ⟨p, l, e, R, s, m, args, below, meth, c, D, cI, cD, A, cs, sl, Qr⟩ := G
  obtain ⟨hx, hb, hml, hown, hts, hK, hinj, hnw, hAk, hAz, ⟨hR1, hR2⟩, hcs⟩ := hO
  obtain ⟨a1, a2, a3, a4, a5, a6, a7, a8⟩ := hL
  intro r hr H locs la hP hS hl
  cases hex : ex with
  | none =>
    rw [kk.1 hex] at hr
    cases hr
  | some q =>
    have hM := hC l D cI cD q hex H.size
    refine va_callw (A1 := AA α H.size) (r := q) (va_runV (As := as) (rest := rest) (C := y.cls) (bytes := b) (maxL := mL) (ret := ret) ⟨hx, hb, hml, hown, hts⟩ hM ⟨⟨rfl, rfl, by rw [hR1]; exact hR.1, by rw [hR2]; exact hR.2, wsU_pay hts a5, List.mem_cons_self, hts _ a5, hts _ a4, ⟨a6, a7⟩, fun sig h => by rw [h] at a8; exact (Option.some.inj a8).symm, hts _ a1⟩, hts _ a2, hts _ a3⟩ ⟨Wd_blind, by rw [← hq]; exact va_recv hK hP hc (by rw [cells_at hk, he]), fun U hU hW2 => ⟨rfl, by rw [hU], by rw [hU]; exact hP, va_K.moved hW2.alike hK, hinj, hnw.warm hW2⟩⟩ rfl hn (hl.1) hst (lv_room hW) d ⟨hcs.1, hcs.2⟩) hS (fun q hq => ?_) (fun H1 locs1 hP1 hS1 => kk.2 q hex r hr H1 locs1 la hP1 hS1 hl)
    rcases hq with ⟨k, hk9, rfl⟩ | h
    · exact hAk k hk9
    · exact hAz q (Nat.le_trans hS.1 h)
theorem V_callS {X : Type} {G : Gm} {α : Nat → Nat} {nL : Nat} {κ : X → Option Rs} {pc : Nat} {ls : List (Nat × Value)} {stk : List Value} {σ : Hp} {x : X} {cc : ByteArray} {own : String} {fr lo : Nat} (hO : Ok G α cc nL own fr lo) {idx : Nat} {y : MethodName} {b : ByteArray} {mL : Nat} {ret : Option FieldType} {n fr2 lo2 : Nat} {as rest : List Value} {ex : Option Rs} (hL : MLs own idx y b mL ret n) (hC : Ct y b mL ret fr2 lo2 α as σ ex) (hst : stk = as.reverse ++ rest) (hn : as.length = n) (hW : (rest.map fun v => v.category).sum ≤ 8) (hR : fr2 + 1 ≤ fr ∧ 8 + (mL + 11) + lo2 ≤ lo) (d : decode cc pc = .ok (.invokestatic idx, 3)) (kk : Kc G α nL κ (pc + 3) ls rest ex x) : V G α nL κ pc ls stk σ x := by
  obtain ⟨p, l, e, R, s, m, args, below, meth, c, D, cI, cD, A, cs, sl, Qr⟩ := G
  obtain ⟨hx, hb, hml, hown, hts, hK, hinj, hnw, hAk, hAz, ⟨hR1, hR2⟩, hcs⟩ := hO
  obtain ⟨a1, a2, a4, a5, a6, a7, a8⟩ := hL
  intro r hr H locs la hP hS hl
  cases hex : ex with
  | none =>
    rw [kk.1 hex] at hr
    cases hr
  | some q =>
    have hM := hC l D cI cD q hex H.size
    refine va_callw (A1 := AA α H.size) (r := q) (va_runS (As := as) (rest := rest) (bytes := b) (maxL := mL) (ret := ret) ⟨hx, hb, hml, hown, hts⟩ hM ⟨⟨rfl, rfl, by rw [hR1]; exact hR.1, by rw [hR2]; exact hR.2, wsU_pay hts a5, List.mem_cons_self, hts _ a5, hts _ a4, ⟨a6, a7⟩, fun sig h => by rw [h] at a8; exact (Option.some.inj a8).symm, hts _ a1⟩, hts _ a2⟩ ⟨Wd_blind, fun U hU hW2 => ⟨rfl, by rw [hU], by rw [hU]; exact hP, va_K.moved hW2.alike hK, hinj, hnw.warm hW2⟩⟩ rfl hn (hl.1) hst (lv_room hW) d ⟨hcs.1, hcs.2⟩) hS (fun q hq => ?_) (fun H1 locs1 hP1 hS1 => kk.2 q hex r hr H1 locs1 la hP1 hS1 hl)
    rcases hq with ⟨k, hk9, rfl⟩ | h
    · exact hAk k hk9
    · exact hAz q (Nat.le_trans hS.1 h)
theorem V_callN {X : Type} {G : Gm} {α : Nat → Nat} {nL : Nat} {κ : X → Option Rs} {pc : Nat} {ls : List (Nat × Value)} {stk : List Value} {σ : Hp} {x : X} {cc : ByteArray} {own : String} {fr lo : Nat} (hO : Ok G α cc nL own fr lo) {idx : Nat} {y : MethodName} {b : ByteArray} {mL : Nat} {ret : Option FieldType} {n fr2 lo2 : Nat} {as rest : List Value} {ex : Option Rs} {host : String} (hL : MLn own idx y host b mL ret n) (hC : Ct y b mL ret fr2 lo2 α as σ ex) (hst : stk = as.reverse ++ rest) (hn : as.length = n) (hW : (rest.map fun v => v.category).sum ≤ 8) (hR : fr2 + 1 ≤ fr ∧ 8 + (mL + 11) + lo2 ≤ lo) (d : decode cc pc = .ok (.invokestatic idx, 3)) (kk : Kc G α nL κ (pc + 3) ls rest ex x) : V G α nL κ pc ls stk σ x := by
  obtain ⟨p, l, e, R, s, m, args, below, meth, c, D, cI, cD, A, cs, sl, Qr⟩ := G
  obtain ⟨hx, hb, hml, hown, hts, hK, hinj, hnw, hAk, hAz, ⟨hR1, hR2⟩, hcs⟩ := hO
  obtain ⟨a1, a2, a4, a5, a6, a7, a8⟩ := hL
  intro r hr H locs la hP hS hl
  cases hex : ex with
  | none =>
    rw [kk.1 hex] at hr
    cases hr
  | some q =>
    have hM := hC l D cI cD q hex H.size
    refine va_callw (A1 := AA α H.size) (r := q) (va_runSN (As := as) (rest := rest) (bytes := b) (maxL := mL) (ret := ret) ⟨hx, hb, hml, hown, hts⟩ hM ⟨⟨⟨rfl, rfl, by rw [hR1]; exact hR.1, by rw [hR2]; exact hR.2, wsU_pay hts a5, List.mem_cons_self⟩, hts _ a5, hts _ a4, ⟨a6, a7⟩, fun sig h => by rw [h] at a8; exact (Option.some.inj a8).symm, va_Nw.use rfl (a1 s hnw)⟩, hts _ a2, trivial⟩ ⟨Wd_blind, fun U hU hW2 => ⟨rfl, by rw [hU], by rw [hU]; exact hP, va_K.moved hW2.alike hK, hinj, hnw.warm hW2⟩⟩ rfl hn (hl.1) hst (lv_room hW) d ⟨hcs.1, hcs.2⟩) hS (fun q hq => ?_) (fun H1 locs1 hP1 hS1 => kk.2 q hex r hr H1 locs1 la hP1 hS1 hl)
    rcases hq with ⟨k, hk9, rfl⟩ | h
    · exact hAk k hk9
    · exact hAz q (Nat.le_trans hS.1 h)
theorem mw_i : Cond.initialized "java/lang/Math" ∈ gw := gd 49 (by decide +kernel) (by decide +kernel)
theorem mw_maxs : Cond.static Lib.Math.max.name ∈ gw := gd 419 (by decide +kernel) (by decide +kernel)
theorem mw_mins : Cond.static Lib.Math.min.name ∈ gw := gd 412 (by decide +kernel) (by decide +kernel)
theorem mw_maxc : Cond.code Lib.Math.max.name Lib.Math.max.code 2 (some .int) ∈ gw := gd 420 rfl rfl
theorem mw_minc : Cond.code Lib.Math.min.name Lib.Math.min.code 2 (some .int) ∈ gw := gd 413 rfl rfl
theorem V_mmax {X : Type} {G : Gm} {α : Nat → Nat} {nL : Nat} {κ : X → Option Rs} {pc : Nat} {ls : List (Nat × Value)} {stk : List Value} {σ : Hp} {x : X} {cc : ByteArray} {own : String} {fr lo : Nat} (hO : Ok G α cc nL own fr lo) {idx : Nat} {a b : Int32} (h1 : Cond.methodLink own idx Lib.Math.max.name ∈ gw) (hW : (stk.map fun v => v.category).sum ≤ 8) (hR : 1 ≤ fr ∧ 21 ≤ lo) (d : decode cc pc = .ok (.invokestatic idx, 3)) (k : V G α nL κ (pc + 3) ls (.int (imax a b) :: stk) σ x) : V G α nL κ pc ls (.int b :: .int a :: stk) σ x := by
  obtain ⟨p, l, e, R, s, m, args, below, meth, c, D, cI, cD, A, cs, sl, Qr⟩ := G
  obtain ⟨hx, hb, hml, hown, hts, hK, hinj, hnw, hAk, hAz, ⟨hR1, hR2⟩, hcs⟩ := hO
  intro r hr H locs la hP hS hl
  exact va_mmax hx hb (hml.trans hl.1.symm) hown (hts _ h1) (hts _ mw_maxs) (hts _ mw_i) (hts _ mw_maxc) (by rw [hR1]; exact hR.1) (by rw [hR2]; omega) hcs.1 hcs.2 d (k r hr H locs la hP hS hl)
theorem V_mmin {X : Type} {G : Gm} {α : Nat → Nat} {nL : Nat} {κ : X → Option Rs} {pc : Nat} {ls : List (Nat × Value)} {stk : List Value} {σ : Hp} {x : X} {cc : ByteArray} {own : String} {fr lo : Nat} (hO : Ok G α cc nL own fr lo) {idx : Nat} {a b : Int32} (h1 : Cond.methodLink own idx Lib.Math.min.name ∈ gw) (hW : (stk.map fun v => v.category).sum ≤ 8) (hR : 1 ≤ fr ∧ 21 ≤ lo) (d : decode cc pc = .ok (.invokestatic idx, 3)) (k : V G α nL κ (pc + 3) ls (.int (imin a b) :: stk) σ x) : V G α nL κ pc ls (.int b :: .int a :: stk) σ x := by
  obtain ⟨p, l, e, R, s, m, args, below, meth, c, D, cI, cD, A, cs, sl, Qr⟩ := G
  obtain ⟨hx, hb, hml, hown, hts, hK, hinj, hnw, hAk, hAz, ⟨hR1, hR2⟩, hcs⟩ := hO
  intro r hr H locs la hP hS hl
  exact va_mmin hx hb (hml.trans hl.1.symm) hown (hts _ h1) (hts _ mw_mins) (hts _ mw_i) (hts _ mw_minc) (by rw [hR1]; exact hR.1) (by rw [hR2]; omega) hcs.1 hcs.2 d (k r hr H locs la hP hS hl)
theorem ct_of_V {X : Type} {y : MethodName} {b : ByteArray} {n : Nat} {ret : Option FieldType} {fr lo : Nat} {α : Nat → Nat} {as : List Value} {σ : Hp} {κ : X → Option Rs} {x : X} {own : String} (hy : y.cls = own) (hplain : plainName y.cls = true) (hlen : (lg_sl as).length ≤ n) (h : ∀ G : Gm, Ok G α b n own fr lo → Rt G α ret → V G α n κ 0 (lv_args 0 as) [] σ x) : Ct y b n ret fr lo α as σ (κ x) := by
  intro l D cI cD r hr sz
  refine Met.ofW (cc := b) (maxL := n) (ret := ret) hplain rfl ?_
  intro p e s m args below meth c s₁ B hml hv
  obtain ⟨rfl, hsz, hP, hK, hinj, hnw⟩ := hv
  subst hsz
  have hts := atoms_spec (ws := wsU y b n ret) B.pre
  have hl := lv_entry as (n := n) hlen
  rw [lg_entry_eq]
  exact h (p, l, e, _, s, m, as.toArray, below, meth, c, D, cI, cD, AA α s.heap.size, 0, 0, fun r => MQ below (Qw D cI cD α (AA α s.heap.size) r) as.toArray s 0 0 (AA α s.heap.size)) ⟨B.exec, B.bytes, hml, hy ▸ findClass_of_methodNamed B.named, fun w hw => hts w (List.mem_cons_of_mem _ hw), hK, hinj, hnw, fun k hk => Or.inl ⟨k, hk, rfl⟩, fun q hq => Or.inr hq, ⟨rfl, rfl⟩, ⟨Nat.zero_le _, Nat.zero_le _⟩⟩ ⟨B.returns, B.notSynchronized, rfl, rfl, rfl⟩ r hr s.heap [] _ hP va_S.rf hl
end
section
theorem zz_last : (1 : Nat) = 1 := rfl
end
