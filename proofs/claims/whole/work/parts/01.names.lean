-- ===== PART A: goes FIRST, ahead of the names: the tables' words, and 'selects' of the private methods out of them =====
/-- a private method of a class that the tables say can be made, by its rows of tables_1 -/
def lw_okq (q : MethodName × Nat) : Prop := (q.1.cls ≠ "java/lang/invoke/MethodHandle" ∧ q.1.cls ≠ "java/lang/invoke/VarHandle") ∧ Cond.instantiable q.1.cls q.2 ∈ tables_1 ∧ Cond.privateMethod q.1 ∈ tables_1 ∧ Cond.instanceMethod q.1 ∈ tables_1
theorem lw_p0 : lw_okq (⟨"PauseLexicons", "keptUnlessError", "(I)I"⟩, 4) := ⟨⟨by decide +kernel, by decide +kernel⟩, List.mem_of_getElem? (i := 13) (by decide +kernel), List.mem_of_getElem? (i := 222) (by decide +kernel), List.mem_of_getElem? (i := 223) (by decide +kernel)⟩
theorem lw_p1 : lw_okq (⟨"PauseLexicons$Room", "dropPauseOfNobody", "(I)V"⟩, 6) := ⟨⟨by decide +kernel, by decide +kernel⟩, List.mem_of_getElem? (i := 21) (by decide +kernel), List.mem_of_getElem? (i := 260) (by decide +kernel), List.mem_of_getElem? (i := 261) (by decide +kernel)⟩
theorem lw_p2 : lw_okq (⟨"PauseLexicons$Room", "beginOfShade", "(I)I"⟩, 6) := ⟨⟨by decide +kernel, by decide +kernel⟩, List.mem_of_getElem? (i := 21) (by decide +kernel), List.mem_of_getElem? (i := 310) (by decide +kernel), List.mem_of_getElem? (i := 311) (by decide +kernel)⟩
theorem lw_p3 : lw_okq (⟨"PauseLexicons$Room", "endPause", "(IIII)V"⟩, 6) := ⟨⟨by decide +kernel, by decide +kernel⟩, List.mem_of_getElem? (i := 21) (by decide +kernel), List.mem_of_getElem? (i := 323) (by decide +kernel), List.mem_of_getElem? (i := 324) (by decide +kernel)⟩
theorem lw_p4 : lw_okq (⟨"PauseLexicons", "obeyOrders", "()I"⟩, 4) := ⟨⟨by decide +kernel, by decide +kernel⟩, List.mem_of_getElem? (i := 13) (by decide +kernel), List.mem_of_getElem? (i := 496) (by decide +kernel), List.mem_of_getElem? (i := 497) (by decide +kernel)⟩
theorem lw_p5 : lw_okq (⟨"PauseLexicons", "obeyOrder", "(II)I"⟩, 4) := ⟨⟨by decide +kernel, by decide +kernel⟩, List.mem_of_getElem? (i := 13) (by decide +kernel), List.mem_of_getElem? (i := 504) (by decide +kernel), List.mem_of_getElem? (i := 505) (by decide +kernel)⟩
theorem lw_p6 : lw_okq (⟨"PauseLexiconsModel", "records", "()V"⟩, 12) := ⟨⟨by decide +kernel, by decide +kernel⟩, List.mem_of_getElem? (i := 541) (by decide +kernel), List.mem_of_getElem? (i := 594) (by decide +kernel), List.mem_of_getElem? (i := 595) (by decide +kernel)⟩
theorem lw_p7 : lw_okq (⟨"PauseLexiconsModel", "refusesGuest", "(II)I"⟩, 12) := ⟨⟨by decide +kernel, by decide +kernel⟩, List.mem_of_getElem? (i := 541) (by decide +kernel), List.mem_of_getElem? (i := 602) (by decide +kernel), List.mem_of_getElem? (i := 603) (by decide +kernel)⟩
theorem lw_p8 : lw_okq (⟨"PauseLexiconsModel", "comes", "(II)I"⟩, 12) := ⟨⟨by decide +kernel, by decide +kernel⟩, List.mem_of_getElem? (i := 541) (by decide +kernel), List.mem_of_getElem? (i := 609) (by decide +kernel), List.mem_of_getElem? (i := 610) (by decide +kernel)⟩
theorem lw_p9 : lw_okq (⟨"PauseLexiconsModel", "lay", "(III)V"⟩, 12) := ⟨⟨by decide +kernel, by decide +kernel⟩, List.mem_of_getElem? (i := 541) (by decide +kernel), List.mem_of_getElem? (i := 613) (by decide +kernel), List.mem_of_getElem? (i := 614) (by decide +kernel)⟩
theorem lw_p10 : lw_okq (⟨"PauseLexiconsModel", "refusesLeaving", "(I)I"⟩, 12) := ⟨⟨by decide +kernel, by decide +kernel⟩, List.mem_of_getElem? (i := 541) (by decide +kernel), List.mem_of_getElem? (i := 621) (by decide +kernel), List.mem_of_getElem? (i := 622) (by decide +kernel)⟩
theorem lw_p11 : lw_okq (⟨"PauseLexiconsModel", "isGuest", "(I)Z"⟩, 12) := ⟨⟨by decide +kernel, by decide +kernel⟩, List.mem_of_getElem? (i := 541) (by decide +kernel), List.mem_of_getElem? (i := 625) (by decide +kernel), List.mem_of_getElem? (i := 626) (by decide +kernel)⟩
theorem lw_p12 : lw_okq (⟨"PauseLexiconsModel", "has", "(II)I"⟩, 12) := ⟨⟨by decide +kernel, by decide +kernel⟩, List.mem_of_getElem? (i := 541) (by decide +kernel), List.mem_of_getElem? (i := 629) (by decide +kernel), List.mem_of_getElem? (i := 630) (by decide +kernel)⟩
theorem lw_p13 : lw_okq (⟨"PauseLexiconsModel", "goes", "(II)I"⟩, 12) := ⟨⟨by decide +kernel, by decide +kernel⟩, List.mem_of_getElem? (i := 541) (by decide +kernel), List.mem_of_getElem? (i := 633) (by decide +kernel), List.mem_of_getElem? (i := 634) (by decide +kernel)⟩
theorem lw_p14 : lw_okq (⟨"PauseLexiconsModel", "guestsAt", "(I)I"⟩, 12) := ⟨⟨by decide +kernel, by decide +kernel⟩, List.mem_of_getElem? (i := 541) (by decide +kernel), List.mem_of_getElem? (i := 637) (by decide +kernel), List.mem_of_getElem? (i := 638) (by decide +kernel)⟩
theorem lw_p15 : lw_okq (⟨"PauseLexiconsModel", "refusesPause", "(I)I"⟩, 12) := ⟨⟨by decide +kernel, by decide +kernel⟩, List.mem_of_getElem? (i := 541) (by decide +kernel), List.mem_of_getElem? (i := 652) (by decide +kernel), List.mem_of_getElem? (i := 653) (by decide +kernel)⟩
def lw_privs_1 : List (MethodName × Nat) := [(⟨"PauseLexicons", "keptUnlessError", "(I)I"⟩, 4), (⟨"PauseLexicons$Room", "dropPauseOfNobody", "(I)V"⟩, 6), (⟨"PauseLexicons$Room", "beginOfShade", "(I)I"⟩, 6), (⟨"PauseLexicons$Room", "endPause", "(IIII)V"⟩, 6), (⟨"PauseLexicons", "obeyOrders", "()I"⟩, 4), (⟨"PauseLexicons", "obeyOrder", "(II)I"⟩, 4), (⟨"PauseLexiconsModel", "records", "()V"⟩, 12), (⟨"PauseLexiconsModel", "refusesGuest", "(II)I"⟩, 12), (⟨"PauseLexiconsModel", "comes", "(II)I"⟩, 12), (⟨"PauseLexiconsModel", "lay", "(III)V"⟩, 12), (⟨"PauseLexiconsModel", "refusesLeaving", "(I)I"⟩, 12), (⟨"PauseLexiconsModel", "isGuest", "(I)Z"⟩, 12), (⟨"PauseLexiconsModel", "has", "(II)I"⟩, 12), (⟨"PauseLexiconsModel", "goes", "(II)I"⟩, 12), (⟨"PauseLexiconsModel", "guestsAt", "(I)I"⟩, 12), (⟨"PauseLexiconsModel", "refusesPause", "(I)I"⟩, 12)]
theorem lw_r1 : ∀ q ∈ lw_privs_1, lw_okq q := List.forall_mem_cons.mpr ⟨lw_p0, List.forall_mem_cons.mpr ⟨lw_p1, List.forall_mem_cons.mpr ⟨lw_p2, List.forall_mem_cons.mpr ⟨lw_p3, List.forall_mem_cons.mpr ⟨lw_p4, List.forall_mem_cons.mpr ⟨lw_p5, List.forall_mem_cons.mpr ⟨lw_p6, List.forall_mem_cons.mpr ⟨lw_p7, List.forall_mem_cons.mpr ⟨lw_p8, List.forall_mem_cons.mpr ⟨lw_p9, List.forall_mem_cons.mpr ⟨lw_p10, List.forall_mem_cons.mpr ⟨lw_p11, List.forall_mem_cons.mpr ⟨lw_p12, List.forall_mem_cons.mpr ⟨lw_p13, List.forall_mem_cons.mpr ⟨lw_p14, List.forall_mem_cons.mpr ⟨lw_p15, fun _ h => absurd h List.not_mem_nil⟩⟩⟩⟩⟩⟩⟩⟩⟩⟩⟩⟩⟩⟩⟩⟩
theorem lw_p16 : lw_okq (⟨"PauseLexiconsModel", "isPause", "(I)Z"⟩, 12) := ⟨⟨by decide +kernel, by decide +kernel⟩, List.mem_of_getElem? (i := 541) (by decide +kernel), List.mem_of_getElem? (i := 656) (by decide +kernel), List.mem_of_getElem? (i := 657) (by decide +kernel)⟩
theorem lw_p17 : lw_okq (⟨"PauseLexiconsModel", "begins", "(I)I"⟩, 12) := ⟨⟨by decide +kernel, by decide +kernel⟩, List.mem_of_getElem? (i := 541) (by decide +kernel), List.mem_of_getElem? (i := 660) (by decide +kernel), List.mem_of_getElem? (i := 661) (by decide +kernel)⟩
theorem lw_p18 : lw_okq (⟨"PauseLexiconsModel", "companyOf", "(I)I"⟩, 12) := ⟨⟨by decide +kernel, by decide +kernel⟩, List.mem_of_getElem? (i := 541) (by decide +kernel), List.mem_of_getElem? (i := 664) (by decide +kernel), List.mem_of_getElem? (i := 665) (by decide +kernel)⟩
theorem lw_p19 : lw_okq (⟨"PauseLexiconsModel", "refusesClosing", "(I)I"⟩, 12) := ⟨⟨by decide +kernel, by decide +kernel⟩, List.mem_of_getElem? (i := 541) (by decide +kernel), List.mem_of_getElem? (i := 672) (by decide +kernel), List.mem_of_getElem? (i := 673) (by decide +kernel)⟩
theorem lw_p20 : lw_okq (⟨"PauseLexiconsModel", "closes", "(I)I"⟩, 12) := ⟨⟨by decide +kernel, by decide +kernel⟩, List.mem_of_getElem? (i := 541) (by decide +kernel), List.mem_of_getElem? (i := 676) (by decide +kernel), List.mem_of_getElem? (i := 677) (by decide +kernel)⟩
theorem lw_p21 : lw_okq (⟨"PauseLexiconsModel", "meansNow", "(I)I"⟩, 12) := ⟨⟨by decide +kernel, by decide +kernel⟩, List.mem_of_getElem? (i := 541) (by decide +kernel), List.mem_of_getElem? (i := 680) (by decide +kernel), List.mem_of_getElem? (i := 681) (by decide +kernel)⟩
theorem lw_p22 : lw_okq (⟨"PauseLexiconsModel", "means", "(II)I"⟩, 12) := ⟨⟨by decide +kernel, by decide +kernel⟩, List.mem_of_getElem? (i := 541) (by decide +kernel), List.mem_of_getElem? (i := 684) (by decide +kernel), List.mem_of_getElem? (i := 685) (by decide +kernel)⟩
theorem lw_p23 : lw_okq (⟨"PauseLexiconsModel", "ends", "(IIII)V"⟩, 12) := ⟨⟨by decide +kernel, by decide +kernel⟩, List.mem_of_getElem? (i := 541) (by decide +kernel), List.mem_of_getElem? (i := 688) (by decide +kernel), List.mem_of_getElem? (i := 689) (by decide +kernel)⟩
theorem lw_p24 : lw_okq (⟨"PauseLexiconsModel", "refusesBreak", "(I)I"⟩, 12) := ⟨⟨by decide +kernel, by decide +kernel⟩, List.mem_of_getElem? (i := 541) (by decide +kernel), List.mem_of_getElem? (i := 696) (by decide +kernel), List.mem_of_getElem? (i := 697) (by decide +kernel)⟩
theorem lw_p25 : lw_okq (⟨"PauseLexiconsModel", "speaks", "(I)I"⟩, 12) := ⟨⟨by decide +kernel, by decide +kernel⟩, List.mem_of_getElem? (i := 541) (by decide +kernel), List.mem_of_getElem? (i := 700) (by decide +kernel), List.mem_of_getElem? (i := 701) (by decide +kernel)⟩
theorem lw_p26 : lw_okq (⟨"PauseLexiconsModel", "hostOf", "(I)I"⟩, 12) := ⟨⟨by decide +kernel, by decide +kernel⟩, List.mem_of_getElem? (i := 541) (by decide +kernel), List.mem_of_getElem? (i := 704) (by decide +kernel), List.mem_of_getElem? (i := 705) (by decide +kernel)⟩
theorem lw_p27 : lw_okq (⟨"PauseLexiconsModel", "coughs", "(I)I"⟩, 12) := ⟨⟨by decide +kernel, by decide +kernel⟩, List.mem_of_getElem? (i := 541) (by decide +kernel), List.mem_of_getElem? (i := 712) (by decide +kernel), List.mem_of_getElem? (i := 713) (by decide +kernel)⟩
theorem lw_p28 : lw_okq (⟨"PauseLexiconsModel", "lenderFor", "(I)I"⟩, 12) := ⟨⟨by decide +kernel, by decide +kernel⟩, List.mem_of_getElem? (i := 541) (by decide +kernel), List.mem_of_getElem? (i := 716) (by decide +kernel), List.mem_of_getElem? (i := 717) (by decide +kernel)⟩
theorem lw_p29 : lw_okq (⟨"PauseLexiconsModel", "refusesSeconds", "(I)I"⟩, 12) := ⟨⟨by decide +kernel, by decide +kernel⟩, List.mem_of_getElem? (i := 541) (by decide +kernel), List.mem_of_getElem? (i := 724) (by decide +kernel), List.mem_of_getElem? (i := 725) (by decide +kernel)⟩
theorem lw_p30 : lw_okq (⟨"PauseLexiconsModel", "passes", "(I)I"⟩, 12) := ⟨⟨by decide +kernel, by decide +kernel⟩, List.mem_of_getElem? (i := 541) (by decide +kernel), List.mem_of_getElem? (i := 728) (by decide +kernel), List.mem_of_getElem? (i := 729) (by decide +kernel)⟩
theorem lw_p31 : lw_okq (⟨"PauseLexiconsModel", "tellsGuest", "(II)I"⟩, 12) := ⟨⟨by decide +kernel, by decide +kernel⟩, List.mem_of_getElem? (i := 541) (by decide +kernel), List.mem_of_getElem? (i := 736) (by decide +kernel), List.mem_of_getElem? (i := 737) (by decide +kernel)⟩
def lw_privs_2 : List (MethodName × Nat) := [(⟨"PauseLexiconsModel", "isPause", "(I)Z"⟩, 12), (⟨"PauseLexiconsModel", "begins", "(I)I"⟩, 12), (⟨"PauseLexiconsModel", "companyOf", "(I)I"⟩, 12), (⟨"PauseLexiconsModel", "refusesClosing", "(I)I"⟩, 12), (⟨"PauseLexiconsModel", "closes", "(I)I"⟩, 12), (⟨"PauseLexiconsModel", "meansNow", "(I)I"⟩, 12), (⟨"PauseLexiconsModel", "means", "(II)I"⟩, 12), (⟨"PauseLexiconsModel", "ends", "(IIII)V"⟩, 12), (⟨"PauseLexiconsModel", "refusesBreak", "(I)I"⟩, 12), (⟨"PauseLexiconsModel", "speaks", "(I)I"⟩, 12), (⟨"PauseLexiconsModel", "hostOf", "(I)I"⟩, 12), (⟨"PauseLexiconsModel", "coughs", "(I)I"⟩, 12), (⟨"PauseLexiconsModel", "lenderFor", "(I)I"⟩, 12), (⟨"PauseLexiconsModel", "refusesSeconds", "(I)I"⟩, 12), (⟨"PauseLexiconsModel", "passes", "(I)I"⟩, 12), (⟨"PauseLexiconsModel", "tellsGuest", "(II)I"⟩, 12)]
theorem lw_r2 : ∀ q ∈ lw_privs_2, lw_okq q := List.forall_mem_cons.mpr ⟨lw_p16, List.forall_mem_cons.mpr ⟨lw_p17, List.forall_mem_cons.mpr ⟨lw_p18, List.forall_mem_cons.mpr ⟨lw_p19, List.forall_mem_cons.mpr ⟨lw_p20, List.forall_mem_cons.mpr ⟨lw_p21, List.forall_mem_cons.mpr ⟨lw_p22, List.forall_mem_cons.mpr ⟨lw_p23, List.forall_mem_cons.mpr ⟨lw_p24, List.forall_mem_cons.mpr ⟨lw_p25, List.forall_mem_cons.mpr ⟨lw_p26, List.forall_mem_cons.mpr ⟨lw_p27, List.forall_mem_cons.mpr ⟨lw_p28, List.forall_mem_cons.mpr ⟨lw_p29, List.forall_mem_cons.mpr ⟨lw_p30, List.forall_mem_cons.mpr ⟨lw_p31, fun _ h => absurd h List.not_mem_nil⟩⟩⟩⟩⟩⟩⟩⟩⟩⟩⟩⟩⟩⟩⟩⟩
theorem lw_p32 : lw_okq (⟨"PauseLexiconsModel", "there", "()I"⟩, 12) := ⟨⟨by decide +kernel, by decide +kernel⟩, List.mem_of_getElem? (i := 541) (by decide +kernel), List.mem_of_getElem? (i := 756) (by decide +kernel), List.mem_of_getElem? (i := 757) (by decide +kernel)⟩
theorem lw_p33 : lw_okq (⟨"PauseLexiconsModel", "pauses", "()I"⟩, 12) := ⟨⟨by decide +kernel, by decide +kernel⟩, List.mem_of_getElem? (i := 541) (by decide +kernel), List.mem_of_getElem? (i := 760) (by decide +kernel), List.mem_of_getElem? (i := 761) (by decide +kernel)⟩
theorem lw_p34 : lw_okq (⟨"PauseLexiconsModel", "sumOf", "(IZ)I"⟩, 12) := ⟨⟨by decide +kernel, by decide +kernel⟩, List.mem_of_getElem? (i := 541) (by decide +kernel), List.mem_of_getElem? (i := 764) (by decide +kernel), List.mem_of_getElem? (i := 765) (by decide +kernel)⟩
theorem lw_p35 : lw_okq (⟨"PauseLexiconsModel", "meantSet", "()I"⟩, 12) := ⟨⟨by decide +kernel, by decide +kernel⟩, List.mem_of_getElem? (i := 541) (by decide +kernel), List.mem_of_getElem? (i := 768) (by decide +kernel), List.mem_of_getElem? (i := 769) (by decide +kernel)⟩
theorem lw_p36 : lw_okq (⟨"PauseLexiconsModel", "reads", "()I"⟩, 12) := ⟨⟨by decide +kernel, by decide +kernel⟩, List.mem_of_getElem? (i := 541) (by decide +kernel), List.mem_of_getElem? (i := 805) (by decide +kernel), List.mem_of_getElem? (i := 806) (by decide +kernel)⟩
theorem lw_p37 : lw_okq (⟨"PauseLexiconsModel", "readsOrder", "()V"⟩, 12) := ⟨⟨by decide +kernel, by decide +kernel⟩, List.mem_of_getElem? (i := 541) (by decide +kernel), List.mem_of_getElem? (i := 809) (by decide +kernel), List.mem_of_getElem? (i := 810) (by decide +kernel)⟩
theorem lw_p38 : lw_okq (⟨"PauseLexiconsModel", "sign", "()I"⟩, 12) := ⟨⟨by decide +kernel, by decide +kernel⟩, List.mem_of_getElem? (i := 541) (by decide +kernel), List.mem_of_getElem? (i := 813) (by decide +kernel), List.mem_of_getElem? (i := 814) (by decide +kernel)⟩
theorem lw_p39 : lw_okq (⟨"PauseLexiconsModel", "digit", "()I"⟩, 12) := ⟨⟨by decide +kernel, by decide +kernel⟩, List.mem_of_getElem? (i := 541) (by decide +kernel), List.mem_of_getElem? (i := 817) (by decide +kernel), List.mem_of_getElem? (i := 818) (by decide +kernel)⟩
theorem lw_p40 : lw_okq (⟨"PauseLexiconsModel", "number", "()I"⟩, 12) := ⟨⟨by decide +kernel, by decide +kernel⟩, List.mem_of_getElem? (i := 541) (by decide +kernel), List.mem_of_getElem? (i := 821) (by decide +kernel), List.mem_of_getElem? (i := 822) (by decide +kernel)⟩
theorem lw_p41 : lw_okq (⟨"PauseLexiconsModel", "refuses", "(III)I"⟩, 12) := ⟨⟨by decide +kernel, by decide +kernel⟩, List.mem_of_getElem? (i := 541) (by decide +kernel), List.mem_of_getElem? (i := 829) (by decide +kernel), List.mem_of_getElem? (i := 830) (by decide +kernel)⟩
theorem lw_p42 : lw_okq (⟨"PauseLexiconsModel", "does", "(III)V"⟩, 12) := ⟨⟨by decide +kernel, by decide +kernel⟩, List.mem_of_getElem? (i := 541) (by decide +kernel), List.mem_of_getElem? (i := 833) (by decide +kernel), List.mem_of_getElem? (i := 834) (by decide +kernel)⟩
def lw_privs_3 : List (MethodName × Nat) := [(⟨"PauseLexiconsModel", "there", "()I"⟩, 12), (⟨"PauseLexiconsModel", "pauses", "()I"⟩, 12), (⟨"PauseLexiconsModel", "sumOf", "(IZ)I"⟩, 12), (⟨"PauseLexiconsModel", "meantSet", "()I"⟩, 12), (⟨"PauseLexiconsModel", "reads", "()I"⟩, 12), (⟨"PauseLexiconsModel", "readsOrder", "()V"⟩, 12), (⟨"PauseLexiconsModel", "sign", "()I"⟩, 12), (⟨"PauseLexiconsModel", "digit", "()I"⟩, 12), (⟨"PauseLexiconsModel", "number", "()I"⟩, 12), (⟨"PauseLexiconsModel", "refuses", "(III)I"⟩, 12), (⟨"PauseLexiconsModel", "does", "(III)V"⟩, 12)]
theorem lw_r3 : ∀ q ∈ lw_privs_3, lw_okq q := List.forall_mem_cons.mpr ⟨lw_p32, List.forall_mem_cons.mpr ⟨lw_p33, List.forall_mem_cons.mpr ⟨lw_p34, List.forall_mem_cons.mpr ⟨lw_p35, List.forall_mem_cons.mpr ⟨lw_p36, List.forall_mem_cons.mpr ⟨lw_p37, List.forall_mem_cons.mpr ⟨lw_p38, List.forall_mem_cons.mpr ⟨lw_p39, List.forall_mem_cons.mpr ⟨lw_p40, List.forall_mem_cons.mpr ⟨lw_p41, List.forall_mem_cons.mpr ⟨lw_p42, fun _ h => absurd h List.not_mem_nil⟩⟩⟩⟩⟩⟩⟩⟩⟩⟩⟩
def lw_privs : List (MethodName × Nat) := lw_privs_1 ++ (lw_privs_2 ++ (lw_privs_3))
def lw_tbl : List Cond := k2_sels lw_privs ++ tables_1
theorem lw_privs_ok : ∀ q ∈ lw_privs, lw_okq q := by
  show ∀ q ∈ lw_privs_1 ++ (lw_privs_2 ++ (lw_privs_3)), lw_okq q
  exact List.forall_mem_append.mpr ⟨lw_r1, List.forall_mem_append.mpr ⟨lw_r2, lw_r3⟩⟩
-- names, fields, code (out of NAMES.whole)
def RX0 : String := "PauseLexicons$Guests"
def TX0 : u_T := fun k => match k with
  | 0 => ("PauseLexicons$Guests", "came", "I", false)
  | 1 => ("PauseLexicons$Guests", "seats", "[I", true)
  | 2 => ("PauseLexicons$Guests", "ranks", "[I", true)
  | 3 => ("PauseLexicons$Guests", "faults", "[I", true)
  | 4 => ("PauseLexicons$Guests", "coughs", "[I", true)
  | 5 => ("PauseLexicons$Guests", "broken", "[I", true)
  | _ => ("PauseLexicons$Guests", "lent", "[I", true)
def tyX0 : Nat → FieldType := fun k => match k with
  | 0 => .int
  | 1 => .array .int
  | 2 => .array .int
  | 3 => .array .int
  | 4 => .array .int
  | 5 => .array .int
  | _ => .array .int
theorem nmX0 : ∀ a, a < 7 → ∀ b, b < 7 → a ≠ b → (TX0 a).2.1 ≠ (TX0 b).2.1 := by decide +kernel
theorem tyX0_ok : ∀ k, k < 7 → parseFieldDescriptor (TX0 k).2.2.1 = some (tyX0 k) := by decide +kernel
abbrev cX0_init : ByteArray := prog_2_method_1_code
def yX0_init : MethodName := ⟨RX0, "<init>", "()V"⟩
abbrev cX0_copyFrom : ByteArray := prog_2_method_2_code
def yX0_copyFrom : MethodName := ⟨RX0, "copyFrom", "(LPauseLexicons$Guests;)V"⟩
abbrev cX0_add : ByteArray := prog_2_method_3_code
def yX0_add : MethodName := ⟨RX0, "add", "(III)I"⟩
abbrev cX0_isKnown : ByteArray := prog_2_method_4_code
def yX0_isKnown : MethodName := ⟨RX0, "isKnown", "(I)Z"⟩
abbrev cX0_isHost : ByteArray := prog_2_method_5_code
def yX0_isHost : MethodName := ⟨RX0, "isHost", "(I)Z"⟩
abbrev cX0_setAt : ByteArray := prog_2_method_6_code
def yX0_setAt : MethodName := ⟨RX0, "setAt", "(I)I"⟩
abbrev cX0_setOfThoseHere : ByteArray := prog_2_method_7_code
def yX0_setOfThoseHere : MethodName := ⟨RX0, "setOfThoseHere", "()I"⟩
abbrev cX0_hostOf : ByteArray := prog_2_method_8_code
def yX0_hostOf : MethodName := ⟨RX0, "hostOf", "(I)I"⟩
abbrev cX0_companyOf : ByteArray := prog_2_method_9_code
def yX0_companyOf : MethodName := ⟨RX0, "companyOf", "(II)I"⟩
abbrev cX0_lenderTo : ByteArray := prog_2_method_10_code
def yX0_lenderTo : MethodName := ⟨RX0, "lenderTo", "(II)I"⟩
abbrev cX0_faultsOfAll : ByteArray := prog_2_method_11_code
def yX0_faultsOfAll : MethodName := ⟨RX0, "faultsOfAll", "()I"⟩
abbrev cX0_coughsOfThoseHere : ByteArray := prog_2_method_12_code
def yX0_coughsOfThoseHere : MethodName := ⟨RX0, "coughsOfThoseHere", "()I"⟩
def RX1 : String := "PauseLexicons$History"
def TX1 : u_T := fun k => match k with
  | 0 => ("PauseLexicons$History", "states", "[LPauseLexicons$Room;", true)
  | _ => ("PauseLexicons$History", "kept", "I", false)
def tyX1 : Nat → FieldType := fun k => match k with
  | 0 => .array (.object "PauseLexicons$Room")
  | _ => .int
theorem nmX1 : ∀ a, a < 2 → ∀ b, b < 2 → a ≠ b → (TX1 a).2.1 ≠ (TX1 b).2.1 := by decide +kernel
theorem tyX1_ok : ∀ k, k < 2 → parseFieldDescriptor (TX1 k).2.2.1 = some (tyX1 k) := by decide +kernel
abbrev cX1_init : ByteArray := prog_3_method_1_code
def yX1_init : MethodName := ⟨RX1, "<init>", "()V"⟩
abbrev cX1_noteBefore : ByteArray := prog_3_method_2_code
def yX1_noteBefore : MethodName := ⟨RX1, "noteBefore", "(LPauseLexicons$Room;)V"⟩
abbrev cX1_keepNoted : ByteArray := prog_3_method_3_code
def yX1_keepNoted : MethodName := ⟨RX1, "keepNoted", "()V"⟩
abbrev cX1_takeBack : ByteArray := prog_3_method_4_code
def yX1_takeBack : MethodName := ⟨RX1, "takeBack", "(LPauseLexicons$Room;)I"⟩
def RX2 : String := "PauseLexicons$Lexicon"
def TX2 : u_T := fun k => match k with
  | 0 => ("PauseLexicons$Lexicon", "often", "[I", true)
  | 1 => ("PauseLexicons$Lexicon", "longest", "[I", true)
  | 2 => ("PauseLexicons$Lexicon", "endings", "[I", true)
  | 3 => ("PauseLexicons$Lexicon", "ends", "[I", true)
  | _ => ("PauseLexicons$Lexicon", "told", "I", false)
def tyX2 : Nat → FieldType := fun k => match k with
  | 0 => .array .int
  | 1 => .array .int
  | 2 => .array .int
  | 3 => .array .int
  | _ => .int
theorem nmX2 : ∀ a, a < 5 → ∀ b, b < 5 → a ≠ b → (TX2 a).2.1 ≠ (TX2 b).2.1 := by decide +kernel
theorem tyX2_ok : ∀ k, k < 5 → parseFieldDescriptor (TX2 k).2.2.1 = some (tyX2 k) := by decide +kernel
abbrev cX2_init : ByteArray := prog_4_method_1_code
def yX2_init : MethodName := ⟨RX2, "<init>", "()V"⟩
abbrev cX2_copyFrom : ByteArray := prog_4_method_2_code
def yX2_copyFrom : MethodName := ⟨RX2, "copyFrom", "(LPauseLexicons$Lexicon;)V"⟩
abbrev cX2_enterMeaning : ByteArray := prog_4_method_3_code
def yX2_enterMeaning : MethodName := ⟨RX2, "enterMeaning", "(II)V"⟩
abbrev cX2_tellEnd : ByteArray := prog_4_method_4_code
def yX2_tellEnd : MethodName := ⟨RX2, "tellEnd", "(IIIII)V"⟩
abbrev cX2_setOfMeant : ByteArray := prog_4_method_5_code
def yX2_setOfMeant : MethodName := ⟨RX2, "setOfMeant", "()I"⟩
abbrev cX2_mostMeant : ByteArray := prog_4_method_6_code
def yX2_mostMeant : MethodName := ⟨RX2, "mostMeant", "()I"⟩
def RX3 : String := "PauseLexicons$Pad"
def TX3 : u_T := fun k => match k with
  | 0 => ("PauseLexicons$Pad", "codes", "[I", true)
  | _ => ("PauseLexicons$Pad", "length", "I", false)
def tyX3 : Nat → FieldType := fun k => match k with
  | 0 => .array .int
  | _ => .int
theorem nmX3 : ∀ a, a < 2 → ∀ b, b < 2 → a ≠ b → (TX3 a).2.1 ≠ (TX3 b).2.1 := by decide +kernel
theorem tyX3_ok : ∀ k, k < 2 → parseFieldDescriptor (TX3 k).2.2.1 = some (tyX3 k) := by decide +kernel
abbrev cX3_init : ByteArray := prog_5_method_1_code
def yX3_init : MethodName := ⟨RX3, "<init>", "()V"⟩
abbrev cX3_append : ByteArray := prog_5_method_2_code
def yX3_append : MethodName := ⟨RX3, "append", "(J)I"⟩
abbrev cX3_charactersIn : ByteArray := prog_5_method_3_code
def yX3_charactersIn : MethodName := ⟨RX3, "charactersIn", "(J)I"⟩
abbrev cX3_codeOf : ByteArray := prog_5_method_4_code
def yX3_codeOf : MethodName := ⟨RX3, "codeOf", "(JI)I"⟩
abbrev cX3_clear : ByteArray := prog_5_method_5_code
def yX3_clear : MethodName := ⟨RX3, "clear", "()I"⟩
abbrev cX3_firstFault : ByteArray := prog_5_method_6_code
def yX3_firstFault : MethodName := ⟨RX3, "firstFault", "()I"⟩
abbrev cX3_expectedAfter : ByteArray := prog_5_method_7_code
def yX3_expectedAfter : MethodName := ⟨RX3, "expectedAfter", "(II)I"⟩
abbrev cX3_expectedAfterLetter : ByteArray := prog_5_method_8_code
def yX3_expectedAfterLetter : MethodName := ⟨RX3, "expectedAfterLetter", "(I)I"⟩
abbrev cX3_isDigit : ByteArray := prog_5_method_9_code
def yX3_isDigit : MethodName := ⟨RX3, "isDigit", "(I)Z"⟩
abbrev cX3_isEndOfOrder : ByteArray := prog_5_method_10_code
def yX3_isEndOfOrder : MethodName := ⟨RX3, "isEndOfOrder", "(I)Z"⟩
abbrev cX3_firstDigit : ByteArray := prog_5_method_11_code
def yX3_firstDigit : MethodName := ⟨RX3, "firstDigit", "(II)I"⟩
abbrev cX3_lastNumber : ByteArray := prog_5_method_12_code
def yX3_lastNumber : MethodName := ⟨RX3, "lastNumber", "(II)I"⟩
def RX4 : String := "PauseLexicons$Room"
def TX4 : u_T := fun k => match k with
  | 0 => ("PauseLexicons$Room", "time", "I", false)
  | 1 => ("PauseLexicons$Room", "settings", "[I", true)
  | 2 => ("PauseLexicons$Room", "guests", "LPauseLexicons$Guests;", true)
  | 3 => ("PauseLexicons$Room", "lexicon", "LPauseLexicons$Lexicon;", true)
  | 4 => ("PauseLexicons$Room", "pauses", "[I", true)
  | _ => ("PauseLexicons$Room", "ended", "[I", true)
def tyX4 : Nat → FieldType := fun k => match k with
  | 0 => .int
  | 1 => .array .int
  | 2 => .object "PauseLexicons$Guests"
  | 3 => .object "PauseLexicons$Lexicon"
  | 4 => .array .int
  | _ => .array .int
theorem nmX4 : ∀ a, a < 6 → ∀ b, b < 6 → a ≠ b → (TX4 a).2.1 ≠ (TX4 b).2.1 := by decide +kernel
theorem tyX4_ok : ∀ k, k < 6 → parseFieldDescriptor (TX4 k).2.2.1 = some (tyX4 k) := by decide +kernel
abbrev cX4_init : ByteArray := prog_6_method_1_code
def yX4_init : MethodName := ⟨RX4, "<init>", "()V"⟩
abbrev cX4_copyFrom : ByteArray := prog_6_method_2_code
def yX4_copyFrom : MethodName := ⟨RX4, "copyFrom", "(LPauseLexicons$Room;)V"⟩
abbrev cX4_changeSetting : ByteArray := prog_6_method_3_code
def yX4_changeSetting : MethodName := ⟨RX4, "changeSetting", "(II)I"⟩
abbrev cX4_welcome : ByteArray := prog_6_method_4_code
def yX4_welcome : MethodName := ⟨RX4, "welcome", "(II)I"⟩
abbrev cX4_seeOff : ByteArray := prog_6_method_5_code
def yX4_seeOff : MethodName := ⟨RX4, "seeOff", "(I)I"⟩
abbrev cX4_reseat : ByteArray := prog_6_method_6_code
def yX4_reseat : MethodName := ⟨RX4, "reseat", "(II)I"⟩
abbrev cX4_beginPause : ByteArray := prog_6_method_7_code
def yX4_beginPause : MethodName := ⟨RX4, "beginPause", "(I)I"⟩
abbrev cX4_closePause : ByteArray := prog_6_method_8_code
def yX4_closePause : MethodName := ⟨RX4, "closePause", "(I)I"⟩
abbrev cX4_breakByWord : ByteArray := prog_6_method_9_code
def yX4_breakByWord : MethodName := ⟨RX4, "breakByWord", "(I)I"⟩
abbrev cX4_breakByCough : ByteArray := prog_6_method_10_code
def yX4_breakByCough : MethodName := ⟨RX4, "breakByCough", "(I)I"⟩
abbrev cX4_letPass : ByteArray := prog_6_method_11_code
def yX4_letPass : MethodName := ⟨RX4, "letPass", "(I)I"⟩
abbrev cX4_errorOfBreak : ByteArray := prog_6_method_12_code
def yX4_errorOfBreak : MethodName := ⟨RX4, "errorOfBreak", "(I)I"⟩
abbrev cX4_dropPauseOfNobody : ByteArray := prog_6_method_13_code
def yX4_dropPauseOfNobody : MethodName := ⟨RX4, "dropPauseOfNobody", "(I)V"⟩
abbrev cX4_endPause : ByteArray := prog_6_method_14_code
def yX4_endPause : MethodName := ⟨RX4, "endPause", "(IIII)V"⟩
abbrev cX4_pausesThatGoOn : ByteArray := prog_6_method_15_code
def yX4_pausesThatGoOn : MethodName := ⟨RX4, "pausesThatGoOn", "()I"⟩
abbrev cX4_meaningNow : ByteArray := prog_6_method_16_code
def yX4_meaningNow : MethodName := ⟨RX4, "meaningNow", "(II)I"⟩
abbrev cX4_meaningFor : ByteArray := prog_6_method_17_code
def yX4_meaningFor : MethodName := ⟨RX4, "meaningFor", "(II)I"⟩
abbrev cX4_secondsToTurn : ByteArray := prog_6_method_18_code
def yX4_secondsToTurn : MethodName := ⟨RX4, "secondsToTurn", "(I)I"⟩
abbrev cX4_beginOfShade : ByteArray := prog_6_method_19_code
def yX4_beginOfShade : MethodName := ⟨RX4, "beginOfShade", "(I)I"⟩
def RX5 : String := "PauseLexicons$Slots"
def TX5 : u_T := fun k => match k with
  | 0 => ("PauseLexicons$Slots", "states", "[LPauseLexicons$Room;", true)
  | _ => ("PauseLexicons$Slots", "filled", "[Z", true)
def tyX5 : Nat → FieldType := fun k => match k with
  | 0 => .array (.object "PauseLexicons$Room")
  | _ => .array .boolean
theorem nmX5 : ∀ a, a < 2 → ∀ b, b < 2 → a ≠ b → (TX5 a).2.1 ≠ (TX5 b).2.1 := by decide +kernel
theorem tyX5_ok : ∀ k, k < 2 → parseFieldDescriptor (TX5 k).2.2.1 = some (tyX5 k) := by decide +kernel
abbrev cX5_init : ByteArray := prog_7_method_1_code
def yX5_init : MethodName := ⟨RX5, "<init>", "()V"⟩
abbrev cX5_keep : ByteArray := prog_7_method_2_code
def yX5_keep : MethodName := ⟨RX5, "keep", "(ILPauseLexicons$Room;)I"⟩
abbrev cX5_giveBack : ByteArray := prog_7_method_3_code
def yX5_giveBack : MethodName := ⟨RX5, "giveBack", "(ILPauseLexicons$Room;)I"⟩
def RX6 : String := "PauseLexicons"
def TX6 : u_T := fun k => match k with
  | 0 => ("PauseLexicons", "room", "LPauseLexicons$Room;", true)
  | 1 => ("PauseLexicons", "history", "LPauseLexicons$History;", true)
  | 2 => ("PauseLexicons", "slots", "LPauseLexicons$Slots;", true)
  | _ => ("PauseLexicons", "pad", "LPauseLexicons$Pad;", true)
def tyX6 : Nat → FieldType := fun k => match k with
  | 0 => .object "PauseLexicons$Room"
  | 1 => .object "PauseLexicons$History"
  | 2 => .object "PauseLexicons$Slots"
  | _ => .object "PauseLexicons$Pad"
theorem nmX6 : ∀ a, a < 4 → ∀ b, b < 4 → a ≠ b → (TX6 a).2.1 ≠ (TX6 b).2.1 := by decide +kernel
theorem tyX6_ok : ∀ k, k < 4 → parseFieldDescriptor (TX6 k).2.2.1 = some (tyX6 k) := by decide +kernel
abbrev cX6_init : ByteArray := prog_1_method_1_code
def yX6_init : MethodName := ⟨RX6, "<init>", "()V"⟩
abbrev cX6_set : ByteArray := prog_1_method_2_code
def yX6_set : MethodName := ⟨RX6, "set", "(II)I"⟩
abbrev cX6_guest : ByteArray := prog_1_method_3_code
def yX6_guest : MethodName := ⟨RX6, "guest", "(II)I"⟩
abbrev cX6_leave : ByteArray := prog_1_method_4_code
def yX6_leave : MethodName := ⟨RX6, "leave", "(I)I"⟩
abbrev cX6_move : ByteArray := prog_1_method_5_code
def yX6_move : MethodName := ⟨RX6, "move", "(II)I"⟩
abbrev cX6_pause : ByteArray := prog_1_method_6_code
def yX6_pause : MethodName := ⟨RX6, "pause", "(I)I"⟩
abbrev cX6_close : ByteArray := prog_1_method_7_code
def yX6_close : MethodName := ⟨RX6, "close", "(I)I"⟩
abbrev cX6_word : ByteArray := prog_1_method_8_code
def yX6_word : MethodName := ⟨RX6, "word", "(I)I"⟩
abbrev cX6_cough : ByteArray := prog_1_method_9_code
def yX6_cough : MethodName := ⟨RX6, "cough", "(I)I"⟩
abbrev cX6_pass : ByteArray := prog_1_method_10_code
def yX6_pass : MethodName := ⟨RX6, "pass", "(I)I"⟩
abbrev cX6_of : ByteArray := prog_1_method_11_code
def yX6_of : MethodName := ⟨RX6, "of", "(II)I"⟩
abbrev cX6_table : ByteArray := prog_1_method_12_code
def yX6_table : MethodName := ⟨RX6, "table", "(II)I"⟩
abbrev cX6_meaning : ByteArray := prog_1_method_13_code
def yX6_meaning : MethodName := ⟨RX6, "meaning", "(II)I"⟩
abbrev cX6_end : ByteArray := prog_1_method_14_code
def yX6_end : MethodName := ⟨RX6, "end", "(II)I"⟩
abbrev cX6_count : ByteArray := prog_1_method_15_code
def yX6_count : MethodName := ⟨RX6, "count", "(I)I"⟩
abbrev cX6_wouldMean : ByteArray := prog_1_method_16_code
def yX6_wouldMean : MethodName := ⟨RX6, "wouldMean", "(II)I"⟩
abbrev cX6_turnsIn : ByteArray := prog_1_method_17_code
def yX6_turnsIn : MethodName := ⟨RX6, "turnsIn", "(I)I"⟩
abbrev cX6_lender : ByteArray := prog_1_method_18_code
def yX6_lender : MethodName := ⟨RX6, "lender", "(I)I"⟩
abbrev cX6_without : ByteArray := prog_1_method_19_code
def yX6_without : MethodName := ⟨RX6, "without", "(I)I"⟩
abbrev cX6_usual : ByteArray := prog_1_method_20_code
def yX6_usual : MethodName := ⟨RX6, "usual", "()I"⟩
abbrev cX6_put : ByteArray := prog_1_method_21_code
def yX6_put : MethodName := ⟨RX6, "put", "(J)I"⟩
abbrev cX6_wipe : ByteArray := prog_1_method_22_code
def yX6_wipe : MethodName := ⟨RX6, "wipe", "()I"⟩
abbrev cX6_fault : ByteArray := prog_1_method_23_code
def yX6_fault : MethodName := ⟨RX6, "fault", "()I"⟩
abbrev cX6_carryOut : ByteArray := prog_1_method_24_code
def yX6_carryOut : MethodName := ⟨RX6, "carryOut", "()I"⟩
abbrev cX6_undo : ByteArray := prog_1_method_25_code
def yX6_undo : MethodName := ⟨RX6, "undo", "()I"⟩
abbrev cX6_save : ByteArray := prog_1_method_26_code
def yX6_save : MethodName := ⟨RX6, "save", "(I)I"⟩
abbrev cX6_restore : ByteArray := prog_1_method_27_code
def yX6_restore : MethodName := ⟨RX6, "restore", "(I)I"⟩
abbrev cX6_keptUnlessError : ByteArray := prog_1_method_28_code
def yX6_keptUnlessError : MethodName := ⟨RX6, "keptUnlessError", "(I)I"⟩
abbrev cX6_isError : ByteArray := prog_1_method_29_code
def yX6_isError : MethodName := ⟨RX6, "isError", "(I)Z"⟩
abbrev cX6_isTable : ByteArray := prog_1_method_30_code
def yX6_isTable : MethodName := ⟨RX6, "isTable", "(I)Z"⟩
abbrev cX6_obeyOrders : ByteArray := prog_1_method_31_code
def yX6_obeyOrders : MethodName := ⟨RX6, "obeyOrders", "()I"⟩
abbrev cX6_obeyOrder : ByteArray := prog_1_method_32_code
def yX6_obeyOrder : MethodName := ⟨RX6, "obeyOrder", "(II)I"⟩
def RX7 : String := "PauseLexiconsModel"
def TX7 : u_T := fun k => match k with
  | 0 => ("PauseLexiconsModel", "thrown", "I", false)
  | 1 => ("PauseLexiconsModel", "s", "[I", true)
  | 2 => ("PauseLexiconsModel", "states", "[I", true)
  | 3 => ("PauseLexiconsModel", "stateMany", "I", false)
  | 4 => ("PauseLexiconsModel", "slots", "[I", true)
  | 5 => ("PauseLexiconsModel", "hasSlot", "[Z", true)
  | 6 => ("PauseLexiconsModel", "pad", "[I", true)
  | 7 => ("PauseLexiconsModel", "length", "I", false)
  | 8 => ("PauseLexiconsModel", "at", "I", false)
  | 9 => ("PauseLexiconsModel", "isWell", "Z", false)
  | 10 => ("PauseLexiconsModel", "read", "[I", true)
  | _ => ("PauseLexiconsModel", "readMany", "I", false)
def tyX7 : Nat → FieldType := fun k => match k with
  | 0 => .int
  | 1 => .array .int
  | 2 => .array .int
  | 3 => .int
  | 4 => .array .int
  | 5 => .array .boolean
  | 6 => .array .int
  | 7 => .int
  | 8 => .int
  | 9 => .boolean
  | 10 => .array .int
  | _ => .int
theorem nmX7 : ∀ a, a < 12 → ∀ b, b < 12 → a ≠ b → (TX7 a).2.1 ≠ (TX7 b).2.1 := by decide +kernel
theorem tyX7_ok : ∀ k, k < 12 → parseFieldDescriptor (TX7 k).2.2.1 = some (tyX7 k) := by decide +kernel
abbrev cX7_init : ByteArray := prog_9_method_1_code
def yX7_init : MethodName := ⟨RX7, "<init>", "()V"⟩
abbrev cX7_in : ByteArray := prog_9_method_3_code
def yX7_in : MethodName := ⟨RX7, "in", "(III)Z"⟩
abbrev cX7_isTable : ByteArray := prog_9_method_4_code
def yX7_isTable : MethodName := ⟨RX7, "isTable", "(I)Z"⟩
abbrev cX7_isGuest : ByteArray := prog_9_method_5_code
def yX7_isGuest : MethodName := ⟨RX7, "isGuest", "(I)Z"⟩
abbrev cX7_has : ByteArray := prog_9_method_6_code
def yX7_has : MethodName := ⟨RX7, "has", "(II)I"⟩
abbrev cX7_lay : ByteArray := prog_9_method_7_code
def yX7_lay : MethodName := ⟨RX7, "lay", "(III)V"⟩
abbrev cX7_records : ByteArray := prog_9_method_8_code
def yX7_records : MethodName := ⟨RX7, "records", "()V"⟩
abbrev cX7_guestsAt : ByteArray := prog_9_method_9_code
def yX7_guestsAt : MethodName := ⟨RX7, "guestsAt", "(I)I"⟩
abbrev cX7_ones : ByteArray := prog_9_method_10_code
def yX7_ones : MethodName := ⟨RX7, "ones", "(I)I"⟩
abbrev cX7_hostOf : ByteArray := prog_9_method_11_code
def yX7_hostOf : MethodName := ⟨RX7, "hostOf", "(I)I"⟩
abbrev cX7_companyOf : ByteArray := prog_9_method_12_code
def yX7_companyOf : MethodName := ⟨RX7, "companyOf", "(I)I"⟩
abbrev cX7_means : ByteArray := prog_9_method_13_code
def yX7_means : MethodName := ⟨RX7, "means", "(II)I"⟩
abbrev cX7_isPause : ByteArray := prog_9_method_14_code
def yX7_isPause : MethodName := ⟨RX7, "isPause", "(I)Z"⟩
abbrev cX7_meansNow : ByteArray := prog_9_method_15_code
def yX7_meansNow : MethodName := ⟨RX7, "meansNow", "(I)I"⟩
abbrev cX7_mostOf : ByteArray := prog_9_method_16_code
def yX7_mostOf : MethodName := ⟨RX7, "mostOf", "(I)I"⟩
abbrev cX7_set : ByteArray := prog_9_method_17_code
def yX7_set : MethodName := ⟨RX7, "set", "(II)I"⟩
abbrev cX7_refusesGuest : ByteArray := prog_9_method_18_code
def yX7_refusesGuest : MethodName := ⟨RX7, "refusesGuest", "(II)I"⟩
abbrev cX7_comes : ByteArray := prog_9_method_19_code
def yX7_comes : MethodName := ⟨RX7, "comes", "(II)I"⟩
abbrev cX7_guest : ByteArray := prog_9_method_20_code
def yX7_guest : MethodName := ⟨RX7, "guest", "(II)I"⟩
abbrev cX7_refusesLeaving : ByteArray := prog_9_method_21_code
def yX7_refusesLeaving : MethodName := ⟨RX7, "refusesLeaving", "(I)I"⟩
abbrev cX7_goes : ByteArray := prog_9_method_22_code
def yX7_goes : MethodName := ⟨RX7, "goes", "(II)I"⟩
abbrev cX7_leave : ByteArray := prog_9_method_23_code
def yX7_leave : MethodName := ⟨RX7, "leave", "(I)I"⟩
abbrev cX7_move : ByteArray := prog_9_method_24_code
def yX7_move : MethodName := ⟨RX7, "move", "(II)I"⟩
abbrev cX7_refusesPause : ByteArray := prog_9_method_25_code
def yX7_refusesPause : MethodName := ⟨RX7, "refusesPause", "(I)I"⟩
abbrev cX7_begins : ByteArray := prog_9_method_26_code
def yX7_begins : MethodName := ⟨RX7, "begins", "(I)I"⟩
abbrev cX7_pause : ByteArray := prog_9_method_27_code
def yX7_pause : MethodName := ⟨RX7, "pause", "(I)I"⟩
abbrev cX7_ends : ByteArray := prog_9_method_28_code
def yX7_ends : MethodName := ⟨RX7, "ends", "(IIII)V"⟩
abbrev cX7_refusesClosing : ByteArray := prog_9_method_29_code
def yX7_refusesClosing : MethodName := ⟨RX7, "refusesClosing", "(I)I"⟩
abbrev cX7_closes : ByteArray := prog_9_method_30_code
def yX7_closes : MethodName := ⟨RX7, "closes", "(I)I"⟩
abbrev cX7_close : ByteArray := prog_9_method_31_code
def yX7_close : MethodName := ⟨RX7, "close", "(I)I"⟩
abbrev cX7_refusesBreak : ByteArray := prog_9_method_32_code
def yX7_refusesBreak : MethodName := ⟨RX7, "refusesBreak", "(I)I"⟩
abbrev cX7_speaks : ByteArray := prog_9_method_33_code
def yX7_speaks : MethodName := ⟨RX7, "speaks", "(I)I"⟩
abbrev cX7_word : ByteArray := prog_9_method_34_code
def yX7_word : MethodName := ⟨RX7, "word", "(I)I"⟩
abbrev cX7_lenderFor : ByteArray := prog_9_method_35_code
def yX7_lenderFor : MethodName := ⟨RX7, "lenderFor", "(I)I"⟩
abbrev cX7_coughs : ByteArray := prog_9_method_36_code
def yX7_coughs : MethodName := ⟨RX7, "coughs", "(I)I"⟩
abbrev cX7_cough : ByteArray := prog_9_method_37_code
def yX7_cough : MethodName := ⟨RX7, "cough", "(I)I"⟩
abbrev cX7_refusesSeconds : ByteArray := prog_9_method_38_code
def yX7_refusesSeconds : MethodName := ⟨RX7, "refusesSeconds", "(I)I"⟩
abbrev cX7_passes : ByteArray := prog_9_method_39_code
def yX7_passes : MethodName := ⟨RX7, "passes", "(I)I"⟩
abbrev cX7_pass : ByteArray := prog_9_method_40_code
def yX7_pass : MethodName := ⟨RX7, "pass", "(I)I"⟩
abbrev cX7_tellsGuest : ByteArray := prog_9_method_41_code
def yX7_tellsGuest : MethodName := ⟨RX7, "tellsGuest", "(II)I"⟩
abbrev cX7_of : ByteArray := prog_9_method_42_code
def yX7_of : MethodName := ⟨RX7, "of", "(II)I"⟩
abbrev cX7_table : ByteArray := prog_9_method_43_code
def yX7_table : MethodName := ⟨RX7, "table", "(II)I"⟩
abbrev cX7_meaning : ByteArray := prog_9_method_44_code
def yX7_meaning : MethodName := ⟨RX7, "meaning", "(II)I"⟩
abbrev cX7_end : ByteArray := prog_9_method_45_code
def yX7_end : MethodName := ⟨RX7, "end", "(II)I"⟩
abbrev cX7_there : ByteArray := prog_9_method_46_code
def yX7_there : MethodName := ⟨RX7, "there", "()I"⟩
abbrev cX7_pauses : ByteArray := prog_9_method_47_code
def yX7_pauses : MethodName := ⟨RX7, "pauses", "()I"⟩
abbrev cX7_sumOf : ByteArray := prog_9_method_48_code
def yX7_sumOf : MethodName := ⟨RX7, "sumOf", "(IZ)I"⟩
abbrev cX7_meantSet : ByteArray := prog_9_method_49_code
def yX7_meantSet : MethodName := ⟨RX7, "meantSet", "()I"⟩
abbrev cX7_count : ByteArray := prog_9_method_50_code
def yX7_count : MethodName := ⟨RX7, "count", "(I)I"⟩
abbrev cX7_wouldMean : ByteArray := prog_9_method_51_code
def yX7_wouldMean : MethodName := ⟨RX7, "wouldMean", "(II)I"⟩
abbrev cX7_turnsIn : ByteArray := prog_9_method_52_code
def yX7_turnsIn : MethodName := ⟨RX7, "turnsIn", "(I)I"⟩
abbrev cX7_lender : ByteArray := prog_9_method_53_code
def yX7_lender : MethodName := ⟨RX7, "lender", "(I)I"⟩
abbrev cX7_without : ByteArray := prog_9_method_54_code
def yX7_without : MethodName := ⟨RX7, "without", "(I)I"⟩
abbrev cX7_usual : ByteArray := prog_9_method_55_code
def yX7_usual : MethodName := ⟨RX7, "usual", "()I"⟩
abbrev cX7_put : ByteArray := prog_9_method_56_code
def yX7_put : MethodName := ⟨RX7, "put", "(J)I"⟩
abbrev cX7_wipe : ByteArray := prog_9_method_57_code
def yX7_wipe : MethodName := ⟨RX7, "wipe", "()I"⟩
abbrev cX7_sign : ByteArray := prog_9_method_58_code
def yX7_sign : MethodName := ⟨RX7, "sign", "()I"⟩
abbrev cX7_digit : ByteArray := prog_9_method_59_code
def yX7_digit : MethodName := ⟨RX7, "digit", "()I"⟩
abbrev cX7_number : ByteArray := prog_9_method_60_code
def yX7_number : MethodName := ⟨RX7, "number", "()I"⟩
abbrev cX7_readsOrder : ByteArray := prog_9_method_61_code
def yX7_readsOrder : MethodName := ⟨RX7, "readsOrder", "()V"⟩
abbrev cX7_reads : ByteArray := prog_9_method_62_code
def yX7_reads : MethodName := ⟨RX7, "reads", "()I"⟩
abbrev cX7_fault : ByteArray := prog_9_method_63_code
def yX7_fault : MethodName := ⟨RX7, "fault", "()I"⟩
abbrev cX7_refuses : ByteArray := prog_9_method_64_code
def yX7_refuses : MethodName := ⟨RX7, "refuses", "(III)I"⟩
abbrev cX7_does : ByteArray := prog_9_method_65_code
def yX7_does : MethodName := ⟨RX7, "does", "(III)V"⟩
abbrev cX7_carryOut : ByteArray := prog_9_method_66_code
def yX7_carryOut : MethodName := ⟨RX7, "carryOut", "()I"⟩
abbrev cX7_undo : ByteArray := prog_9_method_67_code
def yX7_undo : MethodName := ⟨RX7, "undo", "()I"⟩
abbrev cX7_save : ByteArray := prog_9_method_68_code
def yX7_save : MethodName := ⟨RX7, "save", "(I)I"⟩
abbrev cX7_restore : ByteArray := prog_9_method_69_code
def yX7_restore : MethodName := ⟨RX7, "restore", "(I)I"⟩
def RJ6 : String := "java/lang/Integer"
def TJ6 : u_T := fun k => match k with
  | _ => ("", "", "", false)
def tyJ6 : Nat → FieldType := fun k => match k with
  | _ => .int
abbrev cJ6_bitCount_0f7a4 : ByteArray := prog_11_method_49_code
def yJ6_bitCount_0f7a4 : MethodName := ⟨RJ6, "bitCount", "(I)I"⟩
def RJ9 : String := "java/lang/Math"
def TJ9 : u_T := fun k => match k with
  | _ => ("", "", "", false)
def tyJ9 : Nat → FieldType := fun k => match k with
  | _ => .int
abbrev cJ9_max_7cf53 : ByteArray := prog_12_method_65_code
def yJ9_max_7cf53 : MethodName := ⟨RJ9, "max", "(II)I"⟩
abbrev cJ9_min_7cf53 : ByteArray := prog_12_method_69_code
def yJ9_min_7cf53 : MethodName := ⟨RJ9, "min", "(II)I"⟩
def RJ10 : String := "java/lang/System"
def TJ10 : u_T := fun k => match k with
  | _ => ("", "", "", false)
def tyJ10 : Nat → FieldType := fun k => match k with
  | _ => .int
def RL : String := "PauseLexiconsLaw"
abbrev cL_law : ByteArray := code
def yL_law : MethodName := ⟨RL, "law", "([I)Z"⟩
abbrev mcl : List vw_C := [(RX0, TX0, 7), (RX1, TX1, 2), (RX2, TX2, 5), (RX3, TX3, 2), (RX4, TX4, 6), (RX5, TX5, 2), (RX6, TX6, 4), (RX7, TX7, 12)]
def mN (ci : Nat) : Nat := match ci with
  | 0 => 7
  | 1 => 2
  | 2 => 5
  | 3 => 2
  | 4 => 6
  | 5 => 2
  | 6 => 4
  | 7 => 12
  | _ => 0
def mty (ci : Nat) : Nat → FieldType := match ci with
  | 0 => tyX0
  | 1 => tyX1
  | 2 => tyX2
  | 3 => tyX3
  | 4 => tyX4
  | 5 => tyX5
  | 6 => tyX6
  | 7 => tyX7
  | _ => fun _ => .int
def mIsN : Cond → Bool
  | .fieldLinkNest .. => true
  | .methodLinkNest .. => true
  | .castable .. => true
  | _ => false
def mGW : List Cond := lw_tbl.filter goodWord
def mNW : List Cond := lw_tbl.filter mIsN
theorem mg_in {w : Cond} {i : Nat} (h : lw_tbl[i]? = some w) (hg : goodWord w = true) : w ∈ mGW := List.mem_filter.mpr ⟨List.mem_of_getElem? h, hg⟩
theorem mn_in {w : Cond} {i : Nat} (h : lw_tbl[i]? = some w) (hg : mIsN w = true) : w ∈ mNW := List.mem_filter.mpr ⟨List.mem_of_getElem? h, hg⟩
theorem mg_all {ws : List Cond} (ps : List Nat) (hp : ws = ps.filterMap (fun i => lw_tbl[i]?)) (h : ws.all goodWord = true) : ∀ w ∈ ws, w ∈ mGW := by
  intro w hw
  have h1 := List.all_eq_true.mp h w hw
  rw [hp] at hw
  obtain ⟨i, -, hi⟩ := List.mem_filterMap.mp hw
  exact mg_in hi h1
theorem mg_good : ∀ w ∈ mGW, w ∈ mGW ∧ ((w.onTables && w.keeps) = true ∨ ∃ ty, w = .arrayClass ty) := fun w h => ⟨h, good_of_word (List.mem_filter.mp h).2⟩
theorem muX0 : ∀ w ∈ u_ws RX0 TX0 7, w ∈ mGW := mg_all [103, 105, 107, 109, 111, 113, 115] (by decide +kernel) (by decide +kernel)
theorem miX0 : Cond.instantiable RX0 7 ∈ mGW := mg_in (i := 79) (by decide +kernel) (by decide +kernel)
theorem mzX0 : Cond.initialized RX0 ∈ mGW := mg_in (i := 46) (by decide +kernel) (by decide +kernel)
theorem muX1 : ∀ w ∈ u_ws RX1 TX1 2, w ∈ mGW := mg_all [184, 186] (by decide +kernel) (by decide +kernel)
theorem miX1 : Cond.instantiable RX1 2 ∈ mGW := mg_in (i := 173) (by decide +kernel) (by decide +kernel)
theorem mzX1 : Cond.initialized RX1 ∈ mGW := mg_in (i := 48) (by decide +kernel) (by decide +kernel)
theorem muX2 : ∀ w ∈ u_ws RX2 TX2 5, w ∈ mGW := mg_all [135, 137, 139, 141, 143] (by decide +kernel) (by decide +kernel)
theorem miX2 : Cond.instantiable RX2 5 ∈ mGW := mg_in (i := 120) (by decide +kernel) (by decide +kernel)
theorem mzX2 : Cond.initialized RX2 ∈ mGW := mg_in (i := 47) (by decide +kernel) (by decide +kernel)
theorem muX3 : ∀ w ∈ u_ws RX3 TX3 2, w ∈ mGW := mg_all [215, 217] (by decide +kernel) (by decide +kernel)
theorem miX3 : Cond.instantiable RX3 2 ∈ mGW := mg_in (i := 206) (by decide +kernel) (by decide +kernel)
theorem mzX3 : Cond.initialized RX3 ∈ mGW := mg_in (i := 50) (by decide +kernel) (by decide +kernel)
theorem muX4 : ∀ w ∈ u_ws RX4 TX4 6, w ∈ mGW := mg_all [159, 161, 163, 165, 167, 169] (by decide +kernel) (by decide +kernel)
theorem miX4 : Cond.instantiable RX4 6 ∈ mGW := mg_in (i := 64) (by decide +kernel) (by decide +kernel)
theorem mzX4 : Cond.initialized RX4 ∈ mGW := mg_in (i := 45) (by decide +kernel) (by decide +kernel)
theorem muX5 : ∀ w ∈ u_ws RX5 TX5 2, w ∈ mGW := mg_all [199, 201] (by decide +kernel) (by decide +kernel)
theorem miX5 : Cond.instantiable RX5 2 ∈ mGW := mg_in (i := 190) (by decide +kernel) (by decide +kernel)
theorem mzX5 : Cond.initialized RX5 ∈ mGW := mg_in (i := 49) (by decide +kernel) (by decide +kernel)
theorem muX6 : ∀ w ∈ u_ws RX6 TX6 4, w ∈ mGW := mg_all [224, 226, 228, 230] (by decide +kernel) (by decide +kernel)
theorem miX6 : Cond.instantiable RX6 4 ∈ mGW := mg_in (i := 56) (by decide +kernel) (by decide +kernel)
theorem mzX6 : Cond.initialized RX6 ∈ mGW := mg_in (i := 44) (by decide +kernel) (by decide +kernel)
theorem muX7 : ∀ w ∈ u_ws RX7 TX7 12, w ∈ mGW := mg_all [601, 603, 605, 607, 609, 611, 613, 615, 617, 619, 621, 623] (by decide +kernel) (by decide +kernel)
theorem miX7 : Cond.instantiable RX7 12 ∈ mGW := mg_in (i := 584) (by decide +kernel) (by decide +kernel)
theorem mzX7 : Cond.initialized RX7 ∈ mGW := mg_in (i := 51) (by decide +kernel) (by decide +kernel)
