section
-- ===== PART A: goes FIRST, ahead of the names: the tables' words, and 'selects' of the private methods out of them =====
/-- a private method of a class that the tables say can be made, by its rows of tables_1 -/
def lw_okq (q : MethodName × Nat) : Prop := (q.1.cls ≠ "java/lang/invoke/MethodHandle" ∧ q.1.cls ≠ "java/lang/invoke/VarHandle") ∧ Cond.instantiable q.1.cls q.2 ∈ tables_1 ∧ Cond.privateMethod q.1 ∈ tables_1 ∧ Cond.instanceMethod q.1 ∈ tables_1
theorem lw_p0 : lw_okq (⟨"PauseLexicons", "keptUnlessError", "(I)I"⟩, 4) := ⟨⟨by decide +kernel, by decide +kernel⟩, List.mem_of_getElem? (i := 13) (by decide +kernel), List.mem_of_getElem? (i := 222) (by decide +kernel), List.mem_of_getElem? (i := 223) (by decide +kernel)⟩
theorem lw_p1 : lw_okq (⟨"PauseLexicons$Room", "dropPauseOfNobody", "(I)V"⟩, 6) := ⟨⟨by decide +kernel, by decide +kernel⟩, List.mem_of_getElem? (i := 21) (by decide +kernel), List.mem_of_getElem? (i := 260) (by decide +kernel), List.mem_of_getElem? (i := 261) (by decide +kernel)⟩
theorem lw_p2 : lw_okq (⟨"PauseLexicons$Room", "beginOfShade", "(I)I"⟩, 6) := ⟨⟨by decide +kernel, by decide +kernel⟩, List.mem_of_getElem? (i := 21) (by decide +kernel), List.mem_of_getElem? (i := 310) (by decide +kernel), List.mem_of_getElem? (i := 311) (by decide +kernel)⟩
theorem lw_p3 : lw_okq (⟨"PauseLexicons$Room", "endPause", "(IIII)V"⟩, 6) := ⟨⟨by decide +kernel, by decide +kernel⟩, List.mem_of_getElem? (i := 21) (by decide +kernel), List.mem_of_getElem? (i := 323) (by decide +kernel), List.mem_of_getElem? (i := 324) (by decide +kernel)⟩
theorem lw_p4 : lw_okq (⟨"PauseLexicons", "obeyOrders", "()I"⟩, 4) := ⟨⟨by decide +kernel, by decide +kernel⟩, List.mem_of_getElem? (i := 13) (by decide +kernel), List.mem_of_getElem? (i := 496) (by decide +kernel), List.mem_of_getElem? (i := 497) (by decide +kernel)⟩
theorem lw_p5 : lw_okq (⟨"PauseLexicons", "obeyOrder", "(II)I"⟩, 4) := ⟨⟨by decide +kernel, by decide +kernel⟩, List.mem_of_getElem? (i := 13) (by decide +kernel), List.mem_of_getElem? (i := 504) (by decide +kernel), List.mem_of_getElem? (i := 505) (by decide +kernel)⟩
theorem lw_p6 : lw_okq (⟨"PauseLexiconsModel", "records", "()V"⟩, 12) := ⟨⟨by decide +kernel, by decide +kernel⟩, List.mem_of_getElem? (i := 541) (by decide +kernel), List.mem_of_getElem? (i := 594) (by decide +kernel), List.mem_of_getElem? (i := 595) (by decide +kernel)⟩
theorem lw_p7 : lw_okq (⟨"PauseLexiconsModel", "refusesGuest", "(II)I"⟩, 12) := ⟨⟨by decide +kernel, by decide +kernel⟩, List.mem_of_getElem? (i := 541) (by decide +kernel), List.mem_of_getElem? (i := 602) (by decide +kernel), List.mem_of_getElem? (i := 603) (by decide +kernel)⟩
theorem lw_p8 : lw_okq (⟨"PauseLexiconsModel", "comes", "(II)I"⟩, 12) := ⟨⟨by decide +kernel, by decide +kernel⟩, List.mem_of_getElem? (i := 541) (by decide +kernel), List.mem_of_getElem? (i := 609) (by decide +kernel), List.mem_of_getElem? (i := 610) (by decide +kernel)⟩
theorem lw_p9 : lw_okq (⟨"PauseLexiconsModel", "lay", "(III)V"⟩, 12) := ⟨⟨by decide +kernel, by decide +kernel⟩, List.mem_of_getElem? (i := 541) (by decide +kernel), List.mem_of_getElem? (i := 613) (by decide +kernel), List.mem_of_getElem? (i := 614) (by decide +kernel)⟩
theorem lw_p10 : lw_okq (⟨"PauseLexiconsModel", "refusesLeaving", "(I)I"⟩, 12) := ⟨⟨by decide +kernel, by decide +kernel⟩, List.mem_of_getElem? (i := 541) (by decide +kernel), List.mem_of_getElem? (i := 621) (by decide +kernel), List.mem_of_getElem? (i := 622) (by decide +kernel)⟩
theorem lw_p11 : lw_okq (⟨"PauseLexiconsModel", "isGuest", "(I)Z"⟩, 12) := ⟨⟨by decide +kernel, by decide +kernel⟩, List.mem_of_getElem? (i := 541) (by decide +kernel), List.mem_of_getElem? (i := 625) (by decide +kernel), List.mem_of_getElem? (i := 626) (by decide +kernel)⟩
theorem lw_p12 : lw_okq (⟨"PauseLexiconsModel", "has", "(II)I"⟩, 12) := ⟨⟨by decide +kernel, by decide +kernel⟩, List.mem_of_getElem? (i := 541) (by decide +kernel), List.mem_of_getElem? (i := 629) (by decide +kernel), List.mem_of_getElem? (i := 630) (by decide +kernel)⟩
theorem lw_p13 : lw_okq (⟨"PauseLexiconsModel", "goes", "(II)I"⟩, 12) := ⟨⟨by decide +kernel, by decide +kernel⟩, List.mem_of_getElem? (i := 541) (by decide +kernel), List.mem_of_getElem? (i := 633) (by decide +kernel), List.mem_of_getElem? (i := 634) (by decide +kernel)⟩
theorem lw_p14 : lw_okq (⟨"PauseLexiconsModel", "guestsAt", "(I)I"⟩, 12) := ⟨⟨by decide +kernel, by decide +kernel⟩, List.mem_of_getElem? (i := 541) (by decide +kernel), List.mem_of_getElem? (i := 637) (by decide +kernel), List.mem_of_getElem? (i := 638) (by decide +kernel)⟩
theorem lw_p15 : lw_okq (⟨"PauseLexiconsModel", "refusesPause", "(I)I"⟩, 12) := ⟨⟨by decide +kernel, by decide +kernel⟩, List.mem_of_getElem? (i := 541) (by decide +kernel), List.mem_of_getElem? (i := 652) (by decide +kernel), List.mem_of_getElem? (i := 653) (by decide +kernel)⟩
def lw_privs_1 : List (MethodName × Nat) := [(⟨"PauseLexicons", "keptUnlessError", "(I)I"⟩, 4), (⟨"PauseLexicons$Room", "dropPauseOfNobody", "(I)V"⟩, 6), (⟨"PauseLexicons$Room", "beginOfShade", "(I)I"⟩, 6), (⟨"PauseLexicons$Room", "endPause", "(IIII)V"⟩, 6), (⟨"PauseLexicons", "obeyOrders", "()I"⟩, 4), (⟨"PauseLexicons", "obeyOrder", "(II)I"⟩, 4), (⟨"PauseLexiconsModel", "records", "()V"⟩, 12), (⟨"PauseLexiconsModel", "refusesGuest", "(II)I"⟩, 12), (⟨"PauseLexiconsModel", "comes", "(II)I"⟩, 12), (⟨"PauseLexiconsModel", "lay", "(III)V"⟩, 12), (⟨"PauseLexiconsModel", "refusesLeaving", "(I)I"⟩, 12), (⟨"PauseLexiconsModel", "isGuest", "(I)Z"⟩, 12), (⟨"PauseLexiconsModel", "has", "(II)I"⟩, 12), (⟨"PauseLexiconsModel", "goes", "(II)I"⟩, 12), (⟨"PauseLexiconsModel", "guestsAt", "(I)I"⟩, 12), (⟨"PauseLexiconsModel", "refusesPause", "(I)I"⟩, 12)]
theorem lw_r1 : ∀ q ∈ lw_privs_1, lw_okq q := List.forall_mem_cons.mpr ⟨lw_p0, List.forall_mem_cons.mpr ⟨lw_p1, List.forall_mem_cons.mpr ⟨lw_p2, List.forall_mem_cons.mpr ⟨lw_p3, List.forall_mem_cons.mpr ⟨lw_p4, List.forall_mem_cons.mpr ⟨lw_p5, List.forall_mem_cons.mpr ⟨lw_p6, List.forall_mem_cons.mpr ⟨lw_p7, List.forall_mem_cons.mpr ⟨lw_p8, List.forall_mem_cons.mpr ⟨lw_p9, List.forall_mem_cons.mpr ⟨lw_p10, List.forall_mem_cons.mpr ⟨lw_p11, List.forall_mem_cons.mpr ⟨lw_p12, List.forall_mem_cons.mpr ⟨lw_p13, List.forall_mem_cons.mpr ⟨lw_p14, List.forall_mem_cons.mpr ⟨lw_p15, fun _ h => absurd h List.not_mem_nil⟩⟩⟩⟩⟩⟩⟩⟩⟩⟩⟩⟩⟩⟩⟩⟩
theorem lw_p16 : lw_okq (⟨"PauseLexiconsModel", "isPause", "(I)Z"⟩, 12) := ⟨⟨by decide +kernel, by decide +kernel⟩, List.mem_of_getElem? (i := 541) (by decide +kernel), List.mem_of_getElem? (i := 656) (by decide +kernel), List.mem_of_getElem? (i := 657) (by decide +kernel)⟩
theorem lw_p17 : lw_okq (⟨"PauseLexiconsModel", "begins", "(I)I"⟩, 12) := ⟨⟨by decide +kernel, by decide +kernel⟩, List.mem_of_getElem? (i := 541) (by decide +kernel), List.mem_of_getElem? (i := 660) (by decide +kernel), List.mem_of_getElem? (i := 661) (by decide +kernel)⟩
theorem lw_p18 : lw_okq (⟨"PauseLexiconsModel", "companyOf", "(I)I"⟩, 12) := ⟨⟨by decide +kernel, by decide +kernel⟩, List.mem_of_getElem? (i := 541) (by decide +kernel), List.mem_of_getElem? (i := 664) (by decide +kernel), List.mem_of_getElem? (i := 665) (by decide +kernel)⟩
theorem lw_p19 : lw_okq (⟨"PauseLexiconsModel", "refusesClosing", "(I)I"⟩, 12) := ⟨⟨by decide +kernel, by decide +kernel⟩, List.mem_of_getElem? (i := 541) (by decide +kernel), List.mem_of_getElem? (i := 672) (by decide +kernel), List.mem_of_getElem? (i := 673) (by decide +kernel)⟩
theorem lw_p20 : lw_okq (⟨"PauseLexiconsModel", "closes", "(I)I"⟩, 12) := ⟨⟨by decide +kernel, by decide +kernel⟩, List.mem_of_getElem? (i := 541) (by decide +kernel), List.mem_of_getElem? (i := 676) (by decide +kernel), List.mem_of_getElem? (i := 677) (by decide +kernel)⟩
theorem lw_p21 : lw_okq (⟨"PauseLexiconsModel", "meansNow", "(I)I"⟩, 12) := ⟨⟨by decide +kernel, by decide +kernel⟩, List.mem_of_getElem? (i := 541) (by decide +kernel), List.mem_of_getElem? (i := 680) (by decide +kernel), List.mem_of_getElem? (i := 681) (by decide +kernel)⟩
theorem lw_p22 : lw_okq (⟨"PauseLexiconsModel", "means", "(II)I"⟩, 12) := ⟨⟨by decide +kernel, by decide +kernel⟩, List.mem_of_getElem? (i := 541) (by decide +kernel), List.mem_of_getElem? (i := 684) (by decide +kernel), List.mem_of_getElem? (i := 685) (by decide +kernel)⟩
theorem lw_p23 : lw_okq (⟨"PauseLexiconsModel", "ends", "(IIII)V"⟩, 12) := ⟨⟨by decide +kernel, by decide +kernel⟩, List.mem_of_getElem? (i := 541) (by decide +kernel), List.mem_of_getElem? (i := 688) (by decide +kernel), List.mem_of_getElem? (i := 689) (by decide +kernel)⟩
theorem lw_p24 : lw_okq (⟨"PauseLexiconsModel", "refusesBreak", "(I)I"⟩, 12) := ⟨⟨by decide +kernel, by decide +kernel⟩, List.mem_of_getElem? (i := 541) (by decide +kernel), List.mem_of_getElem? (i := 696) (by decide +kernel), List.mem_of_getElem? (i := 697) (by decide +kernel)⟩
theorem lw_p25 : lw_okq (⟨"PauseLexiconsModel", "speaks", "(I)I"⟩, 12) := ⟨⟨by decide +kernel, by decide +kernel⟩, List.mem_of_getElem? (i := 541) (by decide +kernel), List.mem_of_getElem? (i := 700) (by decide +kernel), List.mem_of_getElem? (i := 701) (by decide +kernel)⟩
theorem lw_p26 : lw_okq (⟨"PauseLexiconsModel", "hostOf", "(I)I"⟩, 12) := ⟨⟨by decide +kernel, by decide +kernel⟩, List.mem_of_getElem? (i := 541) (by decide +kernel), List.mem_of_getElem? (i := 704) (by decide +kernel), List.mem_of_getElem? (i := 705) (by decide +kernel)⟩
theorem lw_p27 : lw_okq (⟨"PauseLexiconsModel", "coughs", "(I)I"⟩, 12) := ⟨⟨by decide +kernel, by decide +kernel⟩, List.mem_of_getElem? (i := 541) (by decide +kernel), List.mem_of_getElem? (i := 712) (by decide +kernel), List.mem_of_getElem? (i := 713) (by decide +kernel)⟩
theorem lw_p28 : lw_okq (⟨"PauseLexiconsModel", "lenderFor", "(I)I"⟩, 12) := ⟨⟨by decide +kernel, by decide +kernel⟩, List.mem_of_getElem? (i := 541) (by decide +kernel), List.mem_of_getElem? (i := 716) (by decide +kernel), List.mem_of_getElem? (i := 717) (by decide +kernel)⟩
theorem lw_p29 : lw_okq (⟨"PauseLexiconsModel", "refusesSeconds", "(I)I"⟩, 12) := ⟨⟨by decide +kernel, by decide +kernel⟩, List.mem_of_getElem? (i := 541) (by decide +kernel), List.mem_of_getElem? (i := 724) (by decide +kernel), List.mem_of_getElem? (i := 725) (by decide +kernel)⟩
theorem lw_p30 : lw_okq (⟨"PauseLexiconsModel", "passes", "(I)I"⟩, 12) := ⟨⟨by decide +kernel, by decide +kernel⟩, List.mem_of_getElem? (i := 541) (by decide +kernel), List.mem_of_getElem? (i := 728) (by decide +kernel), List.mem_of_getElem? (i := 729) (by decide +kernel)⟩
theorem lw_p31 : lw_okq (⟨"PauseLexiconsModel", "tellsGuest", "(II)I"⟩, 12) := ⟨⟨by decide +kernel, by decide +kernel⟩, List.mem_of_getElem? (i := 541) (by decide +kernel), List.mem_of_getElem? (i := 736) (by decide +kernel), List.mem_of_getElem? (i := 737) (by decide +kernel)⟩
def lw_privs_2 : List (MethodName × Nat) := [(⟨"PauseLexiconsModel", "isPause", "(I)Z"⟩, 12), (⟨"PauseLexiconsModel", "begins", "(I)I"⟩, 12), (⟨"PauseLexiconsModel", "companyOf", "(I)I"⟩, 12), (⟨"PauseLexiconsModel", "refusesClosing", "(I)I"⟩, 12), (⟨"PauseLexiconsModel", "closes", "(I)I"⟩, 12), (⟨"PauseLexiconsModel", "meansNow", "(I)I"⟩, 12), (⟨"PauseLexiconsModel", "means", "(II)I"⟩, 12), (⟨"PauseLexiconsModel", "ends", "(IIII)V"⟩, 12), (⟨"PauseLexiconsModel", "refusesBreak", "(I)I"⟩, 12), (⟨"PauseLexiconsModel", "speaks", "(I)I"⟩, 12), (⟨"PauseLexiconsModel", "hostOf", "(I)I"⟩, 12), (⟨"PauseLexiconsModel", "coughs", "(I)I"⟩, 12), (⟨"PauseLexiconsModel", "lenderFor", "(I)I"⟩, 12), (⟨"PauseLexiconsModel", "refusesSeconds", "(I)I"⟩, 12), (⟨"PauseLexiconsModel", "passes", "(I)I"⟩, 12), (⟨"PauseLexiconsModel", "tellsGuest", "(II)I"⟩, 12)]
theorem lw_r2 : ∀ q ∈ lw_privs_2, lw_okq q := List.forall_mem_cons.mpr ⟨lw_p16, List.forall_mem_cons.mpr ⟨lw_p17, List.forall_mem_cons.mpr ⟨lw_p18, List.forall_mem_cons.mpr ⟨lw_p19, List.forall_mem_cons.mpr ⟨lw_p20, List.forall_mem_cons.mpr ⟨lw_p21, List.forall_mem_cons.mpr ⟨lw_p22, List.forall_mem_cons.mpr ⟨lw_p23, List.forall_mem_cons.mpr ⟨lw_p24, List.forall_mem_cons.mpr ⟨lw_p25, List.forall_mem_cons.mpr ⟨lw_p26, List.forall_mem_cons.mpr ⟨lw_p27, List.forall_mem_cons.mpr ⟨lw_p28, List.forall_mem_cons.mpr ⟨lw_p29, List.forall_mem_cons.mpr ⟨lw_p30, List.forall_mem_cons.mpr ⟨lw_p31, fun _ h => absurd h List.not_mem_nil⟩⟩⟩⟩⟩⟩⟩⟩⟩⟩⟩⟩⟩⟩⟩⟩
theorem lw_p32 : lw_okq (⟨"PauseLexiconsModel", "there", "()I"⟩, 12) := ⟨⟨by decide +kernel, by decide +kernel⟩, List.mem_of_getElem? (i := 541) (by decide +kernel), List.mem_of_getElem? (i := 756) (by decide +kernel), List.mem_of_getElem? (i := 757) (by decide +kernel)⟩
theorem lw_p33 : lw_okq (⟨"PauseLexiconsModel", "pauses", "()I"⟩, 12) := ⟨⟨by decide +kernel, by decide +kernel⟩, List.mem_of_getElem? (i := 541) (by decide +kernel), List.mem_of_getElem? (i := 760) (by decide +kernel), List.mem_of_getElem? (i := 761) (by decide +kernel)⟩
theorem lw_p34 : lw_okq (⟨"PauseLexiconsModel", "sumOf", "(IZ)I"⟩, 12) := ⟨⟨by decide +kernel, by decide +kernel⟩, List.mem_of_getElem? (i := 541) (by decide +kernel), List.mem_of_getElem? (i := 764) (by decide +kernel), List.mem_of_getElem? (i := 765) (by decide +kernel)⟩
theorem lw_p35 : lw_okq (⟨"PauseLexiconsModel", "meantSet", "()I"⟩, 12) := ⟨⟨by decide +kernel, by decide +kernel⟩, List.mem_of_getElem? (i := 541) (by decide +kernel), List.mem_of_getElem? (i := 768) (by decide +kernel), List.mem_of_getElem? (i := 769) (by decide +kernel)⟩
theorem lw_p36 : lw_okq (⟨"PauseLexiconsModel", "reads", "()I"⟩, 12) := ⟨⟨by decide +kernel, by decide +kernel⟩, List.mem_of_getElem? (i := 541) (by decide +kernel), List.mem_of_getElem? (i := 805) (by decide +kernel), List.mem_of_getElem? (i := 806) (by decide +kernel)⟩
theorem lw_p37 : lw_okq (⟨"PauseLexiconsModel", "readsOrder", "()V"⟩, 12) := ⟨⟨by decide +kernel, by decide +kernel⟩, List.mem_of_getElem? (i := 541) (by decide +kernel), List.mem_of_getElem? (i := 809) (by decide +kernel), List.mem_of_getElem? (i := 810) (by decide +kernel)⟩
theorem lw_p38 : lw_okq (⟨"PauseLexiconsModel", "sign", "()I"⟩, 12) := ⟨⟨by decide +kernel, by decide +kernel⟩, List.mem_of_getElem? (i := 541) (by decide +kernel), List.mem_of_getElem? (i := 813) (by decide +kernel), List.mem_of_getElem? (i := 814) (by decide +kernel)⟩
theorem lw_p39 : lw_okq (⟨"PauseLexiconsModel", "digit", "()I"⟩, 12) := ⟨⟨by decide +kernel, by decide +kernel⟩, List.mem_of_getElem? (i := 541) (by decide +kernel), List.mem_of_getElem? (i := 817) (by decide +kernel), List.mem_of_getElem? (i := 818) (by decide +kernel)⟩
theorem lw_p40 : lw_okq (⟨"PauseLexiconsModel", "number", "()I"⟩, 12) := ⟨⟨by decide +kernel, by decide +kernel⟩, List.mem_of_getElem? (i := 541) (by decide +kernel), List.mem_of_getElem? (i := 821) (by decide +kernel), List.mem_of_getElem? (i := 822) (by decide +kernel)⟩
theorem lw_p41 : lw_okq (⟨"PauseLexiconsModel", "refuses", "(III)I"⟩, 12) := ⟨⟨by decide +kernel, by decide +kernel⟩, List.mem_of_getElem? (i := 541) (by decide +kernel), List.mem_of_getElem? (i := 829) (by decide +kernel), List.mem_of_getElem? (i := 830) (by decide +kernel)⟩
theorem lw_p42 : lw_okq (⟨"PauseLexiconsModel", "does", "(III)V"⟩, 12) := ⟨⟨by decide +kernel, by decide +kernel⟩, List.mem_of_getElem? (i := 541) (by decide +kernel), List.mem_of_getElem? (i := 833) (by decide +kernel), List.mem_of_getElem? (i := 834) (by decide +kernel)⟩
def lw_privs_3 : List (MethodName × Nat) := [(⟨"PauseLexiconsModel", "there", "()I"⟩, 12), (⟨"PauseLexiconsModel", "pauses", "()I"⟩, 12), (⟨"PauseLexiconsModel", "sumOf", "(IZ)I"⟩, 12), (⟨"PauseLexiconsModel", "meantSet", "()I"⟩, 12), (⟨"PauseLexiconsModel", "reads", "()I"⟩, 12), (⟨"PauseLexiconsModel", "readsOrder", "()V"⟩, 12), (⟨"PauseLexiconsModel", "sign", "()I"⟩, 12), (⟨"PauseLexiconsModel", "digit", "()I"⟩, 12), (⟨"PauseLexiconsModel", "number", "()I"⟩, 12), (⟨"PauseLexiconsModel", "refuses", "(III)I"⟩, 12), (⟨"PauseLexiconsModel", "does", "(III)V"⟩, 12)]
theorem lw_r3 : ∀ q ∈ lw_privs_3, lw_okq q := List.forall_mem_cons.mpr ⟨lw_p32, List.forall_mem_cons.mpr ⟨lw_p33, List.forall_mem_cons.mpr ⟨lw_p34, List.forall_mem_cons.mpr ⟨lw_p35, List.forall_mem_cons.mpr ⟨lw_p36, List.forall_mem_cons.mpr ⟨lw_p37, List.forall_mem_cons.mpr ⟨lw_p38, List.forall_mem_cons.mpr ⟨lw_p39, List.forall_mem_cons.mpr ⟨lw_p40, List.forall_mem_cons.mpr ⟨lw_p41, List.forall_mem_cons.mpr ⟨lw_p42, fun _ h => absurd h List.not_mem_nil⟩⟩⟩⟩⟩⟩⟩⟩⟩⟩⟩
def lw_privs : List (MethodName × Nat) := lw_privs_1 ++ (lw_privs_2 ++ (lw_privs_3))
def lw_tbl : List Cond := k2_sels lw_privs ++ tables_1
theorem lw_privs_ok : ∀ q ∈ lw_privs, lw_okq q := by
  show ∀ q ∈ lw_privs_1 ++ (lw_privs_2 ++ (lw_privs_3)), lw_okq q
  exact List.forall_mem_append.mpr ⟨lw_r1, List.forall_mem_append.mpr ⟨lw_r2, lw_r3⟩⟩
-- names, fields, code (out of NAMES.whole)
def RX0 : String := "PauseLexicons$Guests"
def TX0 : u_T := fun k => match k with
  | 0 => ("PauseLexicons$Guests", "came", "I", false)
  | 1 => ("PauseLexicons$Guests", "seats", "[I", true)
  | 2 => ("PauseLexicons$Guests", "ranks", "[I", true)
  | 3 => ("PauseLexicons$Guests", "faults", "[I", true)
  | 4 => ("PauseLexicons$Guests", "coughs", "[I", true)
  | 5 => ("PauseLexicons$Guests", "broken", "[I", true)
  | _ => ("PauseLexicons$Guests", "lent", "[I", true)
def tyX0 : Nat → FieldType := fun k => match k with
  | 0 => .int
  | 1 => .array .int
  | 2 => .array .int
  | 3 => .array .int
  | 4 => .array .int
  | 5 => .array .int
  | _ => .array .int
theorem nmX0 : ∀ a, a < 7 → ∀ b, b < 7 → a ≠ b → (TX0 a).2.1 ≠ (TX0 b).2.1 := by decide +kernel
theorem tyX0_ok : ∀ k, k < 7 → parseFieldDescriptor (TX0 k).2.2.1 = some (tyX0 k) := by decide +kernel
abbrev cX0_init : ByteArray := prog_2_method_1_code
def yX0_init : MethodName := ⟨RX0, "<init>", "()V"⟩
abbrev cX0_copyFrom : ByteArray := prog_2_method_2_code
def yX0_copyFrom : MethodName := ⟨RX0, "copyFrom", "(LPauseLexicons$Guests;)V"⟩
abbrev cX0_add : ByteArray := prog_2_method_3_code
def yX0_add : MethodName := ⟨RX0, "add", "(III)I"⟩
abbrev cX0_isKnown : ByteArray := prog_2_method_4_code
def yX0_isKnown : MethodName := ⟨RX0, "isKnown", "(I)Z"⟩
abbrev cX0_isHost : ByteArray := prog_2_method_5_code
def yX0_isHost : MethodName := ⟨RX0, "isHost", "(I)Z"⟩
abbrev cX0_setAt : ByteArray := prog_2_method_6_code
def yX0_setAt : MethodName := ⟨RX0, "setAt", "(I)I"⟩
abbrev cX0_setOfThoseHere : ByteArray := prog_2_method_7_code
def yX0_setOfThoseHere : MethodName := ⟨RX0, "setOfThoseHere", "()I"⟩
abbrev cX0_hostOf : ByteArray := prog_2_method_8_code
def yX0_hostOf : MethodName := ⟨RX0, "hostOf", "(I)I"⟩
abbrev cX0_companyOf : ByteArray := prog_2_method_9_code
def yX0_companyOf : MethodName := ⟨RX0, "companyOf", "(II)I"⟩
abbrev cX0_lenderTo : ByteArray := prog_2_method_10_code
def yX0_lenderTo : MethodName := ⟨RX0, "lenderTo", "(II)I"⟩
abbrev cX0_faultsOfAll : ByteArray := prog_2_method_11_code
def yX0_faultsOfAll : MethodName := ⟨RX0, "faultsOfAll", "()I"⟩
abbrev cX0_coughsOfThoseHere : ByteArray := prog_2_method_12_code
def yX0_coughsOfThoseHere : MethodName := ⟨RX0, "coughsOfThoseHere", "()I"⟩
def RX1 : String := "PauseLexicons$History"
def TX1 : u_T := fun k => match k with
  | 0 => ("PauseLexicons$History", "states", "[LPauseLexicons$Room;", true)
  | _ => ("PauseLexicons$History", "kept", "I", false)
def tyX1 : Nat → FieldType := fun k => match k with
  | 0 => .array (.object "PauseLexicons$Room")
  | _ => .int
theorem nmX1 : ∀ a, a < 2 → ∀ b, b < 2 → a ≠ b → (TX1 a).2.1 ≠ (TX1 b).2.1 := by decide +kernel
theorem tyX1_ok : ∀ k, k < 2 → parseFieldDescriptor (TX1 k).2.2.1 = some (tyX1 k) := by decide +kernel
abbrev cX1_init : ByteArray := prog_3_method_1_code
def yX1_init : MethodName := ⟨RX1, "<init>", "()V"⟩
abbrev cX1_noteBefore : ByteArray := prog_3_method_2_code
def yX1_noteBefore : MethodName := ⟨RX1, "noteBefore", "(LPauseLexicons$Room;)V"⟩
abbrev cX1_keepNoted : ByteArray := prog_3_method_3_code
def yX1_keepNoted : MethodName := ⟨RX1, "keepNoted", "()V"⟩
abbrev cX1_takeBack : ByteArray := prog_3_method_4_code
def yX1_takeBack : MethodName := ⟨RX1, "takeBack", "(LPauseLexicons$Room;)I"⟩
def RX2 : String := "PauseLexicons$Lexicon"
def TX2 : u_T := fun k => match k with
  | 0 => ("PauseLexicons$Lexicon", "often", "[I", true)
  | 1 => ("PauseLexicons$Lexicon", "longest", "[I", true)
  | 2 => ("PauseLexicons$Lexicon", "endings", "[I", true)
  | 3 => ("PauseLexicons$Lexicon", "ends", "[I", true)
  | _ => ("PauseLexicons$Lexicon", "told", "I", false)
def tyX2 : Nat → FieldType := fun k => match k with
  | 0 => .array .int
  | 1 => .array .int
  | 2 => .array .int
  | 3 => .array .int
  | _ => .int
theorem nmX2 : ∀ a, a < 5 → ∀ b, b < 5 → a ≠ b → (TX2 a).2.1 ≠ (TX2 b).2.1 := by decide +kernel
theorem tyX2_ok : ∀ k, k < 5 → parseFieldDescriptor (TX2 k).2.2.1 = some (tyX2 k) := by decide +kernel
abbrev cX2_init : ByteArray := prog_4_method_1_code
def yX2_init : MethodName := ⟨RX2, "<init>", "()V"⟩
abbrev cX2_copyFrom : ByteArray := prog_4_method_2_code
def yX2_copyFrom : MethodName := ⟨RX2, "copyFrom", "(LPauseLexicons$Lexicon;)V"⟩
abbrev cX2_enterMeaning : ByteArray := prog_4_method_3_code
def yX2_enterMeaning : MethodName := ⟨RX2, "enterMeaning", "(II)V"⟩
abbrev cX2_tellEnd : ByteArray := prog_4_method_4_code
def yX2_tellEnd : MethodName := ⟨RX2, "tellEnd", "(IIIII)V"⟩
abbrev cX2_setOfMeant : ByteArray := prog_4_method_5_code
def yX2_setOfMeant : MethodName := ⟨RX2, "setOfMeant", "()I"⟩
abbrev cX2_mostMeant : ByteArray := prog_4_method_6_code
def yX2_mostMeant : MethodName := ⟨RX2, "mostMeant", "()I"⟩
def RX3 : String := "PauseLexicons$Pad"
def TX3 : u_T := fun k => match k with
  | 0 => ("PauseLexicons$Pad", "codes", "[I", true)
  | _ => ("PauseLexicons$Pad", "length", "I", false)
def tyX3 : Nat → FieldType := fun k => match k with
  | 0 => .array .int
  | _ => .int
theorem nmX3 : ∀ a, a < 2 → ∀ b, b < 2 → a ≠ b → (TX3 a).2.1 ≠ (TX3 b).2.1 := by decide +kernel
theorem tyX3_ok : ∀ k, k < 2 → parseFieldDescriptor (TX3 k).2.2.1 = some (tyX3 k) := by decide +kernel
abbrev cX3_init : ByteArray := prog_5_method_1_code
def yX3_init : MethodName := ⟨RX3, "<init>", "()V"⟩
abbrev cX3_append : ByteArray := prog_5_method_2_code
def yX3_append : MethodName := ⟨RX3, "append", "(J)I"⟩
abbrev cX3_charactersIn : ByteArray := prog_5_method_3_code
def yX3_charactersIn : MethodName := ⟨RX3, "charactersIn", "(J)I"⟩
abbrev cX3_codeOf : ByteArray := prog_5_method_4_code
def yX3_codeOf : MethodName := ⟨RX3, "codeOf", "(JI)I"⟩
abbrev cX3_clear : ByteArray := prog_5_method_5_code
def yX3_clear : MethodName := ⟨RX3, "clear", "()I"⟩
abbrev cX3_firstFault : ByteArray := prog_5_method_6_code
def yX3_firstFault : MethodName := ⟨RX3, "firstFault", "()I"⟩
abbrev cX3_expectedAfter : ByteArray := prog_5_method_7_code
def yX3_expectedAfter : MethodName := ⟨RX3, "expectedAfter", "(II)I"⟩
abbrev cX3_expectedAfterLetter : ByteArray := prog_5_method_8_code
def yX3_expectedAfterLetter : MethodName := ⟨RX3, "expectedAfterLetter", "(I)I"⟩
abbrev cX3_isDigit : ByteArray := prog_5_method_9_code
def yX3_isDigit : MethodName := ⟨RX3, "isDigit", "(I)Z"⟩
abbrev cX3_endOfOrder : ByteArray := prog_5_method_10_code
def yX3_endOfOrder : MethodName := ⟨RX3, "endOfOrder", "(I)I"⟩
abbrev cX3_firstDigit : ByteArray := prog_5_method_11_code
def yX3_firstDigit : MethodName := ⟨RX3, "firstDigit", "(II)I"⟩
abbrev cX3_lastNumber : ByteArray := prog_5_method_12_code
def yX3_lastNumber : MethodName := ⟨RX3, "lastNumber", "(II)I"⟩
def RX4 : String := "PauseLexicons$Room"
def TX4 : u_T := fun k => match k with
  | 0 => ("PauseLexicons$Room", "time", "I", false)
  | 1 => ("PauseLexicons$Room", "settings", "[I", true)
  | 2 => ("PauseLexicons$Room", "guests", "LPauseLexicons$Guests;", true)
  | 3 => ("PauseLexicons$Room", "lexicon", "LPauseLexicons$Lexicon;", true)
  | 4 => ("PauseLexicons$Room", "pauses", "[I", true)
  | _ => ("PauseLexicons$Room", "ended", "[I", true)
def tyX4 : Nat → FieldType := fun k => match k with
  | 0 => .int
  | 1 => .array .int
  | 2 => .object "PauseLexicons$Guests"
  | 3 => .object "PauseLexicons$Lexicon"
  | 4 => .array .int
  | _ => .array .int
theorem nmX4 : ∀ a, a < 6 → ∀ b, b < 6 → a ≠ b → (TX4 a).2.1 ≠ (TX4 b).2.1 := by decide +kernel
theorem tyX4_ok : ∀ k, k < 6 → parseFieldDescriptor (TX4 k).2.2.1 = some (tyX4 k) := by decide +kernel
abbrev cX4_init : ByteArray := prog_6_method_1_code
def yX4_init : MethodName := ⟨RX4, "<init>", "()V"⟩
abbrev cX4_copyFrom : ByteArray := prog_6_method_2_code
def yX4_copyFrom : MethodName := ⟨RX4, "copyFrom", "(LPauseLexicons$Room;)V"⟩
abbrev cX4_changeSetting : ByteArray := prog_6_method_3_code
def yX4_changeSetting : MethodName := ⟨RX4, "changeSetting", "(II)I"⟩
abbrev cX4_welcome : ByteArray := prog_6_method_4_code
def yX4_welcome : MethodName := ⟨RX4, "welcome", "(II)I"⟩
abbrev cX4_seeOff : ByteArray := prog_6_method_5_code
def yX4_seeOff : MethodName := ⟨RX4, "seeOff", "(I)I"⟩
abbrev cX4_reseat : ByteArray := prog_6_method_6_code
def yX4_reseat : MethodName := ⟨RX4, "reseat", "(II)I"⟩
abbrev cX4_beginPause : ByteArray := prog_6_method_7_code
def yX4_beginPause : MethodName := ⟨RX4, "beginPause", "(I)I"⟩
abbrev cX4_closePause : ByteArray := prog_6_method_8_code
def yX4_closePause : MethodName := ⟨RX4, "closePause", "(I)I"⟩
abbrev cX4_breakByWord : ByteArray := prog_6_method_9_code
def yX4_breakByWord : MethodName := ⟨RX4, "breakByWord", "(I)I"⟩
abbrev cX4_breakByCough : ByteArray := prog_6_method_10_code
def yX4_breakByCough : MethodName := ⟨RX4, "breakByCough", "(I)I"⟩
abbrev cX4_letPass : ByteArray := prog_6_method_11_code
def yX4_letPass : MethodName := ⟨RX4, "letPass", "(I)I"⟩
abbrev cX4_errorOfBreak : ByteArray := prog_6_method_12_code
def yX4_errorOfBreak : MethodName := ⟨RX4, "errorOfBreak", "(I)I"⟩
abbrev cX4_dropPauseOfNobody : ByteArray := prog_6_method_13_code
def yX4_dropPauseOfNobody : MethodName := ⟨RX4, "dropPauseOfNobody", "(I)V"⟩
abbrev cX4_endPause : ByteArray := prog_6_method_14_code
def yX4_endPause : MethodName := ⟨RX4, "endPause", "(IIII)V"⟩
abbrev cX4_pausesThatGoOn : ByteArray := prog_6_method_15_code
def yX4_pausesThatGoOn : MethodName := ⟨RX4, "pausesThatGoOn", "()I"⟩
abbrev cX4_meaningNow : ByteArray := prog_6_method_16_code
def yX4_meaningNow : MethodName := ⟨RX4, "meaningNow", "(II)I"⟩
abbrev cX4_meaningFor : ByteArray := prog_6_method_17_code
def yX4_meaningFor : MethodName := ⟨RX4, "meaningFor", "(II)I"⟩
abbrev cX4_secondsToTurn : ByteArray := prog_6_method_18_code
def yX4_secondsToTurn : MethodName := ⟨RX4, "secondsToTurn", "(I)I"⟩
abbrev cX4_beginOfShade : ByteArray := prog_6_method_19_code
def yX4_beginOfShade : MethodName := ⟨RX4, "beginOfShade", "(I)I"⟩
def RX5 : String := "PauseLexicons$Slots"
def TX5 : u_T := fun k => match k with
  | 0 => ("PauseLexicons$Slots", "states", "[LPauseLexicons$Room;", true)
  | _ => ("PauseLexicons$Slots", "filled", "[Z", true)
def tyX5 : Nat → FieldType := fun k => match k with
  | 0 => .array (.object "PauseLexicons$Room")
  | _ => .array .boolean
theorem nmX5 : ∀ a, a < 2 → ∀ b, b < 2 → a ≠ b → (TX5 a).2.1 ≠ (TX5 b).2.1 := by decide +kernel
theorem tyX5_ok : ∀ k, k < 2 → parseFieldDescriptor (TX5 k).2.2.1 = some (tyX5 k) := by decide +kernel
abbrev cX5_init : ByteArray := prog_7_method_1_code
def yX5_init : MethodName := ⟨RX5, "<init>", "()V"⟩
abbrev cX5_keep : ByteArray := prog_7_method_2_code
def yX5_keep : MethodName := ⟨RX5, "keep", "(ILPauseLexicons$Room;)I"⟩
abbrev cX5_giveBack : ByteArray := prog_7_method_3_code
def yX5_giveBack : MethodName := ⟨RX5, "giveBack", "(ILPauseLexicons$Room;)I"⟩
def RX6 : String := "PauseLexicons"
def TX6 : u_T := fun k => match k with
  | 0 => ("PauseLexicons", "room", "LPauseLexicons$Room;", true)
  | 1 => ("PauseLexicons", "history", "LPauseLexicons$History;", true)
  | 2 => ("PauseLexicons", "slots", "LPauseLexicons$Slots;", true)
  | _ => ("PauseLexicons", "pad", "LPauseLexicons$Pad;", true)
def tyX6 : Nat → FieldType := fun k => match k with
  | 0 => .object "PauseLexicons$Room"
  | 1 => .object "PauseLexicons$History"
  | 2 => .object "PauseLexicons$Slots"
  | _ => .object "PauseLexicons$Pad"
theorem nmX6 : ∀ a, a < 4 → ∀ b, b < 4 → a ≠ b → (TX6 a).2.1 ≠ (TX6 b).2.1 := by decide +kernel
theorem tyX6_ok : ∀ k, k < 4 → parseFieldDescriptor (TX6 k).2.2.1 = some (tyX6 k) := by decide +kernel
abbrev cX6_init : ByteArray := prog_1_method_1_code
def yX6_init : MethodName := ⟨RX6, "<init>", "()V"⟩
abbrev cX6_set : ByteArray := prog_1_method_2_code
def yX6_set : MethodName := ⟨RX6, "set", "(II)I"⟩
abbrev cX6_guest : ByteArray := prog_1_method_3_code
def yX6_guest : MethodName := ⟨RX6, "guest", "(II)I"⟩
abbrev cX6_leave : ByteArray := prog_1_method_4_code
def yX6_leave : MethodName := ⟨RX6, "leave", "(I)I"⟩
abbrev cX6_move : ByteArray := prog_1_method_5_code
def yX6_move : MethodName := ⟨RX6, "move", "(II)I"⟩
abbrev cX6_pause : ByteArray := prog_1_method_6_code
def yX6_pause : MethodName := ⟨RX6, "pause", "(I)I"⟩
abbrev cX6_close : ByteArray := prog_1_method_7_code
def yX6_close : MethodName := ⟨RX6, "close", "(I)I"⟩
abbrev cX6_word : ByteArray := prog_1_method_8_code
def yX6_word : MethodName := ⟨RX6, "word", "(I)I"⟩
abbrev cX6_cough : ByteArray := prog_1_method_9_code
def yX6_cough : MethodName := ⟨RX6, "cough", "(I)I"⟩
abbrev cX6_pass : ByteArray := prog_1_method_10_code
def yX6_pass : MethodName := ⟨RX6, "pass", "(I)I"⟩
abbrev cX6_of : ByteArray := prog_1_method_11_code
def yX6_of : MethodName := ⟨RX6, "of", "(II)I"⟩
abbrev cX6_table : ByteArray := prog_1_method_12_code
def yX6_table : MethodName := ⟨RX6, "table", "(II)I"⟩
abbrev cX6_meaning : ByteArray := prog_1_method_13_code
def yX6_meaning : MethodName := ⟨RX6, "meaning", "(II)I"⟩
abbrev cX6_end : ByteArray := prog_1_method_14_code
def yX6_end : MethodName := ⟨RX6, "end", "(II)I"⟩
abbrev cX6_count : ByteArray := prog_1_method_15_code
def yX6_count : MethodName := ⟨RX6, "count", "(I)I"⟩
abbrev cX6_wouldMean : ByteArray := prog_1_method_16_code
def yX6_wouldMean : MethodName := ⟨RX6, "wouldMean", "(II)I"⟩
abbrev cX6_turnsIn : ByteArray := prog_1_method_17_code
def yX6_turnsIn : MethodName := ⟨RX6, "turnsIn", "(I)I"⟩
abbrev cX6_lender : ByteArray := prog_1_method_18_code
def yX6_lender : MethodName := ⟨RX6, "lender", "(I)I"⟩
abbrev cX6_without : ByteArray := prog_1_method_19_code
def yX6_without : MethodName := ⟨RX6, "without", "(I)I"⟩
abbrev cX6_usual : ByteArray := prog_1_method_20_code
def yX6_usual : MethodName := ⟨RX6, "usual", "()I"⟩
abbrev cX6_put : ByteArray := prog_1_method_21_code
def yX6_put : MethodName := ⟨RX6, "put", "(J)I"⟩
abbrev cX6_wipe : ByteArray := prog_1_method_22_code
def yX6_wipe : MethodName := ⟨RX6, "wipe", "()I"⟩
abbrev cX6_fault : ByteArray := prog_1_method_23_code
def yX6_fault : MethodName := ⟨RX6, "fault", "()I"⟩
abbrev cX6_carryOut : ByteArray := prog_1_method_24_code
def yX6_carryOut : MethodName := ⟨RX6, "carryOut", "()I"⟩
abbrev cX6_undo : ByteArray := prog_1_method_25_code
def yX6_undo : MethodName := ⟨RX6, "undo", "()I"⟩
abbrev cX6_save : ByteArray := prog_1_method_26_code
def yX6_save : MethodName := ⟨RX6, "save", "(I)I"⟩
abbrev cX6_restore : ByteArray := prog_1_method_27_code
def yX6_restore : MethodName := ⟨RX6, "restore", "(I)I"⟩
abbrev cX6_keptUnlessError : ByteArray := prog_1_method_28_code
def yX6_keptUnlessError : MethodName := ⟨RX6, "keptUnlessError", "(I)I"⟩
abbrev cX6_isError : ByteArray := prog_1_method_29_code
def yX6_isError : MethodName := ⟨RX6, "isError", "(I)Z"⟩
abbrev cX6_isTable : ByteArray := prog_1_method_30_code
def yX6_isTable : MethodName := ⟨RX6, "isTable", "(I)Z"⟩
abbrev cX6_obeyOrders : ByteArray := prog_1_method_31_code
def yX6_obeyOrders : MethodName := ⟨RX6, "obeyOrders", "()I"⟩
abbrev cX6_obeyOrder : ByteArray := prog_1_method_32_code
def yX6_obeyOrder : MethodName := ⟨RX6, "obeyOrder", "(II)I"⟩
def RX7 : String := "PauseLexiconsModel"
def TX7 : u_T := fun k => match k with
  | 0 => ("PauseLexiconsModel", "thrown", "I", false)
  | 1 => ("PauseLexiconsModel", "s", "[I", true)
  | 2 => ("PauseLexiconsModel", "states", "[I", true)
  | 3 => ("PauseLexiconsModel", "stateMany", "I", false)
  | 4 => ("PauseLexiconsModel", "slots", "[I", true)
  | 5 => ("PauseLexiconsModel", "hasSlot", "[Z", true)
  | 6 => ("PauseLexiconsModel", "pad", "[I", true)
  | 7 => ("PauseLexiconsModel", "length", "I", false)
  | 8 => ("PauseLexiconsModel", "at", "I", false)
  | 9 => ("PauseLexiconsModel", "isWell", "Z", false)
  | 10 => ("PauseLexiconsModel", "read", "[I", true)
  | _ => ("PauseLexiconsModel", "readMany", "I", false)
def tyX7 : Nat → FieldType := fun k => match k with
  | 0 => .int
  | 1 => .array .int
  | 2 => .array .int
  | 3 => .int
  | 4 => .array .int
  | 5 => .array .boolean
  | 6 => .array .int
  | 7 => .int
  | 8 => .int
  | 9 => .boolean
  | 10 => .array .int
  | _ => .int
theorem nmX7 : ∀ a, a < 12 → ∀ b, b < 12 → a ≠ b → (TX7 a).2.1 ≠ (TX7 b).2.1 := by decide +kernel
theorem tyX7_ok : ∀ k, k < 12 → parseFieldDescriptor (TX7 k).2.2.1 = some (tyX7 k) := by decide +kernel
abbrev cX7_init : ByteArray := prog_9_method_1_code
def yX7_init : MethodName := ⟨RX7, "<init>", "()V"⟩
abbrev cX7_in : ByteArray := prog_9_method_3_code
def yX7_in : MethodName := ⟨RX7, "in", "(III)Z"⟩
abbrev cX7_isTable : ByteArray := prog_9_method_4_code
def yX7_isTable : MethodName := ⟨RX7, "isTable", "(I)Z"⟩
abbrev cX7_isGuest : ByteArray := prog_9_method_5_code
def yX7_isGuest : MethodName := ⟨RX7, "isGuest", "(I)Z"⟩
abbrev cX7_has : ByteArray := prog_9_method_6_code
def yX7_has : MethodName := ⟨RX7, "has", "(II)I"⟩
abbrev cX7_lay : ByteArray := prog_9_method_7_code
def yX7_lay : MethodName := ⟨RX7, "lay", "(III)V"⟩
abbrev cX7_records : ByteArray := prog_9_method_8_code
def yX7_records : MethodName := ⟨RX7, "records", "()V"⟩
abbrev cX7_guestsAt : ByteArray := prog_9_method_9_code
def yX7_guestsAt : MethodName := ⟨RX7, "guestsAt", "(I)I"⟩
abbrev cX7_ones : ByteArray := prog_9_method_10_code
def yX7_ones : MethodName := ⟨RX7, "ones", "(I)I"⟩
abbrev cX7_hostOf : ByteArray := prog_9_method_11_code
def yX7_hostOf : MethodName := ⟨RX7, "hostOf", "(I)I"⟩
abbrev cX7_companyOf : ByteArray := prog_9_method_12_code
def yX7_companyOf : MethodName := ⟨RX7, "companyOf", "(I)I"⟩
abbrev cX7_means : ByteArray := prog_9_method_13_code
def yX7_means : MethodName := ⟨RX7, "means", "(II)I"⟩
abbrev cX7_isPause : ByteArray := prog_9_method_14_code
def yX7_isPause : MethodName := ⟨RX7, "isPause", "(I)Z"⟩
abbrev cX7_meansNow : ByteArray := prog_9_method_15_code
def yX7_meansNow : MethodName := ⟨RX7, "meansNow", "(I)I"⟩
abbrev cX7_mostOf : ByteArray := prog_9_method_16_code
def yX7_mostOf : MethodName := ⟨RX7, "mostOf", "(I)I"⟩
abbrev cX7_set : ByteArray := prog_9_method_17_code
def yX7_set : MethodName := ⟨RX7, "set", "(II)I"⟩
abbrev cX7_refusesGuest : ByteArray := prog_9_method_18_code
def yX7_refusesGuest : MethodName := ⟨RX7, "refusesGuest", "(II)I"⟩
abbrev cX7_comes : ByteArray := prog_9_method_19_code
def yX7_comes : MethodName := ⟨RX7, "comes", "(II)I"⟩
abbrev cX7_guest : ByteArray := prog_9_method_20_code
def yX7_guest : MethodName := ⟨RX7, "guest", "(II)I"⟩
abbrev cX7_refusesLeaving : ByteArray := prog_9_method_21_code
def yX7_refusesLeaving : MethodName := ⟨RX7, "refusesLeaving", "(I)I"⟩
abbrev cX7_goes : ByteArray := prog_9_method_22_code
def yX7_goes : MethodName := ⟨RX7, "goes", "(II)I"⟩
abbrev cX7_leave : ByteArray := prog_9_method_23_code
def yX7_leave : MethodName := ⟨RX7, "leave", "(I)I"⟩
abbrev cX7_move : ByteArray := prog_9_method_24_code
def yX7_move : MethodName := ⟨RX7, "move", "(II)I"⟩
abbrev cX7_refusesPause : ByteArray := prog_9_method_25_code
def yX7_refusesPause : MethodName := ⟨RX7, "refusesPause", "(I)I"⟩
abbrev cX7_begins : ByteArray := prog_9_method_26_code
def yX7_begins : MethodName := ⟨RX7, "begins", "(I)I"⟩
abbrev cX7_pause : ByteArray := prog_9_method_27_code
def yX7_pause : MethodName := ⟨RX7, "pause", "(I)I"⟩
abbrev cX7_ends : ByteArray := prog_9_method_28_code
def yX7_ends : MethodName := ⟨RX7, "ends", "(IIII)V"⟩
abbrev cX7_refusesClosing : ByteArray := prog_9_method_29_code
def yX7_refusesClosing : MethodName := ⟨RX7, "refusesClosing", "(I)I"⟩
abbrev cX7_closes : ByteArray := prog_9_method_30_code
def yX7_closes : MethodName := ⟨RX7, "closes", "(I)I"⟩
abbrev cX7_close : ByteArray := prog_9_method_31_code
def yX7_close : MethodName := ⟨RX7, "close", "(I)I"⟩
abbrev cX7_refusesBreak : ByteArray := prog_9_method_32_code
def yX7_refusesBreak : MethodName := ⟨RX7, "refusesBreak", "(I)I"⟩
abbrev cX7_speaks : ByteArray := prog_9_method_33_code
def yX7_speaks : MethodName := ⟨RX7, "speaks", "(I)I"⟩
abbrev cX7_word : ByteArray := prog_9_method_34_code
def yX7_word : MethodName := ⟨RX7, "word", "(I)I"⟩
abbrev cX7_lenderFor : ByteArray := prog_9_method_35_code
def yX7_lenderFor : MethodName := ⟨RX7, "lenderFor", "(I)I"⟩
abbrev cX7_coughs : ByteArray := prog_9_method_36_code
def yX7_coughs : MethodName := ⟨RX7, "coughs", "(I)I"⟩
abbrev cX7_cough : ByteArray := prog_9_method_37_code
def yX7_cough : MethodName := ⟨RX7, "cough", "(I)I"⟩
abbrev cX7_refusesSeconds : ByteArray := prog_9_method_38_code
def yX7_refusesSeconds : MethodName := ⟨RX7, "refusesSeconds", "(I)I"⟩
abbrev cX7_passes : ByteArray := prog_9_method_39_code
def yX7_passes : MethodName := ⟨RX7, "passes", "(I)I"⟩
abbrev cX7_pass : ByteArray := prog_9_method_40_code
def yX7_pass : MethodName := ⟨RX7, "pass", "(I)I"⟩
abbrev cX7_tellsGuest : ByteArray := prog_9_method_41_code
def yX7_tellsGuest : MethodName := ⟨RX7, "tellsGuest", "(II)I"⟩
abbrev cX7_of : ByteArray := prog_9_method_42_code
def yX7_of : MethodName := ⟨RX7, "of", "(II)I"⟩
abbrev cX7_table : ByteArray := prog_9_method_43_code
def yX7_table : MethodName := ⟨RX7, "table", "(II)I"⟩
abbrev cX7_meaning : ByteArray := prog_9_method_44_code
def yX7_meaning : MethodName := ⟨RX7, "meaning", "(II)I"⟩
abbrev cX7_end : ByteArray := prog_9_method_45_code
def yX7_end : MethodName := ⟨RX7, "end", "(II)I"⟩
abbrev cX7_there : ByteArray := prog_9_method_46_code
def yX7_there : MethodName := ⟨RX7, "there", "()I"⟩
abbrev cX7_pauses : ByteArray := prog_9_method_47_code
def yX7_pauses : MethodName := ⟨RX7, "pauses", "()I"⟩
abbrev cX7_sumOf : ByteArray := prog_9_method_48_code
def yX7_sumOf : MethodName := ⟨RX7, "sumOf", "(IZ)I"⟩
abbrev cX7_meantSet : ByteArray := prog_9_method_49_code
def yX7_meantSet : MethodName := ⟨RX7, "meantSet", "()I"⟩
abbrev cX7_count : ByteArray := prog_9_method_50_code
def yX7_count : MethodName := ⟨RX7, "count", "(I)I"⟩
abbrev cX7_wouldMean : ByteArray := prog_9_method_51_code
def yX7_wouldMean : MethodName := ⟨RX7, "wouldMean", "(II)I"⟩
abbrev cX7_turnsIn : ByteArray := prog_9_method_52_code
def yX7_turnsIn : MethodName := ⟨RX7, "turnsIn", "(I)I"⟩
abbrev cX7_lender : ByteArray := prog_9_method_53_code
def yX7_lender : MethodName := ⟨RX7, "lender", "(I)I"⟩
abbrev cX7_without : ByteArray := prog_9_method_54_code
def yX7_without : MethodName := ⟨RX7, "without", "(I)I"⟩
abbrev cX7_usual : ByteArray := prog_9_method_55_code
def yX7_usual : MethodName := ⟨RX7, "usual", "()I"⟩
abbrev cX7_put : ByteArray := prog_9_method_56_code
def yX7_put : MethodName := ⟨RX7, "put", "(J)I"⟩
abbrev cX7_wipe : ByteArray := prog_9_method_57_code
def yX7_wipe : MethodName := ⟨RX7, "wipe", "()I"⟩
abbrev cX7_sign : ByteArray := prog_9_method_58_code
def yX7_sign : MethodName := ⟨RX7, "sign", "()I"⟩
abbrev cX7_digit : ByteArray := prog_9_method_59_code
def yX7_digit : MethodName := ⟨RX7, "digit", "()I"⟩
abbrev cX7_number : ByteArray := prog_9_method_60_code
def yX7_number : MethodName := ⟨RX7, "number", "()I"⟩
abbrev cX7_readsOrder : ByteArray := prog_9_method_61_code
def yX7_readsOrder : MethodName := ⟨RX7, "readsOrder", "()V"⟩
abbrev cX7_reads : ByteArray := prog_9_method_62_code
def yX7_reads : MethodName := ⟨RX7, "reads", "()I"⟩
abbrev cX7_fault : ByteArray := prog_9_method_63_code
def yX7_fault : MethodName := ⟨RX7, "fault", "()I"⟩
abbrev cX7_refuses : ByteArray := prog_9_method_64_code
def yX7_refuses : MethodName := ⟨RX7, "refuses", "(III)I"⟩
abbrev cX7_does : ByteArray := prog_9_method_65_code
def yX7_does : MethodName := ⟨RX7, "does", "(III)V"⟩
abbrev cX7_carryOut : ByteArray := prog_9_method_66_code
def yX7_carryOut : MethodName := ⟨RX7, "carryOut", "()I"⟩
abbrev cX7_undo : ByteArray := prog_9_method_67_code
def yX7_undo : MethodName := ⟨RX7, "undo", "()I"⟩
abbrev cX7_save : ByteArray := prog_9_method_68_code
def yX7_save : MethodName := ⟨RX7, "save", "(I)I"⟩
abbrev cX7_restore : ByteArray := prog_9_method_69_code
def yX7_restore : MethodName := ⟨RX7, "restore", "(I)I"⟩
def RJ6 : String := "java/lang/Integer"
def TJ6 : u_T := fun k => match k with
  | _ => ("", "", "", false)
def tyJ6 : Nat → FieldType := fun k => match k with
  | _ => .int
abbrev cJ6_bitCount_0f7a4 : ByteArray := prog_11_method_49_code
def yJ6_bitCount_0f7a4 : MethodName := ⟨RJ6, "bitCount", "(I)I"⟩
def RJ9 : String := "java/lang/Math"
def TJ9 : u_T := fun k => match k with
  | _ => ("", "", "", false)
def tyJ9 : Nat → FieldType := fun k => match k with
  | _ => .int
abbrev cJ9_max_7cf53 : ByteArray := prog_12_method_65_code
def yJ9_max_7cf53 : MethodName := ⟨RJ9, "max", "(II)I"⟩
abbrev cJ9_min_7cf53 : ByteArray := prog_12_method_69_code
def yJ9_min_7cf53 : MethodName := ⟨RJ9, "min", "(II)I"⟩
def RJ10 : String := "java/lang/System"
def TJ10 : u_T := fun k => match k with
  | _ => ("", "", "", false)
def tyJ10 : Nat → FieldType := fun k => match k with
  | _ => .int
def RL : String := "PauseLexiconsLaw"
abbrev cL_law : ByteArray := code
def yL_law : MethodName := ⟨RL, "law", "([I)Z"⟩
abbrev mcl : List vw_C := [(RX0, TX0, 7), (RX1, TX1, 2), (RX2, TX2, 5), (RX3, TX3, 2), (RX4, TX4, 6), (RX5, TX5, 2), (RX6, TX6, 4), (RX7, TX7, 12)]
def mN (ci : Nat) : Nat := match ci with
  | 0 => 7
  | 1 => 2
  | 2 => 5
  | 3 => 2
  | 4 => 6
  | 5 => 2
  | 6 => 4
  | 7 => 12
  | _ => 0
def mty (ci : Nat) : Nat → FieldType := match ci with
  | 0 => tyX0
  | 1 => tyX1
  | 2 => tyX2
  | 3 => tyX3
  | 4 => tyX4
  | 5 => tyX5
  | 6 => tyX6
  | 7 => tyX7
  | _ => fun _ => .int
def mIsN : Cond → Bool
  | .fieldLinkNest .. => true
  | .methodLinkNest .. => true
  | .castable .. => true
  | _ => false
def mGW : List Cond := lw_tbl.filter goodWord
def mNW : List Cond := lw_tbl.filter mIsN
theorem mg_in {w : Cond} {i : Nat} (h : lw_tbl[i]? = some w) (hg : goodWord w = true) : w ∈ mGW := List.mem_filter.mpr ⟨List.mem_of_getElem? h, hg⟩
theorem mn_in {w : Cond} {i : Nat} (h : lw_tbl[i]? = some w) (hg : mIsN w = true) : w ∈ mNW := List.mem_filter.mpr ⟨List.mem_of_getElem? h, hg⟩
theorem mg_all {ws : List Cond} (ps : List Nat) (hp : ws = ps.filterMap (fun i => lw_tbl[i]?)) (h : ws.all goodWord = true) : ∀ w ∈ ws, w ∈ mGW := by
  intro w hw
  have h1 := List.all_eq_true.mp h w hw
  rw [hp] at hw
  obtain ⟨i, -, hi⟩ := List.mem_filterMap.mp hw
  exact mg_in hi h1
theorem mg_good : ∀ w ∈ mGW, w ∈ mGW ∧ ((w.onTables && w.keeps) = true ∨ ∃ ty, w = .arrayClass ty) := fun w h => ⟨h, good_of_word (List.mem_filter.mp h).2⟩
theorem muX0 : ∀ w ∈ u_ws RX0 TX0 7, w ∈ mGW := mg_all [103, 105, 107, 109, 111, 113, 115] (by decide +kernel) (by decide +kernel)
theorem miX0 : Cond.instantiable RX0 7 ∈ mGW := mg_in (i := 79) (by decide +kernel) (by decide +kernel)
theorem mzX0 : Cond.initialized RX0 ∈ mGW := mg_in (i := 46) (by decide +kernel) (by decide +kernel)
theorem muX1 : ∀ w ∈ u_ws RX1 TX1 2, w ∈ mGW := mg_all [184, 186] (by decide +kernel) (by decide +kernel)
theorem miX1 : Cond.instantiable RX1 2 ∈ mGW := mg_in (i := 173) (by decide +kernel) (by decide +kernel)
theorem mzX1 : Cond.initialized RX1 ∈ mGW := mg_in (i := 48) (by decide +kernel) (by decide +kernel)
theorem muX2 : ∀ w ∈ u_ws RX2 TX2 5, w ∈ mGW := mg_all [135, 137, 139, 141, 143] (by decide +kernel) (by decide +kernel)
theorem miX2 : Cond.instantiable RX2 5 ∈ mGW := mg_in (i := 120) (by decide +kernel) (by decide +kernel)
theorem mzX2 : Cond.initialized RX2 ∈ mGW := mg_in (i := 47) (by decide +kernel) (by decide +kernel)
theorem muX3 : ∀ w ∈ u_ws RX3 TX3 2, w ∈ mGW := mg_all [215, 217] (by decide +kernel) (by decide +kernel)
theorem miX3 : Cond.instantiable RX3 2 ∈ mGW := mg_in (i := 206) (by decide +kernel) (by decide +kernel)
theorem mzX3 : Cond.initialized RX3 ∈ mGW := mg_in (i := 50) (by decide +kernel) (by decide +kernel)
theorem muX4 : ∀ w ∈ u_ws RX4 TX4 6, w ∈ mGW := mg_all [159, 161, 163, 165, 167, 169] (by decide +kernel) (by decide +kernel)
theorem miX4 : Cond.instantiable RX4 6 ∈ mGW := mg_in (i := 64) (by decide +kernel) (by decide +kernel)
theorem mzX4 : Cond.initialized RX4 ∈ mGW := mg_in (i := 45) (by decide +kernel) (by decide +kernel)
theorem muX5 : ∀ w ∈ u_ws RX5 TX5 2, w ∈ mGW := mg_all [199, 201] (by decide +kernel) (by decide +kernel)
theorem miX5 : Cond.instantiable RX5 2 ∈ mGW := mg_in (i := 190) (by decide +kernel) (by decide +kernel)
theorem mzX5 : Cond.initialized RX5 ∈ mGW := mg_in (i := 49) (by decide +kernel) (by decide +kernel)
theorem muX6 : ∀ w ∈ u_ws RX6 TX6 4, w ∈ mGW := mg_all [224, 226, 228, 230] (by decide +kernel) (by decide +kernel)
theorem miX6 : Cond.instantiable RX6 4 ∈ mGW := mg_in (i := 56) (by decide +kernel) (by decide +kernel)
theorem mzX6 : Cond.initialized RX6 ∈ mGW := mg_in (i := 44) (by decide +kernel) (by decide +kernel)
theorem muX7 : ∀ w ∈ u_ws RX7 TX7 12, w ∈ mGW := mg_all [601, 603, 605, 607, 609, 611, 613, 615, 617, 619, 621, 623] (by decide +kernel) (by decide +kernel)
theorem miX7 : Cond.instantiable RX7 12 ∈ mGW := mg_in (i := 584) (by decide +kernel) (by decide +kernel)
theorem mzX7 : Cond.initialized RX7 ∈ mGW := mg_in (i := 51) (by decide +kernel) (by decide +kernel)
end
section
/-! THE SMALL MACHINE. Its heap: a list of shapes (an object of a kind, or an array of a kind and a length), the ints of each cell, the references of each cell. Cells 0 to 3 are read-only arrays of ints (the script, the statics), the others lie in the real heap one behind another from 'base' on. 'mGo' says of a frame at a place that the real machine goes from there to the frame's end with an outcome. -/
abbrev mShp : Type := Nat ⊕ (Nat × Nat)
abbrev mHp : Type := List mShp × (Nat → Nat → Int32) × (Nat → Nat → Option Nat)
abbrev mLs : Type := List (Option Value)
abbrev mSt : Type := Nat × mLs × List Value × mHp
abbrev mOut : Type := Option Value × mHp
abbrev mM : Type := String × ByteArray × Nat × Option FieldType × Bool
def mad (base : Nat) (spa : Nat → Nat) (j : Nat) : Nat := if j < 4 then spa j else base + (j - 4)
def mtv (base : Nat) (spa : Nat → Nat) (v : Value) : Value := match v with
  | .ref j => .ref (mad base spa j)
  | v => v
theorem mtv_cat (base : Nat) (spa : Nat → Nat) (v : Value) : (mtv base spa v).category = v.category := by cases v <;> rfl
theorem mad_hi {base : Nat} {spa : Nat → Nat} {j : Nat} (h : 4 ≤ j) : mad base spa j = base + (j - 4) := if_neg (by omega)
theorem mad_lo {base : Nat} {spa : Nat → Nat} {j : Nat} (h : j < 4) : mad base spa j = spa j := if_pos h
def mfv (ty : FieldType) (i : Int32) (r : Option Nat) : Value := match ty with
  | .int => .int i
  | .boolean => .int i
  | _ => va_rf r
def mce (base : Nat) (spa : Nat → Nat) (cm : Nat → ClassId) (F : Nat → Nat → Int32) (R : Nat → Nat → Option Nat) (j : Nat) (s : mShp) : va_E := match s with
  | .inl ci => .inr (ci, (List.range (mN ci)).map (fun k => mtv base spa (mfv (mty ci k) (F j k) (R j k))))
  | .inr (t, n) => if t = 2 then .inl (cm 2, n, .inr (.inr (.inr (.inr (fun i => (R j i).map (mad base spa)))))) else .inl (cm t, n, .inl (F j))
def mW (base : Nat) (spa : Nat → Nat) (cm : Nat → ClassId) (hp : mHp) : va_W := (List.range (hp.1.length - 4)).map (fun k => (base + k, mce base spa cm hp.2.1 hp.2.2 (k + 4) (hp.1.getD (k + 4) (.inl 0))))
theorem mce_congr {base : Nat} {spa : Nat → Nat} {cm : Nat → ClassId} {F F' : Nat → Nat → Int32} {R R' : Nat → Nat → Option Nat} {j : Nat} {s : mShp} (hF : F' j = F j) (hR : R' j = R j) : mce base spa cm F' R' j s = mce base spa cm F R j s := by
  cases s with
  | inl ci => simp [mce, hF, hR]
  | inr q => obtain ⟨t, n⟩ := q; simp [mce, hF, hR]
theorem mW_len {base : Nat} {spa : Nat → Nat} {cm : Nat → ClassId} {hp : mHp} : (mW base spa cm hp).length = hp.1.length - 4 := by simp [mW]
theorem mW_at {base : Nat} {spa : Nat → Nat} {cm : Nat → ClassId} {hp : mHp} {k : Nat} {q : Nat × va_E} (h : (mW base spa cm hp)[k]? = some q) : k < hp.1.length - 4 ∧ q.1 = base + k := by
  have hk : k < hp.1.length - 4 := by
    have := (List.getElem?_eq_some_iff.mp h).1
    rwa [mW_len] at this
  refine ⟨hk, ?_⟩
  rw [mW, List.getElem?_map, List.getElem?_range hk] at h
  cases h
  rfl
theorem mW_get {base : Nat} {spa : Nat → Nat} {cm : Nat → ClassId} {hp : mHp} {j : Nat} {s : mShp} (h4 : 4 ≤ j) (h : hp.1[j]? = some s) : (mW base spa cm hp)[j - 4]? = some (base + (j - 4), mce base spa cm hp.2.1 hp.2.2 j s) := by
  have hj : j < hp.1.length := (List.getElem?_eq_some_iff.mp h).1
  rw [mW, List.getElem?_map, List.getElem?_range (by omega)]
  have e : j - 4 + 4 = j := by omega
  simp only [Option.map_some, e, List.getD_eq_getElem?_getD, h, Option.getD_some]
theorem mW_D {base : Nat} {spa : Nat → Nat} {cm : Nat → ClassId} {hp : mHp} : va_D (fun q => base ≤ q) (mW base spa cm hp) := by
  refine ⟨fun i j p q hi hj hpq => ?_, fun k q hk => ?_⟩
  · have h1 := (mW_at hi).2
    have h2 := (mW_at hj).2
    omega
  · have h1 := (mW_at hk).2
    omega
theorem mW_upd {base : Nat} {spa : Nat → Nat} {cm : Nat → ClassId} {sh : List mShp} {F F' : Nat → Nat → Int32} {R R' : Nat → Nat → Option Nat} {j : Nat} {s : mShp} (h4 : 4 ≤ j) (hs : sh[j]? = some s) (hF : ∀ a, a ≠ j → F' a = F a) (hR : ∀ a, a ≠ j → R' a = R a) : mW base spa cm (sh, F', R') = (mW base spa cm (sh, F, R)).set (j - 4) (base + (j - 4), mce base spa cm F' R' j s) := by
  have hj : j < sh.length := (List.getElem?_eq_some_iff.mp hs).1
  apply List.ext_getElem?
  intro k
  by_cases hk : k = j - 4
  · subst hk
    rw [mW_get h4 (hp := (sh, F', R')) hs, List.getElem?_set_self (by rw [mW_len]; show j - 4 < sh.length - 4; omega)]
  · rw [List.getElem?_set_ne (Ne.symm hk)]
    by_cases hl : k < sh.length - 4
    · simp only [mW, List.getElem?_map, List.getElem?_range hl, Option.map_some]
      rw [mce_congr (hF _ (by omega)) (hR _ (by omega))]
    · rw [List.getElem?_eq_none (by rw [mW_len]; show sh.length - 4 ≤ k; omega), List.getElem?_eq_none (by rw [mW_len]; show sh.length - 4 ≤ k; omega)]
theorem mW_push {base : Nat} {spa : Nat → Nat} {cm : Nat → ClassId} {sh : List mShp} {F F' : Nat → Nat → Int32} {R R' : Nat → Nat → Option Nat} {s : mShp} (h4 : 4 ≤ sh.length) (hF : ∀ a, a ≠ sh.length → F' a = F a) (hR : ∀ a, a ≠ sh.length → R' a = R a) : mW base spa cm (sh ++ [s], F', R') = mW base spa cm (sh, F, R) ++ [(base + (sh.length - 4), mce base spa cm F' R' sh.length s)] := by
  apply List.ext_getElem?
  intro k
  by_cases hk : k < sh.length - 4
  · rw [List.getElem?_append_left (by rw [mW_len]; exact hk)]
    simp only [mW, List.length_append, List.length_singleton, List.getElem?_map]
    rw [List.getElem?_range (by omega), List.getElem?_range hk]
    simp only [Option.map_some, List.getD_eq_getElem?_getD]
    rw [List.getElem?_append_left (by omega), mce_congr (hF _ (by omega)) (hR _ (by omega))]
  · rw [List.getElem?_append_right (by rw [mW_len]; show sh.length - 4 ≤ k; omega), mW_len]
    show _ = [_][k - (sh.length - 4)]?
    by_cases hk2 : k = sh.length - 4
    · subst hk2
      rw [Nat.sub_self]
      have e := mW_get (base := base) (spa := spa) (cm := cm) (hp := (sh ++ [s], F', R')) (j := sh.length) (s := s) h4 (by simp)
      exact e
    · rw [List.getElem?_eq_none (by rw [mW_len]; show (sh ++ [s]).length - 4 ≤ k; simp; omega), List.getElem?_eq_none (by simp; omega)]
def mSz (sh : List mShp) : Nat := (sh.map (fun s => match s with | .inl ci => mN ci | .inr (_, n) => n)).sum
theorem mSz_push (sh : List mShp) (s : mShp) : mSz (sh ++ [s]) = mSz sh + (match s with | .inl ci => mN ci | .inr (_, n) => n) := by simp [mSz]
def mD (base : Nat) (spa spn : Nat → Nat) (spf : Nat → Nat → Int32) (cm : Nat → ClassId) (D : va_G) (hp : mHp) (H : Heap) : Prop :=
  4 ≤ hp.1.length ∧ H.size = base + (hp.1.length - 4) ∧ va_P D mcl (mW base spa cm hp) H ∧ ∀ j, j < 4 → hp.1[j]? = some (.inr (3, spn j)) ∧ hp.2.1 j = spf j
def mSN (j : Nat) : String := match j with
  | 0 => "FIRST_SETTINGS"
  | 1 => "HIGHEST_SETTINGS"
  | _ => "MEANING_BY_COMPANY"
abbrev mtys (cm : Nat → ClassId) : List (ClassId × FieldType) := [(cm 0, .int), (cm 1, .boolean), (cm 2, .object RX4)]
def mSta (base : Nat) (spa spn : Nat → Nat) (spf : Nat → Nat → Int32) (cm : Nat → ClassId) (D : va_G) (U : State) (H0 : Heap) : Prop :=
  va_K D mcl (mtys cm) U ∧ (∀ w ∈ mNW, va_Nw w U) ∧ va_AO RX4 U ∧ base ≤ H0.size ∧ (∀ j, j < 4 → spa j < base ∧ va_X (spa j) (spn j) (spf j) U H0) ∧ (∀ j, j < 3 → va_Z RX6 (mSN j) "[I" (.ref (spa (j + 1))) (fun q => base ≤ q) U H0)
def mX (base : Nat) (spa spn : Nat → Nat) (spf : Nat → Nat → Int32) (cm : Nat → ClassId) (D : va_G) (M : mM) (p : Program) (s : State) (m : MethodId) (args : Array Value) (meth : Method) (c : Code) : Prop :=
  p.tables.exec = Jvm.exec ∧ c.code = M.2.1 ∧ meth.sig.returnType = M.2.2.2.1 ∧ c.maxLocals = M.2.2.1 ∧ s.vm.findClass M.1 = some m.cls ∧ meth.locks = false ∧ (M.2.2.2.2 = true → meth.name = "<init>") ∧ (∀ w ∈ mGW, w.before args s = true) ∧ mSta base spa spn spf cm D s s.heap
def mh (base : Nat) (spa : Nat → Nat) (ls : Array Slot) (nL : Nat) (L : mLs) : Prop := ls.size = nL ∧ lv_wf ls ∧ ∀ (i : Nat) (v : Value), L[i]? = some (some v) → ls[i]? = some (.val (mtv base spa v))
def mRi (cc : ByteArray) (pc : Nat) (r : Option Value) : Prop := match r with
  | none => decode cc pc = .ok (.return_, 1)
  | some (.int _) => decode cc pc = .ok (.ireturn, 1)
  | some (.long _) => decode cc pc = .ok (.lreturn, 1)
  | _ => False
def mGo (M : mM) (d : Nat) (σ : mSt) (out : mOut) : Prop :=
  (σ.2.2.2.1.length ≤ out.2.1.length ∧ mSz σ.2.2.2.1 ≤ mSz out.2.1) ∧
  ∀ (base : Nat) (spa spn : Nat → Nat) (spf : Nat → Nat → Int32) (cm : Nat → ClassId) (D : va_G) (p : Program) (l : Launch) (e : Env) (R : Room) (s : State) (m : MethodId) (args : Array Value) (below : List Frame) (meth : Method) (c : Code) (Q : State → Prop) (cE sE : Nat) (H : Heap) (locs : List Loc) (cells slots : Nat) (ls : Array Slot),
    mX base spa spn spf cm D M p s m args meth c → d ≤ R.frames → 40 * d ≤ R.locals → cE ≤ R.cells → sE ≤ R.slots →
    (∀ (H1 : Heap) (locs1 : List Loc) (pc1 : Nat) (ls1 : Array Slot), mRi M.2.1 pc1 out.1 → mD base spa spn spf cm D out.2 H1 → va_S (fun q => base ≤ q) s.heap H1 locs1 → W p l e R s m args below meth c H1 locs1 cE sE Q (F0 m pc1 ls1 out.1.toList)) →
    cells + out.2.1.length = cE + σ.2.2.2.1.length → slots + mSz out.2.1 = sE + mSz σ.2.2.2.1 →
    mD base spa spn spf cm D σ.2.2.2 H → va_S (fun q => base ≤ q) s.heap H locs → mh base spa ls M.2.2.1 σ.2.1 →
    W p l e R s m args below meth c H locs cells slots Q (F0 m σ.1 ls (σ.2.2.1.map (mtv base spa)))
theorem g_iconst {M : mM} {d pc : Nat} {L : mLs} {st : List Value} {hp : mHp} {out : mOut} {n : Int} (hd : decode M.2.1 pc = .ok (.iconst n, 1))  (k : mGo M d (pc + 1, L, .int (Int32.ofInt n) :: st, hp) out) : mGo M d (pc, L, st, hp) out := by
  refine ⟨k.1, ?_⟩
  intro base spa spn spf cm D p l e R s m args below meth c Q cE sE H locs cells slots ls hX hfr hlo hcE hsE hK hc hs hD hS hL
  have hx := hX.1
  have hb := hX.2.1
  refine lv_iconst hx hb hd rfl ?_
  exact k.2 base spa spn spf cm D p l e R s m args below meth c Q cE sE H locs cells slots ls hX hfr hlo hcE hsE hK hc hs hD hS hL
theorem g_bipush {M : mM} {d pc : Nat} {L : mLs} {st : List Value} {hp : mHp} {out : mOut} {n : Int} (hd : decode M.2.1 pc = .ok (.bipush n, 2))  (k : mGo M d (pc + 2, L, .int (Int8.ofInt n).toInt32 :: st, hp) out) : mGo M d (pc, L, st, hp) out := by
  refine ⟨k.1, ?_⟩
  intro base spa spn spf cm D p l e R s m args below meth c Q cE sE H locs cells slots ls hX hfr hlo hcE hsE hK hc hs hD hS hL
  have hx := hX.1
  have hb := hX.2.1
  refine lv_bipush hx hb hd rfl ?_
  exact k.2 base spa spn spf cm D p l e R s m args below meth c Q cE sE H locs cells slots ls hX hfr hlo hcE hsE hK hc hs hD hS hL
theorem g_sipush {M : mM} {d pc : Nat} {L : mLs} {st : List Value} {hp : mHp} {out : mOut} {n : Int} (hd : decode M.2.1 pc = .ok (.sipush n, 3))  (k : mGo M d (pc + 3, L, .int (Int16.ofInt n).toInt32 :: st, hp) out) : mGo M d (pc, L, st, hp) out := by
  refine ⟨k.1, ?_⟩
  intro base spa spn spf cm D p l e R s m args below meth c Q cE sE H locs cells slots ls hX hfr hlo hcE hsE hK hc hs hD hS hL
  have hx := hX.1
  have hb := hX.2.1
  refine lv_sipush hx hb hd rfl ?_
  exact k.2 base spa spn spf cm D p l e R s m args below meth c Q cE sE H locs cells slots ls hX hfr hlo hcE hsE hK hc hs hD hS hL
theorem g_lconst {M : mM} {d pc : Nat} {L : mLs} {st : List Value} {hp : mHp} {out : mOut} {n : Fin 2} (hd : decode M.2.1 pc = .ok (.lconst n, 1))  (k : mGo M d (pc + 1, L, .long (Int64.ofNat (n : Nat)) :: st, hp) out) : mGo M d (pc, L, st, hp) out := by
  refine ⟨k.1, ?_⟩
  intro base spa spn spf cm D p l e R s m args below meth c Q cE sE H locs cells slots ls hX hfr hlo hcE hsE hK hc hs hD hS hL
  have hx := hX.1
  have hb := hX.2.1
  refine lv_lconst hx hb hd rfl ?_
  exact k.2 base spa spn spf cm D p l e R s m args below meth c Q cE sE H locs cells slots ls hX hfr hlo hcE hsE hK hc hs hD hS hL
theorem g_iconstv {M : mM} {d pc : Nat} {L : mLs} {st : List Value} {hp : mHp} {out : mOut} {n : Int} (hd : decode M.2.1 pc = .ok (.iconst n, 1)) {v : Int32} (hv : Int32.ofInt n = v) (k : mGo M d (pc + 1, L, .int v :: st, hp) out) : mGo M d (pc, L, st, hp) out := by
  refine ⟨k.1, ?_⟩
  intro base spa spn spf cm D p l e R s m args below meth c Q cE sE H locs cells slots ls hX hfr hlo hcE hsE hK hc hs hD hS hL
  have hx := hX.1
  have hb := hX.2.1
  refine lv_iconst hx hb hd hv ?_
  exact k.2 base spa spn spf cm D p l e R s m args below meth c Q cE sE H locs cells slots ls hX hfr hlo hcE hsE hK hc hs hD hS hL
theorem g_bipushv {M : mM} {d pc : Nat} {L : mLs} {st : List Value} {hp : mHp} {out : mOut} {n : Int} (hd : decode M.2.1 pc = .ok (.bipush n, 2)) {v : Int32} (hv : (Int8.ofInt n).toInt32 = v) (k : mGo M d (pc + 2, L, .int v :: st, hp) out) : mGo M d (pc, L, st, hp) out := by
  refine ⟨k.1, ?_⟩
  intro base spa spn spf cm D p l e R s m args below meth c Q cE sE H locs cells slots ls hX hfr hlo hcE hsE hK hc hs hD hS hL
  have hx := hX.1
  have hb := hX.2.1
  refine lv_bipush hx hb hd hv ?_
  exact k.2 base spa spn spf cm D p l e R s m args below meth c Q cE sE H locs cells slots ls hX hfr hlo hcE hsE hK hc hs hD hS hL
theorem g_sipushv {M : mM} {d pc : Nat} {L : mLs} {st : List Value} {hp : mHp} {out : mOut} {n : Int} (hd : decode M.2.1 pc = .ok (.sipush n, 3)) {v : Int32} (hv : (Int16.ofInt n).toInt32 = v) (k : mGo M d (pc + 3, L, .int v :: st, hp) out) : mGo M d (pc, L, st, hp) out := by
  refine ⟨k.1, ?_⟩
  intro base spa spn spf cm D p l e R s m args below meth c Q cE sE H locs cells slots ls hX hfr hlo hcE hsE hK hc hs hD hS hL
  have hx := hX.1
  have hb := hX.2.1
  refine lv_sipush hx hb hd hv ?_
  exact k.2 base spa spn spf cm D p l e R s m args below meth c Q cE sE H locs cells slots ls hX hfr hlo hcE hsE hK hc hs hD hS hL
theorem g_iadd {M : mM} {d pc : Nat} {L : mLs} {st : List Value} {hp : mHp} {out : mOut} {x y : Int32} (hd : decode M.2.1 pc = .ok (.iadd, 1))  (k : mGo M d (pc + 1, L, .int (x + y) :: st, hp) out) : mGo M d (pc, L, .int y :: .int x :: st, hp) out := by
  refine ⟨k.1, ?_⟩
  intro base spa spn spf cm D p l e R s m args below meth c Q cE sE H locs cells slots ls hX hfr hlo hcE hsE hK hc hs hD hS hL
  have hx := hX.1
  have hb := hX.2.1
  refine lv_iadd hx hb hd ?_
  exact k.2 base spa spn spf cm D p l e R s m args below meth c Q cE sE H locs cells slots ls hX hfr hlo hcE hsE hK hc hs hD hS hL
theorem g_isub {M : mM} {d pc : Nat} {L : mLs} {st : List Value} {hp : mHp} {out : mOut} {x y : Int32} (hd : decode M.2.1 pc = .ok (.isub, 1))  (k : mGo M d (pc + 1, L, .int (x - y) :: st, hp) out) : mGo M d (pc, L, .int y :: .int x :: st, hp) out := by
  refine ⟨k.1, ?_⟩
  intro base spa spn spf cm D p l e R s m args below meth c Q cE sE H locs cells slots ls hX hfr hlo hcE hsE hK hc hs hD hS hL
  have hx := hX.1
  have hb := hX.2.1
  refine lv_isub hx hb hd ?_
  exact k.2 base spa spn spf cm D p l e R s m args below meth c Q cE sE H locs cells slots ls hX hfr hlo hcE hsE hK hc hs hD hS hL
theorem g_imul {M : mM} {d pc : Nat} {L : mLs} {st : List Value} {hp : mHp} {out : mOut} {x y : Int32} (hd : decode M.2.1 pc = .ok (.imul, 1))  (k : mGo M d (pc + 1, L, .int (x * y) :: st, hp) out) : mGo M d (pc, L, .int y :: .int x :: st, hp) out := by
  refine ⟨k.1, ?_⟩
  intro base spa spn spf cm D p l e R s m args below meth c Q cE sE H locs cells slots ls hX hfr hlo hcE hsE hK hc hs hD hS hL
  have hx := hX.1
  have hb := hX.2.1
  refine lv_imul hx hb hd ?_
  exact k.2 base spa spn spf cm D p l e R s m args below meth c Q cE sE H locs cells slots ls hX hfr hlo hcE hsE hK hc hs hD hS hL
theorem g_iand {M : mM} {d pc : Nat} {L : mLs} {st : List Value} {hp : mHp} {out : mOut} {x y : Int32} (hd : decode M.2.1 pc = .ok (.iand, 1))  (k : mGo M d (pc + 1, L, .int (x &&& y) :: st, hp) out) : mGo M d (pc, L, .int y :: .int x :: st, hp) out := by
  refine ⟨k.1, ?_⟩
  intro base spa spn spf cm D p l e R s m args below meth c Q cE sE H locs cells slots ls hX hfr hlo hcE hsE hK hc hs hD hS hL
  have hx := hX.1
  have hb := hX.2.1
  refine lv_iand hx hb hd ?_
  exact k.2 base spa spn spf cm D p l e R s m args below meth c Q cE sE H locs cells slots ls hX hfr hlo hcE hsE hK hc hs hD hS hL
theorem g_ior {M : mM} {d pc : Nat} {L : mLs} {st : List Value} {hp : mHp} {out : mOut} {x y : Int32} (hd : decode M.2.1 pc = .ok (.ior, 1))  (k : mGo M d (pc + 1, L, .int (x ||| y) :: st, hp) out) : mGo M d (pc, L, .int y :: .int x :: st, hp) out := by
  refine ⟨k.1, ?_⟩
  intro base spa spn spf cm D p l e R s m args below meth c Q cE sE H locs cells slots ls hX hfr hlo hcE hsE hK hc hs hD hS hL
  have hx := hX.1
  have hb := hX.2.1
  refine lv_ior hx hb hd ?_
  exact k.2 base spa spn spf cm D p l e R s m args below meth c Q cE sE H locs cells slots ls hX hfr hlo hcE hsE hK hc hs hD hS hL
theorem g_ixor {M : mM} {d pc : Nat} {L : mLs} {st : List Value} {hp : mHp} {out : mOut} {x y : Int32} (hd : decode M.2.1 pc = .ok (.ixor, 1))  (k : mGo M d (pc + 1, L, .int (x ^^^ y) :: st, hp) out) : mGo M d (pc, L, .int y :: .int x :: st, hp) out := by
  refine ⟨k.1, ?_⟩
  intro base spa spn spf cm D p l e R s m args below meth c Q cE sE H locs cells slots ls hX hfr hlo hcE hsE hK hc hs hD hS hL
  have hx := hX.1
  have hb := hX.2.1
  refine lv_ixor hx hb hd ?_
  exact k.2 base spa spn spf cm D p l e R s m args below meth c Q cE sE H locs cells slots ls hX hfr hlo hcE hsE hK hc hs hD hS hL
theorem g_ishl {M : mM} {d pc : Nat} {L : mLs} {st : List Value} {hp : mHp} {out : mOut} {x y : Int32} (hd : decode M.2.1 pc = .ok (.ishl, 1))  (k : mGo M d (pc + 1, L, .int (x <<< (y &&& 31)) :: st, hp) out) : mGo M d (pc, L, .int y :: .int x :: st, hp) out := by
  refine ⟨k.1, ?_⟩
  intro base spa spn spf cm D p l e R s m args below meth c Q cE sE H locs cells slots ls hX hfr hlo hcE hsE hK hc hs hD hS hL
  have hx := hX.1
  have hb := hX.2.1
  refine lv_ishl hx hb hd ?_
  exact k.2 base spa spn spf cm D p l e R s m args below meth c Q cE sE H locs cells slots ls hX hfr hlo hcE hsE hK hc hs hD hS hL
theorem g_ishr {M : mM} {d pc : Nat} {L : mLs} {st : List Value} {hp : mHp} {out : mOut} {x y : Int32} (hd : decode M.2.1 pc = .ok (.ishr, 1))  (k : mGo M d (pc + 1, L, .int (x >>> (y &&& 31)) :: st, hp) out) : mGo M d (pc, L, .int y :: .int x :: st, hp) out := by
  refine ⟨k.1, ?_⟩
  intro base spa spn spf cm D p l e R s m args below meth c Q cE sE H locs cells slots ls hX hfr hlo hcE hsE hK hc hs hD hS hL
  have hx := hX.1
  have hb := hX.2.1
  refine lv_ishr hx hb hd ?_
  exact k.2 base spa spn spf cm D p l e R s m args below meth c Q cE sE H locs cells slots ls hX hfr hlo hcE hsE hK hc hs hD hS hL
theorem g_iushr {M : mM} {d pc : Nat} {L : mLs} {st : List Value} {hp : mHp} {out : mOut} {x y : Int32} (hd : decode M.2.1 pc = .ok (.iushr, 1))  (k : mGo M d (pc + 1, L, .int (x.toUInt32 >>> (y.toUInt32 &&& Int32.toUInt32 31)).toInt32 :: st, hp) out) : mGo M d (pc, L, .int y :: .int x :: st, hp) out := by
  refine ⟨k.1, ?_⟩
  intro base spa spn spf cm D p l e R s m args below meth c Q cE sE H locs cells slots ls hX hfr hlo hcE hsE hK hc hs hD hS hL
  have hx := hX.1
  have hb := hX.2.1
  refine lv_iushr hx hb hd rfl ?_
  exact k.2 base spa spn spf cm D p l e R s m args below meth c Q cE sE H locs cells slots ls hX hfr hlo hcE hsE hK hc hs hD hS hL
theorem g_idiv {M : mM} {d pc : Nat} {L : mLs} {st : List Value} {hp : mHp} {out : mOut} {x y : Int32} (hd : decode M.2.1 pc = .ok (.idiv, 1)) (hne : ¬ y = 0) (k : mGo M d (pc + 1, L, .int (x / y) :: st, hp) out) : mGo M d (pc, L, .int y :: .int x :: st, hp) out := by
  refine ⟨k.1, ?_⟩
  intro base spa spn spf cm D p l e R s m args below meth c Q cE sE H locs cells slots ls hX hfr hlo hcE hsE hK hc hs hD hS hL
  have hx := hX.1
  have hb := hX.2.1
  refine lv_idiv hx hb hd hne ?_
  exact k.2 base spa spn spf cm D p l e R s m args below meth c Q cE sE H locs cells slots ls hX hfr hlo hcE hsE hK hc hs hD hS hL
theorem g_irem {M : mM} {d pc : Nat} {L : mLs} {st : List Value} {hp : mHp} {out : mOut} {x y : Int32} (hd : decode M.2.1 pc = .ok (.irem, 1)) (hne : ¬ y = 0) (k : mGo M d (pc + 1, L, .int (x - x / y * y) :: st, hp) out) : mGo M d (pc, L, .int y :: .int x :: st, hp) out := by
  refine ⟨k.1, ?_⟩
  intro base spa spn spf cm D p l e R s m args below meth c Q cE sE H locs cells slots ls hX hfr hlo hcE hsE hK hc hs hD hS hL
  have hx := hX.1
  have hb := hX.2.1
  refine lv_irem hx hb hd hne ?_
  exact k.2 base spa spn spf cm D p l e R s m args below meth c Q cE sE H locs cells slots ls hX hfr hlo hcE hsE hK hc hs hD hS hL
theorem g_ladd {M : mM} {d pc : Nat} {L : mLs} {st : List Value} {hp : mHp} {out : mOut} {x y : Int64} (hd : decode M.2.1 pc = .ok (.ladd, 1))  (k : mGo M d (pc + 1, L, .long (x + y) :: st, hp) out) : mGo M d (pc, L, .long y :: .long x :: st, hp) out := by
  refine ⟨k.1, ?_⟩
  intro base spa spn spf cm D p l e R s m args below meth c Q cE sE H locs cells slots ls hX hfr hlo hcE hsE hK hc hs hD hS hL
  have hx := hX.1
  have hb := hX.2.1
  refine lv_ladd hx hb hd ?_
  exact k.2 base spa spn spf cm D p l e R s m args below meth c Q cE sE H locs cells slots ls hX hfr hlo hcE hsE hK hc hs hD hS hL
theorem g_lmul {M : mM} {d pc : Nat} {L : mLs} {st : List Value} {hp : mHp} {out : mOut} {x y : Int64} (hd : decode M.2.1 pc = .ok (.lmul, 1))  (k : mGo M d (pc + 1, L, .long (x * y) :: st, hp) out) : mGo M d (pc, L, .long y :: .long x :: st, hp) out := by
  refine ⟨k.1, ?_⟩
  intro base spa spn spf cm D p l e R s m args below meth c Q cE sE H locs cells slots ls hX hfr hlo hcE hsE hK hc hs hD hS hL
  have hx := hX.1
  have hb := hX.2.1
  refine lv_lmul hx hb hd ?_
  exact k.2 base spa spn spf cm D p l e R s m args below meth c Q cE sE H locs cells slots ls hX hfr hlo hcE hsE hK hc hs hD hS hL
theorem g_land {M : mM} {d pc : Nat} {L : mLs} {st : List Value} {hp : mHp} {out : mOut} {x y : Int64} (hd : decode M.2.1 pc = .ok (.land, 1))  (k : mGo M d (pc + 1, L, .long (x &&& y) :: st, hp) out) : mGo M d (pc, L, .long y :: .long x :: st, hp) out := by
  refine ⟨k.1, ?_⟩
  intro base spa spn spf cm D p l e R s m args below meth c Q cE sE H locs cells slots ls hX hfr hlo hcE hsE hK hc hs hD hS hL
  have hx := hX.1
  have hb := hX.2.1
  refine lv_land hx hb hd ?_
  exact k.2 base spa spn spf cm D p l e R s m args below meth c Q cE sE H locs cells slots ls hX hfr hlo hcE hsE hK hc hs hD hS hL
theorem g_lor {M : mM} {d pc : Nat} {L : mLs} {st : List Value} {hp : mHp} {out : mOut} {x y : Int64} (hd : decode M.2.1 pc = .ok (.lor, 1))  (k : mGo M d (pc + 1, L, .long (x ||| y) :: st, hp) out) : mGo M d (pc, L, .long y :: .long x :: st, hp) out := by
  refine ⟨k.1, ?_⟩
  intro base spa spn spf cm D p l e R s m args below meth c Q cE sE H locs cells slots ls hX hfr hlo hcE hsE hK hc hs hD hS hL
  have hx := hX.1
  have hb := hX.2.1
  refine lv_lor hx hb hd ?_
  exact k.2 base spa spn spf cm D p l e R s m args below meth c Q cE sE H locs cells slots ls hX hfr hlo hcE hsE hK hc hs hD hS hL
theorem g_i2l {M : mM} {d pc : Nat} {L : mLs} {st : List Value} {hp : mHp} {out : mOut} {x : Int32} (hd : decode M.2.1 pc = .ok (.i2l, 1))  (k : mGo M d (pc + 1, L, .long x.toInt64 :: st, hp) out) : mGo M d (pc, L, .int x :: st, hp) out := by
  refine ⟨k.1, ?_⟩
  intro base spa spn spf cm D p l e R s m args below meth c Q cE sE H locs cells slots ls hX hfr hlo hcE hsE hK hc hs hD hS hL
  have hx := hX.1
  have hb := hX.2.1
  refine lv_i2l hx hb hd rfl ?_
  exact k.2 base spa spn spf cm D p l e R s m args below meth c Q cE sE H locs cells slots ls hX hfr hlo hcE hsE hK hc hs hD hS hL
theorem g_l2i {M : mM} {d pc : Nat} {L : mLs} {st : List Value} {hp : mHp} {out : mOut} {x : Int64} (hd : decode M.2.1 pc = .ok (.l2i, 1))  (k : mGo M d (pc + 1, L, .int x.toInt32 :: st, hp) out) : mGo M d (pc, L, .long x :: st, hp) out := by
  refine ⟨k.1, ?_⟩
  intro base spa spn spf cm D p l e R s m args below meth c Q cE sE H locs cells slots ls hX hfr hlo hcE hsE hK hc hs hD hS hL
  have hx := hX.1
  have hb := hX.2.1
  refine lv_l2i hx hb hd rfl ?_
  exact k.2 base spa spn spf cm D p l e R s m args below meth c Q cE sE H locs cells slots ls hX hfr hlo hcE hsE hK hc hs hD hS hL
theorem g_lushr {M : mM} {d pc : Nat} {L : mLs} {st : List Value} {hp : mHp} {out : mOut} {x : Int64} {y : Int32} (hd : decode M.2.1 pc = .ok (.lushr, 1))  (k : mGo M d (pc + 1, L, .long (x.toUInt64 >>> (y.toInt64.toUInt64 &&& Int64.toUInt64 63)).toInt64 :: st, hp) out) : mGo M d (pc, L, .int y :: .long x :: st, hp) out := by
  refine ⟨k.1, ?_⟩
  intro base spa spn spf cm D p l e R s m args below meth c Q cE sE H locs cells slots ls hX hfr hlo hcE hsE hK hc hs hD hS hL
  have hx := hX.1
  have hb := hX.2.1
  refine lv_lushr hx hb hd rfl ?_
  exact k.2 base spa spn spf cm D p l e R s m args below meth c Q cE sE H locs cells slots ls hX hfr hlo hcE hsE hK hc hs hD hS hL
theorem g_lshl {M : mM} {d pc : Nat} {L : mLs} {st : List Value} {hp : mHp} {out : mOut} {x : Int64} {y : Int32} (hd : decode M.2.1 pc = .ok (.lshl, 1))  (k : mGo M d (pc + 1, L, .long (x <<< (y.toInt64 &&& 63)) :: st, hp) out) : mGo M d (pc, L, .int y :: .long x :: st, hp) out := by
  refine ⟨k.1, ?_⟩
  intro base spa spn spf cm D p l e R s m args below meth c Q cE sE H locs cells slots ls hX hfr hlo hcE hsE hK hc hs hD hS hL
  have hx := hX.1
  have hb := hX.2.1
  refine lv_lshl hx hb hd rfl ?_
  exact k.2 base spa spn spf cm D p l e R s m args below meth c Q cE sE H locs cells slots ls hX hfr hlo hcE hsE hK hc hs hD hS hL
theorem g_lshr {M : mM} {d pc : Nat} {L : mLs} {st : List Value} {hp : mHp} {out : mOut} {x : Int64} {y : Int32} (hd : decode M.2.1 pc = .ok (.lshr, 1))  (k : mGo M d (pc + 1, L, .long (x >>> (y.toInt64 &&& 63)) :: st, hp) out) : mGo M d (pc, L, .int y :: .long x :: st, hp) out := by
  refine ⟨k.1, ?_⟩
  intro base spa spn spf cm D p l e R s m args below meth c Q cE sE H locs cells slots ls hX hfr hlo hcE hsE hK hc hs hD hS hL
  have hx := hX.1
  have hb := hX.2.1
  refine lv_lshr hx hb hd rfl ?_
  exact k.2 base spa spn spf cm D p l e R s m args below meth c Q cE sE H locs cells slots ls hX hfr hlo hcE hsE hK hc hs hD hS hL
theorem g_dup {M : mM} {d pc : Nat} {L : mLs} {st : List Value} {hp : mHp} {out : mOut} {v : Value} (hd : decode M.2.1 pc = .ok (.dup, 1)) (hv : v.category = 1) (k : mGo M d (pc + 1, L, v :: v :: st, hp) out) : mGo M d (pc, L, v :: st, hp) out := by
  refine ⟨k.1, ?_⟩
  intro base spa spn spf cm D p l e R s m args below meth c Q cE sE H locs cells slots ls hX hfr hlo hcE hsE hK hc hs hD hS hL
  have hx := hX.1
  have hb := hX.2.1
  refine lv_dup hx hb hd (by rw [mtv_cat]; exact hv) ?_
  exact k.2 base spa spn spf cm D p l e R s m args below meth c Q cE sE H locs cells slots ls hX hfr hlo hcE hsE hK hc hs hD hS hL
theorem g_pop {M : mM} {d pc : Nat} {L : mLs} {st : List Value} {hp : mHp} {out : mOut} {v : Value} (hd : decode M.2.1 pc = .ok (.pop, 1)) (hv : v.category = 1) (k : mGo M d (pc + 1, L, st, hp) out) : mGo M d (pc, L, v :: st, hp) out := by
  refine ⟨k.1, ?_⟩
  intro base spa spn spf cm D p l e R s m args below meth c Q cE sE H locs cells slots ls hX hfr hlo hcE hsE hK hc hs hD hS hL
  have hx := hX.1
  have hb := hX.2.1
  refine lv_pop hx hb hd (by rw [mtv_cat]; exact hv) ?_
  exact k.2 base spa spn spf cm D p l e R s m args below meth c Q cE sE H locs cells slots ls hX hfr hlo hcE hsE hK hc hs hD hS hL
theorem g_dup2 {M : mM} {d pc : Nat} {L : mLs} {st : List Value} {hp : mHp} {out : mOut} {v w : Value} (hd : decode M.2.1 pc = .ok (.dup2, 1)) (hv : v.category = 1) (hw : w.category = 1) (k : mGo M d (pc + 1, L, v :: w :: v :: w :: st, hp) out) : mGo M d (pc, L, v :: w :: st, hp) out := by
  refine ⟨k.1, ?_⟩
  intro base spa spn spf cm D p l e R s m args below meth c Q cE sE H locs cells slots ls hX hfr hlo hcE hsE hK hc hs hD hS hL
  have hx := hX.1
  have hb := hX.2.1
  refine lv_dup2_11 hx hb hd (by rw [mtv_cat]; exact hv) (by rw [mtv_cat]; exact hw) ?_
  exact k.2 base spa spn spf cm D p l e R s m args below meth c Q cE sE H locs cells slots ls hX hfr hlo hcE hsE hK hc hs hD hS hL
theorem g_ldcw {M : mM} {d pc : Nat} {L : mLs} {st : List Value} {hp : mHp} {out : mOut} {i : Nat} {v : Int32} (hd : decode M.2.1 pc = .ok (.ldc_w i, 3)) (hw : Cond.constant M.1 i v ∈ mGW) (k : mGo M d (pc + 3, L, .int v :: st, hp) out) : mGo M d (pc, L, st, hp) out := by
  refine ⟨k.1, ?_⟩
  intro base spa spn spf cm D p l e R s m args below meth c Q cE sE H locs cells slots ls hX hfr hlo hcE hsE hK hc hs hD hS hL
  have hx := hX.1
  have hb := hX.2.1
  refine lv_ldcw hx hb hX.2.2.2.2.1 (hX.2.2.2.2.2.2.2.1 _ hw) hd ?_
  exact k.2 base spa spn spf cm D p l e R s m args below meth c Q cE sE H locs cells slots ls hX hfr hlo hcE hsE hK hc hs hD hS hL
theorem g_ldc {M : mM} {d pc : Nat} {L : mLs} {st : List Value} {hp : mHp} {out : mOut} {i : Nat} {v : Int32} (hd : decode M.2.1 pc = .ok (.ldc i, 2)) (hw : Cond.constant M.1 i v ∈ mGW) (k : mGo M d (pc + 2, L, .int v :: st, hp) out) : mGo M d (pc, L, st, hp) out := by
  refine ⟨k.1, ?_⟩
  intro base spa spn spf cm D p l e R s m args below meth c Q cE sE H locs cells slots ls hX hfr hlo hcE hsE hK hc hs hD hS hL
  have hx := hX.1
  have hb := hX.2.1
  refine lv_ldc hx hb hX.2.2.2.2.1 (hX.2.2.2.2.2.2.2.1 _ hw) hd ?_
  exact k.2 base spa spn spf cm D p l e R s m args below meth c Q cE sE H locs cells slots ls hX hfr hlo hcE hsE hK hc hs hD hS hL
theorem g_ldc2 {M : mM} {d pc : Nat} {L : mLs} {st : List Value} {hp : mHp} {out : mOut} {i : Nat} {v : Int64} (hd : decode M.2.1 pc = .ok (.ldc2_w i, 3)) (hw : Cond.constantLong M.1 i v ∈ mGW) (k : mGo M d (pc + 3, L, .long v :: st, hp) out) : mGo M d (pc, L, st, hp) out := by
  refine ⟨k.1, ?_⟩
  intro base spa spn spf cm D p l e R s m args below meth c Q cE sE H locs cells slots ls hX hfr hlo hcE hsE hK hc hs hD hS hL
  have hx := hX.1
  have hb := hX.2.1
  refine lv_ldc2 hx hb hX.2.2.2.2.1 (hX.2.2.2.2.2.2.2.1 _ hw) hd ?_
  exact k.2 base spa spn spf cm D p l e R s m args below meth c Q cE sE H locs cells slots ls hX hfr hlo hcE hsE hK hc hs hD hS hL
theorem g_lcmp {M : mM} {d pc : Nat} {L : mLs} {st : List Value} {hp : mHp} {out : mOut} {x y : Int64} (hd : decode M.2.1 pc = .ok (.lcmp, 1)) (k : mGo M d (pc + 1, L, .int (lg_cmp x y) :: st, hp) out) : mGo M d (pc, L, .long y :: .long x :: st, hp) out := by
  refine ⟨k.1, ?_⟩
  intro base spa spn spf cm D p l e R s m args below meth c Q cE sE H locs cells slots ls hX hfr hlo hcE hsE hK hc hs hD hS hL
  have hx := hX.1
  have hb := hX.2.1
  refine W.lcmp hx hb hd ?_
  exact k.2 base spa spn spf cm D p l e R s m args below meth c Q cE sE H locs cells slots ls hX hfr hlo hcE hsE hK hc hs hD hS hL
theorem g_iload_n {M : mM} {d pc : Nat} {L : mLs} {st : List Value} {hp : mHp} {out : mOut} {n : Fin 4} {x : Int32} (hd : decode M.2.1 pc = .ok (.iload_n n, 1)) (hl : L[(n : Nat)]? = some (some (.int x))) (k : mGo M d (pc + 1, L, .int x :: st, hp) out) : mGo M d (pc, L, st, hp) out := by
  refine ⟨k.1, ?_⟩
  intro base spa spn spf cm D p l e R s m args below meth c Q cE sE H locs cells slots ls hX hfr hlo hcE hsE hK hc hs hD hS hL
  have hx := hX.1
  have hb := hX.2.1
  refine lv_iload_n hx hb hd rfl (hL.2.2 _ _ hl) ?_
  exact k.2 base spa spn spf cm D p l e R s m args below meth c Q cE sE H locs cells slots ls hX hfr hlo hcE hsE hK hc hs hD hS hL
theorem g_iload {M : mM} {d pc : Nat} {L : mLs} {st : List Value} {hp : mHp} {out : mOut} {n : Nat} {x : Int32} (hd : decode M.2.1 pc = .ok (.iload n, 2)) (hl : L[n]? = some (some (.int x))) (k : mGo M d (pc + 2, L, .int x :: st, hp) out) : mGo M d (pc, L, st, hp) out := by
  refine ⟨k.1, ?_⟩
  intro base spa spn spf cm D p l e R s m args below meth c Q cE sE H locs cells slots ls hX hfr hlo hcE hsE hK hc hs hD hS hL
  have hx := hX.1
  have hb := hX.2.1
  refine lv_iload hx hb hd (hL.2.2 _ _ hl) ?_
  exact k.2 base spa spn spf cm D p l e R s m args below meth c Q cE sE H locs cells slots ls hX hfr hlo hcE hsE hK hc hs hD hS hL
theorem g_lload_n {M : mM} {d pc : Nat} {L : mLs} {st : List Value} {hp : mHp} {out : mOut} {n : Fin 4} {x : Int64} (hd : decode M.2.1 pc = .ok (.lload_n n, 1)) (hl : L[(n : Nat)]? = some (some (.long x))) (k : mGo M d (pc + 1, L, .long x :: st, hp) out) : mGo M d (pc, L, st, hp) out := by
  refine ⟨k.1, ?_⟩
  intro base spa spn spf cm D p l e R s m args below meth c Q cE sE H locs cells slots ls hX hfr hlo hcE hsE hK hc hs hD hS hL
  have hx := hX.1
  have hb := hX.2.1
  refine lv_lload_n hx hb hd rfl (hL.2.2 _ _ hl) ?_
  exact k.2 base spa spn spf cm D p l e R s m args below meth c Q cE sE H locs cells slots ls hX hfr hlo hcE hsE hK hc hs hD hS hL
theorem g_lload {M : mM} {d pc : Nat} {L : mLs} {st : List Value} {hp : mHp} {out : mOut} {n : Nat} {x : Int64} (hd : decode M.2.1 pc = .ok (.lload n, 2)) (hl : L[n]? = some (some (.long x))) (k : mGo M d (pc + 2, L, .long x :: st, hp) out) : mGo M d (pc, L, st, hp) out := by
  refine ⟨k.1, ?_⟩
  intro base spa spn spf cm D p l e R s m args below meth c Q cE sE H locs cells slots ls hX hfr hlo hcE hsE hK hc hs hD hS hL
  have hx := hX.1
  have hb := hX.2.1
  refine lv_lload hx hb hd (hL.2.2 _ _ hl) ?_
  exact k.2 base spa spn spf cm D p l e R s m args below meth c Q cE sE H locs cells slots ls hX hfr hlo hcE hsE hK hc hs hD hS hL
theorem g_aload_n {M : mM} {d pc : Nat} {L : mLs} {st : List Value} {hp : mHp} {out : mOut} {n : Fin 4} {x : Nat} (hd : decode M.2.1 pc = .ok (.aload_n n, 1)) (hl : L[(n : Nat)]? = some (some (.ref x))) (k : mGo M d (pc + 1, L, .ref x :: st, hp) out) : mGo M d (pc, L, st, hp) out := by
  refine ⟨k.1, ?_⟩
  intro base spa spn spf cm D p l e R s m args below meth c Q cE sE H locs cells slots ls hX hfr hlo hcE hsE hK hc hs hD hS hL
  have hx := hX.1
  have hb := hX.2.1
  refine lv_aload_n hx hb hd rfl (hL.2.2 _ _ hl) ?_
  exact k.2 base spa spn spf cm D p l e R s m args below meth c Q cE sE H locs cells slots ls hX hfr hlo hcE hsE hK hc hs hD hS hL
theorem g_aload {M : mM} {d pc : Nat} {L : mLs} {st : List Value} {hp : mHp} {out : mOut} {n : Nat} {x : Nat} (hd : decode M.2.1 pc = .ok (.aload n, 2)) (hl : L[n]? = some (some (.ref x))) (k : mGo M d (pc + 2, L, .ref x :: st, hp) out) : mGo M d (pc, L, st, hp) out := by
  refine ⟨k.1, ?_⟩
  intro base spa spn spf cm D p l e R s m args below meth c Q cE sE H locs cells slots ls hX hfr hlo hcE hsE hK hc hs hD hS hL
  have hx := hX.1
  have hb := hX.2.1
  refine lv_aload hx hb hd (hL.2.2 _ _ hl) ?_
  exact k.2 base spa spn spf cm D p l e R s m args below meth c Q cE sE H locs cells slots ls hX hfr hlo hcE hsE hK hc hs hD hS hL
def mSb (L : mLs) (i : Nat) : Bool := match i with
  | 0 => true
  | j + 1 => match L[j]? with
    | some (some v) => v.category == 1
    | _ => true
theorem mh_store1 {base : Nat} {spa : Nat → Nat} {ls : Array Slot} {nL i : Nat} {L : mLs} {v : Value} (h : mh base spa ls nL L) (hi : i < nL) (hc : v.category = 1) (hb : mSb L i = true) : ∃ ls', storeLocals ls i (mtv base spa v) = some ls' ∧ mh base spa ls' nL (L.set i (some v)) := by
  have h0 : lv_has ls nL ((List.range L.length).filterMap (fun j => (L.getD j none).map (fun w => (j, mtv base spa w)))) := by
    refine ⟨h.1, h.2.1, fun q hq => ?_⟩
    obtain ⟨j, hj, e⟩ := List.mem_filterMap.mp hq
    cases hw : L.getD j none with
    | none => rw [hw] at e; cases e
    | some w =>
      rw [hw] at e
      cases e
      have hjl := List.mem_range.mp hj
      refine h.2.2 j w ?_
      rw [List.getD_eq_getElem?_getD, List.getElem?_eq_getElem hjl] at hw
      rw [List.getElem?_eq_getElem hjl]
      exact congrArg some hw
  obtain ⟨ls', e', h'⟩ := lv_store1 (v := mtv base spa v) h0 hi (by rw [mtv_cat]; exact hc)
  refine ⟨ls', e', h'.1, h'.2.1, fun a w ha => ?_⟩
  by_cases hai : a = i
  · subst hai
    have hl : a < L.length := by
      have := (List.getElem?_eq_some_iff.mp ha).1
      simpa using this
    rw [List.getElem?_set_self hl] at ha
    cases ha
    exact h'.2.2 (a, _) List.mem_cons_self
  · rw [List.getElem?_set_ne (Ne.symm hai)] at ha
    refine h'.2.2 (a, mtv base spa w) (List.mem_cons_of_mem _ (List.mem_filter.mpr ⟨?_, ?_⟩))
    · refine List.mem_filterMap.mpr ⟨a, List.mem_range.mpr (List.getElem?_eq_some_iff.mp ha).1, ?_⟩
      rw [List.getD_eq_getElem?_getD, ha]
      rfl
    · by_cases h1 : a + 1 = i
      · subst h1
        simp only [mSb, ha] at hb
        have hcat : w.category = 1 := by simpa using hb
        simp [hai, mtv_cat, hcat]
      · simp [hai, h1]
theorem mh_store2 {base : Nat} {spa : Nat → Nat} {ls : Array Slot} {nL i : Nat} {L : mLs} {v : Value} (h : mh base spa ls nL L) (hi : i + 1 < nL) (hc : v.category = 2) (hb : mSb L i = true) : ∃ ls', storeLocals ls i (mtv base spa v) = some ls' ∧ mh base spa ls' nL ((L.set i (some v)).set (i + 1) none) := by
  have h0 : lv_has ls nL ((List.range L.length).filterMap (fun j => (L.getD j none).map (fun w => (j, mtv base spa w)))) := by
    refine ⟨h.1, h.2.1, fun q hq => ?_⟩
    obtain ⟨j, hj, e⟩ := List.mem_filterMap.mp hq
    cases hw : L.getD j none with
    | none => rw [hw] at e; cases e
    | some w =>
      rw [hw] at e
      cases e
      have hjl := List.mem_range.mp hj
      refine h.2.2 j w ?_
      rw [List.getD_eq_getElem?_getD, List.getElem?_eq_getElem hjl] at hw
      rw [List.getElem?_eq_getElem hjl]
      exact congrArg some hw
  obtain ⟨ls', e', h'⟩ := lv_store2 (v := mtv base spa v) h0 hi (by rw [mtv_cat]; exact hc)
  refine ⟨ls', e', h'.1, h'.2.1, fun a w ha => ?_⟩
  by_cases ha1 : a = i + 1
  · subst ha1
    have hl : i + 1 < L.length := by
      have := (List.getElem?_eq_some_iff.mp ha).1
      simpa using this
    rw [List.getElem?_set_self (by simpa using hl)] at ha
    cases ha
  · rw [List.getElem?_set_ne (Ne.symm ha1)] at ha
    by_cases hai : a = i
    · subst hai
      have hl : a < L.length := by
        have := (List.getElem?_eq_some_iff.mp ha).1
        simpa using this
      rw [List.getElem?_set_self hl] at ha
      cases ha
      exact h'.2.2 (a, _) List.mem_cons_self
    · rw [List.getElem?_set_ne (Ne.symm hai)] at ha
      refine h'.2.2 (a, mtv base spa w) (List.mem_cons_of_mem _ (List.mem_filter.mpr ⟨?_, ?_⟩))
      · refine List.mem_filterMap.mpr ⟨a, List.mem_range.mpr (List.getElem?_eq_some_iff.mp ha).1, ?_⟩
        rw [List.getD_eq_getElem?_getD, ha]
        rfl
      · by_cases h1 : a + 1 = i
        · subst h1
          simp only [mSb, ha] at hb
          have hcat : w.category = 1 := by simpa using hb
          simp [hai, ha1, mtv_cat, hcat]
        · simp [hai, h1, ha1]
theorem g_istore_n {M : mM} {d pc : Nat} {L : mLs} {st : List Value} {hp : mHp} {out : mOut} {n : Fin 4} {x : Int32} (hd : decode M.2.1 pc = .ok (.istore_n n, 1)) (hi : (n : Nat) < M.2.2.1) (hb1 : mSb L (n : Nat) = true) (k : mGo M d (pc + 1, L.set (n : Nat) (some (.int x)), st, hp) out) : mGo M d (pc, L, .int x :: st, hp) out := by
  refine ⟨k.1, ?_⟩
  intro base spa spn spf cm D p l e R s m args below meth c Q cE sE H locs cells slots ls hX hfr hlo hcE hsE hK hc hs hD hS hL
  have hx := hX.1
  have hb := hX.2.1
  obtain ⟨ls', e', h'⟩ := mh_store1 (v := .int x) hL hi rfl hb1
  intro T hT X
  obtain ⟨t, a, b⟩ := k.2 base spa spn spf cm D p l e R s m args below meth c Q cE sE H locs cells slots ls' hX hfr hlo hcE hsE hK hc hs hD hS h' T hT X
  refine ⟨t, ?_, b⟩
  simp only [mtv] at e'
  show Steps p.tables e below (T.setTop (F0 m pc ls (_ :: st.map (mtv base spa)))) t
  jvm_step X.here [X.here.top, ↓top_set X.here.top, hx, hb, hd, e', mtv]
  exact a
theorem g_istore {M : mM} {d pc : Nat} {L : mLs} {st : List Value} {hp : mHp} {out : mOut} {n : Nat} {x : Int32} (hd : decode M.2.1 pc = .ok (.istore n, 2)) (hi : n < M.2.2.1) (hb1 : mSb L n = true) (k : mGo M d (pc + 2, L.set n (some (.int x)), st, hp) out) : mGo M d (pc, L, .int x :: st, hp) out := by
  refine ⟨k.1, ?_⟩
  intro base spa spn spf cm D p l e R s m args below meth c Q cE sE H locs cells slots ls hX hfr hlo hcE hsE hK hc hs hD hS hL
  have hx := hX.1
  have hb := hX.2.1
  obtain ⟨ls', e', h'⟩ := mh_store1 (v := .int x) hL hi rfl hb1
  intro T hT X
  obtain ⟨t, a, b⟩ := k.2 base spa spn spf cm D p l e R s m args below meth c Q cE sE H locs cells slots ls' hX hfr hlo hcE hsE hK hc hs hD hS h' T hT X
  refine ⟨t, ?_, b⟩
  simp only [mtv] at e'
  show Steps p.tables e below (T.setTop (F0 m pc ls (_ :: st.map (mtv base spa)))) t
  jvm_step X.here [X.here.top, ↓top_set X.here.top, hx, hb, hd, e', mtv]
  exact a
theorem g_astore_n {M : mM} {d pc : Nat} {L : mLs} {st : List Value} {hp : mHp} {out : mOut} {n : Fin 4} {x : Nat} (hd : decode M.2.1 pc = .ok (.astore_n n, 1)) (hi : (n : Nat) < M.2.2.1) (hb1 : mSb L (n : Nat) = true) (k : mGo M d (pc + 1, L.set (n : Nat) (some (.ref x)), st, hp) out) : mGo M d (pc, L, .ref x :: st, hp) out := by
  refine ⟨k.1, ?_⟩
  intro base spa spn spf cm D p l e R s m args below meth c Q cE sE H locs cells slots ls hX hfr hlo hcE hsE hK hc hs hD hS hL
  have hx := hX.1
  have hb := hX.2.1
  obtain ⟨ls', e', h'⟩ := mh_store1 (v := .ref x) hL hi rfl hb1
  intro T hT X
  obtain ⟨t, a, b⟩ := k.2 base spa spn spf cm D p l e R s m args below meth c Q cE sE H locs cells slots ls' hX hfr hlo hcE hsE hK hc hs hD hS h' T hT X
  refine ⟨t, ?_, b⟩
  simp only [mtv] at e'
  show Steps p.tables e below (T.setTop (F0 m pc ls (_ :: st.map (mtv base spa)))) t
  jvm_step X.here [X.here.top, ↓top_set X.here.top, hx, hb, hd, e', mtv]
  exact ⟨rfl, a⟩
theorem g_astore {M : mM} {d pc : Nat} {L : mLs} {st : List Value} {hp : mHp} {out : mOut} {n : Nat} {x : Nat} (hd : decode M.2.1 pc = .ok (.astore n, 2)) (hi : n < M.2.2.1) (hb1 : mSb L n = true) (k : mGo M d (pc + 2, L.set n (some (.ref x)), st, hp) out) : mGo M d (pc, L, .ref x :: st, hp) out := by
  refine ⟨k.1, ?_⟩
  intro base spa spn spf cm D p l e R s m args below meth c Q cE sE H locs cells slots ls hX hfr hlo hcE hsE hK hc hs hD hS hL
  have hx := hX.1
  have hb := hX.2.1
  obtain ⟨ls', e', h'⟩ := mh_store1 (v := .ref x) hL hi rfl hb1
  intro T hT X
  obtain ⟨t, a, b⟩ := k.2 base spa spn spf cm D p l e R s m args below meth c Q cE sE H locs cells slots ls' hX hfr hlo hcE hsE hK hc hs hD hS h' T hT X
  refine ⟨t, ?_, b⟩
  simp only [mtv] at e'
  show Steps p.tables e below (T.setTop (F0 m pc ls (_ :: st.map (mtv base spa)))) t
  jvm_step X.here [X.here.top, ↓top_set X.here.top, hx, hb, hd, e', mtv]
  exact ⟨rfl, a⟩
theorem g_lstore_n {M : mM} {d pc : Nat} {L : mLs} {st : List Value} {hp : mHp} {out : mOut} {n : Fin 4} {x : Int64} (hd : decode M.2.1 pc = .ok (.lstore_n n, 1)) (hi : (n : Nat) + 1 < M.2.2.1) (hb1 : mSb L (n : Nat) = true) (k : mGo M d (pc + 1, (L.set (n : Nat) (some (.long x))).set ((n : Nat) + 1) none, st, hp) out) : mGo M d (pc, L, .long x :: st, hp) out := by
  refine ⟨k.1, ?_⟩
  intro base spa spn spf cm D p l e R s m args below meth c Q cE sE H locs cells slots ls hX hfr hlo hcE hsE hK hc hs hD hS hL
  have hx := hX.1
  have hb := hX.2.1
  obtain ⟨ls', e', h'⟩ := mh_store2 (v := .long x) hL hi rfl hb1
  intro T hT X
  obtain ⟨t, a, b⟩ := k.2 base spa spn spf cm D p l e R s m args below meth c Q cE sE H locs cells slots ls' hX hfr hlo hcE hsE hK hc hs hD hS h' T hT X
  refine ⟨t, ?_, b⟩
  simp only [mtv] at e'
  show Steps p.tables e below (T.setTop (F0 m pc ls (_ :: st.map (mtv base spa)))) t
  jvm_step X.here [X.here.top, ↓top_set X.here.top, hx, hb, hd, e', mtv]
  exact a
theorem g_lstore {M : mM} {d pc : Nat} {L : mLs} {st : List Value} {hp : mHp} {out : mOut} {n : Nat} {x : Int64} (hd : decode M.2.1 pc = .ok (.lstore n, 2)) (hi : n + 1 < M.2.2.1) (hb1 : mSb L n = true) (k : mGo M d (pc + 2, (L.set n (some (.long x))).set (n + 1) none, st, hp) out) : mGo M d (pc, L, .long x :: st, hp) out := by
  refine ⟨k.1, ?_⟩
  intro base spa spn spf cm D p l e R s m args below meth c Q cE sE H locs cells slots ls hX hfr hlo hcE hsE hK hc hs hD hS hL
  have hx := hX.1
  have hb := hX.2.1
  obtain ⟨ls', e', h'⟩ := mh_store2 (v := .long x) hL hi rfl hb1
  intro T hT X
  obtain ⟨t, a, b⟩ := k.2 base spa spn spf cm D p l e R s m args below meth c Q cE sE H locs cells slots ls' hX hfr hlo hcE hsE hK hc hs hD hS h' T hT X
  refine ⟨t, ?_, b⟩
  simp only [mtv] at e'
  show Steps p.tables e below (T.setTop (F0 m pc ls (_ :: st.map (mtv base spa)))) t
  jvm_step X.here [X.here.top, ↓top_set X.here.top, hx, hb, hd, e', mtv]
  exact a
theorem g_iinc {M : mM} {d pc : Nat} {L : mLs} {st : List Value} {hp : mHp} {out : mOut} {n : Nat} {z : Int} {x : Int32} (hd : decode M.2.1 pc = .ok (.iinc n z, 3)) (hl : L[n]? = some (some (.int x))) (hi : n < M.2.2.1) (hb1 : mSb L n = true) (k : mGo M d (pc + 3, L.set n (some (.int (x + Int32.ofInt z))), st, hp) out) : mGo M d (pc, L, st, hp) out := by
  refine ⟨k.1, ?_⟩
  intro base spa spn spf cm D p l e R s m args below meth c Q cE sE H locs cells slots ls hX hfr hlo hcE hsE hK hc hs hD hS hL
  have hx := hX.1
  have hb := hX.2.1
  obtain ⟨ls', e', h'⟩ := mh_store1 (v := .int (x + Int32.ofInt z)) hL hi rfl hb1
  have hg : ls[n]? = some (.val (.int x)) := hL.2.2 _ _ hl
  intro T hT X
  obtain ⟨t, a, b⟩ := k.2 base spa spn spf cm D p l e R s m args below meth c Q cE sE H locs cells slots ls' hX hfr hlo hcE hsE hK hc hs hD hS h' T hT X
  refine ⟨t, ?_, b⟩
  simp only [mtv] at e'
  show Steps p.tables e below (T.setTop (F0 m pc ls (st.map (mtv base spa)))) t
  jvm_step X.here [X.here.top, ↓top_set X.here.top, hx, hb, hd, hg, e', mtv]
  exact a
theorem g_goto {M : mM} {d pc tgt : Nat} {L : mLs} {st : List Value} {hp : mHp} {out : mOut} {off : Int} (hd : decode M.2.1 pc = .ok (.goto off, 3)) (ht : (pc : Int) + off = (tgt : Int)) (k : mGo M d (tgt, L, st, hp) out) : mGo M d (pc, L, st, hp) out := by
  refine ⟨k.1, ?_⟩
  intro base spa spn spf cm D p l e R s m args below meth c Q cE sE H locs cells slots ls hX hfr hlo hcE hsE hK hc hs hD hS hL
  have hx := hX.1
  have hb := hX.2.1
  refine lv_goto hx hb hd ht ?_
  exact k.2 base spa spn spf cm D p l e R s m args below meth c Q cE sE H locs cells slots ls hX hfr hlo hcE hsE hK hc hs hD hS hL
theorem g_if_eq {M : mM} {d pc tgt : Nat} {L : mLs} {st : List Value} {hp : mHp} {out : mOut} {x : Int32} {off : Int} (hd : decode M.2.1 pc = .ok (.ifCond .eq off, 3)) (ht : (pc : Int) + off = (tgt : Int)) (kt : x = 0 → mGo M d (tgt, L, st, hp) out) (kf : ¬ (x = 0) → mGo M d (pc + 3, L, st, hp) out) : mGo M d (pc, L, .int x :: st, hp) out := by
  refine ⟨by by_cases q : x = 0
             · exact (kt q).1
             · exact (kf q).1, ?_⟩
  intro base spa spn spf cm D p l e R s m args below meth c Q cE sE H locs cells slots ls hX hfr hlo hcE hsE hK hc hs hD hS hL
  have hx := hX.1
  have hb := hX.2.1
  refine lv_if_eq hx hb hd ht (fun q => ?_) (fun q => ?_)
  · exact (kt q).2 base spa spn spf cm D p l e R s m args below meth c Q cE sE H locs cells slots ls hX hfr hlo hcE hsE hK hc hs hD hS hL
  · exact (kf q).2 base spa spn spf cm D p l e R s m args below meth c Q cE sE H locs cells slots ls hX hfr hlo hcE hsE hK hc hs hD hS hL
theorem g_icmp_eq {M : mM} {d pc tgt : Nat} {L : mLs} {st : List Value} {hp : mHp} {out : mOut} {x y : Int32} {off : Int} (hd : decode M.2.1 pc = .ok (.if_icmp .eq off, 3)) (ht : (pc : Int) + off = (tgt : Int)) (kt : x = y → mGo M d (tgt, L, st, hp) out) (kf : ¬ (x = y) → mGo M d (pc + 3, L, st, hp) out) : mGo M d (pc, L, .int y :: .int x :: st, hp) out := by
  refine ⟨by by_cases q : x = y
             · exact (kt q).1
             · exact (kf q).1, ?_⟩
  intro base spa spn spf cm D p l e R s m args below meth c Q cE sE H locs cells slots ls hX hfr hlo hcE hsE hK hc hs hD hS hL
  have hx := hX.1
  have hb := hX.2.1
  refine lv_icmp_eq hx hb hd ht (fun q => ?_) (fun q => ?_)
  · exact (kt q).2 base spa spn spf cm D p l e R s m args below meth c Q cE sE H locs cells slots ls hX hfr hlo hcE hsE hK hc hs hD hS hL
  · exact (kf q).2 base spa spn spf cm D p l e R s m args below meth c Q cE sE H locs cells slots ls hX hfr hlo hcE hsE hK hc hs hD hS hL
theorem g_if_ne {M : mM} {d pc tgt : Nat} {L : mLs} {st : List Value} {hp : mHp} {out : mOut} {x : Int32} {off : Int} (hd : decode M.2.1 pc = .ok (.ifCond .ne off, 3)) (ht : (pc : Int) + off = (tgt : Int)) (kt : ¬ (x = 0) → mGo M d (tgt, L, st, hp) out) (kf : x = 0 → mGo M d (pc + 3, L, st, hp) out) : mGo M d (pc, L, .int x :: st, hp) out := by
  refine ⟨by by_cases q : x = 0
             · exact (kf q).1
             · exact (kt q).1, ?_⟩
  intro base spa spn spf cm D p l e R s m args below meth c Q cE sE H locs cells slots ls hX hfr hlo hcE hsE hK hc hs hD hS hL
  have hx := hX.1
  have hb := hX.2.1
  refine lv_if_ne hx hb hd ht (fun q => ?_) (fun q => ?_)
  · exact (kt q).2 base spa spn spf cm D p l e R s m args below meth c Q cE sE H locs cells slots ls hX hfr hlo hcE hsE hK hc hs hD hS hL
  · exact (kf q).2 base spa spn spf cm D p l e R s m args below meth c Q cE sE H locs cells slots ls hX hfr hlo hcE hsE hK hc hs hD hS hL
theorem g_icmp_ne {M : mM} {d pc tgt : Nat} {L : mLs} {st : List Value} {hp : mHp} {out : mOut} {x y : Int32} {off : Int} (hd : decode M.2.1 pc = .ok (.if_icmp .ne off, 3)) (ht : (pc : Int) + off = (tgt : Int)) (kt : ¬ (x = y) → mGo M d (tgt, L, st, hp) out) (kf : x = y → mGo M d (pc + 3, L, st, hp) out) : mGo M d (pc, L, .int y :: .int x :: st, hp) out := by
  refine ⟨by by_cases q : x = y
             · exact (kf q).1
             · exact (kt q).1, ?_⟩
  intro base spa spn spf cm D p l e R s m args below meth c Q cE sE H locs cells slots ls hX hfr hlo hcE hsE hK hc hs hD hS hL
  have hx := hX.1
  have hb := hX.2.1
  refine lv_icmp_ne hx hb hd ht (fun q => ?_) (fun q => ?_)
  · exact (kt q).2 base spa spn spf cm D p l e R s m args below meth c Q cE sE H locs cells slots ls hX hfr hlo hcE hsE hK hc hs hD hS hL
  · exact (kf q).2 base spa spn spf cm D p l e R s m args below meth c Q cE sE H locs cells slots ls hX hfr hlo hcE hsE hK hc hs hD hS hL
theorem g_if_lt {M : mM} {d pc tgt : Nat} {L : mLs} {st : List Value} {hp : mHp} {out : mOut} {x : Int32} {off : Int} (hd : decode M.2.1 pc = .ok (.ifCond .lt off, 3)) (ht : (pc : Int) + off = (tgt : Int)) (kt : x < 0 → mGo M d (tgt, L, st, hp) out) (kf : ¬ (x < 0) → mGo M d (pc + 3, L, st, hp) out) : mGo M d (pc, L, .int x :: st, hp) out := by
  refine ⟨by by_cases q : x < 0
             · exact (kt q).1
             · exact (kf q).1, ?_⟩
  intro base spa spn spf cm D p l e R s m args below meth c Q cE sE H locs cells slots ls hX hfr hlo hcE hsE hK hc hs hD hS hL
  have hx := hX.1
  have hb := hX.2.1
  refine lv_if_lt hx hb hd ht (fun q => ?_) (fun q => ?_)
  · exact (kt q).2 base spa spn spf cm D p l e R s m args below meth c Q cE sE H locs cells slots ls hX hfr hlo hcE hsE hK hc hs hD hS hL
  · exact (kf q).2 base spa spn spf cm D p l e R s m args below meth c Q cE sE H locs cells slots ls hX hfr hlo hcE hsE hK hc hs hD hS hL
theorem g_icmp_lt {M : mM} {d pc tgt : Nat} {L : mLs} {st : List Value} {hp : mHp} {out : mOut} {x y : Int32} {off : Int} (hd : decode M.2.1 pc = .ok (.if_icmp .lt off, 3)) (ht : (pc : Int) + off = (tgt : Int)) (kt : x < y → mGo M d (tgt, L, st, hp) out) (kf : ¬ (x < y) → mGo M d (pc + 3, L, st, hp) out) : mGo M d (pc, L, .int y :: .int x :: st, hp) out := by
  refine ⟨by by_cases q : x < y
             · exact (kt q).1
             · exact (kf q).1, ?_⟩
  intro base spa spn spf cm D p l e R s m args below meth c Q cE sE H locs cells slots ls hX hfr hlo hcE hsE hK hc hs hD hS hL
  have hx := hX.1
  have hb := hX.2.1
  refine lv_icmp_lt hx hb hd ht (fun q => ?_) (fun q => ?_)
  · exact (kt q).2 base spa spn spf cm D p l e R s m args below meth c Q cE sE H locs cells slots ls hX hfr hlo hcE hsE hK hc hs hD hS hL
  · exact (kf q).2 base spa spn spf cm D p l e R s m args below meth c Q cE sE H locs cells slots ls hX hfr hlo hcE hsE hK hc hs hD hS hL
theorem g_if_ge {M : mM} {d pc tgt : Nat} {L : mLs} {st : List Value} {hp : mHp} {out : mOut} {x : Int32} {off : Int} (hd : decode M.2.1 pc = .ok (.ifCond .ge off, 3)) (ht : (pc : Int) + off = (tgt : Int)) (kt : 0 ≤ x → mGo M d (tgt, L, st, hp) out) (kf : ¬ (0 ≤ x) → mGo M d (pc + 3, L, st, hp) out) : mGo M d (pc, L, .int x :: st, hp) out := by
  refine ⟨by by_cases q : 0 ≤ x
             · exact (kt q).1
             · exact (kf q).1, ?_⟩
  intro base spa spn spf cm D p l e R s m args below meth c Q cE sE H locs cells slots ls hX hfr hlo hcE hsE hK hc hs hD hS hL
  have hx := hX.1
  have hb := hX.2.1
  refine lv_if_ge hx hb hd ht (fun q => ?_) (fun q => ?_)
  · exact (kt q).2 base spa spn spf cm D p l e R s m args below meth c Q cE sE H locs cells slots ls hX hfr hlo hcE hsE hK hc hs hD hS hL
  · exact (kf q).2 base spa spn spf cm D p l e R s m args below meth c Q cE sE H locs cells slots ls hX hfr hlo hcE hsE hK hc hs hD hS hL
theorem g_icmp_ge {M : mM} {d pc tgt : Nat} {L : mLs} {st : List Value} {hp : mHp} {out : mOut} {x y : Int32} {off : Int} (hd : decode M.2.1 pc = .ok (.if_icmp .ge off, 3)) (ht : (pc : Int) + off = (tgt : Int)) (kt : y ≤ x → mGo M d (tgt, L, st, hp) out) (kf : ¬ (y ≤ x) → mGo M d (pc + 3, L, st, hp) out) : mGo M d (pc, L, .int y :: .int x :: st, hp) out := by
  refine ⟨by by_cases q : y ≤ x
             · exact (kt q).1
             · exact (kf q).1, ?_⟩
  intro base spa spn spf cm D p l e R s m args below meth c Q cE sE H locs cells slots ls hX hfr hlo hcE hsE hK hc hs hD hS hL
  have hx := hX.1
  have hb := hX.2.1
  refine lv_icmp_ge hx hb hd ht (fun q => ?_) (fun q => ?_)
  · exact (kt q).2 base spa spn spf cm D p l e R s m args below meth c Q cE sE H locs cells slots ls hX hfr hlo hcE hsE hK hc hs hD hS hL
  · exact (kf q).2 base spa spn spf cm D p l e R s m args below meth c Q cE sE H locs cells slots ls hX hfr hlo hcE hsE hK hc hs hD hS hL
theorem g_if_gt {M : mM} {d pc tgt : Nat} {L : mLs} {st : List Value} {hp : mHp} {out : mOut} {x : Int32} {off : Int} (hd : decode M.2.1 pc = .ok (.ifCond .gt off, 3)) (ht : (pc : Int) + off = (tgt : Int)) (kt : 0 < x → mGo M d (tgt, L, st, hp) out) (kf : ¬ (0 < x) → mGo M d (pc + 3, L, st, hp) out) : mGo M d (pc, L, .int x :: st, hp) out := by
  refine ⟨by by_cases q : 0 < x
             · exact (kt q).1
             · exact (kf q).1, ?_⟩
  intro base spa spn spf cm D p l e R s m args below meth c Q cE sE H locs cells slots ls hX hfr hlo hcE hsE hK hc hs hD hS hL
  have hx := hX.1
  have hb := hX.2.1
  refine lv_if_gt hx hb hd ht (fun q => ?_) (fun q => ?_)
  · exact (kt q).2 base spa spn spf cm D p l e R s m args below meth c Q cE sE H locs cells slots ls hX hfr hlo hcE hsE hK hc hs hD hS hL
  · exact (kf q).2 base spa spn spf cm D p l e R s m args below meth c Q cE sE H locs cells slots ls hX hfr hlo hcE hsE hK hc hs hD hS hL
theorem g_icmp_gt {M : mM} {d pc tgt : Nat} {L : mLs} {st : List Value} {hp : mHp} {out : mOut} {x y : Int32} {off : Int} (hd : decode M.2.1 pc = .ok (.if_icmp .gt off, 3)) (ht : (pc : Int) + off = (tgt : Int)) (kt : y < x → mGo M d (tgt, L, st, hp) out) (kf : ¬ (y < x) → mGo M d (pc + 3, L, st, hp) out) : mGo M d (pc, L, .int y :: .int x :: st, hp) out := by
  refine ⟨by by_cases q : y < x
             · exact (kt q).1
             · exact (kf q).1, ?_⟩
  intro base spa spn spf cm D p l e R s m args below meth c Q cE sE H locs cells slots ls hX hfr hlo hcE hsE hK hc hs hD hS hL
  have hx := hX.1
  have hb := hX.2.1
  refine lv_icmp_gt hx hb hd ht (fun q => ?_) (fun q => ?_)
  · exact (kt q).2 base spa spn spf cm D p l e R s m args below meth c Q cE sE H locs cells slots ls hX hfr hlo hcE hsE hK hc hs hD hS hL
  · exact (kf q).2 base spa spn spf cm D p l e R s m args below meth c Q cE sE H locs cells slots ls hX hfr hlo hcE hsE hK hc hs hD hS hL
theorem g_if_le {M : mM} {d pc tgt : Nat} {L : mLs} {st : List Value} {hp : mHp} {out : mOut} {x : Int32} {off : Int} (hd : decode M.2.1 pc = .ok (.ifCond .le off, 3)) (ht : (pc : Int) + off = (tgt : Int)) (kt : x ≤ 0 → mGo M d (tgt, L, st, hp) out) (kf : ¬ (x ≤ 0) → mGo M d (pc + 3, L, st, hp) out) : mGo M d (pc, L, .int x :: st, hp) out := by
  refine ⟨by by_cases q : x ≤ 0
             · exact (kt q).1
             · exact (kf q).1, ?_⟩
  intro base spa spn spf cm D p l e R s m args below meth c Q cE sE H locs cells slots ls hX hfr hlo hcE hsE hK hc hs hD hS hL
  have hx := hX.1
  have hb := hX.2.1
  refine lv_if_le hx hb hd ht (fun q => ?_) (fun q => ?_)
  · exact (kt q).2 base spa spn spf cm D p l e R s m args below meth c Q cE sE H locs cells slots ls hX hfr hlo hcE hsE hK hc hs hD hS hL
  · exact (kf q).2 base spa spn spf cm D p l e R s m args below meth c Q cE sE H locs cells slots ls hX hfr hlo hcE hsE hK hc hs hD hS hL
theorem g_icmp_le {M : mM} {d pc tgt : Nat} {L : mLs} {st : List Value} {hp : mHp} {out : mOut} {x y : Int32} {off : Int} (hd : decode M.2.1 pc = .ok (.if_icmp .le off, 3)) (ht : (pc : Int) + off = (tgt : Int)) (kt : x ≤ y → mGo M d (tgt, L, st, hp) out) (kf : ¬ (x ≤ y) → mGo M d (pc + 3, L, st, hp) out) : mGo M d (pc, L, .int y :: .int x :: st, hp) out := by
  refine ⟨by by_cases q : x ≤ y
             · exact (kt q).1
             · exact (kf q).1, ?_⟩
  intro base spa spn spf cm D p l e R s m args below meth c Q cE sE H locs cells slots ls hX hfr hlo hcE hsE hK hc hs hD hS hL
  have hx := hX.1
  have hb := hX.2.1
  refine lv_icmp_le hx hb hd ht (fun q => ?_) (fun q => ?_)
  · exact (kt q).2 base spa spn spf cm D p l e R s m args below meth c Q cE sE H locs cells slots ls hX hfr hlo hcE hsE hK hc hs hD hS hL
  · exact (kf q).2 base spa spn spf cm D p l e R s m args below meth c Q cE sE H locs cells slots ls hX hfr hlo hcE hsE hK hc hs hD hS hL
theorem g_lookup {M : mM} {d pc len tgt : Nat} {L : mLs} {st : List Value} {hp : mHp} {out : mOut} {x : Int32} {dflt off : Int} {ps : Array (Int × Int)} (hd : decode M.2.1 pc = .ok (.lookupswitch dflt ps, len)) (hp1 : (ps.toList.zip (ps.toList.drop 1)).all (fun (a, next) => a.1 < next.1) = true) (ho : Op.lookupswitch.offset ps.toList dflt x.toInt = off) (ht : (pc : Int) + off = (tgt : Int)) (k : mGo M d (tgt, L, st, hp) out) : mGo M d (pc, L, .int x :: st, hp) out := by
  refine ⟨k.1, ?_⟩
  intro base spa spn spf cm D p l e R s m args below meth c Q cE sE H locs cells slots ls hX hfr hlo hcE hsE hK hc hs hD hS hL
  have hx := hX.1
  have hb := hX.2.1
  refine lv_lookup hx hb hd hp1 ho ht ?_
  exact k.2 base spa spn spf cm D p l e R s m args below meth c Q cE sE H locs cells slots ls hX hfr hlo hcE hsE hK hc hs hD hS hL
theorem g_tabOut {M : mM} {d pc len tgt : Nat} {L : mLs} {st : List Value} {hp : mHp} {out : mOut} {x : Int32} {dflt lo hi : Int} {offs : Array Int} (hd : decode M.2.1 pc = .ok (.tableswitch dflt lo hi offs, len)) (h : x.toInt < lo ∨ hi < x.toInt) (ht : (pc : Int) + dflt = (tgt : Int)) (k : mGo M d (tgt, L, st, hp) out) : mGo M d (pc, L, .int x :: st, hp) out := by
  refine ⟨k.1, ?_⟩
  intro base spa spn spf cm D p l e R s m args below meth c Q cE sE H locs cells slots ls hX hfr hlo hcE hsE hK hc hs hD hS hL
  have hx := hX.1
  have hb := hX.2.1
  refine lv_tableOut hx hb hd h ht ?_
  exact k.2 base spa spn spf cm D p l e R s m args below meth c Q cE sE H locs cells slots ls hX hfr hlo hcE hsE hK hc hs hD hS hL
theorem g_tabIn {M : mM} {d pc len tgt : Nat} {L : mLs} {st : List Value} {hp : mHp} {out : mOut} {x : Int32} {dflt lo hi off : Int} {offs : Array Int} (hd : decode M.2.1 pc = .ok (.tableswitch dflt lo hi offs, len)) (h1 : ¬ x.toInt < lo) (h2 : ¬ hi < x.toInt) (ho : offs[(x.toInt - lo).toNat]? = some off) (ht : (pc : Int) + off = (tgt : Int)) (k : mGo M d (tgt, L, st, hp) out) : mGo M d (pc, L, .int x :: st, hp) out := by
  refine ⟨k.1, ?_⟩
  intro base spa spn spf cm D p l e R s m args below meth c Q cE sE H locs cells slots ls hX hfr hlo hcE hsE hK hc hs hD hS hL
  have hx := hX.1
  have hb := hX.2.1
  refine lv_tableIn hx hb hd h1 h2 ho ht ?_
  exact k.2 base spa spn spf cm D p l e R s m args below meth c Q cE sE H locs cells slots ls hX hfr hlo hcE hsE hK hc hs hD hS hL
theorem g_iret {M : mM} {d pc : Nat} {L : mLs} {hp : mHp} {out : mOut} {v : Int32} (hd : decode M.2.1 pc = .ok (.ireturn, 1)) (ho : out = (some (.int v), hp)) : mGo M d (pc, L, [.int v], hp) out := by
  subst ho
  refine ⟨⟨Nat.le_refl _, Nat.le_refl _⟩, ?_⟩
  intro base spa spn spf cm D p l e R s m args below meth c Q cE sE H locs cells slots ls hX hfr hlo hcE hsE hK hc hs hD hS hL
  have hx := hX.1
  have hb := hX.2.1
  have e1 : cells = cE := Nat.add_right_cancel hc
  have e2 : slots = sE := Nat.add_right_cancel hs
  subst e1
  subst e2
  exact hK H locs pc ls hd hD hS
theorem g_lret {M : mM} {d pc : Nat} {L : mLs} {hp : mHp} {out : mOut} {v : Int64} (hd : decode M.2.1 pc = .ok (.lreturn, 1)) (ho : out = (some (.long v), hp)) : mGo M d (pc, L, [.long v], hp) out := by
  subst ho
  refine ⟨⟨Nat.le_refl _, Nat.le_refl _⟩, ?_⟩
  intro base spa spn spf cm D p l e R s m args below meth c Q cE sE H locs cells slots ls hX hfr hlo hcE hsE hK hc hs hD hS hL
  have hx := hX.1
  have hb := hX.2.1
  have e1 : cells = cE := Nat.add_right_cancel hc
  have e2 : slots = sE := Nat.add_right_cancel hs
  subst e1
  subst e2
  exact hK H locs pc ls hd hD hS
theorem g_vret {M : mM} {d pc : Nat} {L : mLs} {hp : mHp} {out : mOut}  (hd : decode M.2.1 pc = .ok (.return_, 1)) (ho : out = (none, hp)) : mGo M d (pc, L, [], hp) out := by
  subst ho
  refine ⟨⟨Nat.le_refl _, Nat.le_refl _⟩, ?_⟩
  intro base spa spn spf cm D p l e R s m args below meth c Q cE sE H locs cells slots ls hX hfr hlo hcE hsE hK hc hs hD hS hL
  have hx := hX.1
  have hb := hX.2.1
  have e1 : cells = cE := Nat.add_right_cancel hc
  have e2 : slots = sE := Nat.add_right_cancel hs
  subst e1
  subst e2
  exact hK H locs pc ls hd hD hS
def mfin (ci k : Nat) : Bool := match mcl[ci]? with
  | some q => (q.2.1 k).2.2.2
  | none => false
def mdc (ci : Nat) : String := match mcl[ci]? with
  | some q => q.1
  | none => ""
def mFL (own : String) (idx ci k : Nat) : Prop := ∃ (C : String) (T : u_T) (N : Nat), mcl[ci]? = some (C, T, N) ∧ mN ci = N ∧ k < N ∧ (∀ w ∈ u_ws C T N, w ∈ mGW) ∧ Cond.fieldLink own idx (T k).1 (T k).2.1 (T k).2.2.1 ∈ mGW ∧ (∀ j, j < N → parseFieldDescriptor (T j).2.2.1 = some (mty ci j)) ∧ (∀ a, a < N → ∀ b, b < N → a ≠ b → (T a).2.1 ≠ (T b).2.1) ∧ (T k).1 = C
def mNC (ci : Nat) (C : String) : Prop := ∃ (T : u_T) (N : Nat), mcl[ci]? = some (C, T, N) ∧ mN ci = N ∧ (∀ w ∈ u_ws C T N, w ∈ mGW) ∧ Cond.instantiable C N ∈ mGW ∧ Cond.initialized C ∈ mGW ∧ (∀ j, j < N → parseFieldDescriptor (T j).2.2.1 = some (mty ci j)) ∧ ∀ j, j < N → defaultValue (mty ci j) = mfv (mty ci j) 0 none
theorem mce_obj {base : Nat} {spa : Nat → Nat} {cm : Nat → ClassId} {F : Nat → Nat → Int32} {R : Nat → Nat → Option Nat} {j ci : Nat} : mce base spa cm F R j (.inl ci) = .inr (ci, (List.range (mN ci)).map (fun k => mtv base spa (mfv (mty ci k) (F j k) (R j k)))) := rfl
theorem mce_int {base : Nat} {spa : Nat → Nat} {cm : Nat → ClassId} {F : Nat → Nat → Int32} {R : Nat → Nat → Option Nat} {j t n : Nat} (h : t ≠ 2) : mce base spa cm F R j (.inr (t, n)) = .inl (cm t, n, .inl (F j)) := by
  show (if t = 2 then _ else _) = _
  rw [if_neg h]
theorem mce_ref {base : Nat} {spa : Nat → Nat} {cm : Nat → ClassId} {F : Nat → Nat → Int32} {R : Nat → Nat → Option Nat} {j n : Nat} : mce base spa cm F R j (.inr (2, n)) = .inl (cm 2, n, .inr (.inr (.inr (.inr (fun i => (R j i).map (mad base spa)))))) := rfl
theorem m_rf (base : Nat) (spa : Nat → Nat) (r : Option Nat) : va_rf (r.map (mad base spa)) = mtv base spa (va_rf r) := by cases r <;> rfl
theorem mD_upd {base : Nat} {spa spn : Nat → Nat} {spf : Nat → Nat → Int32} {cm : Nat → ClassId} {D : va_G} {sh : List mShp} {F F' : Nat → Nat → Int32} {R R' : Nat → Nat → Option Nat} {j : Nat} {s : mShp} {H H1 : Heap} (hD : mD base spa spn spf cm D (sh, F, R) H) (h4 : 4 ≤ j) (hs : sh[j]? = some s) (hF : ∀ a, a ≠ j → F' a = F a) (hR : ∀ a, a ≠ j → R' a = R a) (z : H1.size = H.size) (oq : ∀ q : Nat, q ≠ base + (j - 4) → H1[q]? = H[q]?) (hat : va_at D mcl (base + (j - 4), mce base spa cm F' R' j s) H1) : mD base spa spn spf cm D (sh, F', R') H1 := by
  obtain ⟨h1, h2, h3, h5⟩ := hD
  refine ⟨h1, z.trans h2, ?_, fun a ha => ⟨(h5 a ha).1, (hF a (by omega)).trans (h5 a ha).2⟩⟩
  rw [mW_upd (sh := sh) (F := F) (R := R) h4 hs hF hR]
  exact h3.set mW_D (mW_get (hp := (sh, F, R)) h4 hs) hat oq
theorem mD_push {base : Nat} {spa spn : Nat → Nat} {spf : Nat → Nat → Int32} {cm : Nat → ClassId} {D : va_G} {sh : List mShp} {F F' : Nat → Nat → Int32} {R R' : Nat → Nat → Option Nat} {s : mShp} {H H1 : Heap} (hD : mD base spa spn spf cm D (sh, F, R) H) (hF : ∀ a, a ≠ sh.length → F' a = F a) (hR : ∀ a, a ≠ sh.length → R' a = R a) (z : H1.size = H.size + 1) (oq : ∀ q : Nat, q < H.size → H1[q]? = H[q]?) (hat : va_at D mcl (H.size, mce base spa cm F' R' sh.length s) H1) : mD base spa spn spf cm D (sh ++ [s], F', R') H1 := by
  obtain ⟨h1, h2, h3, h5⟩ := hD
  have h1' : 4 ≤ sh.length := h1
  have h2' : H.size = base + (sh.length - 4) := h2
  refine ⟨by show 4 ≤ (sh ++ [s]).length; simp; omega, by show H1.size = base + ((sh ++ [s]).length - 4); simp; omega, ?_, fun a ha => ⟨?_, (hF a (by omega)).trans (h5 a ha).2⟩⟩
  · rw [mW_push (sh := sh) (F := F) (R := R) h1 hF hR]
    refine (h3.kept (fun k q hk => oq q.1 ((h3 k q hk).lt))).app (fun k q hk => ?_)
    have hz : k < 1 := (List.getElem?_eq_some_iff.mp hk).1
    rw [show k = 0 by omega] at hk
    cases hk
    rw [← h2']
    exact hat
  · show (sh ++ [s])[a]? = _
    rw [List.getElem?_append_left (by omega)]
    exact (h5 a ha).1
theorem g_get {M : mM} {d pc : Nat} {L : mLs} {st : List Value} {hp : mHp} {out : mOut} {idx ci f j : Nat} (hd : decode M.2.1 pc = .ok (.getfield idx, 3)) (hf : mFL M.1 idx ci f) (hsh : hp.1[j]? = some (.inl ci)) (h4 : 4 ≤ j) (k : mGo M d (pc + 3, L, mfv (mty ci f) (hp.2.1 j f) (hp.2.2 j f) :: st, hp) out) : mGo M d (pc, L, .ref j :: st, hp) out := by
  refine ⟨k.1, ?_⟩
  intro base spa spn spf cm D p l e R s m args below meth c Q cE sE H locs cells slots ls hX hfr hlo hcE hsE hK hc hs hD hS hL
  have hx := hX.1
  have hb := hX.2.1
  obtain ⟨C, T, N, e1, e2, e3, e4, e5, -, -, -⟩ := hf
  have hts := hX.2.2.2.2.2.2.2.1
  show W p l e R s m args below meth c H locs cells slots Q (F0 m pc ls (.ref (mad base spa j) :: st.map (mtv base spa)))
  rw [mad_hi h4]
  refine va_get (D := D) (cl := mcl) (tys := mtys cm) (ws := mW base spa cm hp) (own := M.1) hx hb hts e4 hX.2.2.2.2.1 hX.2.2.2.2.2.2.2.2.1 hD.2.2.1 (j - 4) (mW_get h4 hsh) e1 f e3 (hts _ e5) (fun _ h => h) (v := mtv base spa (mfv (mty ci f) (hp.2.1 j f) (hp.2.2 j f))) ?_ hd ?_
  · rw [e2, List.getElem?_map, List.getElem?_range e3]
    rfl
  · exact k.2 base spa spn spf cm D p l e R s m args below meth c Q cE sE H locs cells slots ls hX hfr hlo hcE hsE hK hc hs hD hS hL
theorem g_getI {M : mM} {d pc : Nat} {L : mLs} {st : List Value} {hp : mHp} {out : mOut} {idx ci f j : Nat} (hd : decode M.2.1 pc = .ok (.getfield idx, 3)) (hf : mFL M.1 idx ci f) (ht : ∀ i r, mfv (mty ci f) i r = .int i) (hsh : hp.1[j]? = some (.inl ci)) (h4 : 4 ≤ j) (k : mGo M d (pc + 3, L, .int (hp.2.1 j f) :: st, hp) out) : mGo M d (pc, L, .ref j :: st, hp) out :=
  g_get hd hf hsh h4 (by rw [ht]; exact k)
theorem g_getR {M : mM} {d pc : Nat} {L : mLs} {st : List Value} {hp : mHp} {out : mOut} {idx ci f j r : Nat} (hd : decode M.2.1 pc = .ok (.getfield idx, 3)) (hf : mFL M.1 idx ci f) (ht : ∀ i r, mfv (mty ci f) i r = va_rf r) (hsh : hp.1[j]? = some (.inl ci)) (h4 : 4 ≤ j) (hr : hp.2.2 j f = some r) (k : mGo M d (pc + 3, L, .ref r :: st, hp) out) : mGo M d (pc, L, .ref j :: st, hp) out :=
  g_get hd hf hsh h4 (by rw [ht, hr]; exact k)
theorem g_put {M : mM} {d pc : Nat} {L : mLs} {st : List Value} {sh : List mShp} {F F' : Nat → Nat → Int32} {R0 R1 : Nat → Nat → Option Nat} {out : mOut} {idx ci f j : Nat} {v : Value} (hd : decode M.2.1 pc = .ok (.putfield idx, 3)) (hf : mFL M.1 idx ci f) (hfin : mfin ci f = false ∨ (mfin ci f = true ∧ M.2.2.2.2 = true ∧ mdc ci = M.1)) (hsh : sh[j]? = some (.inl ci)) (h4 : 4 ≤ j)
    (hF : ∀ a, a ≠ j → F' a = F a) (hR : ∀ a, a ≠ j → R1 a = R0 a) (hset : ∀ i, mfv (mty ci i) (F' j i) (R1 j i) = if i = f then v else mfv (mty ci i) (F j i) (R0 j i)) (hnf : ∀ base spa, narrow (mty ci f) (mtv base spa v) = mtv base spa v ∧ fits (mty ci f) (mtv base spa v) = true)
    (k : mGo M d (pc + 3, L, st, (sh, F', R1)) out) : mGo M d (pc, L, v :: .ref j :: st, (sh, F, R0)) out := by
  refine ⟨k.1, ?_⟩
  intro base spa spn spf cm D p l e R s m args below meth c Q cE sE H locs cells slots ls hX hfr hlo hcE hsE hK hc hs hD hS hL
  have hx := hX.1
  have hb := hX.2.1
  obtain ⟨C, T, N, e1, e2, e3, e4, e5, e6, e7, e8⟩ := hf
  have hts := hX.2.2.2.2.2.2.2.1
  have hown := hX.2.2.2.2.1
  have hK0 : va_K D mcl (mtys cm) s := hX.2.2.2.2.2.2.2.2.1
  have hap := va_apart (own := M.1) hts e4 (mty ci) e6 e7 hK0 e1
  have hw := mW_get (base := base) (spa := spa) (cm := cm) (hp := (sh, F, R0)) h4 hsh
  obtain ⟨r, h1, cell, q1, q2, q3, q4⟩ := hD.2.2.1 (j - 4) _ hw
  have hr : r = (C, T, N) := Option.some.inj (h1.symm.trans e1)
  subst hr
  obtain ⟨hS0, hfc, kC, hkC, hkind⟩ := hK0.1 ci _ e1
  obtain ⟨cf, kf, fi, fd, hi, hsl⟩ := hS0 f e3
  have hlay := hts _ (e4 _ (u_in_lay e3))
  have hst := (u_facts hfc hkC (u_lays hts e4 e3) hi).1
  have hfs : ((List.range (mN ci)).map (fun k => mtv base spa (mfv (mty ci k) (F j k) (R0 j k)))).set f (mtv base spa v) = (List.range (mN ci)).map (fun k => mtv base spa (mfv (mty ci k) (F' j k) (R1 j k))) := by
    apply List.ext_getElem?
    intro i
    by_cases hif : i = f
    · subst hif
      rw [List.getElem?_set_self (by simp; omega), List.getElem?_map, List.getElem?_range (by omega)]
      show _ = some (mtv base spa (mfv (mty ci i) (F' j i) (R1 j i)))
      rw [hset i, if_pos rfl]
    · rw [List.getElem?_set_ne (Ne.symm hif), List.getElem?_map, List.getElem?_map]
      by_cases hin : i < mN ci
      · rw [List.getElem?_range hin]
        simp only [Option.map_some, hset i, if_neg hif]
      · rw [List.getElem?_eq_none (by simp; omega)]
        rfl
  have hlen : f < ((List.range (mN ci)).map (fun k => mtv base spa (mfv (mty ci k) (F j k) (R0 j k)))).length := by simp; omega
  show W p l e R s m args below meth c H locs cells slots Q (F0 m pc ls (mtv base spa v :: .ref (mad base spa j) :: st.map (mtv base spa)))
  rw [mad_hi h4]
  have fin1 : ∀ H' : Heap, H'[base + (j - 4)]? = some (cell.setSlot fd.slot (mtv base spa v)) → H'.size = H.size → (∀ q, q ≠ base + (j - 4) → H'[q]? = H[q]?) → W p l e R s m args below meth c H' (locs ++ [⟨base + (j - 4), fd.slot⟩]) cells slots Q (F0 m (pc + 3) ls (st.map (mtv base spa))) := by
    intro H' g1 g2 g3
    rw [hsl] at g1
    refine k.2 base spa spn spf cm D p l e R s m args below meth c Q cE sE H' _ cells slots ls hX hfr hlo hcE hsE hK hc hs (mD_upd hD h4 hsh hF hR g2 g3 ?_) (hS.put g2 g3 (by show base ≤ base + (j - 4); omega)) hL
    rw [mce_obj, ← hfs]
    exact ⟨_, e1, t_OB.to (V := updV (vp_V _) f (mtv base spa v)) ⟨_, g1, q2, q3, t_set q4 hap e3 (mtv base spa v)⟩ (fun i _ => vp_updV_set hlen (mtv base spa v) i)⟩
  have hmf : mfin ci f = (T f).2.2.2 := by simp [mfin, e1]
  rcases hfin with hfin | ⟨hfin, hini, hdc⟩
  · rw [hmf] at hfin
    unfold u_lay at hlay
    rw [if_neg (by rw [hfin]; decide)] at hlay
    have h6 := u_store hfc hkC hkind hlay hi (e6 f e3) (hnf base spa).1 (hnf base spa).2
    exact W.putK hx hb (f := fd) ⟨hown, hts _ e5, ⟨_, _, _, hi⟩, hst⟩ (by rw [q2]; exact h6) q1 q3 (by rw [hsl]; exact k2_hasslot (q4 f e3)) rfl rfl hd fin1
  · rw [hmf] at hfin
    have hC : C = M.1 := by rw [← hdc]; simp [mdc, e1]
    unfold u_lay at hlay
    rw [if_pos hfin] at hlay
    have hcf : m.cls = cf := by
      obtain ⟨_, _, c', _, _, _, -, -, hf', -, -, -, hown2, -⟩ := Cond.laysFinal_spec hlay
      have e1' : c' = cf := by have := hi.symm.trans hf'; simp at this; exact this.1.symm
      rw [e8, hC] at hown2
      rw [← e1']; exact Option.some.inj (hown.symm.trans hown2)
    have h6 := u_fits hfc hkC hkind (Or.inr hlay) hi (e6 f e3) (hnf base spa).1 (hnf base spa).2
    exact W.putFinK hx hb hown (hts _ e5) hi hst hcf (hX.2.2.2.2.2.2.1 hini) (by rw [q2]; exact h6) q1 q3 (by rw [hsl]; exact k2_hasslot (q4 f e3)) rfl rfl hd fin1
theorem va_up_eq {α : Type} (f : Nat → α) (k : Nat) (v : α) : va_up f k v k = v := if_pos rfl
theorem g_putI {M : mM} {d pc : Nat} {L : mLs} {st : List Value} {sh : List mShp} {F : Nat → Nat → Int32} {R0 : Nat → Nat → Option Nat} {out : mOut} {idx ci f j : Nat} {x : Int32} (hd : decode M.2.1 pc = .ok (.putfield idx, 3)) (hf : mFL M.1 idx ci f) (hfin : mfin ci f = false ∨ (mfin ci f = true ∧ M.2.2.2.2 = true ∧ mdc ci = M.1)) (hsh : sh[j]? = some (.inl ci)) (h4 : 4 ≤ j) (ht : mty ci f = .int)
    (k : mGo M d (pc + 3, L, st, (sh, va_up F j (va_up (F j) f x), R0)) out) : mGo M d (pc, L, .int x :: .ref j :: st, (sh, F, R0)) out := by
  refine g_put hd hf hfin hsh h4 (fun a ha => va_up_ne _ _ ha) (fun _ _ => rfl) (fun i => ?_) (fun _ _ => by rw [ht]; exact ⟨rfl, rfl⟩) k
  rw [va_up_eq]
  by_cases hi : i = f
  · subst hi
    rw [if_pos rfl, va_up_eq, ht]
    rfl
  · rw [if_neg hi, va_up_ne _ _ hi]
theorem g_putZ {M : mM} {d pc : Nat} {L : mLs} {st : List Value} {sh : List mShp} {F : Nat → Nat → Int32} {R0 : Nat → Nat → Option Nat} {out : mOut} {idx ci f j : Nat} {x : Int32} (hd : decode M.2.1 pc = .ok (.putfield idx, 3)) (hf : mFL M.1 idx ci f) (hfin : mfin ci f = false ∨ (mfin ci f = true ∧ M.2.2.2.2 = true ∧ mdc ci = M.1)) (hsh : sh[j]? = some (.inl ci)) (h4 : 4 ≤ j) (ht : mty ci f = .boolean) (h01 : x = 0 ∨ x = 1)
    (k : mGo M d (pc + 3, L, st, (sh, va_up F j (va_up (F j) f x), R0)) out) : mGo M d (pc, L, .int x :: .ref j :: st, (sh, F, R0)) out := by
  refine g_put hd hf hfin hsh h4 (fun a ha => va_up_ne _ _ ha) (fun _ _ => rfl) (fun i => ?_) (fun _ _ => by rw [ht]; rcases h01 with rfl | rfl <;> exact ⟨rfl, rfl⟩) k
  rw [va_up_eq]
  by_cases hi : i = f
  · subst hi
    rw [if_pos rfl, va_up_eq, ht]
    rfl
  · rw [if_neg hi, va_up_ne _ _ hi]
theorem g_putR {M : mM} {d pc : Nat} {L : mLs} {st : List Value} {sh : List mShp} {F : Nat → Nat → Int32} {R0 : Nat → Nat → Option Nat} {out : mOut} {idx ci f j r : Nat} (hd : decode M.2.1 pc = .ok (.putfield idx, 3)) (hf : mFL M.1 idx ci f) (hfin : mfin ci f = false ∨ (mfin ci f = true ∧ M.2.2.2.2 = true ∧ mdc ci = M.1)) (hsh : sh[j]? = some (.inl ci)) (h4 : 4 ≤ j) (ht : ∀ i r, mfv (mty ci f) i r = va_rf r) (hnf : ∀ x, narrow (mty ci f) (.ref x) = .ref x ∧ fits (mty ci f) (.ref x) = true)
    (k : mGo M d (pc + 3, L, st, (sh, F, va_up R0 j (va_up (R0 j) f (some r)))) out) : mGo M d (pc, L, .ref r :: .ref j :: st, (sh, F, R0)) out := by
  refine g_put hd hf hfin hsh h4 (fun _ _ => rfl) (fun a ha => va_up_ne _ _ ha) (fun i => ?_) (fun base spa => hnf _) k
  rw [va_up_eq]
  by_cases hi : i = f
  · subst hi
    rw [if_pos rfl, va_up_eq, ht]
    rfl
  · rw [if_neg hi, va_up_ne _ _ hi]
theorem g_iald {M : mM} {d pc : Nat} {L : mLs} {st : List Value} {hp : mHp} {out : mOut} {j n : Nat} {i : Int32} (hd : decode M.2.1 pc = .ok (.iaload, 1)) (hsh : hp.1[j]? = some (.inr (0, n))) (h4 : 4 ≤ j) (hi : vp_in i n) (k : mGo M d (pc + 1, L, .int (hp.2.1 j i.toNatClampNeg) :: st, hp) out) : mGo M d (pc, L, .int i :: .ref j :: st, hp) out := by
  refine ⟨k.1, ?_⟩
  intro base spa spn spf cm D p l e R s m args below meth c Q cE sE H locs cells slots ls hX hfr hlo hcE hsE hK hc hs hD hS hL
  have hx := hX.1
  have hb := hX.2.1
  show W p l e R s m args below meth c H locs cells slots Q (F0 m pc ls (.int i :: .ref (mad base spa j) :: st.map (mtv base spa)))
  rw [mad_hi h4]
  refine va_iald (D := D) (cl := mcl) (tys := mtys cm) (ws := mW base spa cm hp) hx hb hX.2.2.2.2.2.2.2.2.1 hD.2.2.1 (j - 4) 0 (mW_get h4 hsh) rfl hi hd ?_
  exact k.2 base spa spn spf cm D p l e R s m args below meth c Q cE sE H locs cells slots ls hX hfr hlo hcE hsE hK hc hs hD hS hL
theorem g_zald {M : mM} {d pc : Nat} {L : mLs} {st : List Value} {hp : mHp} {out : mOut} {j n : Nat} {i : Int32} (hd : decode M.2.1 pc = .ok (.baload, 1)) (hsh : hp.1[j]? = some (.inr (1, n))) (h4 : 4 ≤ j) (hi : vp_in i n) (k : mGo M d (pc + 1, L, .int (hp.2.1 j i.toNatClampNeg) :: st, hp) out) : mGo M d (pc, L, .int i :: .ref j :: st, hp) out := by
  refine ⟨k.1, ?_⟩
  intro base spa spn spf cm D p l e R s m args below meth c Q cE sE H locs cells slots ls hX hfr hlo hcE hsE hK hc hs hD hS hL
  have hx := hX.1
  have hb := hX.2.1
  show W p l e R s m args below meth c H locs cells slots Q (F0 m pc ls (.int i :: .ref (mad base spa j) :: st.map (mtv base spa)))
  rw [mad_hi h4]
  refine va_zald (D := D) (cl := mcl) (tys := mtys cm) (ws := mW base spa cm hp) hx hb hX.2.2.2.2.2.2.2.2.1 hD.2.2.1 (j - 4) 1 (mW_get h4 hsh) rfl hi hd ?_
  exact k.2 base spa spn spf cm D p l e R s m args below meth c Q cE sE H locs cells slots ls hX hfr hlo hcE hsE hK hc hs hD hS hL
theorem g_aald {M : mM} {d pc : Nat} {L : mLs} {st : List Value} {hp : mHp} {out : mOut} {j n r : Nat} {i : Int32} (hd : decode M.2.1 pc = .ok (.aaload, 1)) (hsh : hp.1[j]? = some (.inr (2, n))) (h4 : 4 ≤ j) (hi : vp_in i n) (hr : hp.2.2 j i.toNatClampNeg = some r) (k : mGo M d (pc + 1, L, .ref r :: st, hp) out) : mGo M d (pc, L, .int i :: .ref j :: st, hp) out := by
  refine ⟨k.1, ?_⟩
  intro base spa spn spf cm D p l e R s m args below meth c Q cE sE H locs cells slots ls hX hfr hlo hcE hsE hK hc hs hD hS hL
  have hx := hX.1
  have hb := hX.2.1
  show W p l e R s m args below meth c H locs cells slots Q (F0 m pc ls (.int i :: .ref (mad base spa j) :: st.map (mtv base spa)))
  rw [mad_hi h4]
  refine va_aldq (D := D) (cl := mcl) (tys := mtys cm) (ws := mW base spa cm hp) (C := RX4) hx hb hX.2.2.2.2.2.2.2.2.1 hD.2.2.1 (j - 4) 2 (mW_get h4 hsh) rfl hi hd ?_
  simp only [hr, Option.map_some]
  exact k.2 base spa spn spf cm D p l e R s m args below meth c Q cE sE H locs cells slots ls hX hfr hlo hcE hsE hK hc hs hD hS hL
theorem g_sald {M : mM} {d pc : Nat} {L : mLs} {st : List Value} {hp : mHp} {out : mOut} {j n : Nat} {i : Int32} (hd : decode M.2.1 pc = .ok (.iaload, 1)) (hsh : hp.1[j]? = some (.inr (3, n))) (h4 : j < 4) (hi : vp_in i n) (k : mGo M d (pc + 1, L, .int (hp.2.1 j i.toNatClampNeg) :: st, hp) out) : mGo M d (pc, L, .int i :: .ref j :: st, hp) out := by
  refine ⟨k.1, ?_⟩
  intro base spa spn spf cm D p l e R s m args below meth c Q cE sE H locs cells slots ls hX hfr hlo hcE hsE hK hc hs hD hS hL
  have hx := hX.1
  have hb := hX.2.1
  have h5 := hD.2.2.2 j h4
  have h6 := hX.2.2.2.2.2.2.2.2.2.2.2.2.1 j h4
  have h7 : base ≤ s.heap.size := hX.2.2.2.2.2.2.2.2.2.2.2.1
  have hn : n = spn j := by
    have := hsh.symm.trans h5.1
    simpa using this
  show W p l e R s m args below meth c H locs cells slots Q (F0 m pc ls (.int i :: .ref (mad base spa j) :: st.map (mtv base spa)))
  rw [mad_lo h4]
  refine va_sld (A := fun q => base ≤ q) hx hb h6.2 (by omega) (by show ¬ base ≤ spa j; omega) hS (by rw [← hn]; exact hi) hd ?_
  rw [← h5.2]
  exact k.2 base spa spn spf cm D p l e R s m args below meth c Q cE sE H locs cells slots ls hX hfr hlo hcE hsE hK hc hs hD hS hL
theorem g_alen {M : mM} {d pc : Nat} {L : mLs} {st : List Value} {hp : mHp} {out : mOut} {j t n : Nat} (hd : decode M.2.1 pc = .ok (.arraylength, 1)) (hsh : hp.1[j]? = some (.inr (t, n))) (ht : t < 3) (h4 : 4 ≤ j) (k : mGo M d (pc + 1, L, .int (Int32.ofNat n) :: st, hp) out) : mGo M d (pc, L, .ref j :: st, hp) out := by
  refine ⟨k.1, ?_⟩
  intro base spa spn spf cm D p l e R s m args below meth c Q cE sE H locs cells slots ls hX hfr hlo hcE hsE hK hc hs hD hS hL
  have hx := hX.1
  have hb := hX.2.1
  show W p l e R s m args below meth c H locs cells slots Q (F0 m pc ls (.ref (mad base spa j) :: st.map (mtv base spa)))
  rw [mad_hi h4]
  have hw := mW_get (base := base) (spa := spa) (cm := cm) h4 hsh
  rcases (by omega : t = 0 ∨ t = 1 ∨ t = 2) with rfl | rfl | rfl
  · refine va_alen (D := D) (cl := mcl) (tys := mtys cm) (ws := mW base spa cm hp) hx hb hX.2.2.2.2.2.2.2.2.1 hD.2.2.1 (j - 4) 0 hw rfl rfl hd ?_
    exact k.2 base spa spn spf cm D p l e R s m args below meth c Q cE sE H locs cells slots ls hX hfr hlo hcE hsE hK hc hs hD hS hL
  · refine va_alen (D := D) (cl := mcl) (tys := mtys cm) (ws := mW base spa cm hp) hx hb hX.2.2.2.2.2.2.2.2.1 hD.2.2.1 (j - 4) 1 hw rfl rfl hd ?_
    exact k.2 base spa spn spf cm D p l e R s m args below meth c Q cE sE H locs cells slots ls hX hfr hlo hcE hsE hK hc hs hD hS hL
  · refine va_alen (D := D) (cl := mcl) (tys := mtys cm) (ws := mW base spa cm hp) hx hb hX.2.2.2.2.2.2.2.2.1 hD.2.2.1 (j - 4) 2 hw rfl rfl hd ?_
    exact k.2 base spa spn spf cm D p l e R s m args below meth c Q cE sE H locs cells slots ls hX hfr hlo hcE hsE hK hc hs hD hS hL
theorem g_slen {M : mM} {d pc : Nat} {L : mLs} {st : List Value} {hp : mHp} {out : mOut} {j n : Nat} (hd : decode M.2.1 pc = .ok (.arraylength, 1)) (hsh : hp.1[j]? = some (.inr (3, n))) (h4 : j < 4) (k : mGo M d (pc + 1, L, .int (Int32.ofNat n) :: st, hp) out) : mGo M d (pc, L, .ref j :: st, hp) out := by
  refine ⟨k.1, ?_⟩
  intro base spa spn spf cm D p l e R s m args below meth c Q cE sE H locs cells slots ls hX hfr hlo hcE hsE hK hc hs hD hS hL
  have hx := hX.1
  have hb := hX.2.1
  have h5 := hD.2.2.2 j h4
  have h6 := hX.2.2.2.2.2.2.2.2.2.2.2.2.1 j h4
  have h7 : base ≤ s.heap.size := hX.2.2.2.2.2.2.2.2.2.2.2.1
  have hn : n = spn j := by
    have := hsh.symm.trans h5.1
    simpa using this
  show W p l e R s m args below meth c H locs cells slots Q (F0 m pc ls (.ref (mad base spa j) :: st.map (mtv base spa)))
  rw [mad_lo h4]
  refine va_slen (A := fun q => base ≤ q) hx hb h6.2 (by omega) (by show ¬ base ≤ spa j; omega) hS hd ?_
  rw [← hn]
  exact k.2 base spa spn spf cm D p l e R s m args below meth c Q cE sE H locs cells slots ls hX hfr hlo hcE hsE hK hc hs hD hS hL
theorem g_iast {M : mM} {d pc : Nat} {L : mLs} {st : List Value} {sh : List mShp} {F : Nat → Nat → Int32} {R0 : Nat → Nat → Option Nat} {out : mOut} {j n : Nat} {i x : Int32} (hd : decode M.2.1 pc = .ok (.iastore, 1)) (hsh : sh[j]? = some (.inr (0, n))) (h4 : 4 ≤ j) (hi : vp_in i n) (k : mGo M d (pc + 1, L, st, (sh, va_up F j (va_up (F j) i.toNatClampNeg x), R0)) out) : mGo M d (pc, L, .int x :: .int i :: .ref j :: st, (sh, F, R0)) out := by
  refine ⟨k.1, ?_⟩
  intro base spa spn spf cm D p l e R s m args below meth c Q cE sE H locs cells slots ls hX hfr hlo hcE hsE hK hc hs hD hS hL
  have hx := hX.1
  have hb := hX.2.1
  show W p l e R s m args below meth c H locs cells slots Q (F0 m pc ls (.int x :: .int i :: .ref (mad base spa j) :: st.map (mtv base spa)))
  rw [mad_hi h4]
  have hK0 : va_K D mcl (mtys cm) s := hX.2.2.2.2.2.2.2.2.1
  have hw := hD.2.2.1 _ _ (mW_get (base := base) (spa := spa) (cm := cm) h4 hsh)
  refine W.iast (a := base + (j - 4)) (cell := vp_cell (cm 0) (n, .inl (F j))) hx hb hw ((hK0.2 0 _ rfl).1 n (fun a => .int (F j a))) (fun q => by cases q) (by show ¬ (i < 0 ∨ (arrV _ _ _).slots.size ≤ _); rw [arrV_size]; exact hi) rfl rfl hd fun H1 e1 z oq => ?_
  refine k.2 base spa spn spf cm D p l e R s m args below meth c Q cE sE H1 _ cells slots ls hX hfr hlo hcE hsE hK hc hs (mD_upd hD h4 hsh (fun a ha => va_up_ne _ _ ha) (fun _ _ => rfl) z oq ?_) (hS.put z oq (by show base ≤ base + (j - 4); omega)) hL
  rw [mce_int (by decide), va_up_eq]
  show H1[base + (j - 4)]? = some (vp_cell _ _)
  rw [e1, vp_cell_i, vp_cell_i, arrV_store]
  congr 2
  funext q
  by_cases hq : q = i.toNatClampNeg
  · subst hq
    simp [updV, va_up]
  · simp [updV, va_up, hq]
theorem g_zast {M : mM} {d pc : Nat} {L : mLs} {st : List Value} {sh : List mShp} {F : Nat → Nat → Int32} {R0 : Nat → Nat → Option Nat} {out : mOut} {j n : Nat} {i x : Int32} (hd : decode M.2.1 pc = .ok (.bastore, 1)) (hsh : sh[j]? = some (.inr (1, n))) (h4 : 4 ≤ j) (hi : vp_in i n) (h01 : narrow .boolean (.int x) = .int x) (k : mGo M d (pc + 1, L, st, (sh, va_up F j (va_up (F j) i.toNatClampNeg x), R0)) out) : mGo M d (pc, L, .int x :: .int i :: .ref j :: st, (sh, F, R0)) out := by
  refine ⟨k.1, ?_⟩
  intro base spa spn spf cm D p l e R s m args below meth c Q cE sE H locs cells slots ls hX hfr hlo hcE hsE hK hc hs hD hS hL
  have hx := hX.1
  have hb := hX.2.1
  show W p l e R s m args below meth c H locs cells slots Q (F0 m pc ls (.int x :: .int i :: .ref (mad base spa j) :: st.map (mtv base spa)))
  rw [mad_hi h4]
  have hK0 : va_K D mcl (mtys cm) s := hX.2.2.2.2.2.2.2.2.1
  have hw := hD.2.2.1 _ _ (mW_get (base := base) (spa := spa) (cm := cm) h4 hsh)
  refine W.zast (a := base + (j - 4)) (cell := vp_cell (cm 1) (n, .inl (F j))) hx hb hw ((hK0.2 1 _ rfl).1 n (fun a => .int (F j a))) (fun q => by cases q) (by show ¬ (i < 0 ∨ (arrV _ _ _).slots.size ≤ _); rw [arrV_size]; exact hi) rfl rfl hd fun H1 e1 z oq => ?_
  refine k.2 base spa spn spf cm D p l e R s m args below meth c Q cE sE H1 _ cells slots ls hX hfr hlo hcE hsE hK hc hs (mD_upd hD h4 hsh (fun a ha => va_up_ne _ _ ha) (fun _ _ => rfl) z oq ?_) (hS.put z oq (by show base ≤ base + (j - 4); omega)) hL
  rw [mce_int (by decide), va_up_eq]
  show H1[base + (j - 4)]? = some (vp_cell _ _)
  rw [e1, vp_cell_i, vp_cell_i, arrV_store]
  congr 2
  funext q
  by_cases hq : q = i.toNatClampNeg
  · subst hq
    simp [updV, va_up, h01]
  · simp [updV, va_up, hq]
theorem g_aast {M : mM} {d pc : Nat} {L : mLs} {st : List Value} {sh : List mShp} {F : Nat → Nat → Int32} {R0 : Nat → Nat → Option Nat} {out : mOut} {j n v ci : Nat} {i : Int32} (hd : decode M.2.1 pc = .ok (.aastore, 1)) (hsh : sh[j]? = some (.inr (2, n))) (h4 : 4 ≤ j) (hi : vp_in i n) (hv : sh[v]? = some (.inl ci)) (hv4 : 4 ≤ v) (hci : mcl[ci]?.map (fun q => q.1) = some RX4) (k : mGo M d (pc + 1, L, st, (sh, F, va_up R0 j (va_up (R0 j) i.toNatClampNeg (some v)))) out) : mGo M d (pc, L, .ref v :: .int i :: .ref j :: st, (sh, F, R0)) out := by
  refine ⟨k.1, ?_⟩
  intro base spa spn spf cm D p l e R s m args below meth c Q cE sE H locs cells slots ls hX hfr hlo hcE hsE hK hc hs hD hS hL
  have hx := hX.1
  have hb := hX.2.1
  show W p l e R s m args below meth c H locs cells slots Q (F0 m pc ls (.ref (mad base spa v) :: .int i :: .ref (mad base spa j) :: st.map (mtv base spa)))
  rw [mad_hi h4, mad_hi hv4]
  have hK0 : va_K D mcl (mtys cm) s := hX.2.2.2.2.2.2.2.2.1
  have hw := hD.2.2.1 _ _ (mW_get (base := base) (spa := spa) (cm := cm) h4 hsh)
  obtain ⟨r, hr, hr1⟩ := Option.map_eq_some_iff.mp hci
  obtain ⟨r', hr', cellV, g1, g2, g3, -⟩ := hD.2.2.1 _ _ (mW_get (base := base) (spa := spa) (cm := cm) hv4 hv)
  have hcls := (hK0.1 ci r hr).2
  rw [hr1] at hcls
  obtain ⟨kA, comp, k1, k2, k3, -⟩ := (hK0.2 2 _ rfl).2
  have hcomp : comp = D.1 ci := Option.some.inj (k3.symm.trans hcls.1)
  subst hcomp
  obtain ⟨kC, hkC, -⟩ := hcls.2
  have hlt : i.toNatClampNeg < n := Nat.not_le.mp fun q => hi (Or.inr q)
  have h0 : ¬ i < 0 := fun q => hi (Or.inl q)
  refine W.aast (a := base + (j - 4)) (cell := vp_cell (cm 2) (n, .inr (.inr (.inr (.inr (fun i => (R0 j i).map (mad base spa))))))) hx hb hw (fun q h => by cases h) (fun h => by cases h) k1 k2 rfl hkC ⟨h0, by show _ < (arrV _ _ _).slots.size; rw [arrV_size]; exact hlt⟩ g1 (fun q h => by rw [g3] at h; cases h) (by rw [g2]; exact hkC) (by rw [g2]; exact va_assign hcls) rfl rfl hd fun H1 e1 z oq => ?_
  refine k.2 base spa spn spf cm D p l e R s m args below meth c Q cE sE H1 _ cells slots ls hX hfr hlo hcE hsE hK hc hs (mD_upd hD h4 hsh (fun _ _ => rfl) (fun a ha => va_up_ne _ _ ha) z oq ?_) (hS.put z oq (by show base ≤ base + (j - 4); omega)) hL
  rw [mce_ref, va_up_eq]
  show H1[base + (j - 4)]? = some (vp_cell _ _)
  rw [e1, vp_cell_q, vp_cell_q, arrV_store]
  congr 2
  funext q
  by_cases hq : q = i.toNatClampNeg
  · subst hq
    simp [updV, va_up, va_rf, mad_hi hv4]
  · simp [updV, va_up, hq]
theorem g_gets {M : mM} {d pc : Nat} {L : mLs} {st : List Value} {hp : mHp} {out : mOut} {idx j : Nat} {host : String} (hd : decode M.2.1 pc = .ok (.getstatic idx, 3)) (hl : Cond.fieldLinkNest M.1 idx RX6 (mSN j) "[I" host ∈ mNW) (hj : j < 3) (k : mGo M d (pc + 3, L, .ref (j + 1) :: st, hp) out) : mGo M d (pc, L, st, hp) out := by
  refine ⟨k.1, ?_⟩
  intro base spa spn spf cm D p l e R s m args below meth c Q cE sE H locs cells slots ls hX hfr hlo hcE hsE hK hc hs hD hS hL
  have hx := hX.1
  have hb := hX.2.1
  have hz := hX.2.2.2.2.2.2.2.2.2.2.2.2.2 j hj
  have hn := hX.2.2.2.2.2.2.2.2.2.1 _ hl
  refine va_getsN (A := fun q => base ≤ q) hx hb hz hS hX.2.2.2.2.1 (va_Nw.use rfl hn) (fun _ h => h) hd ?_
  have e9 : mad base spa (j + 1) = spa (j + 1) := mad_lo (by omega)
  have h9 := k.2 base spa spn spf cm D p l e R s m args below meth c Q cE sE H locs cells slots ls hX hfr hlo hcE hsE hK hc hs hD hS hL
  rw [List.map_cons] at h9
  rw [← e9]
  exact h9
end
section
theorem mad_len {base : Nat} {spa spn : Nat → Nat} {spf : Nat → Nat → Int32} {cm : Nat → ClassId} {D : va_G} {hp : mHp} {H : Heap} (hD : mD base spa spn spf cm D hp H) : mad base spa hp.1.length = H.size := by rw [mad_hi hD.1]; exact hD.2.1.symm
theorem mb_len {base : Nat} {H0 H H1 : Heap} {locs : List Loc} (hS : va_S (fun q => base ≤ q) H0 H locs) (z : H1.size = H.size + 1) (oq : ∀ q : Nat, q < H.size → H1[q]? = H[q]?) (hb : base ≤ H0.size) : va_S (fun q => base ≤ q) H0 H1 locs :=
  ⟨Nat.le_trans hS.1 (by omega), fun x h1 h2 => (oq x (Nat.lt_of_lt_of_le h1 hS.1)).trans (hS.2.1 x h1 h2), hS.2.2⟩
theorem g_new {M : mM} {d pc : Nat} {L : mLs} {st : List Value} {sh : List mShp} {F : Nat → Nat → Int32} {R0 : Nat → Nat → Option Nat} {out : mOut} {idx ci n : Nat} {C : String} (hd : decode M.2.1 pc = .ok (.new idx, 3)) (hw : Cond.classLink M.1 idx C ∈ mGW) (hn : mNC ci C) (hlen : sh.length = n) (hF : F n = fun _ => 0) (hR : R0 n = fun _ => none) (k : mGo M d (pc + 3, L, .ref n :: st, (sh ++ [.inl ci], F, R0)) out) : mGo M d (pc, L, st, (sh, F, R0)) out := by
  subst hlen
  have k1 := k.1
  simp only [List.length_append, List.length_singleton, mSz_push] at k1
  refine ⟨⟨by show sh.length ≤ _; omega, by show mSz sh ≤ _; omega⟩, ?_⟩
  intro base spa spn spf cm D p l e R s m args below meth c Q cE sE H locs cells slots ls hX hfr hlo hcE hsE hK hc hs hD hS hL
  have hx := hX.1
  have hb := hX.2.1
  obtain ⟨T, N, e1, e2, e4, e5, e6, e7, e8⟩ := hn
  have hts := hX.2.2.2.2.2.2.2.1
  have hK0 : va_K D mcl (mtys cm) s := hX.2.2.2.2.2.2.2.2.1
  have hKn := hK0.1 ci _ e1
  have hc' : cells + out.2.1.length = cE + sh.length := hc
  have hs' : slots + mSz out.2.1 = sE + mSz sh := hs
  refine W.newcK hx hb hX.2.2.2.2.1 (hts _ hw) (hts _ e5) (hts _ e6) rfl hd (by omega) (by omega) hKn.2.1 rfl fun H1 kC hkC g1 z1 o1 => ?_
  have hD1 : mD base spa spn spf cm D (sh ++ [.inl ci], F, R0) H1 := by
    refine mD_push hD (fun _ _ => rfl) (fun _ _ => rfl) z1 o1 ?_
    rw [mce_obj, hF, hR]
    refine ⟨_, e1, (u_born (mty ci) hts e4 hKn hkC g1 e7).to (fun j hj => ?_)⟩
    show defaultValue (mty ci j) = ((List.range (mN ci)).map _).getD j .null
    have hjN : j < mN ci := by rw [e2]; exact hj
    rw [List.getD_eq_getElem?_getD, List.getElem?_map, List.getElem?_range hjN, e8 j hj]
    show mfv (mty ci j) 0 none = mtv base spa (mfv (mty ci j) 0 none)
    cases mty ci j <;> rfl
  have h9 := k.2 base spa spn spf cm D p l e R s m args below meth c Q cE sE H1 locs (cells + 1) (slots + N) ls hX hfr hlo hcE hsE hK (by show cells + 1 + out.2.1.length = cE + (sh ++ [_]).length; simp; omega) (by show slots + N + mSz out.2.1 = sE + mSz (sh ++ [_]); rw [mSz_push]; simp only [e2]; omega) hD1 (mb_len hS z1 o1 hX.2.2.2.2.2.2.2.2.2.2.2.1) hL
  have e9 : mtv base spa (.ref sh.length) = .ref H.size := congrArg Value.ref (mad_len hD)
  rw [List.map_cons, e9] at h9
  exact h9
theorem g_newi {M : mM} {d pc : Nat} {L : mLs} {st : List Value} {sh : List mShp} {F : Nat → Nat → Int32} {R0 : Nat → Nat → Option Nat} {out : mOut} {n N : Nat} {x : Int32} (hd : decode M.2.1 pc = .ok (.newarray .int, 2)) (hx0 : ¬ x < 0) (hN : x.toNatClampNeg = N) (hN2 : N ≤ 100000) (hlen : sh.length = n) (hF : F n = fun _ => 0) (hg : Cond.arrayClass .int ∈ mGW) (k : mGo M d (pc + 2, L, .ref n :: st, (sh ++ [.inr (0, N)], F, R0)) out) : mGo M d (pc, L, .int x :: st, (sh, F, R0)) out := by
  subst hlen
  have k1 := k.1
  simp only [List.length_append, List.length_singleton, mSz_push] at k1
  refine ⟨⟨by show sh.length ≤ _; omega, by show mSz sh ≤ _; omega⟩, ?_⟩
  intro base spa spn spf cm D p l e R s m args below meth c Q cE sE H locs cells slots ls hX hfr hlo hcE hsE hK hc hs hD hS hL
  have hx := hX.1
  have hb := hX.2.1
  have hts := hX.2.2.2.2.2.2.2.1
  have hK0 : va_K D mcl (mtys cm) s := hX.2.2.2.2.2.2.2.2.1
  have hc' : cells + out.2.1.length = cE + sh.length := hc
  have hs' : slots + mSz out.2.1 = sE + mSz sh := hs
  refine va_newaK (atype := .int) hx hb (hts _ hg) rfl hd rfl hx0 hN (by show N * 4 ≤ 536870912; omega) (by omega) (by omega) rfl fun H1 cA g1 z1 o1 hAr hNm => ?_
  have hcA : cA = cm 0 := Option.some.inj (hNm.symm.trans (hK0.2 0 _ rfl).2)
  subst hcA
  have hD1 : mD base spa spn spf cm D (sh ++ [.inr (0, N)], F, R0) H1 := by
    refine mD_push hD (fun _ _ => rfl) (fun _ _ => rfl) z1 o1 ?_
    rw [mce_int (by decide), hF]
    exact g1
  have h9 := k.2 base spa spn spf cm D p l e R s m args below meth c Q cE sE H1 locs (cells + 1) (slots + N) ls hX hfr hlo hcE hsE hK (by show cells + 1 + out.2.1.length = cE + (sh ++ [_]).length; simp; omega) (by show slots + N + mSz out.2.1 = sE + mSz (sh ++ [_]); rw [mSz_push]; simp only; omega) hD1 (mb_len hS z1 o1 hX.2.2.2.2.2.2.2.2.2.2.2.1) hL
  have e9 : mtv base spa (.ref sh.length) = .ref H.size := congrArg Value.ref (mad_len hD)
  rw [List.map_cons, e9] at h9
  exact h9
theorem g_newz {M : mM} {d pc : Nat} {L : mLs} {st : List Value} {sh : List mShp} {F : Nat → Nat → Int32} {R0 : Nat → Nat → Option Nat} {out : mOut} {n N : Nat} {x : Int32} (hd : decode M.2.1 pc = .ok (.newarray .boolean, 2)) (hx0 : ¬ x < 0) (hN : x.toNatClampNeg = N) (hN2 : N ≤ 100000) (hlen : sh.length = n) (hF : F n = fun _ => 0) (hg : Cond.arrayClass .boolean ∈ mGW) (k : mGo M d (pc + 2, L, .ref n :: st, (sh ++ [.inr (1, N)], F, R0)) out) : mGo M d (pc, L, .int x :: st, (sh, F, R0)) out := by
  subst hlen
  have k1 := k.1
  simp only [List.length_append, List.length_singleton, mSz_push] at k1
  refine ⟨⟨by show sh.length ≤ _; omega, by show mSz sh ≤ _; omega⟩, ?_⟩
  intro base spa spn spf cm D p l e R s m args below meth c Q cE sE H locs cells slots ls hX hfr hlo hcE hsE hK hc hs hD hS hL
  have hx := hX.1
  have hb := hX.2.1
  have hts := hX.2.2.2.2.2.2.2.1
  have hK0 : va_K D mcl (mtys cm) s := hX.2.2.2.2.2.2.2.2.1
  have hc' : cells + out.2.1.length = cE + sh.length := hc
  have hs' : slots + mSz out.2.1 = sE + mSz sh := hs
  refine va_newaK (atype := .boolean) hx hb (hts _ hg) rfl hd rfl hx0 hN (by show N * 1 ≤ 536870912; omega) (by omega) (by omega) rfl fun H1 cA g1 z1 o1 hAr hNm => ?_
  have hcA : cA = cm 1 := Option.some.inj (hNm.symm.trans (hK0.2 1 _ rfl).2)
  subst hcA
  have hD1 : mD base spa spn spf cm D (sh ++ [.inr (1, N)], F, R0) H1 := by
    refine mD_push hD (fun _ _ => rfl) (fun _ _ => rfl) z1 o1 ?_
    rw [mce_int (by decide), hF]
    exact g1
  have h9 := k.2 base spa spn spf cm D p l e R s m args below meth c Q cE sE H1 locs (cells + 1) (slots + N) ls hX hfr hlo hcE hsE hK (by show cells + 1 + out.2.1.length = cE + (sh ++ [_]).length; simp; omega) (by show slots + N + mSz out.2.1 = sE + mSz (sh ++ [_]); rw [mSz_push]; simp only; omega) hD1 (mb_len hS z1 o1 hX.2.2.2.2.2.2.2.2.2.2.2.1) hL
  have e9 : mtv base spa (.ref sh.length) = .ref H.size := congrArg Value.ref (mad_len hD)
  rw [List.map_cons, e9] at h9
  exact h9
theorem g_newq {M : mM} {d pc : Nat} {L : mLs} {st : List Value} {sh : List mShp} {F : Nat → Nat → Int32} {R0 : Nat → Nat → Option Nat} {out : mOut} {idx n N : Nat} {x : Int32} (hd : decode M.2.1 pc = .ok (.anewarray idx, 3)) (hw : Cond.classLink M.1 idx RX4 ∈ mGW) (hx0 : ¬ x < 0) (hN : x.toNatClampNeg = N) (hN2 : N ≤ 100000) (hlen : sh.length = n) (hR : R0 n = fun _ => none) (k : mGo M d (pc + 3, L, .ref n :: st, (sh ++ [.inr (2, N)], F, R0)) out) : mGo M d (pc, L, .int x :: st, (sh, F, R0)) out := by
  subst hlen
  subst hN
  have k1 := k.1
  simp only [List.length_append, List.length_singleton, mSz_push] at k1
  refine ⟨⟨by show sh.length ≤ _; omega, by show mSz sh ≤ _; omega⟩, ?_⟩
  intro base spa spn spf cm D p l e R s m args below meth c Q cE sE H locs cells slots ls hX hfr hlo hcE hsE hK hc hs hD hS hL
  have hx := hX.1
  have hb := hX.2.1
  have hts := hX.2.2.2.2.2.2.2.1
  have hK0 : va_K D mcl (mtys cm) s := hX.2.2.2.2.2.2.2.2.1
  have hc' : cells + out.2.1.length = cE + sh.length := hc
  have hs' : slots + mSz out.2.1 = sE + mSz sh := hs
  refine W.anew hx hb hX.2.2.2.2.1 (hts _ hw) (va_AO.use hX.2.2.2.2.2.2.2.2.2.2.1) rfl hd rfl hx0 (by omega) (by omega) (by omega) fun cA kA comp f1 f2 f3 f4 => ?_
  obtain ⟨kA2, comp2, -, -, -, j4⟩ := (hK0.2 2 _ rfl).2
  have hcA : cA = cm 2 := Option.some.inj (f1.symm.trans j4)
  subst hcA
  generalize hH1 : H.push ({ cls := cm 2, slots := Array.replicate x.toNatClampNeg .null, vm := .none } : Cell) = H1
  have z1 : H1.size = H.size + 1 := by rw [← hH1, Array.size_push]
  have g1 : H1[H.size]? = some (arrV (cm 2) x.toNatClampNeg (fun _ => .null)) := by rw [← hH1, Array.getElem?_push_size, ← arrV_new]
  have o1 : ∀ q : Nat, q < H.size → H1[q]? = H[q]? := fun q hq => by rw [← hH1, Array.getElem?_push, if_neg (Nat.ne_of_lt hq)]
  have hD1 : mD base spa spn spf cm D (sh ++ [.inr (2, x.toNatClampNeg)], F, R0) H1 := by
    refine mD_push hD (fun _ _ => rfl) (fun _ _ => rfl) z1 o1 ?_
    rw [mce_ref, hR]
    exact g1
  have h9 := k.2 base spa spn spf cm D p l e R s m args below meth c Q cE sE H1 locs (cells + 1) (slots + x.toNatClampNeg) ls hX hfr hlo hcE hsE hK (by show cells + 1 + out.2.1.length = cE + (sh ++ [_]).length; simp; omega) (by show slots + x.toNatClampNeg + mSz out.2.1 = sE + mSz (sh ++ [_]); rw [mSz_push]; simp only; omega) hD1 (mb_len hS z1 o1 hX.2.2.2.2.2.2.2.2.2.2.2.1) hL
  have e9 : mtv base spa (.ref sh.length) = .ref H.size := congrArg Value.ref (mad_len hD)
  rw [List.map_cons, e9] at h9
  exact h9
theorem m_rest {base : Nat} {spa : Nat → Nat} {st : List Value} {n : Nat} (h : st.length ≤ n) : ((st.map (mtv base spa)).map fun v => v.category).sum ≤ 2 * n := by
  induction st generalizing n with
  | nil => simp
  | cons v t ih =>
    have h1 : t.length + 1 ≤ n := by simpa using h
    have h2 := ih (n := n - 1) (by omega)
    have h3 : v.category ≤ 2 := by cases v <;> simp [Value.category]
    simp only [List.map_cons, List.sum_cons, mtv_cat]
    omega
theorem g_obj {M : mM} {d pc j : Nat} {L : mLs} {st : List Value} {hp : mHp} {out : mOut} {idx : Nat} (hd : decode M.2.1 pc = .ok (.invokespecial idx, 3)) (hw : Cond.methodLink M.1 idx objectInit ∈ mGW) (w1 : Cond.instanceMethod objectInit ∈ mGW) (w2 : Cond.code objectInit ⟨#[0xb1]⟩ 1 none ∈ mGW) (hst : st.length ≤ 4) (k : mGo M (d + 1) (pc + 3, L, st, hp) out) : mGo M (d + 1) (pc, L, .ref j :: st, hp) out := by
  refine ⟨k.1, ?_⟩
  intro base spa spn spf cm D p l e R s m args below meth c Q cE sE H locs cells slots ls hX hfr hlo hcE hsE hK hc hs hD hS hL
  have hx := hX.1
  have hb := hX.2.1
  have hts := hX.2.2.2.2.2.2.2.1
  have h8 := m_rest (base := base) (spa := spa) hst
  refine W.objInit (a := mad base spa j) (rest := st.map (mtv base spa)) hx hb hX.2.2.2.2.1 (hts _ hw) (hts _ w1) (hts _ w2) rfl (by show ls.size = _; rw [hX.2.2.2.1]; exact hL.1) rfl hd (by omega) (by show 2 * 0 + _ + 12 ≤ _; omega) ?_
  exact k.2 base spa spn spf cm D p l e R s m args below meth c Q cE sE H locs cells slots ls hX hfr hlo hcE hsE hK hc hs hD hS hL
theorem m_nn {z : Int32} (hz : ¬ z < 0) : z.toInt = (z.toNatClampNeg : Int) := by
  have hz0 : (0 : Int) ≤ z.toInt := by
    have := Int32.not_lt.mp hz
    simpa using Int32.le_iff_toInt_le.mp this
  show z.toInt = ((z.toInt.toNat : Nat) : Int)
  omega
theorem g_copy {M : mM} {d pc : Nat} {L : mLs} {st : List Value} {sh : List mShp} {F : Nat → Nat → Int32} {R0 : Nat → Nat → Option Nat} {out : mOut} {idx a b n0 n1 : Nat} {sp dp n : Int32} (hd : decode M.2.1 pc = .ok (.invokestatic idx, 3)) (hw : Cond.methodLink M.1 idx arraycopyName ∈ mGW) (w1 : Cond.native arraycopyName ∈ mGW) (w2 : Cond.static arraycopyName ∈ mGW) (w3 : Cond.initialized "java/lang/System" ∈ mGW) (ha : sh[a]? = some (.inr (0, n0))) (hb0 : sh[b]? = some (.inr (0, n1))) (ha4 : 4 ≤ a) (hb4 : 4 ≤ b)
    (h1 : ¬ sp < 0) (h2 : ¬ dp < 0) (h3 : ¬ n < 0) (h4 : sp.toNatClampNeg + n.toNatClampNeg ≤ n0) (h5 : dp.toNatClampNeg + n.toNatClampNeg ≤ n1) (hst : st.length ≤ 4) (k : mGo M (d + 1) (pc + 3, L, st, (sh, va_up F b (va_cpy (F a) (F b) sp.toNatClampNeg dp.toNatClampNeg n.toNatClampNeg), R0)) out) : mGo M (d + 1) (pc, L, .int n :: .int dp :: .ref b :: .int sp :: .ref a :: st, (sh, F, R0)) out := by
  refine ⟨k.1, ?_⟩
  intro base spa spn spf cm D p l e R s m args below meth c Q cE sE H locs cells slots ls hX hfr hlo hcE hsE hK hc hs hD hS hL
  have hx := hX.1
  have hb := hX.2.1
  have hts := hX.2.2.2.2.2.2.2.1
  have h8 := m_rest (base := base) (spa := spa) hst
  have hK0 : va_K D mcl (mtys cm) s := hX.2.2.2.2.2.2.2.2.1
  show W p l e R s m args below meth c H locs cells slots Q (F0 m pc ls (.int n :: .int dp :: .ref (mad base spa b) :: .int sp :: .ref (mad base spa a) :: st.map (mtv base spa)))
  rw [mad_hi ha4, mad_hi hb4]
  have hc0 : H[base + (a - 4)]? = some (vp_cell (cm 0) (n0, .inl (F a))) := hD.2.2.1 _ _ (mW_get (hp := (sh, F, R0)) ha4 ha)
  have hc1 : H[base + (b - 4)]? = some (vp_cell (cm 0) (n1, .inl (F b))) := hD.2.2.1 _ _ (mW_get (hp := (sh, F, R0)) hb4 hb0)
  intro T hT X
  obtain ⟨-, k0, hk0, cm0, hkk0⟩ := (hK0.2 0 _ rfl).1 n0 (fun j => .int (F a j))
  obtain ⟨vm', X', step⟩ := X.arraycopy hx hX.2.2.2.2.1 (hts _ hw) (hts _ w1) (hts _ w2) (hts _ w3) (src := base + (a - 4)) (dst := base + (b - 4)) (cs := vp_cell (cm 0) (n0, .inl (F a))) (cd := vp_cell (cm 0) (n1, .inl (F b))) (srcPos := sp) (destPos := dp) (n := n) (by rw [hT]; exact hc0) (by rw [hT]; exact hc1)
    (fun _ h => by cases h) (fun _ h => by cases h) (fun h => by cases h) (fun h => by cases h) hk0 hk0 hkk0 hkk0 (by simp [refKind]) h1 h2 h3
    (by rw [m_nn h1, m_nn h3]; show ¬ _ > ((arrV (cm 0) n0 (fun j => .int (F a j))).slots.size : Int); rw [arrV_size]; omega)
    (by rw [m_nn h2, m_nn h3]; show ¬ _ > ((arrV (cm 0) n1 (fun j => .int (F b j))).slots.size : Int); rw [arrV_size]; omega)
    (fun vm₁ _ i hi => by
      have e : (vp_cell (cm 0) (n0, .inl (F a))).slots.getD (sp.toNatClampNeg + i) .null = .int (F a (sp.toNatClampNeg + i)) := by
        show (arrV (cm 0) n0 (fun j => .int (F a j))).slots.getD _ _ = _
        rw [Array.getD_eq_getD_getElem?, arrV_read _ _ (by omega)]
        rfl
      refine ⟨?_, ?_⟩
      · rw [e]
        rfl
      · rw [e]
        exact trivial)
    (g := F0 m pc ls (.int n :: .int dp :: .ref (base + (b - 4)) :: .int sp :: .ref (base + (a - 4)) :: st.map (mtv base spa))) rfl (by rw [hX.2.2.2.1]; exact hL.1) (rest := st.map (mtv base spa)) rfl (by rw [hb]; exact hd) (by omega) (by
      have e8 : nativeFrameWords "java/lang/System" "arraycopy" 5 ≤ 21 := by decide +kernel
      show 2 * 0 + _ + _ ≤ _
      omega)
  have e1 : copied (vp_cell (cm 0) (n0, .inl (F a))) (vp_cell (cm 0) (n1, .inl (F b))) sp dp n = vp_cell (cm 0) (n1, .inl (va_cpy (F a) (F b) sp.toNatClampNeg dp.toNatClampNeg n.toNatClampNeg)) := va_copied (fun z => .int z) (cm 0) (cm 0) (F a) (F b) h4
  rw [e1] at X' step
  have hl : base + (b - 4) < H.size := (Array.getElem?_eq_some_iff.mp hc1).1
  generalize hH1 : H.setIfInBounds (base + (b - 4)) (vp_cell (cm 0) (n1, .inl (va_cpy (F a) (F b) sp.toNatClampNeg dp.toNatClampNeg n.toNatClampNeg))) = H1
  have hheap : ((T.setVm vm').setCell (base + (b - 4)) (vp_cell (cm 0) (n1, .inl (va_cpy (F a) (F b) sp.toNatClampNeg dp.toNatClampNeg n.toNatClampNeg)))).heap = H1 := by rw [← hH1, ← hT]; rfl
  have z1 : H1.size = H.size := by rw [← hH1]; simp
  have oq : ∀ q : Nat, q ≠ base + (b - 4) → H1[q]? = H[q]? := fun q hq => by rw [← hH1]; simp [Array.getElem?_setIfInBounds, Ne.symm hq]
  have g1 : H1[base + (b - 4)]? = some (vp_cell (cm 0) (n1, .inl (va_cpy (F a) (F b) sp.toNatClampNeg dp.toNatClampNeg n.toNatClampNeg))) := by rw [← hH1]; simp [Array.getElem?_setIfInBounds, hl]
  obtain ⟨t, a1, b1⟩ := k.2 base spa spn spf cm D p l e R s m args below meth c Q cE sE H1 _ cells slots ls hX hfr hlo hcE hsE hK hc hs (mD_upd hD hb4 hb0 (fun q hq => va_up_ne _ _ hq) (fun _ _ => rfl) z1 oq (by rw [mce_int (by decide), va_up_eq]; exact g1)) ⟨by rw [z1]; exact hS.1, fun q f1 f2 => by
      rw [oq q (fun e => f2 (by rw [e]; exact Nat.le_add_right _ _))]
      exact hS.2.1 q f1 f2, fun q hq => by
      rcases List.mem_append.mp hq with h | h
      · exact hS.2.2 q h
      · obtain ⟨z, -, hz⟩ := List.mem_map.mp h
        rw [← hz]
        exact Nat.le_add_right _ _⟩ hL _ hheap X'
  exact ⟨t, step t a1, b1⟩
theorem g_max {M : mM} {d pc : Nat} {L : mLs} {st : List Value} {hp : mHp} {out : mOut} {idx : Nat} {x y : Int32} (hd : decode M.2.1 pc = .ok (.invokestatic idx, 3)) (hw : Cond.methodLink M.1 idx Lib.Math.max.name ∈ mGW) (w1 : Cond.static Lib.Math.max.name ∈ mGW) (w2 : Cond.initialized "java/lang/Math" ∈ mGW) (w3 : Cond.code Lib.Math.max.name Lib.Math.max.code 2 (some .int) ∈ mGW) (hst : st.length ≤ 4) (k : mGo M (d + 1) (pc + 3, L, .int (if x < y then y else x) :: st, hp) out) : mGo M (d + 1) (pc, L, .int y :: .int x :: st, hp) out := by
  have k1 := k.1
  refine ⟨k.1, ?_⟩
  intro base spa spn spf cm D p l e R s m args below meth c Q cE sE H locs cells slots ls hX hfr hlo hcE hsE hK hc hs hD hS hL
  have hx := hX.1
  have hb := hX.2.1
  have hts := hX.2.2.2.2.2.2.2.1
  have h8 := m_rest (base := base) (spa := spa) hst
  have hc' : cells + out.2.1.length = cE + hp.1.length := hc
  have hs' : slots + mSz out.2.1 = sE + mSz hp.1 := hs
  have k2 : hp.1.length ≤ out.2.1.length := k1.1
  have k3 : mSz hp.1 ≤ mSz out.2.1 := k1.2
  refine va_mmax (rest := st.map (mtv base spa)) hx hb (by rw [hX.2.2.2.1]; exact hL.1.symm) hX.2.2.2.2.1 (hts _ hw) (hts _ w1) (hts _ w2) (hts _ w3) (by omega) (by omega) (by omega) (by omega) hd ?_
  exact k.2 base spa spn spf cm D p l e R s m args below meth c Q cE sE H locs cells slots ls hX hfr hlo hcE hsE hK hc hs hD hS hL
theorem g_min {M : mM} {d pc : Nat} {L : mLs} {st : List Value} {hp : mHp} {out : mOut} {idx : Nat} {x y : Int32} (hd : decode M.2.1 pc = .ok (.invokestatic idx, 3)) (hw : Cond.methodLink M.1 idx Lib.Math.min.name ∈ mGW) (w1 : Cond.static Lib.Math.min.name ∈ mGW) (w2 : Cond.initialized "java/lang/Math" ∈ mGW) (w3 : Cond.code Lib.Math.min.name Lib.Math.min.code 2 (some .int) ∈ mGW) (hst : st.length ≤ 4) (k : mGo M (d + 1) (pc + 3, L, .int (if y < x then y else x) :: st, hp) out) : mGo M (d + 1) (pc, L, .int y :: .int x :: st, hp) out := by
  have k1 := k.1
  refine ⟨k.1, ?_⟩
  intro base spa spn spf cm D p l e R s m args below meth c Q cE sE H locs cells slots ls hX hfr hlo hcE hsE hK hc hs hD hS hL
  have hx := hX.1
  have hb := hX.2.1
  have hts := hX.2.2.2.2.2.2.2.1
  have h8 := m_rest (base := base) (spa := spa) hst
  have hc' : cells + out.2.1.length = cE + hp.1.length := hc
  have hs' : slots + mSz out.2.1 = sE + mSz hp.1 := hs
  have k2 : hp.1.length ≤ out.2.1.length := k1.1
  have k3 : mSz hp.1 ≤ mSz out.2.1 := k1.2
  refine va_mmin (rest := st.map (mtv base spa)) hx hb (by rw [hX.2.2.2.1]; exact hL.1.symm) hX.2.2.2.2.1 (hts _ hw) (hts _ w1) (hts _ w2) (hts _ w3) (by omega) (by omega) (by omega) (by omega) hd ?_
  exact k.2 base spa spn spf cm D p l e R s m args below meth c Q cE sE H locs cells slots ls hX hfr hlo hcE hsE hK hc hs hD hS hL
def mQ (base : Nat) (spa spn : Nat → Nat) (spf : Nat → Nat → Int32) (cm : Nat → ClassId) (D : va_G) (r : Option Value) (hp : mHp) : Array Value → State → Outcome → State → Prop := match r with
  | some (.int v) => va_Qi (S := Unit) (fun x _ => x = v) (fun _ t => mD base spa spn spf cm D hp t.heap) (fun q => base ≤ q)
  | some (.long v) => va_Ql (S := Unit) (fun x _ => x = v) (fun _ t => mD base spa spn spf cm D hp t.heap) (fun q => base ≤ q)
  | none => va_Qv (S := Unit) (fun _ => True) (fun _ t => mD base spa spn spf cm D hp t.heap) (fun q => base ≤ q)
  | _ => fun _ _ _ _ => False
def mCall (d : Nat) (y : MethodName) (M : mM) (as : List Value) (hp : mHp) (r : Option Value) (hp1 : mHp) : Prop :=
  (hp.1.length ≤ hp1.1.length ∧ mSz hp.1 ≤ mSz hp1.1 ∧ ∀ a : Nat, r ≠ some (.ref a)) ∧
  ∀ (l : Launch) (base : Nat) (spa spn : Nat → Nat) (spf : Nat → Nat → Int32) (cm : Nat → ClassId) (D : va_G), Met l y (Cond.code y M.2.1 M.2.2.1 M.2.2.2.1 :: mGW) ({ frames := d, cells := hp1.1.length - hp.1.length, slots := mSz hp1.1 - mSz hp.1, locals := 40 * d } : Room) (va_Pc (as.map (mtv base spa)) (fun U => mD base spa spn spf cm D hp U.heap ∧ mSta base spa spn spf cm D U U.heap)) (mQ base spa spn spf cm D r hp1) (hp1.1.length - hp.1.length) (mSz hp1.1 - mSz hp.1) (fun q => base ≤ q)
def mMb (y : MethodName) (M : mM) (n : Nat) : Prop := plainName y.cls = true ∧ y.cls = M.1 ∧ (M.2.2.2.2 = true → y.name = "<init>") ∧ Cond.code y M.2.1 M.2.2.1 M.2.2.2.1 ∈ mGW ∧ Cond.initialized y.cls ∈ mGW ∧ (y.cls ≠ "java/lang/invoke/MethodHandle" ∧ y.cls ≠ "java/lang/invoke/VarHandle" ∧ (parseMethodDescriptor y.desc).map (fun d => d.parameters.length) = some n) ∧ M.2.2.1 ≤ 21
def mMethS (y : MethodName) (M : mM) (n : Nat) : Prop := mMb y M n ∧ Cond.static y ∈ mGW
def mMethI (y : MethodName) (M : mM) (n : Nat) : Prop := mMb y M n ∧ Cond.instanceMethod y ∈ mGW
def mMethV (y : MethodName) (M : mM) (ci n : Nat) : Prop := mMb y M n ∧ Cond.instanceMethod y ∈ mGW ∧ Cond.selects y.cls y y ∈ mGW ∧ mcl[ci]?.map (fun q => q.1) = some y.cls
def mEl (as : List Value) : mLs := as.flatMap (fun v => if v.category = 2 then [some v, none] else [some v])
def mEnt (as : List Value) (n : Nat) : mLs := mEl as ++ List.replicate (n - (mEl as).length) none
theorem mEl_len (base : Nat) (spa : Nat → Nat) (as : List Value) : (lg_sl (as.map (mtv base spa))).length = (mEl as).length := by
  induction as with
  | nil => rfl
  | cons v t ih =>
    have e1 : lg_sl ((v :: t).map (mtv base spa)) = (if (mtv base spa v).category = 2 then [.val (mtv base spa v), .second] else [.val (mtv base spa v)]) ++ lg_sl (t.map (mtv base spa)) := rfl
    have e2 : mEl (v :: t) = (if v.category = 2 then [some v, none] else [some v]) ++ mEl t := rfl
    rw [e1, e2, List.length_append, List.length_append, ih, mtv_cat]
    split <;> rfl
theorem mEl_at (base : Nat) (spa : Nat → Nat) : ∀ (as : List Value) (i : Nat) (v : Value), (mEl as)[i]? = some (some v) → (lg_sl (as.map (mtv base spa)))[i]? = some (Slot.val (mtv base spa v)) := by
  intro as
  induction as with
  | nil => intro i v h; simp [mEl] at h
  | cons w t ih =>
    intro i v h
    have e1 : lg_sl ((w :: t).map (mtv base spa)) = (if (mtv base spa w).category = 2 then [.val (mtv base spa w), .second] else [.val (mtv base spa w)]) ++ lg_sl (t.map (mtv base spa)) := rfl
    have e2 : mEl (w :: t) = (if w.category = 2 then [some w, none] else [some w]) ++ mEl t := rfl
    rw [e2] at h
    rw [e1, mtv_cat]
    by_cases hw : w.category = 2
    · rw [if_pos hw] at h ⊢
      rcases i with _ | _ | i
      · cases h
        rfl
      · cases h
      · exact ih i v h
    · rw [if_neg hw] at h ⊢
      rcases i with _ | i
      · cases h
        rfl
      · exact ih i v h
theorem mh_entry {base : Nat} {spa : Nat → Nat} {as : List Value} {n : Nat} (h : (mEl as).length ≤ n) : mh base spa ((lg_sl (as.map (mtv base spa)) ++ List.replicate (n - (lg_sl (as.map (mtv base spa))).length) Slot.unset).toArray) n (mEnt as n) := by
  have h0 := lv_entry (as.map (mtv base spa)) (n := n) (by rw [mEl_len]; exact h)
  refine ⟨h0.1, h0.2.1, fun i v hi => ?_⟩
  by_cases hil : i < (mEl as).length
  · rw [mEnt, List.getElem?_append_left hil] at hi
    rw [List.getElem?_toArray, List.getElem?_append_left (by rw [mEl_len]; exact hil)]
    exact mEl_at base spa as i v hi
  · rw [mEnt, List.getElem?_append_right (by omega)] at hi
    have := List.eq_of_mem_replicate (List.mem_of_getElem? hi)
    cases this
def mRok (ret : Option FieldType) (r : Option Value) : Prop := match r with
  | none => ret = none
  | some (.int v) => ∃ ty, ret = some ty ∧ narrow ty (.int v) = .int v
  | some (.long _) => ret = some .long
  | _ => False
theorem mCall_of {d n : Nat} {y : MethodName} {M : mM} {as : List Value} {hp hp1 : mHp} {r : Option Value} (hy : mMb y M n) (hfit : (mEl as).length ≤ M.2.2.1) (hr : mRok M.2.2.2.1 r) (k : mGo M d (0, mEnt as M.2.2.1, [], hp) (r, hp1)) : mCall d y M as hp r hp1 := by
  have k1 : hp.1.length ≤ hp1.1.length := k.1.1
  have k2 : mSz hp.1 ≤ mSz hp1.1 := k.1.2
  refine ⟨⟨k1, k2, fun a h => by rw [h] at hr; exact hr⟩, fun l base spa spn spf cm D => ?_⟩
  refine Met.ofW (cc := M.2.1) (maxL := M.2.2.1) (ret := M.2.2.2.1) hy.1 rfl ?_
  intro p e s m args below meth c s₁ B hml hv
  obtain ⟨rfl, hD, hSt⟩ := hv
  have hts := atoms_spec (ws := Cond.code y M.2.1 M.2.2.1 M.2.2.2.1 :: mGW) B.pre
  have hown : s.vm.findClass y.cls = some m.cls := findClass_of_methodNamed B.named
  have hX : mX base spa spn spf cm D M p s m (as.map (mtv base spa)).toArray meth c := ⟨B.exec, B.bytes, B.returns, hml, by rw [← hy.2.1]; exact hown, B.notSynchronized, fun h => ((name_of_methodNamed B.named B.method).1).trans (hy.2.2.1 h), fun w hw => hts w (List.mem_cons_of_mem _ hw), hSt⟩
  have hlocks := B.notSynchronized
  rw [lg_entry_eq]
  refine k.2 base spa spn spf cm D p l e _ s m _ below meth c _ (hp1.1.length - hp.1.length) (mSz hp1.1 - mSz hp.1) s.heap [] 0 0 _ hX (Nat.le_refl _) (Nat.le_refl _) (Nat.le_refl _) (Nat.le_refl _) ?_ (by show 0 + hp1.1.length = _ + hp.1.length; omega) (by show 0 + mSz hp1.1 = _ + mSz hp.1; omega) hD va_S.rf (mh_entry hfit)
  intro H1 locs1 pc1 ls1 hri hD1 hS1
  cases r with
  | none =>
    have hr' : meth.sig.returnType = none := hX.2.2.1.trans hr
    exact W.vret hX.1 hX.2.1 hr' (fun t ht hW => ⟨⟨(), rfl, trivial, by show mD base spa spn spf cm D hp1 t.heap; rw [ht]; exact hD1⟩, hS1.F ht⟩) hS1.2.2 hri
  | some v =>
    cases v with
    | int v =>
      obtain ⟨ty, h1, h2⟩ := hr
      exact W.zret hX.1 hX.2.1 (hX.2.2.1.trans h1) h2 (fun t ht hW => ⟨⟨v, (), rfl, rfl, by show mD base spa spn spf cm D hp1 t.heap; rw [ht]; exact hD1⟩, hS1.F ht⟩) hS1.2.2 hri
    | long v =>
      exact W.lret hX.1 hX.2.1 (hX.2.2.1.trans hr) (fun t ht hW => ⟨⟨v, (), rfl, rfl, by show mD base spa spn spf cm D hp1 t.heap; rw [ht]; exact hD1⟩, hS1.F ht⟩) hS1.2.2 hri
    | _ => exact hr.elim
theorem mNW_warm {s U : State} (hW : s.WarmedH U.vm) : ∀ w ∈ mNW, va_Nw w s → va_Nw w U := by
  intro w hw h
  have hN : mIsN w = true := (List.mem_filter.mp hw).2
  cases w <;> first | exact va_Nw.warmF hW h | exact va_Nw.warmM hW h | exact va_Nw.warmC hW h | (simp [mIsN] at hN)
theorem mNW_tab : ∀ w ∈ mNW, w.onTables = true := by
  intro w hw
  have hN : mIsN w = true := (List.mem_filter.mp hw).2
  cases w <;> first | rfl | (simp [mIsN] at hN)
theorem mSta_moved {base : Nat} {spa spn : Nat → Nat} {spf : Nat → Nat → Int32} {cm : Nat → ClassId} {D : va_G} {u U : State} {H : Heap} (h : mSta base spa spn spf cm D u H) (hvm : u.vm.Alike U.vm) (hn : ∀ w ∈ mNW, va_Nw w u → va_Nw w U) : mSta base spa spn spf cm D U H := by
  obtain ⟨h1, h2, h3, h4, h5, h6⟩ := h
  exact ⟨va_K.moved hvm h1, fun w hw => hn w hw (h2 w hw), va_AO.moved hvm h3, h4, fun j hj => ⟨(h5 j hj).1, va_X.moved hvm (h5 j hj).2⟩, fun j hj => va_Z.moved hvm (h6 j hj)⟩
theorem mSta_kept {base : Nat} {spa spn : Nat → Nat} {spf : Nat → Nat → Int32} {cm : Nat → ClassId} {D : va_G} {u : State} {H H1 : Heap} {locs : List Loc} (h : mSta base spa spn spf cm D u H) (hS : va_S (fun q => base ≤ q) H H1 locs) : mSta base spa spn spf cm D u H1 := by
  obtain ⟨h1, h2, h3, h4, h5, h6⟩ := h
  refine ⟨h1, h2, h3, Nat.le_trans h4 hS.1, fun j hj => ⟨(h5 j hj).1, va_X.kept (h5 j hj).2 (hS.2.1 _ (Nat.lt_of_lt_of_le (h5 j hj).1 h4) (Nat.not_le.mpr (h5 j hj).1))⟩, fun j hj => va_Z.kept (h6 j hj) hS.2.1⟩
theorem mBlind {base : Nat} {spa spn : Nat → Nat} {spf : Nat → Nat → Int32} {cm : Nat → ClassId} {D : va_G} {as : List Value} {hp : mHp} : FrameBlind (va_Pc as (fun U => mD base spa spn spf cm D hp U.heap ∧ mSta base spa spn spf cm D U U.heap)) := by
  intro a U g mk q
  exact ⟨q.1, q.2.1, mSta_moved (u := U) (U := U.calling g mk a) q.2.2 (Vm.Alike.refl U.vm) (fun w hw h => va_Nw.same (u := U) (U := U.calling g mk a) (mNW_tab w hw) rfl h)⟩
section MCALL
variable {p : Program} {l : Launch} {e : Env} {R : Room} {s : State} {m : MethodId} {args : Array Value} {below : List Frame} {meth : Method} {c : Code} {H : Heap} {locs : List Loc} {cells slots : Nat} {Q : State → Prop}
theorem m_after {base : Nat} {spa spn : Nat → Nat} {spf : Nat → Nat → Int32} {cm : Nat → ClassId} {D : va_G} {pc mc ms : Nat} {ls : Array Slot} {st0 rest : List Value} {r : Option Value} {hp1 : mHp} {a : Array Value} {H0 : Heap} (hr : va_Run p l e R s m args below meth c H locs cells slots mc ms (F0 m pc ls st0) rest (mQ base spa spn spf cm D r hp1 a) (fun q => base ≤ q)) (hS : va_S (fun q => base ≤ q) H0 H locs)
    (kk : ∀ (H1 : Heap) (locs1 : List Loc), mD base spa spn spf cm D hp1 H1 → va_S (fun q => base ≤ q) H0 H1 locs1 → W p l e R s m args below meth c H1 locs1 (cells + mc) (slots + ms) Q (F0 m (pc + 3) ls (r.toList ++ rest))) : W p l e R s m args below meth c H locs cells slots Q (F0 m pc ls st0) := by
  cases r with
  | none => exact va_callv (a := a) hr hS (fun _ _ h => h) (fun _ h => h) (fun u t H1 locs1 ht hvm hp hB hz hk hS1 => kk H1 locs1 (by rw [← ht]; exact hB) hS1)
  | some v =>
    cases v with
    | int v => exact va_calli (a := a) hr hS (fun _ _ h => h) (fun _ h => h) (fun r u t H1 locs1 ht hvm hp hB hz hk hS1 => by
        have hp' : r = v := hp
        subst hp'
        exact kk H1 locs1 (by rw [← ht]; exact hB) hS1)
    | long v => exact va_calll (a := a) hr hS (fun _ _ h => h) (fun _ h => h) (fun r u t H1 locs1 ht hvm hp hB hz hk hS1 => by
        have hp' : r = v := hp
        subst hp'
        exact kk H1 locs1 (by rw [← ht]; exact hB) hS1)
    | _ =>
      intro T hT X
      obtain ⟨v, st₀, t, T', L, h0, X', hL, e1, e2, hq, st⟩ := hr T hT X
      exact hq.elim
end MCALL
theorem m_good {y : MethodName} {M : mM} {n : Nat} (hy : mMb y M n) : GoodIn mGW (Cond.code y M.2.1 M.2.2.1 M.2.2.2.1 :: mGW) := fun w hw => (List.mem_cons.mp hw).elim (fun e => by rw [e]; exact mg_good _ hy.2.2.2.1) (mg_good w)
theorem m_stk {base : Nat} {spa : Nat → Nat} {As rest : List Value} : (As.reverse ++ rest).map (mtv base spa) = (As.map (mtv base spa)).reverse ++ rest.map (mtv base spa) := by simp
theorem g_callV {M M' : mM}  {d pc b idx ci n : Nat} {L : mLs} {As rest : List Value} {hp hp1 : mHp} {out : mOut} {r : Option Value} {y : MethodName} {host : String} (hd : decode M.2.1 pc = .ok (.invokevirtual idx, 3)) (hl : Cond.methodLink M.1 idx y ∈ mGW) (hy : mMethV y M' ci n) (hsh : hp.1[b]? = some (.inl ci)) (h4 : 4 ≤ b) (hn : As.length = n) (hst : rest.length ≤ 4) (hc0 : mCall d y M' (.ref b :: As) hp r hp1) (k : mGo M (d + 1) (pc + 3, L, r.toList ++ rest, hp1) out) : mGo M (d + 1) (pc, L, As.reverse ++ .ref b :: rest, hp) out := by
  have k0 := hc0.1
  have k1 := k.1
  have j1 : hp.1.length ≤ hp1.1.length := k0.1
  have j2 : mSz hp.1 ≤ mSz hp1.1 := k0.2.1
  have j3 : hp1.1.length ≤ out.2.1.length := k1.1
  have j4 : mSz hp1.1 ≤ mSz out.2.1 := k1.2
  refine ⟨⟨Nat.le_trans j1 j3, Nat.le_trans j2 j4⟩, ?_⟩
  intro base spa spn spf cm D p l e R s m args below meth c Q cE sE H locs cells slots ls hX hfr hlo hcE hsE hK hc hs hD hS hL
  have hx := hX.1
  have hb := hX.2.1
  have hts := hX.2.2.2.2.2.2.2.1
  have hK0 : va_K D mcl (mtys cm) s := hX.2.2.2.2.2.2.2.2.1
  have hSt := hX.2.2.2.2.2.2.2.2
  have h8 := m_rest (base := base) (spa := spa) hst
  have hc' : cells + out.2.1.length = cE + hp.1.length := hc
  have hs' : slots + mSz out.2.1 = sE + mSz hp.1 := hs
  have hcall := hc0.2 l base spa spn spf cm D
  have hbm := hy.1
  have hR : d + 1 ≤ R.frames ∧ 8 + (M'.2.2.1 + 11) + 40 * d ≤ R.locals := ⟨hfr, by have h7 : M'.2.2.1 ≤ 21 := hbm.2.2.2.2.2.2; omega⟩
  have hPU : ∀ U : State, U.heap = H → s.WarmedH U.vm → va_Pc ((.ref b :: As).map (mtv base spa)) (fun U => mD base spa spn spf cm D hp U.heap ∧ mSta base spa spn spf cm D U U.heap) ((.ref b :: As).map (mtv base spa)).toArray U := fun U hU hW => ⟨rfl, by rw [hU]; exact hD, by rw [hU]; exact mSta_moved (mSta_kept hSt hS) hW.alike (mNW_warm hW)⟩
  obtain ⟨q, hq, hq1⟩ := Option.map_eq_some_iff.mp hy.2.2.2
  have hrc := va_recv hK0 hD.2.2.1 hq (mW_get (base := base) (spa := spa) (cm := cm) h4 hsh)
  rw [hq1, ← mad_hi (spa := spa) h4] at hrc
  refine m_after (rest := rest.map (mtv base spa)) (va_runV (C := y.cls) (As := As.map (mtv base spa)) (rest := rest.map (mtv base spa)) ⟨hx, hb, hX.2.2.2.1, hX.2.2.2.2.1, hts⟩ hcall ⟨callB_of n hts (m_good hbm) rfl rfl rfl (hts _ hbm.2.2.2.2.1) (hts _ hl) hbm.2.2.2.2.2.1 hR, hts _ hy.2.1, hts _ hy.2.2.1⟩ ⟨mBlind, hrc, hPU⟩ rfl (by rw [List.length_map]; exact hn) hL.1 (by first | exact m_stk | (show List.map _ _ = _; simp)) (lv_room (by omega)) hd ⟨by omega, by omega⟩) hS (fun H1 locs1 hD1 hS1 => ?_)
  have h9 := k.2 base spa spn spf cm D p l e R s m args below meth c Q cE sE H1 locs1 (cells + (hp1.1.length - hp.1.length)) (slots + (mSz hp1.1 - mSz hp.1)) ls hX hfr hlo hcE hsE hK (by show cells + _ + out.2.1.length = cE + hp1.1.length; omega) (by show slots + _ + mSz out.2.1 = sE + mSz hp1.1; omega) hD1 hS1 hL
  have e9 : List.map (mtv base spa) (r.toList ++ rest) = r.toList ++ rest.map (mtv base spa) := by
    cases r with
    | none => rfl
    | some v =>
      cases v with
      | ref a =>
        exact (k0.2.2 a rfl).elim
      | _ => rfl
  have h10 : W p l e R s m args below meth c H1 locs1 (cells + (hp1.1.length - hp.1.length)) (slots + (mSz hp1.1 - mSz hp.1)) Q (F0 m (pc + 3) ls (List.map (mtv base spa) (r.toList ++ rest))) := h9
  rw [e9] at h10
  exact h10
theorem g_callS {M M' : mM}  {d pc b idx ci n : Nat} {L : mLs} {As rest : List Value} {hp hp1 : mHp} {out : mOut} {r : Option Value} {y : MethodName} {host : String} (hd : decode M.2.1 pc = .ok (.invokestatic idx, 3)) (hl : Cond.methodLink M.1 idx y ∈ mGW) (hy : mMethS y M' n)  (hn : As.length = n) (hst : rest.length ≤ 4) (hc0 : mCall d y M' (As) hp r hp1) (k : mGo M (d + 1) (pc + 3, L, r.toList ++ rest, hp1) out) : mGo M (d + 1) (pc, L, As.reverse ++ rest, hp) out := by
  have k0 := hc0.1
  have k1 := k.1
  have j1 : hp.1.length ≤ hp1.1.length := k0.1
  have j2 : mSz hp.1 ≤ mSz hp1.1 := k0.2.1
  have j3 : hp1.1.length ≤ out.2.1.length := k1.1
  have j4 : mSz hp1.1 ≤ mSz out.2.1 := k1.2
  refine ⟨⟨Nat.le_trans j1 j3, Nat.le_trans j2 j4⟩, ?_⟩
  intro base spa spn spf cm D p l e R s m args below meth c Q cE sE H locs cells slots ls hX hfr hlo hcE hsE hK hc hs hD hS hL
  have hx := hX.1
  have hb := hX.2.1
  have hts := hX.2.2.2.2.2.2.2.1
  have hK0 : va_K D mcl (mtys cm) s := hX.2.2.2.2.2.2.2.2.1
  have hSt := hX.2.2.2.2.2.2.2.2
  have h8 := m_rest (base := base) (spa := spa) hst
  have hc' : cells + out.2.1.length = cE + hp.1.length := hc
  have hs' : slots + mSz out.2.1 = sE + mSz hp.1 := hs
  have hcall := hc0.2 l base spa spn spf cm D
  have hbm := hy.1
  have hR : d + 1 ≤ R.frames ∧ 8 + (M'.2.2.1 + 11) + 40 * d ≤ R.locals := ⟨hfr, by have h7 : M'.2.2.1 ≤ 21 := hbm.2.2.2.2.2.2; omega⟩
  have hPU : ∀ U : State, U.heap = H → s.WarmedH U.vm → va_Pc ((As).map (mtv base spa)) (fun U => mD base spa spn spf cm D hp U.heap ∧ mSta base spa spn spf cm D U U.heap) ((As).map (mtv base spa)).toArray U := fun U hU hW => ⟨rfl, by rw [hU]; exact hD, by rw [hU]; exact mSta_moved (mSta_kept hSt hS) hW.alike (mNW_warm hW)⟩

  refine m_after (rest := rest.map (mtv base spa)) (va_runS (As := As.map (mtv base spa)) (rest := rest.map (mtv base spa)) ⟨hx, hb, hX.2.2.2.1, hX.2.2.2.2.1, hts⟩ hcall ⟨callB_of n hts (m_good hbm) rfl rfl rfl (hts _ hbm.2.2.2.2.1) (hts _ hl) hbm.2.2.2.2.2.1 hR, hts _ hy.2⟩ ⟨mBlind, hPU⟩ rfl (by rw [List.length_map]; exact hn) hL.1 (by first | exact m_stk | (show List.map _ _ = _; simp)) (lv_room (by omega)) hd ⟨by omega, by omega⟩) hS (fun H1 locs1 hD1 hS1 => ?_)
  have h9 := k.2 base spa spn spf cm D p l e R s m args below meth c Q cE sE H1 locs1 (cells + (hp1.1.length - hp.1.length)) (slots + (mSz hp1.1 - mSz hp.1)) ls hX hfr hlo hcE hsE hK (by show cells + _ + out.2.1.length = cE + hp1.1.length; omega) (by show slots + _ + mSz out.2.1 = sE + mSz hp1.1; omega) hD1 hS1 hL
  have e9 : List.map (mtv base spa) (r.toList ++ rest) = r.toList ++ rest.map (mtv base spa) := by
    cases r with
    | none => rfl
    | some v =>
      cases v with
      | ref a =>
        exact (k0.2.2 a rfl).elim
      | _ => rfl
  have h10 : W p l e R s m args below meth c H1 locs1 (cells + (hp1.1.length - hp.1.length)) (slots + (mSz hp1.1 - mSz hp.1)) Q (F0 m (pc + 3) ls (List.map (mtv base spa) (r.toList ++ rest))) := h9
  rw [e9] at h10
  exact h10
theorem g_callSN {M M' : mM}  {d pc b idx ci n : Nat} {L : mLs} {As rest : List Value} {hp hp1 : mHp} {out : mOut} {r : Option Value} {y : MethodName} {host : String} (hd : decode M.2.1 pc = .ok (.invokestatic idx, 3)) (hl : Cond.methodLinkNest M.1 idx y host ∈ mNW) (hy : mMethS y M' n)  (hn : As.length = n) (hst : rest.length ≤ 4) (hc0 : mCall d y M' (As) hp r hp1) (k : mGo M (d + 1) (pc + 3, L, r.toList ++ rest, hp1) out) : mGo M (d + 1) (pc, L, As.reverse ++ rest, hp) out := by
  have k0 := hc0.1
  have k1 := k.1
  have j1 : hp.1.length ≤ hp1.1.length := k0.1
  have j2 : mSz hp.1 ≤ mSz hp1.1 := k0.2.1
  have j3 : hp1.1.length ≤ out.2.1.length := k1.1
  have j4 : mSz hp1.1 ≤ mSz out.2.1 := k1.2
  refine ⟨⟨Nat.le_trans j1 j3, Nat.le_trans j2 j4⟩, ?_⟩
  intro base spa spn spf cm D p l e R s m args below meth c Q cE sE H locs cells slots ls hX hfr hlo hcE hsE hK hc hs hD hS hL
  have hx := hX.1
  have hb := hX.2.1
  have hts := hX.2.2.2.2.2.2.2.1
  have hK0 : va_K D mcl (mtys cm) s := hX.2.2.2.2.2.2.2.2.1
  have hSt := hX.2.2.2.2.2.2.2.2
  have h8 := m_rest (base := base) (spa := spa) hst
  have hc' : cells + out.2.1.length = cE + hp.1.length := hc
  have hs' : slots + mSz out.2.1 = sE + mSz hp.1 := hs
  have hcall := hc0.2 l base spa spn spf cm D
  have hbm := hy.1
  have hR : d + 1 ≤ R.frames ∧ 8 + (M'.2.2.1 + 11) + 40 * d ≤ R.locals := ⟨hfr, by have h7 : M'.2.2.1 ≤ 21 := hbm.2.2.2.2.2.2; omega⟩
  have hPU : ∀ U : State, U.heap = H → s.WarmedH U.vm → va_Pc ((As).map (mtv base spa)) (fun U => mD base spa spn spf cm D hp U.heap ∧ mSta base spa spn spf cm D U U.heap) ((As).map (mtv base spa)).toArray U := fun U hU hW => ⟨rfl, by rw [hU]; exact hD, by rw [hU]; exact mSta_moved (mSta_kept hSt hS) hW.alike (mNW_warm hW)⟩

  refine m_after (rest := rest.map (mtv base spa)) (va_runSN (As := As.map (mtv base spa)) (rest := rest.map (mtv base spa)) ⟨hx, hb, hX.2.2.2.1, hX.2.2.2.2.1, hts⟩ hcall ⟨va_cnB n hts (m_good hbm) rfl rfl rfl (hX.2.2.2.2.2.2.2.2.2.1 _ hl) (hts _ hbm.2.2.2.2.1) hbm.2.2.2.2.2.1 hR, hts _ hy.2, trivial⟩ ⟨mBlind, hPU⟩ rfl (by rw [List.length_map]; exact hn) hL.1 (by first | exact m_stk | (show List.map _ _ = _; simp)) (lv_room (by omega)) hd ⟨by omega, by omega⟩) hS (fun H1 locs1 hD1 hS1 => ?_)
  have h9 := k.2 base spa spn spf cm D p l e R s m args below meth c Q cE sE H1 locs1 (cells + (hp1.1.length - hp.1.length)) (slots + (mSz hp1.1 - mSz hp.1)) ls hX hfr hlo hcE hsE hK (by show cells + _ + out.2.1.length = cE + hp1.1.length; omega) (by show slots + _ + mSz out.2.1 = sE + mSz hp1.1; omega) hD1 hS1 hL
  have e9 : List.map (mtv base spa) (r.toList ++ rest) = r.toList ++ rest.map (mtv base spa) := by
    cases r with
    | none => rfl
    | some v =>
      cases v with
      | ref a =>
        exact (k0.2.2 a rfl).elim
      | _ => rfl
  have h10 : W p l e R s m args below meth c H1 locs1 (cells + (hp1.1.length - hp.1.length)) (slots + (mSz hp1.1 - mSz hp.1)) Q (F0 m (pc + 3) ls (List.map (mtv base spa) (r.toList ++ rest))) := h9
  rw [e9] at h10
  exact h10
theorem g_callI {M : mM} {o2 : String} {c2 : ByteArray} {n2 : Nat} {d pc b idx ci n : Nat} {L : mLs} {As rest : List Value} {hp hp1 : mHp} {out : mOut} {r : Option Value} {y : MethodName} {host : String} (hd : decode M.2.1 pc = .ok (.invokespecial idx, 3)) (hl : Cond.methodLink M.1 idx y ∈ mGW) (hy : mMethI y (o2, c2, n2, (none : Option FieldType), true) n)  (hn : As.length = n) (hst : rest.length ≤ 4) (hc0 : mCall d y (o2, c2, n2, (none : Option FieldType), true) (.ref b :: As) hp r hp1) (k : mGo M (d + 1) (pc + 3, L, r.toList ++ rest, hp1) out) : mGo M (d + 1) (pc, L, As.reverse ++ .ref b :: rest, hp) out := by
  have k0 := hc0.1
  have k1 := k.1
  have j1 : hp.1.length ≤ hp1.1.length := k0.1
  have j2 : mSz hp.1 ≤ mSz hp1.1 := k0.2.1
  have j3 : hp1.1.length ≤ out.2.1.length := k1.1
  have j4 : mSz hp1.1 ≤ mSz out.2.1 := k1.2
  refine ⟨⟨Nat.le_trans j1 j3, Nat.le_trans j2 j4⟩, ?_⟩
  intro base spa spn spf cm D p l e R s m args below meth c Q cE sE H locs cells slots ls hX hfr hlo hcE hsE hK hc hs hD hS hL
  have hx := hX.1
  have hb := hX.2.1
  have hts := hX.2.2.2.2.2.2.2.1
  have hK0 : va_K D mcl (mtys cm) s := hX.2.2.2.2.2.2.2.2.1
  have hSt := hX.2.2.2.2.2.2.2.2
  have h8 := m_rest (base := base) (spa := spa) hst
  have hc' : cells + out.2.1.length = cE + hp.1.length := hc
  have hs' : slots + mSz out.2.1 = sE + mSz hp.1 := hs
  have hcall := hc0.2 l base spa spn spf cm D
  have hbm := hy.1
  have hR : d + 1 ≤ R.frames ∧ 8 + (n2 + 11) + 40 * d ≤ R.locals := ⟨hfr, by have h7 : n2 ≤ 21 := hbm.2.2.2.2.2.2; omega⟩
  have hPU : ∀ U : State, U.heap = H → s.WarmedH U.vm → va_Pc ((.ref b :: As).map (mtv base spa)) (fun U => mD base spa spn spf cm D hp U.heap ∧ mSta base spa spn spf cm D U U.heap) ((.ref b :: As).map (mtv base spa)).toArray U := fun U hU hW => ⟨rfl, by rw [hU]; exact hD, by rw [hU]; exact mSta_moved (mSta_kept hSt hS) hW.alike (mNW_warm hW)⟩

  refine m_after (rest := rest.map (mtv base spa)) (va_runI (As := As.map (mtv base spa)) (rest := rest.map (mtv base spa)) ⟨hx, hb, hX.2.2.2.1, hX.2.2.2.2.1, hts⟩ hcall ⟨callB_of n hts (m_good hbm) rfl rfl rfl (hts _ hbm.2.2.2.2.1) (hts _ hl) hbm.2.2.2.2.2.1 hR, hbm.2.2.1 rfl, hts _ hy.2⟩ ⟨mBlind, hPU⟩ rfl (by rw [List.length_map]; exact hn) hL.1 (by first | exact m_stk | (show List.map _ _ = _; simp)) (lv_room (by omega)) hd ⟨by omega, by omega⟩) hS (fun H1 locs1 hD1 hS1 => ?_)
  have h9 := k.2 base spa spn spf cm D p l e R s m args below meth c Q cE sE H1 locs1 (cells + (hp1.1.length - hp.1.length)) (slots + (mSz hp1.1 - mSz hp.1)) ls hX hfr hlo hcE hsE hK (by show cells + _ + out.2.1.length = cE + hp1.1.length; omega) (by show slots + _ + mSz out.2.1 = sE + mSz hp1.1; omega) hD1 hS1 hL
  have e9 : List.map (mtv base spa) (r.toList ++ rest) = r.toList ++ rest.map (mtv base spa) := by
    cases r with
    | none => rfl
    | some v =>
      cases v with
      | ref a =>
        exact (k0.2.2 a rfl).elim
      | _ => rfl
  have h10 : W p l e R s m args below meth c H1 locs1 (cells + (hp1.1.length - hp.1.length)) (slots + (mSz hp1.1 - mSz hp.1)) Q (F0 m (pc + 3) ls (List.map (mtv base spa) (r.toList ++ rest))) := h9
  rw [e9] at h10
  exact h10
theorem g_callIN {M : mM} {o2 : String} {c2 : ByteArray} {n2 : Nat} {d pc b idx ci n : Nat} {L : mLs} {As rest : List Value} {hp hp1 : mHp} {out : mOut} {r : Option Value} {y : MethodName} {host : String} (hd : decode M.2.1 pc = .ok (.invokespecial idx, 3)) (hl : Cond.methodLinkNest M.1 idx y host ∈ mNW) (hy : mMethI y (o2, c2, n2, (none : Option FieldType), true) n)  (hn : As.length = n) (hst : rest.length ≤ 4) (hc0 : mCall d y (o2, c2, n2, (none : Option FieldType), true) (.ref b :: As) hp r hp1) (k : mGo M (d + 1) (pc + 3, L, r.toList ++ rest, hp1) out) : mGo M (d + 1) (pc, L, As.reverse ++ .ref b :: rest, hp) out := by
  have k0 := hc0.1
  have k1 := k.1
  have j1 : hp.1.length ≤ hp1.1.length := k0.1
  have j2 : mSz hp.1 ≤ mSz hp1.1 := k0.2.1
  have j3 : hp1.1.length ≤ out.2.1.length := k1.1
  have j4 : mSz hp1.1 ≤ mSz out.2.1 := k1.2
  refine ⟨⟨Nat.le_trans j1 j3, Nat.le_trans j2 j4⟩, ?_⟩
  intro base spa spn spf cm D p l e R s m args below meth c Q cE sE H locs cells slots ls hX hfr hlo hcE hsE hK hc hs hD hS hL
  have hx := hX.1
  have hb := hX.2.1
  have hts := hX.2.2.2.2.2.2.2.1
  have hK0 : va_K D mcl (mtys cm) s := hX.2.2.2.2.2.2.2.2.1
  have hSt := hX.2.2.2.2.2.2.2.2
  have h8 := m_rest (base := base) (spa := spa) hst
  have hc' : cells + out.2.1.length = cE + hp.1.length := hc
  have hs' : slots + mSz out.2.1 = sE + mSz hp.1 := hs
  have hcall := hc0.2 l base spa spn spf cm D
  have hbm := hy.1
  have hR : d + 1 ≤ R.frames ∧ 8 + (n2 + 11) + 40 * d ≤ R.locals := ⟨hfr, by have h7 : n2 ≤ 21 := hbm.2.2.2.2.2.2; omega⟩
  have hPU : ∀ U : State, U.heap = H → s.WarmedH U.vm → va_Pc ((.ref b :: As).map (mtv base spa)) (fun U => mD base spa spn spf cm D hp U.heap ∧ mSta base spa spn spf cm D U U.heap) ((.ref b :: As).map (mtv base spa)).toArray U := fun U hU hW => ⟨rfl, by rw [hU]; exact hD, by rw [hU]; exact mSta_moved (mSta_kept hSt hS) hW.alike (mNW_warm hW)⟩

  refine m_after (rest := rest.map (mtv base spa)) (va_runIN (As := As.map (mtv base spa)) (rest := rest.map (mtv base spa)) ⟨hx, hb, hX.2.2.2.1, hX.2.2.2.2.1, hts⟩ hcall ⟨va_cnB n hts (m_good hbm) rfl rfl rfl (hX.2.2.2.2.2.2.2.2.2.1 _ hl) (hts _ hbm.2.2.2.2.1) hbm.2.2.2.2.2.1 hR, hbm.2.2.1 rfl, hts _ hy.2⟩ ⟨mBlind, hPU⟩ rfl (by rw [List.length_map]; exact hn) hL.1 (by first | exact m_stk | (show List.map _ _ = _; simp)) (lv_room (by omega)) hd ⟨by omega, by omega⟩) hS (fun H1 locs1 hD1 hS1 => ?_)
  have h9 := k.2 base spa spn spf cm D p l e R s m args below meth c Q cE sE H1 locs1 (cells + (hp1.1.length - hp.1.length)) (slots + (mSz hp1.1 - mSz hp.1)) ls hX hfr hlo hcE hsE hK (by show cells + _ + out.2.1.length = cE + hp1.1.length; omega) (by show slots + _ + mSz out.2.1 = sE + mSz hp1.1; omega) hD1 hS1 hL
  have e9 : List.map (mtv base spa) (r.toList ++ rest) = r.toList ++ rest.map (mtv base spa) := by
    cases r with
    | none => rfl
    | some v =>
      cases v with
      | ref a =>
        exact (k0.2.2 a rfl).elim
      | _ => rfl
  have h10 : W p l e R s m args below meth c H1 locs1 (cells + (hp1.1.length - hp.1.length)) (slots + (mSz hp1.1 - mSz hp.1)) Q (F0 m (pc + 3) ls (List.map (mtv base spa) (r.toList ++ rest))) := h9
  rw [e9] at h10
  exact h10
end
