section
-- ===== PART A: goes FIRST, ahead of the names: the tables' words, and 'selects' of the private methods out of them =====
/-- a private method of a class that the tables say can be made, by its rows of tables_1 -/
def lw_okq (q : MethodName × Nat) : Prop := (q.1.cls ≠ "java/lang/invoke/MethodHandle" ∧ q.1.cls ≠ "java/lang/invoke/VarHandle") ∧ Cond.instantiable q.1.cls q.2 ∈ tables_1 ∧ Cond.privateMethod q.1 ∈ tables_1 ∧ Cond.instanceMethod q.1 ∈ tables_1
theorem lw_p0 : lw_okq (⟨"BulletLanes$History", "dropOldest", "()V"⟩, 2) := ⟨⟨by decide +kernel, by decide +kernel⟩, List.mem_of_getElem? (i := 132) (by decide +kernel), List.mem_of_getElem? (i := 250) (by decide +kernel), List.mem_of_getElem? (i := 251) (by decide +kernel)⟩
theorem lw_p1 : lw_okq (⟨"BulletLanes$Emitters", "put", "(ILBulletLanes$Emitters;I)V"⟩, 5) := ⟨⟨by decide +kernel, by decide +kernel⟩, List.mem_of_getElem? (i := 28) (by decide +kernel), List.mem_of_getElem? (i := 262) (by decide +kernel), List.mem_of_getElem? (i := 263) (by decide +kernel)⟩
theorem lw_p2 : lw_okq (⟨"BulletLanes$Bullets", "put", "(ILBulletLanes$Bullets;I)V"⟩, 6) := ⟨⟨by decide +kernel, by decide +kernel⟩, List.mem_of_getElem? (i := 62) (by decide +kernel), List.mem_of_getElem? (i := 270) (by decide +kernel), List.mem_of_getElem? (i := 271) (by decide +kernel)⟩
theorem lw_p3 : lw_okq (⟨"BulletLanes$Field", "fire", "(II)V"⟩, 9) := ⟨⟨by decide +kernel, by decide +kernel⟩, List.mem_of_getElem? (i := 22) (by decide +kernel), List.mem_of_getElem? (i := 324) (by decide +kernel), List.mem_of_getElem? (i := 325) (by decide +kernel)⟩
theorem lw_p4 : lw_okq (⟨"BulletLanes$Field", "shoot", "(IIZ)V"⟩, 9) := ⟨⟨by decide +kernel, by decide +kernel⟩, List.mem_of_getElem? (i := 22) (by decide +kernel), List.mem_of_getElem? (i := 328) (by decide +kernel), List.mem_of_getElem? (i := 329) (by decide +kernel)⟩
theorem lw_p5 : lw_okq (⟨"BulletLanes$Field", "takeHits", "()I"⟩, 9) := ⟨⟨by decide +kernel, by decide +kernel⟩, List.mem_of_getElem? (i := 22) (by decide +kernel), List.mem_of_getElem? (i := 339) (by decide +kernel), List.mem_of_getElem? (i := 340) (by decide +kernel)⟩
theorem lw_p6 : lw_okq (⟨"BulletLanes$Bullets", "isBeside", "(II)Z"⟩, 6) := ⟨⟨by decide +kernel, by decide +kernel⟩, List.mem_of_getElem? (i := 62) (by decide +kernel), List.mem_of_getElem? (i := 354) (by decide +kernel), List.mem_of_getElem? (i := 355) (by decide +kernel)⟩
theorem lw_p7 : lw_okq (⟨"BulletLanes$CurtainReader", "takes", "(I)Z"⟩, 4) := ⟨⟨by decide +kernel, by decide +kernel⟩, List.mem_of_getElem? (i := 166) (by decide +kernel), List.mem_of_getElem? (i := 411) (by decide +kernel), List.mem_of_getElem? (i := 412) (by decide +kernel)⟩
theorem lw_p8 : lw_okq (⟨"BulletLanes$CurtainReader", "takesColumn", "(I)Z"⟩, 4) := ⟨⟨by decide +kernel, by decide +kernel⟩, List.mem_of_getElem? (i := 166) (by decide +kernel), List.mem_of_getElem? (i := 415) (by decide +kernel), List.mem_of_getElem? (i := 416) (by decide +kernel)⟩
theorem lw_p9 : lw_okq (⟨"BulletLanes$CurtainReader", "takesPattern", "(I)Z"⟩, 4) := ⟨⟨by decide +kernel, by decide +kernel⟩, List.mem_of_getElem? (i := 166) (by decide +kernel), List.mem_of_getElem? (i := 423) (by decide +kernel), List.mem_of_getElem? (i := 424) (by decide +kernel)⟩
theorem lw_p10 : lw_okq (⟨"BulletLanes$CurtainReader", "takesPeriod", "(I)Z"⟩, 4) := ⟨⟨by decide +kernel, by decide +kernel⟩, List.mem_of_getElem? (i := 166) (by decide +kernel), List.mem_of_getElem? (i := 428) (by decide +kernel), List.mem_of_getElem? (i := 429) (by decide +kernel)⟩
theorem lw_p11 : lw_okq (⟨"BulletLanes$CurtainReader", "takesPhase", "(I)Z"⟩, 4) := ⟨⟨by decide +kernel, by decide +kernel⟩, List.mem_of_getElem? (i := 166) (by decide +kernel), List.mem_of_getElem? (i := 434) (by decide +kernel), List.mem_of_getElem? (i := 435) (by decide +kernel)⟩
theorem lw_p12 : lw_okq (⟨"BulletLanes$CurtainReader", "takesMark", "(I)Z"⟩, 4) := ⟨⟨by decide +kernel, by decide +kernel⟩, List.mem_of_getElem? (i := 166) (by decide +kernel), List.mem_of_getElem? (i := 438) (by decide +kernel), List.mem_of_getElem? (i := 439) (by decide +kernel)⟩
theorem lw_p13 : lw_okq (⟨"BulletLanes", "playOne", "(I)Z"⟩, 8) := ⟨⟨by decide +kernel, by decide +kernel⟩, List.mem_of_getElem? (i := 14) (by decide +kernel), List.mem_of_getElem? (i := 459) (by decide +kernel), List.mem_of_getElem? (i := 460) (by decide +kernel)⟩
theorem lw_p14 : lw_okq (⟨"BulletLanes", "foresee", "(I)V"⟩, 8) := ⟨⟨by decide +kernel, by decide +kernel⟩, List.mem_of_getElem? (i := 14) (by decide +kernel), List.mem_of_getElem? (i := 496) (by decide +kernel), List.mem_of_getElem? (i := 497) (by decide +kernel)⟩
theorem lw_p15 : lw_okq (⟨"BulletLanes$Lanes", "isFree", "(II)Z"⟩, 2) := ⟨⟨by decide +kernel, by decide +kernel⟩, List.mem_of_getElem? (i := 188) (by decide +kernel), List.mem_of_getElem? (i := 518) (by decide +kernel), List.mem_of_getElem? (i := 519) (by decide +kernel)⟩
def lw_privs_1 : List (MethodName × Nat) := [(⟨"BulletLanes$History", "dropOldest", "()V"⟩, 2), (⟨"BulletLanes$Emitters", "put", "(ILBulletLanes$Emitters;I)V"⟩, 5), (⟨"BulletLanes$Bullets", "put", "(ILBulletLanes$Bullets;I)V"⟩, 6), (⟨"BulletLanes$Field", "fire", "(II)V"⟩, 9), (⟨"BulletLanes$Field", "shoot", "(IIZ)V"⟩, 9), (⟨"BulletLanes$Field", "takeHits", "()I"⟩, 9), (⟨"BulletLanes$Bullets", "isBeside", "(II)Z"⟩, 6), (⟨"BulletLanes$CurtainReader", "takes", "(I)Z"⟩, 4), (⟨"BulletLanes$CurtainReader", "takesColumn", "(I)Z"⟩, 4), (⟨"BulletLanes$CurtainReader", "takesPattern", "(I)Z"⟩, 4), (⟨"BulletLanes$CurtainReader", "takesPeriod", "(I)Z"⟩, 4), (⟨"BulletLanes$CurtainReader", "takesPhase", "(I)Z"⟩, 4), (⟨"BulletLanes$CurtainReader", "takesMark", "(I)Z"⟩, 4), (⟨"BulletLanes", "playOne", "(I)Z"⟩, 8), (⟨"BulletLanes", "foresee", "(I)V"⟩, 8), (⟨"BulletLanes$Lanes", "isFree", "(II)Z"⟩, 2)]
theorem lw_r1 : ∀ q ∈ lw_privs_1, lw_okq q := List.forall_mem_cons.mpr ⟨lw_p0, List.forall_mem_cons.mpr ⟨lw_p1, List.forall_mem_cons.mpr ⟨lw_p2, List.forall_mem_cons.mpr ⟨lw_p3, List.forall_mem_cons.mpr ⟨lw_p4, List.forall_mem_cons.mpr ⟨lw_p5, List.forall_mem_cons.mpr ⟨lw_p6, List.forall_mem_cons.mpr ⟨lw_p7, List.forall_mem_cons.mpr ⟨lw_p8, List.forall_mem_cons.mpr ⟨lw_p9, List.forall_mem_cons.mpr ⟨lw_p10, List.forall_mem_cons.mpr ⟨lw_p11, List.forall_mem_cons.mpr ⟨lw_p12, List.forall_mem_cons.mpr ⟨lw_p13, List.forall_mem_cons.mpr ⟨lw_p14, List.forall_mem_cons.mpr ⟨lw_p15, fun _ h => absurd h List.not_mem_nil⟩⟩⟩⟩⟩⟩⟩⟩⟩⟩⟩⟩⟩⟩⟩⟩
theorem lw_p16 : lw_okq (⟨"BulletLanes$Lanes", "widthFrom", "(II)I"⟩, 2) := ⟨⟨by decide +kernel, by decide +kernel⟩, List.mem_of_getElem? (i := 188) (by decide +kernel), List.mem_of_getElem? (i := 527) (by decide +kernel), List.mem_of_getElem? (i := 528) (by decide +kernel)⟩
theorem lw_p17 : lw_okq (⟨"BulletLanes$Lanes", "leadsBack", "(III)Z"⟩, 2) := ⟨⟨by decide +kernel, by decide +kernel⟩, List.mem_of_getElem? (i := 188) (by decide +kernel), List.mem_of_getElem? (i := 563) (by decide +kernel), List.mem_of_getElem? (i := 564) (by decide +kernel)⟩
theorem lw_p18 : lw_okq (⟨"BulletLanes$Lanes", "tellAsides", "(I)V"⟩, 2) := ⟨⟨by decide +kernel, by decide +kernel⟩, List.mem_of_getElem? (i := 188) (by decide +kernel), List.mem_of_getElem? (i := 579) (by decide +kernel), List.mem_of_getElem? (i := 580) (by decide +kernel)⟩
theorem lw_p19 : lw_okq (⟨"BulletLanes$Lanes", "fewestAfter", "(III)I"⟩, 2) := ⟨⟨by decide +kernel, by decide +kernel⟩, List.mem_of_getElem? (i := 188) (by decide +kernel), List.mem_of_getElem? (i := 583) (by decide +kernel), List.mem_of_getElem? (i := 584) (by decide +kernel)⟩
theorem lw_p20 : lw_okq (⟨"BulletLanes$Lanes", "calmestNext", "(II)I"⟩, 2) := ⟨⟨by decide +kernel, by decide +kernel⟩, List.mem_of_getElem? (i := 188) (by decide +kernel), List.mem_of_getElem? (i := 587) (by decide +kernel), List.mem_of_getElem? (i := 588) (by decide +kernel)⟩
theorem lw_p21 : lw_okq (⟨"BulletLanes$Lanes", "asidesBy", "(III)I"⟩, 2) := ⟨⟨by decide +kernel, by decide +kernel⟩, List.mem_of_getElem? (i := 188) (by decide +kernel), List.mem_of_getElem? (i := 594) (by decide +kernel), List.mem_of_getElem? (i := 595) (by decide +kernel)⟩
theorem lw_p22 : lw_okq (⟨"BulletLanesModel", "records", "()V"⟩, 16) := ⟨⟨by decide +kernel, by decide +kernel⟩, List.mem_of_getElem? (i := 644) (by decide +kernel), List.mem_of_getElem? (i := 706) (by decide +kernel), List.mem_of_getElem? (i := 707) (by decide +kernel)⟩
theorem lw_p23 : lw_okq (⟨"BulletLanesModel", "addsEmitter", "(IIII)V"⟩, 16) := ⟨⟨by decide +kernel, by decide +kernel⟩, List.mem_of_getElem? (i := 644) (by decide +kernel), List.mem_of_getElem? (i := 713) (by decide +kernel), List.mem_of_getElem? (i := 714) (by decide +kernel)⟩
theorem lw_p24 : lw_okq (⟨"BulletLanesModel", "isEmitter", "(I)Z"⟩, 16) := ⟨⟨by decide +kernel, by decide +kernel⟩, List.mem_of_getElem? (i := 644) (by decide +kernel), List.mem_of_getElem? (i := 721) (by decide +kernel), List.mem_of_getElem? (i := 722) (by decide +kernel)⟩
theorem lw_p25 : lw_okq (⟨"BulletLanesModel", "dropsEmitter", "(I)V"⟩, 16) := ⟨⟨by decide +kernel, by decide +kernel⟩, List.mem_of_getElem? (i := 644) (by decide +kernel), List.mem_of_getElem? (i := 725) (by decide +kernel), List.mem_of_getElem? (i := 726) (by decide +kernel)⟩
theorem lw_p26 : lw_okq (⟨"BulletLanesModel", "goTick", "(I)I"⟩, 16) := ⟨⟨by decide +kernel, by decide +kernel⟩, List.mem_of_getElem? (i := 644) (by decide +kernel), List.mem_of_getElem? (i := 733) (by decide +kernel), List.mem_of_getElem? (i := 734) (by decide +kernel)⟩
theorem lw_p27 : lw_okq (⟨"BulletLanesModel", "moves", "()V"⟩, 16) := ⟨⟨by decide +kernel, by decide +kernel⟩, List.mem_of_getElem? (i := 644) (by decide +kernel), List.mem_of_getElem? (i := 737) (by decide +kernel), List.mem_of_getElem? (i := 738) (by decide +kernel)⟩
theorem lw_p28 : lw_okq (⟨"BulletLanesModel", "falls", "()V"⟩, 16) := ⟨⟨by decide +kernel, by decide +kernel⟩, List.mem_of_getElem? (i := 644) (by decide +kernel), List.mem_of_getElem? (i := 741) (by decide +kernel), List.mem_of_getElem? (i := 742) (by decide +kernel)⟩
theorem lw_p29 : lw_okq (⟨"BulletLanesModel", "of", "(II)I"⟩, 16) := ⟨⟨by decide +kernel, by decide +kernel⟩, List.mem_of_getElem? (i := 644) (by decide +kernel), List.mem_of_getElem? (i := 745) (by decide +kernel), List.mem_of_getElem? (i := 746) (by decide +kernel)⟩
theorem lw_p30 : lw_okq (⟨"BulletLanesModel", "lays", "(III)V"⟩, 16) := ⟨⟨by decide +kernel, by decide +kernel⟩, List.mem_of_getElem? (i := 644) (by decide +kernel), List.mem_of_getElem? (i := 749) (by decide +kernel), List.mem_of_getElem? (i := 750) (by decide +kernel)⟩
theorem lw_p31 : lw_okq (⟨"BulletLanesModel", "takesAway", "()I"⟩, 16) := ⟨⟨by decide +kernel, by decide +kernel⟩, List.mem_of_getElem? (i := 644) (by decide +kernel), List.mem_of_getElem? (i := 753) (by decide +kernel), List.mem_of_getElem? (i := 754) (by decide +kernel)⟩
def lw_privs_2 : List (MethodName × Nat) := [(⟨"BulletLanes$Lanes", "widthFrom", "(II)I"⟩, 2), (⟨"BulletLanes$Lanes", "leadsBack", "(III)Z"⟩, 2), (⟨"BulletLanes$Lanes", "tellAsides", "(I)V"⟩, 2), (⟨"BulletLanes$Lanes", "fewestAfter", "(III)I"⟩, 2), (⟨"BulletLanes$Lanes", "calmestNext", "(II)I"⟩, 2), (⟨"BulletLanes$Lanes", "asidesBy", "(III)I"⟩, 2), (⟨"BulletLanesModel", "records", "()V"⟩, 16), (⟨"BulletLanesModel", "addsEmitter", "(IIII)V"⟩, 16), (⟨"BulletLanesModel", "isEmitter", "(I)Z"⟩, 16), (⟨"BulletLanesModel", "dropsEmitter", "(I)V"⟩, 16), (⟨"BulletLanesModel", "goTick", "(I)I"⟩, 16), (⟨"BulletLanesModel", "moves", "()V"⟩, 16), (⟨"BulletLanesModel", "falls", "()V"⟩, 16), (⟨"BulletLanesModel", "of", "(II)I"⟩, 16), (⟨"BulletLanesModel", "lays", "(III)V"⟩, 16), (⟨"BulletLanesModel", "takesAway", "()I"⟩, 16)]
theorem lw_r2 : ∀ q ∈ lw_privs_2, lw_okq q := List.forall_mem_cons.mpr ⟨lw_p16, List.forall_mem_cons.mpr ⟨lw_p17, List.forall_mem_cons.mpr ⟨lw_p18, List.forall_mem_cons.mpr ⟨lw_p19, List.forall_mem_cons.mpr ⟨lw_p20, List.forall_mem_cons.mpr ⟨lw_p21, List.forall_mem_cons.mpr ⟨lw_p22, List.forall_mem_cons.mpr ⟨lw_p23, List.forall_mem_cons.mpr ⟨lw_p24, List.forall_mem_cons.mpr ⟨lw_p25, List.forall_mem_cons.mpr ⟨lw_p26, List.forall_mem_cons.mpr ⟨lw_p27, List.forall_mem_cons.mpr ⟨lw_p28, List.forall_mem_cons.mpr ⟨lw_p29, List.forall_mem_cons.mpr ⟨lw_p30, List.forall_mem_cons.mpr ⟨lw_p31, fun _ h => absurd h List.not_mem_nil⟩⟩⟩⟩⟩⟩⟩⟩⟩⟩⟩⟩⟩⟩⟩⟩
theorem lw_p32 : lw_okq (⟨"BulletLanesModel", "ofEmitter", "(II)I"⟩, 16) := ⟨⟨by decide +kernel, by decide +kernel⟩, List.mem_of_getElem? (i := 644) (by decide +kernel), List.mem_of_getElem? (i := 757) (by decide +kernel), List.mem_of_getElem? (i := 758) (by decide +kernel)⟩
theorem lw_p33 : lw_okq (⟨"BulletLanesModel", "firesPattern", "(II)V"⟩, 16) := ⟨⟨by decide +kernel, by decide +kernel⟩, List.mem_of_getElem? (i := 644) (by decide +kernel), List.mem_of_getElem? (i := 761) (by decide +kernel), List.mem_of_getElem? (i := 762) (by decide +kernel)⟩
theorem lw_p34 : lw_okq (⟨"BulletLanesModel", "fires", "(III)V"⟩, 16) := ⟨⟨by decide +kernel, by decide +kernel⟩, List.mem_of_getElem? (i := 644) (by decide +kernel), List.mem_of_getElem? (i := 765) (by decide +kernel), List.mem_of_getElem? (i := 766) (by decide +kernel)⟩
theorem lw_p35 : lw_okq (⟨"BulletLanesModel", "hits", "()I"⟩, 16) := ⟨⟨by decide +kernel, by decide +kernel⟩, List.mem_of_getElem? (i := 644) (by decide +kernel), List.mem_of_getElem? (i := 769) (by decide +kernel), List.mem_of_getElem? (i := 770) (by decide +kernel)⟩
theorem lw_p36 : lw_okq (⟨"BulletLanesModel", "isAt", "(III)Z"⟩, 16) := ⟨⟨by decide +kernel, by decide +kernel⟩, List.mem_of_getElem? (i := 644) (by decide +kernel), List.mem_of_getElem? (i := 773) (by decide +kernel), List.mem_of_getElem? (i := 774) (by decide +kernel)⟩
theorem lw_p37 : lw_okq (⟨"BulletLanesModel", "grazes", "()V"⟩, 16) := ⟨⟨by decide +kernel, by decide +kernel⟩, List.mem_of_getElem? (i := 644) (by decide +kernel), List.mem_of_getElem? (i := 777) (by decide +kernel), List.mem_of_getElem? (i := 778) (by decide +kernel)⟩
theorem lw_p38 : lw_okq (⟨"BulletLanesModel", "canBomb", "()Z"⟩, 16) := ⟨⟨by decide +kernel, by decide +kernel⟩, List.mem_of_getElem? (i := 644) (by decide +kernel), List.mem_of_getElem? (i := 785) (by decide +kernel), List.mem_of_getElem? (i := 786) (by decide +kernel)⟩
theorem lw_p39 : lw_okq (⟨"BulletLanesModel", "goBomb", "()I"⟩, 16) := ⟨⟨by decide +kernel, by decide +kernel⟩, List.mem_of_getElem? (i := 644) (by decide +kernel), List.mem_of_getElem? (i := 789) (by decide +kernel), List.mem_of_getElem? (i := 790) (by decide +kernel)⟩
theorem lw_p40 : lw_okq (⟨"BulletLanesModel", "isCurtain", "()Z"⟩, 16) := ⟨⟨by decide +kernel, by decide +kernel⟩, List.mem_of_getElem? (i := 644) (by decide +kernel), List.mem_of_getElem? (i := 813) (by decide +kernel), List.mem_of_getElem? (i := 814) (by decide +kernel)⟩
theorem lw_p41 : lw_okq (⟨"BulletLanesModel", "takesEmitter", "()V"⟩, 16) := ⟨⟨by decide +kernel, by decide +kernel⟩, List.mem_of_getElem? (i := 644) (by decide +kernel), List.mem_of_getElem? (i := 817) (by decide +kernel), List.mem_of_getElem? (i := 818) (by decide +kernel)⟩
theorem lw_p42 : lw_okq (⟨"BulletLanesModel", "takesDigit", "(II)I"⟩, 16) := ⟨⟨by decide +kernel, by decide +kernel⟩, List.mem_of_getElem? (i := 644) (by decide +kernel), List.mem_of_getElem? (i := 821) (by decide +kernel), List.mem_of_getElem? (i := 822) (by decide +kernel)⟩
theorem lw_p43 : lw_okq (⟨"BulletLanesModel", "here", "()I"⟩, 16) := ⟨⟨by decide +kernel, by decide +kernel⟩, List.mem_of_getElem? (i := 644) (by decide +kernel), List.mem_of_getElem? (i := 825) (by decide +kernel), List.mem_of_getElem? (i := 826) (by decide +kernel)⟩
theorem lw_p44 : lw_okq (⟨"BulletLanesModel", "takes", "(Z)V"⟩, 16) := ⟨⟨by decide +kernel, by decide +kernel⟩, List.mem_of_getElem? (i := 644) (by decide +kernel), List.mem_of_getElem? (i := 829) (by decide +kernel), List.mem_of_getElem? (i := 830) (by decide +kernel)⟩
theorem lw_p45 : lw_okq (⟨"BulletLanesModel", "areSteps", "()Z"⟩, 16) := ⟨⟨by decide +kernel, by decide +kernel⟩, List.mem_of_getElem? (i := 644) (by decide +kernel), List.mem_of_getElem? (i := 836) (by decide +kernel), List.mem_of_getElem? (i := 837) (by decide +kernel)⟩
theorem lw_p46 : lw_okq (⟨"BulletLanesModel", "bulletsAt", "(II)I"⟩, 16) := ⟨⟨by decide +kernel, by decide +kernel⟩, List.mem_of_getElem? (i := 644) (by decide +kernel), List.mem_of_getElem? (i := 860) (by decide +kernel), List.mem_of_getElem? (i := 861) (by decide +kernel)⟩
theorem lw_p47 : lw_okq (⟨"BulletLanesModel", "forecasts", "(II)V"⟩, 16) := ⟨⟨by decide +kernel, by decide +kernel⟩, List.mem_of_getElem? (i := 644) (by decide +kernel), List.mem_of_getElem? (i := 872) (by decide +kernel), List.mem_of_getElem? (i := 873) (by decide +kernel)⟩
def lw_privs_3 : List (MethodName × Nat) := [(⟨"BulletLanesModel", "ofEmitter", "(II)I"⟩, 16), (⟨"BulletLanesModel", "firesPattern", "(II)V"⟩, 16), (⟨"BulletLanesModel", "fires", "(III)V"⟩, 16), (⟨"BulletLanesModel", "hits", "()I"⟩, 16), (⟨"BulletLanesModel", "isAt", "(III)Z"⟩, 16), (⟨"BulletLanesModel", "grazes", "()V"⟩, 16), (⟨"BulletLanesModel", "canBomb", "()Z"⟩, 16), (⟨"BulletLanesModel", "goBomb", "()I"⟩, 16), (⟨"BulletLanesModel", "isCurtain", "()Z"⟩, 16), (⟨"BulletLanesModel", "takesEmitter", "()V"⟩, 16), (⟨"BulletLanesModel", "takesDigit", "(II)I"⟩, 16), (⟨"BulletLanesModel", "here", "()I"⟩, 16), (⟨"BulletLanesModel", "takes", "(Z)V"⟩, 16), (⟨"BulletLanesModel", "areSteps", "()Z"⟩, 16), (⟨"BulletLanesModel", "bulletsAt", "(II)I"⟩, 16), (⟨"BulletLanesModel", "forecasts", "(II)V"⟩, 16)]
theorem lw_r3 : ∀ q ∈ lw_privs_3, lw_okq q := List.forall_mem_cons.mpr ⟨lw_p32, List.forall_mem_cons.mpr ⟨lw_p33, List.forall_mem_cons.mpr ⟨lw_p34, List.forall_mem_cons.mpr ⟨lw_p35, List.forall_mem_cons.mpr ⟨lw_p36, List.forall_mem_cons.mpr ⟨lw_p37, List.forall_mem_cons.mpr ⟨lw_p38, List.forall_mem_cons.mpr ⟨lw_p39, List.forall_mem_cons.mpr ⟨lw_p40, List.forall_mem_cons.mpr ⟨lw_p41, List.forall_mem_cons.mpr ⟨lw_p42, List.forall_mem_cons.mpr ⟨lw_p43, List.forall_mem_cons.mpr ⟨lw_p44, List.forall_mem_cons.mpr ⟨lw_p45, List.forall_mem_cons.mpr ⟨lw_p46, List.forall_mem_cons.mpr ⟨lw_p47, fun _ h => absurd h List.not_mem_nil⟩⟩⟩⟩⟩⟩⟩⟩⟩⟩⟩⟩⟩⟩⟩⟩
theorem lw_p48 : lw_okq (⟨"BulletLanesModel", "freeNow", "()I"⟩, 16) := ⟨⟨by decide +kernel, by decide +kernel⟩, List.mem_of_getElem? (i := 644) (by decide +kernel), List.mem_of_getElem? (i := 876) (by decide +kernel), List.mem_of_getElem? (i := 877) (by decide +kernel)⟩
theorem lw_p49 : lw_okq (⟨"BulletLanesModel", "endsOf", "(I)I"⟩, 16) := ⟨⟨by decide +kernel, by decide +kernel⟩, List.mem_of_getElem? (i := 644) (by decide +kernel), List.mem_of_getElem? (i := 888) (by decide +kernel), List.mem_of_getElem? (i := 889) (by decide +kernel)⟩
theorem lw_p50 : lw_okq (⟨"BulletLanesModel", "findsWay", "(I)I"⟩, 16) := ⟨⟨by decide +kernel, by decide +kernel⟩, List.mem_of_getElem? (i := 644) (by decide +kernel), List.mem_of_getElem? (i := 899) (by decide +kernel), List.mem_of_getElem? (i := 900) (by decide +kernel)⟩
theorem lw_p51 : lw_okq (⟨"BulletLanesModel", "fewestAt", "(II)I"⟩, 16) := ⟨⟨by decide +kernel, by decide +kernel⟩, List.mem_of_getElem? (i := 644) (by decide +kernel), List.mem_of_getElem? (i := 903) (by decide +kernel), List.mem_of_getElem? (i := 904) (by decide +kernel)⟩
theorem lw_p52 : lw_okq (⟨"BulletLanesModel", "opens", "(II)I"⟩, 16) := ⟨⟨by decide +kernel, by decide +kernel⟩, List.mem_of_getElem? (i := 644) (by decide +kernel), List.mem_of_getElem? (i := 919) (by decide +kernel), List.mem_of_getElem? (i := 920) (by decide +kernel)⟩
def lw_privs_4 : List (MethodName × Nat) := [(⟨"BulletLanesModel", "freeNow", "()I"⟩, 16), (⟨"BulletLanesModel", "endsOf", "(I)I"⟩, 16), (⟨"BulletLanesModel", "findsWay", "(I)I"⟩, 16), (⟨"BulletLanesModel", "fewestAt", "(II)I"⟩, 16), (⟨"BulletLanesModel", "opens", "(II)I"⟩, 16)]
theorem lw_r4 : ∀ q ∈ lw_privs_4, lw_okq q := List.forall_mem_cons.mpr ⟨lw_p48, List.forall_mem_cons.mpr ⟨lw_p49, List.forall_mem_cons.mpr ⟨lw_p50, List.forall_mem_cons.mpr ⟨lw_p51, List.forall_mem_cons.mpr ⟨lw_p52, fun _ h => absurd h List.not_mem_nil⟩⟩⟩⟩⟩
def lw_privs : List (MethodName × Nat) := lw_privs_1 ++ (lw_privs_2 ++ (lw_privs_3 ++ (lw_privs_4)))
def lw_tbl : List Cond := k2_sels lw_privs ++ tables_1
theorem lw_privs_ok : ∀ q ∈ lw_privs, lw_okq q := by
  show ∀ q ∈ lw_privs_1 ++ (lw_privs_2 ++ (lw_privs_3 ++ (lw_privs_4))), lw_okq q
  exact List.forall_mem_append.mpr ⟨lw_r1, List.forall_mem_append.mpr ⟨lw_r2, List.forall_mem_append.mpr ⟨lw_r3, lw_r4⟩⟩⟩
/-- the streams that the claim lets the run draw from -/
abbrev lw_cs : List Choice := [Jvm.Choice.named "NaN.bits"]
theorem lw_bits : nanBits ∈ lw_cs := by first | decide | exact List.mem_cons_self | simp [lw_cs, nanBits]
end
section
def RX0 : String := "BulletLanes$Bullets"
def TX0 : u_T := fun k => match k with
  | 0 => ("BulletLanes$Bullets", "rows", "[I", true)
  | 1 => ("BulletLanes$Bullets", "columns", "[I", true)
  | 2 => ("BulletLanes$Bullets", "drifts", "[I", true)
  | 3 => ("BulletLanes$Bullets", "weaving", "[Z", true)
  | 4 => ("BulletLanes$Bullets", "grazed", "[Z", true)
  | _ => ("BulletLanes$Bullets", "size", "I", false)
def tyX0 : Nat → FieldType := fun k => match k with
  | 0 => .array .int
  | 1 => .array .int
  | 2 => .array .int
  | 3 => .array .boolean
  | 4 => .array .boolean
  | _ => .int
abbrev wsX00 : List Cond := u_ws RX0 TX0 6
theorem nmX0 : ∀ a, a < 6 → ∀ b, b < 6 → a ≠ b → (TX0 a).2.1 ≠ (TX0 b).2.1 := by decide +kernel
theorem tyX0_ok : ∀ k, k < 6 → parseFieldDescriptor (TX0 k).2.2.1 = some (tyX0 k) := by decide +kernel
abbrev cX0_init : ByteArray := prog_2_method_1_code
def yX0_init : MethodName := ⟨RX0, "<init>", "()V"⟩
abbrev cX0_has : ByteArray := prog_2_method_2_code
def yX0_has : MethodName := ⟨RX0, "has", "(I)Z"⟩
abbrev cX0_add : ByteArray := prog_2_method_3_code
def yX0_add : MethodName := ⟨RX0, "add", "(IIZ)Z"⟩
abbrev cX0_copyFrom : ByteArray := prog_2_method_4_code
def yX0_copyFrom : MethodName := ⟨RX0, "copyFrom", "(LBulletLanes$Bullets;)V"⟩
abbrev cX0_put : ByteArray := prog_2_method_5_code
def yX0_put : MethodName := ⟨RX0, "put", "(ILBulletLanes$Bullets;I)V"⟩
abbrev cX0_countIn : ByteArray := prog_2_method_6_code
def yX0_countIn : MethodName := ⟨RX0, "countIn", "(II)I"⟩
abbrev cX0_fall : ByteArray := prog_2_method_7_code
def yX0_fall : MethodName := ⟨RX0, "fall", "(Z)I"⟩
abbrev cX0_takeAround : ByteArray := prog_2_method_8_code
def yX0_takeAround : MethodName := ⟨RX0, "takeAround", "(II)I"⟩
abbrev cX0_grazeBeside : ByteArray := prog_2_method_9_code
def yX0_grazeBeside : MethodName := ⟨RX0, "grazeBeside", "(I)I"⟩
abbrev cX0_isBeside : ByteArray := prog_2_method_10_code
def yX0_isBeside : MethodName := ⟨RX0, "isBeside", "(II)Z"⟩
abbrev cX0_freeColumns : ByteArray := prog_2_method_11_code
def yX0_freeColumns : MethodName := ⟨RX0, "freeColumns", "()I"⟩
abbrev cX0_keepOnly : ByteArray := prog_2_method_12_code
def yX0_keepOnly : MethodName := ⟨RX0, "keepOnly", "(I)I"⟩
def RX1 : String := "BulletLanes$CurtainReader"
def TX1 : u_T := fun k => match k with
  | 0 => ("BulletLanes$CurtainReader", "emitters", "LBulletLanes$Emitters;", true)
  | 1 => ("BulletLanes$CurtainReader", "due", "I", false)
  | 2 => ("BulletLanes$CurtainReader", "column", "I", false)
  | _ => ("BulletLanes$CurtainReader", "pattern", "I", false)
def tyX1 : Nat → FieldType := fun k => match k with
  | 0 => .object "BulletLanes$Emitters"
  | 1 => .int
  | 2 => .int
  | _ => .int
abbrev wsX10 : List Cond := u_ws RX1 TX1 4
theorem nmX1 : ∀ a, a < 4 → ∀ b, b < 4 → a ≠ b → (TX1 a).2.1 ≠ (TX1 b).2.1 := by decide +kernel
theorem tyX1_ok : ∀ k, k < 4 → parseFieldDescriptor (TX1 k).2.2.1 = some (tyX1 k) := by decide +kernel
abbrev cX1_init : ByteArray := prog_3_method_1_code
def yX1_init : MethodName := ⟨RX1, "<init>", "()V"⟩
abbrev cX1_faultIn : ByteArray := prog_3_method_2_code
def yX1_faultIn : MethodName := ⟨RX1, "faultIn", "(LBulletLanes$Pad;)I"⟩
abbrev cX1_takes : ByteArray := prog_3_method_3_code
def yX1_takes : MethodName := ⟨RX1, "takes", "(I)Z"⟩
abbrev cX1_takesColumn : ByteArray := prog_3_method_4_code
def yX1_takesColumn : MethodName := ⟨RX1, "takesColumn", "(I)Z"⟩
abbrev cX1_takesPattern : ByteArray := prog_3_method_5_code
def yX1_takesPattern : MethodName := ⟨RX1, "takesPattern", "(I)Z"⟩
abbrev cX1_takesPeriod : ByteArray := prog_3_method_6_code
def yX1_takesPeriod : MethodName := ⟨RX1, "takesPeriod", "(I)Z"⟩
abbrev cX1_takesPhase : ByteArray := prog_3_method_7_code
def yX1_takesPhase : MethodName := ⟨RX1, "takesPhase", "(I)Z"⟩
abbrev cX1_takesMark : ByteArray := prog_3_method_8_code
def yX1_takesMark : MethodName := ⟨RX1, "takesMark", "(I)Z"⟩
abbrev cX1_patternOf : ByteArray := prog_3_method_9_code
def yX1_patternOf : MethodName := ⟨RX1, "patternOf", "(I)I"⟩
def RX2 : String := "BulletLanes$Emitters"
def TX2 : u_T := fun k => match k with
  | 0 => ("BulletLanes$Emitters", "columns", "[I", true)
  | 1 => ("BulletLanes$Emitters", "patterns", "[I", true)
  | 2 => ("BulletLanes$Emitters", "periods", "[I", true)
  | 3 => ("BulletLanes$Emitters", "phases", "[I", true)
  | _ => ("BulletLanes$Emitters", "size", "I", false)
def tyX2 : Nat → FieldType := fun k => match k with
  | 0 => .array .int
  | 1 => .array .int
  | 2 => .array .int
  | 3 => .array .int
  | _ => .int
abbrev wsX20 : List Cond := u_ws RX2 TX2 5
theorem nmX2 : ∀ a, a < 5 → ∀ b, b < 5 → a ≠ b → (TX2 a).2.1 ≠ (TX2 b).2.1 := by decide +kernel
theorem tyX2_ok : ∀ k, k < 5 → parseFieldDescriptor (TX2 k).2.2.1 = some (tyX2 k) := by decide +kernel
abbrev cX2_init : ByteArray := prog_4_method_1_code
def yX2_init : MethodName := ⟨RX2, "<init>", "()V"⟩
abbrev cX2_has : ByteArray := prog_4_method_2_code
def yX2_has : MethodName := ⟨RX2, "has", "(I)Z"⟩
abbrev cX2_isFull : ByteArray := prog_4_method_3_code
def yX2_isFull : MethodName := ⟨RX2, "isFull", "()Z"⟩
abbrev cX2_add : ByteArray := prog_4_method_4_code
def yX2_add : MethodName := ⟨RX2, "add", "(IIII)V"⟩
abbrev cX2_remove : ByteArray := prog_4_method_5_code
def yX2_remove : MethodName := ⟨RX2, "remove", "(I)V"⟩
abbrev cX2_copyFrom : ByteArray := prog_4_method_6_code
def yX2_copyFrom : MethodName := ⟨RX2, "copyFrom", "(LBulletLanes$Emitters;)V"⟩
abbrev cX2_put : ByteArray := prog_4_method_7_code
def yX2_put : MethodName := ⟨RX2, "put", "(ILBulletLanes$Emitters;I)V"⟩
abbrev cX2_firesAt : ByteArray := prog_4_method_8_code
def yX2_firesAt : MethodName := ⟨RX2, "firesAt", "(II)Z"⟩
abbrev cX2_ticksToFire : ByteArray := prog_4_method_9_code
def yX2_ticksToFire : MethodName := ⟨RX2, "ticksToFire", "(II)I"⟩
def RX3 : String := "BulletLanes$Field"
def TX3 : u_T := fun k => match k with
  | 0 => ("BulletLanes$Field", "emitters", "LBulletLanes$Emitters;", true)
  | 1 => ("BulletLanes$Field", "bullets", "LBulletLanes$Bullets;", true)
  | 2 => ("BulletLanes$Field", "settings", "[I", true)
  | 3 => ("BulletLanes$Field", "accounts", "[I", true)
  | 4 => ("BulletLanes$Field", "sprite", "I", false)
  | 5 => ("BulletLanes$Field", "shields", "I", false)
  | 6 => ("BulletLanes$Field", "bombs", "I", false)
  | 7 => ("BulletLanes$Field", "ticks", "I", false)
  | _ => ("BulletLanes$Field", "down", "Z", false)
def tyX3 : Nat → FieldType := fun k => match k with
  | 0 => .object "BulletLanes$Emitters"
  | 1 => .object "BulletLanes$Bullets"
  | 2 => .array .int
  | 3 => .array .int
  | 4 => .int
  | 5 => .int
  | 6 => .int
  | 7 => .int
  | _ => .boolean
abbrev wsX30 : List Cond := u_ws RX3 TX3 9
theorem nmX3 : ∀ a, a < 9 → ∀ b, b < 9 → a ≠ b → (TX3 a).2.1 ≠ (TX3 b).2.1 := by decide +kernel
theorem tyX3_ok : ∀ k, k < 9 → parseFieldDescriptor (TX3 k).2.2.1 = some (tyX3 k) := by decide +kernel
abbrev cX3_init : ByteArray := prog_5_method_1_code
def yX3_init : MethodName := ⟨RX3, "<init>", "()V"⟩
abbrev cX3_copyFrom : ByteArray := prog_5_method_2_code
def yX3_copyFrom : MethodName := ⟨RX3, "copyFrom", "(LBulletLanes$Field;)V"⟩
abbrev cX3_passTick : ByteArray := prog_5_method_3_code
def yX3_passTick : MethodName := ⟨RX3, "passTick", "(I)I"⟩
abbrev cX3_advance : ByteArray := prog_5_method_4_code
def yX3_advance : MethodName := ⟨RX3, "advance", "()V"⟩
abbrev cX3_fire : ByteArray := prog_5_method_5_code
def yX3_fire : MethodName := ⟨RX3, "fire", "(II)V"⟩
abbrev cX3_shoot : ByteArray := prog_5_method_6_code
def yX3_shoot : MethodName := ⟨RX3, "shoot", "(IIZ)V"⟩
abbrev cX3_takeHits : ByteArray := prog_5_method_7_code
def yX3_takeHits : MethodName := ⟨RX3, "takeHits", "()I"⟩
abbrev cX3_canBomb : ByteArray := prog_5_method_8_code
def yX3_canBomb : MethodName := ⟨RX3, "canBomb", "()Z"⟩
abbrev cX3_throwBomb : ByteArray := prog_5_method_9_code
def yX3_throwBomb : MethodName := ⟨RX3, "throwBomb", "()I"⟩
abbrev cX3_sweep : ByteArray := prog_5_method_10_code
def yX3_sweep : MethodName := ⟨RX3, "sweep", "()I"⟩
def RX4 : String := "BulletLanes$History"
def TX4 : u_T := fun k => match k with
  | 0 => ("BulletLanes$History", "states", "[LBulletLanes$Field;", true)
  | _ => ("BulletLanes$History", "size", "I", false)
def tyX4 : Nat → FieldType := fun k => match k with
  | 0 => .array (.object "BulletLanes$Field")
  | _ => .int
abbrev wsX40 : List Cond := u_ws RX4 TX4 2
theorem nmX4 : ∀ a, a < 2 → ∀ b, b < 2 → a ≠ b → (TX4 a).2.1 ≠ (TX4 b).2.1 := by decide +kernel
theorem tyX4_ok : ∀ k, k < 2 → parseFieldDescriptor (TX4 k).2.2.1 = some (tyX4 k) := by decide +kernel
abbrev cX4_init : ByteArray := prog_6_method_1_code
def yX4_init : MethodName := ⟨RX4, "<init>", "()V"⟩
abbrev cX4_record : ByteArray := prog_6_method_2_code
def yX4_record : MethodName := ⟨RX4, "record", "(LBulletLanes$Field;)V"⟩
abbrev cX4_dropOldest : ByteArray := prog_6_method_3_code
def yX4_dropOldest : MethodName := ⟨RX4, "dropOldest", "()V"⟩
abbrev cX4_takeBack : ByteArray := prog_6_method_4_code
def yX4_takeBack : MethodName := ⟨RX4, "takeBack", "(LBulletLanes$Field;)V"⟩
def RX5 : String := "BulletLanes$Lanes"
def TX5 : u_T := fun k => match k with
  | 0 => ("BulletLanes$Lanes", "free", "[I", true)
  | _ => ("BulletLanes$Lanes", "asidesFrom", "[[I", true)
def tyX5 : Nat → FieldType := fun k => match k with
  | 0 => .array .int
  | _ => .array (.array .int)
abbrev wsX50 : List Cond := u_ws RX5 TX5 2
theorem nmX5 : ∀ a, a < 2 → ∀ b, b < 2 → a ≠ b → (TX5 a).2.1 ≠ (TX5 b).2.1 := by decide +kernel
theorem tyX5_ok : ∀ k, k < 2 → parseFieldDescriptor (TX5 k).2.2.1 = some (tyX5 k) := by decide +kernel
abbrev cX5_init : ByteArray := prog_7_method_1_code
def yX5_init : MethodName := ⟨RX5, "<init>", "()V"⟩
abbrev cX5_foresee : ByteArray := prog_7_method_2_code
def yX5_foresee : MethodName := ⟨RX5, "foresee", "(LBulletLanes$Field;I)V"⟩
abbrev cX5_sumFree : ByteArray := prog_7_method_3_code
def yX5_sumFree : MethodName := ⟨RX5, "sumFree", "(I)I"⟩
abbrev cX5_isFree : ByteArray := prog_7_method_4_code
def yX5_isFree : MethodName := ⟨RX5, "isFree", "(II)Z"⟩
abbrev cX5_countLanes : ByteArray := prog_7_method_5_code
def yX5_countLanes : MethodName := ⟨RX5, "countLanes", "(I)I"⟩
abbrev cX5_widest : ByteArray := prog_7_method_6_code
def yX5_widest : MethodName := ⟨RX5, "widest", "(I)I"⟩
abbrev cX5_startOfWidest : ByteArray := prog_7_method_7_code
def yX5_startOfWidest : MethodName := ⟨RX5, "startOfWidest", "(I)I"⟩
abbrev cX5_widthFrom : ByteArray := prog_7_method_8_code
def yX5_widthFrom : MethodName := ⟨RX5, "widthFrom", "(II)I"⟩
abbrev cX5_spread : ByteArray := prog_7_method_9_code
def yX5_spread : MethodName := ⟨RX5, "spread", "(I)I"⟩
abbrev cX5_endsForwards : ByteArray := prog_7_method_10_code
def yX5_endsForwards : MethodName := ⟨RX5, "endsForwards", "(II)I"⟩
abbrev cX5_endsBackwards : ByteArray := prog_7_method_11_code
def yX5_endsBackwards : MethodName := ⟨RX5, "endsBackwards", "(II)I"⟩
abbrev cX5_leadsBack : ByteArray := prog_7_method_12_code
def yX5_leadsBack : MethodName := ⟨RX5, "leadsBack", "(III)Z"⟩
abbrev cX5_longestWay : ByteArray := prog_7_method_13_code
def yX5_longestWay : MethodName := ⟨RX5, "longestWay", "(I)I"⟩
abbrev cX5_fewestAsides : ByteArray := prog_7_method_14_code
def yX5_fewestAsides : MethodName := ⟨RX5, "fewestAsides", "(II)I"⟩
abbrev cX5_calmestAt : ByteArray := prog_7_method_15_code
def yX5_calmestAt : MethodName := ⟨RX5, "calmestAt", "(III)I"⟩
abbrev cX5_tellAsides : ByteArray := prog_7_method_16_code
def yX5_tellAsides : MethodName := ⟨RX5, "tellAsides", "(I)V"⟩
abbrev cX5_fewestAfter : ByteArray := prog_7_method_17_code
def yX5_fewestAfter : MethodName := ⟨RX5, "fewestAfter", "(III)I"⟩
abbrev cX5_asidesBy : ByteArray := prog_7_method_18_code
def yX5_asidesBy : MethodName := ⟨RX5, "asidesBy", "(III)I"⟩
abbrev cX5_calmestNext : ByteArray := prog_7_method_19_code
def yX5_calmestNext : MethodName := ⟨RX5, "calmestNext", "(II)I"⟩
def RX6 : String := "BulletLanes$Pad"
def TX6 : u_T := fun k => match k with
  | 0 => ("BulletLanes$Pad", "codes", "[I", true)
  | _ => ("BulletLanes$Pad", "length", "I", false)
def tyX6 : Nat → FieldType := fun k => match k with
  | 0 => .array .int
  | _ => .int
abbrev wsX60 : List Cond := u_ws RX6 TX6 2
theorem nmX6 : ∀ a, a < 2 → ∀ b, b < 2 → a ≠ b → (TX6 a).2.1 ≠ (TX6 b).2.1 := by decide +kernel
theorem tyX6_ok : ∀ k, k < 2 → parseFieldDescriptor (TX6 k).2.2.1 = some (tyX6 k) := by decide +kernel
abbrev cX6_init : ByteArray := prog_8_method_1_code
def yX6_init : MethodName := ⟨RX6, "<init>", "()V"⟩
abbrev cX6_isFull : ByteArray := prog_8_method_2_code
def yX6_isFull : MethodName := ⟨RX6, "isFull", "()Z"⟩
abbrev cX6_add : ByteArray := prog_8_method_3_code
def yX6_add : MethodName := ⟨RX6, "add", "(I)V"⟩
abbrev cX6_faultInSteps : ByteArray := prog_8_method_4_code
def yX6_faultInSteps : MethodName := ⟨RX6, "faultInSteps", "()I"⟩
abbrev cX6_isStepSign : ByteArray := prog_8_method_5_code
def yX6_isStepSign : MethodName := ⟨RX6, "isStepSign", "(I)Z"⟩
def RX7 : String := "BulletLanes"
def TX7 : u_T := fun k => match k with
  | 0 => ("BulletLanes", "field", "LBulletLanes$Field;", true)
  | 1 => ("BulletLanes", "trial", "LBulletLanes$Field;", true)
  | 2 => ("BulletLanes", "snapshot", "LBulletLanes$Field;", true)
  | 3 => ("BulletLanes", "hasSnapshot", "Z", false)
  | 4 => ("BulletLanes", "history", "LBulletLanes$History;", true)
  | 5 => ("BulletLanes", "pad", "LBulletLanes$Pad;", true)
  | 6 => ("BulletLanes", "reader", "LBulletLanes$CurtainReader;", true)
  | _ => ("BulletLanes", "lanes", "LBulletLanes$Lanes;", true)
def tyX7 : Nat → FieldType := fun k => match k with
  | 0 => .object "BulletLanes$Field"
  | 1 => .object "BulletLanes$Field"
  | 2 => .object "BulletLanes$Field"
  | 3 => .boolean
  | 4 => .object "BulletLanes$History"
  | 5 => .object "BulletLanes$Pad"
  | 6 => .object "BulletLanes$CurtainReader"
  | _ => .object "BulletLanes$Lanes"
abbrev wsX70 : List Cond := u_ws RX7 TX7 8
theorem nmX7 : ∀ a, a < 8 → ∀ b, b < 8 → a ≠ b → (TX7 a).2.1 ≠ (TX7 b).2.1 := by decide +kernel
theorem tyX7_ok : ∀ k, k < 8 → parseFieldDescriptor (TX7 k).2.2.1 = some (tyX7 k) := by decide +kernel
abbrev cX7_init : ByteArray := prog_1_method_1_code
def yX7_init : MethodName := ⟨RX7, "<init>", "()V"⟩
abbrev cX7_emitter : ByteArray := prog_1_method_2_code
def yX7_emitter : MethodName := ⟨RX7, "emitter", "(IIII)I"⟩
abbrev cX7_takeAway : ByteArray := prog_1_method_3_code
def yX7_takeAway : MethodName := ⟨RX7, "takeAway", "(I)I"⟩
abbrev cX7_tick : ByteArray := prog_1_method_4_code
def yX7_tick : MethodName := ⟨RX7, "tick", "(I)I"⟩
abbrev cX7_bomb : ByteArray := prog_1_method_5_code
def yX7_bomb : MethodName := ⟨RX7, "bomb", "()I"⟩
abbrev cX7_clearField : ByteArray := prog_1_method_6_code
def yX7_clearField : MethodName := ⟨RX7, "clearField", "()I"⟩
abbrev cX7_set : ByteArray := prog_1_method_7_code
def yX7_set : MethodName := ⟨RX7, "set", "(II)I"⟩
abbrev cX7_append : ByteArray := prog_1_method_8_code
def yX7_append : MethodName := ⟨RX7, "append", "(I)I"⟩
abbrev cX7_clear : ByteArray := prog_1_method_9_code
def yX7_clear : MethodName := ⟨RX7, "clear", "()I"⟩
abbrev cX7_fault : ByteArray := prog_1_method_10_code
def yX7_fault : MethodName := ⟨RX7, "fault", "(I)I"⟩
abbrev cX7_hang : ByteArray := prog_1_method_11_code
def yX7_hang : MethodName := ⟨RX7, "hang", "()I"⟩
abbrev cX7_play : ByteArray := prog_1_method_12_code
def yX7_play : MethodName := ⟨RX7, "play", "()I"⟩
abbrev cX7_playOne : ByteArray := prog_1_method_13_code
def yX7_playOne : MethodName := ⟨RX7, "playOne", "(I)Z"⟩
abbrev cX7_emitterOf : ByteArray := prog_1_method_14_code
def yX7_emitterOf : MethodName := ⟨RX7, "emitterOf", "(II)I"⟩
abbrev cX7_bullet : ByteArray := prog_1_method_15_code
def yX7_bullet : MethodName := ⟨RX7, "bullet", "(II)I"⟩
abbrev cX7_at : ByteArray := prog_1_method_16_code
def yX7_at : MethodName := ⟨RX7, "at", "(II)I"⟩
abbrev cX7_count : ByteArray := prog_1_method_17_code
def yX7_count : MethodName := ⟨RX7, "count", "(I)I"⟩
abbrev cX7_free : ByteArray := prog_1_method_18_code
def yX7_free : MethodName := ⟨RX7, "free", "(I)I"⟩
abbrev cX7_lane : ByteArray := prog_1_method_19_code
def yX7_lane : MethodName := ⟨RX7, "lane", "(II)I"⟩
abbrev cX7_ends : ByteArray := prog_1_method_20_code
def yX7_ends : MethodName := ⟨RX7, "ends", "(II)I"⟩
abbrev cX7_way : ByteArray := prog_1_method_21_code
def yX7_way : MethodName := ⟨RX7, "way", "(II)I"⟩
abbrev cX7_asides : ByteArray := prog_1_method_22_code
def yX7_asides : MethodName := ⟨RX7, "asides", "(I)I"⟩
abbrev cX7_fair : ByteArray := prog_1_method_23_code
def yX7_fair : MethodName := ⟨RX7, "fair", "()I"⟩
abbrev cX7_shuts : ByteArray := prog_1_method_24_code
def yX7_shuts : MethodName := ⟨RX7, "shuts", "(I)I"⟩
abbrev cX7_ifStepped : ByteArray := prog_1_method_25_code
def yX7_ifStepped : MethodName := ⟨RX7, "ifStepped", "(III)I"⟩
abbrev cX7_openness : ByteArray := prog_1_method_26_code
def yX7_openness : MethodName := ⟨RX7, "openness", "(I)D"⟩
abbrev cX7_foresee : ByteArray := prog_1_method_27_code
def yX7_foresee : MethodName := ⟨RX7, "foresee", "(I)V"⟩
abbrev cX7_undo : ByteArray := prog_1_method_28_code
def yX7_undo : MethodName := ⟨RX7, "undo", "()I"⟩
abbrev cX7_save : ByteArray := prog_1_method_29_code
def yX7_save : MethodName := ⟨RX7, "save", "()I"⟩
abbrev cX7_restore : ByteArray := prog_1_method_30_code
def yX7_restore : MethodName := ⟨RX7, "restore", "()I"⟩
abbrev cX7_isColumn : ByteArray := prog_1_method_31_code
def yX7_isColumn : MethodName := ⟨RX7, "isColumn", "(I)Z"⟩
abbrev cX7_isPattern : ByteArray := prog_1_method_32_code
def yX7_isPattern : MethodName := ⟨RX7, "isPattern", "(I)Z"⟩
abbrev cX7_isPeriod : ByteArray := prog_1_method_33_code
def yX7_isPeriod : MethodName := ⟨RX7, "isPeriod", "(I)Z"⟩
abbrev cX7_isStep : ByteArray := prog_1_method_34_code
def yX7_isStep : MethodName := ⟨RX7, "isStep", "(I)Z"⟩
abbrev cX7_isSpan : ByteArray := prog_1_method_35_code
def yX7_isSpan : MethodName := ⟨RX7, "isSpan", "(I)Z"⟩
abbrev cX7_isSetting : ByteArray := prog_1_method_36_code
def yX7_isSetting : MethodName := ⟨RX7, "isSetting", "(II)Z"⟩
def RX8 : String := "BulletLanesModel"
def TX8 : u_T := fun k => match k with
  | 0 => ("BulletLanesModel", "s", "[I", true)
  | 1 => ("BulletLanesModel", "aside", "[I", true)
  | 2 => ("BulletLanesModel", "past", "[I", true)
  | 3 => ("BulletLanesModel", "known", "I", false)
  | 4 => ("BulletLanesModel", "kept", "[I", true)
  | 5 => ("BulletLanesModel", "isKept", "Z", false)
  | 6 => ("BulletLanesModel", "pad", "[I", true)
  | 7 => ("BulletLanesModel", "length", "I", false)
  | 8 => ("BulletLanesModel", "goes", "[Z", true)
  | 9 => ("BulletLanesModel", "spot", "I", false)
  | 10 => ("BulletLanesModel", "isForm", "Z", false)
  | 11 => ("BulletLanesModel", "read", "[I", true)
  | 12 => ("BulletLanesModel", "reads", "I", false)
  | 13 => ("BulletLanesModel", "freeAt", "[I", true)
  | 14 => ("BulletLanesModel", "fewest", "[I", true)
  | _ => ("BulletLanesModel", "way", "[I", true)
def tyX8 : Nat → FieldType := fun k => match k with
  | 0 => .array .int
  | 1 => .array .int
  | 2 => .array .int
  | 3 => .int
  | 4 => .array .int
  | 5 => .boolean
  | 6 => .array .int
  | 7 => .int
  | 8 => .array .boolean
  | 9 => .int
  | 10 => .boolean
  | 11 => .array .int
  | 12 => .int
  | 13 => .array .int
  | 14 => .array .int
  | _ => .array .int
abbrev wsX80 : List Cond := u_ws RX8 TX8 16
theorem nmX8 : ∀ a, a < 16 → ∀ b, b < 16 → a ≠ b → (TX8 a).2.1 ≠ (TX8 b).2.1 := by decide +kernel
theorem tyX8_ok : ∀ k, k < 16 → parseFieldDescriptor (TX8 k).2.2.1 = some (tyX8 k) := by decide +kernel
abbrev cX8_init : ByteArray := prog_10_method_1_code
def yX8_init : MethodName := ⟨RX8, "<init>", "()V"⟩
abbrev cX8_in : ByteArray := prog_10_method_3_code
def yX8_in : MethodName := ⟨RX8, "in", "(III)Z"⟩
abbrev cX8_copies : ByteArray := prog_10_method_4_code
def yX8_copies : MethodName := ⟨RX8, "copies", "([II[II)V"⟩
abbrev cX8_records : ByteArray := prog_10_method_5_code
def yX8_records : MethodName := ⟨RX8, "records", "()V"⟩
abbrev cX8_isEmitter : ByteArray := prog_10_method_6_code
def yX8_isEmitter : MethodName := ⟨RX8, "isEmitter", "(I)Z"⟩
abbrev cX8_ofEmitter : ByteArray := prog_10_method_7_code
def yX8_ofEmitter : MethodName := ⟨RX8, "ofEmitter", "(II)I"⟩
abbrev cX8_of : ByteArray := prog_10_method_8_code
def yX8_of : MethodName := ⟨RX8, "of", "(II)I"⟩
abbrev cX8_lays : ByteArray := prog_10_method_9_code
def yX8_lays : MethodName := ⟨RX8, "lays", "(III)V"⟩
abbrev cX8_addsEmitter : ByteArray := prog_10_method_10_code
def yX8_addsEmitter : MethodName := ⟨RX8, "addsEmitter", "(IIII)V"⟩
abbrev cX8_dropsEmitter : ByteArray := prog_10_method_11_code
def yX8_dropsEmitter : MethodName := ⟨RX8, "dropsEmitter", "(I)V"⟩
abbrev cX8_takesAway : ByteArray := prog_10_method_12_code
def yX8_takesAway : MethodName := ⟨RX8, "takesAway", "()I"⟩
abbrev cX8_isAt : ByteArray := prog_10_method_13_code
def yX8_isAt : MethodName := ⟨RX8, "isAt", "(III)Z"⟩
abbrev cX8_falls : ByteArray := prog_10_method_14_code
def yX8_falls : MethodName := ⟨RX8, "falls", "()V"⟩
abbrev cX8_fires : ByteArray := prog_10_method_15_code
def yX8_fires : MethodName := ⟨RX8, "fires", "(III)V"⟩
abbrev cX8_firesPattern : ByteArray := prog_10_method_16_code
def yX8_firesPattern : MethodName := ⟨RX8, "firesPattern", "(II)V"⟩
abbrev cX8_moves : ByteArray := prog_10_method_17_code
def yX8_moves : MethodName := ⟨RX8, "moves", "()V"⟩
abbrev cX8_hits : ByteArray := prog_10_method_18_code
def yX8_hits : MethodName := ⟨RX8, "hits", "()I"⟩
abbrev cX8_grazes : ByteArray := prog_10_method_19_code
def yX8_grazes : MethodName := ⟨RX8, "grazes", "()V"⟩
abbrev cX8_goTick : ByteArray := prog_10_method_20_code
def yX8_goTick : MethodName := ⟨RX8, "goTick", "(I)I"⟩
abbrev cX8_goBomb : ByteArray := prog_10_method_21_code
def yX8_goBomb : MethodName := ⟨RX8, "goBomb", "()I"⟩
abbrev cX8_canBomb : ByteArray := prog_10_method_22_code
def yX8_canBomb : MethodName := ⟨RX8, "canBomb", "()Z"⟩
abbrev cX8_emitter : ByteArray := prog_10_method_23_code
def yX8_emitter : MethodName := ⟨RX8, "emitter", "(IIII)I"⟩
abbrev cX8_takeAway : ByteArray := prog_10_method_24_code
def yX8_takeAway : MethodName := ⟨RX8, "takeAway", "(I)I"⟩
abbrev cX8_tick : ByteArray := prog_10_method_25_code
def yX8_tick : MethodName := ⟨RX8, "tick", "(I)I"⟩
abbrev cX8_bomb : ByteArray := prog_10_method_26_code
def yX8_bomb : MethodName := ⟨RX8, "bomb", "()I"⟩
abbrev cX8_clearField : ByteArray := prog_10_method_27_code
def yX8_clearField : MethodName := ⟨RX8, "clearField", "()I"⟩
abbrev cX8_set : ByteArray := prog_10_method_28_code
def yX8_set : MethodName := ⟨RX8, "set", "(II)I"⟩
abbrev cX8_append : ByteArray := prog_10_method_29_code
def yX8_append : MethodName := ⟨RX8, "append", "(I)I"⟩
abbrev cX8_clear : ByteArray := prog_10_method_30_code
def yX8_clear : MethodName := ⟨RX8, "clear", "()I"⟩
abbrev cX8_here : ByteArray := prog_10_method_31_code
def yX8_here : MethodName := ⟨RX8, "here", "()I"⟩
abbrev cX8_takes : ByteArray := prog_10_method_32_code
def yX8_takes : MethodName := ⟨RX8, "takes", "(Z)V"⟩
abbrev cX8_takesDigit : ByteArray := prog_10_method_33_code
def yX8_takesDigit : MethodName := ⟨RX8, "takesDigit", "(II)I"⟩
abbrev cX8_patternOf : ByteArray := prog_10_method_34_code
def yX8_patternOf : MethodName := ⟨RX8, "patternOf", "(I)I"⟩
abbrev cX8_takesEmitter : ByteArray := prog_10_method_35_code
def yX8_takesEmitter : MethodName := ⟨RX8, "takesEmitter", "()V"⟩
abbrev cX8_isCurtain : ByteArray := prog_10_method_36_code
def yX8_isCurtain : MethodName := ⟨RX8, "isCurtain", "()Z"⟩
abbrev cX8_areSteps : ByteArray := prog_10_method_37_code
def yX8_areSteps : MethodName := ⟨RX8, "areSteps", "()Z"⟩
abbrev cX8_fault : ByteArray := prog_10_method_38_code
def yX8_fault : MethodName := ⟨RX8, "fault", "(I)I"⟩
abbrev cX8_hang : ByteArray := prog_10_method_39_code
def yX8_hang : MethodName := ⟨RX8, "hang", "()I"⟩
abbrev cX8_play : ByteArray := prog_10_method_40_code
def yX8_play : MethodName := ⟨RX8, "play", "()I"⟩
abbrev cX8_emitterOf : ByteArray := prog_10_method_41_code
def yX8_emitterOf : MethodName := ⟨RX8, "emitterOf", "(II)I"⟩
abbrev cX8_bullet : ByteArray := prog_10_method_42_code
def yX8_bullet : MethodName := ⟨RX8, "bullet", "(II)I"⟩
abbrev cX8_bulletsAt : ByteArray := prog_10_method_43_code
def yX8_bulletsAt : MethodName := ⟨RX8, "bulletsAt", "(II)I"⟩
abbrev cX8_at : ByteArray := prog_10_method_44_code
def yX8_at : MethodName := ⟨RX8, "at", "(II)I"⟩
abbrev cX8_count : ByteArray := prog_10_method_45_code
def yX8_count : MethodName := ⟨RX8, "count", "(I)I"⟩
abbrev cX8_freeNow : ByteArray := prog_10_method_46_code
def yX8_freeNow : MethodName := ⟨RX8, "freeNow", "()I"⟩
abbrev cX8_forecasts : ByteArray := prog_10_method_47_code
def yX8_forecasts : MethodName := ⟨RX8, "forecasts", "(II)V"⟩
abbrev cX8_free : ByteArray := prog_10_method_48_code
def yX8_free : MethodName := ⟨RX8, "free", "(I)I"⟩
abbrev cX8_ones : ByteArray := prog_10_method_49_code
def yX8_ones : MethodName := ⟨RX8, "ones", "(I)I"⟩
abbrev cX8_lane : ByteArray := prog_10_method_50_code
def yX8_lane : MethodName := ⟨RX8, "lane", "(II)I"⟩
abbrev cX8_endsOf : ByteArray := prog_10_method_51_code
def yX8_endsOf : MethodName := ⟨RX8, "endsOf", "(I)I"⟩
abbrev cX8_ends : ByteArray := prog_10_method_52_code
def yX8_ends : MethodName := ⟨RX8, "ends", "(II)I"⟩
abbrev cX8_fewestAt : ByteArray := prog_10_method_53_code
def yX8_fewestAt : MethodName := ⟨RX8, "fewestAt", "(II)I"⟩
abbrev cX8_findsWay : ByteArray := prog_10_method_54_code
def yX8_findsWay : MethodName := ⟨RX8, "findsWay", "(I)I"⟩
abbrev cX8_way : ByteArray := prog_10_method_55_code
def yX8_way : MethodName := ⟨RX8, "way", "(II)I"⟩
abbrev cX8_asides : ByteArray := prog_10_method_56_code
def yX8_asides : MethodName := ⟨RX8, "asides", "(I)I"⟩
abbrev cX8_fair : ByteArray := prog_10_method_57_code
def yX8_fair : MethodName := ⟨RX8, "fair", "()I"⟩
abbrev cX8_opens : ByteArray := prog_10_method_58_code
def yX8_opens : MethodName := ⟨RX8, "opens", "(II)I"⟩
abbrev cX8_shuts : ByteArray := prog_10_method_59_code
def yX8_shuts : MethodName := ⟨RX8, "shuts", "(I)I"⟩
abbrev cX8_openness : ByteArray := prog_10_method_60_code
def yX8_openness : MethodName := ⟨RX8, "openness", "(I)D"⟩
abbrev cX8_ifStepped : ByteArray := prog_10_method_61_code
def yX8_ifStepped : MethodName := ⟨RX8, "ifStepped", "(III)I"⟩
abbrev cX8_undo : ByteArray := prog_10_method_62_code
def yX8_undo : MethodName := ⟨RX8, "undo", "()I"⟩
abbrev cX8_save : ByteArray := prog_10_method_63_code
def yX8_save : MethodName := ⟨RX8, "save", "()I"⟩
abbrev cX8_restore : ByteArray := prog_10_method_64_code
def yX8_restore : MethodName := ⟨RX8, "restore", "()I"⟩
def RJ6 : String := "java/lang/Integer"
def TJ6 : u_T := fun k => match k with
  | _ => ("", "", "", false)
def tyJ6 : Nat → FieldType := fun k => match k with
  | _ => .int
abbrev wsJ60 : List Cond := u_ws RJ6 TJ6 0
theorem nmJ6 : ∀ a, a < 0 → ∀ b, b < 0 → a ≠ b → (TJ6 a).2.1 ≠ (TJ6 b).2.1 := by decide +kernel
theorem tyJ6_ok : ∀ k, k < 0 → parseFieldDescriptor (TJ6 k).2.2.1 = some (tyJ6 k) := by decide +kernel
abbrev cJ6_compare_7cf53 : ByteArray := prog_11_method_40_code
def yJ6_compare_7cf53 : MethodName := ⟨RJ6, "compare", "(II)I"⟩
abbrev cJ6_bitCount_0f7a4 : ByteArray := prog_11_method_49_code
def yJ6_bitCount_0f7a4 : MethodName := ⟨RJ6, "bitCount", "(I)I"⟩
def RJ9 : String := "java/lang/Math"
def TJ9 : u_T := fun k => match k with
  | _ => ("", "", "", false)
def tyJ9 : Nat → FieldType := fun k => match k with
  | _ => .int
abbrev wsJ90 : List Cond := u_ws RJ9 TJ9 0
theorem nmJ9 : ∀ a, a < 0 → ∀ b, b < 0 → a ≠ b → (TJ9 a).2.1 ≠ (TJ9 b).2.1 := by decide +kernel
theorem tyJ9_ok : ∀ k, k < 0 → parseFieldDescriptor (TJ9 k).2.2.1 = some (tyJ9 k) := by decide +kernel
abbrev cJ9_abs_0f7a4 : ByteArray := prog_12_method_59_code
def yJ9_abs_0f7a4 : MethodName := ⟨RJ9, "abs", "(I)I"⟩
abbrev cJ9_max_7cf53 : ByteArray := prog_12_method_65_code
def yJ9_max_7cf53 : MethodName := ⟨RJ9, "max", "(II)I"⟩
abbrev cJ9_min_7cf53 : ByteArray := prog_12_method_69_code
def yJ9_min_7cf53 : MethodName := ⟨RJ9, "min", "(II)I"⟩
def RJ10 : String := "java/lang/System"
def TJ10 : u_T := fun k => match k with
  | _ => ("", "", "", false)
def tyJ10 : Nat → FieldType := fun k => match k with
  | _ => .int
abbrev wsJ100 : List Cond := u_ws RJ10 TJ10 0
theorem nmJ10 : ∀ a, a < 0 → ∀ b, b < 0 → a ≠ b → (TJ10 a).2.1 ≠ (TJ10 b).2.1 := by decide +kernel
theorem tyJ10_ok : ∀ k, k < 0 → parseFieldDescriptor (TJ10 k).2.2.1 = some (tyJ10 k) := by decide +kernel
def RL : String := "BulletLanesLaw"
abbrev cL_law : ByteArray := code
def yL_law : MethodName := ⟨RL, "law", "([I)Z"⟩
abbrev vwCl : List vw_C := [(RX0, TX0, 6), (RX1, TX1, 4), (RX2, TX2, 5), (RX3, TX3, 9), (RX4, TX4, 2), (RX5, TX5, 2), (RX6, TX6, 2), (RX7, TX7, 8), (RX8, TX8, 16)]
end
section
theorem dX0_init_0 : decode cX0_init 0 = .ok (.aload_n 0, 1) := by decide +kernel
theorem dX0_init_1 : decode cX0_init 1 = .ok (.invokespecial 3, 3) := by decide +kernel
theorem dX0_init_4 : decode cX0_init 4 = .ok (.aload_n 0, 1) := by decide +kernel
theorem dX0_init_5 : decode cX0_init 5 = .ok (.bipush 60, 2) := by decide +kernel
theorem dX0_init_7 : decode cX0_init 7 = .ok (.newarray .int, 2) := by decide +kernel
theorem dX0_init_9 : decode cX0_init 9 = .ok (.putfield 9, 3) := by decide +kernel
theorem dX0_init_12 : decode cX0_init 12 = .ok (.aload_n 0, 1) := by decide +kernel
theorem dX0_init_13 : decode cX0_init 13 = .ok (.bipush 60, 2) := by decide +kernel
theorem dX0_init_15 : decode cX0_init 15 = .ok (.newarray .int, 2) := by decide +kernel
theorem dX0_init_17 : decode cX0_init 17 = .ok (.putfield 15, 3) := by decide +kernel
theorem dX0_init_20 : decode cX0_init 20 = .ok (.aload_n 0, 1) := by decide +kernel
theorem dX0_init_21 : decode cX0_init 21 = .ok (.bipush 60, 2) := by decide +kernel
theorem dX0_init_23 : decode cX0_init 23 = .ok (.newarray .int, 2) := by decide +kernel
theorem dX0_init_25 : decode cX0_init 25 = .ok (.putfield 18, 3) := by decide +kernel
theorem dX0_init_28 : decode cX0_init 28 = .ok (.aload_n 0, 1) := by decide +kernel
theorem dX0_init_29 : decode cX0_init 29 = .ok (.bipush 60, 2) := by decide +kernel
theorem dX0_init_31 : decode cX0_init 31 = .ok (.newarray .boolean, 2) := by decide +kernel
theorem dX0_init_33 : decode cX0_init 33 = .ok (.putfield 21, 3) := by decide +kernel
theorem dX0_init_36 : decode cX0_init 36 = .ok (.aload_n 0, 1) := by decide +kernel
theorem dX0_init_37 : decode cX0_init 37 = .ok (.bipush 60, 2) := by decide +kernel
theorem dX0_init_39 : decode cX0_init 39 = .ok (.newarray .boolean, 2) := by decide +kernel
theorem dX0_init_41 : decode cX0_init 41 = .ok (.putfield 25, 3) := by decide +kernel
theorem dX0_init_44 : decode cX0_init 44 = .ok (.aload_n 0, 1) := by decide +kernel
theorem dX0_init_45 : decode cX0_init 45 = .ok (.iconst 0, 1) := by decide +kernel
theorem dX0_init_46 : decode cX0_init 46 = .ok (.putfield 28, 3) := by decide +kernel
theorem dX0_init_49 : decode cX0_init 49 = .ok (.return_, 1) := by decide +kernel
theorem dX0_has_0 : decode cX0_has 0 = .ok (.iload_n 1, 1) := by decide +kernel
theorem dX0_has_1 : decode cX0_has 1 = .ok (.ifCond .lt 15, 3) := by decide +kernel
theorem dX0_has_4 : decode cX0_has 4 = .ok (.iload_n 1, 1) := by decide +kernel
theorem dX0_has_5 : decode cX0_has 5 = .ok (.aload_n 0, 1) := by decide +kernel
theorem dX0_has_6 : decode cX0_has 6 = .ok (.getfield 28, 3) := by decide +kernel
theorem dX0_has_9 : decode cX0_has 9 = .ok (.if_icmp .ge 7, 3) := by decide +kernel
theorem dX0_has_12 : decode cX0_has 12 = .ok (.iconst 1, 1) := by decide +kernel
theorem dX0_has_13 : decode cX0_has 13 = .ok (.goto 4, 3) := by decide +kernel
theorem dX0_has_16 : decode cX0_has 16 = .ok (.iconst 0, 1) := by decide +kernel
theorem dX0_has_17 : decode cX0_has 17 = .ok (.ireturn, 1) := by decide +kernel
theorem dX0_add_0 : decode cX0_add 0 = .ok (.aload_n 0, 1) := by decide +kernel
theorem dX0_add_1 : decode cX0_add 1 = .ok (.getfield 28, 3) := by decide +kernel
theorem dX0_add_4 : decode cX0_add 4 = .ok (.bipush 60, 2) := by decide +kernel
theorem dX0_add_6 : decode cX0_add 6 = .ok (.if_icmp .lt 5, 3) := by decide +kernel
theorem dX0_add_9 : decode cX0_add 9 = .ok (.iconst 0, 1) := by decide +kernel
theorem dX0_add_10 : decode cX0_add 10 = .ok (.ireturn, 1) := by decide +kernel
theorem dX0_add_11 : decode cX0_add 11 = .ok (.aload_n 0, 1) := by decide +kernel
theorem dX0_add_12 : decode cX0_add 12 = .ok (.getfield 9, 3) := by decide +kernel
theorem dX0_add_15 : decode cX0_add 15 = .ok (.aload_n 0, 1) := by decide +kernel
theorem dX0_add_16 : decode cX0_add 16 = .ok (.getfield 28, 3) := by decide +kernel
theorem dX0_add_19 : decode cX0_add 19 = .ok (.iconst 0, 1) := by decide +kernel
theorem dX0_add_20 : decode cX0_add 20 = .ok (.iastore, 1) := by decide +kernel
theorem dX0_add_21 : decode cX0_add 21 = .ok (.aload_n 0, 1) := by decide +kernel
theorem dX0_add_22 : decode cX0_add 22 = .ok (.getfield 15, 3) := by decide +kernel
theorem dX0_add_25 : decode cX0_add 25 = .ok (.aload_n 0, 1) := by decide +kernel
theorem dX0_add_26 : decode cX0_add 26 = .ok (.getfield 28, 3) := by decide +kernel
theorem dX0_add_29 : decode cX0_add 29 = .ok (.iload_n 1, 1) := by decide +kernel
theorem dX0_add_30 : decode cX0_add 30 = .ok (.iastore, 1) := by decide +kernel
theorem dX0_add_31 : decode cX0_add 31 = .ok (.aload_n 0, 1) := by decide +kernel
theorem dX0_add_32 : decode cX0_add 32 = .ok (.getfield 18, 3) := by decide +kernel
theorem dX0_add_35 : decode cX0_add 35 = .ok (.aload_n 0, 1) := by decide +kernel
theorem dX0_add_36 : decode cX0_add 36 = .ok (.getfield 28, 3) := by decide +kernel
theorem dX0_add_39 : decode cX0_add 39 = .ok (.iload_n 2, 1) := by decide +kernel
theorem dX0_add_40 : decode cX0_add 40 = .ok (.iastore, 1) := by decide +kernel
theorem dX0_add_41 : decode cX0_add 41 = .ok (.aload_n 0, 1) := by decide +kernel
theorem dX0_add_42 : decode cX0_add 42 = .ok (.getfield 21, 3) := by decide +kernel
theorem dX0_add_45 : decode cX0_add 45 = .ok (.aload_n 0, 1) := by decide +kernel
theorem dX0_add_46 : decode cX0_add 46 = .ok (.getfield 28, 3) := by decide +kernel
theorem dX0_add_49 : decode cX0_add 49 = .ok (.iload_n 3, 1) := by decide +kernel
theorem dX0_add_50 : decode cX0_add 50 = .ok (.bastore, 1) := by decide +kernel
theorem dX0_add_51 : decode cX0_add 51 = .ok (.aload_n 0, 1) := by decide +kernel
theorem dX0_add_52 : decode cX0_add 52 = .ok (.getfield 25, 3) := by decide +kernel
theorem dX0_add_55 : decode cX0_add 55 = .ok (.aload_n 0, 1) := by decide +kernel
theorem dX0_add_56 : decode cX0_add 56 = .ok (.getfield 28, 3) := by decide +kernel
theorem dX0_add_59 : decode cX0_add 59 = .ok (.iconst 0, 1) := by decide +kernel
theorem dX0_add_60 : decode cX0_add 60 = .ok (.bastore, 1) := by decide +kernel
theorem dX0_add_61 : decode cX0_add 61 = .ok (.aload_n 0, 1) := by decide +kernel
theorem dX0_add_62 : decode cX0_add 62 = .ok (.dup, 1) := by decide +kernel
theorem dX0_add_63 : decode cX0_add 63 = .ok (.getfield 28, 3) := by decide +kernel
theorem dX0_add_66 : decode cX0_add 66 = .ok (.iconst 1, 1) := by decide +kernel
theorem dX0_add_67 : decode cX0_add 67 = .ok (.iadd, 1) := by decide +kernel
theorem dX0_add_68 : decode cX0_add 68 = .ok (.putfield 28, 3) := by decide +kernel
theorem dX0_add_71 : decode cX0_add 71 = .ok (.iconst 1, 1) := by decide +kernel
theorem dX0_add_72 : decode cX0_add 72 = .ok (.ireturn, 1) := by decide +kernel
theorem dX0_copyFrom_0 : decode cX0_copyFrom 0 = .ok (.aload_n 0, 1) := by decide +kernel
theorem dX0_copyFrom_1 : decode cX0_copyFrom 1 = .ok (.aload_n 1, 1) := by decide +kernel
theorem dX0_copyFrom_2 : decode cX0_copyFrom 2 = .ok (.getfield 28, 3) := by decide +kernel
theorem dX0_copyFrom_5 : decode cX0_copyFrom 5 = .ok (.putfield 28, 3) := by decide +kernel
theorem dX0_copyFrom_8 : decode cX0_copyFrom 8 = .ok (.iconst 0, 1) := by decide +kernel
theorem dX0_copyFrom_9 : decode cX0_copyFrom 9 = .ok (.istore_n 2, 1) := by decide +kernel
theorem dX0_copyFrom_10 : decode cX0_copyFrom 10 = .ok (.iload_n 2, 1) := by decide +kernel
theorem dX0_copyFrom_11 : decode cX0_copyFrom 11 = .ok (.aload_n 0, 1) := by decide +kernel
theorem dX0_copyFrom_12 : decode cX0_copyFrom 12 = .ok (.getfield 28, 3) := by decide +kernel
theorem dX0_copyFrom_15 : decode cX0_copyFrom 15 = .ok (.if_icmp .ge 16, 3) := by decide +kernel
theorem dX0_copyFrom_18 : decode cX0_copyFrom 18 = .ok (.aload_n 0, 1) := by decide +kernel
theorem dX0_copyFrom_19 : decode cX0_copyFrom 19 = .ok (.iload_n 2, 1) := by decide +kernel
theorem dX0_copyFrom_20 : decode cX0_copyFrom 20 = .ok (.aload_n 1, 1) := by decide +kernel
theorem dX0_copyFrom_21 : decode cX0_copyFrom 21 = .ok (.iload_n 2, 1) := by decide +kernel
theorem dX0_copyFrom_22 : decode cX0_copyFrom 22 = .ok (.invokevirtual 32, 3) := by decide +kernel
theorem dX0_copyFrom_25 : decode cX0_copyFrom 25 = .ok (.iinc 2 1, 3) := by decide +kernel
theorem dX0_copyFrom_28 : decode cX0_copyFrom 28 = .ok (.goto (-18), 3) := by decide +kernel
theorem dX0_copyFrom_31 : decode cX0_copyFrom 31 = .ok (.return_, 1) := by decide +kernel
theorem dX0_put_0 : decode cX0_put 0 = .ok (.aload_n 0, 1) := by decide +kernel
theorem dX0_put_1 : decode cX0_put 1 = .ok (.getfield 9, 3) := by decide +kernel
theorem dX0_put_4 : decode cX0_put 4 = .ok (.iload_n 1, 1) := by decide +kernel
theorem dX0_put_5 : decode cX0_put 5 = .ok (.aload_n 2, 1) := by decide +kernel
theorem dX0_put_6 : decode cX0_put 6 = .ok (.getfield 9, 3) := by decide +kernel
theorem dX0_put_9 : decode cX0_put 9 = .ok (.iload_n 3, 1) := by decide +kernel
theorem dX0_put_10 : decode cX0_put 10 = .ok (.iaload, 1) := by decide +kernel
theorem dX0_put_11 : decode cX0_put 11 = .ok (.iastore, 1) := by decide +kernel
theorem dX0_put_12 : decode cX0_put 12 = .ok (.aload_n 0, 1) := by decide +kernel
theorem dX0_put_13 : decode cX0_put 13 = .ok (.getfield 15, 3) := by decide +kernel
theorem dX0_put_16 : decode cX0_put 16 = .ok (.iload_n 1, 1) := by decide +kernel
theorem dX0_put_17 : decode cX0_put 17 = .ok (.aload_n 2, 1) := by decide +kernel
theorem dX0_put_18 : decode cX0_put 18 = .ok (.getfield 15, 3) := by decide +kernel
theorem dX0_put_21 : decode cX0_put 21 = .ok (.iload_n 3, 1) := by decide +kernel
theorem dX0_put_22 : decode cX0_put 22 = .ok (.iaload, 1) := by decide +kernel
theorem dX0_put_23 : decode cX0_put 23 = .ok (.iastore, 1) := by decide +kernel
theorem dX0_put_24 : decode cX0_put 24 = .ok (.aload_n 0, 1) := by decide +kernel
theorem dX0_put_25 : decode cX0_put 25 = .ok (.getfield 18, 3) := by decide +kernel
theorem dX0_put_28 : decode cX0_put 28 = .ok (.iload_n 1, 1) := by decide +kernel
theorem dX0_put_29 : decode cX0_put 29 = .ok (.aload_n 2, 1) := by decide +kernel
theorem dX0_put_30 : decode cX0_put 30 = .ok (.getfield 18, 3) := by decide +kernel
theorem dX0_put_33 : decode cX0_put 33 = .ok (.iload_n 3, 1) := by decide +kernel
theorem dX0_put_34 : decode cX0_put 34 = .ok (.iaload, 1) := by decide +kernel
theorem dX0_put_35 : decode cX0_put 35 = .ok (.iastore, 1) := by decide +kernel
theorem dX0_put_36 : decode cX0_put 36 = .ok (.aload_n 0, 1) := by decide +kernel
theorem dX0_put_37 : decode cX0_put 37 = .ok (.getfield 21, 3) := by decide +kernel
theorem dX0_put_40 : decode cX0_put 40 = .ok (.iload_n 1, 1) := by decide +kernel
theorem dX0_put_41 : decode cX0_put 41 = .ok (.aload_n 2, 1) := by decide +kernel
theorem dX0_put_42 : decode cX0_put 42 = .ok (.getfield 21, 3) := by decide +kernel
theorem dX0_put_45 : decode cX0_put 45 = .ok (.iload_n 3, 1) := by decide +kernel
theorem dX0_put_46 : decode cX0_put 46 = .ok (.baload, 1) := by decide +kernel
theorem dX0_put_47 : decode cX0_put 47 = .ok (.bastore, 1) := by decide +kernel
theorem dX0_put_48 : decode cX0_put 48 = .ok (.aload_n 0, 1) := by decide +kernel
theorem dX0_put_49 : decode cX0_put 49 = .ok (.getfield 25, 3) := by decide +kernel
theorem dX0_put_52 : decode cX0_put 52 = .ok (.iload_n 1, 1) := by decide +kernel
theorem dX0_put_53 : decode cX0_put 53 = .ok (.aload_n 2, 1) := by decide +kernel
theorem dX0_put_54 : decode cX0_put 54 = .ok (.getfield 25, 3) := by decide +kernel
theorem dX0_put_57 : decode cX0_put 57 = .ok (.iload_n 3, 1) := by decide +kernel
theorem dX0_put_58 : decode cX0_put 58 = .ok (.baload, 1) := by decide +kernel
theorem dX0_put_59 : decode cX0_put 59 = .ok (.bastore, 1) := by decide +kernel
theorem dX0_put_60 : decode cX0_put 60 = .ok (.return_, 1) := by decide +kernel
theorem dX0_countIn_0 : decode cX0_countIn 0 = .ok (.iconst 0, 1) := by decide +kernel
theorem dX0_countIn_1 : decode cX0_countIn 1 = .ok (.istore_n 3, 1) := by decide +kernel
theorem dX0_countIn_2 : decode cX0_countIn 2 = .ok (.iconst 0, 1) := by decide +kernel
theorem dX0_countIn_3 : decode cX0_countIn 3 = .ok (.istore 4, 2) := by decide +kernel
theorem dX0_countIn_5 : decode cX0_countIn 5 = .ok (.iload 4, 2) := by decide +kernel
theorem dX0_countIn_7 : decode cX0_countIn 7 = .ok (.aload_n 0, 1) := by decide +kernel
theorem dX0_countIn_8 : decode cX0_countIn 8 = .ok (.getfield 28, 3) := by decide +kernel
theorem dX0_countIn_11 : decode cX0_countIn 11 = .ok (.if_icmp .ge 34, 3) := by decide +kernel
theorem dX0_countIn_14 : decode cX0_countIn 14 = .ok (.aload_n 0, 1) := by decide +kernel
theorem dX0_countIn_15 : decode cX0_countIn 15 = .ok (.getfield 9, 3) := by decide +kernel
theorem dX0_countIn_18 : decode cX0_countIn 18 = .ok (.iload 4, 2) := by decide +kernel
theorem dX0_countIn_20 : decode cX0_countIn 20 = .ok (.iaload, 1) := by decide +kernel
theorem dX0_countIn_21 : decode cX0_countIn 21 = .ok (.iload_n 1, 1) := by decide +kernel
theorem dX0_countIn_22 : decode cX0_countIn 22 = .ok (.if_icmp .ne 17, 3) := by decide +kernel
theorem dX0_countIn_25 : decode cX0_countIn 25 = .ok (.aload_n 0, 1) := by decide +kernel
theorem dX0_countIn_26 : decode cX0_countIn 26 = .ok (.getfield 15, 3) := by decide +kernel
theorem dX0_countIn_29 : decode cX0_countIn 29 = .ok (.iload 4, 2) := by decide +kernel
theorem dX0_countIn_31 : decode cX0_countIn 31 = .ok (.iaload, 1) := by decide +kernel
theorem dX0_countIn_32 : decode cX0_countIn 32 = .ok (.iload_n 2, 1) := by decide +kernel
theorem dX0_countIn_33 : decode cX0_countIn 33 = .ok (.if_icmp .ne 6, 3) := by decide +kernel
theorem dX0_countIn_36 : decode cX0_countIn 36 = .ok (.iinc 3 1, 3) := by decide +kernel
theorem dX0_countIn_39 : decode cX0_countIn 39 = .ok (.iinc 4 1, 3) := by decide +kernel
theorem dX0_countIn_42 : decode cX0_countIn 42 = .ok (.goto (-37), 3) := by decide +kernel
theorem dX0_countIn_45 : decode cX0_countIn 45 = .ok (.iload_n 3, 1) := by decide +kernel
theorem dX0_countIn_46 : decode cX0_countIn 46 = .ok (.ireturn, 1) := by decide +kernel
theorem dX0_fall_0 : decode cX0_fall 0 = .ok (.iconst 0, 1) := by decide +kernel
theorem dX0_fall_1 : decode cX0_fall 1 = .ok (.istore_n 2, 1) := by decide +kernel
theorem dX0_fall_2 : decode cX0_fall 2 = .ok (.iconst 0, 1) := by decide +kernel
theorem dX0_fall_3 : decode cX0_fall 3 = .ok (.istore_n 3, 1) := by decide +kernel
theorem dX0_fall_4 : decode cX0_fall 4 = .ok (.iload_n 3, 1) := by decide +kernel
theorem dX0_fall_5 : decode cX0_fall 5 = .ok (.aload_n 0, 1) := by decide +kernel
theorem dX0_fall_6 : decode cX0_fall 6 = .ok (.getfield 28, 3) := by decide +kernel
theorem dX0_fall_9 : decode cX0_fall 9 = .ok (.if_icmp .ge 125, 3) := by decide +kernel
theorem dX0_fall_12 : decode cX0_fall 12 = .ok (.iload_n 1, 1) := by decide +kernel
theorem dX0_fall_13 : decode cX0_fall 13 = .ok (.ifCond .eq 35, 3) := by decide +kernel
theorem dX0_fall_16 : decode cX0_fall 16 = .ok (.aload_n 0, 1) := by decide +kernel
theorem dX0_fall_17 : decode cX0_fall 17 = .ok (.getfield 15, 3) := by decide +kernel
theorem dX0_fall_20 : decode cX0_fall 20 = .ok (.iload_n 3, 1) := by decide +kernel
theorem dX0_fall_21 : decode cX0_fall 21 = .ok (.iaload, 1) := by decide +kernel
theorem dX0_fall_22 : decode cX0_fall 22 = .ok (.aload_n 0, 1) := by decide +kernel
theorem dX0_fall_23 : decode cX0_fall 23 = .ok (.getfield 18, 3) := by decide +kernel
theorem dX0_fall_26 : decode cX0_fall 26 = .ok (.iload_n 3, 1) := by decide +kernel
theorem dX0_fall_27 : decode cX0_fall 27 = .ok (.iaload, 1) := by decide +kernel
theorem dX0_fall_28 : decode cX0_fall 28 = .ok (.iadd, 1) := by decide +kernel
theorem dX0_fall_29 : decode cX0_fall 29 = .ok (.invokestatic 36, 3) := by decide +kernel
theorem dX0_fall_32 : decode cX0_fall 32 = .ok (.ifCond .ne 16, 3) := by decide +kernel
theorem dX0_fall_35 : decode cX0_fall 35 = .ok (.aload_n 0, 1) := by decide +kernel
theorem dX0_fall_36 : decode cX0_fall 36 = .ok (.getfield 18, 3) := by decide +kernel
theorem dX0_fall_39 : decode cX0_fall 39 = .ok (.iload_n 3, 1) := by decide +kernel
theorem dX0_fall_40 : decode cX0_fall 40 = .ok (.aload_n 0, 1) := by decide +kernel
theorem dX0_fall_41 : decode cX0_fall 41 = .ok (.getfield 18, 3) := by decide +kernel
theorem dX0_fall_44 : decode cX0_fall 44 = .ok (.iload_n 3, 1) := by decide +kernel
theorem dX0_fall_45 : decode cX0_fall 45 = .ok (.iaload, 1) := by decide +kernel
theorem dX0_fall_46 : decode cX0_fall 46 = .ok (.ineg, 1) := by decide +kernel
theorem dX0_fall_47 : decode cX0_fall 47 = .ok (.iastore, 1) := by decide +kernel
theorem dX0_fall_48 : decode cX0_fall 48 = .ok (.aload_n 0, 1) := by decide +kernel
theorem dX0_fall_49 : decode cX0_fall 49 = .ok (.getfield 9, 3) := by decide +kernel
theorem dX0_fall_52 : decode cX0_fall 52 = .ok (.iload_n 3, 1) := by decide +kernel
theorem dX0_fall_53 : decode cX0_fall 53 = .ok (.dup2, 1) := by decide +kernel
theorem dX0_fall_54 : decode cX0_fall 54 = .ok (.iaload, 1) := by decide +kernel
theorem dX0_fall_55 : decode cX0_fall 55 = .ok (.iconst 1, 1) := by decide +kernel
theorem dX0_fall_56 : decode cX0_fall 56 = .ok (.iadd, 1) := by decide +kernel
theorem dX0_fall_57 : decode cX0_fall 57 = .ok (.iastore, 1) := by decide +kernel
theorem dX0_fall_58 : decode cX0_fall 58 = .ok (.aload_n 0, 1) := by decide +kernel
theorem dX0_fall_59 : decode cX0_fall 59 = .ok (.getfield 15, 3) := by decide +kernel
theorem dX0_fall_62 : decode cX0_fall 62 = .ok (.iload_n 3, 1) := by decide +kernel
theorem dX0_fall_63 : decode cX0_fall 63 = .ok (.dup2, 1) := by decide +kernel
theorem dX0_fall_64 : decode cX0_fall 64 = .ok (.iaload, 1) := by decide +kernel
theorem dX0_fall_65 : decode cX0_fall 65 = .ok (.aload_n 0, 1) := by decide +kernel
theorem dX0_fall_66 : decode cX0_fall 66 = .ok (.getfield 18, 3) := by decide +kernel
theorem dX0_fall_69 : decode cX0_fall 69 = .ok (.iload_n 3, 1) := by decide +kernel
theorem dX0_fall_70 : decode cX0_fall 70 = .ok (.iaload, 1) := by decide +kernel
theorem dX0_fall_71 : decode cX0_fall 71 = .ok (.iadd, 1) := by decide +kernel
theorem dX0_fall_72 : decode cX0_fall 72 = .ok (.iastore, 1) := by decide +kernel
theorem dX0_fall_73 : decode cX0_fall 73 = .ok (.aload_n 0, 1) := by decide +kernel
theorem dX0_fall_74 : decode cX0_fall 74 = .ok (.getfield 21, 3) := by decide +kernel
theorem dX0_fall_77 : decode cX0_fall 77 = .ok (.iload_n 3, 1) := by decide +kernel
theorem dX0_fall_78 : decode cX0_fall 78 = .ok (.baload, 1) := by decide +kernel
theorem dX0_fall_79 : decode cX0_fall 79 = .ok (.ifCond .eq 16, 3) := by decide +kernel
theorem dX0_fall_82 : decode cX0_fall 82 = .ok (.aload_n 0, 1) := by decide +kernel
theorem dX0_fall_83 : decode cX0_fall 83 = .ok (.getfield 18, 3) := by decide +kernel
theorem dX0_fall_86 : decode cX0_fall 86 = .ok (.iload_n 3, 1) := by decide +kernel
theorem dX0_fall_87 : decode cX0_fall 87 = .ok (.aload_n 0, 1) := by decide +kernel
theorem dX0_fall_88 : decode cX0_fall 88 = .ok (.getfield 18, 3) := by decide +kernel
theorem dX0_fall_91 : decode cX0_fall 91 = .ok (.iload_n 3, 1) := by decide +kernel
theorem dX0_fall_92 : decode cX0_fall 92 = .ok (.iaload, 1) := by decide +kernel
theorem dX0_fall_93 : decode cX0_fall 93 = .ok (.ineg, 1) := by decide +kernel
theorem dX0_fall_94 : decode cX0_fall 94 = .ok (.iastore, 1) := by decide +kernel
theorem dX0_fall_95 : decode cX0_fall 95 = .ok (.aload_n 0, 1) := by decide +kernel
theorem dX0_fall_96 : decode cX0_fall 96 = .ok (.getfield 9, 3) := by decide +kernel
theorem dX0_fall_99 : decode cX0_fall 99 = .ok (.iload_n 3, 1) := by decide +kernel
theorem dX0_fall_100 : decode cX0_fall 100 = .ok (.iaload, 1) := by decide +kernel
theorem dX0_fall_101 : decode cX0_fall 101 = .ok (.bipush 11, 2) := by decide +kernel
theorem dX0_fall_103 : decode cX0_fall 103 = .ok (.if_icmp .gt 25, 3) := by decide +kernel
theorem dX0_fall_106 : decode cX0_fall 106 = .ok (.aload_n 0, 1) := by decide +kernel
theorem dX0_fall_107 : decode cX0_fall 107 = .ok (.getfield 15, 3) := by decide +kernel
theorem dX0_fall_110 : decode cX0_fall 110 = .ok (.iload_n 3, 1) := by decide +kernel
theorem dX0_fall_111 : decode cX0_fall 111 = .ok (.iaload, 1) := by decide +kernel
theorem dX0_fall_112 : decode cX0_fall 112 = .ok (.invokestatic 36, 3) := by decide +kernel
theorem dX0_fall_115 : decode cX0_fall 115 = .ok (.ifCond .eq 13, 3) := by decide +kernel
theorem dX0_fall_118 : decode cX0_fall 118 = .ok (.aload_n 0, 1) := by decide +kernel
theorem dX0_fall_119 : decode cX0_fall 119 = .ok (.iload_n 2, 1) := by decide +kernel
theorem dX0_fall_120 : decode cX0_fall 120 = .ok (.aload_n 0, 1) := by decide +kernel
theorem dX0_fall_121 : decode cX0_fall 121 = .ok (.iload_n 3, 1) := by decide +kernel
theorem dX0_fall_122 : decode cX0_fall 122 = .ok (.invokevirtual 32, 3) := by decide +kernel
theorem dX0_fall_125 : decode cX0_fall 125 = .ok (.iinc 2 1, 3) := by decide +kernel
theorem dX0_fall_128 : decode cX0_fall 128 = .ok (.iinc 3 1, 3) := by decide +kernel
theorem dX0_fall_131 : decode cX0_fall 131 = .ok (.goto (-127), 3) := by decide +kernel
theorem dX0_fall_134 : decode cX0_fall 134 = .ok (.aload_n 0, 1) := by decide +kernel
theorem dX0_fall_135 : decode cX0_fall 135 = .ok (.iload_n 2, 1) := by decide +kernel
theorem dX0_fall_136 : decode cX0_fall 136 = .ok (.invokevirtual 40, 3) := by decide +kernel
theorem dX0_fall_139 : decode cX0_fall 139 = .ok (.ireturn, 1) := by decide +kernel
theorem dX0_takeAround_0 : decode cX0_takeAround 0 = .ok (.iconst 0, 1) := by decide +kernel
theorem dX0_takeAround_1 : decode cX0_takeAround 1 = .ok (.istore_n 3, 1) := by decide +kernel
theorem dX0_takeAround_2 : decode cX0_takeAround 2 = .ok (.iconst 0, 1) := by decide +kernel
theorem dX0_takeAround_3 : decode cX0_takeAround 3 = .ok (.istore 4, 2) := by decide +kernel
theorem dX0_takeAround_5 : decode cX0_takeAround 5 = .ok (.iload 4, 2) := by decide +kernel
theorem dX0_takeAround_7 : decode cX0_takeAround 7 = .ok (.aload_n 0, 1) := by decide +kernel
theorem dX0_takeAround_8 : decode cX0_takeAround 8 = .ok (.getfield 28, 3) := by decide +kernel
theorem dX0_takeAround_11 : decode cX0_takeAround 11 = .ok (.if_icmp .ge 62, 3) := by decide +kernel
theorem dX0_takeAround_14 : decode cX0_takeAround 14 = .ok (.aload_n 0, 1) := by decide +kernel
theorem dX0_takeAround_15 : decode cX0_takeAround 15 = .ok (.getfield 9, 3) := by decide +kernel
theorem dX0_takeAround_18 : decode cX0_takeAround 18 = .ok (.iload 4, 2) := by decide +kernel
theorem dX0_takeAround_20 : decode cX0_takeAround 20 = .ok (.iaload, 1) := by decide +kernel
theorem dX0_takeAround_21 : decode cX0_takeAround 21 = .ok (.bipush 11, 2) := by decide +kernel
theorem dX0_takeAround_23 : decode cX0_takeAround 23 = .ok (.iload_n 2, 1) := by decide +kernel
theorem dX0_takeAround_24 : decode cX0_takeAround 24 = .ok (.isub, 1) := by decide +kernel
theorem dX0_takeAround_25 : decode cX0_takeAround 25 = .ok (.if_icmp .lt 7, 3) := by decide +kernel
theorem dX0_takeAround_28 : decode cX0_takeAround 28 = .ok (.iconst 1, 1) := by decide +kernel
theorem dX0_takeAround_29 : decode cX0_takeAround 29 = .ok (.goto 4, 3) := by decide +kernel
theorem dX0_takeAround_32 : decode cX0_takeAround 32 = .ok (.iconst 0, 1) := by decide +kernel
theorem dX0_takeAround_33 : decode cX0_takeAround 33 = .ok (.istore 5, 2) := by decide +kernel
theorem dX0_takeAround_35 : decode cX0_takeAround 35 = .ok (.iload 5, 2) := by decide +kernel
theorem dX0_takeAround_37 : decode cX0_takeAround 37 = .ok (.ifCond .eq 19, 3) := by decide +kernel
theorem dX0_takeAround_40 : decode cX0_takeAround 40 = .ok (.aload_n 0, 1) := by decide +kernel
theorem dX0_takeAround_41 : decode cX0_takeAround 41 = .ok (.getfield 15, 3) := by decide +kernel
theorem dX0_takeAround_44 : decode cX0_takeAround 44 = .ok (.iload 4, 2) := by decide +kernel
theorem dX0_takeAround_46 : decode cX0_takeAround 46 = .ok (.iaload, 1) := by decide +kernel
theorem dX0_takeAround_47 : decode cX0_takeAround 47 = .ok (.iload_n 1, 1) := by decide +kernel
theorem dX0_takeAround_48 : decode cX0_takeAround 48 = .ok (.isub, 1) := by decide +kernel
theorem dX0_takeAround_49 : decode cX0_takeAround 49 = .ok (.invokestatic 44, 3) := by decide +kernel
theorem dX0_takeAround_52 : decode cX0_takeAround 52 = .ok (.iload_n 2, 1) := by decide +kernel
theorem dX0_takeAround_53 : decode cX0_takeAround 53 = .ok (.if_icmp .le 14, 3) := by decide +kernel
theorem dX0_takeAround_56 : decode cX0_takeAround 56 = .ok (.aload_n 0, 1) := by decide +kernel
theorem dX0_takeAround_57 : decode cX0_takeAround 57 = .ok (.iload_n 3, 1) := by decide +kernel
theorem dX0_takeAround_58 : decode cX0_takeAround 58 = .ok (.aload_n 0, 1) := by decide +kernel
theorem dX0_takeAround_59 : decode cX0_takeAround 59 = .ok (.iload 4, 2) := by decide +kernel
theorem dX0_takeAround_61 : decode cX0_takeAround 61 = .ok (.invokevirtual 32, 3) := by decide +kernel
theorem dX0_takeAround_64 : decode cX0_takeAround 64 = .ok (.iinc 3 1, 3) := by decide +kernel
theorem dX0_takeAround_67 : decode cX0_takeAround 67 = .ok (.iinc 4 1, 3) := by decide +kernel
theorem dX0_takeAround_70 : decode cX0_takeAround 70 = .ok (.goto (-65), 3) := by decide +kernel
theorem dX0_takeAround_73 : decode cX0_takeAround 73 = .ok (.aload_n 0, 1) := by decide +kernel
theorem dX0_takeAround_74 : decode cX0_takeAround 74 = .ok (.iload_n 3, 1) := by decide +kernel
theorem dX0_takeAround_75 : decode cX0_takeAround 75 = .ok (.invokevirtual 40, 3) := by decide +kernel
theorem dX0_takeAround_78 : decode cX0_takeAround 78 = .ok (.ireturn, 1) := by decide +kernel
theorem dX0_grazeBeside_0 : decode cX0_grazeBeside 0 = .ok (.iconst 0, 1) := by decide +kernel
theorem dX0_grazeBeside_1 : decode cX0_grazeBeside 1 = .ok (.istore_n 2, 1) := by decide +kernel
theorem dX0_grazeBeside_2 : decode cX0_grazeBeside 2 = .ok (.iconst 0, 1) := by decide +kernel
theorem dX0_grazeBeside_3 : decode cX0_grazeBeside 3 = .ok (.istore_n 3, 1) := by decide +kernel
theorem dX0_grazeBeside_4 : decode cX0_grazeBeside 4 = .ok (.iload_n 3, 1) := by decide +kernel
theorem dX0_grazeBeside_5 : decode cX0_grazeBeside 5 = .ok (.aload_n 0, 1) := by decide +kernel
theorem dX0_grazeBeside_6 : decode cX0_grazeBeside 6 = .ok (.getfield 28, 3) := by decide +kernel
theorem dX0_grazeBeside_9 : decode cX0_grazeBeside 9 = .ok (.if_icmp .ge 37, 3) := by decide +kernel
theorem dX0_grazeBeside_12 : decode cX0_grazeBeside 12 = .ok (.aload_n 0, 1) := by decide +kernel
theorem dX0_grazeBeside_13 : decode cX0_grazeBeside 13 = .ok (.getfield 25, 3) := by decide +kernel
theorem dX0_grazeBeside_16 : decode cX0_grazeBeside 16 = .ok (.iload_n 3, 1) := by decide +kernel
theorem dX0_grazeBeside_17 : decode cX0_grazeBeside 17 = .ok (.baload, 1) := by decide +kernel
theorem dX0_grazeBeside_18 : decode cX0_grazeBeside 18 = .ok (.ifCond .ne 22, 3) := by decide +kernel
theorem dX0_grazeBeside_21 : decode cX0_grazeBeside 21 = .ok (.aload_n 0, 1) := by decide +kernel
theorem dX0_grazeBeside_22 : decode cX0_grazeBeside 22 = .ok (.iload_n 3, 1) := by decide +kernel
theorem dX0_grazeBeside_23 : decode cX0_grazeBeside 23 = .ok (.iload_n 1, 1) := by decide +kernel
theorem dX0_grazeBeside_24 : decode cX0_grazeBeside 24 = .ok (.invokevirtual 49, 3) := by decide +kernel
theorem dX0_grazeBeside_27 : decode cX0_grazeBeside 27 = .ok (.ifCond .eq 13, 3) := by decide +kernel
theorem dX0_grazeBeside_30 : decode cX0_grazeBeside 30 = .ok (.aload_n 0, 1) := by decide +kernel
theorem dX0_grazeBeside_31 : decode cX0_grazeBeside 31 = .ok (.getfield 25, 3) := by decide +kernel
theorem dX0_grazeBeside_34 : decode cX0_grazeBeside 34 = .ok (.iload_n 3, 1) := by decide +kernel
theorem dX0_grazeBeside_35 : decode cX0_grazeBeside 35 = .ok (.iconst 1, 1) := by decide +kernel
theorem dX0_grazeBeside_36 : decode cX0_grazeBeside 36 = .ok (.bastore, 1) := by decide +kernel
theorem dX0_grazeBeside_37 : decode cX0_grazeBeside 37 = .ok (.iinc 2 1, 3) := by decide +kernel
theorem dX0_grazeBeside_40 : decode cX0_grazeBeside 40 = .ok (.iinc 3 1, 3) := by decide +kernel
theorem dX0_grazeBeside_43 : decode cX0_grazeBeside 43 = .ok (.goto (-39), 3) := by decide +kernel
theorem dX0_grazeBeside_46 : decode cX0_grazeBeside 46 = .ok (.iload_n 2, 1) := by decide +kernel
theorem dX0_grazeBeside_47 : decode cX0_grazeBeside 47 = .ok (.ireturn, 1) := by decide +kernel
theorem dX0_isBeside_0 : decode cX0_isBeside 0 = .ok (.aload_n 0, 1) := by decide +kernel
theorem dX0_isBeside_1 : decode cX0_isBeside 1 = .ok (.getfield 15, 3) := by decide +kernel
theorem dX0_isBeside_4 : decode cX0_isBeside 4 = .ok (.iload_n 1, 1) := by decide +kernel
theorem dX0_isBeside_5 : decode cX0_isBeside 5 = .ok (.iaload, 1) := by decide +kernel
theorem dX0_isBeside_6 : decode cX0_isBeside 6 = .ok (.iload_n 2, 1) := by decide +kernel
theorem dX0_isBeside_7 : decode cX0_isBeside 7 = .ok (.isub, 1) := by decide +kernel
theorem dX0_isBeside_8 : decode cX0_isBeside 8 = .ok (.invokestatic 44, 3) := by decide +kernel
theorem dX0_isBeside_11 : decode cX0_isBeside 11 = .ok (.istore_n 3, 1) := by decide +kernel
theorem dX0_isBeside_12 : decode cX0_isBeside 12 = .ok (.aload_n 0, 1) := by decide +kernel
theorem dX0_isBeside_13 : decode cX0_isBeside 13 = .ok (.getfield 9, 3) := by decide +kernel
theorem dX0_isBeside_16 : decode cX0_isBeside 16 = .ok (.iload_n 1, 1) := by decide +kernel
theorem dX0_isBeside_17 : decode cX0_isBeside 17 = .ok (.iaload, 1) := by decide +kernel
theorem dX0_isBeside_18 : decode cX0_isBeside 18 = .ok (.bipush 11, 2) := by decide +kernel
theorem dX0_isBeside_20 : decode cX0_isBeside 20 = .ok (.if_icmp .ne 14, 3) := by decide +kernel
theorem dX0_isBeside_23 : decode cX0_isBeside 23 = .ok (.iload_n 3, 1) := by decide +kernel
theorem dX0_isBeside_24 : decode cX0_isBeside 24 = .ok (.iconst 1, 1) := by decide +kernel
theorem dX0_isBeside_25 : decode cX0_isBeside 25 = .ok (.if_icmp .ne 7, 3) := by decide +kernel
theorem dX0_isBeside_28 : decode cX0_isBeside 28 = .ok (.iconst 1, 1) := by decide +kernel
theorem dX0_isBeside_29 : decode cX0_isBeside 29 = .ok (.goto 4, 3) := by decide +kernel
theorem dX0_isBeside_32 : decode cX0_isBeside 32 = .ok (.iconst 0, 1) := by decide +kernel
theorem dX0_isBeside_33 : decode cX0_isBeside 33 = .ok (.ireturn, 1) := by decide +kernel
theorem dX0_isBeside_34 : decode cX0_isBeside 34 = .ok (.aload_n 0, 1) := by decide +kernel
theorem dX0_isBeside_35 : decode cX0_isBeside 35 = .ok (.getfield 9, 3) := by decide +kernel
theorem dX0_isBeside_38 : decode cX0_isBeside 38 = .ok (.iload_n 1, 1) := by decide +kernel
theorem dX0_isBeside_39 : decode cX0_isBeside 39 = .ok (.iaload, 1) := by decide +kernel
theorem dX0_isBeside_40 : decode cX0_isBeside 40 = .ok (.bipush 10, 2) := by decide +kernel
theorem dX0_isBeside_42 : decode cX0_isBeside 42 = .ok (.if_icmp .ne 12, 3) := by decide +kernel
theorem dX0_isBeside_45 : decode cX0_isBeside 45 = .ok (.iload_n 3, 1) := by decide +kernel
theorem dX0_isBeside_46 : decode cX0_isBeside 46 = .ok (.iconst 1, 1) := by decide +kernel
theorem dX0_isBeside_47 : decode cX0_isBeside 47 = .ok (.if_icmp .gt 7, 3) := by decide +kernel
theorem dX0_isBeside_50 : decode cX0_isBeside 50 = .ok (.iconst 1, 1) := by decide +kernel
theorem dX0_isBeside_51 : decode cX0_isBeside 51 = .ok (.goto 4, 3) := by decide +kernel
theorem dX0_isBeside_54 : decode cX0_isBeside 54 = .ok (.iconst 0, 1) := by decide +kernel
theorem dX0_isBeside_55 : decode cX0_isBeside 55 = .ok (.ireturn, 1) := by decide +kernel
theorem dX0_freeColumns_0 : decode cX0_freeColumns 0 = .ok (.sipush 1023, 3) := by decide +kernel
theorem dX0_freeColumns_3 : decode cX0_freeColumns 3 = .ok (.istore_n 1, 1) := by decide +kernel
theorem dX0_freeColumns_4 : decode cX0_freeColumns 4 = .ok (.iconst 0, 1) := by decide +kernel
theorem dX0_freeColumns_5 : decode cX0_freeColumns 5 = .ok (.istore_n 2, 1) := by decide +kernel
theorem dX0_freeColumns_6 : decode cX0_freeColumns 6 = .ok (.iload_n 2, 1) := by decide +kernel
theorem dX0_freeColumns_7 : decode cX0_freeColumns 7 = .ok (.aload_n 0, 1) := by decide +kernel
theorem dX0_freeColumns_8 : decode cX0_freeColumns 8 = .ok (.getfield 28, 3) := by decide +kernel
theorem dX0_freeColumns_11 : decode cX0_freeColumns 11 = .ok (.if_icmp .ge 33, 3) := by decide +kernel
theorem dX0_freeColumns_14 : decode cX0_freeColumns 14 = .ok (.aload_n 0, 1) := by decide +kernel
theorem dX0_freeColumns_15 : decode cX0_freeColumns 15 = .ok (.getfield 9, 3) := by decide +kernel
theorem dX0_freeColumns_18 : decode cX0_freeColumns 18 = .ok (.iload_n 2, 1) := by decide +kernel
theorem dX0_freeColumns_19 : decode cX0_freeColumns 19 = .ok (.iaload, 1) := by decide +kernel
theorem dX0_freeColumns_20 : decode cX0_freeColumns 20 = .ok (.bipush 11, 2) := by decide +kernel
theorem dX0_freeColumns_22 : decode cX0_freeColumns 22 = .ok (.if_icmp .ne 16, 3) := by decide +kernel
theorem dX0_freeColumns_25 : decode cX0_freeColumns 25 = .ok (.iload_n 1, 1) := by decide +kernel
theorem dX0_freeColumns_26 : decode cX0_freeColumns 26 = .ok (.iconst 1, 1) := by decide +kernel
theorem dX0_freeColumns_27 : decode cX0_freeColumns 27 = .ok (.aload_n 0, 1) := by decide +kernel
theorem dX0_freeColumns_28 : decode cX0_freeColumns 28 = .ok (.getfield 15, 3) := by decide +kernel
theorem dX0_freeColumns_31 : decode cX0_freeColumns 31 = .ok (.iload_n 2, 1) := by decide +kernel
theorem dX0_freeColumns_32 : decode cX0_freeColumns 32 = .ok (.iaload, 1) := by decide +kernel
theorem dX0_freeColumns_33 : decode cX0_freeColumns 33 = .ok (.ishl, 1) := by decide +kernel
theorem dX0_freeColumns_34 : decode cX0_freeColumns 34 = .ok (.iconst (-1), 1) := by decide +kernel
theorem dX0_freeColumns_35 : decode cX0_freeColumns 35 = .ok (.ixor, 1) := by decide +kernel
theorem dX0_freeColumns_36 : decode cX0_freeColumns 36 = .ok (.iand, 1) := by decide +kernel
theorem dX0_freeColumns_37 : decode cX0_freeColumns 37 = .ok (.istore_n 1, 1) := by decide +kernel
theorem dX0_freeColumns_38 : decode cX0_freeColumns 38 = .ok (.iinc 2 1, 3) := by decide +kernel
theorem dX0_freeColumns_41 : decode cX0_freeColumns 41 = .ok (.goto (-35), 3) := by decide +kernel
theorem dX0_freeColumns_44 : decode cX0_freeColumns 44 = .ok (.iload_n 1, 1) := by decide +kernel
theorem dX0_freeColumns_45 : decode cX0_freeColumns 45 = .ok (.ireturn, 1) := by decide +kernel
theorem dX0_keepOnly_0 : decode cX0_keepOnly 0 = .ok (.aload_n 0, 1) := by decide +kernel
theorem dX0_keepOnly_1 : decode cX0_keepOnly 1 = .ok (.getfield 28, 3) := by decide +kernel
theorem dX0_keepOnly_4 : decode cX0_keepOnly 4 = .ok (.iload_n 1, 1) := by decide +kernel
theorem dX0_keepOnly_5 : decode cX0_keepOnly 5 = .ok (.isub, 1) := by decide +kernel
theorem dX0_keepOnly_6 : decode cX0_keepOnly 6 = .ok (.istore_n 2, 1) := by decide +kernel
theorem dX0_keepOnly_7 : decode cX0_keepOnly 7 = .ok (.aload_n 0, 1) := by decide +kernel
theorem dX0_keepOnly_8 : decode cX0_keepOnly 8 = .ok (.iload_n 1, 1) := by decide +kernel
theorem dX0_keepOnly_9 : decode cX0_keepOnly 9 = .ok (.putfield 28, 3) := by decide +kernel
theorem dX0_keepOnly_12 : decode cX0_keepOnly 12 = .ok (.iload_n 2, 1) := by decide +kernel
theorem dX0_keepOnly_13 : decode cX0_keepOnly 13 = .ok (.ireturn, 1) := by decide +kernel
theorem dX1_init_0 : decode cX1_init 0 = .ok (.aload_n 0, 1) := by decide +kernel
theorem dX1_init_1 : decode cX1_init 1 = .ok (.invokespecial 3, 3) := by decide +kernel
theorem dX1_init_4 : decode cX1_init 4 = .ok (.aload_n 0, 1) := by decide +kernel
theorem dX1_init_5 : decode cX1_init 5 = .ok (.new 9, 3) := by decide +kernel
theorem dX1_init_8 : decode cX1_init 8 = .ok (.dup, 1) := by decide +kernel
theorem dX1_init_9 : decode cX1_init 9 = .ok (.invokespecial 11, 3) := by decide +kernel
theorem dX1_init_12 : decode cX1_init 12 = .ok (.putfield 12, 3) := by decide +kernel
theorem dX1_init_15 : decode cX1_init 15 = .ok (.aload_n 0, 1) := by decide +kernel
theorem dX1_init_16 : decode cX1_init 16 = .ok (.iconst 0, 1) := by decide +kernel
theorem dX1_init_17 : decode cX1_init 17 = .ok (.putfield 18, 3) := by decide +kernel
theorem dX1_init_20 : decode cX1_init 20 = .ok (.aload_n 0, 1) := by decide +kernel
theorem dX1_init_21 : decode cX1_init 21 = .ok (.iconst 0, 1) := by decide +kernel
theorem dX1_init_22 : decode cX1_init 22 = .ok (.putfield 22, 3) := by decide +kernel
theorem dX1_init_25 : decode cX1_init 25 = .ok (.aload_n 0, 1) := by decide +kernel
theorem dX1_init_26 : decode cX1_init 26 = .ok (.iconst 0, 1) := by decide +kernel
theorem dX1_init_27 : decode cX1_init 27 = .ok (.putfield 25, 3) := by decide +kernel
theorem dX1_init_30 : decode cX1_init 30 = .ok (.return_, 1) := by decide +kernel
theorem dX1_faultIn_0 : decode cX1_faultIn 0 = .ok (.aload_n 0, 1) := by decide +kernel
theorem dX1_faultIn_1 : decode cX1_faultIn 1 = .ok (.getfield 12, 3) := by decide +kernel
theorem dX1_faultIn_4 : decode cX1_faultIn 4 = .ok (.iconst 0, 1) := by decide +kernel
theorem dX1_faultIn_5 : decode cX1_faultIn 5 = .ok (.putfield 28, 3) := by decide +kernel
theorem dX1_faultIn_8 : decode cX1_faultIn 8 = .ok (.aload_n 0, 1) := by decide +kernel
theorem dX1_faultIn_9 : decode cX1_faultIn 9 = .ok (.iconst 0, 1) := by decide +kernel
theorem dX1_faultIn_10 : decode cX1_faultIn 10 = .ok (.putfield 18, 3) := by decide +kernel
theorem dX1_faultIn_13 : decode cX1_faultIn 13 = .ok (.iconst 0, 1) := by decide +kernel
theorem dX1_faultIn_14 : decode cX1_faultIn 14 = .ok (.istore_n 2, 1) := by decide +kernel
theorem dX1_faultIn_15 : decode cX1_faultIn 15 = .ok (.iload_n 2, 1) := by decide +kernel
theorem dX1_faultIn_16 : decode cX1_faultIn 16 = .ok (.aload_n 1, 1) := by decide +kernel
theorem dX1_faultIn_17 : decode cX1_faultIn 17 = .ok (.getfield 31, 3) := by decide +kernel
theorem dX1_faultIn_20 : decode cX1_faultIn 20 = .ok (.if_icmp .ge 24, 3) := by decide +kernel
theorem dX1_faultIn_23 : decode cX1_faultIn 23 = .ok (.aload_n 0, 1) := by decide +kernel
theorem dX1_faultIn_24 : decode cX1_faultIn 24 = .ok (.aload_n 1, 1) := by decide +kernel
theorem dX1_faultIn_25 : decode cX1_faultIn 25 = .ok (.getfield 36, 3) := by decide +kernel
theorem dX1_faultIn_28 : decode cX1_faultIn 28 = .ok (.iload_n 2, 1) := by decide +kernel
theorem dX1_faultIn_29 : decode cX1_faultIn 29 = .ok (.iaload, 1) := by decide +kernel
theorem dX1_faultIn_30 : decode cX1_faultIn 30 = .ok (.invokevirtual 40, 3) := by decide +kernel
theorem dX1_faultIn_33 : decode cX1_faultIn 33 = .ok (.ifCond .ne 5, 3) := by decide +kernel
theorem dX1_faultIn_36 : decode cX1_faultIn 36 = .ok (.iload_n 2, 1) := by decide +kernel
theorem dX1_faultIn_37 : decode cX1_faultIn 37 = .ok (.ireturn, 1) := by decide +kernel
theorem dX1_faultIn_38 : decode cX1_faultIn 38 = .ok (.iinc 2 1, 3) := by decide +kernel
theorem dX1_faultIn_41 : decode cX1_faultIn 41 = .ok (.goto (-26), 3) := by decide +kernel
theorem dX1_faultIn_44 : decode cX1_faultIn 44 = .ok (.aload_n 0, 1) := by decide +kernel
theorem dX1_faultIn_45 : decode cX1_faultIn 45 = .ok (.getfield 18, 3) := by decide +kernel
theorem dX1_faultIn_48 : decode cX1_faultIn 48 = .ok (.iconst 3, 1) := by decide +kernel
theorem dX1_faultIn_49 : decode cX1_faultIn 49 = .ok (.if_icmp .eq 11, 3) := by decide +kernel
theorem dX1_faultIn_52 : decode cX1_faultIn 52 = .ok (.aload_n 0, 1) := by decide +kernel
theorem dX1_faultIn_53 : decode cX1_faultIn 53 = .ok (.getfield 18, 3) := by decide +kernel
theorem dX1_faultIn_56 : decode cX1_faultIn 56 = .ok (.iconst 5, 1) := by decide +kernel
theorem dX1_faultIn_57 : decode cX1_faultIn 57 = .ok (.if_icmp .ne 8, 3) := by decide +kernel
theorem dX1_faultIn_60 : decode cX1_faultIn 60 = .ok (.bipush (-4), 2) := by decide +kernel
theorem dX1_faultIn_62 : decode cX1_faultIn 62 = .ok (.goto 7, 3) := by decide +kernel
theorem dX1_faultIn_65 : decode cX1_faultIn 65 = .ok (.aload_n 1, 1) := by decide +kernel
theorem dX1_faultIn_66 : decode cX1_faultIn 66 = .ok (.getfield 31, 3) := by decide +kernel
theorem dX1_faultIn_69 : decode cX1_faultIn 69 = .ok (.ireturn, 1) := by decide +kernel
theorem dX1_takes_0 : decode cX1_takes 0 = .ok (.aload_n 0, 1) := by decide +kernel
theorem dX1_takes_1 : decode cX1_takes 1 = .ok (.getfield 18, 3) := by decide +kernel
theorem dX1_takes_4 : decode cX1_takes 4 = .ok (.tableswitch 72 0 4 #[36, 45, 54, 72, 63], 36) := by decide +kernel
theorem dX1_takes_40 : decode cX1_takes 40 = .ok (.aload_n 0, 1) := by decide +kernel
theorem dX1_takes_41 : decode cX1_takes 41 = .ok (.iload_n 1, 1) := by decide +kernel
theorem dX1_takes_42 : decode cX1_takes 42 = .ok (.bipush 48, 2) := by decide +kernel
theorem dX1_takes_44 : decode cX1_takes 44 = .ok (.isub, 1) := by decide +kernel
theorem dX1_takes_45 : decode cX1_takes 45 = .ok (.invokevirtual 44, 3) := by decide +kernel
theorem dX1_takes_48 : decode cX1_takes 48 = .ok (.ireturn, 1) := by decide +kernel
theorem dX1_takes_49 : decode cX1_takes 49 = .ok (.aload_n 0, 1) := by decide +kernel
theorem dX1_takes_50 : decode cX1_takes 50 = .ok (.iload_n 1, 1) := by decide +kernel
theorem dX1_takes_51 : decode cX1_takes 51 = .ok (.invokestatic 47, 3) := by decide +kernel
theorem dX1_takes_54 : decode cX1_takes 54 = .ok (.invokevirtual 51, 3) := by decide +kernel
theorem dX1_takes_57 : decode cX1_takes 57 = .ok (.ireturn, 1) := by decide +kernel
theorem dX1_takes_58 : decode cX1_takes 58 = .ok (.aload_n 0, 1) := by decide +kernel
theorem dX1_takes_59 : decode cX1_takes 59 = .ok (.iload_n 1, 1) := by decide +kernel
theorem dX1_takes_60 : decode cX1_takes 60 = .ok (.bipush 48, 2) := by decide +kernel
theorem dX1_takes_62 : decode cX1_takes 62 = .ok (.isub, 1) := by decide +kernel
theorem dX1_takes_63 : decode cX1_takes 63 = .ok (.invokevirtual 54, 3) := by decide +kernel
theorem dX1_takes_66 : decode cX1_takes 66 = .ok (.ireturn, 1) := by decide +kernel
theorem dX1_takes_67 : decode cX1_takes 67 = .ok (.aload_n 0, 1) := by decide +kernel
theorem dX1_takes_68 : decode cX1_takes 68 = .ok (.iload_n 1, 1) := by decide +kernel
theorem dX1_takes_69 : decode cX1_takes 69 = .ok (.bipush 48, 2) := by decide +kernel
theorem dX1_takes_71 : decode cX1_takes 71 = .ok (.isub, 1) := by decide +kernel
theorem dX1_takes_72 : decode cX1_takes 72 = .ok (.invokevirtual 57, 3) := by decide +kernel
theorem dX1_takes_75 : decode cX1_takes 75 = .ok (.ireturn, 1) := by decide +kernel
theorem dX1_takes_76 : decode cX1_takes 76 = .ok (.aload_n 0, 1) := by decide +kernel
theorem dX1_takes_77 : decode cX1_takes 77 = .ok (.iload_n 1, 1) := by decide +kernel
theorem dX1_takes_78 : decode cX1_takes 78 = .ok (.invokevirtual 60, 3) := by decide +kernel
theorem dX1_takes_81 : decode cX1_takes 81 = .ok (.ireturn, 1) := by decide +kernel
theorem dX1_takesColumn_0 : decode cX1_takesColumn 0 = .ok (.aload_n 0, 1) := by decide +kernel
theorem dX1_takesColumn_1 : decode cX1_takesColumn 1 = .ok (.iload_n 1, 1) := by decide +kernel
theorem dX1_takesColumn_2 : decode cX1_takesColumn 2 = .ok (.putfield 22, 3) := by decide +kernel
theorem dX1_takesColumn_5 : decode cX1_takesColumn 5 = .ok (.aload_n 0, 1) := by decide +kernel
theorem dX1_takesColumn_6 : decode cX1_takesColumn 6 = .ok (.iconst 1, 1) := by decide +kernel
theorem dX1_takesColumn_7 : decode cX1_takesColumn 7 = .ok (.putfield 18, 3) := by decide +kernel
theorem dX1_takesColumn_10 : decode cX1_takesColumn 10 = .ok (.iload_n 1, 1) := by decide +kernel
theorem dX1_takesColumn_11 : decode cX1_takesColumn 11 = .ok (.invokestatic 63, 3) := by decide +kernel
theorem dX1_takesColumn_14 : decode cX1_takesColumn 14 = .ok (.ireturn, 1) := by decide +kernel
theorem dX1_takesPattern_0 : decode cX1_takesPattern 0 = .ok (.aload_n 0, 1) := by decide +kernel
theorem dX1_takesPattern_1 : decode cX1_takesPattern 1 = .ok (.iload_n 1, 1) := by decide +kernel
theorem dX1_takesPattern_2 : decode cX1_takesPattern 2 = .ok (.putfield 25, 3) := by decide +kernel
theorem dX1_takesPattern_5 : decode cX1_takesPattern 5 = .ok (.aload_n 0, 1) := by decide +kernel
theorem dX1_takesPattern_6 : decode cX1_takesPattern 6 = .ok (.iconst 2, 1) := by decide +kernel
theorem dX1_takesPattern_7 : decode cX1_takesPattern 7 = .ok (.putfield 18, 3) := by decide +kernel
theorem dX1_takesPattern_10 : decode cX1_takesPattern 10 = .ok (.iload_n 1, 1) := by decide +kernel
theorem dX1_takesPattern_11 : decode cX1_takesPattern 11 = .ok (.invokestatic 66, 3) := by decide +kernel
theorem dX1_takesPattern_14 : decode cX1_takesPattern 14 = .ok (.ireturn, 1) := by decide +kernel
theorem dX1_takesPeriod_0 : decode cX1_takesPeriod 0 = .ok (.iload_n 1, 1) := by decide +kernel
theorem dX1_takesPeriod_1 : decode cX1_takesPeriod 1 = .ok (.invokestatic 69, 3) := by decide +kernel
theorem dX1_takesPeriod_4 : decode cX1_takesPeriod 4 = .ok (.ifCond .ne 5, 3) := by decide +kernel
theorem dX1_takesPeriod_7 : decode cX1_takesPeriod 7 = .ok (.iconst 0, 1) := by decide +kernel
theorem dX1_takesPeriod_8 : decode cX1_takesPeriod 8 = .ok (.ireturn, 1) := by decide +kernel
theorem dX1_takesPeriod_9 : decode cX1_takesPeriod 9 = .ok (.aload_n 0, 1) := by decide +kernel
theorem dX1_takesPeriod_10 : decode cX1_takesPeriod 10 = .ok (.getfield 12, 3) := by decide +kernel
theorem dX1_takesPeriod_13 : decode cX1_takesPeriod 13 = .ok (.aload_n 0, 1) := by decide +kernel
theorem dX1_takesPeriod_14 : decode cX1_takesPeriod 14 = .ok (.getfield 22, 3) := by decide +kernel
theorem dX1_takesPeriod_17 : decode cX1_takesPeriod 17 = .ok (.aload_n 0, 1) := by decide +kernel
theorem dX1_takesPeriod_18 : decode cX1_takesPeriod 18 = .ok (.getfield 25, 3) := by decide +kernel
theorem dX1_takesPeriod_21 : decode cX1_takesPeriod 21 = .ok (.iload_n 1, 1) := by decide +kernel
theorem dX1_takesPeriod_22 : decode cX1_takesPeriod 22 = .ok (.iconst 0, 1) := by decide +kernel
theorem dX1_takesPeriod_23 : decode cX1_takesPeriod 23 = .ok (.invokevirtual 72, 3) := by decide +kernel
theorem dX1_takesPeriod_26 : decode cX1_takesPeriod 26 = .ok (.aload_n 0, 1) := by decide +kernel
theorem dX1_takesPeriod_27 : decode cX1_takesPeriod 27 = .ok (.iconst 3, 1) := by decide +kernel
theorem dX1_takesPeriod_28 : decode cX1_takesPeriod 28 = .ok (.putfield 18, 3) := by decide +kernel
theorem dX1_takesPeriod_31 : decode cX1_takesPeriod 31 = .ok (.iconst 1, 1) := by decide +kernel
theorem dX1_takesPeriod_32 : decode cX1_takesPeriod 32 = .ok (.ireturn, 1) := by decide +kernel
theorem dX1_takesPhase_0 : decode cX1_takesPhase 0 = .ok (.aload_n 0, 1) := by decide +kernel
theorem dX1_takesPhase_1 : decode cX1_takesPhase 1 = .ok (.getfield 12, 3) := by decide +kernel
theorem dX1_takesPhase_4 : decode cX1_takesPhase 4 = .ok (.getfield 28, 3) := by decide +kernel
theorem dX1_takesPhase_7 : decode cX1_takesPhase 7 = .ok (.iconst 1, 1) := by decide +kernel
theorem dX1_takesPhase_8 : decode cX1_takesPhase 8 = .ok (.isub, 1) := by decide +kernel
theorem dX1_takesPhase_9 : decode cX1_takesPhase 9 = .ok (.istore_n 2, 1) := by decide +kernel
theorem dX1_takesPhase_10 : decode cX1_takesPhase 10 = .ok (.iload_n 2, 1) := by decide +kernel
theorem dX1_takesPhase_11 : decode cX1_takesPhase 11 = .ok (.ifCond .lt 20, 3) := by decide +kernel
theorem dX1_takesPhase_14 : decode cX1_takesPhase 14 = .ok (.iload_n 1, 1) := by decide +kernel
theorem dX1_takesPhase_15 : decode cX1_takesPhase 15 = .ok (.ifCond .lt 16, 3) := by decide +kernel
theorem dX1_takesPhase_18 : decode cX1_takesPhase 18 = .ok (.iload_n 1, 1) := by decide +kernel
theorem dX1_takesPhase_19 : decode cX1_takesPhase 19 = .ok (.aload_n 0, 1) := by decide +kernel
theorem dX1_takesPhase_20 : decode cX1_takesPhase 20 = .ok (.getfield 12, 3) := by decide +kernel
theorem dX1_takesPhase_23 : decode cX1_takesPhase 23 = .ok (.getfield 76, 3) := by decide +kernel
theorem dX1_takesPhase_26 : decode cX1_takesPhase 26 = .ok (.iload_n 2, 1) := by decide +kernel
theorem dX1_takesPhase_27 : decode cX1_takesPhase 27 = .ok (.iaload, 1) := by decide +kernel
theorem dX1_takesPhase_28 : decode cX1_takesPhase 28 = .ok (.if_icmp .lt 5, 3) := by decide +kernel
theorem dX1_takesPhase_31 : decode cX1_takesPhase 31 = .ok (.iconst 0, 1) := by decide +kernel
theorem dX1_takesPhase_32 : decode cX1_takesPhase 32 = .ok (.ireturn, 1) := by decide +kernel
theorem dX1_takesPhase_33 : decode cX1_takesPhase 33 = .ok (.aload_n 0, 1) := by decide +kernel
theorem dX1_takesPhase_34 : decode cX1_takesPhase 34 = .ok (.getfield 12, 3) := by decide +kernel
theorem dX1_takesPhase_37 : decode cX1_takesPhase 37 = .ok (.getfield 79, 3) := by decide +kernel
theorem dX1_takesPhase_40 : decode cX1_takesPhase 40 = .ok (.iload_n 2, 1) := by decide +kernel
theorem dX1_takesPhase_41 : decode cX1_takesPhase 41 = .ok (.iload_n 1, 1) := by decide +kernel
theorem dX1_takesPhase_42 : decode cX1_takesPhase 42 = .ok (.iastore, 1) := by decide +kernel
theorem dX1_takesPhase_43 : decode cX1_takesPhase 43 = .ok (.aload_n 0, 1) := by decide +kernel
theorem dX1_takesPhase_44 : decode cX1_takesPhase 44 = .ok (.iconst 5, 1) := by decide +kernel
theorem dX1_takesPhase_45 : decode cX1_takesPhase 45 = .ok (.putfield 18, 3) := by decide +kernel
theorem dX1_takesPhase_48 : decode cX1_takesPhase 48 = .ok (.iconst 1, 1) := by decide +kernel
theorem dX1_takesPhase_49 : decode cX1_takesPhase 49 = .ok (.ireturn, 1) := by decide +kernel
theorem dX1_takesMark_0 : decode cX1_takesMark 0 = .ok (.iload_n 1, 1) := by decide +kernel
theorem dX1_takesMark_1 : decode cX1_takesMark 1 = .ok (.bipush 43, 2) := by decide +kernel
theorem dX1_takesMark_3 : decode cX1_takesMark 3 = .ok (.if_icmp .ne 18, 3) := by decide +kernel
theorem dX1_takesMark_6 : decode cX1_takesMark 6 = .ok (.aload_n 0, 1) := by decide +kernel
theorem dX1_takesMark_7 : decode cX1_takesMark 7 = .ok (.getfield 18, 3) := by decide +kernel
theorem dX1_takesMark_10 : decode cX1_takesMark 10 = .ok (.iconst 3, 1) := by decide +kernel
theorem dX1_takesMark_11 : decode cX1_takesMark 11 = .ok (.if_icmp .ne 10, 3) := by decide +kernel
theorem dX1_takesMark_14 : decode cX1_takesMark 14 = .ok (.aload_n 0, 1) := by decide +kernel
theorem dX1_takesMark_15 : decode cX1_takesMark 15 = .ok (.iconst 4, 1) := by decide +kernel
theorem dX1_takesMark_16 : decode cX1_takesMark 16 = .ok (.putfield 18, 3) := by decide +kernel
theorem dX1_takesMark_19 : decode cX1_takesMark 19 = .ok (.iconst 1, 1) := by decide +kernel
theorem dX1_takesMark_20 : decode cX1_takesMark 20 = .ok (.ireturn, 1) := by decide +kernel
theorem dX1_takesMark_21 : decode cX1_takesMark 21 = .ok (.iload_n 1, 1) := by decide +kernel
theorem dX1_takesMark_22 : decode cX1_takesMark 22 = .ok (.bipush 59, 2) := by decide +kernel
theorem dX1_takesMark_24 : decode cX1_takesMark 24 = .ok (.if_icmp .ne 20, 3) := by decide +kernel
theorem dX1_takesMark_27 : decode cX1_takesMark 27 = .ok (.aload_n 0, 1) := by decide +kernel
theorem dX1_takesMark_28 : decode cX1_takesMark 28 = .ok (.getfield 12, 3) := by decide +kernel
theorem dX1_takesMark_31 : decode cX1_takesMark 31 = .ok (.invokevirtual 82, 3) := by decide +kernel
theorem dX1_takesMark_34 : decode cX1_takesMark 34 = .ok (.ifCond .ne 10, 3) := by decide +kernel
theorem dX1_takesMark_37 : decode cX1_takesMark 37 = .ok (.aload_n 0, 1) := by decide +kernel
theorem dX1_takesMark_38 : decode cX1_takesMark 38 = .ok (.iconst 0, 1) := by decide +kernel
theorem dX1_takesMark_39 : decode cX1_takesMark 39 = .ok (.putfield 18, 3) := by decide +kernel
theorem dX1_takesMark_42 : decode cX1_takesMark 42 = .ok (.iconst 1, 1) := by decide +kernel
theorem dX1_takesMark_43 : decode cX1_takesMark 43 = .ok (.ireturn, 1) := by decide +kernel
theorem dX1_takesMark_44 : decode cX1_takesMark 44 = .ok (.iconst 0, 1) := by decide +kernel
theorem dX1_takesMark_45 : decode cX1_takesMark 45 = .ok (.ireturn, 1) := by decide +kernel
theorem dX1_patternOf_0 : decode cX1_patternOf 0 = .ok (.iload_n 0, 1) := by decide +kernel
theorem dX1_patternOf_1 : decode cX1_patternOf 1 = .ok (.lookupswitch 71 #[(97, 67), (100, 59), (102, 69), (108, 61), (114, 63), (119, 65)], 59) := by decide +kernel
theorem dX1_patternOf_60 : decode cX1_patternOf 60 = .ok (.iconst 0, 1) := by decide +kernel
theorem dX1_patternOf_61 : decode cX1_patternOf 61 = .ok (.ireturn, 1) := by decide +kernel
theorem dX1_patternOf_62 : decode cX1_patternOf 62 = .ok (.iconst 1, 1) := by decide +kernel
theorem dX1_patternOf_63 : decode cX1_patternOf 63 = .ok (.ireturn, 1) := by decide +kernel
theorem dX1_patternOf_64 : decode cX1_patternOf 64 = .ok (.iconst 2, 1) := by decide +kernel
theorem dX1_patternOf_65 : decode cX1_patternOf 65 = .ok (.ireturn, 1) := by decide +kernel
theorem dX1_patternOf_66 : decode cX1_patternOf 66 = .ok (.iconst 3, 1) := by decide +kernel
theorem dX1_patternOf_67 : decode cX1_patternOf 67 = .ok (.ireturn, 1) := by decide +kernel
theorem dX1_patternOf_68 : decode cX1_patternOf 68 = .ok (.iconst 4, 1) := by decide +kernel
theorem dX1_patternOf_69 : decode cX1_patternOf 69 = .ok (.ireturn, 1) := by decide +kernel
theorem dX1_patternOf_70 : decode cX1_patternOf 70 = .ok (.iconst 5, 1) := by decide +kernel
theorem dX1_patternOf_71 : decode cX1_patternOf 71 = .ok (.ireturn, 1) := by decide +kernel
theorem dX1_patternOf_72 : decode cX1_patternOf 72 = .ok (.bipush (-4), 2) := by decide +kernel
theorem dX1_patternOf_74 : decode cX1_patternOf 74 = .ok (.ireturn, 1) := by decide +kernel
theorem dX2_init_0 : decode cX2_init 0 = .ok (.aload_n 0, 1) := by decide +kernel
theorem dX2_init_1 : decode cX2_init 1 = .ok (.invokespecial 3, 3) := by decide +kernel
theorem dX2_init_4 : decode cX2_init 4 = .ok (.aload_n 0, 1) := by decide +kernel
theorem dX2_init_5 : decode cX2_init 5 = .ok (.iconst 4, 1) := by decide +kernel
theorem dX2_init_6 : decode cX2_init 6 = .ok (.newarray .int, 2) := by decide +kernel
theorem dX2_init_8 : decode cX2_init 8 = .ok (.putfield 9, 3) := by decide +kernel
theorem dX2_init_11 : decode cX2_init 11 = .ok (.aload_n 0, 1) := by decide +kernel
theorem dX2_init_12 : decode cX2_init 12 = .ok (.iconst 4, 1) := by decide +kernel
theorem dX2_init_13 : decode cX2_init 13 = .ok (.newarray .int, 2) := by decide +kernel
theorem dX2_init_15 : decode cX2_init 15 = .ok (.putfield 15, 3) := by decide +kernel
theorem dX2_init_18 : decode cX2_init 18 = .ok (.aload_n 0, 1) := by decide +kernel
theorem dX2_init_19 : decode cX2_init 19 = .ok (.iconst 4, 1) := by decide +kernel
theorem dX2_init_20 : decode cX2_init 20 = .ok (.newarray .int, 2) := by decide +kernel
theorem dX2_init_22 : decode cX2_init 22 = .ok (.putfield 18, 3) := by decide +kernel
theorem dX2_init_25 : decode cX2_init 25 = .ok (.aload_n 0, 1) := by decide +kernel
theorem dX2_init_26 : decode cX2_init 26 = .ok (.iconst 4, 1) := by decide +kernel
theorem dX2_init_27 : decode cX2_init 27 = .ok (.newarray .int, 2) := by decide +kernel
theorem dX2_init_29 : decode cX2_init 29 = .ok (.putfield 21, 3) := by decide +kernel
theorem dX2_init_32 : decode cX2_init 32 = .ok (.aload_n 0, 1) := by decide +kernel
theorem dX2_init_33 : decode cX2_init 33 = .ok (.iconst 0, 1) := by decide +kernel
theorem dX2_init_34 : decode cX2_init 34 = .ok (.putfield 24, 3) := by decide +kernel
theorem dX2_init_37 : decode cX2_init 37 = .ok (.return_, 1) := by decide +kernel
theorem dX2_has_0 : decode cX2_has 0 = .ok (.iload_n 1, 1) := by decide +kernel
theorem dX2_has_1 : decode cX2_has 1 = .ok (.ifCond .lt 15, 3) := by decide +kernel
theorem dX2_has_4 : decode cX2_has 4 = .ok (.iload_n 1, 1) := by decide +kernel
theorem dX2_has_5 : decode cX2_has 5 = .ok (.aload_n 0, 1) := by decide +kernel
theorem dX2_has_6 : decode cX2_has 6 = .ok (.getfield 24, 3) := by decide +kernel
theorem dX2_has_9 : decode cX2_has 9 = .ok (.if_icmp .ge 7, 3) := by decide +kernel
theorem dX2_has_12 : decode cX2_has 12 = .ok (.iconst 1, 1) := by decide +kernel
theorem dX2_has_13 : decode cX2_has 13 = .ok (.goto 4, 3) := by decide +kernel
theorem dX2_has_16 : decode cX2_has 16 = .ok (.iconst 0, 1) := by decide +kernel
theorem dX2_has_17 : decode cX2_has 17 = .ok (.ireturn, 1) := by decide +kernel
theorem dX2_isFull_0 : decode cX2_isFull 0 = .ok (.aload_n 0, 1) := by decide +kernel
theorem dX2_isFull_1 : decode cX2_isFull 1 = .ok (.getfield 24, 3) := by decide +kernel
theorem dX2_isFull_4 : decode cX2_isFull 4 = .ok (.iconst 4, 1) := by decide +kernel
theorem dX2_isFull_5 : decode cX2_isFull 5 = .ok (.if_icmp .lt 7, 3) := by decide +kernel
theorem dX2_isFull_8 : decode cX2_isFull 8 = .ok (.iconst 1, 1) := by decide +kernel
theorem dX2_isFull_9 : decode cX2_isFull 9 = .ok (.goto 4, 3) := by decide +kernel
theorem dX2_isFull_12 : decode cX2_isFull 12 = .ok (.iconst 0, 1) := by decide +kernel
theorem dX2_isFull_13 : decode cX2_isFull 13 = .ok (.ireturn, 1) := by decide +kernel
theorem dX2_add_0 : decode cX2_add 0 = .ok (.aload_n 0, 1) := by decide +kernel
theorem dX2_add_1 : decode cX2_add 1 = .ok (.invokevirtual 28, 3) := by decide +kernel
theorem dX2_add_4 : decode cX2_add 4 = .ok (.ifCond .eq 4, 3) := by decide +kernel
theorem dX2_add_7 : decode cX2_add 7 = .ok (.return_, 1) := by decide +kernel
theorem dX2_add_8 : decode cX2_add 8 = .ok (.aload_n 0, 1) := by decide +kernel
theorem dX2_add_9 : decode cX2_add 9 = .ok (.getfield 9, 3) := by decide +kernel
theorem dX2_add_12 : decode cX2_add 12 = .ok (.aload_n 0, 1) := by decide +kernel
theorem dX2_add_13 : decode cX2_add 13 = .ok (.getfield 24, 3) := by decide +kernel
theorem dX2_add_16 : decode cX2_add 16 = .ok (.iload_n 1, 1) := by decide +kernel
theorem dX2_add_17 : decode cX2_add 17 = .ok (.iastore, 1) := by decide +kernel
theorem dX2_add_18 : decode cX2_add 18 = .ok (.aload_n 0, 1) := by decide +kernel
theorem dX2_add_19 : decode cX2_add 19 = .ok (.getfield 15, 3) := by decide +kernel
theorem dX2_add_22 : decode cX2_add 22 = .ok (.aload_n 0, 1) := by decide +kernel
theorem dX2_add_23 : decode cX2_add 23 = .ok (.getfield 24, 3) := by decide +kernel
theorem dX2_add_26 : decode cX2_add 26 = .ok (.iload_n 2, 1) := by decide +kernel
theorem dX2_add_27 : decode cX2_add 27 = .ok (.iastore, 1) := by decide +kernel
theorem dX2_add_28 : decode cX2_add 28 = .ok (.aload_n 0, 1) := by decide +kernel
theorem dX2_add_29 : decode cX2_add 29 = .ok (.getfield 18, 3) := by decide +kernel
theorem dX2_add_32 : decode cX2_add 32 = .ok (.aload_n 0, 1) := by decide +kernel
theorem dX2_add_33 : decode cX2_add 33 = .ok (.getfield 24, 3) := by decide +kernel
theorem dX2_add_36 : decode cX2_add 36 = .ok (.iload_n 3, 1) := by decide +kernel
theorem dX2_add_37 : decode cX2_add 37 = .ok (.iastore, 1) := by decide +kernel
theorem dX2_add_38 : decode cX2_add 38 = .ok (.aload_n 0, 1) := by decide +kernel
theorem dX2_add_39 : decode cX2_add 39 = .ok (.getfield 21, 3) := by decide +kernel
theorem dX2_add_42 : decode cX2_add 42 = .ok (.aload_n 0, 1) := by decide +kernel
theorem dX2_add_43 : decode cX2_add 43 = .ok (.getfield 24, 3) := by decide +kernel
theorem dX2_add_46 : decode cX2_add 46 = .ok (.iload 4, 2) := by decide +kernel
theorem dX2_add_48 : decode cX2_add 48 = .ok (.iastore, 1) := by decide +kernel
theorem dX2_add_49 : decode cX2_add 49 = .ok (.aload_n 0, 1) := by decide +kernel
theorem dX2_add_50 : decode cX2_add 50 = .ok (.dup, 1) := by decide +kernel
theorem dX2_add_51 : decode cX2_add 51 = .ok (.getfield 24, 3) := by decide +kernel
theorem dX2_add_54 : decode cX2_add 54 = .ok (.iconst 1, 1) := by decide +kernel
theorem dX2_add_55 : decode cX2_add 55 = .ok (.iadd, 1) := by decide +kernel
theorem dX2_add_56 : decode cX2_add 56 = .ok (.putfield 24, 3) := by decide +kernel
theorem dX2_add_59 : decode cX2_add 59 = .ok (.return_, 1) := by decide +kernel
theorem dX2_remove_0 : decode cX2_remove 0 = .ok (.aload_n 0, 1) := by decide +kernel
theorem dX2_remove_1 : decode cX2_remove 1 = .ok (.iload_n 1, 1) := by decide +kernel
theorem dX2_remove_2 : decode cX2_remove 2 = .ok (.invokevirtual 32, 3) := by decide +kernel
theorem dX2_remove_5 : decode cX2_remove 5 = .ok (.ifCond .ne 4, 3) := by decide +kernel
theorem dX2_remove_8 : decode cX2_remove 8 = .ok (.return_, 1) := by decide +kernel
theorem dX2_remove_9 : decode cX2_remove 9 = .ok (.iload_n 1, 1) := by decide +kernel
theorem dX2_remove_10 : decode cX2_remove 10 = .ok (.iconst 1, 1) := by decide +kernel
theorem dX2_remove_11 : decode cX2_remove 11 = .ok (.iadd, 1) := by decide +kernel
theorem dX2_remove_12 : decode cX2_remove 12 = .ok (.istore_n 2, 1) := by decide +kernel
theorem dX2_remove_13 : decode cX2_remove 13 = .ok (.iload_n 2, 1) := by decide +kernel
theorem dX2_remove_14 : decode cX2_remove 14 = .ok (.aload_n 0, 1) := by decide +kernel
theorem dX2_remove_15 : decode cX2_remove 15 = .ok (.getfield 24, 3) := by decide +kernel
theorem dX2_remove_18 : decode cX2_remove 18 = .ok (.if_icmp .ge 18, 3) := by decide +kernel
theorem dX2_remove_21 : decode cX2_remove 21 = .ok (.aload_n 0, 1) := by decide +kernel
theorem dX2_remove_22 : decode cX2_remove 22 = .ok (.iload_n 2, 1) := by decide +kernel
theorem dX2_remove_23 : decode cX2_remove 23 = .ok (.iconst 1, 1) := by decide +kernel
theorem dX2_remove_24 : decode cX2_remove 24 = .ok (.isub, 1) := by decide +kernel
theorem dX2_remove_25 : decode cX2_remove 25 = .ok (.aload_n 0, 1) := by decide +kernel
theorem dX2_remove_26 : decode cX2_remove 26 = .ok (.iload_n 2, 1) := by decide +kernel
theorem dX2_remove_27 : decode cX2_remove 27 = .ok (.invokevirtual 36, 3) := by decide +kernel
theorem dX2_remove_30 : decode cX2_remove 30 = .ok (.iinc 2 1, 3) := by decide +kernel
theorem dX2_remove_33 : decode cX2_remove 33 = .ok (.goto (-20), 3) := by decide +kernel
theorem dX2_remove_36 : decode cX2_remove 36 = .ok (.aload_n 0, 1) := by decide +kernel
theorem dX2_remove_37 : decode cX2_remove 37 = .ok (.dup, 1) := by decide +kernel
theorem dX2_remove_38 : decode cX2_remove 38 = .ok (.getfield 24, 3) := by decide +kernel
theorem dX2_remove_41 : decode cX2_remove 41 = .ok (.iconst 1, 1) := by decide +kernel
theorem dX2_remove_42 : decode cX2_remove 42 = .ok (.isub, 1) := by decide +kernel
theorem dX2_remove_43 : decode cX2_remove 43 = .ok (.putfield 24, 3) := by decide +kernel
theorem dX2_remove_46 : decode cX2_remove 46 = .ok (.return_, 1) := by decide +kernel
theorem dX2_copyFrom_0 : decode cX2_copyFrom 0 = .ok (.aload_n 0, 1) := by decide +kernel
theorem dX2_copyFrom_1 : decode cX2_copyFrom 1 = .ok (.aload_n 1, 1) := by decide +kernel
theorem dX2_copyFrom_2 : decode cX2_copyFrom 2 = .ok (.getfield 24, 3) := by decide +kernel
theorem dX2_copyFrom_5 : decode cX2_copyFrom 5 = .ok (.putfield 24, 3) := by decide +kernel
theorem dX2_copyFrom_8 : decode cX2_copyFrom 8 = .ok (.iconst 0, 1) := by decide +kernel
theorem dX2_copyFrom_9 : decode cX2_copyFrom 9 = .ok (.istore_n 2, 1) := by decide +kernel
theorem dX2_copyFrom_10 : decode cX2_copyFrom 10 = .ok (.iload_n 2, 1) := by decide +kernel
theorem dX2_copyFrom_11 : decode cX2_copyFrom 11 = .ok (.aload_n 0, 1) := by decide +kernel
theorem dX2_copyFrom_12 : decode cX2_copyFrom 12 = .ok (.getfield 24, 3) := by decide +kernel
theorem dX2_copyFrom_15 : decode cX2_copyFrom 15 = .ok (.if_icmp .ge 16, 3) := by decide +kernel
theorem dX2_copyFrom_18 : decode cX2_copyFrom 18 = .ok (.aload_n 0, 1) := by decide +kernel
theorem dX2_copyFrom_19 : decode cX2_copyFrom 19 = .ok (.iload_n 2, 1) := by decide +kernel
theorem dX2_copyFrom_20 : decode cX2_copyFrom 20 = .ok (.aload_n 1, 1) := by decide +kernel
theorem dX2_copyFrom_21 : decode cX2_copyFrom 21 = .ok (.iload_n 2, 1) := by decide +kernel
theorem dX2_copyFrom_22 : decode cX2_copyFrom 22 = .ok (.invokevirtual 36, 3) := by decide +kernel
theorem dX2_copyFrom_25 : decode cX2_copyFrom 25 = .ok (.iinc 2 1, 3) := by decide +kernel
theorem dX2_copyFrom_28 : decode cX2_copyFrom 28 = .ok (.goto (-18), 3) := by decide +kernel
theorem dX2_copyFrom_31 : decode cX2_copyFrom 31 = .ok (.return_, 1) := by decide +kernel
theorem dX2_put_0 : decode cX2_put 0 = .ok (.aload_n 0, 1) := by decide +kernel
theorem dX2_put_1 : decode cX2_put 1 = .ok (.getfield 9, 3) := by decide +kernel
theorem dX2_put_4 : decode cX2_put 4 = .ok (.iload_n 1, 1) := by decide +kernel
theorem dX2_put_5 : decode cX2_put 5 = .ok (.aload_n 2, 1) := by decide +kernel
theorem dX2_put_6 : decode cX2_put 6 = .ok (.getfield 9, 3) := by decide +kernel
theorem dX2_put_9 : decode cX2_put 9 = .ok (.iload_n 3, 1) := by decide +kernel
theorem dX2_put_10 : decode cX2_put 10 = .ok (.iaload, 1) := by decide +kernel
theorem dX2_put_11 : decode cX2_put 11 = .ok (.iastore, 1) := by decide +kernel
theorem dX2_put_12 : decode cX2_put 12 = .ok (.aload_n 0, 1) := by decide +kernel
theorem dX2_put_13 : decode cX2_put 13 = .ok (.getfield 15, 3) := by decide +kernel
theorem dX2_put_16 : decode cX2_put 16 = .ok (.iload_n 1, 1) := by decide +kernel
theorem dX2_put_17 : decode cX2_put 17 = .ok (.aload_n 2, 1) := by decide +kernel
theorem dX2_put_18 : decode cX2_put 18 = .ok (.getfield 15, 3) := by decide +kernel
theorem dX2_put_21 : decode cX2_put 21 = .ok (.iload_n 3, 1) := by decide +kernel
theorem dX2_put_22 : decode cX2_put 22 = .ok (.iaload, 1) := by decide +kernel
theorem dX2_put_23 : decode cX2_put 23 = .ok (.iastore, 1) := by decide +kernel
theorem dX2_put_24 : decode cX2_put 24 = .ok (.aload_n 0, 1) := by decide +kernel
theorem dX2_put_25 : decode cX2_put 25 = .ok (.getfield 18, 3) := by decide +kernel
theorem dX2_put_28 : decode cX2_put 28 = .ok (.iload_n 1, 1) := by decide +kernel
theorem dX2_put_29 : decode cX2_put 29 = .ok (.aload_n 2, 1) := by decide +kernel
theorem dX2_put_30 : decode cX2_put 30 = .ok (.getfield 18, 3) := by decide +kernel
theorem dX2_put_33 : decode cX2_put 33 = .ok (.iload_n 3, 1) := by decide +kernel
theorem dX2_put_34 : decode cX2_put 34 = .ok (.iaload, 1) := by decide +kernel
theorem dX2_put_35 : decode cX2_put 35 = .ok (.iastore, 1) := by decide +kernel
theorem dX2_put_36 : decode cX2_put 36 = .ok (.aload_n 0, 1) := by decide +kernel
theorem dX2_put_37 : decode cX2_put 37 = .ok (.getfield 21, 3) := by decide +kernel
theorem dX2_put_40 : decode cX2_put 40 = .ok (.iload_n 1, 1) := by decide +kernel
theorem dX2_put_41 : decode cX2_put 41 = .ok (.aload_n 2, 1) := by decide +kernel
theorem dX2_put_42 : decode cX2_put 42 = .ok (.getfield 21, 3) := by decide +kernel
theorem dX2_put_45 : decode cX2_put 45 = .ok (.iload_n 3, 1) := by decide +kernel
theorem dX2_put_46 : decode cX2_put 46 = .ok (.iaload, 1) := by decide +kernel
theorem dX2_put_47 : decode cX2_put 47 = .ok (.iastore, 1) := by decide +kernel
theorem dX2_put_48 : decode cX2_put 48 = .ok (.return_, 1) := by decide +kernel
theorem dX2_firesAt_0 : decode cX2_firesAt 0 = .ok (.aload_n 0, 1) := by decide +kernel
theorem dX2_firesAt_1 : decode cX2_firesAt 1 = .ok (.getfield 18, 3) := by decide +kernel
theorem dX2_firesAt_4 : decode cX2_firesAt 4 = .ok (.iload_n 1, 1) := by decide +kernel
theorem dX2_firesAt_5 : decode cX2_firesAt 5 = .ok (.iaload, 1) := by decide +kernel
theorem dX2_firesAt_6 : decode cX2_firesAt 6 = .ok (.istore_n 3, 1) := by decide +kernel
theorem dX2_firesAt_7 : decode cX2_firesAt 7 = .ok (.iload_n 3, 1) := by decide +kernel
theorem dX2_firesAt_8 : decode cX2_firesAt 8 = .ok (.ifCond .le 19, 3) := by decide +kernel
theorem dX2_firesAt_11 : decode cX2_firesAt 11 = .ok (.iload_n 2, 1) := by decide +kernel
theorem dX2_firesAt_12 : decode cX2_firesAt 12 = .ok (.iload_n 3, 1) := by decide +kernel
theorem dX2_firesAt_13 : decode cX2_firesAt 13 = .ok (.irem, 1) := by decide +kernel
theorem dX2_firesAt_14 : decode cX2_firesAt 14 = .ok (.aload_n 0, 1) := by decide +kernel
theorem dX2_firesAt_15 : decode cX2_firesAt 15 = .ok (.getfield 21, 3) := by decide +kernel
theorem dX2_firesAt_18 : decode cX2_firesAt 18 = .ok (.iload_n 1, 1) := by decide +kernel
theorem dX2_firesAt_19 : decode cX2_firesAt 19 = .ok (.iaload, 1) := by decide +kernel
theorem dX2_firesAt_20 : decode cX2_firesAt 20 = .ok (.if_icmp .ne 7, 3) := by decide +kernel
theorem dX2_firesAt_23 : decode cX2_firesAt 23 = .ok (.iconst 1, 1) := by decide +kernel
theorem dX2_firesAt_24 : decode cX2_firesAt 24 = .ok (.goto 4, 3) := by decide +kernel
theorem dX2_firesAt_27 : decode cX2_firesAt 27 = .ok (.iconst 0, 1) := by decide +kernel
theorem dX2_firesAt_28 : decode cX2_firesAt 28 = .ok (.ireturn, 1) := by decide +kernel
theorem dX2_ticksToFire_0 : decode cX2_ticksToFire 0 = .ok (.iconst 1, 1) := by decide +kernel
theorem dX2_ticksToFire_1 : decode cX2_ticksToFire 1 = .ok (.istore_n 3, 1) := by decide +kernel
theorem dX2_ticksToFire_2 : decode cX2_ticksToFire 2 = .ok (.iload_n 3, 1) := by decide +kernel
theorem dX2_ticksToFire_3 : decode cX2_ticksToFire 3 = .ok (.aload_n 0, 1) := by decide +kernel
theorem dX2_ticksToFire_4 : decode cX2_ticksToFire 4 = .ok (.getfield 18, 3) := by decide +kernel
theorem dX2_ticksToFire_7 : decode cX2_ticksToFire 7 = .ok (.iload_n 1, 1) := by decide +kernel
theorem dX2_ticksToFire_8 : decode cX2_ticksToFire 8 = .ok (.iaload, 1) := by decide +kernel
theorem dX2_ticksToFire_9 : decode cX2_ticksToFire 9 = .ok (.if_icmp .ge 20, 3) := by decide +kernel
theorem dX2_ticksToFire_12 : decode cX2_ticksToFire 12 = .ok (.aload_n 0, 1) := by decide +kernel
theorem dX2_ticksToFire_13 : decode cX2_ticksToFire 13 = .ok (.iload_n 1, 1) := by decide +kernel
theorem dX2_ticksToFire_14 : decode cX2_ticksToFire 14 = .ok (.iload_n 2, 1) := by decide +kernel
theorem dX2_ticksToFire_15 : decode cX2_ticksToFire 15 = .ok (.iload_n 3, 1) := by decide +kernel
theorem dX2_ticksToFire_16 : decode cX2_ticksToFire 16 = .ok (.iadd, 1) := by decide +kernel
theorem dX2_ticksToFire_17 : decode cX2_ticksToFire 17 = .ok (.invokevirtual 40, 3) := by decide +kernel
theorem dX2_ticksToFire_20 : decode cX2_ticksToFire 20 = .ok (.ifCond .ne 9, 3) := by decide +kernel
theorem dX2_ticksToFire_23 : decode cX2_ticksToFire 23 = .ok (.iinc 3 1, 3) := by decide +kernel
theorem dX2_ticksToFire_26 : decode cX2_ticksToFire 26 = .ok (.goto (-24), 3) := by decide +kernel
theorem dX2_ticksToFire_29 : decode cX2_ticksToFire 29 = .ok (.iload_n 3, 1) := by decide +kernel
theorem dX2_ticksToFire_30 : decode cX2_ticksToFire 30 = .ok (.ireturn, 1) := by decide +kernel
theorem dX3_init_0 : decode cX3_init 0 = .ok (.aload_n 0, 1) := by decide +kernel
theorem dX3_init_1 : decode cX3_init 1 = .ok (.invokespecial 3, 3) := by decide +kernel
theorem dX3_init_4 : decode cX3_init 4 = .ok (.aload_n 0, 1) := by decide +kernel
theorem dX3_init_5 : decode cX3_init 5 = .ok (.new 9, 3) := by decide +kernel
theorem dX3_init_8 : decode cX3_init 8 = .ok (.dup, 1) := by decide +kernel
theorem dX3_init_9 : decode cX3_init 9 = .ok (.invokespecial 11, 3) := by decide +kernel
theorem dX3_init_12 : decode cX3_init 12 = .ok (.putfield 12, 3) := by decide +kernel
theorem dX3_init_15 : decode cX3_init 15 = .ok (.aload_n 0, 1) := by decide +kernel
theorem dX3_init_16 : decode cX3_init 16 = .ok (.new 18, 3) := by decide +kernel
theorem dX3_init_19 : decode cX3_init 19 = .ok (.dup, 1) := by decide +kernel
theorem dX3_init_20 : decode cX3_init 20 = .ok (.invokespecial 20, 3) := by decide +kernel
theorem dX3_init_23 : decode cX3_init 23 = .ok (.putfield 21, 3) := by decide +kernel
theorem dX3_init_26 : decode cX3_init 26 = .ok (.aload_n 0, 1) := by decide +kernel
theorem dX3_init_27 : decode cX3_init 27 = .ok (.iconst 2, 1) := by decide +kernel
theorem dX3_init_28 : decode cX3_init 28 = .ok (.newarray .int, 2) := by decide +kernel
theorem dX3_init_30 : decode cX3_init 30 = .ok (.putfield 25, 3) := by decide +kernel
theorem dX3_init_33 : decode cX3_init 33 = .ok (.aload_n 0, 1) := by decide +kernel
theorem dX3_init_34 : decode cX3_init 34 = .ok (.bipush 8, 2) := by decide +kernel
theorem dX3_init_36 : decode cX3_init 36 = .ok (.newarray .int, 2) := by decide +kernel
theorem dX3_init_38 : decode cX3_init 38 = .ok (.putfield 29, 3) := by decide +kernel
theorem dX3_init_41 : decode cX3_init 41 = .ok (.aload_n 0, 1) := by decide +kernel
theorem dX3_init_42 : decode cX3_init 42 = .ok (.iconst 5, 1) := by decide +kernel
theorem dX3_init_43 : decode cX3_init 43 = .ok (.putfield 32, 3) := by decide +kernel
theorem dX3_init_46 : decode cX3_init 46 = .ok (.aload_n 0, 1) := by decide +kernel
theorem dX3_init_47 : decode cX3_init 47 = .ok (.iconst 3, 1) := by decide +kernel
theorem dX3_init_48 : decode cX3_init 48 = .ok (.putfield 36, 3) := by decide +kernel
theorem dX3_init_51 : decode cX3_init 51 = .ok (.aload_n 0, 1) := by decide +kernel
theorem dX3_init_52 : decode cX3_init 52 = .ok (.iconst 2, 1) := by decide +kernel
theorem dX3_init_53 : decode cX3_init 53 = .ok (.putfield 39, 3) := by decide +kernel
theorem dX3_init_56 : decode cX3_init 56 = .ok (.aload_n 0, 1) := by decide +kernel
theorem dX3_init_57 : decode cX3_init 57 = .ok (.iconst 0, 1) := by decide +kernel
theorem dX3_init_58 : decode cX3_init 58 = .ok (.putfield 42, 3) := by decide +kernel
theorem dX3_init_61 : decode cX3_init 61 = .ok (.aload_n 0, 1) := by decide +kernel
theorem dX3_init_62 : decode cX3_init 62 = .ok (.iconst 0, 1) := by decide +kernel
theorem dX3_init_63 : decode cX3_init 63 = .ok (.putfield 45, 3) := by decide +kernel
theorem dX3_init_66 : decode cX3_init 66 = .ok (.aload_n 0, 1) := by decide +kernel
theorem dX3_init_67 : decode cX3_init 67 = .ok (.getfield 25, 3) := by decide +kernel
theorem dX3_init_70 : decode cX3_init 70 = .ok (.iconst 1, 1) := by decide +kernel
theorem dX3_init_71 : decode cX3_init 71 = .ok (.iconst 2, 1) := by decide +kernel
theorem dX3_init_72 : decode cX3_init 72 = .ok (.iastore, 1) := by decide +kernel
theorem dX3_init_73 : decode cX3_init 73 = .ok (.return_, 1) := by decide +kernel
theorem dX3_copyFrom_0 : decode cX3_copyFrom 0 = .ok (.aload_n 0, 1) := by decide +kernel
theorem dX3_copyFrom_1 : decode cX3_copyFrom 1 = .ok (.getfield 12, 3) := by decide +kernel
theorem dX3_copyFrom_4 : decode cX3_copyFrom 4 = .ok (.aload_n 1, 1) := by decide +kernel
theorem dX3_copyFrom_5 : decode cX3_copyFrom 5 = .ok (.getfield 12, 3) := by decide +kernel
theorem dX3_copyFrom_8 : decode cX3_copyFrom 8 = .ok (.invokevirtual 49, 3) := by decide +kernel
theorem dX3_copyFrom_11 : decode cX3_copyFrom 11 = .ok (.aload_n 0, 1) := by decide +kernel
theorem dX3_copyFrom_12 : decode cX3_copyFrom 12 = .ok (.getfield 21, 3) := by decide +kernel
theorem dX3_copyFrom_15 : decode cX3_copyFrom 15 = .ok (.aload_n 1, 1) := by decide +kernel
theorem dX3_copyFrom_16 : decode cX3_copyFrom 16 = .ok (.getfield 21, 3) := by decide +kernel
theorem dX3_copyFrom_19 : decode cX3_copyFrom 19 = .ok (.invokevirtual 53, 3) := by decide +kernel
theorem dX3_copyFrom_22 : decode cX3_copyFrom 22 = .ok (.aload_n 1, 1) := by decide +kernel
theorem dX3_copyFrom_23 : decode cX3_copyFrom 23 = .ok (.getfield 25, 3) := by decide +kernel
theorem dX3_copyFrom_26 : decode cX3_copyFrom 26 = .ok (.iconst 0, 1) := by decide +kernel
theorem dX3_copyFrom_27 : decode cX3_copyFrom 27 = .ok (.aload_n 0, 1) := by decide +kernel
theorem dX3_copyFrom_28 : decode cX3_copyFrom 28 = .ok (.getfield 25, 3) := by decide +kernel
theorem dX3_copyFrom_31 : decode cX3_copyFrom 31 = .ok (.iconst 0, 1) := by decide +kernel
theorem dX3_copyFrom_32 : decode cX3_copyFrom 32 = .ok (.iconst 2, 1) := by decide +kernel
theorem dX3_copyFrom_33 : decode cX3_copyFrom 33 = .ok (.invokestatic 56, 3) := by decide +kernel
theorem dX3_copyFrom_36 : decode cX3_copyFrom 36 = .ok (.aload_n 1, 1) := by decide +kernel
theorem dX3_copyFrom_37 : decode cX3_copyFrom 37 = .ok (.getfield 29, 3) := by decide +kernel
theorem dX3_copyFrom_40 : decode cX3_copyFrom 40 = .ok (.iconst 0, 1) := by decide +kernel
theorem dX3_copyFrom_41 : decode cX3_copyFrom 41 = .ok (.aload_n 0, 1) := by decide +kernel
theorem dX3_copyFrom_42 : decode cX3_copyFrom 42 = .ok (.getfield 29, 3) := by decide +kernel
theorem dX3_copyFrom_45 : decode cX3_copyFrom 45 = .ok (.iconst 0, 1) := by decide +kernel
theorem dX3_copyFrom_46 : decode cX3_copyFrom 46 = .ok (.bipush 8, 2) := by decide +kernel
theorem dX3_copyFrom_48 : decode cX3_copyFrom 48 = .ok (.invokestatic 56, 3) := by decide +kernel
theorem dX3_copyFrom_51 : decode cX3_copyFrom 51 = .ok (.aload_n 0, 1) := by decide +kernel
theorem dX3_copyFrom_52 : decode cX3_copyFrom 52 = .ok (.aload_n 1, 1) := by decide +kernel
theorem dX3_copyFrom_53 : decode cX3_copyFrom 53 = .ok (.getfield 32, 3) := by decide +kernel
theorem dX3_copyFrom_56 : decode cX3_copyFrom 56 = .ok (.putfield 32, 3) := by decide +kernel
theorem dX3_copyFrom_59 : decode cX3_copyFrom 59 = .ok (.aload_n 0, 1) := by decide +kernel
theorem dX3_copyFrom_60 : decode cX3_copyFrom 60 = .ok (.aload_n 1, 1) := by decide +kernel
theorem dX3_copyFrom_61 : decode cX3_copyFrom 61 = .ok (.getfield 36, 3) := by decide +kernel
theorem dX3_copyFrom_64 : decode cX3_copyFrom 64 = .ok (.putfield 36, 3) := by decide +kernel
theorem dX3_copyFrom_67 : decode cX3_copyFrom 67 = .ok (.aload_n 0, 1) := by decide +kernel
theorem dX3_copyFrom_68 : decode cX3_copyFrom 68 = .ok (.aload_n 1, 1) := by decide +kernel
theorem dX3_copyFrom_69 : decode cX3_copyFrom 69 = .ok (.getfield 39, 3) := by decide +kernel
theorem dX3_copyFrom_72 : decode cX3_copyFrom 72 = .ok (.putfield 39, 3) := by decide +kernel
theorem dX3_copyFrom_75 : decode cX3_copyFrom 75 = .ok (.aload_n 0, 1) := by decide +kernel
theorem dX3_copyFrom_76 : decode cX3_copyFrom 76 = .ok (.aload_n 1, 1) := by decide +kernel
theorem dX3_copyFrom_77 : decode cX3_copyFrom 77 = .ok (.getfield 42, 3) := by decide +kernel
theorem dX3_copyFrom_80 : decode cX3_copyFrom 80 = .ok (.putfield 42, 3) := by decide +kernel
theorem dX3_copyFrom_83 : decode cX3_copyFrom 83 = .ok (.aload_n 0, 1) := by decide +kernel
theorem dX3_copyFrom_84 : decode cX3_copyFrom 84 = .ok (.aload_n 1, 1) := by decide +kernel
theorem dX3_copyFrom_85 : decode cX3_copyFrom 85 = .ok (.getfield 45, 3) := by decide +kernel
theorem dX3_copyFrom_88 : decode cX3_copyFrom 88 = .ok (.putfield 45, 3) := by decide +kernel
theorem dX3_copyFrom_91 : decode cX3_copyFrom 91 = .ok (.return_, 1) := by decide +kernel
theorem dX3_passTick_0 : decode cX3_passTick 0 = .ok (.aload_n 0, 1) := by decide +kernel
theorem dX3_passTick_1 : decode cX3_passTick 1 = .ok (.getfield 32, 3) := by decide +kernel
theorem dX3_passTick_4 : decode cX3_passTick 4 = .ok (.iload_n 1, 1) := by decide +kernel
theorem dX3_passTick_5 : decode cX3_passTick 5 = .ok (.iadd, 1) := by decide +kernel
theorem dX3_passTick_6 : decode cX3_passTick 6 = .ok (.invokestatic 62, 3) := by decide +kernel
theorem dX3_passTick_9 : decode cX3_passTick 9 = .ok (.ifCond .eq 13, 3) := by decide +kernel
theorem dX3_passTick_12 : decode cX3_passTick 12 = .ok (.aload_n 0, 1) := by decide +kernel
theorem dX3_passTick_13 : decode cX3_passTick 13 = .ok (.dup, 1) := by decide +kernel
theorem dX3_passTick_14 : decode cX3_passTick 14 = .ok (.getfield 32, 3) := by decide +kernel
theorem dX3_passTick_17 : decode cX3_passTick 17 = .ok (.iload_n 1, 1) := by decide +kernel
theorem dX3_passTick_18 : decode cX3_passTick 18 = .ok (.iadd, 1) := by decide +kernel
theorem dX3_passTick_19 : decode cX3_passTick 19 = .ok (.putfield 32, 3) := by decide +kernel
theorem dX3_passTick_22 : decode cX3_passTick 22 = .ok (.aload_n 0, 1) := by decide +kernel
theorem dX3_passTick_23 : decode cX3_passTick 23 = .ok (.invokevirtual 66, 3) := by decide +kernel
theorem dX3_passTick_26 : decode cX3_passTick 26 = .ok (.aload_n 0, 1) := by decide +kernel
theorem dX3_passTick_27 : decode cX3_passTick 27 = .ok (.invokevirtual 69, 3) := by decide +kernel
theorem dX3_passTick_30 : decode cX3_passTick 30 = .ok (.istore_n 2, 1) := by decide +kernel
theorem dX3_passTick_31 : decode cX3_passTick 31 = .ok (.aload_n 0, 1) := by decide +kernel
theorem dX3_passTick_32 : decode cX3_passTick 32 = .ok (.getfield 45, 3) := by decide +kernel
theorem dX3_passTick_35 : decode cX3_passTick 35 = .ok (.ifCond .ne 24, 3) := by decide +kernel
theorem dX3_passTick_38 : decode cX3_passTick 38 = .ok (.aload_n 0, 1) := by decide +kernel
theorem dX3_passTick_39 : decode cX3_passTick 39 = .ok (.getfield 29, 3) := by decide +kernel
theorem dX3_passTick_42 : decode cX3_passTick 42 = .ok (.bipush 6, 2) := by decide +kernel
theorem dX3_passTick_44 : decode cX3_passTick 44 = .ok (.dup2, 1) := by decide +kernel
theorem dX3_passTick_45 : decode cX3_passTick 45 = .ok (.iaload, 1) := by decide +kernel
theorem dX3_passTick_46 : decode cX3_passTick 46 = .ok (.aload_n 0, 1) := by decide +kernel
theorem dX3_passTick_47 : decode cX3_passTick 47 = .ok (.getfield 21, 3) := by decide +kernel
theorem dX3_passTick_50 : decode cX3_passTick 50 = .ok (.aload_n 0, 1) := by decide +kernel
theorem dX3_passTick_51 : decode cX3_passTick 51 = .ok (.getfield 32, 3) := by decide +kernel
theorem dX3_passTick_54 : decode cX3_passTick 54 = .ok (.invokevirtual 73, 3) := by decide +kernel
theorem dX3_passTick_57 : decode cX3_passTick 57 = .ok (.iadd, 1) := by decide +kernel
theorem dX3_passTick_58 : decode cX3_passTick 58 = .ok (.iastore, 1) := by decide +kernel
theorem dX3_passTick_59 : decode cX3_passTick 59 = .ok (.iload_n 2, 1) := by decide +kernel
theorem dX3_passTick_60 : decode cX3_passTick 60 = .ok (.ireturn, 1) := by decide +kernel
theorem dX3_advance_0 : decode cX3_advance 0 = .ok (.aload_n 0, 1) := by decide +kernel
theorem dX3_advance_1 : decode cX3_advance 1 = .ok (.dup, 1) := by decide +kernel
theorem dX3_advance_2 : decode cX3_advance 2 = .ok (.getfield 42, 3) := by decide +kernel
theorem dX3_advance_5 : decode cX3_advance 5 = .ok (.iconst 1, 1) := by decide +kernel
theorem dX3_advance_6 : decode cX3_advance 6 = .ok (.iadd, 1) := by decide +kernel
theorem dX3_advance_7 : decode cX3_advance 7 = .ok (.putfield 42, 3) := by decide +kernel
theorem dX3_advance_10 : decode cX3_advance 10 = .ok (.aload_n 0, 1) := by decide +kernel
theorem dX3_advance_11 : decode cX3_advance 11 = .ok (.getfield 29, 3) := by decide +kernel
theorem dX3_advance_14 : decode cX3_advance 14 = .ok (.iconst 2, 1) := by decide +kernel
theorem dX3_advance_15 : decode cX3_advance 15 = .ok (.dup2, 1) := by decide +kernel
theorem dX3_advance_16 : decode cX3_advance 16 = .ok (.iaload, 1) := by decide +kernel
theorem dX3_advance_17 : decode cX3_advance 17 = .ok (.aload_n 0, 1) := by decide +kernel
theorem dX3_advance_18 : decode cX3_advance 18 = .ok (.getfield 21, 3) := by decide +kernel
theorem dX3_advance_21 : decode cX3_advance 21 = .ok (.aload_n 0, 1) := by decide +kernel
theorem dX3_advance_22 : decode cX3_advance 22 = .ok (.getfield 25, 3) := by decide +kernel
theorem dX3_advance_25 : decode cX3_advance 25 = .ok (.iconst 0, 1) := by decide +kernel
theorem dX3_advance_26 : decode cX3_advance 26 = .ok (.iaload, 1) := by decide +kernel
theorem dX3_advance_27 : decode cX3_advance 27 = .ok (.iconst 1, 1) := by decide +kernel
theorem dX3_advance_28 : decode cX3_advance 28 = .ok (.if_icmp .ne 7, 3) := by decide +kernel
theorem dX3_advance_31 : decode cX3_advance 31 = .ok (.iconst 1, 1) := by decide +kernel
theorem dX3_advance_32 : decode cX3_advance 32 = .ok (.goto 4, 3) := by decide +kernel
theorem dX3_advance_35 : decode cX3_advance 35 = .ok (.iconst 0, 1) := by decide +kernel
theorem dX3_advance_36 : decode cX3_advance 36 = .ok (.invokevirtual 77, 3) := by decide +kernel
theorem dX3_advance_39 : decode cX3_advance 39 = .ok (.iadd, 1) := by decide +kernel
theorem dX3_advance_40 : decode cX3_advance 40 = .ok (.iastore, 1) := by decide +kernel
theorem dX3_advance_41 : decode cX3_advance 41 = .ok (.iconst 0, 1) := by decide +kernel
theorem dX3_advance_42 : decode cX3_advance 42 = .ok (.istore_n 1, 1) := by decide +kernel
theorem dX3_advance_43 : decode cX3_advance 43 = .ok (.iload_n 1, 1) := by decide +kernel
theorem dX3_advance_44 : decode cX3_advance 44 = .ok (.aload_n 0, 1) := by decide +kernel
theorem dX3_advance_45 : decode cX3_advance 45 = .ok (.getfield 12, 3) := by decide +kernel
theorem dX3_advance_48 : decode cX3_advance 48 = .ok (.getfield 81, 3) := by decide +kernel
theorem dX3_advance_51 : decode cX3_advance 51 = .ok (.if_icmp .ge 46, 3) := by decide +kernel
theorem dX3_advance_54 : decode cX3_advance 54 = .ok (.aload_n 0, 1) := by decide +kernel
theorem dX3_advance_55 : decode cX3_advance 55 = .ok (.getfield 12, 3) := by decide +kernel
theorem dX3_advance_58 : decode cX3_advance 58 = .ok (.iload_n 1, 1) := by decide +kernel
theorem dX3_advance_59 : decode cX3_advance 59 = .ok (.aload_n 0, 1) := by decide +kernel
theorem dX3_advance_60 : decode cX3_advance 60 = .ok (.getfield 42, 3) := by decide +kernel
theorem dX3_advance_63 : decode cX3_advance 63 = .ok (.invokevirtual 84, 3) := by decide +kernel
theorem dX3_advance_66 : decode cX3_advance 66 = .ok (.ifCond .eq 25, 3) := by decide +kernel
theorem dX3_advance_69 : decode cX3_advance 69 = .ok (.aload_n 0, 1) := by decide +kernel
theorem dX3_advance_70 : decode cX3_advance 70 = .ok (.aload_n 0, 1) := by decide +kernel
theorem dX3_advance_71 : decode cX3_advance 71 = .ok (.getfield 12, 3) := by decide +kernel
theorem dX3_advance_74 : decode cX3_advance 74 = .ok (.getfield 88, 3) := by decide +kernel
theorem dX3_advance_77 : decode cX3_advance 77 = .ok (.iload_n 1, 1) := by decide +kernel
theorem dX3_advance_78 : decode cX3_advance 78 = .ok (.iaload, 1) := by decide +kernel
theorem dX3_advance_79 : decode cX3_advance 79 = .ok (.aload_n 0, 1) := by decide +kernel
theorem dX3_advance_80 : decode cX3_advance 80 = .ok (.getfield 12, 3) := by decide +kernel
theorem dX3_advance_83 : decode cX3_advance 83 = .ok (.getfield 91, 3) := by decide +kernel
theorem dX3_advance_86 : decode cX3_advance 86 = .ok (.iload_n 1, 1) := by decide +kernel
theorem dX3_advance_87 : decode cX3_advance 87 = .ok (.iaload, 1) := by decide +kernel
theorem dX3_advance_88 : decode cX3_advance 88 = .ok (.invokevirtual 94, 3) := by decide +kernel
theorem dX3_advance_91 : decode cX3_advance 91 = .ok (.iinc 1 1, 3) := by decide +kernel
theorem dX3_advance_94 : decode cX3_advance 94 = .ok (.goto (-51), 3) := by decide +kernel
theorem dX3_advance_97 : decode cX3_advance 97 = .ok (.return_, 1) := by decide +kernel
theorem dX3_fire_0 : decode cX3_fire 0 = .ok (.iload_n 2, 1) := by decide +kernel
theorem dX3_fire_1 : decode cX3_fire 1 = .ok (.tableswitch 92 0 4 #[35, 45, 55, 65, 75], 35) := by decide +kernel
theorem dX3_fire_36 : decode cX3_fire 36 = .ok (.aload_n 0, 1) := by decide +kernel
theorem dX3_fire_37 : decode cX3_fire 37 = .ok (.iload_n 1, 1) := by decide +kernel
theorem dX3_fire_38 : decode cX3_fire 38 = .ok (.iconst 0, 1) := by decide +kernel
theorem dX3_fire_39 : decode cX3_fire 39 = .ok (.iconst 0, 1) := by decide +kernel
theorem dX3_fire_40 : decode cX3_fire 40 = .ok (.invokevirtual 98, 3) := by decide +kernel
theorem dX3_fire_43 : decode cX3_fire 43 = .ok (.goto 70, 3) := by decide +kernel
theorem dX3_fire_46 : decode cX3_fire 46 = .ok (.aload_n 0, 1) := by decide +kernel
theorem dX3_fire_47 : decode cX3_fire 47 = .ok (.iload_n 1, 1) := by decide +kernel
theorem dX3_fire_48 : decode cX3_fire 48 = .ok (.iconst (-1), 1) := by decide +kernel
theorem dX3_fire_49 : decode cX3_fire 49 = .ok (.iconst 0, 1) := by decide +kernel
theorem dX3_fire_50 : decode cX3_fire 50 = .ok (.invokevirtual 98, 3) := by decide +kernel
theorem dX3_fire_53 : decode cX3_fire 53 = .ok (.goto 60, 3) := by decide +kernel
theorem dX3_fire_56 : decode cX3_fire 56 = .ok (.aload_n 0, 1) := by decide +kernel
theorem dX3_fire_57 : decode cX3_fire 57 = .ok (.iload_n 1, 1) := by decide +kernel
theorem dX3_fire_58 : decode cX3_fire 58 = .ok (.iconst 1, 1) := by decide +kernel
theorem dX3_fire_59 : decode cX3_fire 59 = .ok (.iconst 0, 1) := by decide +kernel
theorem dX3_fire_60 : decode cX3_fire 60 = .ok (.invokevirtual 98, 3) := by decide +kernel
theorem dX3_fire_63 : decode cX3_fire 63 = .ok (.goto 50, 3) := by decide +kernel
theorem dX3_fire_66 : decode cX3_fire 66 = .ok (.aload_n 0, 1) := by decide +kernel
theorem dX3_fire_67 : decode cX3_fire 67 = .ok (.iload_n 1, 1) := by decide +kernel
theorem dX3_fire_68 : decode cX3_fire 68 = .ok (.iconst 1, 1) := by decide +kernel
theorem dX3_fire_69 : decode cX3_fire 69 = .ok (.iconst 1, 1) := by decide +kernel
theorem dX3_fire_70 : decode cX3_fire 70 = .ok (.invokevirtual 98, 3) := by decide +kernel
theorem dX3_fire_73 : decode cX3_fire 73 = .ok (.goto 40, 3) := by decide +kernel
theorem dX3_fire_76 : decode cX3_fire 76 = .ok (.aload_n 0, 1) := by decide +kernel
theorem dX3_fire_77 : decode cX3_fire 77 = .ok (.iload_n 1, 1) := by decide +kernel
theorem dX3_fire_78 : decode cX3_fire 78 = .ok (.aload_n 0, 1) := by decide +kernel
theorem dX3_fire_79 : decode cX3_fire 79 = .ok (.getfield 32, 3) := by decide +kernel
theorem dX3_fire_82 : decode cX3_fire 82 = .ok (.iload_n 1, 1) := by decide +kernel
theorem dX3_fire_83 : decode cX3_fire 83 = .ok (.invokestatic 102, 3) := by decide +kernel
theorem dX3_fire_86 : decode cX3_fire 86 = .ok (.iconst 0, 1) := by decide +kernel
theorem dX3_fire_87 : decode cX3_fire 87 = .ok (.invokevirtual 98, 3) := by decide +kernel
theorem dX3_fire_90 : decode cX3_fire 90 = .ok (.goto 23, 3) := by decide +kernel
theorem dX3_fire_93 : decode cX3_fire 93 = .ok (.iconst (-1), 1) := by decide +kernel
theorem dX3_fire_94 : decode cX3_fire 94 = .ok (.istore_n 3, 1) := by decide +kernel
theorem dX3_fire_95 : decode cX3_fire 95 = .ok (.iload_n 3, 1) := by decide +kernel
theorem dX3_fire_96 : decode cX3_fire 96 = .ok (.iconst 1, 1) := by decide +kernel
theorem dX3_fire_97 : decode cX3_fire 97 = .ok (.if_icmp .gt 16, 3) := by decide +kernel
theorem dX3_fire_100 : decode cX3_fire 100 = .ok (.aload_n 0, 1) := by decide +kernel
theorem dX3_fire_101 : decode cX3_fire 101 = .ok (.iload_n 1, 1) := by decide +kernel
theorem dX3_fire_102 : decode cX3_fire 102 = .ok (.iload_n 3, 1) := by decide +kernel
theorem dX3_fire_103 : decode cX3_fire 103 = .ok (.iconst 0, 1) := by decide +kernel
theorem dX3_fire_104 : decode cX3_fire 104 = .ok (.invokevirtual 98, 3) := by decide +kernel
theorem dX3_fire_107 : decode cX3_fire 107 = .ok (.iinc 3 1, 3) := by decide +kernel
theorem dX3_fire_110 : decode cX3_fire 110 = .ok (.goto (-15), 3) := by decide +kernel
theorem dX3_fire_113 : decode cX3_fire 113 = .ok (.return_, 1) := by decide +kernel
theorem dX3_shoot_0 : decode cX3_shoot 0 = .ok (.aload_n 0, 1) := by decide +kernel
theorem dX3_shoot_1 : decode cX3_shoot 1 = .ok (.getfield 21, 3) := by decide +kernel
theorem dX3_shoot_4 : decode cX3_shoot 4 = .ok (.iload_n 1, 1) := by decide +kernel
theorem dX3_shoot_5 : decode cX3_shoot 5 = .ok (.iload_n 2, 1) := by decide +kernel
theorem dX3_shoot_6 : decode cX3_shoot 6 = .ok (.iload_n 3, 1) := by decide +kernel
theorem dX3_shoot_7 : decode cX3_shoot 7 = .ok (.invokevirtual 108, 3) := by decide +kernel
theorem dX3_shoot_10 : decode cX3_shoot 10 = .ok (.ifCond .eq 16, 3) := by decide +kernel
theorem dX3_shoot_13 : decode cX3_shoot 13 = .ok (.aload_n 0, 1) := by decide +kernel
theorem dX3_shoot_14 : decode cX3_shoot 14 = .ok (.getfield 29, 3) := by decide +kernel
theorem dX3_shoot_17 : decode cX3_shoot 17 = .ok (.iconst 0, 1) := by decide +kernel
theorem dX3_shoot_18 : decode cX3_shoot 18 = .ok (.dup2, 1) := by decide +kernel
theorem dX3_shoot_19 : decode cX3_shoot 19 = .ok (.iaload, 1) := by decide +kernel
theorem dX3_shoot_20 : decode cX3_shoot 20 = .ok (.iconst 1, 1) := by decide +kernel
theorem dX3_shoot_21 : decode cX3_shoot 21 = .ok (.iadd, 1) := by decide +kernel
theorem dX3_shoot_22 : decode cX3_shoot 22 = .ok (.iastore, 1) := by decide +kernel
theorem dX3_shoot_23 : decode cX3_shoot 23 = .ok (.goto 13, 3) := by decide +kernel
theorem dX3_shoot_26 : decode cX3_shoot 26 = .ok (.aload_n 0, 1) := by decide +kernel
theorem dX3_shoot_27 : decode cX3_shoot 27 = .ok (.getfield 29, 3) := by decide +kernel
theorem dX3_shoot_30 : decode cX3_shoot 30 = .ok (.iconst 1, 1) := by decide +kernel
theorem dX3_shoot_31 : decode cX3_shoot 31 = .ok (.dup2, 1) := by decide +kernel
theorem dX3_shoot_32 : decode cX3_shoot 32 = .ok (.iaload, 1) := by decide +kernel
theorem dX3_shoot_33 : decode cX3_shoot 33 = .ok (.iconst 1, 1) := by decide +kernel
theorem dX3_shoot_34 : decode cX3_shoot 34 = .ok (.iadd, 1) := by decide +kernel
theorem dX3_shoot_35 : decode cX3_shoot 35 = .ok (.iastore, 1) := by decide +kernel
theorem dX3_shoot_36 : decode cX3_shoot 36 = .ok (.return_, 1) := by decide +kernel
theorem dX3_takeHits_0 : decode cX3_takeHits 0 = .ok (.aload_n 0, 1) := by decide +kernel
theorem dX3_takeHits_1 : decode cX3_takeHits 1 = .ok (.getfield 21, 3) := by decide +kernel
theorem dX3_takeHits_4 : decode cX3_takeHits 4 = .ok (.aload_n 0, 1) := by decide +kernel
theorem dX3_takeHits_5 : decode cX3_takeHits 5 = .ok (.getfield 32, 3) := by decide +kernel
theorem dX3_takeHits_8 : decode cX3_takeHits 8 = .ok (.iconst 0, 1) := by decide +kernel
theorem dX3_takeHits_9 : decode cX3_takeHits 9 = .ok (.invokevirtual 112, 3) := by decide +kernel
theorem dX3_takeHits_12 : decode cX3_takeHits 12 = .ok (.istore_n 1, 1) := by decide +kernel
theorem dX3_takeHits_13 : decode cX3_takeHits 13 = .ok (.iload_n 1, 1) := by decide +kernel
theorem dX3_takeHits_14 : decode cX3_takeHits 14 = .ok (.ifCond .ne 5, 3) := by decide +kernel
theorem dX3_takeHits_17 : decode cX3_takeHits 17 = .ok (.iconst 0, 1) := by decide +kernel
theorem dX3_takeHits_18 : decode cX3_takeHits 18 = .ok (.ireturn, 1) := by decide +kernel
theorem dX3_takeHits_19 : decode cX3_takeHits 19 = .ok (.aload_n 0, 1) := by decide +kernel
theorem dX3_takeHits_20 : decode cX3_takeHits 20 = .ok (.getfield 29, 3) := by decide +kernel
theorem dX3_takeHits_23 : decode cX3_takeHits 23 = .ok (.iconst 3, 1) := by decide +kernel
theorem dX3_takeHits_24 : decode cX3_takeHits 24 = .ok (.dup2, 1) := by decide +kernel
theorem dX3_takeHits_25 : decode cX3_takeHits 25 = .ok (.iaload, 1) := by decide +kernel
theorem dX3_takeHits_26 : decode cX3_takeHits 26 = .ok (.iload_n 1, 1) := by decide +kernel
theorem dX3_takeHits_27 : decode cX3_takeHits 27 = .ok (.iadd, 1) := by decide +kernel
theorem dX3_takeHits_28 : decode cX3_takeHits 28 = .ok (.iastore, 1) := by decide +kernel
theorem dX3_takeHits_29 : decode cX3_takeHits 29 = .ok (.aload_n 0, 1) := by decide +kernel
theorem dX3_takeHits_30 : decode cX3_takeHits 30 = .ok (.getfield 29, 3) := by decide +kernel
theorem dX3_takeHits_33 : decode cX3_takeHits 33 = .ok (.bipush 7, 2) := by decide +kernel
theorem dX3_takeHits_35 : decode cX3_takeHits 35 = .ok (.dup2, 1) := by decide +kernel
theorem dX3_takeHits_36 : decode cX3_takeHits 36 = .ok (.iaload, 1) := by decide +kernel
theorem dX3_takeHits_37 : decode cX3_takeHits 37 = .ok (.iconst 1, 1) := by decide +kernel
theorem dX3_takeHits_38 : decode cX3_takeHits 38 = .ok (.iadd, 1) := by decide +kernel
theorem dX3_takeHits_39 : decode cX3_takeHits 39 = .ok (.iastore, 1) := by decide +kernel
theorem dX3_takeHits_40 : decode cX3_takeHits 40 = .ok (.aload_n 0, 1) := by decide +kernel
theorem dX3_takeHits_41 : decode cX3_takeHits 41 = .ok (.getfield 36, 3) := by decide +kernel
theorem dX3_takeHits_44 : decode cX3_takeHits 44 = .ok (.ifCond .ne 10, 3) := by decide +kernel
theorem dX3_takeHits_47 : decode cX3_takeHits 47 = .ok (.aload_n 0, 1) := by decide +kernel
theorem dX3_takeHits_48 : decode cX3_takeHits 48 = .ok (.iconst 1, 1) := by decide +kernel
theorem dX3_takeHits_49 : decode cX3_takeHits 49 = .ok (.putfield 45, 3) := by decide +kernel
theorem dX3_takeHits_52 : decode cX3_takeHits 52 = .ok (.iconst 2, 1) := by decide +kernel
theorem dX3_takeHits_53 : decode cX3_takeHits 53 = .ok (.ireturn, 1) := by decide +kernel
theorem dX3_takeHits_54 : decode cX3_takeHits 54 = .ok (.aload_n 0, 1) := by decide +kernel
theorem dX3_takeHits_55 : decode cX3_takeHits 55 = .ok (.dup, 1) := by decide +kernel
theorem dX3_takeHits_56 : decode cX3_takeHits 56 = .ok (.getfield 36, 3) := by decide +kernel
theorem dX3_takeHits_59 : decode cX3_takeHits 59 = .ok (.iconst 1, 1) := by decide +kernel
theorem dX3_takeHits_60 : decode cX3_takeHits 60 = .ok (.isub, 1) := by decide +kernel
theorem dX3_takeHits_61 : decode cX3_takeHits 61 = .ok (.putfield 36, 3) := by decide +kernel
theorem dX3_takeHits_64 : decode cX3_takeHits 64 = .ok (.iconst 1, 1) := by decide +kernel
theorem dX3_takeHits_65 : decode cX3_takeHits 65 = .ok (.ireturn, 1) := by decide +kernel
theorem dX3_canBomb_0 : decode cX3_canBomb 0 = .ok (.aload_n 0, 1) := by decide +kernel
theorem dX3_canBomb_1 : decode cX3_canBomb 1 = .ok (.getfield 45, 3) := by decide +kernel
theorem dX3_canBomb_4 : decode cX3_canBomb 4 = .ok (.ifCond .ne 14, 3) := by decide +kernel
theorem dX3_canBomb_7 : decode cX3_canBomb 7 = .ok (.aload_n 0, 1) := by decide +kernel
theorem dX3_canBomb_8 : decode cX3_canBomb 8 = .ok (.getfield 39, 3) := by decide +kernel
theorem dX3_canBomb_11 : decode cX3_canBomb 11 = .ok (.ifCond .le 7, 3) := by decide +kernel
theorem dX3_canBomb_14 : decode cX3_canBomb 14 = .ok (.iconst 1, 1) := by decide +kernel
theorem dX3_canBomb_15 : decode cX3_canBomb 15 = .ok (.goto 4, 3) := by decide +kernel
theorem dX3_canBomb_18 : decode cX3_canBomb 18 = .ok (.iconst 0, 1) := by decide +kernel
theorem dX3_canBomb_19 : decode cX3_canBomb 19 = .ok (.ireturn, 1) := by decide +kernel
theorem dX3_throwBomb_0 : decode cX3_throwBomb 0 = .ok (.aload_n 0, 1) := by decide +kernel
theorem dX3_throwBomb_1 : decode cX3_throwBomb 1 = .ok (.dup, 1) := by decide +kernel
theorem dX3_throwBomb_2 : decode cX3_throwBomb 2 = .ok (.getfield 39, 3) := by decide +kernel
theorem dX3_throwBomb_5 : decode cX3_throwBomb 5 = .ok (.iconst 1, 1) := by decide +kernel
theorem dX3_throwBomb_6 : decode cX3_throwBomb 6 = .ok (.isub, 1) := by decide +kernel
theorem dX3_throwBomb_7 : decode cX3_throwBomb 7 = .ok (.putfield 39, 3) := by decide +kernel
theorem dX3_throwBomb_10 : decode cX3_throwBomb 10 = .ok (.aload_n 0, 1) := by decide +kernel
theorem dX3_throwBomb_11 : decode cX3_throwBomb 11 = .ok (.getfield 21, 3) := by decide +kernel
theorem dX3_throwBomb_14 : decode cX3_throwBomb 14 = .ok (.aload_n 0, 1) := by decide +kernel
theorem dX3_throwBomb_15 : decode cX3_throwBomb 15 = .ok (.getfield 32, 3) := by decide +kernel
theorem dX3_throwBomb_18 : decode cX3_throwBomb 18 = .ok (.aload_n 0, 1) := by decide +kernel
theorem dX3_throwBomb_19 : decode cX3_throwBomb 19 = .ok (.getfield 25, 3) := by decide +kernel
theorem dX3_throwBomb_22 : decode cX3_throwBomb 22 = .ok (.iconst 1, 1) := by decide +kernel
theorem dX3_throwBomb_23 : decode cX3_throwBomb 23 = .ok (.iaload, 1) := by decide +kernel
theorem dX3_throwBomb_24 : decode cX3_throwBomb 24 = .ok (.invokevirtual 112, 3) := by decide +kernel
theorem dX3_throwBomb_27 : decode cX3_throwBomb 27 = .ok (.istore_n 1, 1) := by decide +kernel
theorem dX3_throwBomb_28 : decode cX3_throwBomb 28 = .ok (.aload_n 0, 1) := by decide +kernel
theorem dX3_throwBomb_29 : decode cX3_throwBomb 29 = .ok (.getfield 29, 3) := by decide +kernel
theorem dX3_throwBomb_32 : decode cX3_throwBomb 32 = .ok (.iconst 4, 1) := by decide +kernel
theorem dX3_throwBomb_33 : decode cX3_throwBomb 33 = .ok (.dup2, 1) := by decide +kernel
theorem dX3_throwBomb_34 : decode cX3_throwBomb 34 = .ok (.iaload, 1) := by decide +kernel
theorem dX3_throwBomb_35 : decode cX3_throwBomb 35 = .ok (.iload_n 1, 1) := by decide +kernel
theorem dX3_throwBomb_36 : decode cX3_throwBomb 36 = .ok (.iadd, 1) := by decide +kernel
theorem dX3_throwBomb_37 : decode cX3_throwBomb 37 = .ok (.iastore, 1) := by decide +kernel
theorem dX3_throwBomb_38 : decode cX3_throwBomb 38 = .ok (.iload_n 1, 1) := by decide +kernel
theorem dX3_throwBomb_39 : decode cX3_throwBomb 39 = .ok (.ireturn, 1) := by decide +kernel
theorem dX3_sweep_0 : decode cX3_sweep 0 = .ok (.aload_n 0, 1) := by decide +kernel
theorem dX3_sweep_1 : decode cX3_sweep 1 = .ok (.getfield 21, 3) := by decide +kernel
theorem dX3_sweep_4 : decode cX3_sweep 4 = .ok (.iconst 0, 1) := by decide +kernel
theorem dX3_sweep_5 : decode cX3_sweep 5 = .ok (.invokevirtual 115, 3) := by decide +kernel
theorem dX3_sweep_8 : decode cX3_sweep 8 = .ok (.istore_n 1, 1) := by decide +kernel
theorem dX3_sweep_9 : decode cX3_sweep 9 = .ok (.aload_n 0, 1) := by decide +kernel
theorem dX3_sweep_10 : decode cX3_sweep 10 = .ok (.getfield 29, 3) := by decide +kernel
theorem dX3_sweep_13 : decode cX3_sweep 13 = .ok (.iconst 5, 1) := by decide +kernel
theorem dX3_sweep_14 : decode cX3_sweep 14 = .ok (.dup2, 1) := by decide +kernel
theorem dX3_sweep_15 : decode cX3_sweep 15 = .ok (.iaload, 1) := by decide +kernel
theorem dX3_sweep_16 : decode cX3_sweep 16 = .ok (.iload_n 1, 1) := by decide +kernel
theorem dX3_sweep_17 : decode cX3_sweep 17 = .ok (.iadd, 1) := by decide +kernel
theorem dX3_sweep_18 : decode cX3_sweep 18 = .ok (.iastore, 1) := by decide +kernel
theorem dX3_sweep_19 : decode cX3_sweep 19 = .ok (.aload_n 0, 1) := by decide +kernel
theorem dX3_sweep_20 : decode cX3_sweep 20 = .ok (.iconst 3, 1) := by decide +kernel
theorem dX3_sweep_21 : decode cX3_sweep 21 = .ok (.putfield 36, 3) := by decide +kernel
theorem dX3_sweep_24 : decode cX3_sweep 24 = .ok (.aload_n 0, 1) := by decide +kernel
theorem dX3_sweep_25 : decode cX3_sweep 25 = .ok (.iconst 2, 1) := by decide +kernel
theorem dX3_sweep_26 : decode cX3_sweep 26 = .ok (.putfield 39, 3) := by decide +kernel
theorem dX3_sweep_29 : decode cX3_sweep 29 = .ok (.aload_n 0, 1) := by decide +kernel
theorem dX3_sweep_30 : decode cX3_sweep 30 = .ok (.iconst 0, 1) := by decide +kernel
theorem dX3_sweep_31 : decode cX3_sweep 31 = .ok (.putfield 45, 3) := by decide +kernel
theorem dX3_sweep_34 : decode cX3_sweep 34 = .ok (.iload_n 1, 1) := by decide +kernel
theorem dX3_sweep_35 : decode cX3_sweep 35 = .ok (.ireturn, 1) := by decide +kernel
theorem dX4_init_0 : decode cX4_init 0 = .ok (.aload_n 0, 1) := by decide +kernel
theorem dX4_init_1 : decode cX4_init 1 = .ok (.invokespecial 3, 3) := by decide +kernel
theorem dX4_init_4 : decode cX4_init 4 = .ok (.aload_n 0, 1) := by decide +kernel
theorem dX4_init_5 : decode cX4_init 5 = .ok (.iconst 4, 1) := by decide +kernel
theorem dX4_init_6 : decode cX4_init 6 = .ok (.anewarray 9, 3) := by decide +kernel
theorem dX4_init_9 : decode cX4_init 9 = .ok (.putfield 11, 3) := by decide +kernel
theorem dX4_init_12 : decode cX4_init 12 = .ok (.aload_n 0, 1) := by decide +kernel
theorem dX4_init_13 : decode cX4_init 13 = .ok (.iconst 0, 1) := by decide +kernel
theorem dX4_init_14 : decode cX4_init 14 = .ok (.putfield 17, 3) := by decide +kernel
theorem dX4_init_17 : decode cX4_init 17 = .ok (.iconst 0, 1) := by decide +kernel
theorem dX4_init_18 : decode cX4_init 18 = .ok (.istore_n 1, 1) := by decide +kernel
theorem dX4_init_19 : decode cX4_init 19 = .ok (.iload_n 1, 1) := by decide +kernel
theorem dX4_init_20 : decode cX4_init 20 = .ok (.iconst 4, 1) := by decide +kernel
theorem dX4_init_21 : decode cX4_init 21 = .ok (.if_icmp .ge 22, 3) := by decide +kernel
theorem dX4_init_24 : decode cX4_init 24 = .ok (.aload_n 0, 1) := by decide +kernel
theorem dX4_init_25 : decode cX4_init 25 = .ok (.getfield 11, 3) := by decide +kernel
theorem dX4_init_28 : decode cX4_init 28 = .ok (.iload_n 1, 1) := by decide +kernel
theorem dX4_init_29 : decode cX4_init 29 = .ok (.new 9, 3) := by decide +kernel
theorem dX4_init_32 : decode cX4_init 32 = .ok (.dup, 1) := by decide +kernel
theorem dX4_init_33 : decode cX4_init 33 = .ok (.invokespecial 21, 3) := by decide +kernel
theorem dX4_init_36 : decode cX4_init 36 = .ok (.aastore, 1) := by decide +kernel
theorem dX4_init_37 : decode cX4_init 37 = .ok (.iinc 1 1, 3) := by decide +kernel
theorem dX4_init_40 : decode cX4_init 40 = .ok (.goto (-21), 3) := by decide +kernel
theorem dX4_init_43 : decode cX4_init 43 = .ok (.return_, 1) := by decide +kernel
theorem dX4_record_0 : decode cX4_record 0 = .ok (.aload_n 0, 1) := by decide +kernel
theorem dX4_record_1 : decode cX4_record 1 = .ok (.getfield 17, 3) := by decide +kernel
theorem dX4_record_4 : decode cX4_record 4 = .ok (.iconst 4, 1) := by decide +kernel
theorem dX4_record_5 : decode cX4_record 5 = .ok (.if_icmp .lt 7, 3) := by decide +kernel
theorem dX4_record_8 : decode cX4_record 8 = .ok (.aload_n 0, 1) := by decide +kernel
theorem dX4_record_9 : decode cX4_record 9 = .ok (.invokevirtual 22, 3) := by decide +kernel
theorem dX4_record_12 : decode cX4_record 12 = .ok (.aload_n 0, 1) := by decide +kernel
theorem dX4_record_13 : decode cX4_record 13 = .ok (.getfield 11, 3) := by decide +kernel
theorem dX4_record_16 : decode cX4_record 16 = .ok (.aload_n 0, 1) := by decide +kernel
theorem dX4_record_17 : decode cX4_record 17 = .ok (.getfield 17, 3) := by decide +kernel
theorem dX4_record_20 : decode cX4_record 20 = .ok (.aaload, 1) := by decide +kernel
theorem dX4_record_21 : decode cX4_record 21 = .ok (.aload_n 1, 1) := by decide +kernel
theorem dX4_record_22 : decode cX4_record 22 = .ok (.invokevirtual 25, 3) := by decide +kernel
theorem dX4_record_25 : decode cX4_record 25 = .ok (.aload_n 0, 1) := by decide +kernel
theorem dX4_record_26 : decode cX4_record 26 = .ok (.dup, 1) := by decide +kernel
theorem dX4_record_27 : decode cX4_record 27 = .ok (.getfield 17, 3) := by decide +kernel
theorem dX4_record_30 : decode cX4_record 30 = .ok (.iconst 1, 1) := by decide +kernel
theorem dX4_record_31 : decode cX4_record 31 = .ok (.iadd, 1) := by decide +kernel
theorem dX4_record_32 : decode cX4_record 32 = .ok (.putfield 17, 3) := by decide +kernel
theorem dX4_record_35 : decode cX4_record 35 = .ok (.return_, 1) := by decide +kernel
theorem dX4_dropOldest_0 : decode cX4_dropOldest 0 = .ok (.aload_n 0, 1) := by decide +kernel
theorem dX4_dropOldest_1 : decode cX4_dropOldest 1 = .ok (.getfield 11, 3) := by decide +kernel
theorem dX4_dropOldest_4 : decode cX4_dropOldest 4 = .ok (.iconst 0, 1) := by decide +kernel
theorem dX4_dropOldest_5 : decode cX4_dropOldest 5 = .ok (.aaload, 1) := by decide +kernel
theorem dX4_dropOldest_6 : decode cX4_dropOldest 6 = .ok (.astore_n 1, 1) := by decide +kernel
theorem dX4_dropOldest_7 : decode cX4_dropOldest 7 = .ok (.iconst 1, 1) := by decide +kernel
theorem dX4_dropOldest_8 : decode cX4_dropOldest 8 = .ok (.istore_n 2, 1) := by decide +kernel
theorem dX4_dropOldest_9 : decode cX4_dropOldest 9 = .ok (.iload_n 2, 1) := by decide +kernel
theorem dX4_dropOldest_10 : decode cX4_dropOldest 10 = .ok (.iconst 4, 1) := by decide +kernel
theorem dX4_dropOldest_11 : decode cX4_dropOldest 11 = .ok (.if_icmp .ge 23, 3) := by decide +kernel
theorem dX4_dropOldest_14 : decode cX4_dropOldest 14 = .ok (.aload_n 0, 1) := by decide +kernel
theorem dX4_dropOldest_15 : decode cX4_dropOldest 15 = .ok (.getfield 11, 3) := by decide +kernel
theorem dX4_dropOldest_18 : decode cX4_dropOldest 18 = .ok (.iload_n 2, 1) := by decide +kernel
theorem dX4_dropOldest_19 : decode cX4_dropOldest 19 = .ok (.iconst 1, 1) := by decide +kernel
theorem dX4_dropOldest_20 : decode cX4_dropOldest 20 = .ok (.isub, 1) := by decide +kernel
theorem dX4_dropOldest_21 : decode cX4_dropOldest 21 = .ok (.aload_n 0, 1) := by decide +kernel
theorem dX4_dropOldest_22 : decode cX4_dropOldest 22 = .ok (.getfield 11, 3) := by decide +kernel
theorem dX4_dropOldest_25 : decode cX4_dropOldest 25 = .ok (.iload_n 2, 1) := by decide +kernel
theorem dX4_dropOldest_26 : decode cX4_dropOldest 26 = .ok (.aaload, 1) := by decide +kernel
theorem dX4_dropOldest_27 : decode cX4_dropOldest 27 = .ok (.aastore, 1) := by decide +kernel
theorem dX4_dropOldest_28 : decode cX4_dropOldest 28 = .ok (.iinc 2 1, 3) := by decide +kernel
theorem dX4_dropOldest_31 : decode cX4_dropOldest 31 = .ok (.goto (-22), 3) := by decide +kernel
theorem dX4_dropOldest_34 : decode cX4_dropOldest 34 = .ok (.aload_n 0, 1) := by decide +kernel
theorem dX4_dropOldest_35 : decode cX4_dropOldest 35 = .ok (.getfield 11, 3) := by decide +kernel
theorem dX4_dropOldest_38 : decode cX4_dropOldest 38 = .ok (.iconst 3, 1) := by decide +kernel
theorem dX4_dropOldest_39 : decode cX4_dropOldest 39 = .ok (.aload_n 1, 1) := by decide +kernel
theorem dX4_dropOldest_40 : decode cX4_dropOldest 40 = .ok (.aastore, 1) := by decide +kernel
theorem dX4_dropOldest_41 : decode cX4_dropOldest 41 = .ok (.aload_n 0, 1) := by decide +kernel
theorem dX4_dropOldest_42 : decode cX4_dropOldest 42 = .ok (.iconst 3, 1) := by decide +kernel
theorem dX4_dropOldest_43 : decode cX4_dropOldest 43 = .ok (.putfield 17, 3) := by decide +kernel
theorem dX4_dropOldest_46 : decode cX4_dropOldest 46 = .ok (.return_, 1) := by decide +kernel
theorem dX4_takeBack_0 : decode cX4_takeBack 0 = .ok (.aload_n 0, 1) := by decide +kernel
theorem dX4_takeBack_1 : decode cX4_takeBack 1 = .ok (.getfield 17, 3) := by decide +kernel
theorem dX4_takeBack_4 : decode cX4_takeBack 4 = .ok (.ifCond .le 26, 3) := by decide +kernel
theorem dX4_takeBack_7 : decode cX4_takeBack 7 = .ok (.aload_n 0, 1) := by decide +kernel
theorem dX4_takeBack_8 : decode cX4_takeBack 8 = .ok (.dup, 1) := by decide +kernel
theorem dX4_takeBack_9 : decode cX4_takeBack 9 = .ok (.getfield 17, 3) := by decide +kernel
theorem dX4_takeBack_12 : decode cX4_takeBack 12 = .ok (.iconst 1, 1) := by decide +kernel
theorem dX4_takeBack_13 : decode cX4_takeBack 13 = .ok (.isub, 1) := by decide +kernel
theorem dX4_takeBack_14 : decode cX4_takeBack 14 = .ok (.putfield 17, 3) := by decide +kernel
theorem dX4_takeBack_17 : decode cX4_takeBack 17 = .ok (.aload_n 1, 1) := by decide +kernel
theorem dX4_takeBack_18 : decode cX4_takeBack 18 = .ok (.aload_n 0, 1) := by decide +kernel
theorem dX4_takeBack_19 : decode cX4_takeBack 19 = .ok (.getfield 11, 3) := by decide +kernel
theorem dX4_takeBack_22 : decode cX4_takeBack 22 = .ok (.aload_n 0, 1) := by decide +kernel
theorem dX4_takeBack_23 : decode cX4_takeBack 23 = .ok (.getfield 17, 3) := by decide +kernel
theorem dX4_takeBack_26 : decode cX4_takeBack 26 = .ok (.aaload, 1) := by decide +kernel
theorem dX4_takeBack_27 : decode cX4_takeBack 27 = .ok (.invokevirtual 25, 3) := by decide +kernel
theorem dX4_takeBack_30 : decode cX4_takeBack 30 = .ok (.return_, 1) := by decide +kernel
theorem dX5_init_0 : decode cX5_init 0 = .ok (.aload_n 0, 1) := by decide +kernel
theorem dX5_init_1 : decode cX5_init 1 = .ok (.invokespecial 3, 3) := by decide +kernel
theorem dX5_init_4 : decode cX5_init 4 = .ok (.aload_n 0, 1) := by decide +kernel
theorem dX5_init_5 : decode cX5_init 5 = .ok (.bipush 31, 2) := by decide +kernel
theorem dX5_init_7 : decode cX5_init 7 = .ok (.newarray .int, 2) := by decide +kernel
theorem dX5_init_9 : decode cX5_init 9 = .ok (.putfield 9, 3) := by decide +kernel
theorem dX5_init_12 : decode cX5_init 12 = .ok (.aload_n 0, 1) := by decide +kernel
theorem dX5_init_13 : decode cX5_init 13 = .ok (.bipush 31, 2) := by decide +kernel
theorem dX5_init_15 : decode cX5_init 15 = .ok (.bipush 10, 2) := by decide +kernel
theorem dX5_init_17 : decode cX5_init 17 = .ok (.multianewarray 15 2, 4) := by decide +kernel
theorem dX5_init_21 : decode cX5_init 21 = .ok (.putfield 17, 3) := by decide +kernel
theorem dX5_init_24 : decode cX5_init 24 = .ok (.return_, 1) := by decide +kernel
theorem dX5_foresee_0 : decode cX5_foresee 0 = .ok (.aload_n 0, 1) := by decide +kernel
theorem dX5_foresee_1 : decode cX5_foresee 1 = .ok (.getfield 9, 3) := by decide +kernel
theorem dX5_foresee_4 : decode cX5_foresee 4 = .ok (.iconst 0, 1) := by decide +kernel
theorem dX5_foresee_5 : decode cX5_foresee 5 = .ok (.aload_n 1, 1) := by decide +kernel
theorem dX5_foresee_6 : decode cX5_foresee 6 = .ok (.getfield 20, 3) := by decide +kernel
theorem dX5_foresee_9 : decode cX5_foresee 9 = .ok (.invokevirtual 26, 3) := by decide +kernel
theorem dX5_foresee_12 : decode cX5_foresee 12 = .ok (.iastore, 1) := by decide +kernel
theorem dX5_foresee_13 : decode cX5_foresee 13 = .ok (.iconst 1, 1) := by decide +kernel
theorem dX5_foresee_14 : decode cX5_foresee 14 = .ok (.istore_n 3, 1) := by decide +kernel
theorem dX5_foresee_15 : decode cX5_foresee 15 = .ok (.iload_n 3, 1) := by decide +kernel
theorem dX5_foresee_16 : decode cX5_foresee 16 = .ok (.iload_n 2, 1) := by decide +kernel
theorem dX5_foresee_17 : decode cX5_foresee 17 = .ok (.if_icmp .gt 26, 3) := by decide +kernel
theorem dX5_foresee_20 : decode cX5_foresee 20 = .ok (.aload_n 1, 1) := by decide +kernel
theorem dX5_foresee_21 : decode cX5_foresee 21 = .ok (.invokevirtual 32, 3) := by decide +kernel
theorem dX5_foresee_24 : decode cX5_foresee 24 = .ok (.aload_n 0, 1) := by decide +kernel
theorem dX5_foresee_25 : decode cX5_foresee 25 = .ok (.getfield 9, 3) := by decide +kernel
theorem dX5_foresee_28 : decode cX5_foresee 28 = .ok (.iload_n 3, 1) := by decide +kernel
theorem dX5_foresee_29 : decode cX5_foresee 29 = .ok (.aload_n 1, 1) := by decide +kernel
theorem dX5_foresee_30 : decode cX5_foresee 30 = .ok (.getfield 20, 3) := by decide +kernel
theorem dX5_foresee_33 : decode cX5_foresee 33 = .ok (.invokevirtual 26, 3) := by decide +kernel
theorem dX5_foresee_36 : decode cX5_foresee 36 = .ok (.iastore, 1) := by decide +kernel
theorem dX5_foresee_37 : decode cX5_foresee 37 = .ok (.iinc 3 1, 3) := by decide +kernel
theorem dX5_foresee_40 : decode cX5_foresee 40 = .ok (.goto (-25), 3) := by decide +kernel
theorem dX5_foresee_43 : decode cX5_foresee 43 = .ok (.return_, 1) := by decide +kernel
theorem dX5_sumFree_0 : decode cX5_sumFree 0 = .ok (.iconst 0, 1) := by decide +kernel
theorem dX5_sumFree_1 : decode cX5_sumFree 1 = .ok (.istore_n 2, 1) := by decide +kernel
theorem dX5_sumFree_2 : decode cX5_sumFree 2 = .ok (.iconst 1, 1) := by decide +kernel
theorem dX5_sumFree_3 : decode cX5_sumFree 3 = .ok (.istore_n 3, 1) := by decide +kernel
theorem dX5_sumFree_4 : decode cX5_sumFree 4 = .ok (.iload_n 3, 1) := by decide +kernel
theorem dX5_sumFree_5 : decode cX5_sumFree 5 = .ok (.iload_n 1, 1) := by decide +kernel
theorem dX5_sumFree_6 : decode cX5_sumFree 6 = .ok (.if_icmp .gt 21, 3) := by decide +kernel
theorem dX5_sumFree_9 : decode cX5_sumFree 9 = .ok (.iload_n 2, 1) := by decide +kernel
theorem dX5_sumFree_10 : decode cX5_sumFree 10 = .ok (.aload_n 0, 1) := by decide +kernel
theorem dX5_sumFree_11 : decode cX5_sumFree 11 = .ok (.getfield 9, 3) := by decide +kernel
theorem dX5_sumFree_14 : decode cX5_sumFree 14 = .ok (.iload_n 3, 1) := by decide +kernel
theorem dX5_sumFree_15 : decode cX5_sumFree 15 = .ok (.iaload, 1) := by decide +kernel
theorem dX5_sumFree_16 : decode cX5_sumFree 16 = .ok (.invokestatic 35, 3) := by decide +kernel
theorem dX5_sumFree_19 : decode cX5_sumFree 19 = .ok (.iadd, 1) := by decide +kernel
theorem dX5_sumFree_20 : decode cX5_sumFree 20 = .ok (.istore_n 2, 1) := by decide +kernel
theorem dX5_sumFree_21 : decode cX5_sumFree 21 = .ok (.iinc 3 1, 3) := by decide +kernel
theorem dX5_sumFree_24 : decode cX5_sumFree 24 = .ok (.goto (-20), 3) := by decide +kernel
theorem dX5_sumFree_27 : decode cX5_sumFree 27 = .ok (.iload_n 2, 1) := by decide +kernel
theorem dX5_sumFree_28 : decode cX5_sumFree 28 = .ok (.ireturn, 1) := by decide +kernel
theorem dX5_isFree_0 : decode cX5_isFree 0 = .ok (.iload_n 2, 1) := by decide +kernel
theorem dX5_isFree_1 : decode cX5_isFree 1 = .ok (.invokestatic 41, 3) := by decide +kernel
theorem dX5_isFree_4 : decode cX5_isFree 4 = .ok (.ifCond .eq 21, 3) := by decide +kernel
theorem dX5_isFree_7 : decode cX5_isFree 7 = .ok (.aload_n 0, 1) := by decide +kernel
theorem dX5_isFree_8 : decode cX5_isFree 8 = .ok (.getfield 9, 3) := by decide +kernel
theorem dX5_isFree_11 : decode cX5_isFree 11 = .ok (.iload_n 1, 1) := by decide +kernel
theorem dX5_isFree_12 : decode cX5_isFree 12 = .ok (.iaload, 1) := by decide +kernel
theorem dX5_isFree_13 : decode cX5_isFree 13 = .ok (.iload_n 2, 1) := by decide +kernel
theorem dX5_isFree_14 : decode cX5_isFree 14 = .ok (.ishr, 1) := by decide +kernel
theorem dX5_isFree_15 : decode cX5_isFree 15 = .ok (.iconst 1, 1) := by decide +kernel
theorem dX5_isFree_16 : decode cX5_isFree 16 = .ok (.iand, 1) := by decide +kernel
theorem dX5_isFree_17 : decode cX5_isFree 17 = .ok (.iconst 1, 1) := by decide +kernel
theorem dX5_isFree_18 : decode cX5_isFree 18 = .ok (.if_icmp .ne 7, 3) := by decide +kernel
theorem dX5_isFree_21 : decode cX5_isFree 21 = .ok (.iconst 1, 1) := by decide +kernel
theorem dX5_isFree_22 : decode cX5_isFree 22 = .ok (.goto 4, 3) := by decide +kernel
theorem dX5_isFree_25 : decode cX5_isFree 25 = .ok (.iconst 0, 1) := by decide +kernel
theorem dX5_isFree_26 : decode cX5_isFree 26 = .ok (.ireturn, 1) := by decide +kernel
theorem dX5_countLanes_0 : decode cX5_countLanes 0 = .ok (.iconst 0, 1) := by decide +kernel
theorem dX5_countLanes_1 : decode cX5_countLanes 1 = .ok (.istore_n 2, 1) := by decide +kernel
theorem dX5_countLanes_2 : decode cX5_countLanes 2 = .ok (.iconst 0, 1) := by decide +kernel
theorem dX5_countLanes_3 : decode cX5_countLanes 3 = .ok (.istore_n 3, 1) := by decide +kernel
theorem dX5_countLanes_4 : decode cX5_countLanes 4 = .ok (.iload_n 3, 1) := by decide +kernel
theorem dX5_countLanes_5 : decode cX5_countLanes 5 = .ok (.bipush 10, 2) := by decide +kernel
theorem dX5_countLanes_7 : decode cX5_countLanes 7 = .ok (.if_icmp .ge 32, 3) := by decide +kernel
theorem dX5_countLanes_10 : decode cX5_countLanes 10 = .ok (.aload_n 0, 1) := by decide +kernel
theorem dX5_countLanes_11 : decode cX5_countLanes 11 = .ok (.iload_n 1, 1) := by decide +kernel
theorem dX5_countLanes_12 : decode cX5_countLanes 12 = .ok (.iload_n 3, 1) := by decide +kernel
theorem dX5_countLanes_13 : decode cX5_countLanes 13 = .ok (.invokevirtual 45, 3) := by decide +kernel
theorem dX5_countLanes_16 : decode cX5_countLanes 16 = .ok (.ifCond .eq 17, 3) := by decide +kernel
theorem dX5_countLanes_19 : decode cX5_countLanes 19 = .ok (.aload_n 0, 1) := by decide +kernel
theorem dX5_countLanes_20 : decode cX5_countLanes 20 = .ok (.iload_n 1, 1) := by decide +kernel
theorem dX5_countLanes_21 : decode cX5_countLanes 21 = .ok (.iload_n 3, 1) := by decide +kernel
theorem dX5_countLanes_22 : decode cX5_countLanes 22 = .ok (.iconst 1, 1) := by decide +kernel
theorem dX5_countLanes_23 : decode cX5_countLanes 23 = .ok (.isub, 1) := by decide +kernel
theorem dX5_countLanes_24 : decode cX5_countLanes 24 = .ok (.invokevirtual 45, 3) := by decide +kernel
theorem dX5_countLanes_27 : decode cX5_countLanes 27 = .ok (.ifCond .ne 6, 3) := by decide +kernel
theorem dX5_countLanes_30 : decode cX5_countLanes 30 = .ok (.iinc 2 1, 3) := by decide +kernel
theorem dX5_countLanes_33 : decode cX5_countLanes 33 = .ok (.iinc 3 1, 3) := by decide +kernel
theorem dX5_countLanes_36 : decode cX5_countLanes 36 = .ok (.goto (-32), 3) := by decide +kernel
theorem dX5_countLanes_39 : decode cX5_countLanes 39 = .ok (.iload_n 2, 1) := by decide +kernel
theorem dX5_countLanes_40 : decode cX5_countLanes 40 = .ok (.ireturn, 1) := by decide +kernel
theorem dX5_widest_0 : decode cX5_widest 0 = .ok (.iconst 0, 1) := by decide +kernel
theorem dX5_widest_1 : decode cX5_widest 1 = .ok (.istore_n 2, 1) := by decide +kernel
theorem dX5_widest_2 : decode cX5_widest 2 = .ok (.iconst 0, 1) := by decide +kernel
theorem dX5_widest_3 : decode cX5_widest 3 = .ok (.istore_n 3, 1) := by decide +kernel
theorem dX5_widest_4 : decode cX5_widest 4 = .ok (.iload_n 3, 1) := by decide +kernel
theorem dX5_widest_5 : decode cX5_widest 5 = .ok (.bipush 10, 2) := by decide +kernel
theorem dX5_widest_7 : decode cX5_widest 7 = .ok (.if_icmp .ge 20, 3) := by decide +kernel
theorem dX5_widest_10 : decode cX5_widest 10 = .ok (.iload_n 2, 1) := by decide +kernel
theorem dX5_widest_11 : decode cX5_widest 11 = .ok (.aload_n 0, 1) := by decide +kernel
theorem dX5_widest_12 : decode cX5_widest 12 = .ok (.iload_n 1, 1) := by decide +kernel
theorem dX5_widest_13 : decode cX5_widest 13 = .ok (.iload_n 3, 1) := by decide +kernel
theorem dX5_widest_14 : decode cX5_widest 14 = .ok (.invokevirtual 49, 3) := by decide +kernel
theorem dX5_widest_17 : decode cX5_widest 17 = .ok (.invokestatic 53, 3) := by decide +kernel
theorem dX5_widest_20 : decode cX5_widest 20 = .ok (.istore_n 2, 1) := by decide +kernel
theorem dX5_widest_21 : decode cX5_widest 21 = .ok (.iinc 3 1, 3) := by decide +kernel
theorem dX5_widest_24 : decode cX5_widest 24 = .ok (.goto (-20), 3) := by decide +kernel
theorem dX5_widest_27 : decode cX5_widest 27 = .ok (.iload_n 2, 1) := by decide +kernel
theorem dX5_widest_28 : decode cX5_widest 28 = .ok (.ireturn, 1) := by decide +kernel
theorem dX5_startOfWidest_0 : decode cX5_startOfWidest 0 = .ok (.aload_n 0, 1) := by decide +kernel
theorem dX5_startOfWidest_1 : decode cX5_startOfWidest 1 = .ok (.iload_n 1, 1) := by decide +kernel
theorem dX5_startOfWidest_2 : decode cX5_startOfWidest 2 = .ok (.invokevirtual 58, 3) := by decide +kernel
theorem dX5_startOfWidest_5 : decode cX5_startOfWidest 5 = .ok (.istore_n 2, 1) := by decide +kernel
theorem dX5_startOfWidest_6 : decode cX5_startOfWidest 6 = .ok (.iconst 0, 1) := by decide +kernel
theorem dX5_startOfWidest_7 : decode cX5_startOfWidest 7 = .ok (.istore_n 3, 1) := by decide +kernel
theorem dX5_startOfWidest_8 : decode cX5_startOfWidest 8 = .ok (.iload_n 3, 1) := by decide +kernel
theorem dX5_startOfWidest_9 : decode cX5_startOfWidest 9 = .ok (.bipush 10, 2) := by decide +kernel
theorem dX5_startOfWidest_11 : decode cX5_startOfWidest 11 = .ok (.if_icmp .ge 25, 3) := by decide +kernel
theorem dX5_startOfWidest_14 : decode cX5_startOfWidest 14 = .ok (.iload_n 2, 1) := by decide +kernel
theorem dX5_startOfWidest_15 : decode cX5_startOfWidest 15 = .ok (.ifCond .le 15, 3) := by decide +kernel
theorem dX5_startOfWidest_18 : decode cX5_startOfWidest 18 = .ok (.aload_n 0, 1) := by decide +kernel
theorem dX5_startOfWidest_19 : decode cX5_startOfWidest 19 = .ok (.iload_n 1, 1) := by decide +kernel
theorem dX5_startOfWidest_20 : decode cX5_startOfWidest 20 = .ok (.iload_n 3, 1) := by decide +kernel
theorem dX5_startOfWidest_21 : decode cX5_startOfWidest 21 = .ok (.invokevirtual 49, 3) := by decide +kernel
theorem dX5_startOfWidest_24 : decode cX5_startOfWidest 24 = .ok (.iload_n 2, 1) := by decide +kernel
theorem dX5_startOfWidest_25 : decode cX5_startOfWidest 25 = .ok (.if_icmp .ne 5, 3) := by decide +kernel
theorem dX5_startOfWidest_28 : decode cX5_startOfWidest 28 = .ok (.iload_n 3, 1) := by decide +kernel
theorem dX5_startOfWidest_29 : decode cX5_startOfWidest 29 = .ok (.ireturn, 1) := by decide +kernel
theorem dX5_startOfWidest_30 : decode cX5_startOfWidest 30 = .ok (.iinc 3 1, 3) := by decide +kernel
theorem dX5_startOfWidest_33 : decode cX5_startOfWidest 33 = .ok (.goto (-25), 3) := by decide +kernel
theorem dX5_startOfWidest_36 : decode cX5_startOfWidest 36 = .ok (.bipush (-4), 2) := by decide +kernel
theorem dX5_startOfWidest_38 : decode cX5_startOfWidest 38 = .ok (.ireturn, 1) := by decide +kernel
theorem dX5_widthFrom_0 : decode cX5_widthFrom 0 = .ok (.iload_n 2, 1) := by decide +kernel
theorem dX5_widthFrom_1 : decode cX5_widthFrom 1 = .ok (.istore_n 3, 1) := by decide +kernel
theorem dX5_widthFrom_2 : decode cX5_widthFrom 2 = .ok (.iload_n 3, 1) := by decide +kernel
theorem dX5_widthFrom_3 : decode cX5_widthFrom 3 = .ok (.bipush 10, 2) := by decide +kernel
theorem dX5_widthFrom_5 : decode cX5_widthFrom 5 = .ok (.if_icmp .ge 18, 3) := by decide +kernel
theorem dX5_widthFrom_8 : decode cX5_widthFrom 8 = .ok (.aload_n 0, 1) := by decide +kernel
theorem dX5_widthFrom_9 : decode cX5_widthFrom 9 = .ok (.iload_n 1, 1) := by decide +kernel
theorem dX5_widthFrom_10 : decode cX5_widthFrom 10 = .ok (.iload_n 3, 1) := by decide +kernel
theorem dX5_widthFrom_11 : decode cX5_widthFrom 11 = .ok (.invokevirtual 45, 3) := by decide +kernel
theorem dX5_widthFrom_14 : decode cX5_widthFrom 14 = .ok (.ifCond .eq 9, 3) := by decide +kernel
theorem dX5_widthFrom_17 : decode cX5_widthFrom 17 = .ok (.iinc 3 1, 3) := by decide +kernel
theorem dX5_widthFrom_20 : decode cX5_widthFrom 20 = .ok (.goto (-18), 3) := by decide +kernel
theorem dX5_widthFrom_23 : decode cX5_widthFrom 23 = .ok (.iload_n 3, 1) := by decide +kernel
theorem dX5_widthFrom_24 : decode cX5_widthFrom 24 = .ok (.iload_n 2, 1) := by decide +kernel
theorem dX5_widthFrom_25 : decode cX5_widthFrom 25 = .ok (.isub, 1) := by decide +kernel
theorem dX5_widthFrom_26 : decode cX5_widthFrom 26 = .ok (.ireturn, 1) := by decide +kernel
theorem dX5_spread_0 : decode cX5_spread 0 = .ok (.iload_n 0, 1) := by decide +kernel
theorem dX5_spread_1 : decode cX5_spread 1 = .ok (.iload_n 0, 1) := by decide +kernel
theorem dX5_spread_2 : decode cX5_spread 2 = .ok (.iconst 1, 1) := by decide +kernel
theorem dX5_spread_3 : decode cX5_spread 3 = .ok (.ishl, 1) := by decide +kernel
theorem dX5_spread_4 : decode cX5_spread 4 = .ok (.ior, 1) := by decide +kernel
theorem dX5_spread_5 : decode cX5_spread 5 = .ok (.iload_n 0, 1) := by decide +kernel
theorem dX5_spread_6 : decode cX5_spread 6 = .ok (.iconst 1, 1) := by decide +kernel
theorem dX5_spread_7 : decode cX5_spread 7 = .ok (.ishr, 1) := by decide +kernel
theorem dX5_spread_8 : decode cX5_spread 8 = .ok (.ior, 1) := by decide +kernel
theorem dX5_spread_9 : decode cX5_spread 9 = .ok (.ireturn, 1) := by decide +kernel
theorem dX5_endsForwards_0 : decode cX5_endsForwards 0 = .ok (.iconst 1, 1) := by decide +kernel
theorem dX5_endsForwards_1 : decode cX5_endsForwards 1 = .ok (.iload_n 1, 1) := by decide +kernel
theorem dX5_endsForwards_2 : decode cX5_endsForwards 2 = .ok (.ishl, 1) := by decide +kernel
theorem dX5_endsForwards_3 : decode cX5_endsForwards 3 = .ok (.istore_n 3, 1) := by decide +kernel
theorem dX5_endsForwards_4 : decode cX5_endsForwards 4 = .ok (.iconst 1, 1) := by decide +kernel
theorem dX5_endsForwards_5 : decode cX5_endsForwards 5 = .ok (.istore 4, 2) := by decide +kernel
theorem dX5_endsForwards_7 : decode cX5_endsForwards 7 = .ok (.iload 4, 2) := by decide +kernel
theorem dX5_endsForwards_9 : decode cX5_endsForwards 9 = .ok (.iload_n 2, 1) := by decide +kernel
theorem dX5_endsForwards_10 : decode cX5_endsForwards 10 = .ok (.if_icmp .gt 22, 3) := by decide +kernel
theorem dX5_endsForwards_13 : decode cX5_endsForwards 13 = .ok (.iload_n 3, 1) := by decide +kernel
theorem dX5_endsForwards_14 : decode cX5_endsForwards 14 = .ok (.invokestatic 61, 3) := by decide +kernel
theorem dX5_endsForwards_17 : decode cX5_endsForwards 17 = .ok (.aload_n 0, 1) := by decide +kernel
theorem dX5_endsForwards_18 : decode cX5_endsForwards 18 = .ok (.getfield 9, 3) := by decide +kernel
theorem dX5_endsForwards_21 : decode cX5_endsForwards 21 = .ok (.iload 4, 2) := by decide +kernel
theorem dX5_endsForwards_23 : decode cX5_endsForwards 23 = .ok (.iaload, 1) := by decide +kernel
theorem dX5_endsForwards_24 : decode cX5_endsForwards 24 = .ok (.iand, 1) := by decide +kernel
theorem dX5_endsForwards_25 : decode cX5_endsForwards 25 = .ok (.istore_n 3, 1) := by decide +kernel
theorem dX5_endsForwards_26 : decode cX5_endsForwards 26 = .ok (.iinc 4 1, 3) := by decide +kernel
theorem dX5_endsForwards_29 : decode cX5_endsForwards 29 = .ok (.goto (-22), 3) := by decide +kernel
theorem dX5_endsForwards_32 : decode cX5_endsForwards 32 = .ok (.iload_n 3, 1) := by decide +kernel
theorem dX5_endsForwards_33 : decode cX5_endsForwards 33 = .ok (.invokestatic 35, 3) := by decide +kernel
theorem dX5_endsForwards_36 : decode cX5_endsForwards 36 = .ok (.ireturn, 1) := by decide +kernel
theorem dX5_endsBackwards_0 : decode cX5_endsBackwards 0 = .ok (.iconst 0, 1) := by decide +kernel
theorem dX5_endsBackwards_1 : decode cX5_endsBackwards 1 = .ok (.istore_n 3, 1) := by decide +kernel
theorem dX5_endsBackwards_2 : decode cX5_endsBackwards 2 = .ok (.iconst 0, 1) := by decide +kernel
theorem dX5_endsBackwards_3 : decode cX5_endsBackwards 3 = .ok (.istore 4, 2) := by decide +kernel
theorem dX5_endsBackwards_5 : decode cX5_endsBackwards 5 = .ok (.iload 4, 2) := by decide +kernel
theorem dX5_endsBackwards_7 : decode cX5_endsBackwards 7 = .ok (.bipush 10, 2) := by decide +kernel
theorem dX5_endsBackwards_9 : decode cX5_endsBackwards 9 = .ok (.if_icmp .ge 23, 3) := by decide +kernel
theorem dX5_endsBackwards_12 : decode cX5_endsBackwards 12 = .ok (.aload_n 0, 1) := by decide +kernel
theorem dX5_endsBackwards_13 : decode cX5_endsBackwards 13 = .ok (.iload 4, 2) := by decide +kernel
theorem dX5_endsBackwards_15 : decode cX5_endsBackwards 15 = .ok (.iload_n 1, 1) := by decide +kernel
theorem dX5_endsBackwards_16 : decode cX5_endsBackwards 16 = .ok (.iload_n 2, 1) := by decide +kernel
theorem dX5_endsBackwards_17 : decode cX5_endsBackwards 17 = .ok (.invokevirtual 64, 3) := by decide +kernel
theorem dX5_endsBackwards_20 : decode cX5_endsBackwards 20 = .ok (.ifCond .eq 6, 3) := by decide +kernel
theorem dX5_endsBackwards_23 : decode cX5_endsBackwards 23 = .ok (.iinc 3 1, 3) := by decide +kernel
theorem dX5_endsBackwards_26 : decode cX5_endsBackwards 26 = .ok (.iinc 4 1, 3) := by decide +kernel
theorem dX5_endsBackwards_29 : decode cX5_endsBackwards 29 = .ok (.goto (-24), 3) := by decide +kernel
theorem dX5_endsBackwards_32 : decode cX5_endsBackwards 32 = .ok (.iload_n 3, 1) := by decide +kernel
theorem dX5_endsBackwards_33 : decode cX5_endsBackwards 33 = .ok (.ireturn, 1) := by decide +kernel
theorem dX5_leadsBack_0 : decode cX5_leadsBack 0 = .ok (.iconst 1, 1) := by decide +kernel
theorem dX5_leadsBack_1 : decode cX5_leadsBack 1 = .ok (.iload_n 1, 1) := by decide +kernel
theorem dX5_leadsBack_2 : decode cX5_leadsBack 2 = .ok (.ishl, 1) := by decide +kernel
theorem dX5_leadsBack_3 : decode cX5_leadsBack 3 = .ok (.istore 4, 2) := by decide +kernel
theorem dX5_leadsBack_5 : decode cX5_leadsBack 5 = .ok (.iload_n 3, 1) := by decide +kernel
theorem dX5_leadsBack_6 : decode cX5_leadsBack 6 = .ok (.istore 5, 2) := by decide +kernel
theorem dX5_leadsBack_8 : decode cX5_leadsBack 8 = .ok (.iload 5, 2) := by decide +kernel
theorem dX5_leadsBack_10 : decode cX5_leadsBack 10 = .ok (.iconst 1, 1) := by decide +kernel
theorem dX5_leadsBack_11 : decode cX5_leadsBack 11 = .ok (.if_icmp .lt 24, 3) := by decide +kernel
theorem dX5_leadsBack_14 : decode cX5_leadsBack 14 = .ok (.iload 4, 2) := by decide +kernel
theorem dX5_leadsBack_16 : decode cX5_leadsBack 16 = .ok (.aload_n 0, 1) := by decide +kernel
theorem dX5_leadsBack_17 : decode cX5_leadsBack 17 = .ok (.getfield 9, 3) := by decide +kernel
theorem dX5_leadsBack_20 : decode cX5_leadsBack 20 = .ok (.iload 5, 2) := by decide +kernel
theorem dX5_leadsBack_22 : decode cX5_leadsBack 22 = .ok (.iaload, 1) := by decide +kernel
theorem dX5_leadsBack_23 : decode cX5_leadsBack 23 = .ok (.iand, 1) := by decide +kernel
theorem dX5_leadsBack_24 : decode cX5_leadsBack 24 = .ok (.invokestatic 61, 3) := by decide +kernel
theorem dX5_leadsBack_27 : decode cX5_leadsBack 27 = .ok (.istore 4, 2) := by decide +kernel
theorem dX5_leadsBack_29 : decode cX5_leadsBack 29 = .ok (.iinc 5 (-1), 3) := by decide +kernel
theorem dX5_leadsBack_32 : decode cX5_leadsBack 32 = .ok (.goto (-24), 3) := by decide +kernel
theorem dX5_leadsBack_35 : decode cX5_leadsBack 35 = .ok (.iload 4, 2) := by decide +kernel
theorem dX5_leadsBack_37 : decode cX5_leadsBack 37 = .ok (.iload_n 2, 1) := by decide +kernel
theorem dX5_leadsBack_38 : decode cX5_leadsBack 38 = .ok (.ishr, 1) := by decide +kernel
theorem dX5_leadsBack_39 : decode cX5_leadsBack 39 = .ok (.iconst 1, 1) := by decide +kernel
theorem dX5_leadsBack_40 : decode cX5_leadsBack 40 = .ok (.iand, 1) := by decide +kernel
theorem dX5_leadsBack_41 : decode cX5_leadsBack 41 = .ok (.iconst 1, 1) := by decide +kernel
theorem dX5_leadsBack_42 : decode cX5_leadsBack 42 = .ok (.if_icmp .ne 7, 3) := by decide +kernel
theorem dX5_leadsBack_45 : decode cX5_leadsBack 45 = .ok (.iconst 1, 1) := by decide +kernel
theorem dX5_leadsBack_46 : decode cX5_leadsBack 46 = .ok (.goto 4, 3) := by decide +kernel
theorem dX5_leadsBack_49 : decode cX5_leadsBack 49 = .ok (.iconst 0, 1) := by decide +kernel
theorem dX5_leadsBack_50 : decode cX5_leadsBack 50 = .ok (.ireturn, 1) := by decide +kernel
theorem dX5_longestWay_0 : decode cX5_longestWay 0 = .ok (.iconst 1, 1) := by decide +kernel
theorem dX5_longestWay_1 : decode cX5_longestWay 1 = .ok (.iload_n 1, 1) := by decide +kernel
theorem dX5_longestWay_2 : decode cX5_longestWay 2 = .ok (.ishl, 1) := by decide +kernel
theorem dX5_longestWay_3 : decode cX5_longestWay 3 = .ok (.istore_n 2, 1) := by decide +kernel
theorem dX5_longestWay_4 : decode cX5_longestWay 4 = .ok (.iconst 1, 1) := by decide +kernel
theorem dX5_longestWay_5 : decode cX5_longestWay 5 = .ok (.istore_n 3, 1) := by decide +kernel
theorem dX5_longestWay_6 : decode cX5_longestWay 6 = .ok (.iload_n 3, 1) := by decide +kernel
theorem dX5_longestWay_7 : decode cX5_longestWay 7 = .ok (.bipush 30, 2) := by decide +kernel
theorem dX5_longestWay_9 : decode cX5_longestWay 9 = .ok (.if_icmp .gt 29, 3) := by decide +kernel
theorem dX5_longestWay_12 : decode cX5_longestWay 12 = .ok (.iload_n 2, 1) := by decide +kernel
theorem dX5_longestWay_13 : decode cX5_longestWay 13 = .ok (.invokestatic 61, 3) := by decide +kernel
theorem dX5_longestWay_16 : decode cX5_longestWay 16 = .ok (.aload_n 0, 1) := by decide +kernel
theorem dX5_longestWay_17 : decode cX5_longestWay 17 = .ok (.getfield 9, 3) := by decide +kernel
theorem dX5_longestWay_20 : decode cX5_longestWay 20 = .ok (.iload_n 3, 1) := by decide +kernel
theorem dX5_longestWay_21 : decode cX5_longestWay 21 = .ok (.iaload, 1) := by decide +kernel
theorem dX5_longestWay_22 : decode cX5_longestWay 22 = .ok (.iand, 1) := by decide +kernel
theorem dX5_longestWay_23 : decode cX5_longestWay 23 = .ok (.istore_n 2, 1) := by decide +kernel
theorem dX5_longestWay_24 : decode cX5_longestWay 24 = .ok (.iload_n 2, 1) := by decide +kernel
theorem dX5_longestWay_25 : decode cX5_longestWay 25 = .ok (.ifCond .ne 7, 3) := by decide +kernel
theorem dX5_longestWay_28 : decode cX5_longestWay 28 = .ok (.iload_n 3, 1) := by decide +kernel
theorem dX5_longestWay_29 : decode cX5_longestWay 29 = .ok (.iconst 1, 1) := by decide +kernel
theorem dX5_longestWay_30 : decode cX5_longestWay 30 = .ok (.isub, 1) := by decide +kernel
theorem dX5_longestWay_31 : decode cX5_longestWay 31 = .ok (.ireturn, 1) := by decide +kernel
theorem dX5_longestWay_32 : decode cX5_longestWay 32 = .ok (.iinc 3 1, 3) := by decide +kernel
theorem dX5_longestWay_35 : decode cX5_longestWay 35 = .ok (.goto (-29), 3) := by decide +kernel
theorem dX5_longestWay_38 : decode cX5_longestWay 38 = .ok (.bipush 30, 2) := by decide +kernel
theorem dX5_longestWay_40 : decode cX5_longestWay 40 = .ok (.ireturn, 1) := by decide +kernel
theorem dX5_fewestAsides_0 : decode cX5_fewestAsides 0 = .ok (.aload_n 0, 1) := by decide +kernel
theorem dX5_fewestAsides_1 : decode cX5_fewestAsides 1 = .ok (.iload_n 2, 1) := by decide +kernel
theorem dX5_fewestAsides_2 : decode cX5_fewestAsides 2 = .ok (.invokevirtual 68, 3) := by decide +kernel
theorem dX5_fewestAsides_5 : decode cX5_fewestAsides 5 = .ok (.aload_n 0, 1) := by decide +kernel
theorem dX5_fewestAsides_6 : decode cX5_fewestAsides 6 = .ok (.iconst 0, 1) := by decide +kernel
theorem dX5_fewestAsides_7 : decode cX5_fewestAsides 7 = .ok (.iload_n 1, 1) := by decide +kernel
theorem dX5_fewestAsides_8 : decode cX5_fewestAsides 8 = .ok (.iload_n 2, 1) := by decide +kernel
theorem dX5_fewestAsides_9 : decode cX5_fewestAsides 9 = .ok (.invokevirtual 72, 3) := by decide +kernel
theorem dX5_fewestAsides_12 : decode cX5_fewestAsides 12 = .ok (.istore_n 3, 1) := by decide +kernel
theorem dX5_fewestAsides_13 : decode cX5_fewestAsides 13 = .ok (.iload_n 3, 1) := by decide +kernel
theorem dX5_fewestAsides_14 : decode cX5_fewestAsides 14 = .ok (.sipush 1000, 3) := by decide +kernel
theorem dX5_fewestAsides_17 : decode cX5_fewestAsides 17 = .ok (.if_icmp .ge 7, 3) := by decide +kernel
theorem dX5_fewestAsides_20 : decode cX5_fewestAsides 20 = .ok (.iload_n 3, 1) := by decide +kernel
theorem dX5_fewestAsides_21 : decode cX5_fewestAsides 21 = .ok (.goto 5, 3) := by decide +kernel
theorem dX5_fewestAsides_24 : decode cX5_fewestAsides 24 = .ok (.bipush (-4), 2) := by decide +kernel
theorem dX5_fewestAsides_26 : decode cX5_fewestAsides 26 = .ok (.ireturn, 1) := by decide +kernel
theorem dX5_calmestAt_0 : decode cX5_calmestAt 0 = .ok (.aload_n 0, 1) := by decide +kernel
theorem dX5_calmestAt_1 : decode cX5_calmestAt 1 = .ok (.iload_n 1, 1) := by decide +kernel
theorem dX5_calmestAt_2 : decode cX5_calmestAt 2 = .ok (.iload_n 2, 1) := by decide +kernel
theorem dX5_calmestAt_3 : decode cX5_calmestAt 3 = .ok (.invokevirtual 76, 3) := by decide +kernel
theorem dX5_calmestAt_6 : decode cX5_calmestAt 6 = .ok (.bipush (-4), 2) := by decide +kernel
theorem dX5_calmestAt_8 : decode cX5_calmestAt 8 = .ok (.if_icmp .ne 6, 3) := by decide +kernel
theorem dX5_calmestAt_11 : decode cX5_calmestAt 11 = .ok (.bipush (-4), 2) := by decide +kernel
theorem dX5_calmestAt_13 : decode cX5_calmestAt 13 = .ok (.ireturn, 1) := by decide +kernel
theorem dX5_calmestAt_14 : decode cX5_calmestAt 14 = .ok (.iload_n 1, 1) := by decide +kernel
theorem dX5_calmestAt_15 : decode cX5_calmestAt 15 = .ok (.istore 4, 2) := by decide +kernel
theorem dX5_calmestAt_17 : decode cX5_calmestAt 17 = .ok (.iconst 0, 1) := by decide +kernel
theorem dX5_calmestAt_18 : decode cX5_calmestAt 18 = .ok (.istore 5, 2) := by decide +kernel
theorem dX5_calmestAt_20 : decode cX5_calmestAt 20 = .ok (.iload 5, 2) := by decide +kernel
theorem dX5_calmestAt_22 : decode cX5_calmestAt 22 = .ok (.iload_n 3, 1) := by decide +kernel
theorem dX5_calmestAt_23 : decode cX5_calmestAt 23 = .ok (.if_icmp .ge 19, 3) := by decide +kernel
theorem dX5_calmestAt_26 : decode cX5_calmestAt 26 = .ok (.aload_n 0, 1) := by decide +kernel
theorem dX5_calmestAt_27 : decode cX5_calmestAt 27 = .ok (.iload 5, 2) := by decide +kernel
theorem dX5_calmestAt_29 : decode cX5_calmestAt 29 = .ok (.iload 4, 2) := by decide +kernel
theorem dX5_calmestAt_31 : decode cX5_calmestAt 31 = .ok (.invokevirtual 79, 3) := by decide +kernel
theorem dX5_calmestAt_34 : decode cX5_calmestAt 34 = .ok (.istore 4, 2) := by decide +kernel
theorem dX5_calmestAt_36 : decode cX5_calmestAt 36 = .ok (.iinc 5 1, 3) := by decide +kernel
theorem dX5_calmestAt_39 : decode cX5_calmestAt 39 = .ok (.goto (-19), 3) := by decide +kernel
theorem dX5_calmestAt_42 : decode cX5_calmestAt 42 = .ok (.iload 4, 2) := by decide +kernel
theorem dX5_calmestAt_44 : decode cX5_calmestAt 44 = .ok (.ireturn, 1) := by decide +kernel
theorem dX5_tellAsides_0 : decode cX5_tellAsides 0 = .ok (.iload_n 1, 1) := by decide +kernel
theorem dX5_tellAsides_1 : decode cX5_tellAsides 1 = .ok (.istore_n 2, 1) := by decide +kernel
theorem dX5_tellAsides_2 : decode cX5_tellAsides 2 = .ok (.iload_n 2, 1) := by decide +kernel
theorem dX5_tellAsides_3 : decode cX5_tellAsides 3 = .ok (.iconst 1, 1) := by decide +kernel
theorem dX5_tellAsides_4 : decode cX5_tellAsides 4 = .ok (.if_icmp .lt 53, 3) := by decide +kernel
theorem dX5_tellAsides_7 : decode cX5_tellAsides 7 = .ok (.iconst 0, 1) := by decide +kernel
theorem dX5_tellAsides_8 : decode cX5_tellAsides 8 = .ok (.istore_n 3, 1) := by decide +kernel
theorem dX5_tellAsides_9 : decode cX5_tellAsides 9 = .ok (.iload_n 3, 1) := by decide +kernel
theorem dX5_tellAsides_10 : decode cX5_tellAsides 10 = .ok (.bipush 10, 2) := by decide +kernel
theorem dX5_tellAsides_12 : decode cX5_tellAsides 12 = .ok (.if_icmp .ge 39, 3) := by decide +kernel
theorem dX5_tellAsides_15 : decode cX5_tellAsides 15 = .ok (.aload_n 0, 1) := by decide +kernel
theorem dX5_tellAsides_16 : decode cX5_tellAsides 16 = .ok (.getfield 17, 3) := by decide +kernel
theorem dX5_tellAsides_19 : decode cX5_tellAsides 19 = .ok (.iload_n 2, 1) := by decide +kernel
theorem dX5_tellAsides_20 : decode cX5_tellAsides 20 = .ok (.aaload, 1) := by decide +kernel
theorem dX5_tellAsides_21 : decode cX5_tellAsides 21 = .ok (.iload_n 3, 1) := by decide +kernel
theorem dX5_tellAsides_22 : decode cX5_tellAsides 22 = .ok (.aload_n 0, 1) := by decide +kernel
theorem dX5_tellAsides_23 : decode cX5_tellAsides 23 = .ok (.iload_n 2, 1) := by decide +kernel
theorem dX5_tellAsides_24 : decode cX5_tellAsides 24 = .ok (.iload_n 3, 1) := by decide +kernel
theorem dX5_tellAsides_25 : decode cX5_tellAsides 25 = .ok (.invokevirtual 45, 3) := by decide +kernel
theorem dX5_tellAsides_28 : decode cX5_tellAsides 28 = .ok (.ifCond .eq 13, 3) := by decide +kernel
theorem dX5_tellAsides_31 : decode cX5_tellAsides 31 = .ok (.aload_n 0, 1) := by decide +kernel
theorem dX5_tellAsides_32 : decode cX5_tellAsides 32 = .ok (.iload_n 2, 1) := by decide +kernel
theorem dX5_tellAsides_33 : decode cX5_tellAsides 33 = .ok (.iload_n 3, 1) := by decide +kernel
theorem dX5_tellAsides_34 : decode cX5_tellAsides 34 = .ok (.iload_n 1, 1) := by decide +kernel
theorem dX5_tellAsides_35 : decode cX5_tellAsides 35 = .ok (.invokevirtual 72, 3) := by decide +kernel
theorem dX5_tellAsides_38 : decode cX5_tellAsides 38 = .ok (.goto 6, 3) := by decide +kernel
theorem dX5_tellAsides_41 : decode cX5_tellAsides 41 = .ok (.sipush 1000, 3) := by decide +kernel
theorem dX5_tellAsides_44 : decode cX5_tellAsides 44 = .ok (.iastore, 1) := by decide +kernel
theorem dX5_tellAsides_45 : decode cX5_tellAsides 45 = .ok (.iinc 3 1, 3) := by decide +kernel
theorem dX5_tellAsides_48 : decode cX5_tellAsides 48 = .ok (.goto (-39), 3) := by decide +kernel
theorem dX5_tellAsides_51 : decode cX5_tellAsides 51 = .ok (.iinc 2 (-1), 3) := by decide +kernel
theorem dX5_tellAsides_54 : decode cX5_tellAsides 54 = .ok (.goto (-52), 3) := by decide +kernel
theorem dX5_tellAsides_57 : decode cX5_tellAsides 57 = .ok (.return_, 1) := by decide +kernel
theorem dX5_fewestAfter_0 : decode cX5_fewestAfter 0 = .ok (.iload_n 1, 1) := by decide +kernel
theorem dX5_fewestAfter_1 : decode cX5_fewestAfter 1 = .ok (.iload_n 3, 1) := by decide +kernel
theorem dX5_fewestAfter_2 : decode cX5_fewestAfter 2 = .ok (.if_icmp .lt 5, 3) := by decide +kernel
theorem dX5_fewestAfter_5 : decode cX5_fewestAfter 5 = .ok (.iconst 0, 1) := by decide +kernel
theorem dX5_fewestAfter_6 : decode cX5_fewestAfter 6 = .ok (.ireturn, 1) := by decide +kernel
theorem dX5_fewestAfter_7 : decode cX5_fewestAfter 7 = .ok (.sipush 1000, 3) := by decide +kernel
theorem dX5_fewestAfter_10 : decode cX5_fewestAfter 10 = .ok (.aload_n 0, 1) := by decide +kernel
theorem dX5_fewestAfter_11 : decode cX5_fewestAfter 11 = .ok (.iload_n 1, 1) := by decide +kernel
theorem dX5_fewestAfter_12 : decode cX5_fewestAfter 12 = .ok (.iconst 1, 1) := by decide +kernel
theorem dX5_fewestAfter_13 : decode cX5_fewestAfter 13 = .ok (.iadd, 1) := by decide +kernel
theorem dX5_fewestAfter_14 : decode cX5_fewestAfter 14 = .ok (.iload_n 2, 1) := by decide +kernel
theorem dX5_fewestAfter_15 : decode cX5_fewestAfter 15 = .ok (.aload_n 0, 1) := by decide +kernel
theorem dX5_fewestAfter_16 : decode cX5_fewestAfter 16 = .ok (.iload_n 1, 1) := by decide +kernel
theorem dX5_fewestAfter_17 : decode cX5_fewestAfter 17 = .ok (.iload_n 2, 1) := by decide +kernel
theorem dX5_fewestAfter_18 : decode cX5_fewestAfter 18 = .ok (.invokevirtual 79, 3) := by decide +kernel
theorem dX5_fewestAfter_21 : decode cX5_fewestAfter 21 = .ok (.invokevirtual 82, 3) := by decide +kernel
theorem dX5_fewestAfter_24 : decode cX5_fewestAfter 24 = .ok (.invokestatic 85, 3) := by decide +kernel
theorem dX5_fewestAfter_27 : decode cX5_fewestAfter 27 = .ok (.ireturn, 1) := by decide +kernel
theorem dX5_asidesBy_0 : decode cX5_asidesBy 0 = .ok (.aload_n 0, 1) := by decide +kernel
theorem dX5_asidesBy_1 : decode cX5_asidesBy 1 = .ok (.getfield 17, 3) := by decide +kernel
theorem dX5_asidesBy_4 : decode cX5_asidesBy 4 = .ok (.iload_n 1, 1) := by decide +kernel
theorem dX5_asidesBy_5 : decode cX5_asidesBy 5 = .ok (.aaload, 1) := by decide +kernel
theorem dX5_asidesBy_6 : decode cX5_asidesBy 6 = .ok (.iload_n 3, 1) := by decide +kernel
theorem dX5_asidesBy_7 : decode cX5_asidesBy 7 = .ok (.iaload, 1) := by decide +kernel
theorem dX5_asidesBy_8 : decode cX5_asidesBy 8 = .ok (.iload_n 2, 1) := by decide +kernel
theorem dX5_asidesBy_9 : decode cX5_asidesBy 9 = .ok (.iload_n 3, 1) := by decide +kernel
theorem dX5_asidesBy_10 : decode cX5_asidesBy 10 = .ok (.if_icmp .ne 7, 3) := by decide +kernel
theorem dX5_asidesBy_13 : decode cX5_asidesBy 13 = .ok (.iconst 0, 1) := by decide +kernel
theorem dX5_asidesBy_14 : decode cX5_asidesBy 14 = .ok (.goto 4, 3) := by decide +kernel
theorem dX5_asidesBy_17 : decode cX5_asidesBy 17 = .ok (.iconst 1, 1) := by decide +kernel
theorem dX5_asidesBy_18 : decode cX5_asidesBy 18 = .ok (.iadd, 1) := by decide +kernel
theorem dX5_asidesBy_19 : decode cX5_asidesBy 19 = .ok (.ireturn, 1) := by decide +kernel
theorem dX5_calmestNext_0 : decode cX5_calmestNext 0 = .ok (.iload_n 2, 1) := by decide +kernel
theorem dX5_calmestNext_1 : decode cX5_calmestNext 1 = .ok (.istore_n 3, 1) := by decide +kernel
theorem dX5_calmestNext_2 : decode cX5_calmestNext 2 = .ok (.sipush 2000, 3) := by decide +kernel
theorem dX5_calmestNext_5 : decode cX5_calmestNext 5 = .ok (.istore 4, 2) := by decide +kernel
theorem dX5_calmestNext_7 : decode cX5_calmestNext 7 = .ok (.iload_n 2, 1) := by decide +kernel
theorem dX5_calmestNext_8 : decode cX5_calmestNext 8 = .ok (.iconst 1, 1) := by decide +kernel
theorem dX5_calmestNext_9 : decode cX5_calmestNext 9 = .ok (.isub, 1) := by decide +kernel
theorem dX5_calmestNext_10 : decode cX5_calmestNext 10 = .ok (.iconst 0, 1) := by decide +kernel
theorem dX5_calmestNext_11 : decode cX5_calmestNext 11 = .ok (.invokestatic 53, 3) := by decide +kernel
theorem dX5_calmestNext_14 : decode cX5_calmestNext 14 = .ok (.istore 5, 2) := by decide +kernel
theorem dX5_calmestNext_16 : decode cX5_calmestNext 16 = .ok (.iload 5, 2) := by decide +kernel
theorem dX5_calmestNext_18 : decode cX5_calmestNext 18 = .ok (.iload_n 2, 1) := by decide +kernel
theorem dX5_calmestNext_19 : decode cX5_calmestNext 19 = .ok (.iconst 1, 1) := by decide +kernel
theorem dX5_calmestNext_20 : decode cX5_calmestNext 20 = .ok (.iadd, 1) := by decide +kernel
theorem dX5_calmestNext_21 : decode cX5_calmestNext 21 = .ok (.bipush 9, 2) := by decide +kernel
theorem dX5_calmestNext_23 : decode cX5_calmestNext 23 = .ok (.invokestatic 85, 3) := by decide +kernel
theorem dX5_calmestNext_26 : decode cX5_calmestNext 26 = .ok (.if_icmp .gt 35, 3) := by decide +kernel
theorem dX5_calmestNext_29 : decode cX5_calmestNext 29 = .ok (.aload_n 0, 1) := by decide +kernel
theorem dX5_calmestNext_30 : decode cX5_calmestNext 30 = .ok (.iload_n 1, 1) := by decide +kernel
theorem dX5_calmestNext_31 : decode cX5_calmestNext 31 = .ok (.iconst 1, 1) := by decide +kernel
theorem dX5_calmestNext_32 : decode cX5_calmestNext 32 = .ok (.iadd, 1) := by decide +kernel
theorem dX5_calmestNext_33 : decode cX5_calmestNext 33 = .ok (.iload_n 2, 1) := by decide +kernel
theorem dX5_calmestNext_34 : decode cX5_calmestNext 34 = .ok (.iload 5, 2) := by decide +kernel
theorem dX5_calmestNext_36 : decode cX5_calmestNext 36 = .ok (.invokevirtual 82, 3) := by decide +kernel
theorem dX5_calmestNext_39 : decode cX5_calmestNext 39 = .ok (.istore 6, 2) := by decide +kernel
theorem dX5_calmestNext_41 : decode cX5_calmestNext 41 = .ok (.iload 6, 2) := by decide +kernel
theorem dX5_calmestNext_43 : decode cX5_calmestNext 43 = .ok (.iload 4, 2) := by decide +kernel
theorem dX5_calmestNext_45 : decode cX5_calmestNext 45 = .ok (.if_icmp .ge 10, 3) := by decide +kernel
theorem dX5_calmestNext_48 : decode cX5_calmestNext 48 = .ok (.iload 6, 2) := by decide +kernel
theorem dX5_calmestNext_50 : decode cX5_calmestNext 50 = .ok (.istore 4, 2) := by decide +kernel
theorem dX5_calmestNext_52 : decode cX5_calmestNext 52 = .ok (.iload 5, 2) := by decide +kernel
theorem dX5_calmestNext_54 : decode cX5_calmestNext 54 = .ok (.istore_n 3, 1) := by decide +kernel
theorem dX5_calmestNext_55 : decode cX5_calmestNext 55 = .ok (.iinc 5 1, 3) := by decide +kernel
theorem dX5_calmestNext_58 : decode cX5_calmestNext 58 = .ok (.goto (-42), 3) := by decide +kernel
theorem dX5_calmestNext_61 : decode cX5_calmestNext 61 = .ok (.iload_n 3, 1) := by decide +kernel
theorem dX5_calmestNext_62 : decode cX5_calmestNext 62 = .ok (.ireturn, 1) := by decide +kernel
theorem dX6_init_0 : decode cX6_init 0 = .ok (.aload_n 0, 1) := by decide +kernel
theorem dX6_init_1 : decode cX6_init 1 = .ok (.invokespecial 3, 3) := by decide +kernel
theorem dX6_init_4 : decode cX6_init 4 = .ok (.aload_n 0, 1) := by decide +kernel
theorem dX6_init_5 : decode cX6_init 5 = .ok (.bipush 60, 2) := by decide +kernel
theorem dX6_init_7 : decode cX6_init 7 = .ok (.newarray .int, 2) := by decide +kernel
theorem dX6_init_9 : decode cX6_init 9 = .ok (.putfield 9, 3) := by decide +kernel
theorem dX6_init_12 : decode cX6_init 12 = .ok (.aload_n 0, 1) := by decide +kernel
theorem dX6_init_13 : decode cX6_init 13 = .ok (.iconst 0, 1) := by decide +kernel
theorem dX6_init_14 : decode cX6_init 14 = .ok (.putfield 15, 3) := by decide +kernel
theorem dX6_init_17 : decode cX6_init 17 = .ok (.return_, 1) := by decide +kernel
theorem dX6_isFull_0 : decode cX6_isFull 0 = .ok (.aload_n 0, 1) := by decide +kernel
theorem dX6_isFull_1 : decode cX6_isFull 1 = .ok (.getfield 15, 3) := by decide +kernel
theorem dX6_isFull_4 : decode cX6_isFull 4 = .ok (.bipush 60, 2) := by decide +kernel
theorem dX6_isFull_6 : decode cX6_isFull 6 = .ok (.if_icmp .lt 7, 3) := by decide +kernel
theorem dX6_isFull_9 : decode cX6_isFull 9 = .ok (.iconst 1, 1) := by decide +kernel
theorem dX6_isFull_10 : decode cX6_isFull 10 = .ok (.goto 4, 3) := by decide +kernel
theorem dX6_isFull_13 : decode cX6_isFull 13 = .ok (.iconst 0, 1) := by decide +kernel
theorem dX6_isFull_14 : decode cX6_isFull 14 = .ok (.ireturn, 1) := by decide +kernel
theorem dX6_add_0 : decode cX6_add 0 = .ok (.aload_n 0, 1) := by decide +kernel
theorem dX6_add_1 : decode cX6_add 1 = .ok (.invokevirtual 19, 3) := by decide +kernel
theorem dX6_add_4 : decode cX6_add 4 = .ok (.ifCond .ne 23, 3) := by decide +kernel
theorem dX6_add_7 : decode cX6_add 7 = .ok (.aload_n 0, 1) := by decide +kernel
theorem dX6_add_8 : decode cX6_add 8 = .ok (.getfield 9, 3) := by decide +kernel
theorem dX6_add_11 : decode cX6_add 11 = .ok (.aload_n 0, 1) := by decide +kernel
theorem dX6_add_12 : decode cX6_add 12 = .ok (.getfield 15, 3) := by decide +kernel
theorem dX6_add_15 : decode cX6_add 15 = .ok (.iload_n 1, 1) := by decide +kernel
theorem dX6_add_16 : decode cX6_add 16 = .ok (.iastore, 1) := by decide +kernel
theorem dX6_add_17 : decode cX6_add 17 = .ok (.aload_n 0, 1) := by decide +kernel
theorem dX6_add_18 : decode cX6_add 18 = .ok (.dup, 1) := by decide +kernel
theorem dX6_add_19 : decode cX6_add 19 = .ok (.getfield 15, 3) := by decide +kernel
theorem dX6_add_22 : decode cX6_add 22 = .ok (.iconst 1, 1) := by decide +kernel
theorem dX6_add_23 : decode cX6_add 23 = .ok (.iadd, 1) := by decide +kernel
theorem dX6_add_24 : decode cX6_add 24 = .ok (.putfield 15, 3) := by decide +kernel
theorem dX6_add_27 : decode cX6_add 27 = .ok (.return_, 1) := by decide +kernel
theorem dX6_faultInSteps_0 : decode cX6_faultInSteps 0 = .ok (.iconst 0, 1) := by decide +kernel
theorem dX6_faultInSteps_1 : decode cX6_faultInSteps 1 = .ok (.istore_n 1, 1) := by decide +kernel
theorem dX6_faultInSteps_2 : decode cX6_faultInSteps 2 = .ok (.iload_n 1, 1) := by decide +kernel
theorem dX6_faultInSteps_3 : decode cX6_faultInSteps 3 = .ok (.aload_n 0, 1) := by decide +kernel
theorem dX6_faultInSteps_4 : decode cX6_faultInSteps 4 = .ok (.getfield 15, 3) := by decide +kernel
theorem dX6_faultInSteps_7 : decode cX6_faultInSteps 7 = .ok (.if_icmp .ge 23, 3) := by decide +kernel
theorem dX6_faultInSteps_10 : decode cX6_faultInSteps 10 = .ok (.aload_n 0, 1) := by decide +kernel
theorem dX6_faultInSteps_11 : decode cX6_faultInSteps 11 = .ok (.getfield 9, 3) := by decide +kernel
theorem dX6_faultInSteps_14 : decode cX6_faultInSteps 14 = .ok (.iload_n 1, 1) := by decide +kernel
theorem dX6_faultInSteps_15 : decode cX6_faultInSteps 15 = .ok (.iaload, 1) := by decide +kernel
theorem dX6_faultInSteps_16 : decode cX6_faultInSteps 16 = .ok (.invokestatic 23, 3) := by decide +kernel
theorem dX6_faultInSteps_19 : decode cX6_faultInSteps 19 = .ok (.ifCond .ne 5, 3) := by decide +kernel
theorem dX6_faultInSteps_22 : decode cX6_faultInSteps 22 = .ok (.iload_n 1, 1) := by decide +kernel
theorem dX6_faultInSteps_23 : decode cX6_faultInSteps 23 = .ok (.ireturn, 1) := by decide +kernel
theorem dX6_faultInSteps_24 : decode cX6_faultInSteps 24 = .ok (.iinc 1 1, 3) := by decide +kernel
theorem dX6_faultInSteps_27 : decode cX6_faultInSteps 27 = .ok (.goto (-25), 3) := by decide +kernel
theorem dX6_faultInSteps_30 : decode cX6_faultInSteps 30 = .ok (.aload_n 0, 1) := by decide +kernel
theorem dX6_faultInSteps_31 : decode cX6_faultInSteps 31 = .ok (.getfield 15, 3) := by decide +kernel
theorem dX6_faultInSteps_34 : decode cX6_faultInSteps 34 = .ok (.ifCond .ne 7, 3) := by decide +kernel
theorem dX6_faultInSteps_37 : decode cX6_faultInSteps 37 = .ok (.iconst 0, 1) := by decide +kernel
theorem dX6_faultInSteps_38 : decode cX6_faultInSteps 38 = .ok (.goto 5, 3) := by decide +kernel
theorem dX6_faultInSteps_41 : decode cX6_faultInSteps 41 = .ok (.bipush (-4), 2) := by decide +kernel
theorem dX6_faultInSteps_43 : decode cX6_faultInSteps 43 = .ok (.ireturn, 1) := by decide +kernel
theorem dX6_isStepSign_0 : decode cX6_isStepSign 0 = .ok (.iload_n 0, 1) := by decide +kernel
theorem dX6_isStepSign_1 : decode cX6_isStepSign 1 = .ok (.bipush 108, 2) := by decide +kernel
theorem dX6_isStepSign_3 : decode cX6_isStepSign 3 = .ok (.if_icmp .eq 21, 3) := by decide +kernel
theorem dX6_isStepSign_6 : decode cX6_isStepSign 6 = .ok (.iload_n 0, 1) := by decide +kernel
theorem dX6_isStepSign_7 : decode cX6_isStepSign 7 = .ok (.bipush 115, 2) := by decide +kernel
theorem dX6_isStepSign_9 : decode cX6_isStepSign 9 = .ok (.if_icmp .eq 15, 3) := by decide +kernel
theorem dX6_isStepSign_12 : decode cX6_isStepSign 12 = .ok (.iload_n 0, 1) := by decide +kernel
theorem dX6_isStepSign_13 : decode cX6_isStepSign 13 = .ok (.bipush 114, 2) := by decide +kernel
theorem dX6_isStepSign_15 : decode cX6_isStepSign 15 = .ok (.if_icmp .eq 9, 3) := by decide +kernel
theorem dX6_isStepSign_18 : decode cX6_isStepSign 18 = .ok (.iload_n 0, 1) := by decide +kernel
theorem dX6_isStepSign_19 : decode cX6_isStepSign 19 = .ok (.bipush 98, 2) := by decide +kernel
theorem dX6_isStepSign_21 : decode cX6_isStepSign 21 = .ok (.if_icmp .ne 7, 3) := by decide +kernel
theorem dX6_isStepSign_24 : decode cX6_isStepSign 24 = .ok (.iconst 1, 1) := by decide +kernel
theorem dX6_isStepSign_25 : decode cX6_isStepSign 25 = .ok (.goto 4, 3) := by decide +kernel
theorem dX6_isStepSign_28 : decode cX6_isStepSign 28 = .ok (.iconst 0, 1) := by decide +kernel
theorem dX6_isStepSign_29 : decode cX6_isStepSign 29 = .ok (.ireturn, 1) := by decide +kernel
theorem dX7_init_0 : decode cX7_init 0 = .ok (.aload_n 0, 1) := by decide +kernel
theorem dX7_init_1 : decode cX7_init 1 = .ok (.invokespecial 1, 3) := by decide +kernel
theorem dX7_init_4 : decode cX7_init 4 = .ok (.aload_n 0, 1) := by decide +kernel
theorem dX7_init_5 : decode cX7_init 5 = .ok (.new 7, 3) := by decide +kernel
theorem dX7_init_8 : decode cX7_init 8 = .ok (.dup, 1) := by decide +kernel
theorem dX7_init_9 : decode cX7_init 9 = .ok (.invokespecial 9, 3) := by decide +kernel
theorem dX7_init_12 : decode cX7_init 12 = .ok (.putfield 10, 3) := by decide +kernel
theorem dX7_init_15 : decode cX7_init 15 = .ok (.aload_n 0, 1) := by decide +kernel
theorem dX7_init_16 : decode cX7_init 16 = .ok (.new 7, 3) := by decide +kernel
theorem dX7_init_19 : decode cX7_init 19 = .ok (.dup, 1) := by decide +kernel
theorem dX7_init_20 : decode cX7_init 20 = .ok (.invokespecial 9, 3) := by decide +kernel
theorem dX7_init_23 : decode cX7_init 23 = .ok (.putfield 16, 3) := by decide +kernel
theorem dX7_init_26 : decode cX7_init 26 = .ok (.aload_n 0, 1) := by decide +kernel
theorem dX7_init_27 : decode cX7_init 27 = .ok (.new 7, 3) := by decide +kernel
theorem dX7_init_30 : decode cX7_init 30 = .ok (.dup, 1) := by decide +kernel
theorem dX7_init_31 : decode cX7_init 31 = .ok (.invokespecial 9, 3) := by decide +kernel
theorem dX7_init_34 : decode cX7_init 34 = .ok (.putfield 19, 3) := by decide +kernel
theorem dX7_init_37 : decode cX7_init 37 = .ok (.aload_n 0, 1) := by decide +kernel
theorem dX7_init_38 : decode cX7_init 38 = .ok (.iconst 0, 1) := by decide +kernel
theorem dX7_init_39 : decode cX7_init 39 = .ok (.putfield 22, 3) := by decide +kernel
theorem dX7_init_42 : decode cX7_init 42 = .ok (.aload_n 0, 1) := by decide +kernel
theorem dX7_init_43 : decode cX7_init 43 = .ok (.new 26, 3) := by decide +kernel
theorem dX7_init_46 : decode cX7_init 46 = .ok (.dup, 1) := by decide +kernel
theorem dX7_init_47 : decode cX7_init 47 = .ok (.invokespecial 28, 3) := by decide +kernel
theorem dX7_init_50 : decode cX7_init 50 = .ok (.putfield 29, 3) := by decide +kernel
theorem dX7_init_53 : decode cX7_init 53 = .ok (.aload_n 0, 1) := by decide +kernel
theorem dX7_init_54 : decode cX7_init 54 = .ok (.new 33, 3) := by decide +kernel
theorem dX7_init_57 : decode cX7_init 57 = .ok (.dup, 1) := by decide +kernel
theorem dX7_init_58 : decode cX7_init 58 = .ok (.invokespecial 35, 3) := by decide +kernel
theorem dX7_init_61 : decode cX7_init 61 = .ok (.putfield 36, 3) := by decide +kernel
theorem dX7_init_64 : decode cX7_init 64 = .ok (.aload_n 0, 1) := by decide +kernel
theorem dX7_init_65 : decode cX7_init 65 = .ok (.new 40, 3) := by decide +kernel
theorem dX7_init_68 : decode cX7_init 68 = .ok (.dup, 1) := by decide +kernel
theorem dX7_init_69 : decode cX7_init 69 = .ok (.invokespecial 42, 3) := by decide +kernel
theorem dX7_init_72 : decode cX7_init 72 = .ok (.putfield 43, 3) := by decide +kernel
theorem dX7_init_75 : decode cX7_init 75 = .ok (.aload_n 0, 1) := by decide +kernel
theorem dX7_init_76 : decode cX7_init 76 = .ok (.new 47, 3) := by decide +kernel
theorem dX7_init_79 : decode cX7_init 79 = .ok (.dup, 1) := by decide +kernel
theorem dX7_init_80 : decode cX7_init 80 = .ok (.invokespecial 49, 3) := by decide +kernel
theorem dX7_init_83 : decode cX7_init 83 = .ok (.putfield 50, 3) := by decide +kernel
theorem dX7_init_86 : decode cX7_init 86 = .ok (.return_, 1) := by decide +kernel
theorem dX7_emitter_0 : decode cX7_emitter 0 = .ok (.iload_n 1, 1) := by decide +kernel
theorem dX7_emitter_1 : decode cX7_emitter 1 = .ok (.invokestatic 54, 3) := by decide +kernel
theorem dX7_emitter_4 : decode cX7_emitter 4 = .ok (.ifCond .eq 17, 3) := by decide +kernel
theorem dX7_emitter_7 : decode cX7_emitter 7 = .ok (.iload_n 2, 1) := by decide +kernel
theorem dX7_emitter_8 : decode cX7_emitter 8 = .ok (.invokestatic 58, 3) := by decide +kernel
theorem dX7_emitter_11 : decode cX7_emitter 11 = .ok (.ifCond .eq 10, 3) := by decide +kernel
theorem dX7_emitter_14 : decode cX7_emitter 14 = .ok (.iload_n 3, 1) := by decide +kernel
theorem dX7_emitter_15 : decode cX7_emitter 15 = .ok (.invokestatic 61, 3) := by decide +kernel
theorem dX7_emitter_18 : decode cX7_emitter 18 = .ok (.ifCond .ne 5, 3) := by decide +kernel
theorem dX7_emitter_21 : decode cX7_emitter 21 = .ok (.iconst (-1), 1) := by decide +kernel
theorem dX7_emitter_22 : decode cX7_emitter 22 = .ok (.ireturn, 1) := by decide +kernel
theorem dX7_emitter_23 : decode cX7_emitter 23 = .ok (.iload 4, 2) := by decide +kernel
theorem dX7_emitter_25 : decode cX7_emitter 25 = .ok (.ifCond .lt 9, 3) := by decide +kernel
theorem dX7_emitter_28 : decode cX7_emitter 28 = .ok (.iload 4, 2) := by decide +kernel
theorem dX7_emitter_30 : decode cX7_emitter 30 = .ok (.iload_n 3, 1) := by decide +kernel
theorem dX7_emitter_31 : decode cX7_emitter 31 = .ok (.if_icmp .lt 5, 3) := by decide +kernel
theorem dX7_emitter_34 : decode cX7_emitter 34 = .ok (.iconst (-1), 1) := by decide +kernel
theorem dX7_emitter_35 : decode cX7_emitter 35 = .ok (.ireturn, 1) := by decide +kernel
theorem dX7_emitter_36 : decode cX7_emitter 36 = .ok (.aload_n 0, 1) := by decide +kernel
theorem dX7_emitter_37 : decode cX7_emitter 37 = .ok (.getfield 10, 3) := by decide +kernel
theorem dX7_emitter_40 : decode cX7_emitter 40 = .ok (.getfield 64, 3) := by decide +kernel
theorem dX7_emitter_43 : decode cX7_emitter 43 = .ok (.invokevirtual 68, 3) := by decide +kernel
theorem dX7_emitter_46 : decode cX7_emitter 46 = .ok (.ifCond .eq 6, 3) := by decide +kernel
theorem dX7_emitter_49 : decode cX7_emitter 49 = .ok (.bipush (-3), 2) := by decide +kernel
theorem dX7_emitter_51 : decode cX7_emitter 51 = .ok (.ireturn, 1) := by decide +kernel
theorem dX7_emitter_52 : decode cX7_emitter 52 = .ok (.aload_n 0, 1) := by decide +kernel
theorem dX7_emitter_53 : decode cX7_emitter 53 = .ok (.getfield 29, 3) := by decide +kernel
theorem dX7_emitter_56 : decode cX7_emitter 56 = .ok (.aload_n 0, 1) := by decide +kernel
theorem dX7_emitter_57 : decode cX7_emitter 57 = .ok (.getfield 10, 3) := by decide +kernel
theorem dX7_emitter_60 : decode cX7_emitter 60 = .ok (.invokevirtual 74, 3) := by decide +kernel
theorem dX7_emitter_63 : decode cX7_emitter 63 = .ok (.aload_n 0, 1) := by decide +kernel
theorem dX7_emitter_64 : decode cX7_emitter 64 = .ok (.getfield 10, 3) := by decide +kernel
theorem dX7_emitter_67 : decode cX7_emitter 67 = .ok (.getfield 64, 3) := by decide +kernel
theorem dX7_emitter_70 : decode cX7_emitter 70 = .ok (.iload_n 1, 1) := by decide +kernel
theorem dX7_emitter_71 : decode cX7_emitter 71 = .ok (.iload_n 2, 1) := by decide +kernel
theorem dX7_emitter_72 : decode cX7_emitter 72 = .ok (.iload_n 3, 1) := by decide +kernel
theorem dX7_emitter_73 : decode cX7_emitter 73 = .ok (.iload 4, 2) := by decide +kernel
theorem dX7_emitter_75 : decode cX7_emitter 75 = .ok (.invokevirtual 78, 3) := by decide +kernel
theorem dX7_emitter_78 : decode cX7_emitter 78 = .ok (.aload_n 0, 1) := by decide +kernel
theorem dX7_emitter_79 : decode cX7_emitter 79 = .ok (.getfield 10, 3) := by decide +kernel
theorem dX7_emitter_82 : decode cX7_emitter 82 = .ok (.getfield 64, 3) := by decide +kernel
theorem dX7_emitter_85 : decode cX7_emitter 85 = .ok (.getfield 82, 3) := by decide +kernel
theorem dX7_emitter_88 : decode cX7_emitter 88 = .ok (.iconst 1, 1) := by decide +kernel
theorem dX7_emitter_89 : decode cX7_emitter 89 = .ok (.isub, 1) := by decide +kernel
theorem dX7_emitter_90 : decode cX7_emitter 90 = .ok (.ireturn, 1) := by decide +kernel
theorem dX7_takeAway_0 : decode cX7_takeAway 0 = .ok (.aload_n 0, 1) := by decide +kernel
theorem dX7_takeAway_1 : decode cX7_takeAway 1 = .ok (.getfield 10, 3) := by decide +kernel
theorem dX7_takeAway_4 : decode cX7_takeAway 4 = .ok (.getfield 64, 3) := by decide +kernel
theorem dX7_takeAway_7 : decode cX7_takeAway 7 = .ok (.iload_n 1, 1) := by decide +kernel
theorem dX7_takeAway_8 : decode cX7_takeAway 8 = .ok (.invokevirtual 86, 3) := by decide +kernel
theorem dX7_takeAway_11 : decode cX7_takeAway 11 = .ok (.ifCond .ne 5, 3) := by decide +kernel
theorem dX7_takeAway_14 : decode cX7_takeAway 14 = .ok (.iconst (-1), 1) := by decide +kernel
theorem dX7_takeAway_15 : decode cX7_takeAway 15 = .ok (.ireturn, 1) := by decide +kernel
theorem dX7_takeAway_16 : decode cX7_takeAway 16 = .ok (.aload_n 0, 1) := by decide +kernel
theorem dX7_takeAway_17 : decode cX7_takeAway 17 = .ok (.getfield 29, 3) := by decide +kernel
theorem dX7_takeAway_20 : decode cX7_takeAway 20 = .ok (.aload_n 0, 1) := by decide +kernel
theorem dX7_takeAway_21 : decode cX7_takeAway 21 = .ok (.getfield 10, 3) := by decide +kernel
theorem dX7_takeAway_24 : decode cX7_takeAway 24 = .ok (.invokevirtual 74, 3) := by decide +kernel
theorem dX7_takeAway_27 : decode cX7_takeAway 27 = .ok (.aload_n 0, 1) := by decide +kernel
theorem dX7_takeAway_28 : decode cX7_takeAway 28 = .ok (.getfield 10, 3) := by decide +kernel
theorem dX7_takeAway_31 : decode cX7_takeAway 31 = .ok (.getfield 64, 3) := by decide +kernel
theorem dX7_takeAway_34 : decode cX7_takeAway 34 = .ok (.iload_n 1, 1) := by decide +kernel
theorem dX7_takeAway_35 : decode cX7_takeAway 35 = .ok (.invokevirtual 89, 3) := by decide +kernel
theorem dX7_takeAway_38 : decode cX7_takeAway 38 = .ok (.aload_n 0, 1) := by decide +kernel
theorem dX7_takeAway_39 : decode cX7_takeAway 39 = .ok (.getfield 10, 3) := by decide +kernel
theorem dX7_takeAway_42 : decode cX7_takeAway 42 = .ok (.getfield 64, 3) := by decide +kernel
theorem dX7_takeAway_45 : decode cX7_takeAway 45 = .ok (.getfield 82, 3) := by decide +kernel
theorem dX7_takeAway_48 : decode cX7_takeAway 48 = .ok (.ireturn, 1) := by decide +kernel
theorem dX7_tick_0 : decode cX7_tick 0 = .ok (.iload_n 1, 1) := by decide +kernel
theorem dX7_tick_1 : decode cX7_tick 1 = .ok (.invokestatic 93, 3) := by decide +kernel
theorem dX7_tick_4 : decode cX7_tick 4 = .ok (.ifCond .ne 5, 3) := by decide +kernel
theorem dX7_tick_7 : decode cX7_tick 7 = .ok (.iconst (-1), 1) := by decide +kernel
theorem dX7_tick_8 : decode cX7_tick 8 = .ok (.ireturn, 1) := by decide +kernel
theorem dX7_tick_9 : decode cX7_tick 9 = .ok (.aload_n 0, 1) := by decide +kernel
theorem dX7_tick_10 : decode cX7_tick 10 = .ok (.getfield 10, 3) := by decide +kernel
theorem dX7_tick_13 : decode cX7_tick 13 = .ok (.getfield 96, 3) := by decide +kernel
theorem dX7_tick_16 : decode cX7_tick 16 = .ok (.ifCond .eq 6, 3) := by decide +kernel
theorem dX7_tick_19 : decode cX7_tick 19 = .ok (.bipush (-2), 2) := by decide +kernel
theorem dX7_tick_21 : decode cX7_tick 21 = .ok (.ireturn, 1) := by decide +kernel
theorem dX7_tick_22 : decode cX7_tick 22 = .ok (.aload_n 0, 1) := by decide +kernel
theorem dX7_tick_23 : decode cX7_tick 23 = .ok (.getfield 29, 3) := by decide +kernel
theorem dX7_tick_26 : decode cX7_tick 26 = .ok (.aload_n 0, 1) := by decide +kernel
theorem dX7_tick_27 : decode cX7_tick 27 = .ok (.getfield 10, 3) := by decide +kernel
theorem dX7_tick_30 : decode cX7_tick 30 = .ok (.invokevirtual 74, 3) := by decide +kernel
theorem dX7_tick_33 : decode cX7_tick 33 = .ok (.aload_n 0, 1) := by decide +kernel
theorem dX7_tick_34 : decode cX7_tick 34 = .ok (.getfield 10, 3) := by decide +kernel
theorem dX7_tick_37 : decode cX7_tick 37 = .ok (.iload_n 1, 1) := by decide +kernel
theorem dX7_tick_38 : decode cX7_tick 38 = .ok (.invokevirtual 99, 3) := by decide +kernel
theorem dX7_tick_41 : decode cX7_tick 41 = .ok (.ireturn, 1) := by decide +kernel
theorem dX7_bomb_0 : decode cX7_bomb 0 = .ok (.aload_n 0, 1) := by decide +kernel
theorem dX7_bomb_1 : decode cX7_bomb 1 = .ok (.getfield 10, 3) := by decide +kernel
theorem dX7_bomb_4 : decode cX7_bomb 4 = .ok (.invokevirtual 103, 3) := by decide +kernel
theorem dX7_bomb_7 : decode cX7_bomb 7 = .ok (.ifCond .ne 6, 3) := by decide +kernel
theorem dX7_bomb_10 : decode cX7_bomb 10 = .ok (.bipush (-2), 2) := by decide +kernel
theorem dX7_bomb_12 : decode cX7_bomb 12 = .ok (.ireturn, 1) := by decide +kernel
theorem dX7_bomb_13 : decode cX7_bomb 13 = .ok (.aload_n 0, 1) := by decide +kernel
theorem dX7_bomb_14 : decode cX7_bomb 14 = .ok (.getfield 29, 3) := by decide +kernel
theorem dX7_bomb_17 : decode cX7_bomb 17 = .ok (.aload_n 0, 1) := by decide +kernel
theorem dX7_bomb_18 : decode cX7_bomb 18 = .ok (.getfield 10, 3) := by decide +kernel
theorem dX7_bomb_21 : decode cX7_bomb 21 = .ok (.invokevirtual 74, 3) := by decide +kernel
theorem dX7_bomb_24 : decode cX7_bomb 24 = .ok (.aload_n 0, 1) := by decide +kernel
theorem dX7_bomb_25 : decode cX7_bomb 25 = .ok (.getfield 10, 3) := by decide +kernel
theorem dX7_bomb_28 : decode cX7_bomb 28 = .ok (.invokevirtual 106, 3) := by decide +kernel
theorem dX7_bomb_31 : decode cX7_bomb 31 = .ok (.ireturn, 1) := by decide +kernel
theorem dX7_clearField_0 : decode cX7_clearField 0 = .ok (.aload_n 0, 1) := by decide +kernel
theorem dX7_clearField_1 : decode cX7_clearField 1 = .ok (.getfield 29, 3) := by decide +kernel
theorem dX7_clearField_4 : decode cX7_clearField 4 = .ok (.aload_n 0, 1) := by decide +kernel
theorem dX7_clearField_5 : decode cX7_clearField 5 = .ok (.getfield 10, 3) := by decide +kernel
theorem dX7_clearField_8 : decode cX7_clearField 8 = .ok (.invokevirtual 74, 3) := by decide +kernel
theorem dX7_clearField_11 : decode cX7_clearField 11 = .ok (.aload_n 0, 1) := by decide +kernel
theorem dX7_clearField_12 : decode cX7_clearField 12 = .ok (.getfield 10, 3) := by decide +kernel
theorem dX7_clearField_15 : decode cX7_clearField 15 = .ok (.invokevirtual 110, 3) := by decide +kernel
theorem dX7_clearField_18 : decode cX7_clearField 18 = .ok (.ireturn, 1) := by decide +kernel
theorem dX7_set_0 : decode cX7_set 0 = .ok (.iload_n 1, 1) := by decide +kernel
theorem dX7_set_1 : decode cX7_set 1 = .ok (.iload_n 2, 1) := by decide +kernel
theorem dX7_set_2 : decode cX7_set 2 = .ok (.invokestatic 113, 3) := by decide +kernel
theorem dX7_set_5 : decode cX7_set 5 = .ok (.ifCond .ne 5, 3) := by decide +kernel
theorem dX7_set_8 : decode cX7_set 8 = .ok (.iconst (-1), 1) := by decide +kernel
theorem dX7_set_9 : decode cX7_set 9 = .ok (.ireturn, 1) := by decide +kernel
theorem dX7_set_10 : decode cX7_set 10 = .ok (.aload_n 0, 1) := by decide +kernel
theorem dX7_set_11 : decode cX7_set 11 = .ok (.getfield 29, 3) := by decide +kernel
theorem dX7_set_14 : decode cX7_set 14 = .ok (.aload_n 0, 1) := by decide +kernel
theorem dX7_set_15 : decode cX7_set 15 = .ok (.getfield 10, 3) := by decide +kernel
theorem dX7_set_18 : decode cX7_set 18 = .ok (.invokevirtual 74, 3) := by decide +kernel
theorem dX7_set_21 : decode cX7_set 21 = .ok (.aload_n 0, 1) := by decide +kernel
theorem dX7_set_22 : decode cX7_set 22 = .ok (.getfield 10, 3) := by decide +kernel
theorem dX7_set_25 : decode cX7_set 25 = .ok (.getfield 117, 3) := by decide +kernel
theorem dX7_set_28 : decode cX7_set 28 = .ok (.iload_n 1, 1) := by decide +kernel
theorem dX7_set_29 : decode cX7_set 29 = .ok (.iaload, 1) := by decide +kernel
theorem dX7_set_30 : decode cX7_set 30 = .ok (.istore_n 3, 1) := by decide +kernel
theorem dX7_set_31 : decode cX7_set 31 = .ok (.aload_n 0, 1) := by decide +kernel
theorem dX7_set_32 : decode cX7_set 32 = .ok (.getfield 10, 3) := by decide +kernel
theorem dX7_set_35 : decode cX7_set 35 = .ok (.getfield 117, 3) := by decide +kernel
theorem dX7_set_38 : decode cX7_set 38 = .ok (.iload_n 1, 1) := by decide +kernel
theorem dX7_set_39 : decode cX7_set 39 = .ok (.iload_n 2, 1) := by decide +kernel
theorem dX7_set_40 : decode cX7_set 40 = .ok (.iastore, 1) := by decide +kernel
theorem dX7_set_41 : decode cX7_set 41 = .ok (.iload_n 3, 1) := by decide +kernel
theorem dX7_set_42 : decode cX7_set 42 = .ok (.ireturn, 1) := by decide +kernel
theorem dX7_append_0 : decode cX7_append 0 = .ok (.iload_n 1, 1) := by decide +kernel
theorem dX7_append_1 : decode cX7_append 1 = .ok (.bipush 33, 2) := by decide +kernel
theorem dX7_append_3 : decode cX7_append 3 = .ok (.if_icmp .lt 9, 3) := by decide +kernel
theorem dX7_append_6 : decode cX7_append 6 = .ok (.iload_n 1, 1) := by decide +kernel
theorem dX7_append_7 : decode cX7_append 7 = .ok (.bipush 126, 2) := by decide +kernel
theorem dX7_append_9 : decode cX7_append 9 = .ok (.if_icmp .le 5, 3) := by decide +kernel
theorem dX7_append_12 : decode cX7_append 12 = .ok (.iconst (-1), 1) := by decide +kernel
theorem dX7_append_13 : decode cX7_append 13 = .ok (.ireturn, 1) := by decide +kernel
theorem dX7_append_14 : decode cX7_append 14 = .ok (.aload_n 0, 1) := by decide +kernel
theorem dX7_append_15 : decode cX7_append 15 = .ok (.getfield 36, 3) := by decide +kernel
theorem dX7_append_18 : decode cX7_append 18 = .ok (.invokevirtual 121, 3) := by decide +kernel
theorem dX7_append_21 : decode cX7_append 21 = .ok (.ifCond .eq 6, 3) := by decide +kernel
theorem dX7_append_24 : decode cX7_append 24 = .ok (.bipush (-3), 2) := by decide +kernel
theorem dX7_append_26 : decode cX7_append 26 = .ok (.ireturn, 1) := by decide +kernel
theorem dX7_append_27 : decode cX7_append 27 = .ok (.aload_n 0, 1) := by decide +kernel
theorem dX7_append_28 : decode cX7_append 28 = .ok (.getfield 36, 3) := by decide +kernel
theorem dX7_append_31 : decode cX7_append 31 = .ok (.iload_n 1, 1) := by decide +kernel
theorem dX7_append_32 : decode cX7_append 32 = .ok (.invokevirtual 122, 3) := by decide +kernel
theorem dX7_append_35 : decode cX7_append 35 = .ok (.aload_n 0, 1) := by decide +kernel
theorem dX7_append_36 : decode cX7_append 36 = .ok (.getfield 36, 3) := by decide +kernel
theorem dX7_append_39 : decode cX7_append 39 = .ok (.getfield 124, 3) := by decide +kernel
theorem dX7_append_42 : decode cX7_append 42 = .ok (.ireturn, 1) := by decide +kernel
theorem dX7_clear_0 : decode cX7_clear 0 = .ok (.aload_n 0, 1) := by decide +kernel
theorem dX7_clear_1 : decode cX7_clear 1 = .ok (.getfield 36, 3) := by decide +kernel
theorem dX7_clear_4 : decode cX7_clear 4 = .ok (.getfield 124, 3) := by decide +kernel
theorem dX7_clear_7 : decode cX7_clear 7 = .ok (.istore_n 1, 1) := by decide +kernel
theorem dX7_clear_8 : decode cX7_clear 8 = .ok (.aload_n 0, 1) := by decide +kernel
theorem dX7_clear_9 : decode cX7_clear 9 = .ok (.getfield 36, 3) := by decide +kernel
theorem dX7_clear_12 : decode cX7_clear 12 = .ok (.iconst 0, 1) := by decide +kernel
theorem dX7_clear_13 : decode cX7_clear 13 = .ok (.putfield 124, 3) := by decide +kernel
theorem dX7_clear_16 : decode cX7_clear 16 = .ok (.iload_n 1, 1) := by decide +kernel
theorem dX7_clear_17 : decode cX7_clear 17 = .ok (.ireturn, 1) := by decide +kernel
theorem dX7_fault_0 : decode cX7_fault 0 = .ok (.iload_n 1, 1) := by decide +kernel
theorem dX7_fault_1 : decode cX7_fault 1 = .ok (.ifCond .ne 15, 3) := by decide +kernel
theorem dX7_fault_4 : decode cX7_fault 4 = .ok (.aload_n 0, 1) := by decide +kernel
theorem dX7_fault_5 : decode cX7_fault 5 = .ok (.getfield 43, 3) := by decide +kernel
theorem dX7_fault_8 : decode cX7_fault 8 = .ok (.aload_n 0, 1) := by decide +kernel
theorem dX7_fault_9 : decode cX7_fault 9 = .ok (.getfield 36, 3) := by decide +kernel
theorem dX7_fault_12 : decode cX7_fault 12 = .ok (.invokevirtual 127, 3) := by decide +kernel
theorem dX7_fault_15 : decode cX7_fault 15 = .ok (.ireturn, 1) := by decide +kernel
theorem dX7_fault_16 : decode cX7_fault 16 = .ok (.iload_n 1, 1) := by decide +kernel
theorem dX7_fault_17 : decode cX7_fault 17 = .ok (.iconst 1, 1) := by decide +kernel
theorem dX7_fault_18 : decode cX7_fault 18 = .ok (.if_icmp .ne 11, 3) := by decide +kernel
theorem dX7_fault_21 : decode cX7_fault 21 = .ok (.aload_n 0, 1) := by decide +kernel
theorem dX7_fault_22 : decode cX7_fault 22 = .ok (.getfield 36, 3) := by decide +kernel
theorem dX7_fault_25 : decode cX7_fault 25 = .ok (.invokevirtual 131, 3) := by decide +kernel
theorem dX7_fault_28 : decode cX7_fault 28 = .ok (.ireturn, 1) := by decide +kernel
theorem dX7_fault_29 : decode cX7_fault 29 = .ok (.iconst (-1), 1) := by decide +kernel
theorem dX7_fault_30 : decode cX7_fault 30 = .ok (.ireturn, 1) := by decide +kernel
theorem dX7_hang_0 : decode cX7_hang 0 = .ok (.aload_n 0, 1) := by decide +kernel
theorem dX7_hang_1 : decode cX7_hang 1 = .ok (.getfield 43, 3) := by decide +kernel
theorem dX7_hang_4 : decode cX7_hang 4 = .ok (.aload_n 0, 1) := by decide +kernel
theorem dX7_hang_5 : decode cX7_hang 5 = .ok (.getfield 36, 3) := by decide +kernel
theorem dX7_hang_8 : decode cX7_hang 8 = .ok (.invokevirtual 127, 3) := by decide +kernel
theorem dX7_hang_11 : decode cX7_hang 11 = .ok (.bipush (-4), 2) := by decide +kernel
theorem dX7_hang_13 : decode cX7_hang 13 = .ok (.if_icmp .eq 6, 3) := by decide +kernel
theorem dX7_hang_16 : decode cX7_hang 16 = .ok (.bipush (-2), 2) := by decide +kernel
theorem dX7_hang_18 : decode cX7_hang 18 = .ok (.ireturn, 1) := by decide +kernel
theorem dX7_hang_19 : decode cX7_hang 19 = .ok (.aload_n 0, 1) := by decide +kernel
theorem dX7_hang_20 : decode cX7_hang 20 = .ok (.getfield 29, 3) := by decide +kernel
theorem dX7_hang_23 : decode cX7_hang 23 = .ok (.aload_n 0, 1) := by decide +kernel
theorem dX7_hang_24 : decode cX7_hang 24 = .ok (.getfield 10, 3) := by decide +kernel
theorem dX7_hang_27 : decode cX7_hang 27 = .ok (.invokevirtual 74, 3) := by decide +kernel
theorem dX7_hang_30 : decode cX7_hang 30 = .ok (.aload_n 0, 1) := by decide +kernel
theorem dX7_hang_31 : decode cX7_hang 31 = .ok (.getfield 10, 3) := by decide +kernel
theorem dX7_hang_34 : decode cX7_hang 34 = .ok (.getfield 64, 3) := by decide +kernel
theorem dX7_hang_37 : decode cX7_hang 37 = .ok (.aload_n 0, 1) := by decide +kernel
theorem dX7_hang_38 : decode cX7_hang 38 = .ok (.getfield 43, 3) := by decide +kernel
theorem dX7_hang_41 : decode cX7_hang 41 = .ok (.getfield 134, 3) := by decide +kernel
theorem dX7_hang_44 : decode cX7_hang 44 = .ok (.invokevirtual 135, 3) := by decide +kernel
theorem dX7_hang_47 : decode cX7_hang 47 = .ok (.aload_n 0, 1) := by decide +kernel
theorem dX7_hang_48 : decode cX7_hang 48 = .ok (.getfield 36, 3) := by decide +kernel
theorem dX7_hang_51 : decode cX7_hang 51 = .ok (.iconst 0, 1) := by decide +kernel
theorem dX7_hang_52 : decode cX7_hang 52 = .ok (.putfield 124, 3) := by decide +kernel
theorem dX7_hang_55 : decode cX7_hang 55 = .ok (.aload_n 0, 1) := by decide +kernel
theorem dX7_hang_56 : decode cX7_hang 56 = .ok (.getfield 10, 3) := by decide +kernel
theorem dX7_hang_59 : decode cX7_hang 59 = .ok (.getfield 64, 3) := by decide +kernel
theorem dX7_hang_62 : decode cX7_hang 62 = .ok (.getfield 82, 3) := by decide +kernel
theorem dX7_hang_65 : decode cX7_hang 65 = .ok (.ireturn, 1) := by decide +kernel
theorem dX7_play_0 : decode cX7_play 0 = .ok (.aload_n 0, 1) := by decide +kernel
theorem dX7_play_1 : decode cX7_play 1 = .ok (.getfield 36, 3) := by decide +kernel
theorem dX7_play_4 : decode cX7_play 4 = .ok (.invokevirtual 131, 3) := by decide +kernel
theorem dX7_play_7 : decode cX7_play 7 = .ok (.bipush (-4), 2) := by decide +kernel
theorem dX7_play_9 : decode cX7_play 9 = .ok (.if_icmp .eq 6, 3) := by decide +kernel
theorem dX7_play_12 : decode cX7_play 12 = .ok (.bipush (-2), 2) := by decide +kernel
theorem dX7_play_14 : decode cX7_play 14 = .ok (.ireturn, 1) := by decide +kernel
theorem dX7_play_15 : decode cX7_play 15 = .ok (.aload_n 0, 1) := by decide +kernel
theorem dX7_play_16 : decode cX7_play 16 = .ok (.getfield 29, 3) := by decide +kernel
theorem dX7_play_19 : decode cX7_play 19 = .ok (.aload_n 0, 1) := by decide +kernel
theorem dX7_play_20 : decode cX7_play 20 = .ok (.getfield 10, 3) := by decide +kernel
theorem dX7_play_23 : decode cX7_play 23 = .ok (.invokevirtual 74, 3) := by decide +kernel
theorem dX7_play_26 : decode cX7_play 26 = .ok (.iconst 0, 1) := by decide +kernel
theorem dX7_play_27 : decode cX7_play 27 = .ok (.istore_n 1, 1) := by decide +kernel
theorem dX7_play_28 : decode cX7_play 28 = .ok (.iload_n 1, 1) := by decide +kernel
theorem dX7_play_29 : decode cX7_play 29 = .ok (.aload_n 0, 1) := by decide +kernel
theorem dX7_play_30 : decode cX7_play 30 = .ok (.getfield 36, 3) := by decide +kernel
theorem dX7_play_33 : decode cX7_play 33 = .ok (.getfield 124, 3) := by decide +kernel
theorem dX7_play_36 : decode cX7_play 36 = .ok (.if_icmp .ge 25, 3) := by decide +kernel
theorem dX7_play_39 : decode cX7_play 39 = .ok (.aload_n 0, 1) := by decide +kernel
theorem dX7_play_40 : decode cX7_play 40 = .ok (.aload_n 0, 1) := by decide +kernel
theorem dX7_play_41 : decode cX7_play 41 = .ok (.getfield 36, 3) := by decide +kernel
theorem dX7_play_44 : decode cX7_play 44 = .ok (.getfield 139, 3) := by decide +kernel
theorem dX7_play_47 : decode cX7_play 47 = .ok (.iload_n 1, 1) := by decide +kernel
theorem dX7_play_48 : decode cX7_play 48 = .ok (.iaload, 1) := by decide +kernel
theorem dX7_play_49 : decode cX7_play 49 = .ok (.invokevirtual 142, 3) := by decide +kernel
theorem dX7_play_52 : decode cX7_play 52 = .ok (.ifCond .eq 9, 3) := by decide +kernel
theorem dX7_play_55 : decode cX7_play 55 = .ok (.iinc 1 1, 3) := by decide +kernel
theorem dX7_play_58 : decode cX7_play 58 = .ok (.goto (-30), 3) := by decide +kernel
theorem dX7_play_61 : decode cX7_play 61 = .ok (.aload_n 0, 1) := by decide +kernel
theorem dX7_play_62 : decode cX7_play 62 = .ok (.getfield 36, 3) := by decide +kernel
theorem dX7_play_65 : decode cX7_play 65 = .ok (.iconst 0, 1) := by decide +kernel
theorem dX7_play_66 : decode cX7_play 66 = .ok (.putfield 124, 3) := by decide +kernel
theorem dX7_play_69 : decode cX7_play 69 = .ok (.iload_n 1, 1) := by decide +kernel
theorem dX7_play_70 : decode cX7_play 70 = .ok (.ireturn, 1) := by decide +kernel
theorem dX7_playOne_0 : decode cX7_playOne 0 = .ok (.iload_n 1, 1) := by decide +kernel
theorem dX7_playOne_1 : decode cX7_playOne 1 = .ok (.bipush 98, 2) := by decide +kernel
theorem dX7_playOne_3 : decode cX7_playOne 3 = .ok (.if_icmp .ne 25, 3) := by decide +kernel
theorem dX7_playOne_6 : decode cX7_playOne 6 = .ok (.aload_n 0, 1) := by decide +kernel
theorem dX7_playOne_7 : decode cX7_playOne 7 = .ok (.getfield 10, 3) := by decide +kernel
theorem dX7_playOne_10 : decode cX7_playOne 10 = .ok (.invokevirtual 103, 3) := by decide +kernel
theorem dX7_playOne_13 : decode cX7_playOne 13 = .ok (.ifCond .ne 5, 3) := by decide +kernel
theorem dX7_playOne_16 : decode cX7_playOne 16 = .ok (.iconst 0, 1) := by decide +kernel
theorem dX7_playOne_17 : decode cX7_playOne 17 = .ok (.ireturn, 1) := by decide +kernel
theorem dX7_playOne_18 : decode cX7_playOne 18 = .ok (.aload_n 0, 1) := by decide +kernel
theorem dX7_playOne_19 : decode cX7_playOne 19 = .ok (.getfield 10, 3) := by decide +kernel
theorem dX7_playOne_22 : decode cX7_playOne 22 = .ok (.invokevirtual 106, 3) := by decide +kernel
theorem dX7_playOne_25 : decode cX7_playOne 25 = .ok (.pop, 1) := by decide +kernel
theorem dX7_playOne_26 : decode cX7_playOne 26 = .ok (.iconst 1, 1) := by decide +kernel
theorem dX7_playOne_27 : decode cX7_playOne 27 = .ok (.ireturn, 1) := by decide +kernel
theorem dX7_playOne_28 : decode cX7_playOne 28 = .ok (.aload_n 0, 1) := by decide +kernel
theorem dX7_playOne_29 : decode cX7_playOne 29 = .ok (.getfield 10, 3) := by decide +kernel
theorem dX7_playOne_32 : decode cX7_playOne 32 = .ok (.getfield 96, 3) := by decide +kernel
theorem dX7_playOne_35 : decode cX7_playOne 35 = .ok (.ifCond .eq 5, 3) := by decide +kernel
theorem dX7_playOne_38 : decode cX7_playOne 38 = .ok (.iconst 0, 1) := by decide +kernel
theorem dX7_playOne_39 : decode cX7_playOne 39 = .ok (.ireturn, 1) := by decide +kernel
theorem dX7_playOne_40 : decode cX7_playOne 40 = .ok (.aload_n 0, 1) := by decide +kernel
theorem dX7_playOne_41 : decode cX7_playOne 41 = .ok (.getfield 10, 3) := by decide +kernel
theorem dX7_playOne_44 : decode cX7_playOne 44 = .ok (.iload_n 1, 1) := by decide +kernel
theorem dX7_playOne_45 : decode cX7_playOne 45 = .ok (.bipush 108, 2) := by decide +kernel
theorem dX7_playOne_47 : decode cX7_playOne 47 = .ok (.if_icmp .ne 7, 3) := by decide +kernel
theorem dX7_playOne_50 : decode cX7_playOne 50 = .ok (.iconst (-1), 1) := by decide +kernel
theorem dX7_playOne_51 : decode cX7_playOne 51 = .ok (.goto 14, 3) := by decide +kernel
theorem dX7_playOne_54 : decode cX7_playOne 54 = .ok (.iload_n 1, 1) := by decide +kernel
theorem dX7_playOne_55 : decode cX7_playOne 55 = .ok (.bipush 114, 2) := by decide +kernel
theorem dX7_playOne_57 : decode cX7_playOne 57 = .ok (.if_icmp .ne 7, 3) := by decide +kernel
theorem dX7_playOne_60 : decode cX7_playOne 60 = .ok (.iconst 1, 1) := by decide +kernel
theorem dX7_playOne_61 : decode cX7_playOne 61 = .ok (.goto 4, 3) := by decide +kernel
theorem dX7_playOne_64 : decode cX7_playOne 64 = .ok (.iconst 0, 1) := by decide +kernel
theorem dX7_playOne_65 : decode cX7_playOne 65 = .ok (.invokevirtual 99, 3) := by decide +kernel
theorem dX7_playOne_68 : decode cX7_playOne 68 = .ok (.pop, 1) := by decide +kernel
theorem dX7_playOne_69 : decode cX7_playOne 69 = .ok (.iconst 1, 1) := by decide +kernel
theorem dX7_playOne_70 : decode cX7_playOne 70 = .ok (.ireturn, 1) := by decide +kernel
theorem dX7_emitterOf_0 : decode cX7_emitterOf 0 = .ok (.aload_n 0, 1) := by decide +kernel
theorem dX7_emitterOf_1 : decode cX7_emitterOf 1 = .ok (.getfield 10, 3) := by decide +kernel
theorem dX7_emitterOf_4 : decode cX7_emitterOf 4 = .ok (.getfield 64, 3) := by decide +kernel
theorem dX7_emitterOf_7 : decode cX7_emitterOf 7 = .ok (.iload_n 1, 1) := by decide +kernel
theorem dX7_emitterOf_8 : decode cX7_emitterOf 8 = .ok (.invokevirtual 86, 3) := by decide +kernel
theorem dX7_emitterOf_11 : decode cX7_emitterOf 11 = .ok (.ifCond .ne 5, 3) := by decide +kernel
theorem dX7_emitterOf_14 : decode cX7_emitterOf 14 = .ok (.iconst (-1), 1) := by decide +kernel
theorem dX7_emitterOf_15 : decode cX7_emitterOf 15 = .ok (.ireturn, 1) := by decide +kernel
theorem dX7_emitterOf_16 : decode cX7_emitterOf 16 = .ok (.iload_n 2, 1) := by decide +kernel
theorem dX7_emitterOf_17 : decode cX7_emitterOf 17 = .ok (.tableswitch 106 0 4 #[35, 48, 61, 74, 87], 35) := by decide +kernel
theorem dX7_emitterOf_52 : decode cX7_emitterOf 52 = .ok (.aload_n 0, 1) := by decide +kernel
theorem dX7_emitterOf_53 : decode cX7_emitterOf 53 = .ok (.getfield 10, 3) := by decide +kernel
theorem dX7_emitterOf_56 : decode cX7_emitterOf 56 = .ok (.getfield 64, 3) := by decide +kernel
theorem dX7_emitterOf_59 : decode cX7_emitterOf 59 = .ok (.getfield 145, 3) := by decide +kernel
theorem dX7_emitterOf_62 : decode cX7_emitterOf 62 = .ok (.iload_n 1, 1) := by decide +kernel
theorem dX7_emitterOf_63 : decode cX7_emitterOf 63 = .ok (.iaload, 1) := by decide +kernel
theorem dX7_emitterOf_64 : decode cX7_emitterOf 64 = .ok (.ireturn, 1) := by decide +kernel
theorem dX7_emitterOf_65 : decode cX7_emitterOf 65 = .ok (.aload_n 0, 1) := by decide +kernel
theorem dX7_emitterOf_66 : decode cX7_emitterOf 66 = .ok (.getfield 10, 3) := by decide +kernel
theorem dX7_emitterOf_69 : decode cX7_emitterOf 69 = .ok (.getfield 64, 3) := by decide +kernel
theorem dX7_emitterOf_72 : decode cX7_emitterOf 72 = .ok (.getfield 148, 3) := by decide +kernel
theorem dX7_emitterOf_75 : decode cX7_emitterOf 75 = .ok (.iload_n 1, 1) := by decide +kernel
theorem dX7_emitterOf_76 : decode cX7_emitterOf 76 = .ok (.iaload, 1) := by decide +kernel
theorem dX7_emitterOf_77 : decode cX7_emitterOf 77 = .ok (.ireturn, 1) := by decide +kernel
theorem dX7_emitterOf_78 : decode cX7_emitterOf 78 = .ok (.aload_n 0, 1) := by decide +kernel
theorem dX7_emitterOf_79 : decode cX7_emitterOf 79 = .ok (.getfield 10, 3) := by decide +kernel
theorem dX7_emitterOf_82 : decode cX7_emitterOf 82 = .ok (.getfield 64, 3) := by decide +kernel
theorem dX7_emitterOf_85 : decode cX7_emitterOf 85 = .ok (.getfield 151, 3) := by decide +kernel
theorem dX7_emitterOf_88 : decode cX7_emitterOf 88 = .ok (.iload_n 1, 1) := by decide +kernel
theorem dX7_emitterOf_89 : decode cX7_emitterOf 89 = .ok (.iaload, 1) := by decide +kernel
theorem dX7_emitterOf_90 : decode cX7_emitterOf 90 = .ok (.ireturn, 1) := by decide +kernel
theorem dX7_emitterOf_91 : decode cX7_emitterOf 91 = .ok (.aload_n 0, 1) := by decide +kernel
theorem dX7_emitterOf_92 : decode cX7_emitterOf 92 = .ok (.getfield 10, 3) := by decide +kernel
theorem dX7_emitterOf_95 : decode cX7_emitterOf 95 = .ok (.getfield 64, 3) := by decide +kernel
theorem dX7_emitterOf_98 : decode cX7_emitterOf 98 = .ok (.getfield 154, 3) := by decide +kernel
theorem dX7_emitterOf_101 : decode cX7_emitterOf 101 = .ok (.iload_n 1, 1) := by decide +kernel
theorem dX7_emitterOf_102 : decode cX7_emitterOf 102 = .ok (.iaload, 1) := by decide +kernel
theorem dX7_emitterOf_103 : decode cX7_emitterOf 103 = .ok (.ireturn, 1) := by decide +kernel
theorem dX7_emitterOf_104 : decode cX7_emitterOf 104 = .ok (.aload_n 0, 1) := by decide +kernel
theorem dX7_emitterOf_105 : decode cX7_emitterOf 105 = .ok (.getfield 10, 3) := by decide +kernel
theorem dX7_emitterOf_108 : decode cX7_emitterOf 108 = .ok (.getfield 64, 3) := by decide +kernel
theorem dX7_emitterOf_111 : decode cX7_emitterOf 111 = .ok (.iload_n 1, 1) := by decide +kernel
theorem dX7_emitterOf_112 : decode cX7_emitterOf 112 = .ok (.aload_n 0, 1) := by decide +kernel
theorem dX7_emitterOf_113 : decode cX7_emitterOf 113 = .ok (.getfield 10, 3) := by decide +kernel
theorem dX7_emitterOf_116 : decode cX7_emitterOf 116 = .ok (.getfield 157, 3) := by decide +kernel
theorem dX7_emitterOf_119 : decode cX7_emitterOf 119 = .ok (.invokevirtual 160, 3) := by decide +kernel
theorem dX7_emitterOf_122 : decode cX7_emitterOf 122 = .ok (.ireturn, 1) := by decide +kernel
theorem dX7_emitterOf_123 : decode cX7_emitterOf 123 = .ok (.iconst (-1), 1) := by decide +kernel
theorem dX7_emitterOf_124 : decode cX7_emitterOf 124 = .ok (.ireturn, 1) := by decide +kernel
theorem dX7_bullet_0 : decode cX7_bullet 0 = .ok (.aload_n 0, 1) := by decide +kernel
theorem dX7_bullet_1 : decode cX7_bullet 1 = .ok (.getfield 10, 3) := by decide +kernel
theorem dX7_bullet_4 : decode cX7_bullet 4 = .ok (.getfield 164, 3) := by decide +kernel
theorem dX7_bullet_7 : decode cX7_bullet 7 = .ok (.iload_n 1, 1) := by decide +kernel
theorem dX7_bullet_8 : decode cX7_bullet 8 = .ok (.invokevirtual 168, 3) := by decide +kernel
theorem dX7_bullet_11 : decode cX7_bullet 11 = .ok (.ifCond .ne 5, 3) := by decide +kernel
theorem dX7_bullet_14 : decode cX7_bullet 14 = .ok (.iconst (-1), 1) := by decide +kernel
theorem dX7_bullet_15 : decode cX7_bullet 15 = .ok (.ireturn, 1) := by decide +kernel
theorem dX7_bullet_16 : decode cX7_bullet 16 = .ok (.iload_n 2, 1) := by decide +kernel
theorem dX7_bullet_17 : decode cX7_bullet 17 = .ok (.tableswitch 118 0 4 #[35, 48, 61, 76, 97], 35) := by decide +kernel
theorem dX7_bullet_52 : decode cX7_bullet 52 = .ok (.aload_n 0, 1) := by decide +kernel
theorem dX7_bullet_53 : decode cX7_bullet 53 = .ok (.getfield 10, 3) := by decide +kernel
theorem dX7_bullet_56 : decode cX7_bullet 56 = .ok (.getfield 164, 3) := by decide +kernel
theorem dX7_bullet_59 : decode cX7_bullet 59 = .ok (.getfield 171, 3) := by decide +kernel
theorem dX7_bullet_62 : decode cX7_bullet 62 = .ok (.iload_n 1, 1) := by decide +kernel
theorem dX7_bullet_63 : decode cX7_bullet 63 = .ok (.iaload, 1) := by decide +kernel
theorem dX7_bullet_64 : decode cX7_bullet 64 = .ok (.ireturn, 1) := by decide +kernel
theorem dX7_bullet_65 : decode cX7_bullet 65 = .ok (.aload_n 0, 1) := by decide +kernel
theorem dX7_bullet_66 : decode cX7_bullet 66 = .ok (.getfield 10, 3) := by decide +kernel
theorem dX7_bullet_69 : decode cX7_bullet 69 = .ok (.getfield 164, 3) := by decide +kernel
theorem dX7_bullet_72 : decode cX7_bullet 72 = .ok (.getfield 174, 3) := by decide +kernel
theorem dX7_bullet_75 : decode cX7_bullet 75 = .ok (.iload_n 1, 1) := by decide +kernel
theorem dX7_bullet_76 : decode cX7_bullet 76 = .ok (.iaload, 1) := by decide +kernel
theorem dX7_bullet_77 : decode cX7_bullet 77 = .ok (.ireturn, 1) := by decide +kernel
theorem dX7_bullet_78 : decode cX7_bullet 78 = .ok (.aload_n 0, 1) := by decide +kernel
theorem dX7_bullet_79 : decode cX7_bullet 79 = .ok (.getfield 10, 3) := by decide +kernel
theorem dX7_bullet_82 : decode cX7_bullet 82 = .ok (.getfield 164, 3) := by decide +kernel
theorem dX7_bullet_85 : decode cX7_bullet 85 = .ok (.getfield 175, 3) := by decide +kernel
theorem dX7_bullet_88 : decode cX7_bullet 88 = .ok (.iload_n 1, 1) := by decide +kernel
theorem dX7_bullet_89 : decode cX7_bullet 89 = .ok (.iaload, 1) := by decide +kernel
theorem dX7_bullet_90 : decode cX7_bullet 90 = .ok (.iconst 1, 1) := by decide +kernel
theorem dX7_bullet_91 : decode cX7_bullet 91 = .ok (.iadd, 1) := by decide +kernel
theorem dX7_bullet_92 : decode cX7_bullet 92 = .ok (.ireturn, 1) := by decide +kernel
theorem dX7_bullet_93 : decode cX7_bullet 93 = .ok (.aload_n 0, 1) := by decide +kernel
theorem dX7_bullet_94 : decode cX7_bullet 94 = .ok (.getfield 10, 3) := by decide +kernel
theorem dX7_bullet_97 : decode cX7_bullet 97 = .ok (.getfield 164, 3) := by decide +kernel
theorem dX7_bullet_100 : decode cX7_bullet 100 = .ok (.getfield 178, 3) := by decide +kernel
theorem dX7_bullet_103 : decode cX7_bullet 103 = .ok (.iload_n 1, 1) := by decide +kernel
theorem dX7_bullet_104 : decode cX7_bullet 104 = .ok (.baload, 1) := by decide +kernel
theorem dX7_bullet_105 : decode cX7_bullet 105 = .ok (.ifCond .eq 7, 3) := by decide +kernel
theorem dX7_bullet_108 : decode cX7_bullet 108 = .ok (.iconst 1, 1) := by decide +kernel
theorem dX7_bullet_109 : decode cX7_bullet 109 = .ok (.goto 4, 3) := by decide +kernel
theorem dX7_bullet_112 : decode cX7_bullet 112 = .ok (.iconst 0, 1) := by decide +kernel
theorem dX7_bullet_113 : decode cX7_bullet 113 = .ok (.ireturn, 1) := by decide +kernel
theorem dX7_bullet_114 : decode cX7_bullet 114 = .ok (.aload_n 0, 1) := by decide +kernel
theorem dX7_bullet_115 : decode cX7_bullet 115 = .ok (.getfield 10, 3) := by decide +kernel
theorem dX7_bullet_118 : decode cX7_bullet 118 = .ok (.getfield 164, 3) := by decide +kernel
theorem dX7_bullet_121 : decode cX7_bullet 121 = .ok (.getfield 182, 3) := by decide +kernel
theorem dX7_bullet_124 : decode cX7_bullet 124 = .ok (.iload_n 1, 1) := by decide +kernel
theorem dX7_bullet_125 : decode cX7_bullet 125 = .ok (.baload, 1) := by decide +kernel
theorem dX7_bullet_126 : decode cX7_bullet 126 = .ok (.ifCond .eq 7, 3) := by decide +kernel
theorem dX7_bullet_129 : decode cX7_bullet 129 = .ok (.iconst 1, 1) := by decide +kernel
theorem dX7_bullet_130 : decode cX7_bullet 130 = .ok (.goto 4, 3) := by decide +kernel
theorem dX7_bullet_133 : decode cX7_bullet 133 = .ok (.iconst 0, 1) := by decide +kernel
theorem dX7_bullet_134 : decode cX7_bullet 134 = .ok (.ireturn, 1) := by decide +kernel
theorem dX7_bullet_135 : decode cX7_bullet 135 = .ok (.iconst (-1), 1) := by decide +kernel
theorem dX7_bullet_136 : decode cX7_bullet 136 = .ok (.ireturn, 1) := by decide +kernel
theorem dX7_at_0 : decode cX7_at 0 = .ok (.iload_n 1, 1) := by decide +kernel
theorem dX7_at_1 : decode cX7_at 1 = .ok (.ifCond .lt 16, 3) := by decide +kernel
theorem dX7_at_4 : decode cX7_at 4 = .ok (.iload_n 1, 1) := by decide +kernel
theorem dX7_at_5 : decode cX7_at 5 = .ok (.bipush 11, 2) := by decide +kernel
theorem dX7_at_7 : decode cX7_at 7 = .ok (.if_icmp .gt 10, 3) := by decide +kernel
theorem dX7_at_10 : decode cX7_at 10 = .ok (.iload_n 2, 1) := by decide +kernel
theorem dX7_at_11 : decode cX7_at 11 = .ok (.invokestatic 54, 3) := by decide +kernel
theorem dX7_at_14 : decode cX7_at 14 = .ok (.ifCond .ne 5, 3) := by decide +kernel
theorem dX7_at_17 : decode cX7_at 17 = .ok (.iconst (-1), 1) := by decide +kernel
theorem dX7_at_18 : decode cX7_at 18 = .ok (.ireturn, 1) := by decide +kernel
theorem dX7_at_19 : decode cX7_at 19 = .ok (.aload_n 0, 1) := by decide +kernel
theorem dX7_at_20 : decode cX7_at 20 = .ok (.getfield 10, 3) := by decide +kernel
theorem dX7_at_23 : decode cX7_at 23 = .ok (.getfield 164, 3) := by decide +kernel
theorem dX7_at_26 : decode cX7_at 26 = .ok (.iload_n 1, 1) := by decide +kernel
theorem dX7_at_27 : decode cX7_at 27 = .ok (.iload_n 2, 1) := by decide +kernel
theorem dX7_at_28 : decode cX7_at 28 = .ok (.invokevirtual 185, 3) := by decide +kernel
theorem dX7_at_31 : decode cX7_at 31 = .ok (.ireturn, 1) := by decide +kernel
theorem dX7_count_0 : decode cX7_count 0 = .ok (.iload_n 1, 1) := by decide +kernel
theorem dX7_count_1 : decode cX7_count 1 = .ok (.bipush 7, 2) := by decide +kernel
theorem dX7_count_3 : decode cX7_count 3 = .ok (.if_icmp .lt 22, 3) := by decide +kernel
theorem dX7_count_6 : decode cX7_count 6 = .ok (.iload_n 1, 1) := by decide +kernel
theorem dX7_count_7 : decode cX7_count 7 = .ok (.bipush 15, 2) := by decide +kernel
theorem dX7_count_9 : decode cX7_count 9 = .ok (.if_icmp .ge 16, 3) := by decide +kernel
theorem dX7_count_12 : decode cX7_count 12 = .ok (.aload_n 0, 1) := by decide +kernel
theorem dX7_count_13 : decode cX7_count 13 = .ok (.getfield 10, 3) := by decide +kernel
theorem dX7_count_16 : decode cX7_count 16 = .ok (.getfield 188, 3) := by decide +kernel
theorem dX7_count_19 : decode cX7_count 19 = .ok (.iload_n 1, 1) := by decide +kernel
theorem dX7_count_20 : decode cX7_count 20 = .ok (.bipush 7, 2) := by decide +kernel
theorem dX7_count_22 : decode cX7_count 22 = .ok (.isub, 1) := by decide +kernel
theorem dX7_count_23 : decode cX7_count 23 = .ok (.iaload, 1) := by decide +kernel
theorem dX7_count_24 : decode cX7_count 24 = .ok (.ireturn, 1) := by decide +kernel
theorem dX7_count_25 : decode cX7_count 25 = .ok (.iload_n 1, 1) := by decide +kernel
theorem dX7_count_26 : decode cX7_count 26 = .ok (.tableswitch 196 0 18 #[90, 101, 112, 120, 128, 136, 144, 196, 196, 196, 196, 196, 196, 196, 196, 160, 170, 180, 188], 90) := by decide +kernel
theorem dX7_count_116 : decode cX7_count 116 = .ok (.aload_n 0, 1) := by decide +kernel
theorem dX7_count_117 : decode cX7_count 117 = .ok (.getfield 10, 3) := by decide +kernel
theorem dX7_count_120 : decode cX7_count 120 = .ok (.getfield 64, 3) := by decide +kernel
theorem dX7_count_123 : decode cX7_count 123 = .ok (.getfield 82, 3) := by decide +kernel
theorem dX7_count_126 : decode cX7_count 126 = .ok (.ireturn, 1) := by decide +kernel
theorem dX7_count_127 : decode cX7_count 127 = .ok (.aload_n 0, 1) := by decide +kernel
theorem dX7_count_128 : decode cX7_count 128 = .ok (.getfield 10, 3) := by decide +kernel
theorem dX7_count_131 : decode cX7_count 131 = .ok (.getfield 164, 3) := by decide +kernel
theorem dX7_count_134 : decode cX7_count 134 = .ok (.getfield 191, 3) := by decide +kernel
theorem dX7_count_137 : decode cX7_count 137 = .ok (.ireturn, 1) := by decide +kernel
theorem dX7_count_138 : decode cX7_count 138 = .ok (.aload_n 0, 1) := by decide +kernel
theorem dX7_count_139 : decode cX7_count 139 = .ok (.getfield 10, 3) := by decide +kernel
theorem dX7_count_142 : decode cX7_count 142 = .ok (.getfield 192, 3) := by decide +kernel
theorem dX7_count_145 : decode cX7_count 145 = .ok (.ireturn, 1) := by decide +kernel
theorem dX7_count_146 : decode cX7_count 146 = .ok (.aload_n 0, 1) := by decide +kernel
theorem dX7_count_147 : decode cX7_count 147 = .ok (.getfield 10, 3) := by decide +kernel
theorem dX7_count_150 : decode cX7_count 150 = .ok (.getfield 195, 3) := by decide +kernel
theorem dX7_count_153 : decode cX7_count 153 = .ok (.ireturn, 1) := by decide +kernel
theorem dX7_count_154 : decode cX7_count 154 = .ok (.aload_n 0, 1) := by decide +kernel
theorem dX7_count_155 : decode cX7_count 155 = .ok (.getfield 10, 3) := by decide +kernel
theorem dX7_count_158 : decode cX7_count 158 = .ok (.getfield 198, 3) := by decide +kernel
theorem dX7_count_161 : decode cX7_count 161 = .ok (.ireturn, 1) := by decide +kernel
theorem dX7_count_162 : decode cX7_count 162 = .ok (.aload_n 0, 1) := by decide +kernel
theorem dX7_count_163 : decode cX7_count 163 = .ok (.getfield 10, 3) := by decide +kernel
theorem dX7_count_166 : decode cX7_count 166 = .ok (.getfield 157, 3) := by decide +kernel
theorem dX7_count_169 : decode cX7_count 169 = .ok (.ireturn, 1) := by decide +kernel
theorem dX7_count_170 : decode cX7_count 170 = .ok (.aload_n 0, 1) := by decide +kernel
theorem dX7_count_171 : decode cX7_count 171 = .ok (.getfield 10, 3) := by decide +kernel
theorem dX7_count_174 : decode cX7_count 174 = .ok (.getfield 96, 3) := by decide +kernel
theorem dX7_count_177 : decode cX7_count 177 = .ok (.ifCond .eq 7, 3) := by decide +kernel
theorem dX7_count_180 : decode cX7_count 180 = .ok (.iconst 1, 1) := by decide +kernel
theorem dX7_count_181 : decode cX7_count 181 = .ok (.goto 4, 3) := by decide +kernel
theorem dX7_count_184 : decode cX7_count 184 = .ok (.iconst 0, 1) := by decide +kernel
theorem dX7_count_185 : decode cX7_count 185 = .ok (.ireturn, 1) := by decide +kernel
theorem dX7_count_186 : decode cX7_count 186 = .ok (.aload_n 0, 1) := by decide +kernel
theorem dX7_count_187 : decode cX7_count 187 = .ok (.getfield 10, 3) := by decide +kernel
theorem dX7_count_190 : decode cX7_count 190 = .ok (.getfield 117, 3) := by decide +kernel
theorem dX7_count_193 : decode cX7_count 193 = .ok (.iconst 0, 1) := by decide +kernel
theorem dX7_count_194 : decode cX7_count 194 = .ok (.iaload, 1) := by decide +kernel
theorem dX7_count_195 : decode cX7_count 195 = .ok (.ireturn, 1) := by decide +kernel
theorem dX7_count_196 : decode cX7_count 196 = .ok (.aload_n 0, 1) := by decide +kernel
theorem dX7_count_197 : decode cX7_count 197 = .ok (.getfield 10, 3) := by decide +kernel
theorem dX7_count_200 : decode cX7_count 200 = .ok (.getfield 117, 3) := by decide +kernel
theorem dX7_count_203 : decode cX7_count 203 = .ok (.iconst 1, 1) := by decide +kernel
theorem dX7_count_204 : decode cX7_count 204 = .ok (.iaload, 1) := by decide +kernel
theorem dX7_count_205 : decode cX7_count 205 = .ok (.ireturn, 1) := by decide +kernel
theorem dX7_count_206 : decode cX7_count 206 = .ok (.aload_n 0, 1) := by decide +kernel
theorem dX7_count_207 : decode cX7_count 207 = .ok (.getfield 36, 3) := by decide +kernel
theorem dX7_count_210 : decode cX7_count 210 = .ok (.getfield 124, 3) := by decide +kernel
theorem dX7_count_213 : decode cX7_count 213 = .ok (.ireturn, 1) := by decide +kernel
theorem dX7_count_214 : decode cX7_count 214 = .ok (.aload_n 0, 1) := by decide +kernel
theorem dX7_count_215 : decode cX7_count 215 = .ok (.getfield 29, 3) := by decide +kernel
theorem dX7_count_218 : decode cX7_count 218 = .ok (.getfield 201, 3) := by decide +kernel
theorem dX7_count_221 : decode cX7_count 221 = .ok (.ireturn, 1) := by decide +kernel
theorem dX7_count_222 : decode cX7_count 222 = .ok (.iconst (-1), 1) := by decide +kernel
theorem dX7_count_223 : decode cX7_count 223 = .ok (.ireturn, 1) := by decide +kernel
theorem dX7_free_0 : decode cX7_free 0 = .ok (.iload_n 1, 1) := by decide +kernel
theorem dX7_free_1 : decode cX7_free 1 = .ok (.ifCond .lt 9, 3) := by decide +kernel
theorem dX7_free_4 : decode cX7_free 4 = .ok (.iload_n 1, 1) := by decide +kernel
theorem dX7_free_5 : decode cX7_free 5 = .ok (.bipush 30, 2) := by decide +kernel
theorem dX7_free_7 : decode cX7_free 7 = .ok (.if_icmp .le 5, 3) := by decide +kernel
theorem dX7_free_10 : decode cX7_free 10 = .ok (.iconst (-1), 1) := by decide +kernel
theorem dX7_free_11 : decode cX7_free 11 = .ok (.ireturn, 1) := by decide +kernel
theorem dX7_free_12 : decode cX7_free 12 = .ok (.aload_n 0, 1) := by decide +kernel
theorem dX7_free_13 : decode cX7_free 13 = .ok (.iload_n 1, 1) := by decide +kernel
theorem dX7_free_14 : decode cX7_free 14 = .ok (.invokevirtual 202, 3) := by decide +kernel
theorem dX7_free_17 : decode cX7_free 17 = .ok (.aload_n 0, 1) := by decide +kernel
theorem dX7_free_18 : decode cX7_free 18 = .ok (.getfield 50, 3) := by decide +kernel
theorem dX7_free_21 : decode cX7_free 21 = .ok (.getfield 205, 3) := by decide +kernel
theorem dX7_free_24 : decode cX7_free 24 = .ok (.iload_n 1, 1) := by decide +kernel
theorem dX7_free_25 : decode cX7_free 25 = .ok (.iaload, 1) := by decide +kernel
theorem dX7_free_26 : decode cX7_free 26 = .ok (.ireturn, 1) := by decide +kernel
theorem dX7_lane_0 : decode cX7_lane 0 = .ok (.iload_n 1, 1) := by decide +kernel
theorem dX7_lane_1 : decode cX7_lane 1 = .ok (.ifCond .lt 9, 3) := by decide +kernel
theorem dX7_lane_4 : decode cX7_lane 4 = .ok (.iload_n 1, 1) := by decide +kernel
theorem dX7_lane_5 : decode cX7_lane 5 = .ok (.bipush 30, 2) := by decide +kernel
theorem dX7_lane_7 : decode cX7_lane 7 = .ok (.if_icmp .le 5, 3) := by decide +kernel
theorem dX7_lane_10 : decode cX7_lane 10 = .ok (.iconst (-1), 1) := by decide +kernel
theorem dX7_lane_11 : decode cX7_lane 11 = .ok (.ireturn, 1) := by decide +kernel
theorem dX7_lane_12 : decode cX7_lane 12 = .ok (.iload_n 2, 1) := by decide +kernel
theorem dX7_lane_13 : decode cX7_lane 13 = .ok (.ifCond .lt 8, 3) := by decide +kernel
theorem dX7_lane_16 : decode cX7_lane 16 = .ok (.iload_n 2, 1) := by decide +kernel
theorem dX7_lane_17 : decode cX7_lane 17 = .ok (.iconst 2, 1) := by decide +kernel
theorem dX7_lane_18 : decode cX7_lane 18 = .ok (.if_icmp .le 5, 3) := by decide +kernel
theorem dX7_lane_21 : decode cX7_lane 21 = .ok (.iconst (-1), 1) := by decide +kernel
theorem dX7_lane_22 : decode cX7_lane 22 = .ok (.ireturn, 1) := by decide +kernel
theorem dX7_lane_23 : decode cX7_lane 23 = .ok (.aload_n 0, 1) := by decide +kernel
theorem dX7_lane_24 : decode cX7_lane 24 = .ok (.iload_n 1, 1) := by decide +kernel
theorem dX7_lane_25 : decode cX7_lane 25 = .ok (.invokevirtual 202, 3) := by decide +kernel
theorem dX7_lane_28 : decode cX7_lane 28 = .ok (.iload_n 2, 1) := by decide +kernel
theorem dX7_lane_29 : decode cX7_lane 29 = .ok (.ifCond .ne 12, 3) := by decide +kernel
theorem dX7_lane_32 : decode cX7_lane 32 = .ok (.aload_n 0, 1) := by decide +kernel
theorem dX7_lane_33 : decode cX7_lane 33 = .ok (.getfield 50, 3) := by decide +kernel
theorem dX7_lane_36 : decode cX7_lane 36 = .ok (.iload_n 1, 1) := by decide +kernel
theorem dX7_lane_37 : decode cX7_lane 37 = .ok (.invokevirtual 208, 3) := by decide +kernel
theorem dX7_lane_40 : decode cX7_lane 40 = .ok (.ireturn, 1) := by decide +kernel
theorem dX7_lane_41 : decode cX7_lane 41 = .ok (.iload_n 2, 1) := by decide +kernel
theorem dX7_lane_42 : decode cX7_lane 42 = .ok (.iconst 1, 1) := by decide +kernel
theorem dX7_lane_43 : decode cX7_lane 43 = .ok (.if_icmp .ne 14, 3) := by decide +kernel
theorem dX7_lane_46 : decode cX7_lane 46 = .ok (.aload_n 0, 1) := by decide +kernel
theorem dX7_lane_47 : decode cX7_lane 47 = .ok (.getfield 50, 3) := by decide +kernel
theorem dX7_lane_50 : decode cX7_lane 50 = .ok (.iload_n 1, 1) := by decide +kernel
theorem dX7_lane_51 : decode cX7_lane 51 = .ok (.invokevirtual 211, 3) := by decide +kernel
theorem dX7_lane_54 : decode cX7_lane 54 = .ok (.goto 11, 3) := by decide +kernel
theorem dX7_lane_57 : decode cX7_lane 57 = .ok (.aload_n 0, 1) := by decide +kernel
theorem dX7_lane_58 : decode cX7_lane 58 = .ok (.getfield 50, 3) := by decide +kernel
theorem dX7_lane_61 : decode cX7_lane 61 = .ok (.iload_n 1, 1) := by decide +kernel
theorem dX7_lane_62 : decode cX7_lane 62 = .ok (.invokevirtual 214, 3) := by decide +kernel
theorem dX7_lane_65 : decode cX7_lane 65 = .ok (.ireturn, 1) := by decide +kernel
theorem dX7_ends_0 : decode cX7_ends 0 = .ok (.iload_n 1, 1) := by decide +kernel
theorem dX7_ends_1 : decode cX7_ends 1 = .ok (.invokestatic 217, 3) := by decide +kernel
theorem dX7_ends_4 : decode cX7_ends 4 = .ok (.ifCond .eq 12, 3) := by decide +kernel
theorem dX7_ends_7 : decode cX7_ends 7 = .ok (.iload_n 2, 1) := by decide +kernel
theorem dX7_ends_8 : decode cX7_ends 8 = .ok (.ifCond .lt 8, 3) := by decide +kernel
theorem dX7_ends_11 : decode cX7_ends 11 = .ok (.iload_n 2, 1) := by decide +kernel
theorem dX7_ends_12 : decode cX7_ends 12 = .ok (.iconst 1, 1) := by decide +kernel
theorem dX7_ends_13 : decode cX7_ends 13 = .ok (.if_icmp .le 5, 3) := by decide +kernel
theorem dX7_ends_16 : decode cX7_ends 16 = .ok (.iconst (-1), 1) := by decide +kernel
theorem dX7_ends_17 : decode cX7_ends 17 = .ok (.ireturn, 1) := by decide +kernel
theorem dX7_ends_18 : decode cX7_ends 18 = .ok (.aload_n 0, 1) := by decide +kernel
theorem dX7_ends_19 : decode cX7_ends 19 = .ok (.iload_n 1, 1) := by decide +kernel
theorem dX7_ends_20 : decode cX7_ends 20 = .ok (.invokevirtual 202, 3) := by decide +kernel
theorem dX7_ends_23 : decode cX7_ends 23 = .ok (.iload_n 2, 1) := by decide +kernel
theorem dX7_ends_24 : decode cX7_ends 24 = .ok (.ifCond .ne 21, 3) := by decide +kernel
theorem dX7_ends_27 : decode cX7_ends 27 = .ok (.aload_n 0, 1) := by decide +kernel
theorem dX7_ends_28 : decode cX7_ends 28 = .ok (.getfield 50, 3) := by decide +kernel
theorem dX7_ends_31 : decode cX7_ends 31 = .ok (.aload_n 0, 1) := by decide +kernel
theorem dX7_ends_32 : decode cX7_ends 32 = .ok (.getfield 10, 3) := by decide +kernel
theorem dX7_ends_35 : decode cX7_ends 35 = .ok (.getfield 192, 3) := by decide +kernel
theorem dX7_ends_38 : decode cX7_ends 38 = .ok (.iload_n 1, 1) := by decide +kernel
theorem dX7_ends_39 : decode cX7_ends 39 = .ok (.invokevirtual 220, 3) := by decide +kernel
theorem dX7_ends_42 : decode cX7_ends 42 = .ok (.goto 18, 3) := by decide +kernel
theorem dX7_ends_45 : decode cX7_ends 45 = .ok (.aload_n 0, 1) := by decide +kernel
theorem dX7_ends_46 : decode cX7_ends 46 = .ok (.getfield 50, 3) := by decide +kernel
theorem dX7_ends_49 : decode cX7_ends 49 = .ok (.aload_n 0, 1) := by decide +kernel
theorem dX7_ends_50 : decode cX7_ends 50 = .ok (.getfield 10, 3) := by decide +kernel
theorem dX7_ends_53 : decode cX7_ends 53 = .ok (.getfield 192, 3) := by decide +kernel
theorem dX7_ends_56 : decode cX7_ends 56 = .ok (.iload_n 1, 1) := by decide +kernel
theorem dX7_ends_57 : decode cX7_ends 57 = .ok (.invokevirtual 223, 3) := by decide +kernel
theorem dX7_ends_60 : decode cX7_ends 60 = .ok (.ireturn, 1) := by decide +kernel
theorem dX7_way_0 : decode cX7_way 0 = .ok (.iload_n 1, 1) := by decide +kernel
theorem dX7_way_1 : decode cX7_way 1 = .ok (.invokestatic 217, 3) := by decide +kernel
theorem dX7_way_4 : decode cX7_way 4 = .ok (.ifCond .eq 12, 3) := by decide +kernel
theorem dX7_way_7 : decode cX7_way 7 = .ok (.iload_n 2, 1) := by decide +kernel
theorem dX7_way_8 : decode cX7_way 8 = .ok (.ifCond .lt 8, 3) := by decide +kernel
theorem dX7_way_11 : decode cX7_way 11 = .ok (.iload_n 2, 1) := by decide +kernel
theorem dX7_way_12 : decode cX7_way 12 = .ok (.iload_n 1, 1) := by decide +kernel
theorem dX7_way_13 : decode cX7_way 13 = .ok (.if_icmp .le 5, 3) := by decide +kernel
theorem dX7_way_16 : decode cX7_way 16 = .ok (.iconst (-1), 1) := by decide +kernel
theorem dX7_way_17 : decode cX7_way 17 = .ok (.ireturn, 1) := by decide +kernel
theorem dX7_way_18 : decode cX7_way 18 = .ok (.aload_n 0, 1) := by decide +kernel
theorem dX7_way_19 : decode cX7_way 19 = .ok (.iload_n 1, 1) := by decide +kernel
theorem dX7_way_20 : decode cX7_way 20 = .ok (.invokevirtual 202, 3) := by decide +kernel
theorem dX7_way_23 : decode cX7_way 23 = .ok (.aload_n 0, 1) := by decide +kernel
theorem dX7_way_24 : decode cX7_way 24 = .ok (.getfield 50, 3) := by decide +kernel
theorem dX7_way_27 : decode cX7_way 27 = .ok (.aload_n 0, 1) := by decide +kernel
theorem dX7_way_28 : decode cX7_way 28 = .ok (.getfield 10, 3) := by decide +kernel
theorem dX7_way_31 : decode cX7_way 31 = .ok (.getfield 192, 3) := by decide +kernel
theorem dX7_way_34 : decode cX7_way 34 = .ok (.iload_n 1, 1) := by decide +kernel
theorem dX7_way_35 : decode cX7_way 35 = .ok (.iload_n 2, 1) := by decide +kernel
theorem dX7_way_36 : decode cX7_way 36 = .ok (.invokevirtual 226, 3) := by decide +kernel
theorem dX7_way_39 : decode cX7_way 39 = .ok (.ireturn, 1) := by decide +kernel
theorem dX7_asides_0 : decode cX7_asides 0 = .ok (.iload_n 1, 1) := by decide +kernel
theorem dX7_asides_1 : decode cX7_asides 1 = .ok (.invokestatic 217, 3) := by decide +kernel
theorem dX7_asides_4 : decode cX7_asides 4 = .ok (.ifCond .ne 5, 3) := by decide +kernel
theorem dX7_asides_7 : decode cX7_asides 7 = .ok (.iconst (-1), 1) := by decide +kernel
theorem dX7_asides_8 : decode cX7_asides 8 = .ok (.ireturn, 1) := by decide +kernel
theorem dX7_asides_9 : decode cX7_asides 9 = .ok (.aload_n 0, 1) := by decide +kernel
theorem dX7_asides_10 : decode cX7_asides 10 = .ok (.iload_n 1, 1) := by decide +kernel
theorem dX7_asides_11 : decode cX7_asides 11 = .ok (.invokevirtual 202, 3) := by decide +kernel
theorem dX7_asides_14 : decode cX7_asides 14 = .ok (.aload_n 0, 1) := by decide +kernel
theorem dX7_asides_15 : decode cX7_asides 15 = .ok (.getfield 50, 3) := by decide +kernel
theorem dX7_asides_18 : decode cX7_asides 18 = .ok (.aload_n 0, 1) := by decide +kernel
theorem dX7_asides_19 : decode cX7_asides 19 = .ok (.getfield 10, 3) := by decide +kernel
theorem dX7_asides_22 : decode cX7_asides 22 = .ok (.getfield 192, 3) := by decide +kernel
theorem dX7_asides_25 : decode cX7_asides 25 = .ok (.iload_n 1, 1) := by decide +kernel
theorem dX7_asides_26 : decode cX7_asides 26 = .ok (.invokevirtual 230, 3) := by decide +kernel
theorem dX7_asides_29 : decode cX7_asides 29 = .ok (.ireturn, 1) := by decide +kernel
theorem dX7_fair_0 : decode cX7_fair 0 = .ok (.aload_n 0, 1) := by decide +kernel
theorem dX7_fair_1 : decode cX7_fair 1 = .ok (.bipush 30, 2) := by decide +kernel
theorem dX7_fair_3 : decode cX7_fair 3 = .ok (.invokevirtual 202, 3) := by decide +kernel
theorem dX7_fair_6 : decode cX7_fair 6 = .ok (.aload_n 0, 1) := by decide +kernel
theorem dX7_fair_7 : decode cX7_fair 7 = .ok (.getfield 50, 3) := by decide +kernel
theorem dX7_fair_10 : decode cX7_fair 10 = .ok (.aload_n 0, 1) := by decide +kernel
theorem dX7_fair_11 : decode cX7_fair 11 = .ok (.getfield 10, 3) := by decide +kernel
theorem dX7_fair_14 : decode cX7_fair 14 = .ok (.getfield 192, 3) := by decide +kernel
theorem dX7_fair_17 : decode cX7_fair 17 = .ok (.invokevirtual 233, 3) := by decide +kernel
theorem dX7_fair_20 : decode cX7_fair 20 = .ok (.ireturn, 1) := by decide +kernel
theorem dX7_shuts_0 : decode cX7_shuts 0 = .ok (.iload_n 1, 1) := by decide +kernel
theorem dX7_shuts_1 : decode cX7_shuts 1 = .ok (.invokestatic 217, 3) := by decide +kernel
theorem dX7_shuts_4 : decode cX7_shuts 4 = .ok (.ifCond .ne 5, 3) := by decide +kernel
theorem dX7_shuts_7 : decode cX7_shuts 7 = .ok (.iconst (-1), 1) := by decide +kernel
theorem dX7_shuts_8 : decode cX7_shuts 8 = .ok (.ireturn, 1) := by decide +kernel
theorem dX7_shuts_9 : decode cX7_shuts 9 = .ok (.aload_n 0, 1) := by decide +kernel
theorem dX7_shuts_10 : decode cX7_shuts 10 = .ok (.getfield 10, 3) := by decide +kernel
theorem dX7_shuts_13 : decode cX7_shuts 13 = .ok (.getfield 64, 3) := by decide +kernel
theorem dX7_shuts_16 : decode cX7_shuts 16 = .ok (.getfield 82, 3) := by decide +kernel
theorem dX7_shuts_19 : decode cX7_shuts 19 = .ok (.ifCond .ne 6, 3) := by decide +kernel
theorem dX7_shuts_22 : decode cX7_shuts 22 = .ok (.bipush (-2), 2) := by decide +kernel
theorem dX7_shuts_24 : decode cX7_shuts 24 = .ok (.ireturn, 1) := by decide +kernel
theorem dX7_shuts_25 : decode cX7_shuts 25 = .ok (.iconst 0, 1) := by decide +kernel
theorem dX7_shuts_26 : decode cX7_shuts 26 = .ok (.istore_n 2, 1) := by decide +kernel
theorem dX7_shuts_27 : decode cX7_shuts 27 = .ok (.iconst (-1), 1) := by decide +kernel
theorem dX7_shuts_28 : decode cX7_shuts 28 = .ok (.istore_n 3, 1) := by decide +kernel
theorem dX7_shuts_29 : decode cX7_shuts 29 = .ok (.iconst 0, 1) := by decide +kernel
theorem dX7_shuts_30 : decode cX7_shuts 30 = .ok (.istore 4, 2) := by decide +kernel
theorem dX7_shuts_32 : decode cX7_shuts 32 = .ok (.iload 4, 2) := by decide +kernel
theorem dX7_shuts_34 : decode cX7_shuts 34 = .ok (.aload_n 0, 1) := by decide +kernel
theorem dX7_shuts_35 : decode cX7_shuts 35 = .ok (.getfield 10, 3) := by decide +kernel
theorem dX7_shuts_38 : decode cX7_shuts 38 = .ok (.getfield 64, 3) := by decide +kernel
theorem dX7_shuts_41 : decode cX7_shuts 41 = .ok (.getfield 82, 3) := by decide +kernel
theorem dX7_shuts_44 : decode cX7_shuts 44 = .ok (.if_icmp .ge 66, 3) := by decide +kernel
theorem dX7_shuts_47 : decode cX7_shuts 47 = .ok (.aload_n 0, 1) := by decide +kernel
theorem dX7_shuts_48 : decode cX7_shuts 48 = .ok (.getfield 16, 3) := by decide +kernel
theorem dX7_shuts_51 : decode cX7_shuts 51 = .ok (.aload_n 0, 1) := by decide +kernel
theorem dX7_shuts_52 : decode cX7_shuts 52 = .ok (.getfield 10, 3) := by decide +kernel
theorem dX7_shuts_55 : decode cX7_shuts 55 = .ok (.invokevirtual 236, 3) := by decide +kernel
theorem dX7_shuts_58 : decode cX7_shuts 58 = .ok (.aload_n 0, 1) := by decide +kernel
theorem dX7_shuts_59 : decode cX7_shuts 59 = .ok (.getfield 16, 3) := by decide +kernel
theorem dX7_shuts_62 : decode cX7_shuts 62 = .ok (.getfield 64, 3) := by decide +kernel
theorem dX7_shuts_65 : decode cX7_shuts 65 = .ok (.iload 4, 2) := by decide +kernel
theorem dX7_shuts_67 : decode cX7_shuts 67 = .ok (.invokevirtual 89, 3) := by decide +kernel
theorem dX7_shuts_70 : decode cX7_shuts 70 = .ok (.aload_n 0, 1) := by decide +kernel
theorem dX7_shuts_71 : decode cX7_shuts 71 = .ok (.getfield 50, 3) := by decide +kernel
theorem dX7_shuts_74 : decode cX7_shuts 74 = .ok (.aload_n 0, 1) := by decide +kernel
theorem dX7_shuts_75 : decode cX7_shuts 75 = .ok (.getfield 16, 3) := by decide +kernel
theorem dX7_shuts_78 : decode cX7_shuts 78 = .ok (.iload_n 1, 1) := by decide +kernel
theorem dX7_shuts_79 : decode cX7_shuts 79 = .ok (.invokevirtual 238, 3) := by decide +kernel
theorem dX7_shuts_82 : decode cX7_shuts 82 = .ok (.aload_n 0, 1) := by decide +kernel
theorem dX7_shuts_83 : decode cX7_shuts 83 = .ok (.getfield 50, 3) := by decide +kernel
theorem dX7_shuts_86 : decode cX7_shuts 86 = .ok (.iload_n 1, 1) := by decide +kernel
theorem dX7_shuts_87 : decode cX7_shuts 87 = .ok (.invokevirtual 241, 3) := by decide +kernel
theorem dX7_shuts_90 : decode cX7_shuts 90 = .ok (.istore 5, 2) := by decide +kernel
theorem dX7_shuts_92 : decode cX7_shuts 92 = .ok (.iload 5, 2) := by decide +kernel
theorem dX7_shuts_94 : decode cX7_shuts 94 = .ok (.iload_n 3, 1) := by decide +kernel
theorem dX7_shuts_95 : decode cX7_shuts 95 = .ok (.if_icmp .le 9, 3) := by decide +kernel
theorem dX7_shuts_98 : decode cX7_shuts 98 = .ok (.iload 5, 2) := by decide +kernel
theorem dX7_shuts_100 : decode cX7_shuts 100 = .ok (.istore_n 3, 1) := by decide +kernel
theorem dX7_shuts_101 : decode cX7_shuts 101 = .ok (.iload 4, 2) := by decide +kernel
theorem dX7_shuts_103 : decode cX7_shuts 103 = .ok (.istore_n 2, 1) := by decide +kernel
theorem dX7_shuts_104 : decode cX7_shuts 104 = .ok (.iinc 4 1, 3) := by decide +kernel
theorem dX7_shuts_107 : decode cX7_shuts 107 = .ok (.goto (-75), 3) := by decide +kernel
theorem dX7_shuts_110 : decode cX7_shuts 110 = .ok (.iload_n 2, 1) := by decide +kernel
theorem dX7_shuts_111 : decode cX7_shuts 111 = .ok (.ireturn, 1) := by decide +kernel
theorem dX7_ifStepped_0 : decode cX7_ifStepped 0 = .ok (.iload_n 1, 1) := by decide +kernel
theorem dX7_ifStepped_1 : decode cX7_ifStepped 1 = .ok (.invokestatic 93, 3) := by decide +kernel
theorem dX7_ifStepped_4 : decode cX7_ifStepped 4 = .ok (.ifCond .eq 19, 3) := by decide +kernel
theorem dX7_ifStepped_7 : decode cX7_ifStepped 7 = .ok (.iload_n 2, 1) := by decide +kernel
theorem dX7_ifStepped_8 : decode cX7_ifStepped 8 = .ok (.invokestatic 217, 3) := by decide +kernel
theorem dX7_ifStepped_11 : decode cX7_ifStepped 11 = .ok (.ifCond .eq 12, 3) := by decide +kernel
theorem dX7_ifStepped_14 : decode cX7_ifStepped 14 = .ok (.iload_n 3, 1) := by decide +kernel
theorem dX7_ifStepped_15 : decode cX7_ifStepped 15 = .ok (.ifCond .lt 8, 3) := by decide +kernel
theorem dX7_ifStepped_18 : decode cX7_ifStepped 18 = .ok (.iload_n 3, 1) := by decide +kernel
theorem dX7_ifStepped_19 : decode cX7_ifStepped 19 = .ok (.iconst 2, 1) := by decide +kernel
theorem dX7_ifStepped_20 : decode cX7_ifStepped 20 = .ok (.if_icmp .le 5, 3) := by decide +kernel
theorem dX7_ifStepped_23 : decode cX7_ifStepped 23 = .ok (.iconst (-1), 1) := by decide +kernel
theorem dX7_ifStepped_24 : decode cX7_ifStepped 24 = .ok (.ireturn, 1) := by decide +kernel
theorem dX7_ifStepped_25 : decode cX7_ifStepped 25 = .ok (.aload_n 0, 1) := by decide +kernel
theorem dX7_ifStepped_26 : decode cX7_ifStepped 26 = .ok (.getfield 10, 3) := by decide +kernel
theorem dX7_ifStepped_29 : decode cX7_ifStepped 29 = .ok (.getfield 96, 3) := by decide +kernel
theorem dX7_ifStepped_32 : decode cX7_ifStepped 32 = .ok (.ifCond .eq 6, 3) := by decide +kernel
theorem dX7_ifStepped_35 : decode cX7_ifStepped 35 = .ok (.bipush (-2), 2) := by decide +kernel
theorem dX7_ifStepped_37 : decode cX7_ifStepped 37 = .ok (.ireturn, 1) := by decide +kernel
theorem dX7_ifStepped_38 : decode cX7_ifStepped 38 = .ok (.aload_n 0, 1) := by decide +kernel
theorem dX7_ifStepped_39 : decode cX7_ifStepped 39 = .ok (.getfield 16, 3) := by decide +kernel
theorem dX7_ifStepped_42 : decode cX7_ifStepped 42 = .ok (.aload_n 0, 1) := by decide +kernel
theorem dX7_ifStepped_43 : decode cX7_ifStepped 43 = .ok (.getfield 10, 3) := by decide +kernel
theorem dX7_ifStepped_46 : decode cX7_ifStepped 46 = .ok (.invokevirtual 236, 3) := by decide +kernel
theorem dX7_ifStepped_49 : decode cX7_ifStepped 49 = .ok (.iconst 0, 1) := by decide +kernel
theorem dX7_ifStepped_50 : decode cX7_ifStepped 50 = .ok (.istore 4, 2) := by decide +kernel
theorem dX7_ifStepped_52 : decode cX7_ifStepped 52 = .ok (.iload 4, 2) := by decide +kernel
theorem dX7_ifStepped_54 : decode cX7_ifStepped 54 = .ok (.iload_n 2, 1) := by decide +kernel
theorem dX7_ifStepped_55 : decode cX7_ifStepped 55 = .ok (.if_icmp .ge 28, 3) := by decide +kernel
theorem dX7_ifStepped_58 : decode cX7_ifStepped 58 = .ok (.aload_n 0, 1) := by decide +kernel
theorem dX7_ifStepped_59 : decode cX7_ifStepped 59 = .ok (.getfield 16, 3) := by decide +kernel
theorem dX7_ifStepped_62 : decode cX7_ifStepped 62 = .ok (.getfield 96, 3) := by decide +kernel
theorem dX7_ifStepped_65 : decode cX7_ifStepped 65 = .ok (.ifCond .ne 18, 3) := by decide +kernel
theorem dX7_ifStepped_68 : decode cX7_ifStepped 68 = .ok (.aload_n 0, 1) := by decide +kernel
theorem dX7_ifStepped_69 : decode cX7_ifStepped 69 = .ok (.getfield 16, 3) := by decide +kernel
theorem dX7_ifStepped_72 : decode cX7_ifStepped 72 = .ok (.iload_n 1, 1) := by decide +kernel
theorem dX7_ifStepped_73 : decode cX7_ifStepped 73 = .ok (.invokevirtual 99, 3) := by decide +kernel
theorem dX7_ifStepped_76 : decode cX7_ifStepped 76 = .ok (.pop, 1) := by decide +kernel
theorem dX7_ifStepped_77 : decode cX7_ifStepped 77 = .ok (.iinc 4 1, 3) := by decide +kernel
theorem dX7_ifStepped_80 : decode cX7_ifStepped 80 = .ok (.goto (-28), 3) := by decide +kernel
theorem dX7_ifStepped_83 : decode cX7_ifStepped 83 = .ok (.iload_n 3, 1) := by decide +kernel
theorem dX7_ifStepped_84 : decode cX7_ifStepped 84 = .ok (.ifCond .ne 25, 3) := by decide +kernel
theorem dX7_ifStepped_87 : decode cX7_ifStepped 87 = .ok (.aload_n 0, 1) := by decide +kernel
theorem dX7_ifStepped_88 : decode cX7_ifStepped 88 = .ok (.getfield 16, 3) := by decide +kernel
theorem dX7_ifStepped_91 : decode cX7_ifStepped 91 = .ok (.getfield 188, 3) := by decide +kernel
theorem dX7_ifStepped_94 : decode cX7_ifStepped 94 = .ok (.bipush 7, 2) := by decide +kernel
theorem dX7_ifStepped_96 : decode cX7_ifStepped 96 = .ok (.iaload, 1) := by decide +kernel
theorem dX7_ifStepped_97 : decode cX7_ifStepped 97 = .ok (.aload_n 0, 1) := by decide +kernel
theorem dX7_ifStepped_98 : decode cX7_ifStepped 98 = .ok (.getfield 10, 3) := by decide +kernel
theorem dX7_ifStepped_101 : decode cX7_ifStepped 101 = .ok (.getfield 188, 3) := by decide +kernel
theorem dX7_ifStepped_104 : decode cX7_ifStepped 104 = .ok (.bipush 7, 2) := by decide +kernel
theorem dX7_ifStepped_106 : decode cX7_ifStepped 106 = .ok (.iaload, 1) := by decide +kernel
theorem dX7_ifStepped_107 : decode cX7_ifStepped 107 = .ok (.isub, 1) := by decide +kernel
theorem dX7_ifStepped_108 : decode cX7_ifStepped 108 = .ok (.ireturn, 1) := by decide +kernel
theorem dX7_ifStepped_109 : decode cX7_ifStepped 109 = .ok (.iload_n 3, 1) := by decide +kernel
theorem dX7_ifStepped_110 : decode cX7_ifStepped 110 = .ok (.iconst 1, 1) := by decide +kernel
theorem dX7_ifStepped_111 : decode cX7_ifStepped 111 = .ok (.if_icmp .ne 25, 3) := by decide +kernel
theorem dX7_ifStepped_114 : decode cX7_ifStepped 114 = .ok (.aload_n 0, 1) := by decide +kernel
theorem dX7_ifStepped_115 : decode cX7_ifStepped 115 = .ok (.getfield 16, 3) := by decide +kernel
theorem dX7_ifStepped_118 : decode cX7_ifStepped 118 = .ok (.getfield 188, 3) := by decide +kernel
theorem dX7_ifStepped_121 : decode cX7_ifStepped 121 = .ok (.bipush 6, 2) := by decide +kernel
theorem dX7_ifStepped_123 : decode cX7_ifStepped 123 = .ok (.iaload, 1) := by decide +kernel
theorem dX7_ifStepped_124 : decode cX7_ifStepped 124 = .ok (.aload_n 0, 1) := by decide +kernel
theorem dX7_ifStepped_125 : decode cX7_ifStepped 125 = .ok (.getfield 10, 3) := by decide +kernel
theorem dX7_ifStepped_128 : decode cX7_ifStepped 128 = .ok (.getfield 188, 3) := by decide +kernel
theorem dX7_ifStepped_131 : decode cX7_ifStepped 131 = .ok (.bipush 6, 2) := by decide +kernel
theorem dX7_ifStepped_133 : decode cX7_ifStepped 133 = .ok (.iaload, 1) := by decide +kernel
theorem dX7_ifStepped_134 : decode cX7_ifStepped 134 = .ok (.isub, 1) := by decide +kernel
theorem dX7_ifStepped_135 : decode cX7_ifStepped 135 = .ok (.ireturn, 1) := by decide +kernel
theorem dX7_ifStepped_136 : decode cX7_ifStepped 136 = .ok (.aload_n 0, 1) := by decide +kernel
theorem dX7_ifStepped_137 : decode cX7_ifStepped 137 = .ok (.getfield 16, 3) := by decide +kernel
theorem dX7_ifStepped_140 : decode cX7_ifStepped 140 = .ok (.getfield 96, 3) := by decide +kernel
theorem dX7_ifStepped_143 : decode cX7_ifStepped 143 = .ok (.ifCond .eq 8, 3) := by decide +kernel
theorem dX7_ifStepped_146 : decode cX7_ifStepped 146 = .ok (.iload 4, 2) := by decide +kernel
theorem dX7_ifStepped_148 : decode cX7_ifStepped 148 = .ok (.goto 5, 3) := by decide +kernel
theorem dX7_ifStepped_151 : decode cX7_ifStepped 151 = .ok (.bipush (-4), 2) := by decide +kernel
theorem dX7_ifStepped_153 : decode cX7_ifStepped 153 = .ok (.ireturn, 1) := by decide +kernel
theorem dX7_openness_0 : decode cX7_openness 0 = .ok (.iload_n 1, 1) := by decide +kernel
theorem dX7_openness_1 : decode cX7_openness 1 = .ok (.invokestatic 217, 3) := by decide +kernel
theorem dX7_openness_4 : decode cX7_openness 4 = .ok (.ifCond .ne 7, 3) := by decide +kernel
theorem dX7_openness_7 : decode cX7_openness 7 = .ok (.ldc2_w 244, 3) := by decide +kernel
theorem dX7_openness_10 : decode cX7_openness 10 = .ok (.dreturn, 1) := by decide +kernel
theorem dX7_openness_11 : decode cX7_openness 11 = .ok (.aload_n 0, 1) := by decide +kernel
theorem dX7_openness_12 : decode cX7_openness 12 = .ok (.iload_n 1, 1) := by decide +kernel
theorem dX7_openness_13 : decode cX7_openness 13 = .ok (.invokevirtual 202, 3) := by decide +kernel
theorem dX7_openness_16 : decode cX7_openness 16 = .ok (.aload_n 0, 1) := by decide +kernel
theorem dX7_openness_17 : decode cX7_openness 17 = .ok (.getfield 50, 3) := by decide +kernel
theorem dX7_openness_20 : decode cX7_openness 20 = .ok (.iload_n 1, 1) := by decide +kernel
theorem dX7_openness_21 : decode cX7_openness 21 = .ok (.invokevirtual 241, 3) := by decide +kernel
theorem dX7_openness_24 : decode cX7_openness 24 = .ok (.i2d, 1) := by decide +kernel
theorem dX7_openness_25 : decode cX7_openness 25 = .ok (.bipush 10, 2) := by decide +kernel
theorem dX7_openness_27 : decode cX7_openness 27 = .ok (.iload_n 1, 1) := by decide +kernel
theorem dX7_openness_28 : decode cX7_openness 28 = .ok (.imul, 1) := by decide +kernel
theorem dX7_openness_29 : decode cX7_openness 29 = .ok (.i2d, 1) := by decide +kernel
theorem dX7_openness_30 : decode cX7_openness 30 = .ok (.ddiv, 1) := by decide +kernel
theorem dX7_openness_31 : decode cX7_openness 31 = .ok (.dreturn, 1) := by decide +kernel
theorem dX7_foresee_0 : decode cX7_foresee 0 = .ok (.aload_n 0, 1) := by decide +kernel
theorem dX7_foresee_1 : decode cX7_foresee 1 = .ok (.getfield 16, 3) := by decide +kernel
theorem dX7_foresee_4 : decode cX7_foresee 4 = .ok (.aload_n 0, 1) := by decide +kernel
theorem dX7_foresee_5 : decode cX7_foresee 5 = .ok (.getfield 10, 3) := by decide +kernel
theorem dX7_foresee_8 : decode cX7_foresee 8 = .ok (.invokevirtual 236, 3) := by decide +kernel
theorem dX7_foresee_11 : decode cX7_foresee 11 = .ok (.aload_n 0, 1) := by decide +kernel
theorem dX7_foresee_12 : decode cX7_foresee 12 = .ok (.getfield 50, 3) := by decide +kernel
theorem dX7_foresee_15 : decode cX7_foresee 15 = .ok (.aload_n 0, 1) := by decide +kernel
theorem dX7_foresee_16 : decode cX7_foresee 16 = .ok (.getfield 16, 3) := by decide +kernel
theorem dX7_foresee_19 : decode cX7_foresee 19 = .ok (.iload_n 1, 1) := by decide +kernel
theorem dX7_foresee_20 : decode cX7_foresee 20 = .ok (.invokevirtual 238, 3) := by decide +kernel
theorem dX7_foresee_23 : decode cX7_foresee 23 = .ok (.return_, 1) := by decide +kernel
theorem dX7_undo_0 : decode cX7_undo 0 = .ok (.aload_n 0, 1) := by decide +kernel
theorem dX7_undo_1 : decode cX7_undo 1 = .ok (.getfield 29, 3) := by decide +kernel
theorem dX7_undo_4 : decode cX7_undo 4 = .ok (.getfield 201, 3) := by decide +kernel
theorem dX7_undo_7 : decode cX7_undo 7 = .ok (.ifCond .ne 6, 3) := by decide +kernel
theorem dX7_undo_10 : decode cX7_undo 10 = .ok (.bipush (-2), 2) := by decide +kernel
theorem dX7_undo_12 : decode cX7_undo 12 = .ok (.ireturn, 1) := by decide +kernel
theorem dX7_undo_13 : decode cX7_undo 13 = .ok (.aload_n 0, 1) := by decide +kernel
theorem dX7_undo_14 : decode cX7_undo 14 = .ok (.getfield 29, 3) := by decide +kernel
theorem dX7_undo_17 : decode cX7_undo 17 = .ok (.aload_n 0, 1) := by decide +kernel
theorem dX7_undo_18 : decode cX7_undo 18 = .ok (.getfield 10, 3) := by decide +kernel
theorem dX7_undo_21 : decode cX7_undo 21 = .ok (.invokevirtual 246, 3) := by decide +kernel
theorem dX7_undo_24 : decode cX7_undo 24 = .ok (.aload_n 0, 1) := by decide +kernel
theorem dX7_undo_25 : decode cX7_undo 25 = .ok (.getfield 29, 3) := by decide +kernel
theorem dX7_undo_28 : decode cX7_undo 28 = .ok (.getfield 201, 3) := by decide +kernel
theorem dX7_undo_31 : decode cX7_undo 31 = .ok (.ireturn, 1) := by decide +kernel
theorem dX7_save_0 : decode cX7_save 0 = .ok (.aload_n 0, 1) := by decide +kernel
theorem dX7_save_1 : decode cX7_save 1 = .ok (.getfield 19, 3) := by decide +kernel
theorem dX7_save_4 : decode cX7_save 4 = .ok (.aload_n 0, 1) := by decide +kernel
theorem dX7_save_5 : decode cX7_save 5 = .ok (.getfield 10, 3) := by decide +kernel
theorem dX7_save_8 : decode cX7_save 8 = .ok (.invokevirtual 236, 3) := by decide +kernel
theorem dX7_save_11 : decode cX7_save 11 = .ok (.aload_n 0, 1) := by decide +kernel
theorem dX7_save_12 : decode cX7_save 12 = .ok (.iconst 1, 1) := by decide +kernel
theorem dX7_save_13 : decode cX7_save 13 = .ok (.putfield 22, 3) := by decide +kernel
theorem dX7_save_16 : decode cX7_save 16 = .ok (.aload_n 0, 1) := by decide +kernel
theorem dX7_save_17 : decode cX7_save 17 = .ok (.getfield 10, 3) := by decide +kernel
theorem dX7_save_20 : decode cX7_save 20 = .ok (.getfield 157, 3) := by decide +kernel
theorem dX7_save_23 : decode cX7_save 23 = .ok (.ireturn, 1) := by decide +kernel
theorem dX7_restore_0 : decode cX7_restore 0 = .ok (.aload_n 0, 1) := by decide +kernel
theorem dX7_restore_1 : decode cX7_restore 1 = .ok (.getfield 22, 3) := by decide +kernel
theorem dX7_restore_4 : decode cX7_restore 4 = .ok (.ifCond .ne 6, 3) := by decide +kernel
theorem dX7_restore_7 : decode cX7_restore 7 = .ok (.bipush (-2), 2) := by decide +kernel
theorem dX7_restore_9 : decode cX7_restore 9 = .ok (.ireturn, 1) := by decide +kernel
theorem dX7_restore_10 : decode cX7_restore 10 = .ok (.aload_n 0, 1) := by decide +kernel
theorem dX7_restore_11 : decode cX7_restore 11 = .ok (.getfield 29, 3) := by decide +kernel
theorem dX7_restore_14 : decode cX7_restore 14 = .ok (.aload_n 0, 1) := by decide +kernel
theorem dX7_restore_15 : decode cX7_restore 15 = .ok (.getfield 10, 3) := by decide +kernel
theorem dX7_restore_18 : decode cX7_restore 18 = .ok (.invokevirtual 74, 3) := by decide +kernel
theorem dX7_restore_21 : decode cX7_restore 21 = .ok (.aload_n 0, 1) := by decide +kernel
theorem dX7_restore_22 : decode cX7_restore 22 = .ok (.getfield 10, 3) := by decide +kernel
theorem dX7_restore_25 : decode cX7_restore 25 = .ok (.aload_n 0, 1) := by decide +kernel
theorem dX7_restore_26 : decode cX7_restore 26 = .ok (.getfield 19, 3) := by decide +kernel
theorem dX7_restore_29 : decode cX7_restore 29 = .ok (.invokevirtual 236, 3) := by decide +kernel
theorem dX7_restore_32 : decode cX7_restore 32 = .ok (.aload_n 0, 1) := by decide +kernel
theorem dX7_restore_33 : decode cX7_restore 33 = .ok (.getfield 10, 3) := by decide +kernel
theorem dX7_restore_36 : decode cX7_restore 36 = .ok (.getfield 157, 3) := by decide +kernel
theorem dX7_restore_39 : decode cX7_restore 39 = .ok (.ireturn, 1) := by decide +kernel
theorem dX7_isColumn_0 : decode cX7_isColumn 0 = .ok (.iload_n 0, 1) := by decide +kernel
theorem dX7_isColumn_1 : decode cX7_isColumn 1 = .ok (.ifCond .lt 13, 3) := by decide +kernel
theorem dX7_isColumn_4 : decode cX7_isColumn 4 = .ok (.iload_n 0, 1) := by decide +kernel
theorem dX7_isColumn_5 : decode cX7_isColumn 5 = .ok (.bipush 10, 2) := by decide +kernel
theorem dX7_isColumn_7 : decode cX7_isColumn 7 = .ok (.if_icmp .ge 7, 3) := by decide +kernel
theorem dX7_isColumn_10 : decode cX7_isColumn 10 = .ok (.iconst 1, 1) := by decide +kernel
theorem dX7_isColumn_11 : decode cX7_isColumn 11 = .ok (.goto 4, 3) := by decide +kernel
theorem dX7_isColumn_14 : decode cX7_isColumn 14 = .ok (.iconst 0, 1) := by decide +kernel
theorem dX7_isColumn_15 : decode cX7_isColumn 15 = .ok (.ireturn, 1) := by decide +kernel
theorem dX7_isPattern_0 : decode cX7_isPattern 0 = .ok (.iload_n 0, 1) := by decide +kernel
theorem dX7_isPattern_1 : decode cX7_isPattern 1 = .ok (.ifCond .lt 12, 3) := by decide +kernel
theorem dX7_isPattern_4 : decode cX7_isPattern 4 = .ok (.iload_n 0, 1) := by decide +kernel
theorem dX7_isPattern_5 : decode cX7_isPattern 5 = .ok (.iconst 5, 1) := by decide +kernel
theorem dX7_isPattern_6 : decode cX7_isPattern 6 = .ok (.if_icmp .gt 7, 3) := by decide +kernel
theorem dX7_isPattern_9 : decode cX7_isPattern 9 = .ok (.iconst 1, 1) := by decide +kernel
theorem dX7_isPattern_10 : decode cX7_isPattern 10 = .ok (.goto 4, 3) := by decide +kernel
theorem dX7_isPattern_13 : decode cX7_isPattern 13 = .ok (.iconst 0, 1) := by decide +kernel
theorem dX7_isPattern_14 : decode cX7_isPattern 14 = .ok (.ireturn, 1) := by decide +kernel
theorem dX7_isPeriod_0 : decode cX7_isPeriod 0 = .ok (.iload_n 0, 1) := by decide +kernel
theorem dX7_isPeriod_1 : decode cX7_isPeriod 1 = .ok (.iconst 1, 1) := by decide +kernel
theorem dX7_isPeriod_2 : decode cX7_isPeriod 2 = .ok (.if_icmp .lt 13, 3) := by decide +kernel
theorem dX7_isPeriod_5 : decode cX7_isPeriod 5 = .ok (.iload_n 0, 1) := by decide +kernel
theorem dX7_isPeriod_6 : decode cX7_isPeriod 6 = .ok (.bipush 9, 2) := by decide +kernel
theorem dX7_isPeriod_8 : decode cX7_isPeriod 8 = .ok (.if_icmp .gt 7, 3) := by decide +kernel
theorem dX7_isPeriod_11 : decode cX7_isPeriod 11 = .ok (.iconst 1, 1) := by decide +kernel
theorem dX7_isPeriod_12 : decode cX7_isPeriod 12 = .ok (.goto 4, 3) := by decide +kernel
theorem dX7_isPeriod_15 : decode cX7_isPeriod 15 = .ok (.iconst 0, 1) := by decide +kernel
theorem dX7_isPeriod_16 : decode cX7_isPeriod 16 = .ok (.ireturn, 1) := by decide +kernel
theorem dX7_isStep_0 : decode cX7_isStep 0 = .ok (.iload_n 0, 1) := by decide +kernel
theorem dX7_isStep_1 : decode cX7_isStep 1 = .ok (.iconst (-1), 1) := by decide +kernel
theorem dX7_isStep_2 : decode cX7_isStep 2 = .ok (.if_icmp .lt 12, 3) := by decide +kernel
theorem dX7_isStep_5 : decode cX7_isStep 5 = .ok (.iload_n 0, 1) := by decide +kernel
theorem dX7_isStep_6 : decode cX7_isStep 6 = .ok (.iconst 1, 1) := by decide +kernel
theorem dX7_isStep_7 : decode cX7_isStep 7 = .ok (.if_icmp .gt 7, 3) := by decide +kernel
theorem dX7_isStep_10 : decode cX7_isStep 10 = .ok (.iconst 1, 1) := by decide +kernel
theorem dX7_isStep_11 : decode cX7_isStep 11 = .ok (.goto 4, 3) := by decide +kernel
theorem dX7_isStep_14 : decode cX7_isStep 14 = .ok (.iconst 0, 1) := by decide +kernel
theorem dX7_isStep_15 : decode cX7_isStep 15 = .ok (.ireturn, 1) := by decide +kernel
theorem dX7_isSpan_0 : decode cX7_isSpan 0 = .ok (.iload_n 0, 1) := by decide +kernel
theorem dX7_isSpan_1 : decode cX7_isSpan 1 = .ok (.iconst 1, 1) := by decide +kernel
theorem dX7_isSpan_2 : decode cX7_isSpan 2 = .ok (.if_icmp .lt 13, 3) := by decide +kernel
theorem dX7_isSpan_5 : decode cX7_isSpan 5 = .ok (.iload_n 0, 1) := by decide +kernel
theorem dX7_isSpan_6 : decode cX7_isSpan 6 = .ok (.bipush 30, 2) := by decide +kernel
theorem dX7_isSpan_8 : decode cX7_isSpan 8 = .ok (.if_icmp .gt 7, 3) := by decide +kernel
theorem dX7_isSpan_11 : decode cX7_isSpan 11 = .ok (.iconst 1, 1) := by decide +kernel
theorem dX7_isSpan_12 : decode cX7_isSpan 12 = .ok (.goto 4, 3) := by decide +kernel
theorem dX7_isSpan_15 : decode cX7_isSpan 15 = .ok (.iconst 0, 1) := by decide +kernel
theorem dX7_isSpan_16 : decode cX7_isSpan 16 = .ok (.ireturn, 1) := by decide +kernel
theorem dX7_isSetting_0 : decode cX7_isSetting 0 = .ok (.iload_n 0, 1) := by decide +kernel
theorem dX7_isSetting_1 : decode cX7_isSetting 1 = .ok (.ifCond .ne 18, 3) := by decide +kernel
theorem dX7_isSetting_4 : decode cX7_isSetting 4 = .ok (.iload_n 1, 1) := by decide +kernel
theorem dX7_isSetting_5 : decode cX7_isSetting 5 = .ok (.ifCond .eq 8, 3) := by decide +kernel
theorem dX7_isSetting_8 : decode cX7_isSetting 8 = .ok (.iload_n 1, 1) := by decide +kernel
theorem dX7_isSetting_9 : decode cX7_isSetting 9 = .ok (.iconst 1, 1) := by decide +kernel
theorem dX7_isSetting_10 : decode cX7_isSetting 10 = .ok (.if_icmp .ne 7, 3) := by decide +kernel
theorem dX7_isSetting_13 : decode cX7_isSetting 13 = .ok (.iconst 1, 1) := by decide +kernel
theorem dX7_isSetting_14 : decode cX7_isSetting 14 = .ok (.goto 4, 3) := by decide +kernel
theorem dX7_isSetting_17 : decode cX7_isSetting 17 = .ok (.iconst 0, 1) := by decide +kernel
theorem dX7_isSetting_18 : decode cX7_isSetting 18 = .ok (.ireturn, 1) := by decide +kernel
theorem dX7_isSetting_19 : decode cX7_isSetting 19 = .ok (.iload_n 0, 1) := by decide +kernel
theorem dX7_isSetting_20 : decode cX7_isSetting 20 = .ok (.iconst 1, 1) := by decide +kernel
theorem dX7_isSetting_21 : decode cX7_isSetting 21 = .ok (.if_icmp .ne 17, 3) := by decide +kernel
theorem dX7_isSetting_24 : decode cX7_isSetting 24 = .ok (.iload_n 1, 1) := by decide +kernel
theorem dX7_isSetting_25 : decode cX7_isSetting 25 = .ok (.iconst 1, 1) := by decide +kernel
theorem dX7_isSetting_26 : decode cX7_isSetting 26 = .ok (.if_icmp .lt 12, 3) := by decide +kernel
theorem dX7_isSetting_29 : decode cX7_isSetting 29 = .ok (.iload_n 1, 1) := by decide +kernel
theorem dX7_isSetting_30 : decode cX7_isSetting 30 = .ok (.iconst 5, 1) := by decide +kernel
theorem dX7_isSetting_31 : decode cX7_isSetting 31 = .ok (.if_icmp .gt 7, 3) := by decide +kernel
theorem dX7_isSetting_34 : decode cX7_isSetting 34 = .ok (.iconst 1, 1) := by decide +kernel
theorem dX7_isSetting_35 : decode cX7_isSetting 35 = .ok (.goto 4, 3) := by decide +kernel
theorem dX7_isSetting_38 : decode cX7_isSetting 38 = .ok (.iconst 0, 1) := by decide +kernel
theorem dX7_isSetting_39 : decode cX7_isSetting 39 = .ok (.ireturn, 1) := by decide +kernel
end
section
theorem dX8_init_0 : decode cX8_init 0 = .ok (.aload_n 0, 1) := by decide +kernel
theorem dX8_init_1 : decode cX8_init 1 = .ok (.invokespecial 1, 3) := by decide +kernel
theorem dX8_init_4 : decode cX8_init 4 = .ok (.aload_n 0, 1) := by decide +kernel
theorem dX8_init_5 : decode cX8_init 5 = .ok (.sipush 333, 3) := by decide +kernel
theorem dX8_init_8 : decode cX8_init 8 = .ok (.newarray .int, 2) := by decide +kernel
theorem dX8_init_10 : decode cX8_init 10 = .ok (.putfield 7, 3) := by decide +kernel
theorem dX8_init_13 : decode cX8_init 13 = .ok (.aload_n 0, 1) := by decide +kernel
theorem dX8_init_14 : decode cX8_init 14 = .ok (.sipush 333, 3) := by decide +kernel
theorem dX8_init_17 : decode cX8_init 17 = .ok (.newarray .int, 2) := by decide +kernel
theorem dX8_init_19 : decode cX8_init 19 = .ok (.putfield 13, 3) := by decide +kernel
theorem dX8_init_22 : decode cX8_init 22 = .ok (.aload_n 0, 1) := by decide +kernel
theorem dX8_init_23 : decode cX8_init 23 = .ok (.sipush 1332, 3) := by decide +kernel
theorem dX8_init_26 : decode cX8_init 26 = .ok (.newarray .int, 2) := by decide +kernel
theorem dX8_init_28 : decode cX8_init 28 = .ok (.putfield 16, 3) := by decide +kernel
theorem dX8_init_31 : decode cX8_init 31 = .ok (.aload_n 0, 1) := by decide +kernel
theorem dX8_init_32 : decode cX8_init 32 = .ok (.sipush 333, 3) := by decide +kernel
theorem dX8_init_35 : decode cX8_init 35 = .ok (.newarray .int, 2) := by decide +kernel
theorem dX8_init_37 : decode cX8_init 37 = .ok (.putfield 19, 3) := by decide +kernel
theorem dX8_init_40 : decode cX8_init 40 = .ok (.aload_n 0, 1) := by decide +kernel
theorem dX8_init_41 : decode cX8_init 41 = .ok (.bipush 60, 2) := by decide +kernel
theorem dX8_init_43 : decode cX8_init 43 = .ok (.newarray .int, 2) := by decide +kernel
theorem dX8_init_45 : decode cX8_init 45 = .ok (.putfield 22, 3) := by decide +kernel
theorem dX8_init_48 : decode cX8_init 48 = .ok (.aload_n 0, 1) := by decide +kernel
theorem dX8_init_49 : decode cX8_init 49 = .ok (.bipush 60, 2) := by decide +kernel
theorem dX8_init_51 : decode cX8_init 51 = .ok (.newarray .boolean, 2) := by decide +kernel
theorem dX8_init_53 : decode cX8_init 53 = .ok (.putfield 25, 3) := by decide +kernel
theorem dX8_init_56 : decode cX8_init 56 = .ok (.aload_n 0, 1) := by decide +kernel
theorem dX8_init_57 : decode cX8_init 57 = .ok (.bipush 16, 2) := by decide +kernel
theorem dX8_init_59 : decode cX8_init 59 = .ok (.newarray .int, 2) := by decide +kernel
theorem dX8_init_61 : decode cX8_init 61 = .ok (.putfield 29, 3) := by decide +kernel
theorem dX8_init_64 : decode cX8_init 64 = .ok (.aload_n 0, 1) := by decide +kernel
theorem dX8_init_65 : decode cX8_init 65 = .ok (.bipush 31, 2) := by decide +kernel
theorem dX8_init_67 : decode cX8_init 67 = .ok (.newarray .int, 2) := by decide +kernel
theorem dX8_init_69 : decode cX8_init 69 = .ok (.putfield 32, 3) := by decide +kernel
theorem dX8_init_72 : decode cX8_init 72 = .ok (.aload_n 0, 1) := by decide +kernel
theorem dX8_init_73 : decode cX8_init 73 = .ok (.sipush 310, 3) := by decide +kernel
theorem dX8_init_76 : decode cX8_init 76 = .ok (.newarray .int, 2) := by decide +kernel
theorem dX8_init_78 : decode cX8_init 78 = .ok (.putfield 35, 3) := by decide +kernel
theorem dX8_init_81 : decode cX8_init 81 = .ok (.aload_n 0, 1) := by decide +kernel
theorem dX8_init_82 : decode cX8_init 82 = .ok (.bipush 31, 2) := by decide +kernel
theorem dX8_init_84 : decode cX8_init 84 = .ok (.newarray .int, 2) := by decide +kernel
theorem dX8_init_86 : decode cX8_init 86 = .ok (.putfield 38, 3) := by decide +kernel
theorem dX8_init_89 : decode cX8_init 89 = .ok (.aload_n 0, 1) := by decide +kernel
theorem dX8_init_90 : decode cX8_init 90 = .ok (.getfield 7, 3) := by decide +kernel
theorem dX8_init_93 : decode cX8_init 93 = .ok (.iconst 2, 1) := by decide +kernel
theorem dX8_init_94 : decode cX8_init 94 = .ok (.iconst 5, 1) := by decide +kernel
theorem dX8_init_95 : decode cX8_init 95 = .ok (.iastore, 1) := by decide +kernel
theorem dX8_init_96 : decode cX8_init 96 = .ok (.aload_n 0, 1) := by decide +kernel
theorem dX8_init_97 : decode cX8_init 97 = .ok (.getfield 7, 3) := by decide +kernel
theorem dX8_init_100 : decode cX8_init 100 = .ok (.iconst 3, 1) := by decide +kernel
theorem dX8_init_101 : decode cX8_init 101 = .ok (.iconst 3, 1) := by decide +kernel
theorem dX8_init_102 : decode cX8_init 102 = .ok (.iastore, 1) := by decide +kernel
theorem dX8_init_103 : decode cX8_init 103 = .ok (.aload_n 0, 1) := by decide +kernel
theorem dX8_init_104 : decode cX8_init 104 = .ok (.getfield 7, 3) := by decide +kernel
theorem dX8_init_107 : decode cX8_init 107 = .ok (.iconst 4, 1) := by decide +kernel
theorem dX8_init_108 : decode cX8_init 108 = .ok (.iconst 2, 1) := by decide +kernel
theorem dX8_init_109 : decode cX8_init 109 = .ok (.iastore, 1) := by decide +kernel
theorem dX8_init_110 : decode cX8_init 110 = .ok (.aload_n 0, 1) := by decide +kernel
theorem dX8_init_111 : decode cX8_init 111 = .ok (.getfield 7, 3) := by decide +kernel
theorem dX8_init_114 : decode cX8_init 114 = .ok (.bipush 16, 2) := by decide +kernel
theorem dX8_init_116 : decode cX8_init 116 = .ok (.iconst 2, 1) := by decide +kernel
theorem dX8_init_117 : decode cX8_init 117 = .ok (.iastore, 1) := by decide +kernel
theorem dX8_init_118 : decode cX8_init 118 = .ok (.return_, 1) := by decide +kernel
theorem dX8_in_0 : decode cX8_in 0 = .ok (.iload_n 0, 1) := by decide +kernel
theorem dX8_in_1 : decode cX8_in 1 = .ok (.iload_n 1, 1) := by decide +kernel
theorem dX8_in_2 : decode cX8_in 2 = .ok (.if_icmp .lt 12, 3) := by decide +kernel
theorem dX8_in_5 : decode cX8_in 5 = .ok (.iload_n 0, 1) := by decide +kernel
theorem dX8_in_6 : decode cX8_in 6 = .ok (.iload_n 2, 1) := by decide +kernel
theorem dX8_in_7 : decode cX8_in 7 = .ok (.if_icmp .gt 7, 3) := by decide +kernel
theorem dX8_in_10 : decode cX8_in 10 = .ok (.iconst 1, 1) := by decide +kernel
theorem dX8_in_11 : decode cX8_in 11 = .ok (.goto 4, 3) := by decide +kernel
theorem dX8_in_14 : decode cX8_in 14 = .ok (.iconst 0, 1) := by decide +kernel
theorem dX8_in_15 : decode cX8_in 15 = .ok (.ireturn, 1) := by decide +kernel
theorem dX8_copies_0 : decode cX8_copies 0 = .ok (.iconst 0, 1) := by decide +kernel
theorem dX8_copies_1 : decode cX8_copies 1 = .ok (.istore 4, 2) := by decide +kernel
theorem dX8_copies_3 : decode cX8_copies 3 = .ok (.iload 4, 2) := by decide +kernel
theorem dX8_copies_5 : decode cX8_copies 5 = .ok (.sipush 333, 3) := by decide +kernel
theorem dX8_copies_8 : decode cX8_copies 8 = .ok (.if_icmp .ge 21, 3) := by decide +kernel
theorem dX8_copies_11 : decode cX8_copies 11 = .ok (.aload_n 2, 1) := by decide +kernel
theorem dX8_copies_12 : decode cX8_copies 12 = .ok (.iload_n 3, 1) := by decide +kernel
theorem dX8_copies_13 : decode cX8_copies 13 = .ok (.iload 4, 2) := by decide +kernel
theorem dX8_copies_15 : decode cX8_copies 15 = .ok (.iadd, 1) := by decide +kernel
theorem dX8_copies_16 : decode cX8_copies 16 = .ok (.aload_n 0, 1) := by decide +kernel
theorem dX8_copies_17 : decode cX8_copies 17 = .ok (.iload_n 1, 1) := by decide +kernel
theorem dX8_copies_18 : decode cX8_copies 18 = .ok (.iload 4, 2) := by decide +kernel
theorem dX8_copies_20 : decode cX8_copies 20 = .ok (.iadd, 1) := by decide +kernel
theorem dX8_copies_21 : decode cX8_copies 21 = .ok (.iaload, 1) := by decide +kernel
theorem dX8_copies_22 : decode cX8_copies 22 = .ok (.iastore, 1) := by decide +kernel
theorem dX8_copies_23 : decode cX8_copies 23 = .ok (.iinc 4 1, 3) := by decide +kernel
theorem dX8_copies_26 : decode cX8_copies 26 = .ok (.goto (-23), 3) := by decide +kernel
theorem dX8_copies_29 : decode cX8_copies 29 = .ok (.return_, 1) := by decide +kernel
theorem dX8_records_0 : decode cX8_records 0 = .ok (.aload_n 0, 1) := by decide +kernel
theorem dX8_records_1 : decode cX8_records 1 = .ok (.getfield 41, 3) := by decide +kernel
theorem dX8_records_4 : decode cX8_records 4 = .ok (.iconst 4, 1) := by decide +kernel
theorem dX8_records_5 : decode cX8_records 5 = .ok (.if_icmp .ne 44, 3) := by decide +kernel
theorem dX8_records_8 : decode cX8_records 8 = .ok (.iconst 0, 1) := by decide +kernel
theorem dX8_records_9 : decode cX8_records 9 = .ok (.istore_n 1, 1) := by decide +kernel
theorem dX8_records_10 : decode cX8_records 10 = .ok (.iload_n 1, 1) := by decide +kernel
theorem dX8_records_11 : decode cX8_records 11 = .ok (.sipush 999, 3) := by decide +kernel
theorem dX8_records_14 : decode cX8_records 14 = .ok (.if_icmp .ge 25, 3) := by decide +kernel
theorem dX8_records_17 : decode cX8_records 17 = .ok (.aload_n 0, 1) := by decide +kernel
theorem dX8_records_18 : decode cX8_records 18 = .ok (.getfield 16, 3) := by decide +kernel
theorem dX8_records_21 : decode cX8_records 21 = .ok (.iload_n 1, 1) := by decide +kernel
theorem dX8_records_22 : decode cX8_records 22 = .ok (.aload_n 0, 1) := by decide +kernel
theorem dX8_records_23 : decode cX8_records 23 = .ok (.getfield 16, 3) := by decide +kernel
theorem dX8_records_26 : decode cX8_records 26 = .ok (.iload_n 1, 1) := by decide +kernel
theorem dX8_records_27 : decode cX8_records 27 = .ok (.sipush 333, 3) := by decide +kernel
theorem dX8_records_30 : decode cX8_records 30 = .ok (.iadd, 1) := by decide +kernel
theorem dX8_records_31 : decode cX8_records 31 = .ok (.iaload, 1) := by decide +kernel
theorem dX8_records_32 : decode cX8_records 32 = .ok (.iastore, 1) := by decide +kernel
theorem dX8_records_33 : decode cX8_records 33 = .ok (.iinc 1 1, 3) := by decide +kernel
theorem dX8_records_36 : decode cX8_records 36 = .ok (.goto (-26), 3) := by decide +kernel
theorem dX8_records_39 : decode cX8_records 39 = .ok (.aload_n 0, 1) := by decide +kernel
theorem dX8_records_40 : decode cX8_records 40 = .ok (.dup, 1) := by decide +kernel
theorem dX8_records_41 : decode cX8_records 41 = .ok (.getfield 41, 3) := by decide +kernel
theorem dX8_records_44 : decode cX8_records 44 = .ok (.iconst 1, 1) := by decide +kernel
theorem dX8_records_45 : decode cX8_records 45 = .ok (.isub, 1) := by decide +kernel
theorem dX8_records_46 : decode cX8_records 46 = .ok (.putfield 41, 3) := by decide +kernel
theorem dX8_records_49 : decode cX8_records 49 = .ok (.aload_n 0, 1) := by decide +kernel
theorem dX8_records_50 : decode cX8_records 50 = .ok (.getfield 7, 3) := by decide +kernel
theorem dX8_records_53 : decode cX8_records 53 = .ok (.iconst 0, 1) := by decide +kernel
theorem dX8_records_54 : decode cX8_records 54 = .ok (.aload_n 0, 1) := by decide +kernel
theorem dX8_records_55 : decode cX8_records 55 = .ok (.getfield 16, 3) := by decide +kernel
theorem dX8_records_58 : decode cX8_records 58 = .ok (.sipush 333, 3) := by decide +kernel
theorem dX8_records_61 : decode cX8_records 61 = .ok (.aload_n 0, 1) := by decide +kernel
theorem dX8_records_62 : decode cX8_records 62 = .ok (.getfield 41, 3) := by decide +kernel
theorem dX8_records_65 : decode cX8_records 65 = .ok (.imul, 1) := by decide +kernel
theorem dX8_records_66 : decode cX8_records 66 = .ok (.invokestatic 45, 3) := by decide +kernel
theorem dX8_records_69 : decode cX8_records 69 = .ok (.aload_n 0, 1) := by decide +kernel
theorem dX8_records_70 : decode cX8_records 70 = .ok (.dup, 1) := by decide +kernel
theorem dX8_records_71 : decode cX8_records 71 = .ok (.getfield 41, 3) := by decide +kernel
theorem dX8_records_74 : decode cX8_records 74 = .ok (.iconst 1, 1) := by decide +kernel
theorem dX8_records_75 : decode cX8_records 75 = .ok (.iadd, 1) := by decide +kernel
theorem dX8_records_76 : decode cX8_records 76 = .ok (.putfield 41, 3) := by decide +kernel
theorem dX8_records_79 : decode cX8_records 79 = .ok (.return_, 1) := by decide +kernel
theorem dX8_isEmitter_0 : decode cX8_isEmitter 0 = .ok (.iload_n 1, 1) := by decide +kernel
theorem dX8_isEmitter_1 : decode cX8_isEmitter 1 = .ok (.iconst 0, 1) := by decide +kernel
theorem dX8_isEmitter_2 : decode cX8_isEmitter 2 = .ok (.aload_n 0, 1) := by decide +kernel
theorem dX8_isEmitter_3 : decode cX8_isEmitter 3 = .ok (.getfield 7, 3) := by decide +kernel
theorem dX8_isEmitter_6 : decode cX8_isEmitter 6 = .ok (.iconst 0, 1) := by decide +kernel
theorem dX8_isEmitter_7 : decode cX8_isEmitter 7 = .ok (.iaload, 1) := by decide +kernel
theorem dX8_isEmitter_8 : decode cX8_isEmitter 8 = .ok (.iconst 1, 1) := by decide +kernel
theorem dX8_isEmitter_9 : decode cX8_isEmitter 9 = .ok (.isub, 1) := by decide +kernel
theorem dX8_isEmitter_10 : decode cX8_isEmitter 10 = .ok (.invokestatic 49, 3) := by decide +kernel
theorem dX8_isEmitter_13 : decode cX8_isEmitter 13 = .ok (.ireturn, 1) := by decide +kernel
theorem dX8_ofEmitter_0 : decode cX8_ofEmitter 0 = .ok (.aload_n 0, 1) := by decide +kernel
theorem dX8_ofEmitter_1 : decode cX8_ofEmitter 1 = .ok (.getfield 7, 3) := by decide +kernel
theorem dX8_ofEmitter_4 : decode cX8_ofEmitter 4 = .ok (.bipush 17, 2) := by decide +kernel
theorem dX8_ofEmitter_6 : decode cX8_ofEmitter 6 = .ok (.iconst 4, 1) := by decide +kernel
theorem dX8_ofEmitter_7 : decode cX8_ofEmitter 7 = .ok (.iload_n 1, 1) := by decide +kernel
theorem dX8_ofEmitter_8 : decode cX8_ofEmitter 8 = .ok (.imul, 1) := by decide +kernel
theorem dX8_ofEmitter_9 : decode cX8_ofEmitter 9 = .ok (.iadd, 1) := by decide +kernel
theorem dX8_ofEmitter_10 : decode cX8_ofEmitter 10 = .ok (.iload_n 2, 1) := by decide +kernel
theorem dX8_ofEmitter_11 : decode cX8_ofEmitter 11 = .ok (.iadd, 1) := by decide +kernel
theorem dX8_ofEmitter_12 : decode cX8_ofEmitter 12 = .ok (.iaload, 1) := by decide +kernel
theorem dX8_ofEmitter_13 : decode cX8_ofEmitter 13 = .ok (.ireturn, 1) := by decide +kernel
theorem dX8_of_0 : decode cX8_of 0 = .ok (.aload_n 0, 1) := by decide +kernel
theorem dX8_of_1 : decode cX8_of 1 = .ok (.getfield 7, 3) := by decide +kernel
theorem dX8_of_4 : decode cX8_of 4 = .ok (.bipush 33, 2) := by decide +kernel
theorem dX8_of_6 : decode cX8_of 6 = .ok (.iconst 5, 1) := by decide +kernel
theorem dX8_of_7 : decode cX8_of 7 = .ok (.iload_n 1, 1) := by decide +kernel
theorem dX8_of_8 : decode cX8_of 8 = .ok (.imul, 1) := by decide +kernel
theorem dX8_of_9 : decode cX8_of 9 = .ok (.iadd, 1) := by decide +kernel
theorem dX8_of_10 : decode cX8_of 10 = .ok (.iload_n 2, 1) := by decide +kernel
theorem dX8_of_11 : decode cX8_of 11 = .ok (.iadd, 1) := by decide +kernel
theorem dX8_of_12 : decode cX8_of 12 = .ok (.iaload, 1) := by decide +kernel
theorem dX8_of_13 : decode cX8_of 13 = .ok (.ireturn, 1) := by decide +kernel
theorem dX8_lays_0 : decode cX8_lays 0 = .ok (.aload_n 0, 1) := by decide +kernel
theorem dX8_lays_1 : decode cX8_lays 1 = .ok (.getfield 7, 3) := by decide +kernel
theorem dX8_lays_4 : decode cX8_lays 4 = .ok (.bipush 33, 2) := by decide +kernel
theorem dX8_lays_6 : decode cX8_lays 6 = .ok (.iconst 5, 1) := by decide +kernel
theorem dX8_lays_7 : decode cX8_lays 7 = .ok (.iload_n 1, 1) := by decide +kernel
theorem dX8_lays_8 : decode cX8_lays 8 = .ok (.imul, 1) := by decide +kernel
theorem dX8_lays_9 : decode cX8_lays 9 = .ok (.iadd, 1) := by decide +kernel
theorem dX8_lays_10 : decode cX8_lays 10 = .ok (.iload_n 2, 1) := by decide +kernel
theorem dX8_lays_11 : decode cX8_lays 11 = .ok (.iadd, 1) := by decide +kernel
theorem dX8_lays_12 : decode cX8_lays 12 = .ok (.iload_n 3, 1) := by decide +kernel
theorem dX8_lays_13 : decode cX8_lays 13 = .ok (.iastore, 1) := by decide +kernel
theorem dX8_lays_14 : decode cX8_lays 14 = .ok (.return_, 1) := by decide +kernel
theorem dX8_addsEmitter_0 : decode cX8_addsEmitter 0 = .ok (.bipush 17, 2) := by decide +kernel
theorem dX8_addsEmitter_2 : decode cX8_addsEmitter 2 = .ok (.iconst 4, 1) := by decide +kernel
theorem dX8_addsEmitter_3 : decode cX8_addsEmitter 3 = .ok (.aload_n 0, 1) := by decide +kernel
theorem dX8_addsEmitter_4 : decode cX8_addsEmitter 4 = .ok (.getfield 7, 3) := by decide +kernel
theorem dX8_addsEmitter_7 : decode cX8_addsEmitter 7 = .ok (.iconst 0, 1) := by decide +kernel
theorem dX8_addsEmitter_8 : decode cX8_addsEmitter 8 = .ok (.iaload, 1) := by decide +kernel
theorem dX8_addsEmitter_9 : decode cX8_addsEmitter 9 = .ok (.imul, 1) := by decide +kernel
theorem dX8_addsEmitter_10 : decode cX8_addsEmitter 10 = .ok (.iadd, 1) := by decide +kernel
theorem dX8_addsEmitter_11 : decode cX8_addsEmitter 11 = .ok (.istore 5, 2) := by decide +kernel
theorem dX8_addsEmitter_13 : decode cX8_addsEmitter 13 = .ok (.aload_n 0, 1) := by decide +kernel
theorem dX8_addsEmitter_14 : decode cX8_addsEmitter 14 = .ok (.getfield 7, 3) := by decide +kernel
theorem dX8_addsEmitter_17 : decode cX8_addsEmitter 17 = .ok (.iload 5, 2) := by decide +kernel
theorem dX8_addsEmitter_19 : decode cX8_addsEmitter 19 = .ok (.iconst 0, 1) := by decide +kernel
theorem dX8_addsEmitter_20 : decode cX8_addsEmitter 20 = .ok (.iadd, 1) := by decide +kernel
theorem dX8_addsEmitter_21 : decode cX8_addsEmitter 21 = .ok (.iload_n 1, 1) := by decide +kernel
theorem dX8_addsEmitter_22 : decode cX8_addsEmitter 22 = .ok (.iastore, 1) := by decide +kernel
theorem dX8_addsEmitter_23 : decode cX8_addsEmitter 23 = .ok (.aload_n 0, 1) := by decide +kernel
theorem dX8_addsEmitter_24 : decode cX8_addsEmitter 24 = .ok (.getfield 7, 3) := by decide +kernel
theorem dX8_addsEmitter_27 : decode cX8_addsEmitter 27 = .ok (.iload 5, 2) := by decide +kernel
theorem dX8_addsEmitter_29 : decode cX8_addsEmitter 29 = .ok (.iconst 1, 1) := by decide +kernel
theorem dX8_addsEmitter_30 : decode cX8_addsEmitter 30 = .ok (.iadd, 1) := by decide +kernel
theorem dX8_addsEmitter_31 : decode cX8_addsEmitter 31 = .ok (.iload_n 2, 1) := by decide +kernel
theorem dX8_addsEmitter_32 : decode cX8_addsEmitter 32 = .ok (.iastore, 1) := by decide +kernel
theorem dX8_addsEmitter_33 : decode cX8_addsEmitter 33 = .ok (.aload_n 0, 1) := by decide +kernel
theorem dX8_addsEmitter_34 : decode cX8_addsEmitter 34 = .ok (.getfield 7, 3) := by decide +kernel
theorem dX8_addsEmitter_37 : decode cX8_addsEmitter 37 = .ok (.iload 5, 2) := by decide +kernel
theorem dX8_addsEmitter_39 : decode cX8_addsEmitter 39 = .ok (.iconst 2, 1) := by decide +kernel
theorem dX8_addsEmitter_40 : decode cX8_addsEmitter 40 = .ok (.iadd, 1) := by decide +kernel
theorem dX8_addsEmitter_41 : decode cX8_addsEmitter 41 = .ok (.iload_n 3, 1) := by decide +kernel
theorem dX8_addsEmitter_42 : decode cX8_addsEmitter 42 = .ok (.iastore, 1) := by decide +kernel
theorem dX8_addsEmitter_43 : decode cX8_addsEmitter 43 = .ok (.aload_n 0, 1) := by decide +kernel
theorem dX8_addsEmitter_44 : decode cX8_addsEmitter 44 = .ok (.getfield 7, 3) := by decide +kernel
theorem dX8_addsEmitter_47 : decode cX8_addsEmitter 47 = .ok (.iload 5, 2) := by decide +kernel
theorem dX8_addsEmitter_49 : decode cX8_addsEmitter 49 = .ok (.iconst 3, 1) := by decide +kernel
theorem dX8_addsEmitter_50 : decode cX8_addsEmitter 50 = .ok (.iadd, 1) := by decide +kernel
theorem dX8_addsEmitter_51 : decode cX8_addsEmitter 51 = .ok (.iload 4, 2) := by decide +kernel
theorem dX8_addsEmitter_53 : decode cX8_addsEmitter 53 = .ok (.iastore, 1) := by decide +kernel
theorem dX8_addsEmitter_54 : decode cX8_addsEmitter 54 = .ok (.aload_n 0, 1) := by decide +kernel
theorem dX8_addsEmitter_55 : decode cX8_addsEmitter 55 = .ok (.getfield 7, 3) := by decide +kernel
theorem dX8_addsEmitter_58 : decode cX8_addsEmitter 58 = .ok (.iconst 0, 1) := by decide +kernel
theorem dX8_addsEmitter_59 : decode cX8_addsEmitter 59 = .ok (.dup2, 1) := by decide +kernel
theorem dX8_addsEmitter_60 : decode cX8_addsEmitter 60 = .ok (.iaload, 1) := by decide +kernel
theorem dX8_addsEmitter_61 : decode cX8_addsEmitter 61 = .ok (.iconst 1, 1) := by decide +kernel
theorem dX8_addsEmitter_62 : decode cX8_addsEmitter 62 = .ok (.iadd, 1) := by decide +kernel
theorem dX8_addsEmitter_63 : decode cX8_addsEmitter 63 = .ok (.iastore, 1) := by decide +kernel
theorem dX8_addsEmitter_64 : decode cX8_addsEmitter 64 = .ok (.return_, 1) := by decide +kernel
theorem dX8_dropsEmitter_0 : decode cX8_dropsEmitter 0 = .ok (.aload_n 0, 1) := by decide +kernel
theorem dX8_dropsEmitter_1 : decode cX8_dropsEmitter 1 = .ok (.getfield 7, 3) := by decide +kernel
theorem dX8_dropsEmitter_4 : decode cX8_dropsEmitter 4 = .ok (.iconst 0, 1) := by decide +kernel
theorem dX8_dropsEmitter_5 : decode cX8_dropsEmitter 5 = .ok (.dup2, 1) := by decide +kernel
theorem dX8_dropsEmitter_6 : decode cX8_dropsEmitter 6 = .ok (.iaload, 1) := by decide +kernel
theorem dX8_dropsEmitter_7 : decode cX8_dropsEmitter 7 = .ok (.iconst 1, 1) := by decide +kernel
theorem dX8_dropsEmitter_8 : decode cX8_dropsEmitter 8 = .ok (.isub, 1) := by decide +kernel
theorem dX8_dropsEmitter_9 : decode cX8_dropsEmitter 9 = .ok (.iastore, 1) := by decide +kernel
theorem dX8_dropsEmitter_10 : decode cX8_dropsEmitter 10 = .ok (.bipush 17, 2) := by decide +kernel
theorem dX8_dropsEmitter_12 : decode cX8_dropsEmitter 12 = .ok (.iconst 4, 1) := by decide +kernel
theorem dX8_dropsEmitter_13 : decode cX8_dropsEmitter 13 = .ok (.iload_n 1, 1) := by decide +kernel
theorem dX8_dropsEmitter_14 : decode cX8_dropsEmitter 14 = .ok (.imul, 1) := by decide +kernel
theorem dX8_dropsEmitter_15 : decode cX8_dropsEmitter 15 = .ok (.iadd, 1) := by decide +kernel
theorem dX8_dropsEmitter_16 : decode cX8_dropsEmitter 16 = .ok (.istore_n 2, 1) := by decide +kernel
theorem dX8_dropsEmitter_17 : decode cX8_dropsEmitter 17 = .ok (.iload_n 2, 1) := by decide +kernel
theorem dX8_dropsEmitter_18 : decode cX8_dropsEmitter 18 = .ok (.bipush 33, 2) := by decide +kernel
theorem dX8_dropsEmitter_20 : decode cX8_dropsEmitter 20 = .ok (.if_icmp .ge 35, 3) := by decide +kernel
theorem dX8_dropsEmitter_23 : decode cX8_dropsEmitter 23 = .ok (.aload_n 0, 1) := by decide +kernel
theorem dX8_dropsEmitter_24 : decode cX8_dropsEmitter 24 = .ok (.getfield 7, 3) := by decide +kernel
theorem dX8_dropsEmitter_27 : decode cX8_dropsEmitter 27 = .ok (.iload_n 2, 1) := by decide +kernel
theorem dX8_dropsEmitter_28 : decode cX8_dropsEmitter 28 = .ok (.iload_n 2, 1) := by decide +kernel
theorem dX8_dropsEmitter_29 : decode cX8_dropsEmitter 29 = .ok (.iconst 4, 1) := by decide +kernel
theorem dX8_dropsEmitter_30 : decode cX8_dropsEmitter 30 = .ok (.iadd, 1) := by decide +kernel
theorem dX8_dropsEmitter_31 : decode cX8_dropsEmitter 31 = .ok (.bipush 33, 2) := by decide +kernel
theorem dX8_dropsEmitter_33 : decode cX8_dropsEmitter 33 = .ok (.if_icmp .ge 14, 3) := by decide +kernel
theorem dX8_dropsEmitter_36 : decode cX8_dropsEmitter 36 = .ok (.aload_n 0, 1) := by decide +kernel
theorem dX8_dropsEmitter_37 : decode cX8_dropsEmitter 37 = .ok (.getfield 7, 3) := by decide +kernel
theorem dX8_dropsEmitter_40 : decode cX8_dropsEmitter 40 = .ok (.iload_n 2, 1) := by decide +kernel
theorem dX8_dropsEmitter_41 : decode cX8_dropsEmitter 41 = .ok (.iconst 4, 1) := by decide +kernel
theorem dX8_dropsEmitter_42 : decode cX8_dropsEmitter 42 = .ok (.iadd, 1) := by decide +kernel
theorem dX8_dropsEmitter_43 : decode cX8_dropsEmitter 43 = .ok (.iaload, 1) := by decide +kernel
theorem dX8_dropsEmitter_44 : decode cX8_dropsEmitter 44 = .ok (.goto 4, 3) := by decide +kernel
theorem dX8_dropsEmitter_47 : decode cX8_dropsEmitter 47 = .ok (.iconst 0, 1) := by decide +kernel
theorem dX8_dropsEmitter_48 : decode cX8_dropsEmitter 48 = .ok (.iastore, 1) := by decide +kernel
theorem dX8_dropsEmitter_49 : decode cX8_dropsEmitter 49 = .ok (.iinc 2 1, 3) := by decide +kernel
theorem dX8_dropsEmitter_52 : decode cX8_dropsEmitter 52 = .ok (.goto (-35), 3) := by decide +kernel
theorem dX8_dropsEmitter_55 : decode cX8_dropsEmitter 55 = .ok (.return_, 1) := by decide +kernel
theorem dX8_takesAway_0 : decode cX8_takesAway 0 = .ok (.iconst 0, 1) := by decide +kernel
theorem dX8_takesAway_1 : decode cX8_takesAway 1 = .ok (.istore_n 1, 1) := by decide +kernel
theorem dX8_takesAway_2 : decode cX8_takesAway 2 = .ok (.aload_n 0, 1) := by decide +kernel
theorem dX8_takesAway_3 : decode cX8_takesAway 3 = .ok (.getfield 7, 3) := by decide +kernel
theorem dX8_takesAway_6 : decode cX8_takesAway 6 = .ok (.iconst 1, 1) := by decide +kernel
theorem dX8_takesAway_7 : decode cX8_takesAway 7 = .ok (.iaload, 1) := by decide +kernel
theorem dX8_takesAway_8 : decode cX8_takesAway 8 = .ok (.istore_n 2, 1) := by decide +kernel
theorem dX8_takesAway_9 : decode cX8_takesAway 9 = .ok (.iconst 0, 1) := by decide +kernel
theorem dX8_takesAway_10 : decode cX8_takesAway 10 = .ok (.istore_n 3, 1) := by decide +kernel
theorem dX8_takesAway_11 : decode cX8_takesAway 11 = .ok (.iload_n 3, 1) := by decide +kernel
theorem dX8_takesAway_12 : decode cX8_takesAway 12 = .ok (.iload_n 2, 1) := by decide +kernel
theorem dX8_takesAway_13 : decode cX8_takesAway 13 = .ok (.if_icmp .ge 64, 3) := by decide +kernel
theorem dX8_takesAway_16 : decode cX8_takesAway 16 = .ok (.iconst 0, 1) := by decide +kernel
theorem dX8_takesAway_17 : decode cX8_takesAway 17 = .ok (.istore 4, 2) := by decide +kernel
theorem dX8_takesAway_19 : decode cX8_takesAway 19 = .ok (.iload 4, 2) := by decide +kernel
theorem dX8_takesAway_21 : decode cX8_takesAway 21 = .ok (.iconst 5, 1) := by decide +kernel
theorem dX8_takesAway_22 : decode cX8_takesAway 22 = .ok (.if_icmp .ge 32, 3) := by decide +kernel
theorem dX8_takesAway_25 : decode cX8_takesAway 25 = .ok (.aload_n 0, 1) := by decide +kernel
theorem dX8_takesAway_26 : decode cX8_takesAway 26 = .ok (.getfield 25, 3) := by decide +kernel
theorem dX8_takesAway_29 : decode cX8_takesAway 29 = .ok (.iload_n 3, 1) := by decide +kernel
theorem dX8_takesAway_30 : decode cX8_takesAway 30 = .ok (.baload, 1) := by decide +kernel
theorem dX8_takesAway_31 : decode cX8_takesAway 31 = .ok (.ifCond .ne 23, 3) := by decide +kernel
theorem dX8_takesAway_34 : decode cX8_takesAway 34 = .ok (.aload_n 0, 1) := by decide +kernel
theorem dX8_takesAway_35 : decode cX8_takesAway 35 = .ok (.iload_n 1, 1) := by decide +kernel
theorem dX8_takesAway_36 : decode cX8_takesAway 36 = .ok (.iload 4, 2) := by decide +kernel
theorem dX8_takesAway_38 : decode cX8_takesAway 38 = .ok (.aload_n 0, 1) := by decide +kernel
theorem dX8_takesAway_39 : decode cX8_takesAway 39 = .ok (.iload_n 3, 1) := by decide +kernel
theorem dX8_takesAway_40 : decode cX8_takesAway 40 = .ok (.iload 4, 2) := by decide +kernel
theorem dX8_takesAway_42 : decode cX8_takesAway 42 = .ok (.invokevirtual 53, 3) := by decide +kernel
theorem dX8_takesAway_45 : decode cX8_takesAway 45 = .ok (.invokevirtual 57, 3) := by decide +kernel
theorem dX8_takesAway_48 : decode cX8_takesAway 48 = .ok (.iinc 4 1, 3) := by decide +kernel
theorem dX8_takesAway_51 : decode cX8_takesAway 51 = .ok (.goto (-32), 3) := by decide +kernel
theorem dX8_takesAway_54 : decode cX8_takesAway 54 = .ok (.iload_n 1, 1) := by decide +kernel
theorem dX8_takesAway_55 : decode cX8_takesAway 55 = .ok (.aload_n 0, 1) := by decide +kernel
theorem dX8_takesAway_56 : decode cX8_takesAway 56 = .ok (.getfield 25, 3) := by decide +kernel
theorem dX8_takesAway_59 : decode cX8_takesAway 59 = .ok (.iload_n 3, 1) := by decide +kernel
theorem dX8_takesAway_60 : decode cX8_takesAway 60 = .ok (.baload, 1) := by decide +kernel
theorem dX8_takesAway_61 : decode cX8_takesAway 61 = .ok (.ifCond .eq 7, 3) := by decide +kernel
theorem dX8_takesAway_64 : decode cX8_takesAway 64 = .ok (.iconst 0, 1) := by decide +kernel
theorem dX8_takesAway_65 : decode cX8_takesAway 65 = .ok (.goto 4, 3) := by decide +kernel
theorem dX8_takesAway_68 : decode cX8_takesAway 68 = .ok (.iconst 1, 1) := by decide +kernel
theorem dX8_takesAway_69 : decode cX8_takesAway 69 = .ok (.iadd, 1) := by decide +kernel
theorem dX8_takesAway_70 : decode cX8_takesAway 70 = .ok (.istore_n 1, 1) := by decide +kernel
theorem dX8_takesAway_71 : decode cX8_takesAway 71 = .ok (.iinc 3 1, 3) := by decide +kernel
theorem dX8_takesAway_74 : decode cX8_takesAway 74 = .ok (.goto (-63), 3) := by decide +kernel
theorem dX8_takesAway_77 : decode cX8_takesAway 77 = .ok (.aload_n 0, 1) := by decide +kernel
theorem dX8_takesAway_78 : decode cX8_takesAway 78 = .ok (.getfield 7, 3) := by decide +kernel
theorem dX8_takesAway_81 : decode cX8_takesAway 81 = .ok (.iconst 1, 1) := by decide +kernel
theorem dX8_takesAway_82 : decode cX8_takesAway 82 = .ok (.iload_n 1, 1) := by decide +kernel
theorem dX8_takesAway_83 : decode cX8_takesAway 83 = .ok (.iastore, 1) := by decide +kernel
theorem dX8_takesAway_84 : decode cX8_takesAway 84 = .ok (.bipush 33, 2) := by decide +kernel
theorem dX8_takesAway_86 : decode cX8_takesAway 86 = .ok (.iconst 5, 1) := by decide +kernel
theorem dX8_takesAway_87 : decode cX8_takesAway 87 = .ok (.iload_n 1, 1) := by decide +kernel
theorem dX8_takesAway_88 : decode cX8_takesAway 88 = .ok (.imul, 1) := by decide +kernel
theorem dX8_takesAway_89 : decode cX8_takesAway 89 = .ok (.iadd, 1) := by decide +kernel
theorem dX8_takesAway_90 : decode cX8_takesAway 90 = .ok (.istore_n 3, 1) := by decide +kernel
theorem dX8_takesAway_91 : decode cX8_takesAway 91 = .ok (.iload_n 3, 1) := by decide +kernel
theorem dX8_takesAway_92 : decode cX8_takesAway 92 = .ok (.sipush 333, 3) := by decide +kernel
theorem dX8_takesAway_95 : decode cX8_takesAway 95 = .ok (.if_icmp .ge 16, 3) := by decide +kernel
theorem dX8_takesAway_98 : decode cX8_takesAway 98 = .ok (.aload_n 0, 1) := by decide +kernel
theorem dX8_takesAway_99 : decode cX8_takesAway 99 = .ok (.getfield 7, 3) := by decide +kernel
theorem dX8_takesAway_102 : decode cX8_takesAway 102 = .ok (.iload_n 3, 1) := by decide +kernel
theorem dX8_takesAway_103 : decode cX8_takesAway 103 = .ok (.iconst 0, 1) := by decide +kernel
theorem dX8_takesAway_104 : decode cX8_takesAway 104 = .ok (.iastore, 1) := by decide +kernel
theorem dX8_takesAway_105 : decode cX8_takesAway 105 = .ok (.iinc 3 1, 3) := by decide +kernel
theorem dX8_takesAway_108 : decode cX8_takesAway 108 = .ok (.goto (-17), 3) := by decide +kernel
theorem dX8_takesAway_111 : decode cX8_takesAway 111 = .ok (.iload_n 2, 1) := by decide +kernel
theorem dX8_takesAway_112 : decode cX8_takesAway 112 = .ok (.iload_n 1, 1) := by decide +kernel
theorem dX8_takesAway_113 : decode cX8_takesAway 113 = .ok (.isub, 1) := by decide +kernel
theorem dX8_takesAway_114 : decode cX8_takesAway 114 = .ok (.ireturn, 1) := by decide +kernel
theorem dX8_isAt_0 : decode cX8_isAt 0 = .ok (.aload_n 0, 1) := by decide +kernel
theorem dX8_isAt_1 : decode cX8_isAt 1 = .ok (.iload_n 1, 1) := by decide +kernel
theorem dX8_isAt_2 : decode cX8_isAt 2 = .ok (.iconst 0, 1) := by decide +kernel
theorem dX8_isAt_3 : decode cX8_isAt 3 = .ok (.invokevirtual 53, 3) := by decide +kernel
theorem dX8_isAt_6 : decode cX8_isAt 6 = .ok (.iload_n 2, 1) := by decide +kernel
theorem dX8_isAt_7 : decode cX8_isAt 7 = .ok (.if_icmp .ne 17, 3) := by decide +kernel
theorem dX8_isAt_10 : decode cX8_isAt 10 = .ok (.aload_n 0, 1) := by decide +kernel
theorem dX8_isAt_11 : decode cX8_isAt 11 = .ok (.iload_n 1, 1) := by decide +kernel
theorem dX8_isAt_12 : decode cX8_isAt 12 = .ok (.iconst 1, 1) := by decide +kernel
theorem dX8_isAt_13 : decode cX8_isAt 13 = .ok (.invokevirtual 53, 3) := by decide +kernel
theorem dX8_isAt_16 : decode cX8_isAt 16 = .ok (.iload_n 3, 1) := by decide +kernel
theorem dX8_isAt_17 : decode cX8_isAt 17 = .ok (.if_icmp .ne 7, 3) := by decide +kernel
theorem dX8_isAt_20 : decode cX8_isAt 20 = .ok (.iconst 1, 1) := by decide +kernel
theorem dX8_isAt_21 : decode cX8_isAt 21 = .ok (.goto 4, 3) := by decide +kernel
theorem dX8_isAt_24 : decode cX8_isAt 24 = .ok (.iconst 0, 1) := by decide +kernel
theorem dX8_isAt_25 : decode cX8_isAt 25 = .ok (.ireturn, 1) := by decide +kernel
theorem dX8_falls_0 : decode cX8_falls 0 = .ok (.iconst 0, 1) := by decide +kernel
theorem dX8_falls_1 : decode cX8_falls 1 = .ok (.istore_n 1, 1) := by decide +kernel
theorem dX8_falls_2 : decode cX8_falls 2 = .ok (.iload_n 1, 1) := by decide +kernel
theorem dX8_falls_3 : decode cX8_falls 3 = .ok (.aload_n 0, 1) := by decide +kernel
theorem dX8_falls_4 : decode cX8_falls 4 = .ok (.getfield 7, 3) := by decide +kernel
theorem dX8_falls_7 : decode cX8_falls 7 = .ok (.iconst 1, 1) := by decide +kernel
theorem dX8_falls_8 : decode cX8_falls 8 = .ok (.iaload, 1) := by decide +kernel
theorem dX8_falls_9 : decode cX8_falls 9 = .ok (.if_icmp .ge 151, 3) := by decide +kernel
theorem dX8_falls_12 : decode cX8_falls 12 = .ok (.aload_n 0, 1) := by decide +kernel
theorem dX8_falls_13 : decode cX8_falls 13 = .ok (.iload_n 1, 1) := by decide +kernel
theorem dX8_falls_14 : decode cX8_falls 14 = .ok (.iconst 2, 1) := by decide +kernel
theorem dX8_falls_15 : decode cX8_falls 15 = .ok (.invokevirtual 53, 3) := by decide +kernel
theorem dX8_falls_18 : decode cX8_falls 18 = .ok (.iconst 1, 1) := by decide +kernel
theorem dX8_falls_19 : decode cX8_falls 19 = .ok (.isub, 1) := by decide +kernel
theorem dX8_falls_20 : decode cX8_falls 20 = .ok (.istore_n 2, 1) := by decide +kernel
theorem dX8_falls_21 : decode cX8_falls 21 = .ok (.aload_n 0, 1) := by decide +kernel
theorem dX8_falls_22 : decode cX8_falls 22 = .ok (.iload_n 1, 1) := by decide +kernel
theorem dX8_falls_23 : decode cX8_falls 23 = .ok (.iconst 1, 1) := by decide +kernel
theorem dX8_falls_24 : decode cX8_falls 24 = .ok (.invokevirtual 53, 3) := by decide +kernel
theorem dX8_falls_27 : decode cX8_falls 27 = .ok (.iload_n 2, 1) := by decide +kernel
theorem dX8_falls_28 : decode cX8_falls 28 = .ok (.iadd, 1) := by decide +kernel
theorem dX8_falls_29 : decode cX8_falls 29 = .ok (.iconst 0, 1) := by decide +kernel
theorem dX8_falls_30 : decode cX8_falls 30 = .ok (.bipush 9, 2) := by decide +kernel
theorem dX8_falls_32 : decode cX8_falls 32 = .ok (.invokestatic 49, 3) := by decide +kernel
theorem dX8_falls_35 : decode cX8_falls 35 = .ok (.ifCond .ne 7, 3) := by decide +kernel
theorem dX8_falls_38 : decode cX8_falls 38 = .ok (.iconst 1, 1) := by decide +kernel
theorem dX8_falls_39 : decode cX8_falls 39 = .ok (.goto 4, 3) := by decide +kernel
theorem dX8_falls_42 : decode cX8_falls 42 = .ok (.iconst 0, 1) := by decide +kernel
theorem dX8_falls_43 : decode cX8_falls 43 = .ok (.istore_n 3, 1) := by decide +kernel
theorem dX8_falls_44 : decode cX8_falls 44 = .ok (.iload_n 3, 1) := by decide +kernel
theorem dX8_falls_45 : decode cX8_falls 45 = .ok (.ifCond .eq 19, 3) := by decide +kernel
theorem dX8_falls_48 : decode cX8_falls 48 = .ok (.aload_n 0, 1) := by decide +kernel
theorem dX8_falls_49 : decode cX8_falls 49 = .ok (.getfield 7, 3) := by decide +kernel
theorem dX8_falls_52 : decode cX8_falls 52 = .ok (.bipush 15, 2) := by decide +kernel
theorem dX8_falls_54 : decode cX8_falls 54 = .ok (.iaload, 1) := by decide +kernel
theorem dX8_falls_55 : decode cX8_falls 55 = .ok (.iconst 1, 1) := by decide +kernel
theorem dX8_falls_56 : decode cX8_falls 56 = .ok (.if_icmp .ne 8, 3) := by decide +kernel
theorem dX8_falls_59 : decode cX8_falls 59 = .ok (.iload_n 2, 1) := by decide +kernel
theorem dX8_falls_60 : decode cX8_falls 60 = .ok (.ineg, 1) := by decide +kernel
theorem dX8_falls_61 : decode cX8_falls 61 = .ok (.goto 4, 3) := by decide +kernel
theorem dX8_falls_64 : decode cX8_falls 64 = .ok (.iload_n 2, 1) := by decide +kernel
theorem dX8_falls_65 : decode cX8_falls 65 = .ok (.istore_n 2, 1) := by decide +kernel
theorem dX8_falls_66 : decode cX8_falls 66 = .ok (.aload_n 0, 1) := by decide +kernel
theorem dX8_falls_67 : decode cX8_falls 67 = .ok (.getfield 25, 3) := by decide +kernel
theorem dX8_falls_70 : decode cX8_falls 70 = .ok (.iload_n 1, 1) := by decide +kernel
theorem dX8_falls_71 : decode cX8_falls 71 = .ok (.aload_n 0, 1) := by decide +kernel
theorem dX8_falls_72 : decode cX8_falls 72 = .ok (.iload_n 1, 1) := by decide +kernel
theorem dX8_falls_73 : decode cX8_falls 73 = .ok (.iconst 0, 1) := by decide +kernel
theorem dX8_falls_74 : decode cX8_falls 74 = .ok (.invokevirtual 53, 3) := by decide +kernel
theorem dX8_falls_77 : decode cX8_falls 77 = .ok (.bipush 11, 2) := by decide +kernel
theorem dX8_falls_79 : decode cX8_falls 79 = .ok (.if_icmp .eq 17, 3) := by decide +kernel
theorem dX8_falls_82 : decode cX8_falls 82 = .ok (.iload_n 3, 1) := by decide +kernel
theorem dX8_falls_83 : decode cX8_falls 83 = .ok (.ifCond .eq 17, 3) := by decide +kernel
theorem dX8_falls_86 : decode cX8_falls 86 = .ok (.aload_n 0, 1) := by decide +kernel
theorem dX8_falls_87 : decode cX8_falls 87 = .ok (.getfield 7, 3) := by decide +kernel
theorem dX8_falls_90 : decode cX8_falls 90 = .ok (.bipush 15, 2) := by decide +kernel
theorem dX8_falls_92 : decode cX8_falls 92 = .ok (.iaload, 1) := by decide +kernel
theorem dX8_falls_93 : decode cX8_falls 93 = .ok (.ifCond .ne 7, 3) := by decide +kernel
theorem dX8_falls_96 : decode cX8_falls 96 = .ok (.iconst 1, 1) := by decide +kernel
theorem dX8_falls_97 : decode cX8_falls 97 = .ok (.goto 4, 3) := by decide +kernel
theorem dX8_falls_100 : decode cX8_falls 100 = .ok (.iconst 0, 1) := by decide +kernel
theorem dX8_falls_101 : decode cX8_falls 101 = .ok (.bastore, 1) := by decide +kernel
theorem dX8_falls_102 : decode cX8_falls 102 = .ok (.aload_n 0, 1) := by decide +kernel
theorem dX8_falls_103 : decode cX8_falls 103 = .ok (.iload_n 1, 1) := by decide +kernel
theorem dX8_falls_104 : decode cX8_falls 104 = .ok (.iconst 0, 1) := by decide +kernel
theorem dX8_falls_105 : decode cX8_falls 105 = .ok (.aload_n 0, 1) := by decide +kernel
theorem dX8_falls_106 : decode cX8_falls 106 = .ok (.iload_n 1, 1) := by decide +kernel
theorem dX8_falls_107 : decode cX8_falls 107 = .ok (.iconst 0, 1) := by decide +kernel
theorem dX8_falls_108 : decode cX8_falls 108 = .ok (.invokevirtual 53, 3) := by decide +kernel
theorem dX8_falls_111 : decode cX8_falls 111 = .ok (.iconst 1, 1) := by decide +kernel
theorem dX8_falls_112 : decode cX8_falls 112 = .ok (.iadd, 1) := by decide +kernel
theorem dX8_falls_113 : decode cX8_falls 113 = .ok (.invokevirtual 57, 3) := by decide +kernel
theorem dX8_falls_116 : decode cX8_falls 116 = .ok (.aload_n 0, 1) := by decide +kernel
theorem dX8_falls_117 : decode cX8_falls 117 = .ok (.iload_n 1, 1) := by decide +kernel
theorem dX8_falls_118 : decode cX8_falls 118 = .ok (.iconst 1, 1) := by decide +kernel
theorem dX8_falls_119 : decode cX8_falls 119 = .ok (.aload_n 0, 1) := by decide +kernel
theorem dX8_falls_120 : decode cX8_falls 120 = .ok (.iload_n 1, 1) := by decide +kernel
theorem dX8_falls_121 : decode cX8_falls 121 = .ok (.iconst 1, 1) := by decide +kernel
theorem dX8_falls_122 : decode cX8_falls 122 = .ok (.invokevirtual 53, 3) := by decide +kernel
theorem dX8_falls_125 : decode cX8_falls 125 = .ok (.iload_n 2, 1) := by decide +kernel
theorem dX8_falls_126 : decode cX8_falls 126 = .ok (.iadd, 1) := by decide +kernel
theorem dX8_falls_127 : decode cX8_falls 127 = .ok (.invokevirtual 57, 3) := by decide +kernel
theorem dX8_falls_130 : decode cX8_falls 130 = .ok (.aload_n 0, 1) := by decide +kernel
theorem dX8_falls_131 : decode cX8_falls 131 = .ok (.iload_n 1, 1) := by decide +kernel
theorem dX8_falls_132 : decode cX8_falls 132 = .ok (.iconst 2, 1) := by decide +kernel
theorem dX8_falls_133 : decode cX8_falls 133 = .ok (.iconst 1, 1) := by decide +kernel
theorem dX8_falls_134 : decode cX8_falls 134 = .ok (.aload_n 0, 1) := by decide +kernel
theorem dX8_falls_135 : decode cX8_falls 135 = .ok (.iload_n 1, 1) := by decide +kernel
theorem dX8_falls_136 : decode cX8_falls 136 = .ok (.iconst 3, 1) := by decide +kernel
theorem dX8_falls_137 : decode cX8_falls 137 = .ok (.invokevirtual 53, 3) := by decide +kernel
theorem dX8_falls_140 : decode cX8_falls 140 = .ok (.iconst 1, 1) := by decide +kernel
theorem dX8_falls_141 : decode cX8_falls 141 = .ok (.if_icmp .ne 8, 3) := by decide +kernel
theorem dX8_falls_144 : decode cX8_falls 144 = .ok (.iload_n 2, 1) := by decide +kernel
theorem dX8_falls_145 : decode cX8_falls 145 = .ok (.ineg, 1) := by decide +kernel
theorem dX8_falls_146 : decode cX8_falls 146 = .ok (.goto 4, 3) := by decide +kernel
theorem dX8_falls_149 : decode cX8_falls 149 = .ok (.iload_n 2, 1) := by decide +kernel
theorem dX8_falls_150 : decode cX8_falls 150 = .ok (.iadd, 1) := by decide +kernel
theorem dX8_falls_151 : decode cX8_falls 151 = .ok (.invokevirtual 57, 3) := by decide +kernel
theorem dX8_falls_154 : decode cX8_falls 154 = .ok (.iinc 1 1, 3) := by decide +kernel
theorem dX8_falls_157 : decode cX8_falls 157 = .ok (.goto (-155), 3) := by decide +kernel
theorem dX8_falls_160 : decode cX8_falls 160 = .ok (.aload_n 0, 1) := by decide +kernel
theorem dX8_falls_161 : decode cX8_falls 161 = .ok (.getfield 7, 3) := by decide +kernel
theorem dX8_falls_164 : decode cX8_falls 164 = .ok (.bipush 9, 2) := by decide +kernel
theorem dX8_falls_166 : decode cX8_falls 166 = .ok (.dup2, 1) := by decide +kernel
theorem dX8_falls_167 : decode cX8_falls 167 = .ok (.iaload, 1) := by decide +kernel
theorem dX8_falls_168 : decode cX8_falls 168 = .ok (.aload_n 0, 1) := by decide +kernel
theorem dX8_falls_169 : decode cX8_falls 169 = .ok (.invokevirtual 61, 3) := by decide +kernel
theorem dX8_falls_172 : decode cX8_falls 172 = .ok (.iadd, 1) := by decide +kernel
theorem dX8_falls_173 : decode cX8_falls 173 = .ok (.iastore, 1) := by decide +kernel
theorem dX8_falls_174 : decode cX8_falls 174 = .ok (.return_, 1) := by decide +kernel
theorem dX8_fires_0 : decode cX8_fires 0 = .ok (.aload_n 0, 1) := by decide +kernel
theorem dX8_fires_1 : decode cX8_fires 1 = .ok (.getfield 7, 3) := by decide +kernel
theorem dX8_fires_4 : decode cX8_fires 4 = .ok (.iconst 1, 1) := by decide +kernel
theorem dX8_fires_5 : decode cX8_fires 5 = .ok (.iaload, 1) := by decide +kernel
theorem dX8_fires_6 : decode cX8_fires 6 = .ok (.bipush 60, 2) := by decide +kernel
theorem dX8_fires_8 : decode cX8_fires 8 = .ok (.if_icmp .ne 15, 3) := by decide +kernel
theorem dX8_fires_11 : decode cX8_fires 11 = .ok (.aload_n 0, 1) := by decide +kernel
theorem dX8_fires_12 : decode cX8_fires 12 = .ok (.getfield 7, 3) := by decide +kernel
theorem dX8_fires_15 : decode cX8_fires 15 = .ok (.bipush 8, 2) := by decide +kernel
theorem dX8_fires_17 : decode cX8_fires 17 = .ok (.dup2, 1) := by decide +kernel
theorem dX8_fires_18 : decode cX8_fires 18 = .ok (.iaload, 1) := by decide +kernel
theorem dX8_fires_19 : decode cX8_fires 19 = .ok (.iconst 1, 1) := by decide +kernel
theorem dX8_fires_20 : decode cX8_fires 20 = .ok (.iadd, 1) := by decide +kernel
theorem dX8_fires_21 : decode cX8_fires 21 = .ok (.iastore, 1) := by decide +kernel
theorem dX8_fires_22 : decode cX8_fires 22 = .ok (.return_, 1) := by decide +kernel
theorem dX8_fires_23 : decode cX8_fires 23 = .ok (.aload_n 0, 1) := by decide +kernel
theorem dX8_fires_24 : decode cX8_fires 24 = .ok (.getfield 7, 3) := by decide +kernel
theorem dX8_fires_27 : decode cX8_fires 27 = .ok (.iconst 1, 1) := by decide +kernel
theorem dX8_fires_28 : decode cX8_fires 28 = .ok (.iaload, 1) := by decide +kernel
theorem dX8_fires_29 : decode cX8_fires 29 = .ok (.istore 4, 2) := by decide +kernel
theorem dX8_fires_31 : decode cX8_fires 31 = .ok (.aload_n 0, 1) := by decide +kernel
theorem dX8_fires_32 : decode cX8_fires 32 = .ok (.iload 4, 2) := by decide +kernel
theorem dX8_fires_34 : decode cX8_fires 34 = .ok (.iconst 0, 1) := by decide +kernel
theorem dX8_fires_35 : decode cX8_fires 35 = .ok (.iconst 0, 1) := by decide +kernel
theorem dX8_fires_36 : decode cX8_fires 36 = .ok (.invokevirtual 57, 3) := by decide +kernel
theorem dX8_fires_39 : decode cX8_fires 39 = .ok (.aload_n 0, 1) := by decide +kernel
theorem dX8_fires_40 : decode cX8_fires 40 = .ok (.iload 4, 2) := by decide +kernel
theorem dX8_fires_42 : decode cX8_fires 42 = .ok (.iconst 1, 1) := by decide +kernel
theorem dX8_fires_43 : decode cX8_fires 43 = .ok (.iload_n 1, 1) := by decide +kernel
theorem dX8_fires_44 : decode cX8_fires 44 = .ok (.invokevirtual 57, 3) := by decide +kernel
theorem dX8_fires_47 : decode cX8_fires 47 = .ok (.aload_n 0, 1) := by decide +kernel
theorem dX8_fires_48 : decode cX8_fires 48 = .ok (.iload 4, 2) := by decide +kernel
theorem dX8_fires_50 : decode cX8_fires 50 = .ok (.iconst 2, 1) := by decide +kernel
theorem dX8_fires_51 : decode cX8_fires 51 = .ok (.iconst 1, 1) := by decide +kernel
theorem dX8_fires_52 : decode cX8_fires 52 = .ok (.iload_n 2, 1) := by decide +kernel
theorem dX8_fires_53 : decode cX8_fires 53 = .ok (.iadd, 1) := by decide +kernel
theorem dX8_fires_54 : decode cX8_fires 54 = .ok (.invokevirtual 57, 3) := by decide +kernel
theorem dX8_fires_57 : decode cX8_fires 57 = .ok (.aload_n 0, 1) := by decide +kernel
theorem dX8_fires_58 : decode cX8_fires 58 = .ok (.iload 4, 2) := by decide +kernel
theorem dX8_fires_60 : decode cX8_fires 60 = .ok (.iconst 3, 1) := by decide +kernel
theorem dX8_fires_61 : decode cX8_fires 61 = .ok (.iload_n 3, 1) := by decide +kernel
theorem dX8_fires_62 : decode cX8_fires 62 = .ok (.invokevirtual 57, 3) := by decide +kernel
theorem dX8_fires_65 : decode cX8_fires 65 = .ok (.aload_n 0, 1) := by decide +kernel
theorem dX8_fires_66 : decode cX8_fires 66 = .ok (.iload 4, 2) := by decide +kernel
theorem dX8_fires_68 : decode cX8_fires 68 = .ok (.iconst 4, 1) := by decide +kernel
theorem dX8_fires_69 : decode cX8_fires 69 = .ok (.iconst 0, 1) := by decide +kernel
theorem dX8_fires_70 : decode cX8_fires 70 = .ok (.invokevirtual 57, 3) := by decide +kernel
theorem dX8_fires_73 : decode cX8_fires 73 = .ok (.aload_n 0, 1) := by decide +kernel
theorem dX8_fires_74 : decode cX8_fires 74 = .ok (.getfield 7, 3) := by decide +kernel
theorem dX8_fires_77 : decode cX8_fires 77 = .ok (.iconst 1, 1) := by decide +kernel
theorem dX8_fires_78 : decode cX8_fires 78 = .ok (.dup2, 1) := by decide +kernel
theorem dX8_fires_79 : decode cX8_fires 79 = .ok (.iaload, 1) := by decide +kernel
theorem dX8_fires_80 : decode cX8_fires 80 = .ok (.iconst 1, 1) := by decide +kernel
theorem dX8_fires_81 : decode cX8_fires 81 = .ok (.iadd, 1) := by decide +kernel
theorem dX8_fires_82 : decode cX8_fires 82 = .ok (.iastore, 1) := by decide +kernel
theorem dX8_fires_83 : decode cX8_fires 83 = .ok (.aload_n 0, 1) := by decide +kernel
theorem dX8_fires_84 : decode cX8_fires 84 = .ok (.getfield 7, 3) := by decide +kernel
theorem dX8_fires_87 : decode cX8_fires 87 = .ok (.bipush 7, 2) := by decide +kernel
theorem dX8_fires_89 : decode cX8_fires 89 = .ok (.dup2, 1) := by decide +kernel
theorem dX8_fires_90 : decode cX8_fires 90 = .ok (.iaload, 1) := by decide +kernel
theorem dX8_fires_91 : decode cX8_fires 91 = .ok (.iconst 1, 1) := by decide +kernel
theorem dX8_fires_92 : decode cX8_fires 92 = .ok (.iadd, 1) := by decide +kernel
theorem dX8_fires_93 : decode cX8_fires 93 = .ok (.iastore, 1) := by decide +kernel
theorem dX8_fires_94 : decode cX8_fires 94 = .ok (.return_, 1) := by decide +kernel
theorem dX8_firesPattern_0 : decode cX8_firesPattern 0 = .ok (.iload_n 2, 1) := by decide +kernel
theorem dX8_firesPattern_1 : decode cX8_firesPattern 1 = .ok (.tableswitch 113 0 4 #[35, 45, 55, 65, 75], 35) := by decide +kernel
theorem dX8_firesPattern_36 : decode cX8_firesPattern 36 = .ok (.aload_n 0, 1) := by decide +kernel
theorem dX8_firesPattern_37 : decode cX8_firesPattern 37 = .ok (.iload_n 1, 1) := by decide +kernel
theorem dX8_firesPattern_38 : decode cX8_firesPattern 38 = .ok (.iconst 0, 1) := by decide +kernel
theorem dX8_firesPattern_39 : decode cX8_firesPattern 39 = .ok (.iconst 0, 1) := by decide +kernel
theorem dX8_firesPattern_40 : decode cX8_firesPattern 40 = .ok (.invokevirtual 65, 3) := by decide +kernel
theorem dX8_firesPattern_43 : decode cX8_firesPattern 43 = .ok (.goto 92, 3) := by decide +kernel
theorem dX8_firesPattern_46 : decode cX8_firesPattern 46 = .ok (.aload_n 0, 1) := by decide +kernel
theorem dX8_firesPattern_47 : decode cX8_firesPattern 47 = .ok (.iload_n 1, 1) := by decide +kernel
theorem dX8_firesPattern_48 : decode cX8_firesPattern 48 = .ok (.iconst (-1), 1) := by decide +kernel
theorem dX8_firesPattern_49 : decode cX8_firesPattern 49 = .ok (.iconst 0, 1) := by decide +kernel
theorem dX8_firesPattern_50 : decode cX8_firesPattern 50 = .ok (.invokevirtual 65, 3) := by decide +kernel
theorem dX8_firesPattern_53 : decode cX8_firesPattern 53 = .ok (.goto 82, 3) := by decide +kernel
theorem dX8_firesPattern_56 : decode cX8_firesPattern 56 = .ok (.aload_n 0, 1) := by decide +kernel
theorem dX8_firesPattern_57 : decode cX8_firesPattern 57 = .ok (.iload_n 1, 1) := by decide +kernel
theorem dX8_firesPattern_58 : decode cX8_firesPattern 58 = .ok (.iconst 1, 1) := by decide +kernel
theorem dX8_firesPattern_59 : decode cX8_firesPattern 59 = .ok (.iconst 0, 1) := by decide +kernel
theorem dX8_firesPattern_60 : decode cX8_firesPattern 60 = .ok (.invokevirtual 65, 3) := by decide +kernel
theorem dX8_firesPattern_63 : decode cX8_firesPattern 63 = .ok (.goto 72, 3) := by decide +kernel
theorem dX8_firesPattern_66 : decode cX8_firesPattern 66 = .ok (.aload_n 0, 1) := by decide +kernel
theorem dX8_firesPattern_67 : decode cX8_firesPattern 67 = .ok (.iload_n 1, 1) := by decide +kernel
theorem dX8_firesPattern_68 : decode cX8_firesPattern 68 = .ok (.iconst 1, 1) := by decide +kernel
theorem dX8_firesPattern_69 : decode cX8_firesPattern 69 = .ok (.iconst 1, 1) := by decide +kernel
theorem dX8_firesPattern_70 : decode cX8_firesPattern 70 = .ok (.invokevirtual 65, 3) := by decide +kernel
theorem dX8_firesPattern_73 : decode cX8_firesPattern 73 = .ok (.goto 62, 3) := by decide +kernel
theorem dX8_firesPattern_76 : decode cX8_firesPattern 76 = .ok (.aload_n 0, 1) := by decide +kernel
theorem dX8_firesPattern_77 : decode cX8_firesPattern 77 = .ok (.iload_n 1, 1) := by decide +kernel
theorem dX8_firesPattern_78 : decode cX8_firesPattern 78 = .ok (.aload_n 0, 1) := by decide +kernel
theorem dX8_firesPattern_79 : decode cX8_firesPattern 79 = .ok (.getfield 7, 3) := by decide +kernel
theorem dX8_firesPattern_82 : decode cX8_firesPattern 82 = .ok (.iconst 2, 1) := by decide +kernel
theorem dX8_firesPattern_83 : decode cX8_firesPattern 83 = .ok (.iaload, 1) := by decide +kernel
theorem dX8_firesPattern_84 : decode cX8_firesPattern 84 = .ok (.iload_n 1, 1) := by decide +kernel
theorem dX8_firesPattern_85 : decode cX8_firesPattern 85 = .ok (.if_icmp .ge 7, 3) := by decide +kernel
theorem dX8_firesPattern_88 : decode cX8_firesPattern 88 = .ok (.iconst (-1), 1) := by decide +kernel
theorem dX8_firesPattern_89 : decode cX8_firesPattern 89 = .ok (.goto 18, 3) := by decide +kernel
theorem dX8_firesPattern_92 : decode cX8_firesPattern 92 = .ok (.aload_n 0, 1) := by decide +kernel
theorem dX8_firesPattern_93 : decode cX8_firesPattern 93 = .ok (.getfield 7, 3) := by decide +kernel
theorem dX8_firesPattern_96 : decode cX8_firesPattern 96 = .ok (.iconst 2, 1) := by decide +kernel
theorem dX8_firesPattern_97 : decode cX8_firesPattern 97 = .ok (.iaload, 1) := by decide +kernel
theorem dX8_firesPattern_98 : decode cX8_firesPattern 98 = .ok (.iload_n 1, 1) := by decide +kernel
theorem dX8_firesPattern_99 : decode cX8_firesPattern 99 = .ok (.if_icmp .le 7, 3) := by decide +kernel
theorem dX8_firesPattern_102 : decode cX8_firesPattern 102 = .ok (.iconst 1, 1) := by decide +kernel
theorem dX8_firesPattern_103 : decode cX8_firesPattern 103 = .ok (.goto 4, 3) := by decide +kernel
theorem dX8_firesPattern_106 : decode cX8_firesPattern 106 = .ok (.iconst 0, 1) := by decide +kernel
theorem dX8_firesPattern_107 : decode cX8_firesPattern 107 = .ok (.iconst 0, 1) := by decide +kernel
theorem dX8_firesPattern_108 : decode cX8_firesPattern 108 = .ok (.invokevirtual 65, 3) := by decide +kernel
theorem dX8_firesPattern_111 : decode cX8_firesPattern 111 = .ok (.goto 24, 3) := by decide +kernel
theorem dX8_firesPattern_114 : decode cX8_firesPattern 114 = .ok (.aload_n 0, 1) := by decide +kernel
theorem dX8_firesPattern_115 : decode cX8_firesPattern 115 = .ok (.iload_n 1, 1) := by decide +kernel
theorem dX8_firesPattern_116 : decode cX8_firesPattern 116 = .ok (.iconst (-1), 1) := by decide +kernel
theorem dX8_firesPattern_117 : decode cX8_firesPattern 117 = .ok (.iconst 0, 1) := by decide +kernel
theorem dX8_firesPattern_118 : decode cX8_firesPattern 118 = .ok (.invokevirtual 65, 3) := by decide +kernel
theorem dX8_firesPattern_121 : decode cX8_firesPattern 121 = .ok (.aload_n 0, 1) := by decide +kernel
theorem dX8_firesPattern_122 : decode cX8_firesPattern 122 = .ok (.iload_n 1, 1) := by decide +kernel
theorem dX8_firesPattern_123 : decode cX8_firesPattern 123 = .ok (.iconst 0, 1) := by decide +kernel
theorem dX8_firesPattern_124 : decode cX8_firesPattern 124 = .ok (.iconst 0, 1) := by decide +kernel
theorem dX8_firesPattern_125 : decode cX8_firesPattern 125 = .ok (.invokevirtual 65, 3) := by decide +kernel
theorem dX8_firesPattern_128 : decode cX8_firesPattern 128 = .ok (.aload_n 0, 1) := by decide +kernel
theorem dX8_firesPattern_129 : decode cX8_firesPattern 129 = .ok (.iload_n 1, 1) := by decide +kernel
theorem dX8_firesPattern_130 : decode cX8_firesPattern 130 = .ok (.iconst 1, 1) := by decide +kernel
theorem dX8_firesPattern_131 : decode cX8_firesPattern 131 = .ok (.iconst 0, 1) := by decide +kernel
theorem dX8_firesPattern_132 : decode cX8_firesPattern 132 = .ok (.invokevirtual 65, 3) := by decide +kernel
theorem dX8_firesPattern_135 : decode cX8_firesPattern 135 = .ok (.return_, 1) := by decide +kernel
theorem dX8_moves_0 : decode cX8_moves 0 = .ok (.aload_n 0, 1) := by decide +kernel
theorem dX8_moves_1 : decode cX8_moves 1 = .ok (.getfield 7, 3) := by decide +kernel
theorem dX8_moves_4 : decode cX8_moves 4 = .ok (.iconst 5, 1) := by decide +kernel
theorem dX8_moves_5 : decode cX8_moves 5 = .ok (.dup2, 1) := by decide +kernel
theorem dX8_moves_6 : decode cX8_moves 6 = .ok (.iaload, 1) := by decide +kernel
theorem dX8_moves_7 : decode cX8_moves 7 = .ok (.iconst 1, 1) := by decide +kernel
theorem dX8_moves_8 : decode cX8_moves 8 = .ok (.iadd, 1) := by decide +kernel
theorem dX8_moves_9 : decode cX8_moves 9 = .ok (.iastore, 1) := by decide +kernel
theorem dX8_moves_10 : decode cX8_moves 10 = .ok (.aload_n 0, 1) := by decide +kernel
theorem dX8_moves_11 : decode cX8_moves 11 = .ok (.invokevirtual 68, 3) := by decide +kernel
theorem dX8_moves_14 : decode cX8_moves 14 = .ok (.iconst 0, 1) := by decide +kernel
theorem dX8_moves_15 : decode cX8_moves 15 = .ok (.istore_n 1, 1) := by decide +kernel
theorem dX8_moves_16 : decode cX8_moves 16 = .ok (.iload_n 1, 1) := by decide +kernel
theorem dX8_moves_17 : decode cX8_moves 17 = .ok (.aload_n 0, 1) := by decide +kernel
theorem dX8_moves_18 : decode cX8_moves 18 = .ok (.getfield 7, 3) := by decide +kernel
theorem dX8_moves_21 : decode cX8_moves 21 = .ok (.iconst 0, 1) := by decide +kernel
theorem dX8_moves_22 : decode cX8_moves 22 = .ok (.iaload, 1) := by decide +kernel
theorem dX8_moves_23 : decode cX8_moves 23 = .ok (.if_icmp .ge 47, 3) := by decide +kernel
theorem dX8_moves_26 : decode cX8_moves 26 = .ok (.aload_n 0, 1) := by decide +kernel
theorem dX8_moves_27 : decode cX8_moves 27 = .ok (.getfield 7, 3) := by decide +kernel
theorem dX8_moves_30 : decode cX8_moves 30 = .ok (.iconst 5, 1) := by decide +kernel
theorem dX8_moves_31 : decode cX8_moves 31 = .ok (.iaload, 1) := by decide +kernel
theorem dX8_moves_32 : decode cX8_moves 32 = .ok (.aload_n 0, 1) := by decide +kernel
theorem dX8_moves_33 : decode cX8_moves 33 = .ok (.iload_n 1, 1) := by decide +kernel
theorem dX8_moves_34 : decode cX8_moves 34 = .ok (.iconst 2, 1) := by decide +kernel
theorem dX8_moves_35 : decode cX8_moves 35 = .ok (.invokevirtual 71, 3) := by decide +kernel
theorem dX8_moves_38 : decode cX8_moves 38 = .ok (.irem, 1) := by decide +kernel
theorem dX8_moves_39 : decode cX8_moves 39 = .ok (.aload_n 0, 1) := by decide +kernel
theorem dX8_moves_40 : decode cX8_moves 40 = .ok (.iload_n 1, 1) := by decide +kernel
theorem dX8_moves_41 : decode cX8_moves 41 = .ok (.iconst 3, 1) := by decide +kernel
theorem dX8_moves_42 : decode cX8_moves 42 = .ok (.invokevirtual 71, 3) := by decide +kernel
theorem dX8_moves_45 : decode cX8_moves 45 = .ok (.if_icmp .ne 19, 3) := by decide +kernel
theorem dX8_moves_48 : decode cX8_moves 48 = .ok (.aload_n 0, 1) := by decide +kernel
theorem dX8_moves_49 : decode cX8_moves 49 = .ok (.aload_n 0, 1) := by decide +kernel
theorem dX8_moves_50 : decode cX8_moves 50 = .ok (.iload_n 1, 1) := by decide +kernel
theorem dX8_moves_51 : decode cX8_moves 51 = .ok (.iconst 0, 1) := by decide +kernel
theorem dX8_moves_52 : decode cX8_moves 52 = .ok (.invokevirtual 71, 3) := by decide +kernel
theorem dX8_moves_55 : decode cX8_moves 55 = .ok (.aload_n 0, 1) := by decide +kernel
theorem dX8_moves_56 : decode cX8_moves 56 = .ok (.iload_n 1, 1) := by decide +kernel
theorem dX8_moves_57 : decode cX8_moves 57 = .ok (.iconst 1, 1) := by decide +kernel
theorem dX8_moves_58 : decode cX8_moves 58 = .ok (.invokevirtual 71, 3) := by decide +kernel
theorem dX8_moves_61 : decode cX8_moves 61 = .ok (.invokevirtual 74, 3) := by decide +kernel
theorem dX8_moves_64 : decode cX8_moves 64 = .ok (.iinc 1 1, 3) := by decide +kernel
theorem dX8_moves_67 : decode cX8_moves 67 = .ok (.goto (-51), 3) := by decide +kernel
theorem dX8_moves_70 : decode cX8_moves 70 = .ok (.return_, 1) := by decide +kernel
theorem dX8_hits_0 : decode cX8_hits 0 = .ok (.iconst 0, 1) := by decide +kernel
theorem dX8_hits_1 : decode cX8_hits 1 = .ok (.istore_n 1, 1) := by decide +kernel
theorem dX8_hits_2 : decode cX8_hits 2 = .ok (.iload_n 1, 1) := by decide +kernel
theorem dX8_hits_3 : decode cX8_hits 3 = .ok (.aload_n 0, 1) := by decide +kernel
theorem dX8_hits_4 : decode cX8_hits 4 = .ok (.getfield 7, 3) := by decide +kernel
theorem dX8_hits_7 : decode cX8_hits 7 = .ok (.iconst 1, 1) := by decide +kernel
theorem dX8_hits_8 : decode cX8_hits 8 = .ok (.iaload, 1) := by decide +kernel
theorem dX8_hits_9 : decode cX8_hits 9 = .ok (.if_icmp .ge 28, 3) := by decide +kernel
theorem dX8_hits_12 : decode cX8_hits 12 = .ok (.aload_n 0, 1) := by decide +kernel
theorem dX8_hits_13 : decode cX8_hits 13 = .ok (.getfield 25, 3) := by decide +kernel
theorem dX8_hits_16 : decode cX8_hits 16 = .ok (.iload_n 1, 1) := by decide +kernel
theorem dX8_hits_17 : decode cX8_hits 17 = .ok (.aload_n 0, 1) := by decide +kernel
theorem dX8_hits_18 : decode cX8_hits 18 = .ok (.iload_n 1, 1) := by decide +kernel
theorem dX8_hits_19 : decode cX8_hits 19 = .ok (.bipush 11, 2) := by decide +kernel
theorem dX8_hits_21 : decode cX8_hits 21 = .ok (.aload_n 0, 1) := by decide +kernel
theorem dX8_hits_22 : decode cX8_hits 22 = .ok (.getfield 7, 3) := by decide +kernel
theorem dX8_hits_25 : decode cX8_hits 25 = .ok (.iconst 2, 1) := by decide +kernel
theorem dX8_hits_26 : decode cX8_hits 26 = .ok (.iaload, 1) := by decide +kernel
theorem dX8_hits_27 : decode cX8_hits 27 = .ok (.invokevirtual 78, 3) := by decide +kernel
theorem dX8_hits_30 : decode cX8_hits 30 = .ok (.bastore, 1) := by decide +kernel
theorem dX8_hits_31 : decode cX8_hits 31 = .ok (.iinc 1 1, 3) := by decide +kernel
theorem dX8_hits_34 : decode cX8_hits 34 = .ok (.goto (-32), 3) := by decide +kernel
theorem dX8_hits_37 : decode cX8_hits 37 = .ok (.aload_n 0, 1) := by decide +kernel
theorem dX8_hits_38 : decode cX8_hits 38 = .ok (.invokevirtual 61, 3) := by decide +kernel
theorem dX8_hits_41 : decode cX8_hits 41 = .ok (.istore_n 1, 1) := by decide +kernel
theorem dX8_hits_42 : decode cX8_hits 42 = .ok (.iload_n 1, 1) := by decide +kernel
theorem dX8_hits_43 : decode cX8_hits 43 = .ok (.ifCond .ne 5, 3) := by decide +kernel
theorem dX8_hits_46 : decode cX8_hits 46 = .ok (.iconst 0, 1) := by decide +kernel
theorem dX8_hits_47 : decode cX8_hits 47 = .ok (.ireturn, 1) := by decide +kernel
theorem dX8_hits_48 : decode cX8_hits 48 = .ok (.aload_n 0, 1) := by decide +kernel
theorem dX8_hits_49 : decode cX8_hits 49 = .ok (.getfield 7, 3) := by decide +kernel
theorem dX8_hits_52 : decode cX8_hits 52 = .ok (.bipush 10, 2) := by decide +kernel
theorem dX8_hits_54 : decode cX8_hits 54 = .ok (.dup2, 1) := by decide +kernel
theorem dX8_hits_55 : decode cX8_hits 55 = .ok (.iaload, 1) := by decide +kernel
theorem dX8_hits_56 : decode cX8_hits 56 = .ok (.iload_n 1, 1) := by decide +kernel
theorem dX8_hits_57 : decode cX8_hits 57 = .ok (.iadd, 1) := by decide +kernel
theorem dX8_hits_58 : decode cX8_hits 58 = .ok (.iastore, 1) := by decide +kernel
theorem dX8_hits_59 : decode cX8_hits 59 = .ok (.aload_n 0, 1) := by decide +kernel
theorem dX8_hits_60 : decode cX8_hits 60 = .ok (.getfield 7, 3) := by decide +kernel
theorem dX8_hits_63 : decode cX8_hits 63 = .ok (.bipush 14, 2) := by decide +kernel
theorem dX8_hits_65 : decode cX8_hits 65 = .ok (.dup2, 1) := by decide +kernel
theorem dX8_hits_66 : decode cX8_hits 66 = .ok (.iaload, 1) := by decide +kernel
theorem dX8_hits_67 : decode cX8_hits 67 = .ok (.iconst 1, 1) := by decide +kernel
theorem dX8_hits_68 : decode cX8_hits 68 = .ok (.iadd, 1) := by decide +kernel
theorem dX8_hits_69 : decode cX8_hits 69 = .ok (.iastore, 1) := by decide +kernel
theorem dX8_hits_70 : decode cX8_hits 70 = .ok (.aload_n 0, 1) := by decide +kernel
theorem dX8_hits_71 : decode cX8_hits 71 = .ok (.getfield 7, 3) := by decide +kernel
theorem dX8_hits_74 : decode cX8_hits 74 = .ok (.bipush 6, 2) := by decide +kernel
theorem dX8_hits_76 : decode cX8_hits 76 = .ok (.aload_n 0, 1) := by decide +kernel
theorem dX8_hits_77 : decode cX8_hits 77 = .ok (.getfield 7, 3) := by decide +kernel
theorem dX8_hits_80 : decode cX8_hits 80 = .ok (.iconst 3, 1) := by decide +kernel
theorem dX8_hits_81 : decode cX8_hits 81 = .ok (.iaload, 1) := by decide +kernel
theorem dX8_hits_82 : decode cX8_hits 82 = .ok (.ifCond .ne 7, 3) := by decide +kernel
theorem dX8_hits_85 : decode cX8_hits 85 = .ok (.iconst 1, 1) := by decide +kernel
theorem dX8_hits_86 : decode cX8_hits 86 = .ok (.goto 4, 3) := by decide +kernel
theorem dX8_hits_89 : decode cX8_hits 89 = .ok (.iconst 0, 1) := by decide +kernel
theorem dX8_hits_90 : decode cX8_hits 90 = .ok (.iastore, 1) := by decide +kernel
theorem dX8_hits_91 : decode cX8_hits 91 = .ok (.aload_n 0, 1) := by decide +kernel
theorem dX8_hits_92 : decode cX8_hits 92 = .ok (.getfield 7, 3) := by decide +kernel
theorem dX8_hits_95 : decode cX8_hits 95 = .ok (.iconst 3, 1) := by decide +kernel
theorem dX8_hits_96 : decode cX8_hits 96 = .ok (.dup2, 1) := by decide +kernel
theorem dX8_hits_97 : decode cX8_hits 97 = .ok (.iaload, 1) := by decide +kernel
theorem dX8_hits_98 : decode cX8_hits 98 = .ok (.aload_n 0, 1) := by decide +kernel
theorem dX8_hits_99 : decode cX8_hits 99 = .ok (.getfield 7, 3) := by decide +kernel
theorem dX8_hits_102 : decode cX8_hits 102 = .ok (.iconst 3, 1) := by decide +kernel
theorem dX8_hits_103 : decode cX8_hits 103 = .ok (.iaload, 1) := by decide +kernel
theorem dX8_hits_104 : decode cX8_hits 104 = .ok (.ifCond .ne 7, 3) := by decide +kernel
theorem dX8_hits_107 : decode cX8_hits 107 = .ok (.iconst 0, 1) := by decide +kernel
theorem dX8_hits_108 : decode cX8_hits 108 = .ok (.goto 4, 3) := by decide +kernel
theorem dX8_hits_111 : decode cX8_hits 111 = .ok (.iconst 1, 1) := by decide +kernel
theorem dX8_hits_112 : decode cX8_hits 112 = .ok (.isub, 1) := by decide +kernel
theorem dX8_hits_113 : decode cX8_hits 113 = .ok (.iastore, 1) := by decide +kernel
theorem dX8_hits_114 : decode cX8_hits 114 = .ok (.iconst 1, 1) := by decide +kernel
theorem dX8_hits_115 : decode cX8_hits 115 = .ok (.aload_n 0, 1) := by decide +kernel
theorem dX8_hits_116 : decode cX8_hits 116 = .ok (.getfield 7, 3) := by decide +kernel
theorem dX8_hits_119 : decode cX8_hits 119 = .ok (.bipush 6, 2) := by decide +kernel
theorem dX8_hits_121 : decode cX8_hits 121 = .ok (.iaload, 1) := by decide +kernel
theorem dX8_hits_122 : decode cX8_hits 122 = .ok (.iadd, 1) := by decide +kernel
theorem dX8_hits_123 : decode cX8_hits 123 = .ok (.ireturn, 1) := by decide +kernel
theorem dX8_grazes_0 : decode cX8_grazes 0 = .ok (.iconst 0, 1) := by decide +kernel
theorem dX8_grazes_1 : decode cX8_grazes 1 = .ok (.istore_n 1, 1) := by decide +kernel
theorem dX8_grazes_2 : decode cX8_grazes 2 = .ok (.iload_n 1, 1) := by decide +kernel
theorem dX8_grazes_3 : decode cX8_grazes 3 = .ok (.aload_n 0, 1) := by decide +kernel
theorem dX8_grazes_4 : decode cX8_grazes 4 = .ok (.getfield 7, 3) := by decide +kernel
theorem dX8_grazes_7 : decode cX8_grazes 7 = .ok (.iconst 1, 1) := by decide +kernel
theorem dX8_grazes_8 : decode cX8_grazes 8 = .ok (.iaload, 1) := by decide +kernel
theorem dX8_grazes_9 : decode cX8_grazes 9 = .ok (.if_icmp .ge 95, 3) := by decide +kernel
theorem dX8_grazes_12 : decode cX8_grazes 12 = .ok (.aload_n 0, 1) := by decide +kernel
theorem dX8_grazes_13 : decode cX8_grazes 13 = .ok (.iload_n 1, 1) := by decide +kernel
theorem dX8_grazes_14 : decode cX8_grazes 14 = .ok (.iconst 1, 1) := by decide +kernel
theorem dX8_grazes_15 : decode cX8_grazes 15 = .ok (.invokevirtual 53, 3) := by decide +kernel
theorem dX8_grazes_18 : decode cX8_grazes 18 = .ok (.aload_n 0, 1) := by decide +kernel
theorem dX8_grazes_19 : decode cX8_grazes 19 = .ok (.getfield 7, 3) := by decide +kernel
theorem dX8_grazes_22 : decode cX8_grazes 22 = .ok (.iconst 2, 1) := by decide +kernel
theorem dX8_grazes_23 : decode cX8_grazes 23 = .ok (.iaload, 1) := by decide +kernel
theorem dX8_grazes_24 : decode cX8_grazes 24 = .ok (.isub, 1) := by decide +kernel
theorem dX8_grazes_25 : decode cX8_grazes 25 = .ok (.istore_n 2, 1) := by decide +kernel
theorem dX8_grazes_26 : decode cX8_grazes 26 = .ok (.iload_n 2, 1) := by decide +kernel
theorem dX8_grazes_27 : decode cX8_grazes 27 = .ok (.iconst (-1), 1) := by decide +kernel
theorem dX8_grazes_28 : decode cX8_grazes 28 = .ok (.iconst 1, 1) := by decide +kernel
theorem dX8_grazes_29 : decode cX8_grazes 29 = .ok (.invokestatic 49, 3) := by decide +kernel
theorem dX8_grazes_32 : decode cX8_grazes 32 = .ok (.ifCond .eq 33, 3) := by decide +kernel
theorem dX8_grazes_35 : decode cX8_grazes 35 = .ok (.aload_n 0, 1) := by decide +kernel
theorem dX8_grazes_36 : decode cX8_grazes 36 = .ok (.iload_n 1, 1) := by decide +kernel
theorem dX8_grazes_37 : decode cX8_grazes 37 = .ok (.iconst 0, 1) := by decide +kernel
theorem dX8_grazes_38 : decode cX8_grazes 38 = .ok (.invokevirtual 53, 3) := by decide +kernel
theorem dX8_grazes_41 : decode cX8_grazes 41 = .ok (.bipush 10, 2) := by decide +kernel
theorem dX8_grazes_43 : decode cX8_grazes 43 = .ok (.if_icmp .eq 18, 3) := by decide +kernel
theorem dX8_grazes_46 : decode cX8_grazes 46 = .ok (.aload_n 0, 1) := by decide +kernel
theorem dX8_grazes_47 : decode cX8_grazes 47 = .ok (.iload_n 1, 1) := by decide +kernel
theorem dX8_grazes_48 : decode cX8_grazes 48 = .ok (.iconst 0, 1) := by decide +kernel
theorem dX8_grazes_49 : decode cX8_grazes 49 = .ok (.invokevirtual 53, 3) := by decide +kernel
theorem dX8_grazes_52 : decode cX8_grazes 52 = .ok (.bipush 11, 2) := by decide +kernel
theorem dX8_grazes_54 : decode cX8_grazes 54 = .ok (.if_icmp .ne 11, 3) := by decide +kernel
theorem dX8_grazes_57 : decode cX8_grazes 57 = .ok (.iload_n 2, 1) := by decide +kernel
theorem dX8_grazes_58 : decode cX8_grazes 58 = .ok (.ifCond .eq 7, 3) := by decide +kernel
theorem dX8_grazes_61 : decode cX8_grazes 61 = .ok (.iconst 1, 1) := by decide +kernel
theorem dX8_grazes_62 : decode cX8_grazes 62 = .ok (.goto 4, 3) := by decide +kernel
theorem dX8_grazes_65 : decode cX8_grazes 65 = .ok (.iconst 0, 1) := by decide +kernel
theorem dX8_grazes_66 : decode cX8_grazes 66 = .ok (.istore_n 3, 1) := by decide +kernel
theorem dX8_grazes_67 : decode cX8_grazes 67 = .ok (.iload_n 3, 1) := by decide +kernel
theorem dX8_grazes_68 : decode cX8_grazes 68 = .ok (.ifCond .eq 30, 3) := by decide +kernel
theorem dX8_grazes_71 : decode cX8_grazes 71 = .ok (.aload_n 0, 1) := by decide +kernel
theorem dX8_grazes_72 : decode cX8_grazes 72 = .ok (.iload_n 1, 1) := by decide +kernel
theorem dX8_grazes_73 : decode cX8_grazes 73 = .ok (.iconst 4, 1) := by decide +kernel
theorem dX8_grazes_74 : decode cX8_grazes 74 = .ok (.invokevirtual 53, 3) := by decide +kernel
theorem dX8_grazes_77 : decode cX8_grazes 77 = .ok (.ifCond .ne 21, 3) := by decide +kernel
theorem dX8_grazes_80 : decode cX8_grazes 80 = .ok (.aload_n 0, 1) := by decide +kernel
theorem dX8_grazes_81 : decode cX8_grazes 81 = .ok (.iload_n 1, 1) := by decide +kernel
theorem dX8_grazes_82 : decode cX8_grazes 82 = .ok (.iconst 4, 1) := by decide +kernel
theorem dX8_grazes_83 : decode cX8_grazes 83 = .ok (.iconst 1, 1) := by decide +kernel
theorem dX8_grazes_84 : decode cX8_grazes 84 = .ok (.invokevirtual 57, 3) := by decide +kernel
theorem dX8_grazes_87 : decode cX8_grazes 87 = .ok (.aload_n 0, 1) := by decide +kernel
theorem dX8_grazes_88 : decode cX8_grazes 88 = .ok (.getfield 7, 3) := by decide +kernel
theorem dX8_grazes_91 : decode cX8_grazes 91 = .ok (.bipush 13, 2) := by decide +kernel
theorem dX8_grazes_93 : decode cX8_grazes 93 = .ok (.dup2, 1) := by decide +kernel
theorem dX8_grazes_94 : decode cX8_grazes 94 = .ok (.iaload, 1) := by decide +kernel
theorem dX8_grazes_95 : decode cX8_grazes 95 = .ok (.iconst 1, 1) := by decide +kernel
theorem dX8_grazes_96 : decode cX8_grazes 96 = .ok (.iadd, 1) := by decide +kernel
theorem dX8_grazes_97 : decode cX8_grazes 97 = .ok (.iastore, 1) := by decide +kernel
theorem dX8_grazes_98 : decode cX8_grazes 98 = .ok (.iinc 1 1, 3) := by decide +kernel
theorem dX8_grazes_101 : decode cX8_grazes 101 = .ok (.goto (-99), 3) := by decide +kernel
theorem dX8_grazes_104 : decode cX8_grazes 104 = .ok (.return_, 1) := by decide +kernel
theorem dX8_goTick_0 : decode cX8_goTick 0 = .ok (.aload_n 0, 1) := by decide +kernel
theorem dX8_goTick_1 : decode cX8_goTick 1 = .ok (.getfield 7, 3) := by decide +kernel
theorem dX8_goTick_4 : decode cX8_goTick 4 = .ok (.iconst 2, 1) := by decide +kernel
theorem dX8_goTick_5 : decode cX8_goTick 5 = .ok (.dup2, 1) := by decide +kernel
theorem dX8_goTick_6 : decode cX8_goTick 6 = .ok (.iaload, 1) := by decide +kernel
theorem dX8_goTick_7 : decode cX8_goTick 7 = .ok (.aload_n 0, 1) := by decide +kernel
theorem dX8_goTick_8 : decode cX8_goTick 8 = .ok (.getfield 7, 3) := by decide +kernel
theorem dX8_goTick_11 : decode cX8_goTick 11 = .ok (.iconst 2, 1) := by decide +kernel
theorem dX8_goTick_12 : decode cX8_goTick 12 = .ok (.iaload, 1) := by decide +kernel
theorem dX8_goTick_13 : decode cX8_goTick 13 = .ok (.iload_n 1, 1) := by decide +kernel
theorem dX8_goTick_14 : decode cX8_goTick 14 = .ok (.iadd, 1) := by decide +kernel
theorem dX8_goTick_15 : decode cX8_goTick 15 = .ok (.iconst 0, 1) := by decide +kernel
theorem dX8_goTick_16 : decode cX8_goTick 16 = .ok (.bipush 9, 2) := by decide +kernel
theorem dX8_goTick_18 : decode cX8_goTick 18 = .ok (.invokestatic 49, 3) := by decide +kernel
theorem dX8_goTick_21 : decode cX8_goTick 21 = .ok (.ifCond .eq 7, 3) := by decide +kernel
theorem dX8_goTick_24 : decode cX8_goTick 24 = .ok (.iload_n 1, 1) := by decide +kernel
theorem dX8_goTick_25 : decode cX8_goTick 25 = .ok (.goto 4, 3) := by decide +kernel
theorem dX8_goTick_28 : decode cX8_goTick 28 = .ok (.iconst 0, 1) := by decide +kernel
theorem dX8_goTick_29 : decode cX8_goTick 29 = .ok (.iadd, 1) := by decide +kernel
theorem dX8_goTick_30 : decode cX8_goTick 30 = .ok (.iastore, 1) := by decide +kernel
theorem dX8_goTick_31 : decode cX8_goTick 31 = .ok (.aload_n 0, 1) := by decide +kernel
theorem dX8_goTick_32 : decode cX8_goTick 32 = .ok (.invokevirtual 81, 3) := by decide +kernel
theorem dX8_goTick_35 : decode cX8_goTick 35 = .ok (.aload_n 0, 1) := by decide +kernel
theorem dX8_goTick_36 : decode cX8_goTick 36 = .ok (.invokevirtual 84, 3) := by decide +kernel
theorem dX8_goTick_39 : decode cX8_goTick 39 = .ok (.istore_n 2, 1) := by decide +kernel
theorem dX8_goTick_40 : decode cX8_goTick 40 = .ok (.aload_n 0, 1) := by decide +kernel
theorem dX8_goTick_41 : decode cX8_goTick 41 = .ok (.getfield 7, 3) := by decide +kernel
theorem dX8_goTick_44 : decode cX8_goTick 44 = .ok (.bipush 6, 2) := by decide +kernel
theorem dX8_goTick_46 : decode cX8_goTick 46 = .ok (.iaload, 1) := by decide +kernel
theorem dX8_goTick_47 : decode cX8_goTick 47 = .ok (.ifCond .ne 7, 3) := by decide +kernel
theorem dX8_goTick_50 : decode cX8_goTick 50 = .ok (.aload_n 0, 1) := by decide +kernel
theorem dX8_goTick_51 : decode cX8_goTick 51 = .ok (.invokevirtual 87, 3) := by decide +kernel
theorem dX8_goTick_54 : decode cX8_goTick 54 = .ok (.iload_n 2, 1) := by decide +kernel
theorem dX8_goTick_55 : decode cX8_goTick 55 = .ok (.ireturn, 1) := by decide +kernel
theorem dX8_goBomb_0 : decode cX8_goBomb 0 = .ok (.aload_n 0, 1) := by decide +kernel
theorem dX8_goBomb_1 : decode cX8_goBomb 1 = .ok (.getfield 7, 3) := by decide +kernel
theorem dX8_goBomb_4 : decode cX8_goBomb 4 = .ok (.bipush 16, 2) := by decide +kernel
theorem dX8_goBomb_6 : decode cX8_goBomb 6 = .ok (.iaload, 1) := by decide +kernel
theorem dX8_goBomb_7 : decode cX8_goBomb 7 = .ok (.istore_n 1, 1) := by decide +kernel
theorem dX8_goBomb_8 : decode cX8_goBomb 8 = .ok (.iconst 0, 1) := by decide +kernel
theorem dX8_goBomb_9 : decode cX8_goBomb 9 = .ok (.istore_n 2, 1) := by decide +kernel
theorem dX8_goBomb_10 : decode cX8_goBomb 10 = .ok (.iload_n 2, 1) := by decide +kernel
theorem dX8_goBomb_11 : decode cX8_goBomb 11 = .ok (.aload_n 0, 1) := by decide +kernel
theorem dX8_goBomb_12 : decode cX8_goBomb 12 = .ok (.getfield 7, 3) := by decide +kernel
theorem dX8_goBomb_15 : decode cX8_goBomb 15 = .ok (.iconst 1, 1) := by decide +kernel
theorem dX8_goBomb_16 : decode cX8_goBomb 16 = .ok (.iaload, 1) := by decide +kernel
theorem dX8_goBomb_17 : decode cX8_goBomb 17 = .ok (.if_icmp .ge 55, 3) := by decide +kernel
theorem dX8_goBomb_20 : decode cX8_goBomb 20 = .ok (.aload_n 0, 1) := by decide +kernel
theorem dX8_goBomb_21 : decode cX8_goBomb 21 = .ok (.getfield 25, 3) := by decide +kernel
theorem dX8_goBomb_24 : decode cX8_goBomb 24 = .ok (.iload_n 2, 1) := by decide +kernel
theorem dX8_goBomb_25 : decode cX8_goBomb 25 = .ok (.aload_n 0, 1) := by decide +kernel
theorem dX8_goBomb_26 : decode cX8_goBomb 26 = .ok (.iload_n 2, 1) := by decide +kernel
theorem dX8_goBomb_27 : decode cX8_goBomb 27 = .ok (.iconst 0, 1) := by decide +kernel
theorem dX8_goBomb_28 : decode cX8_goBomb 28 = .ok (.invokevirtual 53, 3) := by decide +kernel
theorem dX8_goBomb_31 : decode cX8_goBomb 31 = .ok (.bipush 11, 2) := by decide +kernel
theorem dX8_goBomb_33 : decode cX8_goBomb 33 = .ok (.iload_n 1, 1) := by decide +kernel
theorem dX8_goBomb_34 : decode cX8_goBomb 34 = .ok (.isub, 1) := by decide +kernel
theorem dX8_goBomb_35 : decode cX8_goBomb 35 = .ok (.if_icmp .lt 29, 3) := by decide +kernel
theorem dX8_goBomb_38 : decode cX8_goBomb 38 = .ok (.aload_n 0, 1) := by decide +kernel
theorem dX8_goBomb_39 : decode cX8_goBomb 39 = .ok (.iload_n 2, 1) := by decide +kernel
theorem dX8_goBomb_40 : decode cX8_goBomb 40 = .ok (.iconst 1, 1) := by decide +kernel
theorem dX8_goBomb_41 : decode cX8_goBomb 41 = .ok (.invokevirtual 53, 3) := by decide +kernel
theorem dX8_goBomb_44 : decode cX8_goBomb 44 = .ok (.aload_n 0, 1) := by decide +kernel
theorem dX8_goBomb_45 : decode cX8_goBomb 45 = .ok (.getfield 7, 3) := by decide +kernel
theorem dX8_goBomb_48 : decode cX8_goBomb 48 = .ok (.iconst 2, 1) := by decide +kernel
theorem dX8_goBomb_49 : decode cX8_goBomb 49 = .ok (.iaload, 1) := by decide +kernel
theorem dX8_goBomb_50 : decode cX8_goBomb 50 = .ok (.isub, 1) := by decide +kernel
theorem dX8_goBomb_51 : decode cX8_goBomb 51 = .ok (.iload_n 1, 1) := by decide +kernel
theorem dX8_goBomb_52 : decode cX8_goBomb 52 = .ok (.ineg, 1) := by decide +kernel
theorem dX8_goBomb_53 : decode cX8_goBomb 53 = .ok (.iload_n 1, 1) := by decide +kernel
theorem dX8_goBomb_54 : decode cX8_goBomb 54 = .ok (.invokestatic 49, 3) := by decide +kernel
theorem dX8_goBomb_57 : decode cX8_goBomb 57 = .ok (.ifCond .eq 7, 3) := by decide +kernel
theorem dX8_goBomb_60 : decode cX8_goBomb 60 = .ok (.iconst 1, 1) := by decide +kernel
theorem dX8_goBomb_61 : decode cX8_goBomb 61 = .ok (.goto 4, 3) := by decide +kernel
theorem dX8_goBomb_64 : decode cX8_goBomb 64 = .ok (.iconst 0, 1) := by decide +kernel
theorem dX8_goBomb_65 : decode cX8_goBomb 65 = .ok (.bastore, 1) := by decide +kernel
theorem dX8_goBomb_66 : decode cX8_goBomb 66 = .ok (.iinc 2 1, 3) := by decide +kernel
theorem dX8_goBomb_69 : decode cX8_goBomb 69 = .ok (.goto (-59), 3) := by decide +kernel
theorem dX8_goBomb_72 : decode cX8_goBomb 72 = .ok (.aload_n 0, 1) := by decide +kernel
theorem dX8_goBomb_73 : decode cX8_goBomb 73 = .ok (.invokevirtual 61, 3) := by decide +kernel
theorem dX8_goBomb_76 : decode cX8_goBomb 76 = .ok (.istore_n 2, 1) := by decide +kernel
theorem dX8_goBomb_77 : decode cX8_goBomb 77 = .ok (.aload_n 0, 1) := by decide +kernel
theorem dX8_goBomb_78 : decode cX8_goBomb 78 = .ok (.getfield 7, 3) := by decide +kernel
theorem dX8_goBomb_81 : decode cX8_goBomb 81 = .ok (.bipush 11, 2) := by decide +kernel
theorem dX8_goBomb_83 : decode cX8_goBomb 83 = .ok (.dup2, 1) := by decide +kernel
theorem dX8_goBomb_84 : decode cX8_goBomb 84 = .ok (.iaload, 1) := by decide +kernel
theorem dX8_goBomb_85 : decode cX8_goBomb 85 = .ok (.iload_n 2, 1) := by decide +kernel
theorem dX8_goBomb_86 : decode cX8_goBomb 86 = .ok (.iadd, 1) := by decide +kernel
theorem dX8_goBomb_87 : decode cX8_goBomb 87 = .ok (.iastore, 1) := by decide +kernel
theorem dX8_goBomb_88 : decode cX8_goBomb 88 = .ok (.aload_n 0, 1) := by decide +kernel
theorem dX8_goBomb_89 : decode cX8_goBomb 89 = .ok (.getfield 7, 3) := by decide +kernel
theorem dX8_goBomb_92 : decode cX8_goBomb 92 = .ok (.iconst 4, 1) := by decide +kernel
theorem dX8_goBomb_93 : decode cX8_goBomb 93 = .ok (.dup2, 1) := by decide +kernel
theorem dX8_goBomb_94 : decode cX8_goBomb 94 = .ok (.iaload, 1) := by decide +kernel
theorem dX8_goBomb_95 : decode cX8_goBomb 95 = .ok (.iconst 1, 1) := by decide +kernel
theorem dX8_goBomb_96 : decode cX8_goBomb 96 = .ok (.isub, 1) := by decide +kernel
theorem dX8_goBomb_97 : decode cX8_goBomb 97 = .ok (.iastore, 1) := by decide +kernel
theorem dX8_goBomb_98 : decode cX8_goBomb 98 = .ok (.iload_n 2, 1) := by decide +kernel
theorem dX8_goBomb_99 : decode cX8_goBomb 99 = .ok (.ireturn, 1) := by decide +kernel
theorem dX8_canBomb_0 : decode cX8_canBomb 0 = .ok (.aload_n 0, 1) := by decide +kernel
theorem dX8_canBomb_1 : decode cX8_canBomb 1 = .ok (.getfield 7, 3) := by decide +kernel
theorem dX8_canBomb_4 : decode cX8_canBomb 4 = .ok (.bipush 6, 2) := by decide +kernel
theorem dX8_canBomb_6 : decode cX8_canBomb 6 = .ok (.iaload, 1) := by decide +kernel
theorem dX8_canBomb_7 : decode cX8_canBomb 7 = .ok (.ifCond .ne 16, 3) := by decide +kernel
theorem dX8_canBomb_10 : decode cX8_canBomb 10 = .ok (.aload_n 0, 1) := by decide +kernel
theorem dX8_canBomb_11 : decode cX8_canBomb 11 = .ok (.getfield 7, 3) := by decide +kernel
theorem dX8_canBomb_14 : decode cX8_canBomb 14 = .ok (.iconst 4, 1) := by decide +kernel
theorem dX8_canBomb_15 : decode cX8_canBomb 15 = .ok (.iaload, 1) := by decide +kernel
theorem dX8_canBomb_16 : decode cX8_canBomb 16 = .ok (.ifCond .le 7, 3) := by decide +kernel
theorem dX8_canBomb_19 : decode cX8_canBomb 19 = .ok (.iconst 1, 1) := by decide +kernel
theorem dX8_canBomb_20 : decode cX8_canBomb 20 = .ok (.goto 4, 3) := by decide +kernel
theorem dX8_canBomb_23 : decode cX8_canBomb 23 = .ok (.iconst 0, 1) := by decide +kernel
theorem dX8_canBomb_24 : decode cX8_canBomb 24 = .ok (.ireturn, 1) := by decide +kernel
theorem dX8_emitter_0 : decode cX8_emitter 0 = .ok (.iload_n 1, 1) := by decide +kernel
theorem dX8_emitter_1 : decode cX8_emitter 1 = .ok (.iconst 0, 1) := by decide +kernel
theorem dX8_emitter_2 : decode cX8_emitter 2 = .ok (.bipush 9, 2) := by decide +kernel
theorem dX8_emitter_4 : decode cX8_emitter 4 = .ok (.invokestatic 49, 3) := by decide +kernel
theorem dX8_emitter_7 : decode cX8_emitter 7 = .ok (.ifCond .eq 34, 3) := by decide +kernel
theorem dX8_emitter_10 : decode cX8_emitter 10 = .ok (.iload_n 2, 1) := by decide +kernel
theorem dX8_emitter_11 : decode cX8_emitter 11 = .ok (.iconst 0, 1) := by decide +kernel
theorem dX8_emitter_12 : decode cX8_emitter 12 = .ok (.iconst 5, 1) := by decide +kernel
theorem dX8_emitter_13 : decode cX8_emitter 13 = .ok (.invokestatic 49, 3) := by decide +kernel
theorem dX8_emitter_16 : decode cX8_emitter 16 = .ok (.ifCond .eq 25, 3) := by decide +kernel
theorem dX8_emitter_19 : decode cX8_emitter 19 = .ok (.iload_n 3, 1) := by decide +kernel
theorem dX8_emitter_20 : decode cX8_emitter 20 = .ok (.iconst 1, 1) := by decide +kernel
theorem dX8_emitter_21 : decode cX8_emitter 21 = .ok (.bipush 9, 2) := by decide +kernel
theorem dX8_emitter_23 : decode cX8_emitter 23 = .ok (.invokestatic 49, 3) := by decide +kernel
theorem dX8_emitter_26 : decode cX8_emitter 26 = .ok (.ifCond .eq 15, 3) := by decide +kernel
theorem dX8_emitter_29 : decode cX8_emitter 29 = .ok (.iload 4, 2) := by decide +kernel
theorem dX8_emitter_31 : decode cX8_emitter 31 = .ok (.iconst 0, 1) := by decide +kernel
theorem dX8_emitter_32 : decode cX8_emitter 32 = .ok (.iload_n 3, 1) := by decide +kernel
theorem dX8_emitter_33 : decode cX8_emitter 33 = .ok (.iconst 1, 1) := by decide +kernel
theorem dX8_emitter_34 : decode cX8_emitter 34 = .ok (.isub, 1) := by decide +kernel
theorem dX8_emitter_35 : decode cX8_emitter 35 = .ok (.invokestatic 49, 3) := by decide +kernel
theorem dX8_emitter_38 : decode cX8_emitter 38 = .ok (.ifCond .ne 5, 3) := by decide +kernel
theorem dX8_emitter_41 : decode cX8_emitter 41 = .ok (.iconst (-1), 1) := by decide +kernel
theorem dX8_emitter_42 : decode cX8_emitter 42 = .ok (.ireturn, 1) := by decide +kernel
theorem dX8_emitter_43 : decode cX8_emitter 43 = .ok (.aload_n 0, 1) := by decide +kernel
theorem dX8_emitter_44 : decode cX8_emitter 44 = .ok (.getfield 7, 3) := by decide +kernel
theorem dX8_emitter_47 : decode cX8_emitter 47 = .ok (.iconst 0, 1) := by decide +kernel
theorem dX8_emitter_48 : decode cX8_emitter 48 = .ok (.iaload, 1) := by decide +kernel
theorem dX8_emitter_49 : decode cX8_emitter 49 = .ok (.iconst 4, 1) := by decide +kernel
theorem dX8_emitter_50 : decode cX8_emitter 50 = .ok (.if_icmp .ne 6, 3) := by decide +kernel
theorem dX8_emitter_53 : decode cX8_emitter 53 = .ok (.bipush (-3), 2) := by decide +kernel
theorem dX8_emitter_55 : decode cX8_emitter 55 = .ok (.ireturn, 1) := by decide +kernel
theorem dX8_emitter_56 : decode cX8_emitter 56 = .ok (.aload_n 0, 1) := by decide +kernel
theorem dX8_emitter_57 : decode cX8_emitter 57 = .ok (.invokevirtual 90, 3) := by decide +kernel
theorem dX8_emitter_60 : decode cX8_emitter 60 = .ok (.aload_n 0, 1) := by decide +kernel
theorem dX8_emitter_61 : decode cX8_emitter 61 = .ok (.iload_n 1, 1) := by decide +kernel
theorem dX8_emitter_62 : decode cX8_emitter 62 = .ok (.iload_n 2, 1) := by decide +kernel
theorem dX8_emitter_63 : decode cX8_emitter 63 = .ok (.iload_n 3, 1) := by decide +kernel
theorem dX8_emitter_64 : decode cX8_emitter 64 = .ok (.iload 4, 2) := by decide +kernel
theorem dX8_emitter_66 : decode cX8_emitter 66 = .ok (.invokevirtual 93, 3) := by decide +kernel
theorem dX8_emitter_69 : decode cX8_emitter 69 = .ok (.aload_n 0, 1) := by decide +kernel
theorem dX8_emitter_70 : decode cX8_emitter 70 = .ok (.getfield 7, 3) := by decide +kernel
theorem dX8_emitter_73 : decode cX8_emitter 73 = .ok (.iconst 0, 1) := by decide +kernel
theorem dX8_emitter_74 : decode cX8_emitter 74 = .ok (.iaload, 1) := by decide +kernel
theorem dX8_emitter_75 : decode cX8_emitter 75 = .ok (.iconst 1, 1) := by decide +kernel
theorem dX8_emitter_76 : decode cX8_emitter 76 = .ok (.isub, 1) := by decide +kernel
theorem dX8_emitter_77 : decode cX8_emitter 77 = .ok (.ireturn, 1) := by decide +kernel
theorem dX8_takeAway_0 : decode cX8_takeAway 0 = .ok (.aload_n 0, 1) := by decide +kernel
theorem dX8_takeAway_1 : decode cX8_takeAway 1 = .ok (.iload_n 1, 1) := by decide +kernel
theorem dX8_takeAway_2 : decode cX8_takeAway 2 = .ok (.invokevirtual 97, 3) := by decide +kernel
theorem dX8_takeAway_5 : decode cX8_takeAway 5 = .ok (.ifCond .ne 5, 3) := by decide +kernel
theorem dX8_takeAway_8 : decode cX8_takeAway 8 = .ok (.iconst (-1), 1) := by decide +kernel
theorem dX8_takeAway_9 : decode cX8_takeAway 9 = .ok (.ireturn, 1) := by decide +kernel
theorem dX8_takeAway_10 : decode cX8_takeAway 10 = .ok (.aload_n 0, 1) := by decide +kernel
theorem dX8_takeAway_11 : decode cX8_takeAway 11 = .ok (.invokevirtual 90, 3) := by decide +kernel
theorem dX8_takeAway_14 : decode cX8_takeAway 14 = .ok (.aload_n 0, 1) := by decide +kernel
theorem dX8_takeAway_15 : decode cX8_takeAway 15 = .ok (.iload_n 1, 1) := by decide +kernel
theorem dX8_takeAway_16 : decode cX8_takeAway 16 = .ok (.invokevirtual 101, 3) := by decide +kernel
theorem dX8_takeAway_19 : decode cX8_takeAway 19 = .ok (.aload_n 0, 1) := by decide +kernel
theorem dX8_takeAway_20 : decode cX8_takeAway 20 = .ok (.getfield 7, 3) := by decide +kernel
theorem dX8_takeAway_23 : decode cX8_takeAway 23 = .ok (.iconst 0, 1) := by decide +kernel
theorem dX8_takeAway_24 : decode cX8_takeAway 24 = .ok (.iaload, 1) := by decide +kernel
theorem dX8_takeAway_25 : decode cX8_takeAway 25 = .ok (.ireturn, 1) := by decide +kernel
theorem dX8_tick_0 : decode cX8_tick 0 = .ok (.iload_n 1, 1) := by decide +kernel
theorem dX8_tick_1 : decode cX8_tick 1 = .ok (.iconst (-1), 1) := by decide +kernel
theorem dX8_tick_2 : decode cX8_tick 2 = .ok (.iconst 1, 1) := by decide +kernel
theorem dX8_tick_3 : decode cX8_tick 3 = .ok (.invokestatic 49, 3) := by decide +kernel
theorem dX8_tick_6 : decode cX8_tick 6 = .ok (.ifCond .ne 5, 3) := by decide +kernel
theorem dX8_tick_9 : decode cX8_tick 9 = .ok (.iconst (-1), 1) := by decide +kernel
theorem dX8_tick_10 : decode cX8_tick 10 = .ok (.ireturn, 1) := by decide +kernel
theorem dX8_tick_11 : decode cX8_tick 11 = .ok (.aload_n 0, 1) := by decide +kernel
theorem dX8_tick_12 : decode cX8_tick 12 = .ok (.getfield 7, 3) := by decide +kernel
theorem dX8_tick_15 : decode cX8_tick 15 = .ok (.bipush 6, 2) := by decide +kernel
theorem dX8_tick_17 : decode cX8_tick 17 = .ok (.iaload, 1) := by decide +kernel
theorem dX8_tick_18 : decode cX8_tick 18 = .ok (.iconst 1, 1) := by decide +kernel
theorem dX8_tick_19 : decode cX8_tick 19 = .ok (.if_icmp .ne 6, 3) := by decide +kernel
theorem dX8_tick_22 : decode cX8_tick 22 = .ok (.bipush (-2), 2) := by decide +kernel
theorem dX8_tick_24 : decode cX8_tick 24 = .ok (.ireturn, 1) := by decide +kernel
theorem dX8_tick_25 : decode cX8_tick 25 = .ok (.aload_n 0, 1) := by decide +kernel
theorem dX8_tick_26 : decode cX8_tick 26 = .ok (.invokevirtual 90, 3) := by decide +kernel
theorem dX8_tick_29 : decode cX8_tick 29 = .ok (.aload_n 0, 1) := by decide +kernel
theorem dX8_tick_30 : decode cX8_tick 30 = .ok (.iload_n 1, 1) := by decide +kernel
theorem dX8_tick_31 : decode cX8_tick 31 = .ok (.invokevirtual 105, 3) := by decide +kernel
theorem dX8_tick_34 : decode cX8_tick 34 = .ok (.ireturn, 1) := by decide +kernel
theorem dX8_bomb_0 : decode cX8_bomb 0 = .ok (.aload_n 0, 1) := by decide +kernel
theorem dX8_bomb_1 : decode cX8_bomb 1 = .ok (.invokevirtual 109, 3) := by decide +kernel
theorem dX8_bomb_4 : decode cX8_bomb 4 = .ok (.ifCond .ne 6, 3) := by decide +kernel
theorem dX8_bomb_7 : decode cX8_bomb 7 = .ok (.bipush (-2), 2) := by decide +kernel
theorem dX8_bomb_9 : decode cX8_bomb 9 = .ok (.ireturn, 1) := by decide +kernel
theorem dX8_bomb_10 : decode cX8_bomb 10 = .ok (.aload_n 0, 1) := by decide +kernel
theorem dX8_bomb_11 : decode cX8_bomb 11 = .ok (.invokevirtual 90, 3) := by decide +kernel
theorem dX8_bomb_14 : decode cX8_bomb 14 = .ok (.aload_n 0, 1) := by decide +kernel
theorem dX8_bomb_15 : decode cX8_bomb 15 = .ok (.invokevirtual 113, 3) := by decide +kernel
theorem dX8_bomb_18 : decode cX8_bomb 18 = .ok (.ireturn, 1) := by decide +kernel
theorem dX8_clearField_0 : decode cX8_clearField 0 = .ok (.aload_n 0, 1) := by decide +kernel
theorem dX8_clearField_1 : decode cX8_clearField 1 = .ok (.invokevirtual 90, 3) := by decide +kernel
theorem dX8_clearField_4 : decode cX8_clearField 4 = .ok (.aload_n 0, 1) := by decide +kernel
theorem dX8_clearField_5 : decode cX8_clearField 5 = .ok (.getfield 7, 3) := by decide +kernel
theorem dX8_clearField_8 : decode cX8_clearField 8 = .ok (.iconst 1, 1) := by decide +kernel
theorem dX8_clearField_9 : decode cX8_clearField 9 = .ok (.iaload, 1) := by decide +kernel
theorem dX8_clearField_10 : decode cX8_clearField 10 = .ok (.istore_n 1, 1) := by decide +kernel
theorem dX8_clearField_11 : decode cX8_clearField 11 = .ok (.bipush 33, 2) := by decide +kernel
theorem dX8_clearField_13 : decode cX8_clearField 13 = .ok (.istore_n 2, 1) := by decide +kernel
theorem dX8_clearField_14 : decode cX8_clearField 14 = .ok (.iload_n 2, 1) := by decide +kernel
theorem dX8_clearField_15 : decode cX8_clearField 15 = .ok (.sipush 333, 3) := by decide +kernel
theorem dX8_clearField_18 : decode cX8_clearField 18 = .ok (.if_icmp .ge 16, 3) := by decide +kernel
theorem dX8_clearField_21 : decode cX8_clearField 21 = .ok (.aload_n 0, 1) := by decide +kernel
theorem dX8_clearField_22 : decode cX8_clearField 22 = .ok (.getfield 7, 3) := by decide +kernel
theorem dX8_clearField_25 : decode cX8_clearField 25 = .ok (.iload_n 2, 1) := by decide +kernel
theorem dX8_clearField_26 : decode cX8_clearField 26 = .ok (.iconst 0, 1) := by decide +kernel
theorem dX8_clearField_27 : decode cX8_clearField 27 = .ok (.iastore, 1) := by decide +kernel
theorem dX8_clearField_28 : decode cX8_clearField 28 = .ok (.iinc 2 1, 3) := by decide +kernel
theorem dX8_clearField_31 : decode cX8_clearField 31 = .ok (.goto (-17), 3) := by decide +kernel
theorem dX8_clearField_34 : decode cX8_clearField 34 = .ok (.aload_n 0, 1) := by decide +kernel
theorem dX8_clearField_35 : decode cX8_clearField 35 = .ok (.getfield 7, 3) := by decide +kernel
theorem dX8_clearField_38 : decode cX8_clearField 38 = .ok (.iconst 1, 1) := by decide +kernel
theorem dX8_clearField_39 : decode cX8_clearField 39 = .ok (.iconst 0, 1) := by decide +kernel
theorem dX8_clearField_40 : decode cX8_clearField 40 = .ok (.iastore, 1) := by decide +kernel
theorem dX8_clearField_41 : decode cX8_clearField 41 = .ok (.aload_n 0, 1) := by decide +kernel
theorem dX8_clearField_42 : decode cX8_clearField 42 = .ok (.getfield 7, 3) := by decide +kernel
theorem dX8_clearField_45 : decode cX8_clearField 45 = .ok (.bipush 12, 2) := by decide +kernel
theorem dX8_clearField_47 : decode cX8_clearField 47 = .ok (.dup2, 1) := by decide +kernel
theorem dX8_clearField_48 : decode cX8_clearField 48 = .ok (.iaload, 1) := by decide +kernel
theorem dX8_clearField_49 : decode cX8_clearField 49 = .ok (.iload_n 1, 1) := by decide +kernel
theorem dX8_clearField_50 : decode cX8_clearField 50 = .ok (.iadd, 1) := by decide +kernel
theorem dX8_clearField_51 : decode cX8_clearField 51 = .ok (.iastore, 1) := by decide +kernel
theorem dX8_clearField_52 : decode cX8_clearField 52 = .ok (.aload_n 0, 1) := by decide +kernel
theorem dX8_clearField_53 : decode cX8_clearField 53 = .ok (.getfield 7, 3) := by decide +kernel
theorem dX8_clearField_56 : decode cX8_clearField 56 = .ok (.bipush 6, 2) := by decide +kernel
theorem dX8_clearField_58 : decode cX8_clearField 58 = .ok (.iconst 0, 1) := by decide +kernel
theorem dX8_clearField_59 : decode cX8_clearField 59 = .ok (.iastore, 1) := by decide +kernel
theorem dX8_clearField_60 : decode cX8_clearField 60 = .ok (.aload_n 0, 1) := by decide +kernel
theorem dX8_clearField_61 : decode cX8_clearField 61 = .ok (.getfield 7, 3) := by decide +kernel
theorem dX8_clearField_64 : decode cX8_clearField 64 = .ok (.iconst 3, 1) := by decide +kernel
theorem dX8_clearField_65 : decode cX8_clearField 65 = .ok (.iconst 3, 1) := by decide +kernel
theorem dX8_clearField_66 : decode cX8_clearField 66 = .ok (.iastore, 1) := by decide +kernel
theorem dX8_clearField_67 : decode cX8_clearField 67 = .ok (.aload_n 0, 1) := by decide +kernel
theorem dX8_clearField_68 : decode cX8_clearField 68 = .ok (.getfield 7, 3) := by decide +kernel
theorem dX8_clearField_71 : decode cX8_clearField 71 = .ok (.iconst 4, 1) := by decide +kernel
theorem dX8_clearField_72 : decode cX8_clearField 72 = .ok (.iconst 2, 1) := by decide +kernel
theorem dX8_clearField_73 : decode cX8_clearField 73 = .ok (.iastore, 1) := by decide +kernel
theorem dX8_clearField_74 : decode cX8_clearField 74 = .ok (.iload_n 1, 1) := by decide +kernel
theorem dX8_clearField_75 : decode cX8_clearField 75 = .ok (.ireturn, 1) := by decide +kernel
theorem dX8_set_0 : decode cX8_set 0 = .ok (.iload_n 1, 1) := by decide +kernel
theorem dX8_set_1 : decode cX8_set 1 = .ok (.iconst 0, 1) := by decide +kernel
theorem dX8_set_2 : decode cX8_set 2 = .ok (.iconst 1, 1) := by decide +kernel
theorem dX8_set_3 : decode cX8_set 3 = .ok (.invokestatic 49, 3) := by decide +kernel
theorem dX8_set_6 : decode cX8_set 6 = .ok (.ifCond .eq 28, 3) := by decide +kernel
theorem dX8_set_9 : decode cX8_set 9 = .ok (.iload_n 2, 1) := by decide +kernel
theorem dX8_set_10 : decode cX8_set 10 = .ok (.iload_n 1, 1) := by decide +kernel
theorem dX8_set_11 : decode cX8_set 11 = .ok (.ifCond .ne 7, 3) := by decide +kernel
theorem dX8_set_14 : decode cX8_set 14 = .ok (.iconst 0, 1) := by decide +kernel
theorem dX8_set_15 : decode cX8_set 15 = .ok (.goto 4, 3) := by decide +kernel
theorem dX8_set_18 : decode cX8_set 18 = .ok (.iconst 1, 1) := by decide +kernel
theorem dX8_set_19 : decode cX8_set 19 = .ok (.iload_n 1, 1) := by decide +kernel
theorem dX8_set_20 : decode cX8_set 20 = .ok (.ifCond .ne 7, 3) := by decide +kernel
theorem dX8_set_23 : decode cX8_set 23 = .ok (.iconst 1, 1) := by decide +kernel
theorem dX8_set_24 : decode cX8_set 24 = .ok (.goto 4, 3) := by decide +kernel
theorem dX8_set_27 : decode cX8_set 27 = .ok (.iconst 5, 1) := by decide +kernel
theorem dX8_set_28 : decode cX8_set 28 = .ok (.invokestatic 49, 3) := by decide +kernel
theorem dX8_set_31 : decode cX8_set 31 = .ok (.ifCond .ne 5, 3) := by decide +kernel
theorem dX8_set_34 : decode cX8_set 34 = .ok (.iconst (-1), 1) := by decide +kernel
theorem dX8_set_35 : decode cX8_set 35 = .ok (.ireturn, 1) := by decide +kernel
theorem dX8_set_36 : decode cX8_set 36 = .ok (.aload_n 0, 1) := by decide +kernel
theorem dX8_set_37 : decode cX8_set 37 = .ok (.invokevirtual 90, 3) := by decide +kernel
theorem dX8_set_40 : decode cX8_set 40 = .ok (.aload_n 0, 1) := by decide +kernel
theorem dX8_set_41 : decode cX8_set 41 = .ok (.getfield 7, 3) := by decide +kernel
theorem dX8_set_44 : decode cX8_set 44 = .ok (.bipush 15, 2) := by decide +kernel
theorem dX8_set_46 : decode cX8_set 46 = .ok (.iload_n 1, 1) := by decide +kernel
theorem dX8_set_47 : decode cX8_set 47 = .ok (.iadd, 1) := by decide +kernel
theorem dX8_set_48 : decode cX8_set 48 = .ok (.iaload, 1) := by decide +kernel
theorem dX8_set_49 : decode cX8_set 49 = .ok (.istore_n 3, 1) := by decide +kernel
theorem dX8_set_50 : decode cX8_set 50 = .ok (.aload_n 0, 1) := by decide +kernel
theorem dX8_set_51 : decode cX8_set 51 = .ok (.getfield 7, 3) := by decide +kernel
theorem dX8_set_54 : decode cX8_set 54 = .ok (.bipush 15, 2) := by decide +kernel
theorem dX8_set_56 : decode cX8_set 56 = .ok (.iload_n 1, 1) := by decide +kernel
theorem dX8_set_57 : decode cX8_set 57 = .ok (.iadd, 1) := by decide +kernel
theorem dX8_set_58 : decode cX8_set 58 = .ok (.iload_n 2, 1) := by decide +kernel
theorem dX8_set_59 : decode cX8_set 59 = .ok (.iastore, 1) := by decide +kernel
theorem dX8_set_60 : decode cX8_set 60 = .ok (.iload_n 3, 1) := by decide +kernel
theorem dX8_set_61 : decode cX8_set 61 = .ok (.ireturn, 1) := by decide +kernel
theorem dX8_append_0 : decode cX8_append 0 = .ok (.iload_n 1, 1) := by decide +kernel
theorem dX8_append_1 : decode cX8_append 1 = .ok (.bipush 33, 2) := by decide +kernel
theorem dX8_append_3 : decode cX8_append 3 = .ok (.bipush 126, 2) := by decide +kernel
theorem dX8_append_5 : decode cX8_append 5 = .ok (.invokestatic 49, 3) := by decide +kernel
theorem dX8_append_8 : decode cX8_append 8 = .ok (.ifCond .ne 5, 3) := by decide +kernel
theorem dX8_append_11 : decode cX8_append 11 = .ok (.iconst (-1), 1) := by decide +kernel
theorem dX8_append_12 : decode cX8_append 12 = .ok (.ireturn, 1) := by decide +kernel
theorem dX8_append_13 : decode cX8_append 13 = .ok (.aload_n 0, 1) := by decide +kernel
theorem dX8_append_14 : decode cX8_append 14 = .ok (.getfield 116, 3) := by decide +kernel
theorem dX8_append_17 : decode cX8_append 17 = .ok (.bipush 60, 2) := by decide +kernel
theorem dX8_append_19 : decode cX8_append 19 = .ok (.if_icmp .ne 6, 3) := by decide +kernel
theorem dX8_append_22 : decode cX8_append 22 = .ok (.bipush (-3), 2) := by decide +kernel
theorem dX8_append_24 : decode cX8_append 24 = .ok (.ireturn, 1) := by decide +kernel
theorem dX8_append_25 : decode cX8_append 25 = .ok (.aload_n 0, 1) := by decide +kernel
theorem dX8_append_26 : decode cX8_append 26 = .ok (.getfield 22, 3) := by decide +kernel
theorem dX8_append_29 : decode cX8_append 29 = .ok (.aload_n 0, 1) := by decide +kernel
theorem dX8_append_30 : decode cX8_append 30 = .ok (.getfield 116, 3) := by decide +kernel
theorem dX8_append_33 : decode cX8_append 33 = .ok (.iload_n 1, 1) := by decide +kernel
theorem dX8_append_34 : decode cX8_append 34 = .ok (.iastore, 1) := by decide +kernel
theorem dX8_append_35 : decode cX8_append 35 = .ok (.aload_n 0, 1) := by decide +kernel
theorem dX8_append_36 : decode cX8_append 36 = .ok (.dup, 1) := by decide +kernel
theorem dX8_append_37 : decode cX8_append 37 = .ok (.getfield 116, 3) := by decide +kernel
theorem dX8_append_40 : decode cX8_append 40 = .ok (.iconst 1, 1) := by decide +kernel
theorem dX8_append_41 : decode cX8_append 41 = .ok (.iadd, 1) := by decide +kernel
theorem dX8_append_42 : decode cX8_append 42 = .ok (.putfield 116, 3) := by decide +kernel
theorem dX8_append_45 : decode cX8_append 45 = .ok (.aload_n 0, 1) := by decide +kernel
theorem dX8_append_46 : decode cX8_append 46 = .ok (.getfield 116, 3) := by decide +kernel
theorem dX8_append_49 : decode cX8_append 49 = .ok (.ireturn, 1) := by decide +kernel
theorem dX8_clear_0 : decode cX8_clear 0 = .ok (.aload_n 0, 1) := by decide +kernel
theorem dX8_clear_1 : decode cX8_clear 1 = .ok (.getfield 116, 3) := by decide +kernel
theorem dX8_clear_4 : decode cX8_clear 4 = .ok (.istore_n 1, 1) := by decide +kernel
theorem dX8_clear_5 : decode cX8_clear 5 = .ok (.aload_n 0, 1) := by decide +kernel
theorem dX8_clear_6 : decode cX8_clear 6 = .ok (.iconst 0, 1) := by decide +kernel
theorem dX8_clear_7 : decode cX8_clear 7 = .ok (.putfield 116, 3) := by decide +kernel
theorem dX8_clear_10 : decode cX8_clear 10 = .ok (.iload_n 1, 1) := by decide +kernel
theorem dX8_clear_11 : decode cX8_clear 11 = .ok (.ireturn, 1) := by decide +kernel
theorem dX8_here_0 : decode cX8_here 0 = .ok (.aload_n 0, 1) := by decide +kernel
theorem dX8_here_1 : decode cX8_here 1 = .ok (.getfield 119, 3) := by decide +kernel
theorem dX8_here_4 : decode cX8_here 4 = .ok (.aload_n 0, 1) := by decide +kernel
theorem dX8_here_5 : decode cX8_here 5 = .ok (.getfield 116, 3) := by decide +kernel
theorem dX8_here_8 : decode cX8_here 8 = .ok (.if_icmp .ge 15, 3) := by decide +kernel
theorem dX8_here_11 : decode cX8_here 11 = .ok (.aload_n 0, 1) := by decide +kernel
theorem dX8_here_12 : decode cX8_here 12 = .ok (.getfield 22, 3) := by decide +kernel
theorem dX8_here_15 : decode cX8_here 15 = .ok (.aload_n 0, 1) := by decide +kernel
theorem dX8_here_16 : decode cX8_here 16 = .ok (.getfield 119, 3) := by decide +kernel
theorem dX8_here_19 : decode cX8_here 19 = .ok (.iaload, 1) := by decide +kernel
theorem dX8_here_20 : decode cX8_here 20 = .ok (.goto 4, 3) := by decide +kernel
theorem dX8_here_23 : decode cX8_here 23 = .ok (.iconst 0, 1) := by decide +kernel
theorem dX8_here_24 : decode cX8_here 24 = .ok (.ireturn, 1) := by decide +kernel
theorem dX8_takes_0 : decode cX8_takes 0 = .ok (.aload_n 0, 1) := by decide +kernel
theorem dX8_takes_1 : decode cX8_takes 1 = .ok (.aload_n 0, 1) := by decide +kernel
theorem dX8_takes_2 : decode cX8_takes 2 = .ok (.getfield 122, 3) := by decide +kernel
theorem dX8_takes_5 : decode cX8_takes 5 = .ok (.ifCond .eq 11, 3) := by decide +kernel
theorem dX8_takes_8 : decode cX8_takes 8 = .ok (.iload_n 1, 1) := by decide +kernel
theorem dX8_takes_9 : decode cX8_takes 9 = .ok (.ifCond .eq 7, 3) := by decide +kernel
theorem dX8_takes_12 : decode cX8_takes 12 = .ok (.iconst 1, 1) := by decide +kernel
theorem dX8_takes_13 : decode cX8_takes 13 = .ok (.goto 4, 3) := by decide +kernel
theorem dX8_takes_16 : decode cX8_takes 16 = .ok (.iconst 0, 1) := by decide +kernel
theorem dX8_takes_17 : decode cX8_takes 17 = .ok (.putfield 122, 3) := by decide +kernel
theorem dX8_takes_20 : decode cX8_takes 20 = .ok (.aload_n 0, 1) := by decide +kernel
theorem dX8_takes_21 : decode cX8_takes 21 = .ok (.dup, 1) := by decide +kernel
theorem dX8_takes_22 : decode cX8_takes 22 = .ok (.getfield 119, 3) := by decide +kernel
theorem dX8_takes_25 : decode cX8_takes 25 = .ok (.aload_n 0, 1) := by decide +kernel
theorem dX8_takes_26 : decode cX8_takes 26 = .ok (.getfield 122, 3) := by decide +kernel
theorem dX8_takes_29 : decode cX8_takes 29 = .ok (.ifCond .eq 7, 3) := by decide +kernel
theorem dX8_takes_32 : decode cX8_takes 32 = .ok (.iconst 1, 1) := by decide +kernel
theorem dX8_takes_33 : decode cX8_takes 33 = .ok (.goto 4, 3) := by decide +kernel
theorem dX8_takes_36 : decode cX8_takes 36 = .ok (.iconst 0, 1) := by decide +kernel
theorem dX8_takes_37 : decode cX8_takes 37 = .ok (.iadd, 1) := by decide +kernel
theorem dX8_takes_38 : decode cX8_takes 38 = .ok (.putfield 119, 3) := by decide +kernel
theorem dX8_takes_41 : decode cX8_takes 41 = .ok (.return_, 1) := by decide +kernel
theorem dX8_takesDigit_0 : decode cX8_takesDigit 0 = .ok (.aload_n 0, 1) := by decide +kernel
theorem dX8_takesDigit_1 : decode cX8_takesDigit 1 = .ok (.invokevirtual 126, 3) := by decide +kernel
theorem dX8_takesDigit_4 : decode cX8_takesDigit 4 = .ok (.bipush 48, 2) := by decide +kernel
theorem dX8_takesDigit_6 : decode cX8_takesDigit 6 = .ok (.isub, 1) := by decide +kernel
theorem dX8_takesDigit_7 : decode cX8_takesDigit 7 = .ok (.istore_n 3, 1) := by decide +kernel
theorem dX8_takesDigit_8 : decode cX8_takesDigit 8 = .ok (.aload_n 0, 1) := by decide +kernel
theorem dX8_takesDigit_9 : decode cX8_takesDigit 9 = .ok (.iload_n 3, 1) := by decide +kernel
theorem dX8_takesDigit_10 : decode cX8_takesDigit 10 = .ok (.iload_n 1, 1) := by decide +kernel
theorem dX8_takesDigit_11 : decode cX8_takesDigit 11 = .ok (.iload_n 2, 1) := by decide +kernel
theorem dX8_takesDigit_12 : decode cX8_takesDigit 12 = .ok (.invokestatic 49, 3) := by decide +kernel
theorem dX8_takesDigit_15 : decode cX8_takesDigit 15 = .ok (.invokevirtual 129, 3) := by decide +kernel
theorem dX8_takesDigit_18 : decode cX8_takesDigit 18 = .ok (.iload_n 3, 1) := by decide +kernel
theorem dX8_takesDigit_19 : decode cX8_takesDigit 19 = .ok (.ireturn, 1) := by decide +kernel
theorem dX8_patternOf_0 : decode cX8_patternOf 0 = .ok (.iload_n 0, 1) := by decide +kernel
theorem dX8_patternOf_1 : decode cX8_patternOf 1 = .ok (.bipush 100, 2) := by decide +kernel
theorem dX8_patternOf_3 : decode cX8_patternOf 3 = .ok (.if_icmp .ne 7, 3) := by decide +kernel
theorem dX8_patternOf_6 : decode cX8_patternOf 6 = .ok (.iconst 0, 1) := by decide +kernel
theorem dX8_patternOf_7 : decode cX8_patternOf 7 = .ok (.goto 55, 3) := by decide +kernel
theorem dX8_patternOf_10 : decode cX8_patternOf 10 = .ok (.iload_n 0, 1) := by decide +kernel
theorem dX8_patternOf_11 : decode cX8_patternOf 11 = .ok (.bipush 108, 2) := by decide +kernel
theorem dX8_patternOf_13 : decode cX8_patternOf 13 = .ok (.if_icmp .ne 7, 3) := by decide +kernel
theorem dX8_patternOf_16 : decode cX8_patternOf 16 = .ok (.iconst 1, 1) := by decide +kernel
theorem dX8_patternOf_17 : decode cX8_patternOf 17 = .ok (.goto 45, 3) := by decide +kernel
theorem dX8_patternOf_20 : decode cX8_patternOf 20 = .ok (.iload_n 0, 1) := by decide +kernel
theorem dX8_patternOf_21 : decode cX8_patternOf 21 = .ok (.bipush 114, 2) := by decide +kernel
theorem dX8_patternOf_23 : decode cX8_patternOf 23 = .ok (.if_icmp .ne 7, 3) := by decide +kernel
theorem dX8_patternOf_26 : decode cX8_patternOf 26 = .ok (.iconst 2, 1) := by decide +kernel
theorem dX8_patternOf_27 : decode cX8_patternOf 27 = .ok (.goto 35, 3) := by decide +kernel
theorem dX8_patternOf_30 : decode cX8_patternOf 30 = .ok (.iload_n 0, 1) := by decide +kernel
theorem dX8_patternOf_31 : decode cX8_patternOf 31 = .ok (.bipush 119, 2) := by decide +kernel
theorem dX8_patternOf_33 : decode cX8_patternOf 33 = .ok (.if_icmp .ne 7, 3) := by decide +kernel
theorem dX8_patternOf_36 : decode cX8_patternOf 36 = .ok (.iconst 3, 1) := by decide +kernel
theorem dX8_patternOf_37 : decode cX8_patternOf 37 = .ok (.goto 25, 3) := by decide +kernel
theorem dX8_patternOf_40 : decode cX8_patternOf 40 = .ok (.iload_n 0, 1) := by decide +kernel
theorem dX8_patternOf_41 : decode cX8_patternOf 41 = .ok (.bipush 97, 2) := by decide +kernel
theorem dX8_patternOf_43 : decode cX8_patternOf 43 = .ok (.if_icmp .ne 7, 3) := by decide +kernel
theorem dX8_patternOf_46 : decode cX8_patternOf 46 = .ok (.iconst 4, 1) := by decide +kernel
theorem dX8_patternOf_47 : decode cX8_patternOf 47 = .ok (.goto 15, 3) := by decide +kernel
theorem dX8_patternOf_50 : decode cX8_patternOf 50 = .ok (.iload_n 0, 1) := by decide +kernel
theorem dX8_patternOf_51 : decode cX8_patternOf 51 = .ok (.bipush 102, 2) := by decide +kernel
theorem dX8_patternOf_53 : decode cX8_patternOf 53 = .ok (.if_icmp .ne 7, 3) := by decide +kernel
theorem dX8_patternOf_56 : decode cX8_patternOf 56 = .ok (.iconst 5, 1) := by decide +kernel
theorem dX8_patternOf_57 : decode cX8_patternOf 57 = .ok (.goto 5, 3) := by decide +kernel
theorem dX8_patternOf_60 : decode cX8_patternOf 60 = .ok (.bipush (-4), 2) := by decide +kernel
theorem dX8_patternOf_62 : decode cX8_patternOf 62 = .ok (.ireturn, 1) := by decide +kernel
theorem dX8_takesEmitter_0 : decode cX8_takesEmitter 0 = .ok (.iconst 4, 1) := by decide +kernel
theorem dX8_takesEmitter_1 : decode cX8_takesEmitter 1 = .ok (.aload_n 0, 1) := by decide +kernel
theorem dX8_takesEmitter_2 : decode cX8_takesEmitter 2 = .ok (.getfield 133, 3) := by decide +kernel
theorem dX8_takesEmitter_5 : decode cX8_takesEmitter 5 = .ok (.imul, 1) := by decide +kernel
theorem dX8_takesEmitter_6 : decode cX8_takesEmitter 6 = .ok (.istore_n 1, 1) := by decide +kernel
theorem dX8_takesEmitter_7 : decode cX8_takesEmitter 7 = .ok (.aload_n 0, 1) := by decide +kernel
theorem dX8_takesEmitter_8 : decode cX8_takesEmitter 8 = .ok (.getfield 29, 3) := by decide +kernel
theorem dX8_takesEmitter_11 : decode cX8_takesEmitter 11 = .ok (.iload_n 1, 1) := by decide +kernel
theorem dX8_takesEmitter_12 : decode cX8_takesEmitter 12 = .ok (.iconst 0, 1) := by decide +kernel
theorem dX8_takesEmitter_13 : decode cX8_takesEmitter 13 = .ok (.iadd, 1) := by decide +kernel
theorem dX8_takesEmitter_14 : decode cX8_takesEmitter 14 = .ok (.aload_n 0, 1) := by decide +kernel
theorem dX8_takesEmitter_15 : decode cX8_takesEmitter 15 = .ok (.iconst 0, 1) := by decide +kernel
theorem dX8_takesEmitter_16 : decode cX8_takesEmitter 16 = .ok (.bipush 9, 2) := by decide +kernel
theorem dX8_takesEmitter_18 : decode cX8_takesEmitter 18 = .ok (.invokevirtual 136, 3) := by decide +kernel
theorem dX8_takesEmitter_21 : decode cX8_takesEmitter 21 = .ok (.iastore, 1) := by decide +kernel
theorem dX8_takesEmitter_22 : decode cX8_takesEmitter 22 = .ok (.aload_n 0, 1) := by decide +kernel
theorem dX8_takesEmitter_23 : decode cX8_takesEmitter 23 = .ok (.getfield 29, 3) := by decide +kernel
theorem dX8_takesEmitter_26 : decode cX8_takesEmitter 26 = .ok (.iload_n 1, 1) := by decide +kernel
theorem dX8_takesEmitter_27 : decode cX8_takesEmitter 27 = .ok (.iconst 1, 1) := by decide +kernel
theorem dX8_takesEmitter_28 : decode cX8_takesEmitter 28 = .ok (.iadd, 1) := by decide +kernel
theorem dX8_takesEmitter_29 : decode cX8_takesEmitter 29 = .ok (.aload_n 0, 1) := by decide +kernel
theorem dX8_takesEmitter_30 : decode cX8_takesEmitter 30 = .ok (.invokevirtual 126, 3) := by decide +kernel
theorem dX8_takesEmitter_33 : decode cX8_takesEmitter 33 = .ok (.invokestatic 139, 3) := by decide +kernel
theorem dX8_takesEmitter_36 : decode cX8_takesEmitter 36 = .ok (.iastore, 1) := by decide +kernel
theorem dX8_takesEmitter_37 : decode cX8_takesEmitter 37 = .ok (.aload_n 0, 1) := by decide +kernel
theorem dX8_takesEmitter_38 : decode cX8_takesEmitter 38 = .ok (.aload_n 0, 1) := by decide +kernel
theorem dX8_takesEmitter_39 : decode cX8_takesEmitter 39 = .ok (.getfield 29, 3) := by decide +kernel
theorem dX8_takesEmitter_42 : decode cX8_takesEmitter 42 = .ok (.iload_n 1, 1) := by decide +kernel
theorem dX8_takesEmitter_43 : decode cX8_takesEmitter 43 = .ok (.iconst 1, 1) := by decide +kernel
theorem dX8_takesEmitter_44 : decode cX8_takesEmitter 44 = .ok (.iadd, 1) := by decide +kernel
theorem dX8_takesEmitter_45 : decode cX8_takesEmitter 45 = .ok (.iaload, 1) := by decide +kernel
theorem dX8_takesEmitter_46 : decode cX8_takesEmitter 46 = .ok (.ifCond .lt 7, 3) := by decide +kernel
theorem dX8_takesEmitter_49 : decode cX8_takesEmitter 49 = .ok (.iconst 1, 1) := by decide +kernel
theorem dX8_takesEmitter_50 : decode cX8_takesEmitter 50 = .ok (.goto 4, 3) := by decide +kernel
theorem dX8_takesEmitter_53 : decode cX8_takesEmitter 53 = .ok (.iconst 0, 1) := by decide +kernel
theorem dX8_takesEmitter_54 : decode cX8_takesEmitter 54 = .ok (.invokevirtual 129, 3) := by decide +kernel
theorem dX8_takesEmitter_57 : decode cX8_takesEmitter 57 = .ok (.aload_n 0, 1) := by decide +kernel
theorem dX8_takesEmitter_58 : decode cX8_takesEmitter 58 = .ok (.getfield 29, 3) := by decide +kernel
theorem dX8_takesEmitter_61 : decode cX8_takesEmitter 61 = .ok (.iload_n 1, 1) := by decide +kernel
theorem dX8_takesEmitter_62 : decode cX8_takesEmitter 62 = .ok (.iconst 2, 1) := by decide +kernel
theorem dX8_takesEmitter_63 : decode cX8_takesEmitter 63 = .ok (.iadd, 1) := by decide +kernel
theorem dX8_takesEmitter_64 : decode cX8_takesEmitter 64 = .ok (.aload_n 0, 1) := by decide +kernel
theorem dX8_takesEmitter_65 : decode cX8_takesEmitter 65 = .ok (.iconst 1, 1) := by decide +kernel
theorem dX8_takesEmitter_66 : decode cX8_takesEmitter 66 = .ok (.bipush 9, 2) := by decide +kernel
theorem dX8_takesEmitter_68 : decode cX8_takesEmitter 68 = .ok (.invokevirtual 136, 3) := by decide +kernel
theorem dX8_takesEmitter_71 : decode cX8_takesEmitter 71 = .ok (.iastore, 1) := by decide +kernel
theorem dX8_takesEmitter_72 : decode cX8_takesEmitter 72 = .ok (.aload_n 0, 1) := by decide +kernel
theorem dX8_takesEmitter_73 : decode cX8_takesEmitter 73 = .ok (.getfield 29, 3) := by decide +kernel
theorem dX8_takesEmitter_76 : decode cX8_takesEmitter 76 = .ok (.iload_n 1, 1) := by decide +kernel
theorem dX8_takesEmitter_77 : decode cX8_takesEmitter 77 = .ok (.iconst 3, 1) := by decide +kernel
theorem dX8_takesEmitter_78 : decode cX8_takesEmitter 78 = .ok (.iadd, 1) := by decide +kernel
theorem dX8_takesEmitter_79 : decode cX8_takesEmitter 79 = .ok (.iconst 0, 1) := by decide +kernel
theorem dX8_takesEmitter_80 : decode cX8_takesEmitter 80 = .ok (.iastore, 1) := by decide +kernel
theorem dX8_takesEmitter_81 : decode cX8_takesEmitter 81 = .ok (.aload_n 0, 1) := by decide +kernel
theorem dX8_takesEmitter_82 : decode cX8_takesEmitter 82 = .ok (.getfield 122, 3) := by decide +kernel
theorem dX8_takesEmitter_85 : decode cX8_takesEmitter 85 = .ok (.ifCond .eq 45, 3) := by decide +kernel
theorem dX8_takesEmitter_88 : decode cX8_takesEmitter 88 = .ok (.aload_n 0, 1) := by decide +kernel
theorem dX8_takesEmitter_89 : decode cX8_takesEmitter 89 = .ok (.invokevirtual 126, 3) := by decide +kernel
theorem dX8_takesEmitter_92 : decode cX8_takesEmitter 92 = .ok (.bipush 43, 2) := by decide +kernel
theorem dX8_takesEmitter_94 : decode cX8_takesEmitter 94 = .ok (.if_icmp .ne 36, 3) := by decide +kernel
theorem dX8_takesEmitter_97 : decode cX8_takesEmitter 97 = .ok (.aload_n 0, 1) := by decide +kernel
theorem dX8_takesEmitter_98 : decode cX8_takesEmitter 98 = .ok (.dup, 1) := by decide +kernel
theorem dX8_takesEmitter_99 : decode cX8_takesEmitter 99 = .ok (.getfield 119, 3) := by decide +kernel
theorem dX8_takesEmitter_102 : decode cX8_takesEmitter 102 = .ok (.iconst 1, 1) := by decide +kernel
theorem dX8_takesEmitter_103 : decode cX8_takesEmitter 103 = .ok (.iadd, 1) := by decide +kernel
theorem dX8_takesEmitter_104 : decode cX8_takesEmitter 104 = .ok (.putfield 119, 3) := by decide +kernel
theorem dX8_takesEmitter_107 : decode cX8_takesEmitter 107 = .ok (.aload_n 0, 1) := by decide +kernel
theorem dX8_takesEmitter_108 : decode cX8_takesEmitter 108 = .ok (.getfield 29, 3) := by decide +kernel
theorem dX8_takesEmitter_111 : decode cX8_takesEmitter 111 = .ok (.iload_n 1, 1) := by decide +kernel
theorem dX8_takesEmitter_112 : decode cX8_takesEmitter 112 = .ok (.iconst 3, 1) := by decide +kernel
theorem dX8_takesEmitter_113 : decode cX8_takesEmitter 113 = .ok (.iadd, 1) := by decide +kernel
theorem dX8_takesEmitter_114 : decode cX8_takesEmitter 114 = .ok (.aload_n 0, 1) := by decide +kernel
theorem dX8_takesEmitter_115 : decode cX8_takesEmitter 115 = .ok (.iconst 0, 1) := by decide +kernel
theorem dX8_takesEmitter_116 : decode cX8_takesEmitter 116 = .ok (.aload_n 0, 1) := by decide +kernel
theorem dX8_takesEmitter_117 : decode cX8_takesEmitter 117 = .ok (.getfield 29, 3) := by decide +kernel
theorem dX8_takesEmitter_120 : decode cX8_takesEmitter 120 = .ok (.iload_n 1, 1) := by decide +kernel
theorem dX8_takesEmitter_121 : decode cX8_takesEmitter 121 = .ok (.iconst 2, 1) := by decide +kernel
theorem dX8_takesEmitter_122 : decode cX8_takesEmitter 122 = .ok (.iadd, 1) := by decide +kernel
theorem dX8_takesEmitter_123 : decode cX8_takesEmitter 123 = .ok (.iaload, 1) := by decide +kernel
theorem dX8_takesEmitter_124 : decode cX8_takesEmitter 124 = .ok (.iconst 1, 1) := by decide +kernel
theorem dX8_takesEmitter_125 : decode cX8_takesEmitter 125 = .ok (.isub, 1) := by decide +kernel
theorem dX8_takesEmitter_126 : decode cX8_takesEmitter 126 = .ok (.invokevirtual 136, 3) := by decide +kernel
theorem dX8_takesEmitter_129 : decode cX8_takesEmitter 129 = .ok (.iastore, 1) := by decide +kernel
theorem dX8_takesEmitter_130 : decode cX8_takesEmitter 130 = .ok (.aload_n 0, 1) := by decide +kernel
theorem dX8_takesEmitter_131 : decode cX8_takesEmitter 131 = .ok (.dup, 1) := by decide +kernel
theorem dX8_takesEmitter_132 : decode cX8_takesEmitter 132 = .ok (.getfield 133, 3) := by decide +kernel
theorem dX8_takesEmitter_135 : decode cX8_takesEmitter 135 = .ok (.iconst 1, 1) := by decide +kernel
theorem dX8_takesEmitter_136 : decode cX8_takesEmitter 136 = .ok (.iadd, 1) := by decide +kernel
theorem dX8_takesEmitter_137 : decode cX8_takesEmitter 137 = .ok (.putfield 133, 3) := by decide +kernel
theorem dX8_takesEmitter_140 : decode cX8_takesEmitter 140 = .ok (.return_, 1) := by decide +kernel
theorem dX8_isCurtain_0 : decode cX8_isCurtain 0 = .ok (.aload_n 0, 1) := by decide +kernel
theorem dX8_isCurtain_1 : decode cX8_isCurtain 1 = .ok (.iconst 0, 1) := by decide +kernel
theorem dX8_isCurtain_2 : decode cX8_isCurtain 2 = .ok (.putfield 119, 3) := by decide +kernel
theorem dX8_isCurtain_5 : decode cX8_isCurtain 5 = .ok (.aload_n 0, 1) := by decide +kernel
theorem dX8_isCurtain_6 : decode cX8_isCurtain 6 = .ok (.iconst 1, 1) := by decide +kernel
theorem dX8_isCurtain_7 : decode cX8_isCurtain 7 = .ok (.putfield 122, 3) := by decide +kernel
theorem dX8_isCurtain_10 : decode cX8_isCurtain 10 = .ok (.aload_n 0, 1) := by decide +kernel
theorem dX8_isCurtain_11 : decode cX8_isCurtain 11 = .ok (.iconst 0, 1) := by decide +kernel
theorem dX8_isCurtain_12 : decode cX8_isCurtain 12 = .ok (.putfield 133, 3) := by decide +kernel
theorem dX8_isCurtain_15 : decode cX8_isCurtain 15 = .ok (.aload_n 0, 1) := by decide +kernel
theorem dX8_isCurtain_16 : decode cX8_isCurtain 16 = .ok (.invokevirtual 142, 3) := by decide +kernel
theorem dX8_isCurtain_19 : decode cX8_isCurtain 19 = .ok (.aload_n 0, 1) := by decide +kernel
theorem dX8_isCurtain_20 : decode cX8_isCurtain 20 = .ok (.getfield 122, 3) := by decide +kernel
theorem dX8_isCurtain_23 : decode cX8_isCurtain 23 = .ok (.ifCond .eq 54, 3) := by decide +kernel
theorem dX8_isCurtain_26 : decode cX8_isCurtain 26 = .ok (.aload_n 0, 1) := by decide +kernel
theorem dX8_isCurtain_27 : decode cX8_isCurtain 27 = .ok (.getfield 119, 3) := by decide +kernel
theorem dX8_isCurtain_30 : decode cX8_isCurtain 30 = .ok (.aload_n 0, 1) := by decide +kernel
theorem dX8_isCurtain_31 : decode cX8_isCurtain 31 = .ok (.getfield 116, 3) := by decide +kernel
theorem dX8_isCurtain_34 : decode cX8_isCurtain 34 = .ok (.if_icmp .ge 43, 3) := by decide +kernel
theorem dX8_isCurtain_37 : decode cX8_isCurtain 37 = .ok (.aload_n 0, 1) := by decide +kernel
theorem dX8_isCurtain_38 : decode cX8_isCurtain 38 = .ok (.aload_n 0, 1) := by decide +kernel
theorem dX8_isCurtain_39 : decode cX8_isCurtain 39 = .ok (.invokevirtual 126, 3) := by decide +kernel
theorem dX8_isCurtain_42 : decode cX8_isCurtain 42 = .ok (.bipush 59, 2) := by decide +kernel
theorem dX8_isCurtain_44 : decode cX8_isCurtain 44 = .ok (.if_icmp .ne 15, 3) := by decide +kernel
theorem dX8_isCurtain_47 : decode cX8_isCurtain 47 = .ok (.aload_n 0, 1) := by decide +kernel
theorem dX8_isCurtain_48 : decode cX8_isCurtain 48 = .ok (.getfield 133, 3) := by decide +kernel
theorem dX8_isCurtain_51 : decode cX8_isCurtain 51 = .ok (.iconst 4, 1) := by decide +kernel
theorem dX8_isCurtain_52 : decode cX8_isCurtain 52 = .ok (.if_icmp .ge 7, 3) := by decide +kernel
theorem dX8_isCurtain_55 : decode cX8_isCurtain 55 = .ok (.iconst 1, 1) := by decide +kernel
theorem dX8_isCurtain_56 : decode cX8_isCurtain 56 = .ok (.goto 4, 3) := by decide +kernel
theorem dX8_isCurtain_59 : decode cX8_isCurtain 59 = .ok (.iconst 0, 1) := by decide +kernel
theorem dX8_isCurtain_60 : decode cX8_isCurtain 60 = .ok (.invokevirtual 129, 3) := by decide +kernel
theorem dX8_isCurtain_63 : decode cX8_isCurtain 63 = .ok (.aload_n 0, 1) := by decide +kernel
theorem dX8_isCurtain_64 : decode cX8_isCurtain 64 = .ok (.getfield 122, 3) := by decide +kernel
theorem dX8_isCurtain_67 : decode cX8_isCurtain 67 = .ok (.ifCond .eq (-48), 3) := by decide +kernel
theorem dX8_isCurtain_70 : decode cX8_isCurtain 70 = .ok (.aload_n 0, 1) := by decide +kernel
theorem dX8_isCurtain_71 : decode cX8_isCurtain 71 = .ok (.invokevirtual 142, 3) := by decide +kernel
theorem dX8_isCurtain_74 : decode cX8_isCurtain 74 = .ok (.goto (-55), 3) := by decide +kernel
theorem dX8_isCurtain_77 : decode cX8_isCurtain 77 = .ok (.aload_n 0, 1) := by decide +kernel
theorem dX8_isCurtain_78 : decode cX8_isCurtain 78 = .ok (.getfield 122, 3) := by decide +kernel
theorem dX8_isCurtain_81 : decode cX8_isCurtain 81 = .ok (.ireturn, 1) := by decide +kernel
theorem dX8_areSteps_0 : decode cX8_areSteps 0 = .ok (.aload_n 0, 1) := by decide +kernel
theorem dX8_areSteps_1 : decode cX8_areSteps 1 = .ok (.iconst 0, 1) := by decide +kernel
theorem dX8_areSteps_2 : decode cX8_areSteps 2 = .ok (.putfield 119, 3) := by decide +kernel
theorem dX8_areSteps_5 : decode cX8_areSteps 5 = .ok (.aload_n 0, 1) := by decide +kernel
theorem dX8_areSteps_6 : decode cX8_areSteps 6 = .ok (.iconst 1, 1) := by decide +kernel
theorem dX8_areSteps_7 : decode cX8_areSteps 7 = .ok (.putfield 122, 3) := by decide +kernel
theorem dX8_areSteps_10 : decode cX8_areSteps 10 = .ok (.aload_n 0, 1) := by decide +kernel
theorem dX8_areSteps_11 : decode cX8_areSteps 11 = .ok (.getfield 122, 3) := by decide +kernel
theorem dX8_areSteps_14 : decode cX8_areSteps 14 = .ok (.ifCond .eq 69, 3) := by decide +kernel
theorem dX8_areSteps_17 : decode cX8_areSteps 17 = .ok (.aload_n 0, 1) := by decide +kernel
theorem dX8_areSteps_18 : decode cX8_areSteps 18 = .ok (.getfield 119, 3) := by decide +kernel
theorem dX8_areSteps_21 : decode cX8_areSteps 21 = .ok (.ifCond .eq 14, 3) := by decide +kernel
theorem dX8_areSteps_24 : decode cX8_areSteps 24 = .ok (.aload_n 0, 1) := by decide +kernel
theorem dX8_areSteps_25 : decode cX8_areSteps 25 = .ok (.getfield 119, 3) := by decide +kernel
theorem dX8_areSteps_28 : decode cX8_areSteps 28 = .ok (.aload_n 0, 1) := by decide +kernel
theorem dX8_areSteps_29 : decode cX8_areSteps 29 = .ok (.getfield 116, 3) := by decide +kernel
theorem dX8_areSteps_32 : decode cX8_areSteps 32 = .ok (.if_icmp .ge 51, 3) := by decide +kernel
theorem dX8_areSteps_35 : decode cX8_areSteps 35 = .ok (.aload_n 0, 1) := by decide +kernel
theorem dX8_areSteps_36 : decode cX8_areSteps 36 = .ok (.aload_n 0, 1) := by decide +kernel
theorem dX8_areSteps_37 : decode cX8_areSteps 37 = .ok (.invokevirtual 126, 3) := by decide +kernel
theorem dX8_areSteps_40 : decode cX8_areSteps 40 = .ok (.bipush 108, 2) := by decide +kernel
theorem dX8_areSteps_42 : decode cX8_areSteps 42 = .ok (.if_icmp .eq 30, 3) := by decide +kernel
theorem dX8_areSteps_45 : decode cX8_areSteps 45 = .ok (.aload_n 0, 1) := by decide +kernel
theorem dX8_areSteps_46 : decode cX8_areSteps 46 = .ok (.invokevirtual 126, 3) := by decide +kernel
theorem dX8_areSteps_49 : decode cX8_areSteps 49 = .ok (.bipush 115, 2) := by decide +kernel
theorem dX8_areSteps_51 : decode cX8_areSteps 51 = .ok (.if_icmp .eq 21, 3) := by decide +kernel
theorem dX8_areSteps_54 : decode cX8_areSteps 54 = .ok (.aload_n 0, 1) := by decide +kernel
theorem dX8_areSteps_55 : decode cX8_areSteps 55 = .ok (.invokevirtual 126, 3) := by decide +kernel
theorem dX8_areSteps_58 : decode cX8_areSteps 58 = .ok (.bipush 114, 2) := by decide +kernel
theorem dX8_areSteps_60 : decode cX8_areSteps 60 = .ok (.if_icmp .eq 12, 3) := by decide +kernel
theorem dX8_areSteps_63 : decode cX8_areSteps 63 = .ok (.aload_n 0, 1) := by decide +kernel
theorem dX8_areSteps_64 : decode cX8_areSteps 64 = .ok (.invokevirtual 126, 3) := by decide +kernel
theorem dX8_areSteps_67 : decode cX8_areSteps 67 = .ok (.bipush 98, 2) := by decide +kernel
theorem dX8_areSteps_69 : decode cX8_areSteps 69 = .ok (.if_icmp .ne 7, 3) := by decide +kernel
theorem dX8_areSteps_72 : decode cX8_areSteps 72 = .ok (.iconst 1, 1) := by decide +kernel
theorem dX8_areSteps_73 : decode cX8_areSteps 73 = .ok (.goto 4, 3) := by decide +kernel
theorem dX8_areSteps_76 : decode cX8_areSteps 76 = .ok (.iconst 0, 1) := by decide +kernel
theorem dX8_areSteps_77 : decode cX8_areSteps 77 = .ok (.invokevirtual 129, 3) := by decide +kernel
theorem dX8_areSteps_80 : decode cX8_areSteps 80 = .ok (.goto (-70), 3) := by decide +kernel
theorem dX8_areSteps_83 : decode cX8_areSteps 83 = .ok (.aload_n 0, 1) := by decide +kernel
theorem dX8_areSteps_84 : decode cX8_areSteps 84 = .ok (.getfield 122, 3) := by decide +kernel
theorem dX8_areSteps_87 : decode cX8_areSteps 87 = .ok (.ireturn, 1) := by decide +kernel
theorem dX8_fault_0 : decode cX8_fault 0 = .ok (.iload_n 1, 1) := by decide +kernel
theorem dX8_fault_1 : decode cX8_fault 1 = .ok (.iconst 0, 1) := by decide +kernel
theorem dX8_fault_2 : decode cX8_fault 2 = .ok (.iconst 1, 1) := by decide +kernel
theorem dX8_fault_3 : decode cX8_fault 3 = .ok (.invokestatic 49, 3) := by decide +kernel
theorem dX8_fault_6 : decode cX8_fault 6 = .ok (.ifCond .ne 5, 3) := by decide +kernel
theorem dX8_fault_9 : decode cX8_fault 9 = .ok (.iconst (-1), 1) := by decide +kernel
theorem dX8_fault_10 : decode cX8_fault 10 = .ok (.ireturn, 1) := by decide +kernel
theorem dX8_fault_11 : decode cX8_fault 11 = .ok (.iload_n 1, 1) := by decide +kernel
theorem dX8_fault_12 : decode cX8_fault 12 = .ok (.ifCond .ne 13, 3) := by decide +kernel
theorem dX8_fault_15 : decode cX8_fault 15 = .ok (.aload_n 0, 1) := by decide +kernel
theorem dX8_fault_16 : decode cX8_fault 16 = .ok (.invokevirtual 145, 3) := by decide +kernel
theorem dX8_fault_19 : decode cX8_fault 19 = .ok (.ifCond .eq 18, 3) := by decide +kernel
theorem dX8_fault_22 : decode cX8_fault 22 = .ok (.goto 10, 3) := by decide +kernel
theorem dX8_fault_25 : decode cX8_fault 25 = .ok (.aload_n 0, 1) := by decide +kernel
theorem dX8_fault_26 : decode cX8_fault 26 = .ok (.invokevirtual 148, 3) := by decide +kernel
theorem dX8_fault_29 : decode cX8_fault 29 = .ok (.ifCond .eq 8, 3) := by decide +kernel
theorem dX8_fault_32 : decode cX8_fault 32 = .ok (.bipush (-4), 2) := by decide +kernel
theorem dX8_fault_34 : decode cX8_fault 34 = .ok (.goto 7, 3) := by decide +kernel
theorem dX8_fault_37 : decode cX8_fault 37 = .ok (.aload_n 0, 1) := by decide +kernel
theorem dX8_fault_38 : decode cX8_fault 38 = .ok (.getfield 119, 3) := by decide +kernel
theorem dX8_fault_41 : decode cX8_fault 41 = .ok (.ireturn, 1) := by decide +kernel
theorem dX8_hang_0 : decode cX8_hang 0 = .ok (.aload_n 0, 1) := by decide +kernel
theorem dX8_hang_1 : decode cX8_hang 1 = .ok (.invokevirtual 145, 3) := by decide +kernel
theorem dX8_hang_4 : decode cX8_hang 4 = .ok (.ifCond .ne 6, 3) := by decide +kernel
theorem dX8_hang_7 : decode cX8_hang 7 = .ok (.bipush (-2), 2) := by decide +kernel
theorem dX8_hang_9 : decode cX8_hang 9 = .ok (.ireturn, 1) := by decide +kernel
theorem dX8_hang_10 : decode cX8_hang 10 = .ok (.aload_n 0, 1) := by decide +kernel
theorem dX8_hang_11 : decode cX8_hang 11 = .ok (.invokevirtual 90, 3) := by decide +kernel
theorem dX8_hang_14 : decode cX8_hang 14 = .ok (.bipush 17, 2) := by decide +kernel
theorem dX8_hang_16 : decode cX8_hang 16 = .ok (.istore_n 1, 1) := by decide +kernel
theorem dX8_hang_17 : decode cX8_hang 17 = .ok (.iload_n 1, 1) := by decide +kernel
theorem dX8_hang_18 : decode cX8_hang 18 = .ok (.bipush 33, 2) := by decide +kernel
theorem dX8_hang_20 : decode cX8_hang 20 = .ok (.if_icmp .ge 16, 3) := by decide +kernel
theorem dX8_hang_23 : decode cX8_hang 23 = .ok (.aload_n 0, 1) := by decide +kernel
theorem dX8_hang_24 : decode cX8_hang 24 = .ok (.getfield 7, 3) := by decide +kernel
theorem dX8_hang_27 : decode cX8_hang 27 = .ok (.iload_n 1, 1) := by decide +kernel
theorem dX8_hang_28 : decode cX8_hang 28 = .ok (.iconst 0, 1) := by decide +kernel
theorem dX8_hang_29 : decode cX8_hang 29 = .ok (.iastore, 1) := by decide +kernel
theorem dX8_hang_30 : decode cX8_hang 30 = .ok (.iinc 1 1, 3) := by decide +kernel
theorem dX8_hang_33 : decode cX8_hang 33 = .ok (.goto (-16), 3) := by decide +kernel
theorem dX8_hang_36 : decode cX8_hang 36 = .ok (.aload_n 0, 1) := by decide +kernel
theorem dX8_hang_37 : decode cX8_hang 37 = .ok (.getfield 7, 3) := by decide +kernel
theorem dX8_hang_40 : decode cX8_hang 40 = .ok (.iconst 0, 1) := by decide +kernel
theorem dX8_hang_41 : decode cX8_hang 41 = .ok (.iconst 0, 1) := by decide +kernel
theorem dX8_hang_42 : decode cX8_hang 42 = .ok (.iastore, 1) := by decide +kernel
theorem dX8_hang_43 : decode cX8_hang 43 = .ok (.iconst 0, 1) := by decide +kernel
theorem dX8_hang_44 : decode cX8_hang 44 = .ok (.istore_n 1, 1) := by decide +kernel
theorem dX8_hang_45 : decode cX8_hang 45 = .ok (.iload_n 1, 1) := by decide +kernel
theorem dX8_hang_46 : decode cX8_hang 46 = .ok (.aload_n 0, 1) := by decide +kernel
theorem dX8_hang_47 : decode cX8_hang 47 = .ok (.getfield 133, 3) := by decide +kernel
theorem dX8_hang_50 : decode cX8_hang 50 = .ok (.if_icmp .ge 51, 3) := by decide +kernel
theorem dX8_hang_53 : decode cX8_hang 53 = .ok (.aload_n 0, 1) := by decide +kernel
theorem dX8_hang_54 : decode cX8_hang 54 = .ok (.aload_n 0, 1) := by decide +kernel
theorem dX8_hang_55 : decode cX8_hang 55 = .ok (.getfield 29, 3) := by decide +kernel
theorem dX8_hang_58 : decode cX8_hang 58 = .ok (.iconst 4, 1) := by decide +kernel
theorem dX8_hang_59 : decode cX8_hang 59 = .ok (.iload_n 1, 1) := by decide +kernel
theorem dX8_hang_60 : decode cX8_hang 60 = .ok (.imul, 1) := by decide +kernel
theorem dX8_hang_61 : decode cX8_hang 61 = .ok (.iaload, 1) := by decide +kernel
theorem dX8_hang_62 : decode cX8_hang 62 = .ok (.aload_n 0, 1) := by decide +kernel
theorem dX8_hang_63 : decode cX8_hang 63 = .ok (.getfield 29, 3) := by decide +kernel
theorem dX8_hang_66 : decode cX8_hang 66 = .ok (.iconst 4, 1) := by decide +kernel
theorem dX8_hang_67 : decode cX8_hang 67 = .ok (.iload_n 1, 1) := by decide +kernel
theorem dX8_hang_68 : decode cX8_hang 68 = .ok (.imul, 1) := by decide +kernel
theorem dX8_hang_69 : decode cX8_hang 69 = .ok (.iconst 1, 1) := by decide +kernel
theorem dX8_hang_70 : decode cX8_hang 70 = .ok (.iadd, 1) := by decide +kernel
theorem dX8_hang_71 : decode cX8_hang 71 = .ok (.iaload, 1) := by decide +kernel
theorem dX8_hang_72 : decode cX8_hang 72 = .ok (.aload_n 0, 1) := by decide +kernel
theorem dX8_hang_73 : decode cX8_hang 73 = .ok (.getfield 29, 3) := by decide +kernel
theorem dX8_hang_76 : decode cX8_hang 76 = .ok (.iconst 4, 1) := by decide +kernel
theorem dX8_hang_77 : decode cX8_hang 77 = .ok (.iload_n 1, 1) := by decide +kernel
theorem dX8_hang_78 : decode cX8_hang 78 = .ok (.imul, 1) := by decide +kernel
theorem dX8_hang_79 : decode cX8_hang 79 = .ok (.iconst 2, 1) := by decide +kernel
theorem dX8_hang_80 : decode cX8_hang 80 = .ok (.iadd, 1) := by decide +kernel
theorem dX8_hang_81 : decode cX8_hang 81 = .ok (.iaload, 1) := by decide +kernel
theorem dX8_hang_82 : decode cX8_hang 82 = .ok (.aload_n 0, 1) := by decide +kernel
theorem dX8_hang_83 : decode cX8_hang 83 = .ok (.getfield 29, 3) := by decide +kernel
theorem dX8_hang_86 : decode cX8_hang 86 = .ok (.iconst 4, 1) := by decide +kernel
theorem dX8_hang_87 : decode cX8_hang 87 = .ok (.iload_n 1, 1) := by decide +kernel
theorem dX8_hang_88 : decode cX8_hang 88 = .ok (.imul, 1) := by decide +kernel
theorem dX8_hang_89 : decode cX8_hang 89 = .ok (.iconst 3, 1) := by decide +kernel
theorem dX8_hang_90 : decode cX8_hang 90 = .ok (.iadd, 1) := by decide +kernel
theorem dX8_hang_91 : decode cX8_hang 91 = .ok (.iaload, 1) := by decide +kernel
theorem dX8_hang_92 : decode cX8_hang 92 = .ok (.invokevirtual 93, 3) := by decide +kernel
theorem dX8_hang_95 : decode cX8_hang 95 = .ok (.iinc 1 1, 3) := by decide +kernel
theorem dX8_hang_98 : decode cX8_hang 98 = .ok (.goto (-53), 3) := by decide +kernel
theorem dX8_hang_101 : decode cX8_hang 101 = .ok (.aload_n 0, 1) := by decide +kernel
theorem dX8_hang_102 : decode cX8_hang 102 = .ok (.iconst 0, 1) := by decide +kernel
theorem dX8_hang_103 : decode cX8_hang 103 = .ok (.putfield 116, 3) := by decide +kernel
theorem dX8_hang_106 : decode cX8_hang 106 = .ok (.aload_n 0, 1) := by decide +kernel
theorem dX8_hang_107 : decode cX8_hang 107 = .ok (.getfield 7, 3) := by decide +kernel
theorem dX8_hang_110 : decode cX8_hang 110 = .ok (.iconst 0, 1) := by decide +kernel
theorem dX8_hang_111 : decode cX8_hang 111 = .ok (.iaload, 1) := by decide +kernel
theorem dX8_hang_112 : decode cX8_hang 112 = .ok (.ireturn, 1) := by decide +kernel
theorem dX8_play_0 : decode cX8_play 0 = .ok (.aload_n 0, 1) := by decide +kernel
theorem dX8_play_1 : decode cX8_play 1 = .ok (.invokevirtual 148, 3) := by decide +kernel
theorem dX8_play_4 : decode cX8_play 4 = .ok (.ifCond .ne 6, 3) := by decide +kernel
theorem dX8_play_7 : decode cX8_play 7 = .ok (.bipush (-2), 2) := by decide +kernel
theorem dX8_play_9 : decode cX8_play 9 = .ok (.ireturn, 1) := by decide +kernel
theorem dX8_play_10 : decode cX8_play 10 = .ok (.aload_n 0, 1) := by decide +kernel
theorem dX8_play_11 : decode cX8_play 11 = .ok (.invokevirtual 90, 3) := by decide +kernel
theorem dX8_play_14 : decode cX8_play 14 = .ok (.iconst 0, 1) := by decide +kernel
theorem dX8_play_15 : decode cX8_play 15 = .ok (.istore_n 1, 1) := by decide +kernel
theorem dX8_play_16 : decode cX8_play 16 = .ok (.iconst 1, 1) := by decide +kernel
theorem dX8_play_17 : decode cX8_play 17 = .ok (.istore_n 2, 1) := by decide +kernel
theorem dX8_play_18 : decode cX8_play 18 = .ok (.iconst 0, 1) := by decide +kernel
theorem dX8_play_19 : decode cX8_play 19 = .ok (.istore_n 3, 1) := by decide +kernel
theorem dX8_play_20 : decode cX8_play 20 = .ok (.iload_n 3, 1) := by decide +kernel
theorem dX8_play_21 : decode cX8_play 21 = .ok (.aload_n 0, 1) := by decide +kernel
theorem dX8_play_22 : decode cX8_play 22 = .ok (.getfield 116, 3) := by decide +kernel
theorem dX8_play_25 : decode cX8_play 25 = .ok (.if_icmp .ge 109, 3) := by decide +kernel
theorem dX8_play_28 : decode cX8_play 28 = .ok (.iload_n 2, 1) := by decide +kernel
theorem dX8_play_29 : decode cX8_play 29 = .ok (.ifCond .eq 105, 3) := by decide +kernel
theorem dX8_play_32 : decode cX8_play 32 = .ok (.aload_n 0, 1) := by decide +kernel
theorem dX8_play_33 : decode cX8_play 33 = .ok (.getfield 22, 3) := by decide +kernel
theorem dX8_play_36 : decode cX8_play 36 = .ok (.iload_n 3, 1) := by decide +kernel
theorem dX8_play_37 : decode cX8_play 37 = .ok (.iaload, 1) := by decide +kernel
theorem dX8_play_38 : decode cX8_play 38 = .ok (.bipush 98, 2) := by decide +kernel
theorem dX8_play_40 : decode cX8_play 40 = .ok (.if_icmp .ne 10, 3) := by decide +kernel
theorem dX8_play_43 : decode cX8_play 43 = .ok (.aload_n 0, 1) := by decide +kernel
theorem dX8_play_44 : decode cX8_play 44 = .ok (.invokevirtual 109, 3) := by decide +kernel
theorem dX8_play_47 : decode cX8_play 47 = .ok (.goto 18, 3) := by decide +kernel
theorem dX8_play_50 : decode cX8_play 50 = .ok (.aload_n 0, 1) := by decide +kernel
theorem dX8_play_51 : decode cX8_play 51 = .ok (.getfield 7, 3) := by decide +kernel
theorem dX8_play_54 : decode cX8_play 54 = .ok (.bipush 6, 2) := by decide +kernel
theorem dX8_play_56 : decode cX8_play 56 = .ok (.iaload, 1) := by decide +kernel
theorem dX8_play_57 : decode cX8_play 57 = .ok (.ifCond .ne 7, 3) := by decide +kernel
theorem dX8_play_60 : decode cX8_play 60 = .ok (.iconst 1, 1) := by decide +kernel
theorem dX8_play_61 : decode cX8_play 61 = .ok (.goto 4, 3) := by decide +kernel
theorem dX8_play_64 : decode cX8_play 64 = .ok (.iconst 0, 1) := by decide +kernel
theorem dX8_play_65 : decode cX8_play 65 = .ok (.istore_n 2, 1) := by decide +kernel
theorem dX8_play_66 : decode cX8_play 66 = .ok (.iload_n 2, 1) := by decide +kernel
theorem dX8_play_67 : decode cX8_play 67 = .ok (.ifCond .eq 61, 3) := by decide +kernel
theorem dX8_play_70 : decode cX8_play 70 = .ok (.aload_n 0, 1) := by decide +kernel
theorem dX8_play_71 : decode cX8_play 71 = .ok (.getfield 22, 3) := by decide +kernel
theorem dX8_play_74 : decode cX8_play 74 = .ok (.iload_n 3, 1) := by decide +kernel
theorem dX8_play_75 : decode cX8_play 75 = .ok (.iaload, 1) := by decide +kernel
theorem dX8_play_76 : decode cX8_play 76 = .ok (.bipush 98, 2) := by decide +kernel
theorem dX8_play_78 : decode cX8_play 78 = .ok (.if_icmp .ne 10, 3) := by decide +kernel
theorem dX8_play_81 : decode cX8_play 81 = .ok (.aload_n 0, 1) := by decide +kernel
theorem dX8_play_82 : decode cX8_play 82 = .ok (.invokevirtual 113, 3) := by decide +kernel
theorem dX8_play_85 : decode cX8_play 85 = .ok (.goto 38, 3) := by decide +kernel
theorem dX8_play_88 : decode cX8_play 88 = .ok (.aload_n 0, 1) := by decide +kernel
theorem dX8_play_89 : decode cX8_play 89 = .ok (.aload_n 0, 1) := by decide +kernel
theorem dX8_play_90 : decode cX8_play 90 = .ok (.getfield 22, 3) := by decide +kernel
theorem dX8_play_93 : decode cX8_play 93 = .ok (.iload_n 3, 1) := by decide +kernel
theorem dX8_play_94 : decode cX8_play 94 = .ok (.iaload, 1) := by decide +kernel
theorem dX8_play_95 : decode cX8_play 95 = .ok (.bipush 108, 2) := by decide +kernel
theorem dX8_play_97 : decode cX8_play 97 = .ok (.if_icmp .ne 7, 3) := by decide +kernel
theorem dX8_play_100 : decode cX8_play 100 = .ok (.iconst (-1), 1) := by decide +kernel
theorem dX8_play_101 : decode cX8_play 101 = .ok (.goto 19, 3) := by decide +kernel
theorem dX8_play_104 : decode cX8_play 104 = .ok (.aload_n 0, 1) := by decide +kernel
theorem dX8_play_105 : decode cX8_play 105 = .ok (.getfield 22, 3) := by decide +kernel
theorem dX8_play_108 : decode cX8_play 108 = .ok (.iload_n 3, 1) := by decide +kernel
theorem dX8_play_109 : decode cX8_play 109 = .ok (.iaload, 1) := by decide +kernel
theorem dX8_play_110 : decode cX8_play 110 = .ok (.bipush 114, 2) := by decide +kernel
theorem dX8_play_112 : decode cX8_play 112 = .ok (.if_icmp .ne 7, 3) := by decide +kernel
theorem dX8_play_115 : decode cX8_play 115 = .ok (.iconst 1, 1) := by decide +kernel
theorem dX8_play_116 : decode cX8_play 116 = .ok (.goto 4, 3) := by decide +kernel
theorem dX8_play_119 : decode cX8_play 119 = .ok (.iconst 0, 1) := by decide +kernel
theorem dX8_play_120 : decode cX8_play 120 = .ok (.invokevirtual 105, 3) := by decide +kernel
theorem dX8_play_123 : decode cX8_play 123 = .ok (.istore 4, 2) := by decide +kernel
theorem dX8_play_125 : decode cX8_play 125 = .ok (.iinc 1 1, 3) := by decide +kernel
theorem dX8_play_128 : decode cX8_play 128 = .ok (.iinc 3 1, 3) := by decide +kernel
theorem dX8_play_131 : decode cX8_play 131 = .ok (.goto (-111), 3) := by decide +kernel
theorem dX8_play_134 : decode cX8_play 134 = .ok (.aload_n 0, 1) := by decide +kernel
theorem dX8_play_135 : decode cX8_play 135 = .ok (.iconst 0, 1) := by decide +kernel
theorem dX8_play_136 : decode cX8_play 136 = .ok (.putfield 116, 3) := by decide +kernel
theorem dX8_play_139 : decode cX8_play 139 = .ok (.iload_n 1, 1) := by decide +kernel
theorem dX8_play_140 : decode cX8_play 140 = .ok (.ireturn, 1) := by decide +kernel
theorem dX8_emitterOf_0 : decode cX8_emitterOf 0 = .ok (.aload_n 0, 1) := by decide +kernel
theorem dX8_emitterOf_1 : decode cX8_emitterOf 1 = .ok (.iload_n 1, 1) := by decide +kernel
theorem dX8_emitterOf_2 : decode cX8_emitterOf 2 = .ok (.invokevirtual 97, 3) := by decide +kernel
theorem dX8_emitterOf_5 : decode cX8_emitterOf 5 = .ok (.ifCond .eq 12, 3) := by decide +kernel
theorem dX8_emitterOf_8 : decode cX8_emitterOf 8 = .ok (.iload_n 2, 1) := by decide +kernel
theorem dX8_emitterOf_9 : decode cX8_emitterOf 9 = .ok (.iconst 0, 1) := by decide +kernel
theorem dX8_emitterOf_10 : decode cX8_emitterOf 10 = .ok (.iconst 4, 1) := by decide +kernel
theorem dX8_emitterOf_11 : decode cX8_emitterOf 11 = .ok (.invokestatic 49, 3) := by decide +kernel
theorem dX8_emitterOf_14 : decode cX8_emitterOf 14 = .ok (.ifCond .ne 5, 3) := by decide +kernel
theorem dX8_emitterOf_17 : decode cX8_emitterOf 17 = .ok (.iconst (-1), 1) := by decide +kernel
theorem dX8_emitterOf_18 : decode cX8_emitterOf 18 = .ok (.ireturn, 1) := by decide +kernel
theorem dX8_emitterOf_19 : decode cX8_emitterOf 19 = .ok (.iload_n 2, 1) := by decide +kernel
theorem dX8_emitterOf_20 : decode cX8_emitterOf 20 = .ok (.iconst 4, 1) := by decide +kernel
theorem dX8_emitterOf_21 : decode cX8_emitterOf 21 = .ok (.if_icmp .ge 10, 3) := by decide +kernel
theorem dX8_emitterOf_24 : decode cX8_emitterOf 24 = .ok (.aload_n 0, 1) := by decide +kernel
theorem dX8_emitterOf_25 : decode cX8_emitterOf 25 = .ok (.iload_n 1, 1) := by decide +kernel
theorem dX8_emitterOf_26 : decode cX8_emitterOf 26 = .ok (.iload_n 2, 1) := by decide +kernel
theorem dX8_emitterOf_27 : decode cX8_emitterOf 27 = .ok (.invokevirtual 71, 3) := by decide +kernel
theorem dX8_emitterOf_30 : decode cX8_emitterOf 30 = .ok (.ireturn, 1) := by decide +kernel
theorem dX8_emitterOf_31 : decode cX8_emitterOf 31 = .ok (.iconst 1, 1) := by decide +kernel
theorem dX8_emitterOf_32 : decode cX8_emitterOf 32 = .ok (.istore_n 3, 1) := by decide +kernel
theorem dX8_emitterOf_33 : decode cX8_emitterOf 33 = .ok (.aload_n 0, 1) := by decide +kernel
theorem dX8_emitterOf_34 : decode cX8_emitterOf 34 = .ok (.getfield 7, 3) := by decide +kernel
theorem dX8_emitterOf_37 : decode cX8_emitterOf 37 = .ok (.iconst 5, 1) := by decide +kernel
theorem dX8_emitterOf_38 : decode cX8_emitterOf 38 = .ok (.iaload, 1) := by decide +kernel
theorem dX8_emitterOf_39 : decode cX8_emitterOf 39 = .ok (.iload_n 3, 1) := by decide +kernel
theorem dX8_emitterOf_40 : decode cX8_emitterOf 40 = .ok (.iadd, 1) := by decide +kernel
theorem dX8_emitterOf_41 : decode cX8_emitterOf 41 = .ok (.aload_n 0, 1) := by decide +kernel
theorem dX8_emitterOf_42 : decode cX8_emitterOf 42 = .ok (.iload_n 1, 1) := by decide +kernel
theorem dX8_emitterOf_43 : decode cX8_emitterOf 43 = .ok (.iconst 2, 1) := by decide +kernel
theorem dX8_emitterOf_44 : decode cX8_emitterOf 44 = .ok (.invokevirtual 71, 3) := by decide +kernel
theorem dX8_emitterOf_47 : decode cX8_emitterOf 47 = .ok (.irem, 1) := by decide +kernel
theorem dX8_emitterOf_48 : decode cX8_emitterOf 48 = .ok (.aload_n 0, 1) := by decide +kernel
theorem dX8_emitterOf_49 : decode cX8_emitterOf 49 = .ok (.iload_n 1, 1) := by decide +kernel
theorem dX8_emitterOf_50 : decode cX8_emitterOf 50 = .ok (.iconst 3, 1) := by decide +kernel
theorem dX8_emitterOf_51 : decode cX8_emitterOf 51 = .ok (.invokevirtual 71, 3) := by decide +kernel
theorem dX8_emitterOf_54 : decode cX8_emitterOf 54 = .ok (.if_icmp .eq 9, 3) := by decide +kernel
theorem dX8_emitterOf_57 : decode cX8_emitterOf 57 = .ok (.iinc 3 1, 3) := by decide +kernel
theorem dX8_emitterOf_60 : decode cX8_emitterOf 60 = .ok (.goto (-27), 3) := by decide +kernel
theorem dX8_emitterOf_63 : decode cX8_emitterOf 63 = .ok (.iload_n 3, 1) := by decide +kernel
theorem dX8_emitterOf_64 : decode cX8_emitterOf 64 = .ok (.ireturn, 1) := by decide +kernel
theorem dX8_bullet_0 : decode cX8_bullet 0 = .ok (.iload_n 1, 1) := by decide +kernel
theorem dX8_bullet_1 : decode cX8_bullet 1 = .ok (.iconst 0, 1) := by decide +kernel
theorem dX8_bullet_2 : decode cX8_bullet 2 = .ok (.aload_n 0, 1) := by decide +kernel
theorem dX8_bullet_3 : decode cX8_bullet 3 = .ok (.getfield 7, 3) := by decide +kernel
theorem dX8_bullet_6 : decode cX8_bullet 6 = .ok (.iconst 1, 1) := by decide +kernel
theorem dX8_bullet_7 : decode cX8_bullet 7 = .ok (.iaload, 1) := by decide +kernel
theorem dX8_bullet_8 : decode cX8_bullet 8 = .ok (.iconst 1, 1) := by decide +kernel
theorem dX8_bullet_9 : decode cX8_bullet 9 = .ok (.isub, 1) := by decide +kernel
theorem dX8_bullet_10 : decode cX8_bullet 10 = .ok (.invokestatic 49, 3) := by decide +kernel
theorem dX8_bullet_13 : decode cX8_bullet 13 = .ok (.ifCond .eq 21, 3) := by decide +kernel
theorem dX8_bullet_16 : decode cX8_bullet 16 = .ok (.iload_n 2, 1) := by decide +kernel
theorem dX8_bullet_17 : decode cX8_bullet 17 = .ok (.iconst 0, 1) := by decide +kernel
theorem dX8_bullet_18 : decode cX8_bullet 18 = .ok (.iconst 4, 1) := by decide +kernel
theorem dX8_bullet_19 : decode cX8_bullet 19 = .ok (.invokestatic 49, 3) := by decide +kernel
theorem dX8_bullet_22 : decode cX8_bullet 22 = .ok (.ifCond .eq 12, 3) := by decide +kernel
theorem dX8_bullet_25 : decode cX8_bullet 25 = .ok (.aload_n 0, 1) := by decide +kernel
theorem dX8_bullet_26 : decode cX8_bullet 26 = .ok (.iload_n 1, 1) := by decide +kernel
theorem dX8_bullet_27 : decode cX8_bullet 27 = .ok (.iload_n 2, 1) := by decide +kernel
theorem dX8_bullet_28 : decode cX8_bullet 28 = .ok (.invokevirtual 53, 3) := by decide +kernel
theorem dX8_bullet_31 : decode cX8_bullet 31 = .ok (.goto 4, 3) := by decide +kernel
theorem dX8_bullet_34 : decode cX8_bullet 34 = .ok (.iconst (-1), 1) := by decide +kernel
theorem dX8_bullet_35 : decode cX8_bullet 35 = .ok (.ireturn, 1) := by decide +kernel
theorem dX8_bulletsAt_0 : decode cX8_bulletsAt 0 = .ok (.iconst 0, 1) := by decide +kernel
theorem dX8_bulletsAt_1 : decode cX8_bulletsAt 1 = .ok (.istore_n 3, 1) := by decide +kernel
theorem dX8_bulletsAt_2 : decode cX8_bulletsAt 2 = .ok (.iconst 0, 1) := by decide +kernel
theorem dX8_bulletsAt_3 : decode cX8_bulletsAt 3 = .ok (.istore 4, 2) := by decide +kernel
theorem dX8_bulletsAt_5 : decode cX8_bulletsAt 5 = .ok (.iload 4, 2) := by decide +kernel
theorem dX8_bulletsAt_7 : decode cX8_bulletsAt 7 = .ok (.aload_n 0, 1) := by decide +kernel
theorem dX8_bulletsAt_8 : decode cX8_bulletsAt 8 = .ok (.getfield 7, 3) := by decide +kernel
theorem dX8_bulletsAt_11 : decode cX8_bulletsAt 11 = .ok (.iconst 1, 1) := by decide +kernel
theorem dX8_bulletsAt_12 : decode cX8_bulletsAt 12 = .ok (.iaload, 1) := by decide +kernel
theorem dX8_bulletsAt_13 : decode cX8_bulletsAt 13 = .ok (.if_icmp .ge 28, 3) := by decide +kernel
theorem dX8_bulletsAt_16 : decode cX8_bulletsAt 16 = .ok (.iload_n 3, 1) := by decide +kernel
theorem dX8_bulletsAt_17 : decode cX8_bulletsAt 17 = .ok (.aload_n 0, 1) := by decide +kernel
theorem dX8_bulletsAt_18 : decode cX8_bulletsAt 18 = .ok (.iload 4, 2) := by decide +kernel
theorem dX8_bulletsAt_20 : decode cX8_bulletsAt 20 = .ok (.iload_n 1, 1) := by decide +kernel
theorem dX8_bulletsAt_21 : decode cX8_bulletsAt 21 = .ok (.iload_n 2, 1) := by decide +kernel
theorem dX8_bulletsAt_22 : decode cX8_bulletsAt 22 = .ok (.invokevirtual 78, 3) := by decide +kernel
theorem dX8_bulletsAt_25 : decode cX8_bulletsAt 25 = .ok (.ifCond .eq 7, 3) := by decide +kernel
theorem dX8_bulletsAt_28 : decode cX8_bulletsAt 28 = .ok (.iconst 1, 1) := by decide +kernel
theorem dX8_bulletsAt_29 : decode cX8_bulletsAt 29 = .ok (.goto 4, 3) := by decide +kernel
theorem dX8_bulletsAt_32 : decode cX8_bulletsAt 32 = .ok (.iconst 0, 1) := by decide +kernel
theorem dX8_bulletsAt_33 : decode cX8_bulletsAt 33 = .ok (.iadd, 1) := by decide +kernel
theorem dX8_bulletsAt_34 : decode cX8_bulletsAt 34 = .ok (.istore_n 3, 1) := by decide +kernel
theorem dX8_bulletsAt_35 : decode cX8_bulletsAt 35 = .ok (.iinc 4 1, 3) := by decide +kernel
theorem dX8_bulletsAt_38 : decode cX8_bulletsAt 38 = .ok (.goto (-33), 3) := by decide +kernel
theorem dX8_bulletsAt_41 : decode cX8_bulletsAt 41 = .ok (.iload_n 3, 1) := by decide +kernel
theorem dX8_bulletsAt_42 : decode cX8_bulletsAt 42 = .ok (.ireturn, 1) := by decide +kernel
theorem dX8_at_0 : decode cX8_at 0 = .ok (.iload_n 1, 1) := by decide +kernel
theorem dX8_at_1 : decode cX8_at 1 = .ok (.iconst 0, 1) := by decide +kernel
theorem dX8_at_2 : decode cX8_at 2 = .ok (.bipush 11, 2) := by decide +kernel
theorem dX8_at_4 : decode cX8_at 4 = .ok (.invokestatic 49, 3) := by decide +kernel
theorem dX8_at_7 : decode cX8_at 7 = .ok (.ifCond .eq 22, 3) := by decide +kernel
theorem dX8_at_10 : decode cX8_at 10 = .ok (.iload_n 2, 1) := by decide +kernel
theorem dX8_at_11 : decode cX8_at 11 = .ok (.iconst 0, 1) := by decide +kernel
theorem dX8_at_12 : decode cX8_at 12 = .ok (.bipush 9, 2) := by decide +kernel
theorem dX8_at_14 : decode cX8_at 14 = .ok (.invokestatic 49, 3) := by decide +kernel
theorem dX8_at_17 : decode cX8_at 17 = .ok (.ifCond .eq 12, 3) := by decide +kernel
theorem dX8_at_20 : decode cX8_at 20 = .ok (.aload_n 0, 1) := by decide +kernel
theorem dX8_at_21 : decode cX8_at 21 = .ok (.iload_n 1, 1) := by decide +kernel
theorem dX8_at_22 : decode cX8_at 22 = .ok (.iload_n 2, 1) := by decide +kernel
theorem dX8_at_23 : decode cX8_at 23 = .ok (.invokevirtual 151, 3) := by decide +kernel
theorem dX8_at_26 : decode cX8_at 26 = .ok (.goto 4, 3) := by decide +kernel
theorem dX8_at_29 : decode cX8_at 29 = .ok (.iconst (-1), 1) := by decide +kernel
theorem dX8_at_30 : decode cX8_at 30 = .ok (.ireturn, 1) := by decide +kernel
theorem dX8_count_0 : decode cX8_count 0 = .ok (.iload_n 1, 1) := by decide +kernel
theorem dX8_count_1 : decode cX8_count 1 = .ok (.iconst 0, 1) := by decide +kernel
theorem dX8_count_2 : decode cX8_count 2 = .ok (.bipush 16, 2) := by decide +kernel
theorem dX8_count_4 : decode cX8_count 4 = .ok (.invokestatic 49, 3) := by decide +kernel
theorem dX8_count_7 : decode cX8_count 7 = .ok (.ifCond .eq 12, 3) := by decide +kernel
theorem dX8_count_10 : decode cX8_count 10 = .ok (.aload_n 0, 1) := by decide +kernel
theorem dX8_count_11 : decode cX8_count 11 = .ok (.getfield 7, 3) := by decide +kernel
theorem dX8_count_14 : decode cX8_count 14 = .ok (.iload_n 1, 1) := by decide +kernel
theorem dX8_count_15 : decode cX8_count 15 = .ok (.iaload, 1) := by decide +kernel
theorem dX8_count_16 : decode cX8_count 16 = .ok (.goto 30, 3) := by decide +kernel
theorem dX8_count_19 : decode cX8_count 19 = .ok (.iload_n 1, 1) := by decide +kernel
theorem dX8_count_20 : decode cX8_count 20 = .ok (.bipush 17, 2) := by decide +kernel
theorem dX8_count_22 : decode cX8_count 22 = .ok (.if_icmp .ne 10, 3) := by decide +kernel
theorem dX8_count_25 : decode cX8_count 25 = .ok (.aload_n 0, 1) := by decide +kernel
theorem dX8_count_26 : decode cX8_count 26 = .ok (.getfield 116, 3) := by decide +kernel
theorem dX8_count_29 : decode cX8_count 29 = .ok (.goto 17, 3) := by decide +kernel
theorem dX8_count_32 : decode cX8_count 32 = .ok (.iload_n 1, 1) := by decide +kernel
theorem dX8_count_33 : decode cX8_count 33 = .ok (.bipush 18, 2) := by decide +kernel
theorem dX8_count_35 : decode cX8_count 35 = .ok (.if_icmp .ne 10, 3) := by decide +kernel
theorem dX8_count_38 : decode cX8_count 38 = .ok (.aload_n 0, 1) := by decide +kernel
theorem dX8_count_39 : decode cX8_count 39 = .ok (.getfield 41, 3) := by decide +kernel
theorem dX8_count_42 : decode cX8_count 42 = .ok (.goto 4, 3) := by decide +kernel
theorem dX8_count_45 : decode cX8_count 45 = .ok (.iconst (-1), 1) := by decide +kernel
theorem dX8_count_46 : decode cX8_count 46 = .ok (.ireturn, 1) := by decide +kernel
theorem dX8_freeNow_0 : decode cX8_freeNow 0 = .ok (.iconst 0, 1) := by decide +kernel
theorem dX8_freeNow_1 : decode cX8_freeNow 1 = .ok (.istore_n 1, 1) := by decide +kernel
theorem dX8_freeNow_2 : decode cX8_freeNow 2 = .ok (.iconst 0, 1) := by decide +kernel
theorem dX8_freeNow_3 : decode cX8_freeNow 3 = .ok (.istore_n 2, 1) := by decide +kernel
theorem dX8_freeNow_4 : decode cX8_freeNow 4 = .ok (.iload_n 2, 1) := by decide +kernel
theorem dX8_freeNow_5 : decode cX8_freeNow 5 = .ok (.bipush 10, 2) := by decide +kernel
theorem dX8_freeNow_7 : decode cX8_freeNow 7 = .ok (.if_icmp .ge 29, 3) := by decide +kernel
theorem dX8_freeNow_10 : decode cX8_freeNow 10 = .ok (.iload_n 1, 1) := by decide +kernel
theorem dX8_freeNow_11 : decode cX8_freeNow 11 = .ok (.aload_n 0, 1) := by decide +kernel
theorem dX8_freeNow_12 : decode cX8_freeNow 12 = .ok (.bipush 11, 2) := by decide +kernel
theorem dX8_freeNow_14 : decode cX8_freeNow 14 = .ok (.iload_n 2, 1) := by decide +kernel
theorem dX8_freeNow_15 : decode cX8_freeNow 15 = .ok (.invokevirtual 151, 3) := by decide +kernel
theorem dX8_freeNow_18 : decode cX8_freeNow 18 = .ok (.ifCond .ne 9, 3) := by decide +kernel
theorem dX8_freeNow_21 : decode cX8_freeNow 21 = .ok (.iconst 1, 1) := by decide +kernel
theorem dX8_freeNow_22 : decode cX8_freeNow 22 = .ok (.iload_n 2, 1) := by decide +kernel
theorem dX8_freeNow_23 : decode cX8_freeNow 23 = .ok (.ishl, 1) := by decide +kernel
theorem dX8_freeNow_24 : decode cX8_freeNow 24 = .ok (.goto 4, 3) := by decide +kernel
theorem dX8_freeNow_27 : decode cX8_freeNow 27 = .ok (.iconst 0, 1) := by decide +kernel
theorem dX8_freeNow_28 : decode cX8_freeNow 28 = .ok (.ior, 1) := by decide +kernel
theorem dX8_freeNow_29 : decode cX8_freeNow 29 = .ok (.istore_n 1, 1) := by decide +kernel
theorem dX8_freeNow_30 : decode cX8_freeNow 30 = .ok (.iinc 2 1, 3) := by decide +kernel
theorem dX8_freeNow_33 : decode cX8_freeNow 33 = .ok (.goto (-29), 3) := by decide +kernel
theorem dX8_freeNow_36 : decode cX8_freeNow 36 = .ok (.iload_n 1, 1) := by decide +kernel
theorem dX8_freeNow_37 : decode cX8_freeNow 37 = .ok (.ireturn, 1) := by decide +kernel
theorem dX8_forecasts_0 : decode cX8_forecasts 0 = .ok (.aload_n 0, 1) := by decide +kernel
theorem dX8_forecasts_1 : decode cX8_forecasts 1 = .ok (.getfield 7, 3) := by decide +kernel
theorem dX8_forecasts_4 : decode cX8_forecasts 4 = .ok (.iconst 0, 1) := by decide +kernel
theorem dX8_forecasts_5 : decode cX8_forecasts 5 = .ok (.aload_n 0, 1) := by decide +kernel
theorem dX8_forecasts_6 : decode cX8_forecasts 6 = .ok (.getfield 13, 3) := by decide +kernel
theorem dX8_forecasts_9 : decode cX8_forecasts 9 = .ok (.iconst 0, 1) := by decide +kernel
theorem dX8_forecasts_10 : decode cX8_forecasts 10 = .ok (.invokestatic 45, 3) := by decide +kernel
theorem dX8_forecasts_13 : decode cX8_forecasts 13 = .ok (.iload_n 2, 1) := by decide +kernel
theorem dX8_forecasts_14 : decode cX8_forecasts 14 = .ok (.ifCond .lt 8, 3) := by decide +kernel
theorem dX8_forecasts_17 : decode cX8_forecasts 17 = .ok (.aload_n 0, 1) := by decide +kernel
theorem dX8_forecasts_18 : decode cX8_forecasts 18 = .ok (.iload_n 2, 1) := by decide +kernel
theorem dX8_forecasts_19 : decode cX8_forecasts 19 = .ok (.invokevirtual 101, 3) := by decide +kernel
theorem dX8_forecasts_22 : decode cX8_forecasts 22 = .ok (.aload_n 0, 1) := by decide +kernel
theorem dX8_forecasts_23 : decode cX8_forecasts 23 = .ok (.getfield 32, 3) := by decide +kernel
theorem dX8_forecasts_26 : decode cX8_forecasts 26 = .ok (.iconst 0, 1) := by decide +kernel
theorem dX8_forecasts_27 : decode cX8_forecasts 27 = .ok (.aload_n 0, 1) := by decide +kernel
theorem dX8_forecasts_28 : decode cX8_forecasts 28 = .ok (.invokevirtual 154, 3) := by decide +kernel
theorem dX8_forecasts_31 : decode cX8_forecasts 31 = .ok (.iastore, 1) := by decide +kernel
theorem dX8_forecasts_32 : decode cX8_forecasts 32 = .ok (.iconst 1, 1) := by decide +kernel
theorem dX8_forecasts_33 : decode cX8_forecasts 33 = .ok (.istore_n 3, 1) := by decide +kernel
theorem dX8_forecasts_34 : decode cX8_forecasts 34 = .ok (.iload_n 3, 1) := by decide +kernel
theorem dX8_forecasts_35 : decode cX8_forecasts 35 = .ok (.iload_n 1, 1) := by decide +kernel
theorem dX8_forecasts_36 : decode cX8_forecasts 36 = .ok (.if_icmp .gt 23, 3) := by decide +kernel
theorem dX8_forecasts_39 : decode cX8_forecasts 39 = .ok (.aload_n 0, 1) := by decide +kernel
theorem dX8_forecasts_40 : decode cX8_forecasts 40 = .ok (.invokevirtual 81, 3) := by decide +kernel
theorem dX8_forecasts_43 : decode cX8_forecasts 43 = .ok (.aload_n 0, 1) := by decide +kernel
theorem dX8_forecasts_44 : decode cX8_forecasts 44 = .ok (.getfield 32, 3) := by decide +kernel
theorem dX8_forecasts_47 : decode cX8_forecasts 47 = .ok (.iload_n 3, 1) := by decide +kernel
theorem dX8_forecasts_48 : decode cX8_forecasts 48 = .ok (.aload_n 0, 1) := by decide +kernel
theorem dX8_forecasts_49 : decode cX8_forecasts 49 = .ok (.invokevirtual 154, 3) := by decide +kernel
theorem dX8_forecasts_52 : decode cX8_forecasts 52 = .ok (.iastore, 1) := by decide +kernel
theorem dX8_forecasts_53 : decode cX8_forecasts 53 = .ok (.iinc 3 1, 3) := by decide +kernel
theorem dX8_forecasts_56 : decode cX8_forecasts 56 = .ok (.goto (-22), 3) := by decide +kernel
theorem dX8_forecasts_59 : decode cX8_forecasts 59 = .ok (.aload_n 0, 1) := by decide +kernel
theorem dX8_forecasts_60 : decode cX8_forecasts 60 = .ok (.getfield 13, 3) := by decide +kernel
theorem dX8_forecasts_63 : decode cX8_forecasts 63 = .ok (.iconst 0, 1) := by decide +kernel
theorem dX8_forecasts_64 : decode cX8_forecasts 64 = .ok (.aload_n 0, 1) := by decide +kernel
theorem dX8_forecasts_65 : decode cX8_forecasts 65 = .ok (.getfield 7, 3) := by decide +kernel
theorem dX8_forecasts_68 : decode cX8_forecasts 68 = .ok (.iconst 0, 1) := by decide +kernel
theorem dX8_forecasts_69 : decode cX8_forecasts 69 = .ok (.invokestatic 45, 3) := by decide +kernel
theorem dX8_forecasts_72 : decode cX8_forecasts 72 = .ok (.return_, 1) := by decide +kernel
theorem dX8_free_0 : decode cX8_free 0 = .ok (.iload_n 1, 1) := by decide +kernel
theorem dX8_free_1 : decode cX8_free 1 = .ok (.iconst 0, 1) := by decide +kernel
theorem dX8_free_2 : decode cX8_free 2 = .ok (.bipush 30, 2) := by decide +kernel
theorem dX8_free_4 : decode cX8_free 4 = .ok (.invokestatic 49, 3) := by decide +kernel
theorem dX8_free_7 : decode cX8_free 7 = .ok (.ifCond .ne 5, 3) := by decide +kernel
theorem dX8_free_10 : decode cX8_free 10 = .ok (.iconst (-1), 1) := by decide +kernel
theorem dX8_free_11 : decode cX8_free 11 = .ok (.ireturn, 1) := by decide +kernel
theorem dX8_free_12 : decode cX8_free 12 = .ok (.aload_n 0, 1) := by decide +kernel
theorem dX8_free_13 : decode cX8_free 13 = .ok (.iload_n 1, 1) := by decide +kernel
theorem dX8_free_14 : decode cX8_free 14 = .ok (.bipush (-4), 2) := by decide +kernel
theorem dX8_free_16 : decode cX8_free 16 = .ok (.invokevirtual 157, 3) := by decide +kernel
theorem dX8_free_19 : decode cX8_free 19 = .ok (.aload_n 0, 1) := by decide +kernel
theorem dX8_free_20 : decode cX8_free 20 = .ok (.getfield 32, 3) := by decide +kernel
theorem dX8_free_23 : decode cX8_free 23 = .ok (.iload_n 1, 1) := by decide +kernel
theorem dX8_free_24 : decode cX8_free 24 = .ok (.iaload, 1) := by decide +kernel
theorem dX8_free_25 : decode cX8_free 25 = .ok (.ireturn, 1) := by decide +kernel
theorem dX8_ones_0 : decode cX8_ones 0 = .ok (.iconst 0, 1) := by decide +kernel
theorem dX8_ones_1 : decode cX8_ones 1 = .ok (.istore_n 1, 1) := by decide +kernel
theorem dX8_ones_2 : decode cX8_ones 2 = .ok (.iconst 0, 1) := by decide +kernel
theorem dX8_ones_3 : decode cX8_ones 3 = .ok (.istore_n 2, 1) := by decide +kernel
theorem dX8_ones_4 : decode cX8_ones 4 = .ok (.iload_n 2, 1) := by decide +kernel
theorem dX8_ones_5 : decode cX8_ones 5 = .ok (.bipush 10, 2) := by decide +kernel
theorem dX8_ones_7 : decode cX8_ones 7 = .ok (.if_icmp .ge 17, 3) := by decide +kernel
theorem dX8_ones_10 : decode cX8_ones 10 = .ok (.iload_n 1, 1) := by decide +kernel
theorem dX8_ones_11 : decode cX8_ones 11 = .ok (.iload_n 0, 1) := by decide +kernel
theorem dX8_ones_12 : decode cX8_ones 12 = .ok (.iload_n 2, 1) := by decide +kernel
theorem dX8_ones_13 : decode cX8_ones 13 = .ok (.ishr, 1) := by decide +kernel
theorem dX8_ones_14 : decode cX8_ones 14 = .ok (.iconst 1, 1) := by decide +kernel
theorem dX8_ones_15 : decode cX8_ones 15 = .ok (.iand, 1) := by decide +kernel
theorem dX8_ones_16 : decode cX8_ones 16 = .ok (.iadd, 1) := by decide +kernel
theorem dX8_ones_17 : decode cX8_ones 17 = .ok (.istore_n 1, 1) := by decide +kernel
theorem dX8_ones_18 : decode cX8_ones 18 = .ok (.iinc 2 1, 3) := by decide +kernel
theorem dX8_ones_21 : decode cX8_ones 21 = .ok (.goto (-17), 3) := by decide +kernel
theorem dX8_ones_24 : decode cX8_ones 24 = .ok (.iload_n 1, 1) := by decide +kernel
theorem dX8_ones_25 : decode cX8_ones 25 = .ok (.ireturn, 1) := by decide +kernel
theorem dX8_lane_0 : decode cX8_lane 0 = .ok (.iload_n 1, 1) := by decide +kernel
theorem dX8_lane_1 : decode cX8_lane 1 = .ok (.iconst 0, 1) := by decide +kernel
theorem dX8_lane_2 : decode cX8_lane 2 = .ok (.bipush 30, 2) := by decide +kernel
theorem dX8_lane_4 : decode cX8_lane 4 = .ok (.invokestatic 49, 3) := by decide +kernel
theorem dX8_lane_7 : decode cX8_lane 7 = .ok (.ifCond .eq 12, 3) := by decide +kernel
theorem dX8_lane_10 : decode cX8_lane 10 = .ok (.iload_n 2, 1) := by decide +kernel
theorem dX8_lane_11 : decode cX8_lane 11 = .ok (.iconst 0, 1) := by decide +kernel
theorem dX8_lane_12 : decode cX8_lane 12 = .ok (.iconst 2, 1) := by decide +kernel
theorem dX8_lane_13 : decode cX8_lane 13 = .ok (.invokestatic 49, 3) := by decide +kernel
theorem dX8_lane_16 : decode cX8_lane 16 = .ok (.ifCond .ne 5, 3) := by decide +kernel
theorem dX8_lane_19 : decode cX8_lane 19 = .ok (.iconst (-1), 1) := by decide +kernel
theorem dX8_lane_20 : decode cX8_lane 20 = .ok (.ireturn, 1) := by decide +kernel
theorem dX8_lane_21 : decode cX8_lane 21 = .ok (.aload_n 0, 1) := by decide +kernel
theorem dX8_lane_22 : decode cX8_lane 22 = .ok (.iload_n 1, 1) := by decide +kernel
theorem dX8_lane_23 : decode cX8_lane 23 = .ok (.bipush (-4), 2) := by decide +kernel
theorem dX8_lane_25 : decode cX8_lane 25 = .ok (.invokevirtual 157, 3) := by decide +kernel
theorem dX8_lane_28 : decode cX8_lane 28 = .ok (.iconst 0, 1) := by decide +kernel
theorem dX8_lane_29 : decode cX8_lane 29 = .ok (.istore_n 3, 1) := by decide +kernel
theorem dX8_lane_30 : decode cX8_lane 30 = .ok (.iconst 0, 1) := by decide +kernel
theorem dX8_lane_31 : decode cX8_lane 31 = .ok (.istore 4, 2) := by decide +kernel
theorem dX8_lane_33 : decode cX8_lane 33 = .ok (.bipush (-4), 2) := by decide +kernel
theorem dX8_lane_35 : decode cX8_lane 35 = .ok (.istore 5, 2) := by decide +kernel
theorem dX8_lane_37 : decode cX8_lane 37 = .ok (.iconst 0, 1) := by decide +kernel
theorem dX8_lane_38 : decode cX8_lane 38 = .ok (.istore 6, 2) := by decide +kernel
theorem dX8_lane_40 : decode cX8_lane 40 = .ok (.iconst 0, 1) := by decide +kernel
theorem dX8_lane_41 : decode cX8_lane 41 = .ok (.istore 7, 2) := by decide +kernel
theorem dX8_lane_43 : decode cX8_lane 43 = .ok (.iload 7, 2) := by decide +kernel
theorem dX8_lane_45 : decode cX8_lane 45 = .ok (.bipush 10, 2) := by decide +kernel
theorem dX8_lane_47 : decode cX8_lane 47 = .ok (.if_icmp .ge 85, 3) := by decide +kernel
theorem dX8_lane_50 : decode cX8_lane 50 = .ok (.aload_n 0, 1) := by decide +kernel
theorem dX8_lane_51 : decode cX8_lane 51 = .ok (.getfield 32, 3) := by decide +kernel
theorem dX8_lane_54 : decode cX8_lane 54 = .ok (.iload_n 1, 1) := by decide +kernel
theorem dX8_lane_55 : decode cX8_lane 55 = .ok (.iaload, 1) := by decide +kernel
theorem dX8_lane_56 : decode cX8_lane 56 = .ok (.iload 7, 2) := by decide +kernel
theorem dX8_lane_58 : decode cX8_lane 58 = .ok (.ishr, 1) := by decide +kernel
theorem dX8_lane_59 : decode cX8_lane 59 = .ok (.iconst 1, 1) := by decide +kernel
theorem dX8_lane_60 : decode cX8_lane 60 = .ok (.iand, 1) := by decide +kernel
theorem dX8_lane_61 : decode cX8_lane 61 = .ok (.iconst 1, 1) := by decide +kernel
theorem dX8_lane_62 : decode cX8_lane 62 = .ok (.if_icmp .ne 10, 3) := by decide +kernel
theorem dX8_lane_65 : decode cX8_lane 65 = .ok (.iload 6, 2) := by decide +kernel
theorem dX8_lane_67 : decode cX8_lane 67 = .ok (.iconst 1, 1) := by decide +kernel
theorem dX8_lane_68 : decode cX8_lane 68 = .ok (.iadd, 1) := by decide +kernel
theorem dX8_lane_69 : decode cX8_lane 69 = .ok (.goto 4, 3) := by decide +kernel
theorem dX8_lane_72 : decode cX8_lane 72 = .ok (.iconst 0, 1) := by decide +kernel
theorem dX8_lane_73 : decode cX8_lane 73 = .ok (.istore 6, 2) := by decide +kernel
theorem dX8_lane_75 : decode cX8_lane 75 = .ok (.iload_n 3, 1) := by decide +kernel
theorem dX8_lane_76 : decode cX8_lane 76 = .ok (.iload 6, 2) := by decide +kernel
theorem dX8_lane_78 : decode cX8_lane 78 = .ok (.iconst 1, 1) := by decide +kernel
theorem dX8_lane_79 : decode cX8_lane 79 = .ok (.if_icmp .ne 7, 3) := by decide +kernel
theorem dX8_lane_82 : decode cX8_lane 82 = .ok (.iconst 1, 1) := by decide +kernel
theorem dX8_lane_83 : decode cX8_lane 83 = .ok (.goto 4, 3) := by decide +kernel
theorem dX8_lane_86 : decode cX8_lane 86 = .ok (.iconst 0, 1) := by decide +kernel
theorem dX8_lane_87 : decode cX8_lane 87 = .ok (.iadd, 1) := by decide +kernel
theorem dX8_lane_88 : decode cX8_lane 88 = .ok (.istore_n 3, 1) := by decide +kernel
theorem dX8_lane_89 : decode cX8_lane 89 = .ok (.iload 6, 2) := by decide +kernel
theorem dX8_lane_91 : decode cX8_lane 91 = .ok (.iload 4, 2) := by decide +kernel
theorem dX8_lane_93 : decode cX8_lane 93 = .ok (.if_icmp .le 13, 3) := by decide +kernel
theorem dX8_lane_96 : decode cX8_lane 96 = .ok (.iload 7, 2) := by decide +kernel
theorem dX8_lane_98 : decode cX8_lane 98 = .ok (.iload 6, 2) := by decide +kernel
theorem dX8_lane_100 : decode cX8_lane 100 = .ok (.isub, 1) := by decide +kernel
theorem dX8_lane_101 : decode cX8_lane 101 = .ok (.iconst 1, 1) := by decide +kernel
theorem dX8_lane_102 : decode cX8_lane 102 = .ok (.iadd, 1) := by decide +kernel
theorem dX8_lane_103 : decode cX8_lane 103 = .ok (.goto 5, 3) := by decide +kernel
theorem dX8_lane_106 : decode cX8_lane 106 = .ok (.iload 5, 2) := by decide +kernel
theorem dX8_lane_108 : decode cX8_lane 108 = .ok (.istore 5, 2) := by decide +kernel
theorem dX8_lane_110 : decode cX8_lane 110 = .ok (.iload 6, 2) := by decide +kernel
theorem dX8_lane_112 : decode cX8_lane 112 = .ok (.iload 4, 2) := by decide +kernel
theorem dX8_lane_114 : decode cX8_lane 114 = .ok (.if_icmp .le 8, 3) := by decide +kernel
theorem dX8_lane_117 : decode cX8_lane 117 = .ok (.iload 6, 2) := by decide +kernel
theorem dX8_lane_119 : decode cX8_lane 119 = .ok (.goto 5, 3) := by decide +kernel
theorem dX8_lane_122 : decode cX8_lane 122 = .ok (.iload 4, 2) := by decide +kernel
theorem dX8_lane_124 : decode cX8_lane 124 = .ok (.istore 4, 2) := by decide +kernel
theorem dX8_lane_126 : decode cX8_lane 126 = .ok (.iinc 7 1, 3) := by decide +kernel
theorem dX8_lane_129 : decode cX8_lane 129 = .ok (.goto (-86), 3) := by decide +kernel
theorem dX8_lane_132 : decode cX8_lane 132 = .ok (.iload_n 2, 1) := by decide +kernel
theorem dX8_lane_133 : decode cX8_lane 133 = .ok (.ifCond .ne 7, 3) := by decide +kernel
theorem dX8_lane_136 : decode cX8_lane 136 = .ok (.iload_n 3, 1) := by decide +kernel
theorem dX8_lane_137 : decode cX8_lane 137 = .ok (.goto 15, 3) := by decide +kernel
theorem dX8_lane_140 : decode cX8_lane 140 = .ok (.iload_n 2, 1) := by decide +kernel
theorem dX8_lane_141 : decode cX8_lane 141 = .ok (.iconst 1, 1) := by decide +kernel
theorem dX8_lane_142 : decode cX8_lane 142 = .ok (.if_icmp .ne 8, 3) := by decide +kernel
theorem dX8_lane_145 : decode cX8_lane 145 = .ok (.iload 4, 2) := by decide +kernel
theorem dX8_lane_147 : decode cX8_lane 147 = .ok (.goto 5, 3) := by decide +kernel
theorem dX8_lane_150 : decode cX8_lane 150 = .ok (.iload 5, 2) := by decide +kernel
theorem dX8_lane_152 : decode cX8_lane 152 = .ok (.ireturn, 1) := by decide +kernel
theorem dX8_endsOf_0 : decode cX8_endsOf 0 = .ok (.iconst 1, 1) := by decide +kernel
theorem dX8_endsOf_1 : decode cX8_endsOf 1 = .ok (.aload_n 0, 1) := by decide +kernel
theorem dX8_endsOf_2 : decode cX8_endsOf 2 = .ok (.getfield 7, 3) := by decide +kernel
theorem dX8_endsOf_5 : decode cX8_endsOf 5 = .ok (.iconst 2, 1) := by decide +kernel
theorem dX8_endsOf_6 : decode cX8_endsOf 6 = .ok (.iaload, 1) := by decide +kernel
theorem dX8_endsOf_7 : decode cX8_endsOf 7 = .ok (.ishl, 1) := by decide +kernel
theorem dX8_endsOf_8 : decode cX8_endsOf 8 = .ok (.istore_n 2, 1) := by decide +kernel
theorem dX8_endsOf_9 : decode cX8_endsOf 9 = .ok (.iconst 1, 1) := by decide +kernel
theorem dX8_endsOf_10 : decode cX8_endsOf 10 = .ok (.istore_n 3, 1) := by decide +kernel
theorem dX8_endsOf_11 : decode cX8_endsOf 11 = .ok (.iload_n 3, 1) := by decide +kernel
theorem dX8_endsOf_12 : decode cX8_endsOf 12 = .ok (.iload_n 1, 1) := by decide +kernel
theorem dX8_endsOf_13 : decode cX8_endsOf 13 = .ok (.if_icmp .gt 26, 3) := by decide +kernel
theorem dX8_endsOf_16 : decode cX8_endsOf 16 = .ok (.iload_n 2, 1) := by decide +kernel
theorem dX8_endsOf_17 : decode cX8_endsOf 17 = .ok (.iload_n 2, 1) := by decide +kernel
theorem dX8_endsOf_18 : decode cX8_endsOf 18 = .ok (.iconst 1, 1) := by decide +kernel
theorem dX8_endsOf_19 : decode cX8_endsOf 19 = .ok (.ishl, 1) := by decide +kernel
theorem dX8_endsOf_20 : decode cX8_endsOf 20 = .ok (.ior, 1) := by decide +kernel
theorem dX8_endsOf_21 : decode cX8_endsOf 21 = .ok (.iload_n 2, 1) := by decide +kernel
theorem dX8_endsOf_22 : decode cX8_endsOf 22 = .ok (.iconst 1, 1) := by decide +kernel
theorem dX8_endsOf_23 : decode cX8_endsOf 23 = .ok (.ishr, 1) := by decide +kernel
theorem dX8_endsOf_24 : decode cX8_endsOf 24 = .ok (.ior, 1) := by decide +kernel
theorem dX8_endsOf_25 : decode cX8_endsOf 25 = .ok (.aload_n 0, 1) := by decide +kernel
theorem dX8_endsOf_26 : decode cX8_endsOf 26 = .ok (.getfield 32, 3) := by decide +kernel
theorem dX8_endsOf_29 : decode cX8_endsOf 29 = .ok (.iload_n 3, 1) := by decide +kernel
theorem dX8_endsOf_30 : decode cX8_endsOf 30 = .ok (.iaload, 1) := by decide +kernel
theorem dX8_endsOf_31 : decode cX8_endsOf 31 = .ok (.iand, 1) := by decide +kernel
theorem dX8_endsOf_32 : decode cX8_endsOf 32 = .ok (.istore_n 2, 1) := by decide +kernel
theorem dX8_endsOf_33 : decode cX8_endsOf 33 = .ok (.iinc 3 1, 3) := by decide +kernel
theorem dX8_endsOf_36 : decode cX8_endsOf 36 = .ok (.goto (-25), 3) := by decide +kernel
theorem dX8_endsOf_39 : decode cX8_endsOf 39 = .ok (.iload_n 2, 1) := by decide +kernel
theorem dX8_endsOf_40 : decode cX8_endsOf 40 = .ok (.ireturn, 1) := by decide +kernel
theorem dX8_ends_0 : decode cX8_ends 0 = .ok (.iload_n 1, 1) := by decide +kernel
theorem dX8_ends_1 : decode cX8_ends 1 = .ok (.iconst 1, 1) := by decide +kernel
theorem dX8_ends_2 : decode cX8_ends 2 = .ok (.bipush 30, 2) := by decide +kernel
theorem dX8_ends_4 : decode cX8_ends 4 = .ok (.invokestatic 49, 3) := by decide +kernel
theorem dX8_ends_7 : decode cX8_ends 7 = .ok (.ifCond .eq 12, 3) := by decide +kernel
theorem dX8_ends_10 : decode cX8_ends 10 = .ok (.iload_n 2, 1) := by decide +kernel
theorem dX8_ends_11 : decode cX8_ends 11 = .ok (.iconst 0, 1) := by decide +kernel
theorem dX8_ends_12 : decode cX8_ends 12 = .ok (.iconst 1, 1) := by decide +kernel
theorem dX8_ends_13 : decode cX8_ends 13 = .ok (.invokestatic 49, 3) := by decide +kernel
theorem dX8_ends_16 : decode cX8_ends 16 = .ok (.ifCond .ne 5, 3) := by decide +kernel
theorem dX8_ends_19 : decode cX8_ends 19 = .ok (.iconst (-1), 1) := by decide +kernel
theorem dX8_ends_20 : decode cX8_ends 20 = .ok (.ireturn, 1) := by decide +kernel
theorem dX8_ends_21 : decode cX8_ends 21 = .ok (.aload_n 0, 1) := by decide +kernel
theorem dX8_ends_22 : decode cX8_ends 22 = .ok (.iload_n 1, 1) := by decide +kernel
theorem dX8_ends_23 : decode cX8_ends 23 = .ok (.bipush (-4), 2) := by decide +kernel
theorem dX8_ends_25 : decode cX8_ends 25 = .ok (.invokevirtual 157, 3) := by decide +kernel
theorem dX8_ends_28 : decode cX8_ends 28 = .ok (.aload_n 0, 1) := by decide +kernel
theorem dX8_ends_29 : decode cX8_ends 29 = .ok (.iload_n 1, 1) := by decide +kernel
theorem dX8_ends_30 : decode cX8_ends 30 = .ok (.invokevirtual 160, 3) := by decide +kernel
theorem dX8_ends_33 : decode cX8_ends 33 = .ok (.invokestatic 163, 3) := by decide +kernel
theorem dX8_ends_36 : decode cX8_ends 36 = .ok (.ireturn, 1) := by decide +kernel
theorem dX8_fewestAt_0 : decode cX8_fewestAt 0 = .ok (.iload_n 2, 1) := by decide +kernel
theorem dX8_fewestAt_1 : decode cX8_fewestAt 1 = .ok (.iconst 0, 1) := by decide +kernel
theorem dX8_fewestAt_2 : decode cX8_fewestAt 2 = .ok (.bipush 9, 2) := by decide +kernel
theorem dX8_fewestAt_4 : decode cX8_fewestAt 4 = .ok (.invokestatic 49, 3) := by decide +kernel
theorem dX8_fewestAt_7 : decode cX8_fewestAt 7 = .ok (.ifCond .eq 17, 3) := by decide +kernel
theorem dX8_fewestAt_10 : decode cX8_fewestAt 10 = .ok (.aload_n 0, 1) := by decide +kernel
theorem dX8_fewestAt_11 : decode cX8_fewestAt 11 = .ok (.getfield 35, 3) := by decide +kernel
theorem dX8_fewestAt_14 : decode cX8_fewestAt 14 = .ok (.bipush 10, 2) := by decide +kernel
theorem dX8_fewestAt_16 : decode cX8_fewestAt 16 = .ok (.iload_n 1, 1) := by decide +kernel
theorem dX8_fewestAt_17 : decode cX8_fewestAt 17 = .ok (.imul, 1) := by decide +kernel
theorem dX8_fewestAt_18 : decode cX8_fewestAt 18 = .ok (.iload_n 2, 1) := by decide +kernel
theorem dX8_fewestAt_19 : decode cX8_fewestAt 19 = .ok (.iadd, 1) := by decide +kernel
theorem dX8_fewestAt_20 : decode cX8_fewestAt 20 = .ok (.iaload, 1) := by decide +kernel
theorem dX8_fewestAt_21 : decode cX8_fewestAt 21 = .ok (.goto 5, 3) := by decide +kernel
theorem dX8_fewestAt_24 : decode cX8_fewestAt 24 = .ok (.bipush 100, 2) := by decide +kernel
theorem dX8_fewestAt_26 : decode cX8_fewestAt 26 = .ok (.ireturn, 1) := by decide +kernel
theorem dX8_findsWay_0 : decode cX8_findsWay 0 = .ok (.aload_n 0, 1) := by decide +kernel
theorem dX8_findsWay_1 : decode cX8_findsWay 1 = .ok (.iload_n 1, 1) := by decide +kernel
theorem dX8_findsWay_2 : decode cX8_findsWay 2 = .ok (.bipush (-4), 2) := by decide +kernel
theorem dX8_findsWay_4 : decode cX8_findsWay 4 = .ok (.invokevirtual 157, 3) := by decide +kernel
theorem dX8_findsWay_7 : decode cX8_findsWay 7 = .ok (.iload_n 1, 1) := by decide +kernel
theorem dX8_findsWay_8 : decode cX8_findsWay 8 = .ok (.istore_n 2, 1) := by decide +kernel
theorem dX8_findsWay_9 : decode cX8_findsWay 9 = .ok (.iload_n 2, 1) := by decide +kernel
theorem dX8_findsWay_10 : decode cX8_findsWay 10 = .ok (.ifCond .lt 164, 3) := by decide +kernel
theorem dX8_findsWay_13 : decode cX8_findsWay 13 = .ok (.iconst 0, 1) := by decide +kernel
theorem dX8_findsWay_14 : decode cX8_findsWay 14 = .ok (.istore_n 3, 1) := by decide +kernel
theorem dX8_findsWay_15 : decode cX8_findsWay 15 = .ok (.iload_n 3, 1) := by decide +kernel
theorem dX8_findsWay_16 : decode cX8_findsWay 16 = .ok (.bipush 10, 2) := by decide +kernel
theorem dX8_findsWay_18 : decode cX8_findsWay 18 = .ok (.if_icmp .ge 150, 3) := by decide +kernel
theorem dX8_findsWay_21 : decode cX8_findsWay 21 = .ok (.iload_n 2, 1) := by decide +kernel
theorem dX8_findsWay_22 : decode cX8_findsWay 22 = .ok (.iload_n 1, 1) := by decide +kernel
theorem dX8_findsWay_23 : decode cX8_findsWay 23 = .ok (.if_icmp .ne 7, 3) := by decide +kernel
theorem dX8_findsWay_26 : decode cX8_findsWay 26 = .ok (.iconst 0, 1) := by decide +kernel
theorem dX8_findsWay_27 : decode cX8_findsWay 27 = .ok (.goto 11, 3) := by decide +kernel
theorem dX8_findsWay_30 : decode cX8_findsWay 30 = .ok (.aload_n 0, 1) := by decide +kernel
theorem dX8_findsWay_31 : decode cX8_findsWay 31 = .ok (.iload_n 2, 1) := by decide +kernel
theorem dX8_findsWay_32 : decode cX8_findsWay 32 = .ok (.iconst 1, 1) := by decide +kernel
theorem dX8_findsWay_33 : decode cX8_findsWay 33 = .ok (.iadd, 1) := by decide +kernel
theorem dX8_findsWay_34 : decode cX8_findsWay 34 = .ok (.iload_n 3, 1) := by decide +kernel
theorem dX8_findsWay_35 : decode cX8_findsWay 35 = .ok (.invokevirtual 166, 3) := by decide +kernel
theorem dX8_findsWay_38 : decode cX8_findsWay 38 = .ok (.istore 4, 2) := by decide +kernel
theorem dX8_findsWay_40 : decode cX8_findsWay 40 = .ok (.iload_n 2, 1) := by decide +kernel
theorem dX8_findsWay_41 : decode cX8_findsWay 41 = .ok (.iload_n 1, 1) := by decide +kernel
theorem dX8_findsWay_42 : decode cX8_findsWay 42 = .ok (.if_icmp .ne 8, 3) := by decide +kernel
theorem dX8_findsWay_45 : decode cX8_findsWay 45 = .ok (.bipush 100, 2) := by decide +kernel
theorem dX8_findsWay_47 : decode cX8_findsWay 47 = .ok (.goto 15, 3) := by decide +kernel
theorem dX8_findsWay_50 : decode cX8_findsWay 50 = .ok (.iconst 1, 1) := by decide +kernel
theorem dX8_findsWay_51 : decode cX8_findsWay 51 = .ok (.aload_n 0, 1) := by decide +kernel
theorem dX8_findsWay_52 : decode cX8_findsWay 52 = .ok (.iload_n 2, 1) := by decide +kernel
theorem dX8_findsWay_53 : decode cX8_findsWay 53 = .ok (.iconst 1, 1) := by decide +kernel
theorem dX8_findsWay_54 : decode cX8_findsWay 54 = .ok (.iadd, 1) := by decide +kernel
theorem dX8_findsWay_55 : decode cX8_findsWay 55 = .ok (.iload_n 3, 1) := by decide +kernel
theorem dX8_findsWay_56 : decode cX8_findsWay 56 = .ok (.iconst 1, 1) := by decide +kernel
theorem dX8_findsWay_57 : decode cX8_findsWay 57 = .ok (.isub, 1) := by decide +kernel
theorem dX8_findsWay_58 : decode cX8_findsWay 58 = .ok (.invokevirtual 166, 3) := by decide +kernel
theorem dX8_findsWay_61 : decode cX8_findsWay 61 = .ok (.iadd, 1) := by decide +kernel
theorem dX8_findsWay_62 : decode cX8_findsWay 62 = .ok (.istore 5, 2) := by decide +kernel
theorem dX8_findsWay_64 : decode cX8_findsWay 64 = .ok (.iload_n 2, 1) := by decide +kernel
theorem dX8_findsWay_65 : decode cX8_findsWay 65 = .ok (.iload_n 1, 1) := by decide +kernel
theorem dX8_findsWay_66 : decode cX8_findsWay 66 = .ok (.if_icmp .ne 8, 3) := by decide +kernel
theorem dX8_findsWay_69 : decode cX8_findsWay 69 = .ok (.bipush 100, 2) := by decide +kernel
theorem dX8_findsWay_71 : decode cX8_findsWay 71 = .ok (.goto 15, 3) := by decide +kernel
theorem dX8_findsWay_74 : decode cX8_findsWay 74 = .ok (.iconst 1, 1) := by decide +kernel
theorem dX8_findsWay_75 : decode cX8_findsWay 75 = .ok (.aload_n 0, 1) := by decide +kernel
theorem dX8_findsWay_76 : decode cX8_findsWay 76 = .ok (.iload_n 2, 1) := by decide +kernel
theorem dX8_findsWay_77 : decode cX8_findsWay 77 = .ok (.iconst 1, 1) := by decide +kernel
theorem dX8_findsWay_78 : decode cX8_findsWay 78 = .ok (.iadd, 1) := by decide +kernel
theorem dX8_findsWay_79 : decode cX8_findsWay 79 = .ok (.iload_n 3, 1) := by decide +kernel
theorem dX8_findsWay_80 : decode cX8_findsWay 80 = .ok (.iconst 1, 1) := by decide +kernel
theorem dX8_findsWay_81 : decode cX8_findsWay 81 = .ok (.iadd, 1) := by decide +kernel
theorem dX8_findsWay_82 : decode cX8_findsWay 82 = .ok (.invokevirtual 166, 3) := by decide +kernel
theorem dX8_findsWay_85 : decode cX8_findsWay 85 = .ok (.iadd, 1) := by decide +kernel
theorem dX8_findsWay_86 : decode cX8_findsWay 86 = .ok (.istore 6, 2) := by decide +kernel
theorem dX8_findsWay_88 : decode cX8_findsWay 88 = .ok (.iload 5, 2) := by decide +kernel
theorem dX8_findsWay_90 : decode cX8_findsWay 90 = .ok (.iload 6, 2) := by decide +kernel
theorem dX8_findsWay_92 : decode cX8_findsWay 92 = .ok (.if_icmp .ge 8, 3) := by decide +kernel
theorem dX8_findsWay_95 : decode cX8_findsWay 95 = .ok (.iload 5, 2) := by decide +kernel
theorem dX8_findsWay_97 : decode cX8_findsWay 97 = .ok (.goto 5, 3) := by decide +kernel
theorem dX8_findsWay_100 : decode cX8_findsWay 100 = .ok (.iload 6, 2) := by decide +kernel
theorem dX8_findsWay_102 : decode cX8_findsWay 102 = .ok (.istore 7, 2) := by decide +kernel
theorem dX8_findsWay_104 : decode cX8_findsWay 104 = .ok (.iload 4, 2) := by decide +kernel
theorem dX8_findsWay_106 : decode cX8_findsWay 106 = .ok (.iload 7, 2) := by decide +kernel
theorem dX8_findsWay_108 : decode cX8_findsWay 108 = .ok (.if_icmp .ge 8, 3) := by decide +kernel
theorem dX8_findsWay_111 : decode cX8_findsWay 111 = .ok (.iload 4, 2) := by decide +kernel
theorem dX8_findsWay_113 : decode cX8_findsWay 113 = .ok (.goto 5, 3) := by decide +kernel
theorem dX8_findsWay_116 : decode cX8_findsWay 116 = .ok (.iload 7, 2) := by decide +kernel
theorem dX8_findsWay_118 : decode cX8_findsWay 118 = .ok (.istore 7, 2) := by decide +kernel
theorem dX8_findsWay_120 : decode cX8_findsWay 120 = .ok (.aload_n 0, 1) := by decide +kernel
theorem dX8_findsWay_121 : decode cX8_findsWay 121 = .ok (.getfield 35, 3) := by decide +kernel
theorem dX8_findsWay_124 : decode cX8_findsWay 124 = .ok (.bipush 10, 2) := by decide +kernel
theorem dX8_findsWay_126 : decode cX8_findsWay 126 = .ok (.iload_n 2, 1) := by decide +kernel
theorem dX8_findsWay_127 : decode cX8_findsWay 127 = .ok (.imul, 1) := by decide +kernel
theorem dX8_findsWay_128 : decode cX8_findsWay 128 = .ok (.iload_n 3, 1) := by decide +kernel
theorem dX8_findsWay_129 : decode cX8_findsWay 129 = .ok (.iadd, 1) := by decide +kernel
theorem dX8_findsWay_130 : decode cX8_findsWay 130 = .ok (.iload_n 2, 1) := by decide +kernel
theorem dX8_findsWay_131 : decode cX8_findsWay 131 = .ok (.ifCond .le 16, 3) := by decide +kernel
theorem dX8_findsWay_134 : decode cX8_findsWay 134 = .ok (.aload_n 0, 1) := by decide +kernel
theorem dX8_findsWay_135 : decode cX8_findsWay 135 = .ok (.getfield 32, 3) := by decide +kernel
theorem dX8_findsWay_138 : decode cX8_findsWay 138 = .ok (.iload_n 2, 1) := by decide +kernel
theorem dX8_findsWay_139 : decode cX8_findsWay 139 = .ok (.iaload, 1) := by decide +kernel
theorem dX8_findsWay_140 : decode cX8_findsWay 140 = .ok (.iload_n 3, 1) := by decide +kernel
theorem dX8_findsWay_141 : decode cX8_findsWay 141 = .ok (.ishr, 1) := by decide +kernel
theorem dX8_findsWay_142 : decode cX8_findsWay 142 = .ok (.iconst 1, 1) := by decide +kernel
theorem dX8_findsWay_143 : decode cX8_findsWay 143 = .ok (.iand, 1) := by decide +kernel
theorem dX8_findsWay_144 : decode cX8_findsWay 144 = .ok (.ifCond .eq 10, 3) := by decide +kernel
theorem dX8_findsWay_147 : decode cX8_findsWay 147 = .ok (.iload 7, 2) := by decide +kernel
theorem dX8_findsWay_149 : decode cX8_findsWay 149 = .ok (.bipush 99, 2) := by decide +kernel
theorem dX8_findsWay_151 : decode cX8_findsWay 151 = .ok (.if_icmp .le 8, 3) := by decide +kernel
theorem dX8_findsWay_154 : decode cX8_findsWay 154 = .ok (.bipush 100, 2) := by decide +kernel
theorem dX8_findsWay_156 : decode cX8_findsWay 156 = .ok (.goto 5, 3) := by decide +kernel
theorem dX8_findsWay_159 : decode cX8_findsWay 159 = .ok (.iload 7, 2) := by decide +kernel
theorem dX8_findsWay_161 : decode cX8_findsWay 161 = .ok (.iastore, 1) := by decide +kernel
theorem dX8_findsWay_162 : decode cX8_findsWay 162 = .ok (.iinc 3 1, 3) := by decide +kernel
theorem dX8_findsWay_165 : decode cX8_findsWay 165 = .ok (.goto (-150), 3) := by decide +kernel
theorem dX8_findsWay_168 : decode cX8_findsWay 168 = .ok (.iinc 2 (-1), 3) := by decide +kernel
theorem dX8_findsWay_171 : decode cX8_findsWay 171 = .ok (.goto (-162), 3) := by decide +kernel
theorem dX8_findsWay_174 : decode cX8_findsWay 174 = .ok (.aload_n 0, 1) := by decide +kernel
theorem dX8_findsWay_175 : decode cX8_findsWay 175 = .ok (.iconst 0, 1) := by decide +kernel
theorem dX8_findsWay_176 : decode cX8_findsWay 176 = .ok (.aload_n 0, 1) := by decide +kernel
theorem dX8_findsWay_177 : decode cX8_findsWay 177 = .ok (.getfield 7, 3) := by decide +kernel
theorem dX8_findsWay_180 : decode cX8_findsWay 180 = .ok (.iconst 2, 1) := by decide +kernel
theorem dX8_findsWay_181 : decode cX8_findsWay 181 = .ok (.iaload, 1) := by decide +kernel
theorem dX8_findsWay_182 : decode cX8_findsWay 182 = .ok (.invokevirtual 166, 3) := by decide +kernel
theorem dX8_findsWay_185 : decode cX8_findsWay 185 = .ok (.istore_n 2, 1) := by decide +kernel
theorem dX8_findsWay_186 : decode cX8_findsWay 186 = .ok (.aload_n 0, 1) := by decide +kernel
theorem dX8_findsWay_187 : decode cX8_findsWay 187 = .ok (.getfield 38, 3) := by decide +kernel
theorem dX8_findsWay_190 : decode cX8_findsWay 190 = .ok (.iconst 0, 1) := by decide +kernel
theorem dX8_findsWay_191 : decode cX8_findsWay 191 = .ok (.aload_n 0, 1) := by decide +kernel
theorem dX8_findsWay_192 : decode cX8_findsWay 192 = .ok (.getfield 7, 3) := by decide +kernel
theorem dX8_findsWay_195 : decode cX8_findsWay 195 = .ok (.iconst 2, 1) := by decide +kernel
theorem dX8_findsWay_196 : decode cX8_findsWay 196 = .ok (.iaload, 1) := by decide +kernel
theorem dX8_findsWay_197 : decode cX8_findsWay 197 = .ok (.iastore, 1) := by decide +kernel
theorem dX8_findsWay_198 : decode cX8_findsWay 198 = .ok (.iconst 1, 1) := by decide +kernel
theorem dX8_findsWay_199 : decode cX8_findsWay 199 = .ok (.istore_n 3, 1) := by decide +kernel
theorem dX8_findsWay_200 : decode cX8_findsWay 200 = .ok (.iload_n 3, 1) := by decide +kernel
theorem dX8_findsWay_201 : decode cX8_findsWay 201 = .ok (.iload_n 1, 1) := by decide +kernel
theorem dX8_findsWay_202 : decode cX8_findsWay 202 = .ok (.if_icmp .gt 86, 3) := by decide +kernel
theorem dX8_findsWay_205 : decode cX8_findsWay 205 = .ok (.iload_n 2, 1) := by decide +kernel
theorem dX8_findsWay_206 : decode cX8_findsWay 206 = .ok (.bipush 100, 2) := by decide +kernel
theorem dX8_findsWay_208 : decode cX8_findsWay 208 = .ok (.if_icmp .ge 80, 3) := by decide +kernel
theorem dX8_findsWay_211 : decode cX8_findsWay 211 = .ok (.aload_n 0, 1) := by decide +kernel
theorem dX8_findsWay_212 : decode cX8_findsWay 212 = .ok (.getfield 38, 3) := by decide +kernel
theorem dX8_findsWay_215 : decode cX8_findsWay 215 = .ok (.iload_n 3, 1) := by decide +kernel
theorem dX8_findsWay_216 : decode cX8_findsWay 216 = .ok (.iconst 1, 1) := by decide +kernel
theorem dX8_findsWay_217 : decode cX8_findsWay 217 = .ok (.isub, 1) := by decide +kernel
theorem dX8_findsWay_218 : decode cX8_findsWay 218 = .ok (.iaload, 1) := by decide +kernel
theorem dX8_findsWay_219 : decode cX8_findsWay 219 = .ok (.istore 4, 2) := by decide +kernel
theorem dX8_findsWay_221 : decode cX8_findsWay 221 = .ok (.aload_n 0, 1) := by decide +kernel
theorem dX8_findsWay_222 : decode cX8_findsWay 222 = .ok (.iload_n 3, 1) := by decide +kernel
theorem dX8_findsWay_223 : decode cX8_findsWay 223 = .ok (.iconst 1, 1) := by decide +kernel
theorem dX8_findsWay_224 : decode cX8_findsWay 224 = .ok (.isub, 1) := by decide +kernel
theorem dX8_findsWay_225 : decode cX8_findsWay 225 = .ok (.iload 4, 2) := by decide +kernel
theorem dX8_findsWay_227 : decode cX8_findsWay 227 = .ok (.invokevirtual 166, 3) := by decide +kernel
theorem dX8_findsWay_230 : decode cX8_findsWay 230 = .ok (.istore 5, 2) := by decide +kernel
theorem dX8_findsWay_232 : decode cX8_findsWay 232 = .ok (.aload_n 0, 1) := by decide +kernel
theorem dX8_findsWay_233 : decode cX8_findsWay 233 = .ok (.getfield 38, 3) := by decide +kernel
theorem dX8_findsWay_236 : decode cX8_findsWay 236 = .ok (.iload_n 3, 1) := by decide +kernel
theorem dX8_findsWay_237 : decode cX8_findsWay 237 = .ok (.iconst 1, 1) := by decide +kernel
theorem dX8_findsWay_238 : decode cX8_findsWay 238 = .ok (.aload_n 0, 1) := by decide +kernel
theorem dX8_findsWay_239 : decode cX8_findsWay 239 = .ok (.iload_n 3, 1) := by decide +kernel
theorem dX8_findsWay_240 : decode cX8_findsWay 240 = .ok (.iload 4, 2) := by decide +kernel
theorem dX8_findsWay_242 : decode cX8_findsWay 242 = .ok (.iconst 1, 1) := by decide +kernel
theorem dX8_findsWay_243 : decode cX8_findsWay 243 = .ok (.isub, 1) := by decide +kernel
theorem dX8_findsWay_244 : decode cX8_findsWay 244 = .ok (.invokevirtual 166, 3) := by decide +kernel
theorem dX8_findsWay_247 : decode cX8_findsWay 247 = .ok (.iadd, 1) := by decide +kernel
theorem dX8_findsWay_248 : decode cX8_findsWay 248 = .ok (.iload 5, 2) := by decide +kernel
theorem dX8_findsWay_250 : decode cX8_findsWay 250 = .ok (.if_icmp .ne 10, 3) := by decide +kernel
theorem dX8_findsWay_253 : decode cX8_findsWay 253 = .ok (.iload 4, 2) := by decide +kernel
theorem dX8_findsWay_255 : decode cX8_findsWay 255 = .ok (.iconst 1, 1) := by decide +kernel
theorem dX8_findsWay_256 : decode cX8_findsWay 256 = .ok (.isub, 1) := by decide +kernel
theorem dX8_findsWay_257 : decode cX8_findsWay 257 = .ok (.goto 24, 3) := by decide +kernel
theorem dX8_findsWay_260 : decode cX8_findsWay 260 = .ok (.aload_n 0, 1) := by decide +kernel
theorem dX8_findsWay_261 : decode cX8_findsWay 261 = .ok (.iload_n 3, 1) := by decide +kernel
theorem dX8_findsWay_262 : decode cX8_findsWay 262 = .ok (.iload 4, 2) := by decide +kernel
theorem dX8_findsWay_264 : decode cX8_findsWay 264 = .ok (.invokevirtual 166, 3) := by decide +kernel
theorem dX8_findsWay_267 : decode cX8_findsWay 267 = .ok (.iload 5, 2) := by decide +kernel
theorem dX8_findsWay_269 : decode cX8_findsWay 269 = .ok (.if_icmp .ne 8, 3) := by decide +kernel
theorem dX8_findsWay_272 : decode cX8_findsWay 272 = .ok (.iload 4, 2) := by decide +kernel
theorem dX8_findsWay_274 : decode cX8_findsWay 274 = .ok (.goto 7, 3) := by decide +kernel
theorem dX8_findsWay_277 : decode cX8_findsWay 277 = .ok (.iload 4, 2) := by decide +kernel
theorem dX8_findsWay_279 : decode cX8_findsWay 279 = .ok (.iconst 1, 1) := by decide +kernel
theorem dX8_findsWay_280 : decode cX8_findsWay 280 = .ok (.iadd, 1) := by decide +kernel
theorem dX8_findsWay_281 : decode cX8_findsWay 281 = .ok (.iastore, 1) := by decide +kernel
theorem dX8_findsWay_282 : decode cX8_findsWay 282 = .ok (.iinc 3 1, 3) := by decide +kernel
theorem dX8_findsWay_285 : decode cX8_findsWay 285 = .ok (.goto (-85), 3) := by decide +kernel
theorem dX8_findsWay_288 : decode cX8_findsWay 288 = .ok (.iload_n 2, 1) := by decide +kernel
theorem dX8_findsWay_289 : decode cX8_findsWay 289 = .ok (.bipush 100, 2) := by decide +kernel
theorem dX8_findsWay_291 : decode cX8_findsWay 291 = .ok (.if_icmp .ge 7, 3) := by decide +kernel
theorem dX8_findsWay_294 : decode cX8_findsWay 294 = .ok (.iload_n 2, 1) := by decide +kernel
theorem dX8_findsWay_295 : decode cX8_findsWay 295 = .ok (.goto 5, 3) := by decide +kernel
theorem dX8_findsWay_298 : decode cX8_findsWay 298 = .ok (.bipush (-4), 2) := by decide +kernel
theorem dX8_findsWay_300 : decode cX8_findsWay 300 = .ok (.ireturn, 1) := by decide +kernel
theorem dX8_way_0 : decode cX8_way 0 = .ok (.iload_n 1, 1) := by decide +kernel
theorem dX8_way_1 : decode cX8_way 1 = .ok (.iconst 1, 1) := by decide +kernel
theorem dX8_way_2 : decode cX8_way 2 = .ok (.bipush 30, 2) := by decide +kernel
theorem dX8_way_4 : decode cX8_way 4 = .ok (.invokestatic 49, 3) := by decide +kernel
theorem dX8_way_7 : decode cX8_way 7 = .ok (.ifCond .eq 12, 3) := by decide +kernel
theorem dX8_way_10 : decode cX8_way 10 = .ok (.iload_n 2, 1) := by decide +kernel
theorem dX8_way_11 : decode cX8_way 11 = .ok (.iconst 0, 1) := by decide +kernel
theorem dX8_way_12 : decode cX8_way 12 = .ok (.iload_n 1, 1) := by decide +kernel
theorem dX8_way_13 : decode cX8_way 13 = .ok (.invokestatic 49, 3) := by decide +kernel
theorem dX8_way_16 : decode cX8_way 16 = .ok (.ifCond .ne 5, 3) := by decide +kernel
theorem dX8_way_19 : decode cX8_way 19 = .ok (.iconst (-1), 1) := by decide +kernel
theorem dX8_way_20 : decode cX8_way 20 = .ok (.ireturn, 1) := by decide +kernel
theorem dX8_way_21 : decode cX8_way 21 = .ok (.aload_n 0, 1) := by decide +kernel
theorem dX8_way_22 : decode cX8_way 22 = .ok (.iload_n 1, 1) := by decide +kernel
theorem dX8_way_23 : decode cX8_way 23 = .ok (.invokevirtual 169, 3) := by decide +kernel
theorem dX8_way_26 : decode cX8_way 26 = .ok (.ifCond .ge 8, 3) := by decide +kernel
theorem dX8_way_29 : decode cX8_way 29 = .ok (.bipush (-4), 2) := by decide +kernel
theorem dX8_way_31 : decode cX8_way 31 = .ok (.goto 9, 3) := by decide +kernel
theorem dX8_way_34 : decode cX8_way 34 = .ok (.aload_n 0, 1) := by decide +kernel
theorem dX8_way_35 : decode cX8_way 35 = .ok (.getfield 38, 3) := by decide +kernel
theorem dX8_way_38 : decode cX8_way 38 = .ok (.iload_n 2, 1) := by decide +kernel
theorem dX8_way_39 : decode cX8_way 39 = .ok (.iaload, 1) := by decide +kernel
theorem dX8_way_40 : decode cX8_way 40 = .ok (.ireturn, 1) := by decide +kernel
theorem dX8_asides_0 : decode cX8_asides 0 = .ok (.iload_n 1, 1) := by decide +kernel
theorem dX8_asides_1 : decode cX8_asides 1 = .ok (.iconst 1, 1) := by decide +kernel
theorem dX8_asides_2 : decode cX8_asides 2 = .ok (.bipush 30, 2) := by decide +kernel
theorem dX8_asides_4 : decode cX8_asides 4 = .ok (.invokestatic 49, 3) := by decide +kernel
theorem dX8_asides_7 : decode cX8_asides 7 = .ok (.ifCond .eq 11, 3) := by decide +kernel
theorem dX8_asides_10 : decode cX8_asides 10 = .ok (.aload_n 0, 1) := by decide +kernel
theorem dX8_asides_11 : decode cX8_asides 11 = .ok (.iload_n 1, 1) := by decide +kernel
theorem dX8_asides_12 : decode cX8_asides 12 = .ok (.invokevirtual 169, 3) := by decide +kernel
theorem dX8_asides_15 : decode cX8_asides 15 = .ok (.goto 4, 3) := by decide +kernel
theorem dX8_asides_18 : decode cX8_asides 18 = .ok (.iconst (-1), 1) := by decide +kernel
theorem dX8_asides_19 : decode cX8_asides 19 = .ok (.ireturn, 1) := by decide +kernel
theorem dX8_fair_0 : decode cX8_fair 0 = .ok (.aload_n 0, 1) := by decide +kernel
theorem dX8_fair_1 : decode cX8_fair 1 = .ok (.bipush 30, 2) := by decide +kernel
theorem dX8_fair_3 : decode cX8_fair 3 = .ok (.bipush (-4), 2) := by decide +kernel
theorem dX8_fair_5 : decode cX8_fair 5 = .ok (.invokevirtual 157, 3) := by decide +kernel
theorem dX8_fair_8 : decode cX8_fair 8 = .ok (.iconst 0, 1) := by decide +kernel
theorem dX8_fair_9 : decode cX8_fair 9 = .ok (.istore_n 1, 1) := by decide +kernel
theorem dX8_fair_10 : decode cX8_fair 10 = .ok (.iload_n 1, 1) := by decide +kernel
theorem dX8_fair_11 : decode cX8_fair 11 = .ok (.bipush 30, 2) := by decide +kernel
theorem dX8_fair_13 : decode cX8_fair 13 = .ok (.if_icmp .ge 19, 3) := by decide +kernel
theorem dX8_fair_16 : decode cX8_fair 16 = .ok (.aload_n 0, 1) := by decide +kernel
theorem dX8_fair_17 : decode cX8_fair 17 = .ok (.iload_n 1, 1) := by decide +kernel
theorem dX8_fair_18 : decode cX8_fair 18 = .ok (.iconst 1, 1) := by decide +kernel
theorem dX8_fair_19 : decode cX8_fair 19 = .ok (.iadd, 1) := by decide +kernel
theorem dX8_fair_20 : decode cX8_fair 20 = .ok (.invokevirtual 160, 3) := by decide +kernel
theorem dX8_fair_23 : decode cX8_fair 23 = .ok (.ifCond .eq 9, 3) := by decide +kernel
theorem dX8_fair_26 : decode cX8_fair 26 = .ok (.iinc 1 1, 3) := by decide +kernel
theorem dX8_fair_29 : decode cX8_fair 29 = .ok (.goto (-19), 3) := by decide +kernel
theorem dX8_fair_32 : decode cX8_fair 32 = .ok (.iload_n 1, 1) := by decide +kernel
theorem dX8_fair_33 : decode cX8_fair 33 = .ok (.ireturn, 1) := by decide +kernel
theorem dX8_opens_0 : decode cX8_opens 0 = .ok (.aload_n 0, 1) := by decide +kernel
theorem dX8_opens_1 : decode cX8_opens 1 = .ok (.iload_n 1, 1) := by decide +kernel
theorem dX8_opens_2 : decode cX8_opens 2 = .ok (.iload_n 2, 1) := by decide +kernel
theorem dX8_opens_3 : decode cX8_opens 3 = .ok (.invokevirtual 157, 3) := by decide +kernel
theorem dX8_opens_6 : decode cX8_opens 6 = .ok (.iconst 0, 1) := by decide +kernel
theorem dX8_opens_7 : decode cX8_opens 7 = .ok (.istore_n 3, 1) := by decide +kernel
theorem dX8_opens_8 : decode cX8_opens 8 = .ok (.iconst 1, 1) := by decide +kernel
theorem dX8_opens_9 : decode cX8_opens 9 = .ok (.istore 4, 2) := by decide +kernel
theorem dX8_opens_11 : decode cX8_opens 11 = .ok (.iload 4, 2) := by decide +kernel
theorem dX8_opens_13 : decode cX8_opens 13 = .ok (.iload_n 1, 1) := by decide +kernel
theorem dX8_opens_14 : decode cX8_opens 14 = .ok (.if_icmp .gt 22, 3) := by decide +kernel
theorem dX8_opens_17 : decode cX8_opens 17 = .ok (.iload_n 3, 1) := by decide +kernel
theorem dX8_opens_18 : decode cX8_opens 18 = .ok (.aload_n 0, 1) := by decide +kernel
theorem dX8_opens_19 : decode cX8_opens 19 = .ok (.getfield 32, 3) := by decide +kernel
theorem dX8_opens_22 : decode cX8_opens 22 = .ok (.iload 4, 2) := by decide +kernel
theorem dX8_opens_24 : decode cX8_opens 24 = .ok (.iaload, 1) := by decide +kernel
theorem dX8_opens_25 : decode cX8_opens 25 = .ok (.invokestatic 163, 3) := by decide +kernel
theorem dX8_opens_28 : decode cX8_opens 28 = .ok (.iadd, 1) := by decide +kernel
theorem dX8_opens_29 : decode cX8_opens 29 = .ok (.istore_n 3, 1) := by decide +kernel
theorem dX8_opens_30 : decode cX8_opens 30 = .ok (.iinc 4 1, 3) := by decide +kernel
theorem dX8_opens_33 : decode cX8_opens 33 = .ok (.goto (-22), 3) := by decide +kernel
theorem dX8_opens_36 : decode cX8_opens 36 = .ok (.iload_n 3, 1) := by decide +kernel
theorem dX8_opens_37 : decode cX8_opens 37 = .ok (.ireturn, 1) := by decide +kernel
theorem dX8_shuts_0 : decode cX8_shuts 0 = .ok (.iload_n 1, 1) := by decide +kernel
theorem dX8_shuts_1 : decode cX8_shuts 1 = .ok (.iconst 1, 1) := by decide +kernel
theorem dX8_shuts_2 : decode cX8_shuts 2 = .ok (.bipush 30, 2) := by decide +kernel
theorem dX8_shuts_4 : decode cX8_shuts 4 = .ok (.invokestatic 49, 3) := by decide +kernel
theorem dX8_shuts_7 : decode cX8_shuts 7 = .ok (.ifCond .ne 5, 3) := by decide +kernel
theorem dX8_shuts_10 : decode cX8_shuts 10 = .ok (.iconst (-1), 1) := by decide +kernel
theorem dX8_shuts_11 : decode cX8_shuts 11 = .ok (.ireturn, 1) := by decide +kernel
theorem dX8_shuts_12 : decode cX8_shuts 12 = .ok (.aload_n 0, 1) := by decide +kernel
theorem dX8_shuts_13 : decode cX8_shuts 13 = .ok (.getfield 7, 3) := by decide +kernel
theorem dX8_shuts_16 : decode cX8_shuts 16 = .ok (.iconst 0, 1) := by decide +kernel
theorem dX8_shuts_17 : decode cX8_shuts 17 = .ok (.iaload, 1) := by decide +kernel
theorem dX8_shuts_18 : decode cX8_shuts 18 = .ok (.ifCond .ne 6, 3) := by decide +kernel
theorem dX8_shuts_21 : decode cX8_shuts 21 = .ok (.bipush (-2), 2) := by decide +kernel
theorem dX8_shuts_23 : decode cX8_shuts 23 = .ok (.ireturn, 1) := by decide +kernel
theorem dX8_shuts_24 : decode cX8_shuts 24 = .ok (.iconst 0, 1) := by decide +kernel
theorem dX8_shuts_25 : decode cX8_shuts 25 = .ok (.istore_n 2, 1) := by decide +kernel
theorem dX8_shuts_26 : decode cX8_shuts 26 = .ok (.iconst (-1), 1) := by decide +kernel
theorem dX8_shuts_27 : decode cX8_shuts 27 = .ok (.istore_n 3, 1) := by decide +kernel
theorem dX8_shuts_28 : decode cX8_shuts 28 = .ok (.iconst 0, 1) := by decide +kernel
theorem dX8_shuts_29 : decode cX8_shuts 29 = .ok (.istore 4, 2) := by decide +kernel
theorem dX8_shuts_31 : decode cX8_shuts 31 = .ok (.iload 4, 2) := by decide +kernel
theorem dX8_shuts_33 : decode cX8_shuts 33 = .ok (.aload_n 0, 1) := by decide +kernel
theorem dX8_shuts_34 : decode cX8_shuts 34 = .ok (.getfield 7, 3) := by decide +kernel
theorem dX8_shuts_37 : decode cX8_shuts 37 = .ok (.iconst 0, 1) := by decide +kernel
theorem dX8_shuts_38 : decode cX8_shuts 38 = .ok (.iaload, 1) := by decide +kernel
theorem dX8_shuts_39 : decode cX8_shuts 39 = .ok (.if_icmp .ge 44, 3) := by decide +kernel
theorem dX8_shuts_42 : decode cX8_shuts 42 = .ok (.aload_n 0, 1) := by decide +kernel
theorem dX8_shuts_43 : decode cX8_shuts 43 = .ok (.iload_n 1, 1) := by decide +kernel
theorem dX8_shuts_44 : decode cX8_shuts 44 = .ok (.iload 4, 2) := by decide +kernel
theorem dX8_shuts_46 : decode cX8_shuts 46 = .ok (.invokevirtual 172, 3) := by decide +kernel
theorem dX8_shuts_49 : decode cX8_shuts 49 = .ok (.istore 5, 2) := by decide +kernel
theorem dX8_shuts_51 : decode cX8_shuts 51 = .ok (.iload 5, 2) := by decide +kernel
theorem dX8_shuts_53 : decode cX8_shuts 53 = .ok (.iload_n 3, 1) := by decide +kernel
theorem dX8_shuts_54 : decode cX8_shuts 54 = .ok (.if_icmp .le 8, 3) := by decide +kernel
theorem dX8_shuts_57 : decode cX8_shuts 57 = .ok (.iload 4, 2) := by decide +kernel
theorem dX8_shuts_59 : decode cX8_shuts 59 = .ok (.goto 4, 3) := by decide +kernel
theorem dX8_shuts_62 : decode cX8_shuts 62 = .ok (.iload_n 2, 1) := by decide +kernel
theorem dX8_shuts_63 : decode cX8_shuts 63 = .ok (.istore_n 2, 1) := by decide +kernel
theorem dX8_shuts_64 : decode cX8_shuts 64 = .ok (.iload 5, 2) := by decide +kernel
theorem dX8_shuts_66 : decode cX8_shuts 66 = .ok (.iload_n 3, 1) := by decide +kernel
theorem dX8_shuts_67 : decode cX8_shuts 67 = .ok (.if_icmp .le 8, 3) := by decide +kernel
theorem dX8_shuts_70 : decode cX8_shuts 70 = .ok (.iload 5, 2) := by decide +kernel
theorem dX8_shuts_72 : decode cX8_shuts 72 = .ok (.goto 4, 3) := by decide +kernel
theorem dX8_shuts_75 : decode cX8_shuts 75 = .ok (.iload_n 3, 1) := by decide +kernel
theorem dX8_shuts_76 : decode cX8_shuts 76 = .ok (.istore_n 3, 1) := by decide +kernel
theorem dX8_shuts_77 : decode cX8_shuts 77 = .ok (.iinc 4 1, 3) := by decide +kernel
theorem dX8_shuts_80 : decode cX8_shuts 80 = .ok (.goto (-49), 3) := by decide +kernel
theorem dX8_shuts_83 : decode cX8_shuts 83 = .ok (.iload_n 2, 1) := by decide +kernel
theorem dX8_shuts_84 : decode cX8_shuts 84 = .ok (.ireturn, 1) := by decide +kernel
theorem dX8_openness_0 : decode cX8_openness 0 = .ok (.iload_n 1, 1) := by decide +kernel
theorem dX8_openness_1 : decode cX8_openness 1 = .ok (.iconst 1, 1) := by decide +kernel
theorem dX8_openness_2 : decode cX8_openness 2 = .ok (.bipush 30, 2) := by decide +kernel
theorem dX8_openness_4 : decode cX8_openness 4 = .ok (.invokestatic 49, 3) := by decide +kernel
theorem dX8_openness_7 : decode cX8_openness 7 = .ok (.ifCond .eq 20, 3) := by decide +kernel
theorem dX8_openness_10 : decode cX8_openness 10 = .ok (.aload_n 0, 1) := by decide +kernel
theorem dX8_openness_11 : decode cX8_openness 11 = .ok (.iload_n 1, 1) := by decide +kernel
theorem dX8_openness_12 : decode cX8_openness 12 = .ok (.bipush (-4), 2) := by decide +kernel
theorem dX8_openness_14 : decode cX8_openness 14 = .ok (.invokevirtual 172, 3) := by decide +kernel
theorem dX8_openness_17 : decode cX8_openness 17 = .ok (.i2d, 1) := by decide +kernel
theorem dX8_openness_18 : decode cX8_openness 18 = .ok (.bipush 10, 2) := by decide +kernel
theorem dX8_openness_20 : decode cX8_openness 20 = .ok (.iload_n 1, 1) := by decide +kernel
theorem dX8_openness_21 : decode cX8_openness 21 = .ok (.imul, 1) := by decide +kernel
theorem dX8_openness_22 : decode cX8_openness 22 = .ok (.i2d, 1) := by decide +kernel
theorem dX8_openness_23 : decode cX8_openness 23 = .ok (.ddiv, 1) := by decide +kernel
theorem dX8_openness_24 : decode cX8_openness 24 = .ok (.goto 6, 3) := by decide +kernel
theorem dX8_openness_27 : decode cX8_openness 27 = .ok (.ldc2_w 175, 3) := by decide +kernel
theorem dX8_openness_30 : decode cX8_openness 30 = .ok (.dreturn, 1) := by decide +kernel
theorem dX8_ifStepped_0 : decode cX8_ifStepped 0 = .ok (.iload_n 1, 1) := by decide +kernel
theorem dX8_ifStepped_1 : decode cX8_ifStepped 1 = .ok (.iconst (-1), 1) := by decide +kernel
theorem dX8_ifStepped_2 : decode cX8_ifStepped 2 = .ok (.iconst 1, 1) := by decide +kernel
theorem dX8_ifStepped_3 : decode cX8_ifStepped 3 = .ok (.invokestatic 49, 3) := by decide +kernel
theorem dX8_ifStepped_6 : decode cX8_ifStepped 6 = .ok (.ifCond .eq 22, 3) := by decide +kernel
theorem dX8_ifStepped_9 : decode cX8_ifStepped 9 = .ok (.iload_n 2, 1) := by decide +kernel
theorem dX8_ifStepped_10 : decode cX8_ifStepped 10 = .ok (.iconst 1, 1) := by decide +kernel
theorem dX8_ifStepped_11 : decode cX8_ifStepped 11 = .ok (.bipush 30, 2) := by decide +kernel
theorem dX8_ifStepped_13 : decode cX8_ifStepped 13 = .ok (.invokestatic 49, 3) := by decide +kernel
theorem dX8_ifStepped_16 : decode cX8_ifStepped 16 = .ok (.ifCond .eq 12, 3) := by decide +kernel
theorem dX8_ifStepped_19 : decode cX8_ifStepped 19 = .ok (.iload_n 3, 1) := by decide +kernel
theorem dX8_ifStepped_20 : decode cX8_ifStepped 20 = .ok (.iconst 0, 1) := by decide +kernel
theorem dX8_ifStepped_21 : decode cX8_ifStepped 21 = .ok (.iconst 2, 1) := by decide +kernel
theorem dX8_ifStepped_22 : decode cX8_ifStepped 22 = .ok (.invokestatic 49, 3) := by decide +kernel
theorem dX8_ifStepped_25 : decode cX8_ifStepped 25 = .ok (.ifCond .ne 5, 3) := by decide +kernel
theorem dX8_ifStepped_28 : decode cX8_ifStepped 28 = .ok (.iconst (-1), 1) := by decide +kernel
theorem dX8_ifStepped_29 : decode cX8_ifStepped 29 = .ok (.ireturn, 1) := by decide +kernel
theorem dX8_ifStepped_30 : decode cX8_ifStepped 30 = .ok (.aload_n 0, 1) := by decide +kernel
theorem dX8_ifStepped_31 : decode cX8_ifStepped 31 = .ok (.getfield 7, 3) := by decide +kernel
theorem dX8_ifStepped_34 : decode cX8_ifStepped 34 = .ok (.bipush 6, 2) := by decide +kernel
theorem dX8_ifStepped_36 : decode cX8_ifStepped 36 = .ok (.iaload, 1) := by decide +kernel
theorem dX8_ifStepped_37 : decode cX8_ifStepped 37 = .ok (.iconst 1, 1) := by decide +kernel
theorem dX8_ifStepped_38 : decode cX8_ifStepped 38 = .ok (.if_icmp .ne 6, 3) := by decide +kernel
theorem dX8_ifStepped_41 : decode cX8_ifStepped 41 = .ok (.bipush (-2), 2) := by decide +kernel
theorem dX8_ifStepped_43 : decode cX8_ifStepped 43 = .ok (.ireturn, 1) := by decide +kernel
theorem dX8_ifStepped_44 : decode cX8_ifStepped 44 = .ok (.aload_n 0, 1) := by decide +kernel
theorem dX8_ifStepped_45 : decode cX8_ifStepped 45 = .ok (.getfield 7, 3) := by decide +kernel
theorem dX8_ifStepped_48 : decode cX8_ifStepped 48 = .ok (.iconst 0, 1) := by decide +kernel
theorem dX8_ifStepped_49 : decode cX8_ifStepped 49 = .ok (.aload_n 0, 1) := by decide +kernel
theorem dX8_ifStepped_50 : decode cX8_ifStepped 50 = .ok (.getfield 13, 3) := by decide +kernel
theorem dX8_ifStepped_53 : decode cX8_ifStepped 53 = .ok (.iconst 0, 1) := by decide +kernel
theorem dX8_ifStepped_54 : decode cX8_ifStepped 54 = .ok (.invokestatic 45, 3) := by decide +kernel
theorem dX8_ifStepped_57 : decode cX8_ifStepped 57 = .ok (.iconst 0, 1) := by decide +kernel
theorem dX8_ifStepped_58 : decode cX8_ifStepped 58 = .ok (.istore 4, 2) := by decide +kernel
theorem dX8_ifStepped_60 : decode cX8_ifStepped 60 = .ok (.iload 4, 2) := by decide +kernel
theorem dX8_ifStepped_62 : decode cX8_ifStepped 62 = .ok (.iload_n 2, 1) := by decide +kernel
theorem dX8_ifStepped_63 : decode cX8_ifStepped 63 = .ok (.if_icmp .ge 26, 3) := by decide +kernel
theorem dX8_ifStepped_66 : decode cX8_ifStepped 66 = .ok (.aload_n 0, 1) := by decide +kernel
theorem dX8_ifStepped_67 : decode cX8_ifStepped 67 = .ok (.getfield 7, 3) := by decide +kernel
theorem dX8_ifStepped_70 : decode cX8_ifStepped 70 = .ok (.bipush 6, 2) := by decide +kernel
theorem dX8_ifStepped_72 : decode cX8_ifStepped 72 = .ok (.iaload, 1) := by decide +kernel
theorem dX8_ifStepped_73 : decode cX8_ifStepped 73 = .ok (.ifCond .ne 16, 3) := by decide +kernel
theorem dX8_ifStepped_76 : decode cX8_ifStepped 76 = .ok (.aload_n 0, 1) := by decide +kernel
theorem dX8_ifStepped_77 : decode cX8_ifStepped 77 = .ok (.iload_n 1, 1) := by decide +kernel
theorem dX8_ifStepped_78 : decode cX8_ifStepped 78 = .ok (.invokevirtual 105, 3) := by decide +kernel
theorem dX8_ifStepped_81 : decode cX8_ifStepped 81 = .ok (.istore 5, 2) := by decide +kernel
theorem dX8_ifStepped_83 : decode cX8_ifStepped 83 = .ok (.iinc 4 1, 3) := by decide +kernel
theorem dX8_ifStepped_86 : decode cX8_ifStepped 86 = .ok (.goto (-26), 3) := by decide +kernel
theorem dX8_ifStepped_89 : decode cX8_ifStepped 89 = .ok (.iload_n 3, 1) := by decide +kernel
theorem dX8_ifStepped_90 : decode cX8_ifStepped 90 = .ok (.ifCond .ne 21, 3) := by decide +kernel
theorem dX8_ifStepped_93 : decode cX8_ifStepped 93 = .ok (.aload_n 0, 1) := by decide +kernel
theorem dX8_ifStepped_94 : decode cX8_ifStepped 94 = .ok (.getfield 7, 3) := by decide +kernel
theorem dX8_ifStepped_97 : decode cX8_ifStepped 97 = .ok (.bipush 14, 2) := by decide +kernel
theorem dX8_ifStepped_99 : decode cX8_ifStepped 99 = .ok (.iaload, 1) := by decide +kernel
theorem dX8_ifStepped_100 : decode cX8_ifStepped 100 = .ok (.aload_n 0, 1) := by decide +kernel
theorem dX8_ifStepped_101 : decode cX8_ifStepped 101 = .ok (.getfield 13, 3) := by decide +kernel
theorem dX8_ifStepped_104 : decode cX8_ifStepped 104 = .ok (.bipush 14, 2) := by decide +kernel
theorem dX8_ifStepped_106 : decode cX8_ifStepped 106 = .ok (.iaload, 1) := by decide +kernel
theorem dX8_ifStepped_107 : decode cX8_ifStepped 107 = .ok (.isub, 1) := by decide +kernel
theorem dX8_ifStepped_108 : decode cX8_ifStepped 108 = .ok (.goto 44, 3) := by decide +kernel
theorem dX8_ifStepped_111 : decode cX8_ifStepped 111 = .ok (.iload_n 3, 1) := by decide +kernel
theorem dX8_ifStepped_112 : decode cX8_ifStepped 112 = .ok (.iconst 1, 1) := by decide +kernel
theorem dX8_ifStepped_113 : decode cX8_ifStepped 113 = .ok (.if_icmp .ne 21, 3) := by decide +kernel
theorem dX8_ifStepped_116 : decode cX8_ifStepped 116 = .ok (.aload_n 0, 1) := by decide +kernel
theorem dX8_ifStepped_117 : decode cX8_ifStepped 117 = .ok (.getfield 7, 3) := by decide +kernel
theorem dX8_ifStepped_120 : decode cX8_ifStepped 120 = .ok (.bipush 13, 2) := by decide +kernel
theorem dX8_ifStepped_122 : decode cX8_ifStepped 122 = .ok (.iaload, 1) := by decide +kernel
theorem dX8_ifStepped_123 : decode cX8_ifStepped 123 = .ok (.aload_n 0, 1) := by decide +kernel
theorem dX8_ifStepped_124 : decode cX8_ifStepped 124 = .ok (.getfield 13, 3) := by decide +kernel
theorem dX8_ifStepped_127 : decode cX8_ifStepped 127 = .ok (.bipush 13, 2) := by decide +kernel
theorem dX8_ifStepped_129 : decode cX8_ifStepped 129 = .ok (.iaload, 1) := by decide +kernel
theorem dX8_ifStepped_130 : decode cX8_ifStepped 130 = .ok (.isub, 1) := by decide +kernel
theorem dX8_ifStepped_131 : decode cX8_ifStepped 131 = .ok (.goto 21, 3) := by decide +kernel
theorem dX8_ifStepped_134 : decode cX8_ifStepped 134 = .ok (.aload_n 0, 1) := by decide +kernel
theorem dX8_ifStepped_135 : decode cX8_ifStepped 135 = .ok (.getfield 7, 3) := by decide +kernel
theorem dX8_ifStepped_138 : decode cX8_ifStepped 138 = .ok (.bipush 6, 2) := by decide +kernel
theorem dX8_ifStepped_140 : decode cX8_ifStepped 140 = .ok (.iaload, 1) := by decide +kernel
theorem dX8_ifStepped_141 : decode cX8_ifStepped 141 = .ok (.iconst 1, 1) := by decide +kernel
theorem dX8_ifStepped_142 : decode cX8_ifStepped 142 = .ok (.if_icmp .ne 8, 3) := by decide +kernel
theorem dX8_ifStepped_145 : decode cX8_ifStepped 145 = .ok (.iload 4, 2) := by decide +kernel
theorem dX8_ifStepped_147 : decode cX8_ifStepped 147 = .ok (.goto 5, 3) := by decide +kernel
theorem dX8_ifStepped_150 : decode cX8_ifStepped 150 = .ok (.bipush (-4), 2) := by decide +kernel
theorem dX8_ifStepped_152 : decode cX8_ifStepped 152 = .ok (.istore 5, 2) := by decide +kernel
theorem dX8_ifStepped_154 : decode cX8_ifStepped 154 = .ok (.aload_n 0, 1) := by decide +kernel
theorem dX8_ifStepped_155 : decode cX8_ifStepped 155 = .ok (.getfield 13, 3) := by decide +kernel
theorem dX8_ifStepped_158 : decode cX8_ifStepped 158 = .ok (.iconst 0, 1) := by decide +kernel
theorem dX8_ifStepped_159 : decode cX8_ifStepped 159 = .ok (.aload_n 0, 1) := by decide +kernel
theorem dX8_ifStepped_160 : decode cX8_ifStepped 160 = .ok (.getfield 7, 3) := by decide +kernel
theorem dX8_ifStepped_163 : decode cX8_ifStepped 163 = .ok (.iconst 0, 1) := by decide +kernel
theorem dX8_ifStepped_164 : decode cX8_ifStepped 164 = .ok (.invokestatic 45, 3) := by decide +kernel
theorem dX8_ifStepped_167 : decode cX8_ifStepped 167 = .ok (.iload 5, 2) := by decide +kernel
theorem dX8_ifStepped_169 : decode cX8_ifStepped 169 = .ok (.ireturn, 1) := by decide +kernel
theorem dX8_undo_0 : decode cX8_undo 0 = .ok (.aload_n 0, 1) := by decide +kernel
theorem dX8_undo_1 : decode cX8_undo 1 = .ok (.getfield 41, 3) := by decide +kernel
theorem dX8_undo_4 : decode cX8_undo 4 = .ok (.ifCond .ne 6, 3) := by decide +kernel
theorem dX8_undo_7 : decode cX8_undo 7 = .ok (.bipush (-2), 2) := by decide +kernel
theorem dX8_undo_9 : decode cX8_undo 9 = .ok (.ireturn, 1) := by decide +kernel
theorem dX8_undo_10 : decode cX8_undo 10 = .ok (.aload_n 0, 1) := by decide +kernel
theorem dX8_undo_11 : decode cX8_undo 11 = .ok (.dup, 1) := by decide +kernel
theorem dX8_undo_12 : decode cX8_undo 12 = .ok (.getfield 41, 3) := by decide +kernel
theorem dX8_undo_15 : decode cX8_undo 15 = .ok (.iconst 1, 1) := by decide +kernel
theorem dX8_undo_16 : decode cX8_undo 16 = .ok (.isub, 1) := by decide +kernel
theorem dX8_undo_17 : decode cX8_undo 17 = .ok (.putfield 41, 3) := by decide +kernel
theorem dX8_undo_20 : decode cX8_undo 20 = .ok (.aload_n 0, 1) := by decide +kernel
theorem dX8_undo_21 : decode cX8_undo 21 = .ok (.getfield 16, 3) := by decide +kernel
theorem dX8_undo_24 : decode cX8_undo 24 = .ok (.sipush 333, 3) := by decide +kernel
theorem dX8_undo_27 : decode cX8_undo 27 = .ok (.aload_n 0, 1) := by decide +kernel
theorem dX8_undo_28 : decode cX8_undo 28 = .ok (.getfield 41, 3) := by decide +kernel
theorem dX8_undo_31 : decode cX8_undo 31 = .ok (.imul, 1) := by decide +kernel
theorem dX8_undo_32 : decode cX8_undo 32 = .ok (.aload_n 0, 1) := by decide +kernel
theorem dX8_undo_33 : decode cX8_undo 33 = .ok (.getfield 7, 3) := by decide +kernel
theorem dX8_undo_36 : decode cX8_undo 36 = .ok (.iconst 0, 1) := by decide +kernel
theorem dX8_undo_37 : decode cX8_undo 37 = .ok (.invokestatic 45, 3) := by decide +kernel
theorem dX8_undo_40 : decode cX8_undo 40 = .ok (.aload_n 0, 1) := by decide +kernel
theorem dX8_undo_41 : decode cX8_undo 41 = .ok (.getfield 41, 3) := by decide +kernel
theorem dX8_undo_44 : decode cX8_undo 44 = .ok (.ireturn, 1) := by decide +kernel
theorem dX8_save_0 : decode cX8_save 0 = .ok (.aload_n 0, 1) := by decide +kernel
theorem dX8_save_1 : decode cX8_save 1 = .ok (.getfield 7, 3) := by decide +kernel
theorem dX8_save_4 : decode cX8_save 4 = .ok (.iconst 0, 1) := by decide +kernel
theorem dX8_save_5 : decode cX8_save 5 = .ok (.aload_n 0, 1) := by decide +kernel
theorem dX8_save_6 : decode cX8_save 6 = .ok (.getfield 19, 3) := by decide +kernel
theorem dX8_save_9 : decode cX8_save 9 = .ok (.iconst 0, 1) := by decide +kernel
theorem dX8_save_10 : decode cX8_save 10 = .ok (.invokestatic 45, 3) := by decide +kernel
theorem dX8_save_13 : decode cX8_save 13 = .ok (.aload_n 0, 1) := by decide +kernel
theorem dX8_save_14 : decode cX8_save 14 = .ok (.iconst 1, 1) := by decide +kernel
theorem dX8_save_15 : decode cX8_save 15 = .ok (.putfield 177, 3) := by decide +kernel
theorem dX8_save_18 : decode cX8_save 18 = .ok (.aload_n 0, 1) := by decide +kernel
theorem dX8_save_19 : decode cX8_save 19 = .ok (.getfield 7, 3) := by decide +kernel
theorem dX8_save_22 : decode cX8_save 22 = .ok (.iconst 5, 1) := by decide +kernel
theorem dX8_save_23 : decode cX8_save 23 = .ok (.iaload, 1) := by decide +kernel
theorem dX8_save_24 : decode cX8_save 24 = .ok (.ireturn, 1) := by decide +kernel
theorem dX8_restore_0 : decode cX8_restore 0 = .ok (.aload_n 0, 1) := by decide +kernel
theorem dX8_restore_1 : decode cX8_restore 1 = .ok (.getfield 177, 3) := by decide +kernel
theorem dX8_restore_4 : decode cX8_restore 4 = .ok (.ifCond .ne 6, 3) := by decide +kernel
theorem dX8_restore_7 : decode cX8_restore 7 = .ok (.bipush (-2), 2) := by decide +kernel
theorem dX8_restore_9 : decode cX8_restore 9 = .ok (.ireturn, 1) := by decide +kernel
theorem dX8_restore_10 : decode cX8_restore 10 = .ok (.aload_n 0, 1) := by decide +kernel
theorem dX8_restore_11 : decode cX8_restore 11 = .ok (.invokevirtual 90, 3) := by decide +kernel
theorem dX8_restore_14 : decode cX8_restore 14 = .ok (.aload_n 0, 1) := by decide +kernel
theorem dX8_restore_15 : decode cX8_restore 15 = .ok (.getfield 19, 3) := by decide +kernel
theorem dX8_restore_18 : decode cX8_restore 18 = .ok (.iconst 0, 1) := by decide +kernel
theorem dX8_restore_19 : decode cX8_restore 19 = .ok (.aload_n 0, 1) := by decide +kernel
theorem dX8_restore_20 : decode cX8_restore 20 = .ok (.getfield 7, 3) := by decide +kernel
theorem dX8_restore_23 : decode cX8_restore 23 = .ok (.iconst 0, 1) := by decide +kernel
theorem dX8_restore_24 : decode cX8_restore 24 = .ok (.invokestatic 45, 3) := by decide +kernel
theorem dX8_restore_27 : decode cX8_restore 27 = .ok (.aload_n 0, 1) := by decide +kernel
theorem dX8_restore_28 : decode cX8_restore 28 = .ok (.getfield 7, 3) := by decide +kernel
theorem dX8_restore_31 : decode cX8_restore 31 = .ok (.iconst 5, 1) := by decide +kernel
theorem dX8_restore_32 : decode cX8_restore 32 = .ok (.iaload, 1) := by decide +kernel
theorem dX8_restore_33 : decode cX8_restore 33 = .ok (.ireturn, 1) := by decide +kernel
end
section
theorem dJ6_compare_7cf53_0 : decode cJ6_compare_7cf53 0 = .ok (.iload_n 0, 1) := by decide +kernel
theorem dJ6_compare_7cf53_1 : decode cJ6_compare_7cf53 1 = .ok (.iload_n 1, 1) := by decide +kernel
theorem dJ6_compare_7cf53_2 : decode cJ6_compare_7cf53 2 = .ok (.if_icmp .ge 7, 3) := by decide +kernel
theorem dJ6_compare_7cf53_5 : decode cJ6_compare_7cf53 5 = .ok (.iconst (-1), 1) := by decide +kernel
theorem dJ6_compare_7cf53_6 : decode cJ6_compare_7cf53 6 = .ok (.goto 13, 3) := by decide +kernel
theorem dJ6_compare_7cf53_9 : decode cJ6_compare_7cf53 9 = .ok (.iload_n 0, 1) := by decide +kernel
theorem dJ6_compare_7cf53_10 : decode cJ6_compare_7cf53 10 = .ok (.iload_n 1, 1) := by decide +kernel
theorem dJ6_compare_7cf53_11 : decode cJ6_compare_7cf53 11 = .ok (.if_icmp .ne 7, 3) := by decide +kernel
theorem dJ6_compare_7cf53_14 : decode cJ6_compare_7cf53 14 = .ok (.iconst 0, 1) := by decide +kernel
theorem dJ6_compare_7cf53_15 : decode cJ6_compare_7cf53 15 = .ok (.goto 4, 3) := by decide +kernel
theorem dJ6_compare_7cf53_18 : decode cJ6_compare_7cf53 18 = .ok (.iconst 1, 1) := by decide +kernel
theorem dJ6_compare_7cf53_19 : decode cJ6_compare_7cf53 19 = .ok (.ireturn, 1) := by decide +kernel
theorem dJ6_bitCount_0f7a4_0 : decode cJ6_bitCount_0f7a4 0 = .ok (.iload_n 0, 1) := by decide +kernel
theorem dJ6_bitCount_0f7a4_1 : decode cJ6_bitCount_0f7a4 1 = .ok (.iload_n 0, 1) := by decide +kernel
theorem dJ6_bitCount_0f7a4_2 : decode cJ6_bitCount_0f7a4 2 = .ok (.iconst 1, 1) := by decide +kernel
theorem dJ6_bitCount_0f7a4_3 : decode cJ6_bitCount_0f7a4 3 = .ok (.iushr, 1) := by decide +kernel
theorem dJ6_bitCount_0f7a4_4 : decode cJ6_bitCount_0f7a4 4 = .ok (.ldc_w 265, 3) := by decide +kernel
theorem dJ6_bitCount_0f7a4_7 : decode cJ6_bitCount_0f7a4 7 = .ok (.iand, 1) := by decide +kernel
theorem dJ6_bitCount_0f7a4_8 : decode cJ6_bitCount_0f7a4 8 = .ok (.isub, 1) := by decide +kernel
theorem dJ6_bitCount_0f7a4_9 : decode cJ6_bitCount_0f7a4 9 = .ok (.istore_n 0, 1) := by decide +kernel
theorem dJ6_bitCount_0f7a4_10 : decode cJ6_bitCount_0f7a4 10 = .ok (.iload_n 0, 1) := by decide +kernel
theorem dJ6_bitCount_0f7a4_11 : decode cJ6_bitCount_0f7a4 11 = .ok (.ldc_w 266, 3) := by decide +kernel
theorem dJ6_bitCount_0f7a4_14 : decode cJ6_bitCount_0f7a4 14 = .ok (.iand, 1) := by decide +kernel
theorem dJ6_bitCount_0f7a4_15 : decode cJ6_bitCount_0f7a4 15 = .ok (.iload_n 0, 1) := by decide +kernel
theorem dJ6_bitCount_0f7a4_16 : decode cJ6_bitCount_0f7a4 16 = .ok (.iconst 2, 1) := by decide +kernel
theorem dJ6_bitCount_0f7a4_17 : decode cJ6_bitCount_0f7a4 17 = .ok (.iushr, 1) := by decide +kernel
theorem dJ6_bitCount_0f7a4_18 : decode cJ6_bitCount_0f7a4 18 = .ok (.ldc_w 266, 3) := by decide +kernel
theorem dJ6_bitCount_0f7a4_21 : decode cJ6_bitCount_0f7a4 21 = .ok (.iand, 1) := by decide +kernel
theorem dJ6_bitCount_0f7a4_22 : decode cJ6_bitCount_0f7a4 22 = .ok (.iadd, 1) := by decide +kernel
theorem dJ6_bitCount_0f7a4_23 : decode cJ6_bitCount_0f7a4 23 = .ok (.istore_n 0, 1) := by decide +kernel
theorem dJ6_bitCount_0f7a4_24 : decode cJ6_bitCount_0f7a4 24 = .ok (.iload_n 0, 1) := by decide +kernel
theorem dJ6_bitCount_0f7a4_25 : decode cJ6_bitCount_0f7a4 25 = .ok (.iload_n 0, 1) := by decide +kernel
theorem dJ6_bitCount_0f7a4_26 : decode cJ6_bitCount_0f7a4 26 = .ok (.iconst 4, 1) := by decide +kernel
theorem dJ6_bitCount_0f7a4_27 : decode cJ6_bitCount_0f7a4 27 = .ok (.iushr, 1) := by decide +kernel
theorem dJ6_bitCount_0f7a4_28 : decode cJ6_bitCount_0f7a4 28 = .ok (.iadd, 1) := by decide +kernel
theorem dJ6_bitCount_0f7a4_29 : decode cJ6_bitCount_0f7a4 29 = .ok (.ldc_w 267, 3) := by decide +kernel
theorem dJ6_bitCount_0f7a4_32 : decode cJ6_bitCount_0f7a4 32 = .ok (.iand, 1) := by decide +kernel
theorem dJ6_bitCount_0f7a4_33 : decode cJ6_bitCount_0f7a4 33 = .ok (.istore_n 0, 1) := by decide +kernel
theorem dJ6_bitCount_0f7a4_34 : decode cJ6_bitCount_0f7a4 34 = .ok (.iload_n 0, 1) := by decide +kernel
theorem dJ6_bitCount_0f7a4_35 : decode cJ6_bitCount_0f7a4 35 = .ok (.iload_n 0, 1) := by decide +kernel
theorem dJ6_bitCount_0f7a4_36 : decode cJ6_bitCount_0f7a4 36 = .ok (.bipush 8, 2) := by decide +kernel
theorem dJ6_bitCount_0f7a4_38 : decode cJ6_bitCount_0f7a4 38 = .ok (.iushr, 1) := by decide +kernel
theorem dJ6_bitCount_0f7a4_39 : decode cJ6_bitCount_0f7a4 39 = .ok (.iadd, 1) := by decide +kernel
theorem dJ6_bitCount_0f7a4_40 : decode cJ6_bitCount_0f7a4 40 = .ok (.istore_n 0, 1) := by decide +kernel
theorem dJ6_bitCount_0f7a4_41 : decode cJ6_bitCount_0f7a4 41 = .ok (.iload_n 0, 1) := by decide +kernel
theorem dJ6_bitCount_0f7a4_42 : decode cJ6_bitCount_0f7a4 42 = .ok (.iload_n 0, 1) := by decide +kernel
theorem dJ6_bitCount_0f7a4_43 : decode cJ6_bitCount_0f7a4 43 = .ok (.bipush 16, 2) := by decide +kernel
theorem dJ6_bitCount_0f7a4_45 : decode cJ6_bitCount_0f7a4 45 = .ok (.iushr, 1) := by decide +kernel
theorem dJ6_bitCount_0f7a4_46 : decode cJ6_bitCount_0f7a4 46 = .ok (.iadd, 1) := by decide +kernel
theorem dJ6_bitCount_0f7a4_47 : decode cJ6_bitCount_0f7a4 47 = .ok (.istore_n 0, 1) := by decide +kernel
theorem dJ6_bitCount_0f7a4_48 : decode cJ6_bitCount_0f7a4 48 = .ok (.iload_n 0, 1) := by decide +kernel
theorem dJ6_bitCount_0f7a4_49 : decode cJ6_bitCount_0f7a4 49 = .ok (.bipush 63, 2) := by decide +kernel
theorem dJ6_bitCount_0f7a4_51 : decode cJ6_bitCount_0f7a4 51 = .ok (.iand, 1) := by decide +kernel
theorem dJ6_bitCount_0f7a4_52 : decode cJ6_bitCount_0f7a4 52 = .ok (.ireturn, 1) := by decide +kernel
theorem dJ9_abs_0f7a4_0 : decode cJ9_abs_0f7a4 0 = .ok (.iload_n 0, 1) := by decide +kernel
theorem dJ9_abs_0f7a4_1 : decode cJ9_abs_0f7a4 1 = .ok (.ifCond .ge 8, 3) := by decide +kernel
theorem dJ9_abs_0f7a4_4 : decode cJ9_abs_0f7a4 4 = .ok (.iload_n 0, 1) := by decide +kernel
theorem dJ9_abs_0f7a4_5 : decode cJ9_abs_0f7a4 5 = .ok (.ineg, 1) := by decide +kernel
theorem dJ9_abs_0f7a4_6 : decode cJ9_abs_0f7a4 6 = .ok (.goto 4, 3) := by decide +kernel
theorem dJ9_abs_0f7a4_9 : decode cJ9_abs_0f7a4 9 = .ok (.iload_n 0, 1) := by decide +kernel
theorem dJ9_abs_0f7a4_10 : decode cJ9_abs_0f7a4 10 = .ok (.ireturn, 1) := by decide +kernel
theorem dJ9_max_7cf53_0 : decode cJ9_max_7cf53 0 = .ok (.iload_n 0, 1) := by decide +kernel
theorem dJ9_max_7cf53_1 : decode cJ9_max_7cf53 1 = .ok (.iload_n 1, 1) := by decide +kernel
theorem dJ9_max_7cf53_2 : decode cJ9_max_7cf53 2 = .ok (.if_icmp .lt 7, 3) := by decide +kernel
theorem dJ9_max_7cf53_5 : decode cJ9_max_7cf53 5 = .ok (.iload_n 0, 1) := by decide +kernel
theorem dJ9_max_7cf53_6 : decode cJ9_max_7cf53 6 = .ok (.goto 4, 3) := by decide +kernel
theorem dJ9_max_7cf53_9 : decode cJ9_max_7cf53 9 = .ok (.iload_n 1, 1) := by decide +kernel
theorem dJ9_max_7cf53_10 : decode cJ9_max_7cf53 10 = .ok (.ireturn, 1) := by decide +kernel
theorem dJ9_min_7cf53_0 : decode cJ9_min_7cf53 0 = .ok (.iload_n 0, 1) := by decide +kernel
theorem dJ9_min_7cf53_1 : decode cJ9_min_7cf53 1 = .ok (.iload_n 1, 1) := by decide +kernel
theorem dJ9_min_7cf53_2 : decode cJ9_min_7cf53 2 = .ok (.if_icmp .gt 7, 3) := by decide +kernel
theorem dJ9_min_7cf53_5 : decode cJ9_min_7cf53 5 = .ok (.iload_n 0, 1) := by decide +kernel
theorem dJ9_min_7cf53_6 : decode cJ9_min_7cf53 6 = .ok (.goto 4, 3) := by decide +kernel
theorem dJ9_min_7cf53_9 : decode cJ9_min_7cf53 9 = .ok (.iload_n 1, 1) := by decide +kernel
theorem dJ9_min_7cf53_10 : decode cJ9_min_7cf53 10 = .ok (.ireturn, 1) := by decide +kernel
theorem dL_law_0 : decode cL_law 0 = .ok (.new 7, 3) := by decide +kernel
theorem dL_law_3 : decode cL_law 3 = .ok (.dup, 1) := by decide +kernel
theorem dL_law_4 : decode cL_law 4 = .ok (.invokespecial 9, 3) := by decide +kernel
theorem dL_law_7 : decode cL_law 7 = .ok (.astore_n 1, 1) := by decide +kernel
theorem dL_law_8 : decode cL_law 8 = .ok (.new 10, 3) := by decide +kernel
theorem dL_law_11 : decode cL_law 11 = .ok (.dup, 1) := by decide +kernel
theorem dL_law_12 : decode cL_law 12 = .ok (.invokespecial 12, 3) := by decide +kernel
theorem dL_law_15 : decode cL_law 15 = .ok (.astore_n 2, 1) := by decide +kernel
theorem dL_law_16 : decode cL_law 16 = .ok (.iconst 0, 1) := by decide +kernel
theorem dL_law_17 : decode cL_law 17 = .ok (.istore_n 3, 1) := by decide +kernel
theorem dL_law_18 : decode cL_law 18 = .ok (.iload_n 3, 1) := by decide +kernel
theorem dL_law_19 : decode cL_law 19 = .ok (.aload_n 0, 1) := by decide +kernel
theorem dL_law_20 : decode cL_law 20 = .ok (.arraylength, 1) := by decide +kernel
theorem dL_law_21 : decode cL_law 21 = .ok (.iconst 5, 1) := by decide +kernel
theorem dL_law_22 : decode cL_law 22 = .ok (.isub, 1) := by decide +kernel
theorem dL_law_23 : decode cL_law 23 = .ok (.if_icmp .gt 818, 3) := by decide +kernel
theorem dL_law_26 : decode cL_law 26 = .ok (.aload_n 0, 1) := by decide +kernel
theorem dL_law_27 : decode cL_law 27 = .ok (.iload_n 3, 1) := by decide +kernel
theorem dL_law_28 : decode cL_law 28 = .ok (.iaload, 1) := by decide +kernel
theorem dL_law_29 : decode cL_law 29 = .ok (.bipush 31, 2) := by decide +kernel
theorem dL_law_31 : decode cL_law 31 = .ok (.iand, 1) := by decide +kernel
theorem dL_law_32 : decode cL_law 32 = .ok (.tableswitch 803 0 26 #[124, 177, 200, 223, 236, 249, 282, 305, 318, 341, 354, 367, 400, 433, 466, 489, 512, 545, 578, 611, 634, 647, 670, 713, 764, 777, 790], 124) := by decide +kernel
theorem dL_law_156 : decode cL_law 156 = .ok (.aload_n 1, 1) := by decide +kernel
theorem dL_law_157 : decode cL_law 157 = .ok (.aload_n 0, 1) := by decide +kernel
theorem dL_law_158 : decode cL_law 158 = .ok (.iload_n 3, 1) := by decide +kernel
theorem dL_law_159 : decode cL_law 159 = .ok (.iconst 1, 1) := by decide +kernel
theorem dL_law_160 : decode cL_law 160 = .ok (.iadd, 1) := by decide +kernel
theorem dL_law_161 : decode cL_law 161 = .ok (.iaload, 1) := by decide +kernel
theorem dL_law_162 : decode cL_law 162 = .ok (.aload_n 0, 1) := by decide +kernel
theorem dL_law_163 : decode cL_law 163 = .ok (.iload_n 3, 1) := by decide +kernel
theorem dL_law_164 : decode cL_law 164 = .ok (.iconst 2, 1) := by decide +kernel
theorem dL_law_165 : decode cL_law 165 = .ok (.iadd, 1) := by decide +kernel
theorem dL_law_166 : decode cL_law 166 = .ok (.iaload, 1) := by decide +kernel
theorem dL_law_167 : decode cL_law 167 = .ok (.aload_n 0, 1) := by decide +kernel
theorem dL_law_168 : decode cL_law 168 = .ok (.iload_n 3, 1) := by decide +kernel
theorem dL_law_169 : decode cL_law 169 = .ok (.iconst 3, 1) := by decide +kernel
theorem dL_law_170 : decode cL_law 170 = .ok (.iadd, 1) := by decide +kernel
theorem dL_law_171 : decode cL_law 171 = .ok (.iaload, 1) := by decide +kernel
theorem dL_law_172 : decode cL_law 172 = .ok (.aload_n 0, 1) := by decide +kernel
theorem dL_law_173 : decode cL_law 173 = .ok (.iload_n 3, 1) := by decide +kernel
theorem dL_law_174 : decode cL_law 174 = .ok (.iconst 4, 1) := by decide +kernel
theorem dL_law_175 : decode cL_law 175 = .ok (.iadd, 1) := by decide +kernel
theorem dL_law_176 : decode cL_law 176 = .ok (.iaload, 1) := by decide +kernel
theorem dL_law_177 : decode cL_law 177 = .ok (.invokevirtual 13, 3) := by decide +kernel
theorem dL_law_180 : decode cL_law 180 = .ok (.aload_n 2, 1) := by decide +kernel
theorem dL_law_181 : decode cL_law 181 = .ok (.aload_n 0, 1) := by decide +kernel
theorem dL_law_182 : decode cL_law 182 = .ok (.iload_n 3, 1) := by decide +kernel
theorem dL_law_183 : decode cL_law 183 = .ok (.iconst 1, 1) := by decide +kernel
theorem dL_law_184 : decode cL_law 184 = .ok (.iadd, 1) := by decide +kernel
theorem dL_law_185 : decode cL_law 185 = .ok (.iaload, 1) := by decide +kernel
theorem dL_law_186 : decode cL_law 186 = .ok (.aload_n 0, 1) := by decide +kernel
theorem dL_law_187 : decode cL_law 187 = .ok (.iload_n 3, 1) := by decide +kernel
theorem dL_law_188 : decode cL_law 188 = .ok (.iconst 2, 1) := by decide +kernel
theorem dL_law_189 : decode cL_law 189 = .ok (.iadd, 1) := by decide +kernel
theorem dL_law_190 : decode cL_law 190 = .ok (.iaload, 1) := by decide +kernel
theorem dL_law_191 : decode cL_law 191 = .ok (.aload_n 0, 1) := by decide +kernel
theorem dL_law_192 : decode cL_law 192 = .ok (.iload_n 3, 1) := by decide +kernel
theorem dL_law_193 : decode cL_law 193 = .ok (.iconst 3, 1) := by decide +kernel
theorem dL_law_194 : decode cL_law 194 = .ok (.iadd, 1) := by decide +kernel
theorem dL_law_195 : decode cL_law 195 = .ok (.iaload, 1) := by decide +kernel
theorem dL_law_196 : decode cL_law 196 = .ok (.aload_n 0, 1) := by decide +kernel
theorem dL_law_197 : decode cL_law 197 = .ok (.iload_n 3, 1) := by decide +kernel
theorem dL_law_198 : decode cL_law 198 = .ok (.iconst 4, 1) := by decide +kernel
theorem dL_law_199 : decode cL_law 199 = .ok (.iadd, 1) := by decide +kernel
theorem dL_law_200 : decode cL_law 200 = .ok (.iaload, 1) := by decide +kernel
theorem dL_law_201 : decode cL_law 201 = .ok (.invokevirtual 17, 3) := by decide +kernel
theorem dL_law_204 : decode cL_law 204 = .ok (.if_icmp .eq 631, 3) := by decide +kernel
theorem dL_law_207 : decode cL_law 207 = .ok (.iconst 0, 1) := by decide +kernel
theorem dL_law_208 : decode cL_law 208 = .ok (.ireturn, 1) := by decide +kernel
theorem dL_law_209 : decode cL_law 209 = .ok (.aload_n 1, 1) := by decide +kernel
theorem dL_law_210 : decode cL_law 210 = .ok (.aload_n 0, 1) := by decide +kernel
theorem dL_law_211 : decode cL_law 211 = .ok (.iload_n 3, 1) := by decide +kernel
theorem dL_law_212 : decode cL_law 212 = .ok (.iconst 1, 1) := by decide +kernel
theorem dL_law_213 : decode cL_law 213 = .ok (.iadd, 1) := by decide +kernel
theorem dL_law_214 : decode cL_law 214 = .ok (.iaload, 1) := by decide +kernel
theorem dL_law_215 : decode cL_law 215 = .ok (.invokevirtual 18, 3) := by decide +kernel
theorem dL_law_218 : decode cL_law 218 = .ok (.aload_n 2, 1) := by decide +kernel
theorem dL_law_219 : decode cL_law 219 = .ok (.aload_n 0, 1) := by decide +kernel
theorem dL_law_220 : decode cL_law 220 = .ok (.iload_n 3, 1) := by decide +kernel
theorem dL_law_221 : decode cL_law 221 = .ok (.iconst 1, 1) := by decide +kernel
theorem dL_law_222 : decode cL_law 222 = .ok (.iadd, 1) := by decide +kernel
theorem dL_law_223 : decode cL_law 223 = .ok (.iaload, 1) := by decide +kernel
theorem dL_law_224 : decode cL_law 224 = .ok (.invokevirtual 22, 3) := by decide +kernel
theorem dL_law_227 : decode cL_law 227 = .ok (.if_icmp .eq 608, 3) := by decide +kernel
theorem dL_law_230 : decode cL_law 230 = .ok (.iconst 0, 1) := by decide +kernel
theorem dL_law_231 : decode cL_law 231 = .ok (.ireturn, 1) := by decide +kernel
theorem dL_law_232 : decode cL_law 232 = .ok (.aload_n 1, 1) := by decide +kernel
theorem dL_law_233 : decode cL_law 233 = .ok (.aload_n 0, 1) := by decide +kernel
theorem dL_law_234 : decode cL_law 234 = .ok (.iload_n 3, 1) := by decide +kernel
theorem dL_law_235 : decode cL_law 235 = .ok (.iconst 1, 1) := by decide +kernel
theorem dL_law_236 : decode cL_law 236 = .ok (.iadd, 1) := by decide +kernel
theorem dL_law_237 : decode cL_law 237 = .ok (.iaload, 1) := by decide +kernel
theorem dL_law_238 : decode cL_law 238 = .ok (.invokevirtual 23, 3) := by decide +kernel
theorem dL_law_241 : decode cL_law 241 = .ok (.aload_n 2, 1) := by decide +kernel
theorem dL_law_242 : decode cL_law 242 = .ok (.aload_n 0, 1) := by decide +kernel
theorem dL_law_243 : decode cL_law 243 = .ok (.iload_n 3, 1) := by decide +kernel
theorem dL_law_244 : decode cL_law 244 = .ok (.iconst 1, 1) := by decide +kernel
theorem dL_law_245 : decode cL_law 245 = .ok (.iadd, 1) := by decide +kernel
theorem dL_law_246 : decode cL_law 246 = .ok (.iaload, 1) := by decide +kernel
theorem dL_law_247 : decode cL_law 247 = .ok (.invokevirtual 26, 3) := by decide +kernel
theorem dL_law_250 : decode cL_law 250 = .ok (.if_icmp .eq 585, 3) := by decide +kernel
theorem dL_law_253 : decode cL_law 253 = .ok (.iconst 0, 1) := by decide +kernel
theorem dL_law_254 : decode cL_law 254 = .ok (.ireturn, 1) := by decide +kernel
theorem dL_law_255 : decode cL_law 255 = .ok (.aload_n 1, 1) := by decide +kernel
theorem dL_law_256 : decode cL_law 256 = .ok (.invokevirtual 27, 3) := by decide +kernel
theorem dL_law_259 : decode cL_law 259 = .ok (.aload_n 2, 1) := by decide +kernel
theorem dL_law_260 : decode cL_law 260 = .ok (.invokevirtual 31, 3) := by decide +kernel
theorem dL_law_263 : decode cL_law 263 = .ok (.if_icmp .eq 572, 3) := by decide +kernel
theorem dL_law_266 : decode cL_law 266 = .ok (.iconst 0, 1) := by decide +kernel
theorem dL_law_267 : decode cL_law 267 = .ok (.ireturn, 1) := by decide +kernel
theorem dL_law_268 : decode cL_law 268 = .ok (.aload_n 1, 1) := by decide +kernel
theorem dL_law_269 : decode cL_law 269 = .ok (.invokevirtual 32, 3) := by decide +kernel
theorem dL_law_272 : decode cL_law 272 = .ok (.aload_n 2, 1) := by decide +kernel
theorem dL_law_273 : decode cL_law 273 = .ok (.invokevirtual 35, 3) := by decide +kernel
theorem dL_law_276 : decode cL_law 276 = .ok (.if_icmp .eq 559, 3) := by decide +kernel
theorem dL_law_279 : decode cL_law 279 = .ok (.iconst 0, 1) := by decide +kernel
theorem dL_law_280 : decode cL_law 280 = .ok (.ireturn, 1) := by decide +kernel
theorem dL_law_281 : decode cL_law 281 = .ok (.aload_n 1, 1) := by decide +kernel
theorem dL_law_282 : decode cL_law 282 = .ok (.aload_n 0, 1) := by decide +kernel
theorem dL_law_283 : decode cL_law 283 = .ok (.iload_n 3, 1) := by decide +kernel
theorem dL_law_284 : decode cL_law 284 = .ok (.iconst 1, 1) := by decide +kernel
theorem dL_law_285 : decode cL_law 285 = .ok (.iadd, 1) := by decide +kernel
theorem dL_law_286 : decode cL_law 286 = .ok (.iaload, 1) := by decide +kernel
theorem dL_law_287 : decode cL_law 287 = .ok (.aload_n 0, 1) := by decide +kernel
theorem dL_law_288 : decode cL_law 288 = .ok (.iload_n 3, 1) := by decide +kernel
theorem dL_law_289 : decode cL_law 289 = .ok (.iconst 2, 1) := by decide +kernel
theorem dL_law_290 : decode cL_law 290 = .ok (.iadd, 1) := by decide +kernel
theorem dL_law_291 : decode cL_law 291 = .ok (.iaload, 1) := by decide +kernel
theorem dL_law_292 : decode cL_law 292 = .ok (.invokevirtual 36, 3) := by decide +kernel
theorem dL_law_295 : decode cL_law 295 = .ok (.aload_n 2, 1) := by decide +kernel
theorem dL_law_296 : decode cL_law 296 = .ok (.aload_n 0, 1) := by decide +kernel
theorem dL_law_297 : decode cL_law 297 = .ok (.iload_n 3, 1) := by decide +kernel
theorem dL_law_298 : decode cL_law 298 = .ok (.iconst 1, 1) := by decide +kernel
theorem dL_law_299 : decode cL_law 299 = .ok (.iadd, 1) := by decide +kernel
theorem dL_law_300 : decode cL_law 300 = .ok (.iaload, 1) := by decide +kernel
theorem dL_law_301 : decode cL_law 301 = .ok (.aload_n 0, 1) := by decide +kernel
theorem dL_law_302 : decode cL_law 302 = .ok (.iload_n 3, 1) := by decide +kernel
theorem dL_law_303 : decode cL_law 303 = .ok (.iconst 2, 1) := by decide +kernel
theorem dL_law_304 : decode cL_law 304 = .ok (.iadd, 1) := by decide +kernel
theorem dL_law_305 : decode cL_law 305 = .ok (.iaload, 1) := by decide +kernel
theorem dL_law_306 : decode cL_law 306 = .ok (.invokevirtual 40, 3) := by decide +kernel
theorem dL_law_309 : decode cL_law 309 = .ok (.if_icmp .eq 526, 3) := by decide +kernel
theorem dL_law_312 : decode cL_law 312 = .ok (.iconst 0, 1) := by decide +kernel
theorem dL_law_313 : decode cL_law 313 = .ok (.ireturn, 1) := by decide +kernel
theorem dL_law_314 : decode cL_law 314 = .ok (.aload_n 1, 1) := by decide +kernel
theorem dL_law_315 : decode cL_law 315 = .ok (.aload_n 0, 1) := by decide +kernel
theorem dL_law_316 : decode cL_law 316 = .ok (.iload_n 3, 1) := by decide +kernel
theorem dL_law_317 : decode cL_law 317 = .ok (.iconst 1, 1) := by decide +kernel
theorem dL_law_318 : decode cL_law 318 = .ok (.iadd, 1) := by decide +kernel
theorem dL_law_319 : decode cL_law 319 = .ok (.iaload, 1) := by decide +kernel
theorem dL_law_320 : decode cL_law 320 = .ok (.invokevirtual 41, 3) := by decide +kernel
theorem dL_law_323 : decode cL_law 323 = .ok (.aload_n 2, 1) := by decide +kernel
theorem dL_law_324 : decode cL_law 324 = .ok (.aload_n 0, 1) := by decide +kernel
theorem dL_law_325 : decode cL_law 325 = .ok (.iload_n 3, 1) := by decide +kernel
theorem dL_law_326 : decode cL_law 326 = .ok (.iconst 1, 1) := by decide +kernel
theorem dL_law_327 : decode cL_law 327 = .ok (.iadd, 1) := by decide +kernel
theorem dL_law_328 : decode cL_law 328 = .ok (.iaload, 1) := by decide +kernel
theorem dL_law_329 : decode cL_law 329 = .ok (.invokevirtual 44, 3) := by decide +kernel
theorem dL_law_332 : decode cL_law 332 = .ok (.if_icmp .eq 503, 3) := by decide +kernel
theorem dL_law_335 : decode cL_law 335 = .ok (.iconst 0, 1) := by decide +kernel
theorem dL_law_336 : decode cL_law 336 = .ok (.ireturn, 1) := by decide +kernel
theorem dL_law_337 : decode cL_law 337 = .ok (.aload_n 1, 1) := by decide +kernel
theorem dL_law_338 : decode cL_law 338 = .ok (.invokevirtual 45, 3) := by decide +kernel
theorem dL_law_341 : decode cL_law 341 = .ok (.aload_n 2, 1) := by decide +kernel
theorem dL_law_342 : decode cL_law 342 = .ok (.invokevirtual 48, 3) := by decide +kernel
theorem dL_law_345 : decode cL_law 345 = .ok (.if_icmp .eq 490, 3) := by decide +kernel
theorem dL_law_348 : decode cL_law 348 = .ok (.iconst 0, 1) := by decide +kernel
theorem dL_law_349 : decode cL_law 349 = .ok (.ireturn, 1) := by decide +kernel
theorem dL_law_350 : decode cL_law 350 = .ok (.aload_n 1, 1) := by decide +kernel
theorem dL_law_351 : decode cL_law 351 = .ok (.aload_n 0, 1) := by decide +kernel
theorem dL_law_352 : decode cL_law 352 = .ok (.iload_n 3, 1) := by decide +kernel
theorem dL_law_353 : decode cL_law 353 = .ok (.iconst 1, 1) := by decide +kernel
theorem dL_law_354 : decode cL_law 354 = .ok (.iadd, 1) := by decide +kernel
theorem dL_law_355 : decode cL_law 355 = .ok (.iaload, 1) := by decide +kernel
theorem dL_law_356 : decode cL_law 356 = .ok (.invokevirtual 49, 3) := by decide +kernel
theorem dL_law_359 : decode cL_law 359 = .ok (.aload_n 2, 1) := by decide +kernel
theorem dL_law_360 : decode cL_law 360 = .ok (.aload_n 0, 1) := by decide +kernel
theorem dL_law_361 : decode cL_law 361 = .ok (.iload_n 3, 1) := by decide +kernel
theorem dL_law_362 : decode cL_law 362 = .ok (.iconst 1, 1) := by decide +kernel
theorem dL_law_363 : decode cL_law 363 = .ok (.iadd, 1) := by decide +kernel
theorem dL_law_364 : decode cL_law 364 = .ok (.iaload, 1) := by decide +kernel
theorem dL_law_365 : decode cL_law 365 = .ok (.invokevirtual 52, 3) := by decide +kernel
theorem dL_law_368 : decode cL_law 368 = .ok (.if_icmp .eq 467, 3) := by decide +kernel
theorem dL_law_371 : decode cL_law 371 = .ok (.iconst 0, 1) := by decide +kernel
theorem dL_law_372 : decode cL_law 372 = .ok (.ireturn, 1) := by decide +kernel
theorem dL_law_373 : decode cL_law 373 = .ok (.aload_n 1, 1) := by decide +kernel
theorem dL_law_374 : decode cL_law 374 = .ok (.invokevirtual 53, 3) := by decide +kernel
theorem dL_law_377 : decode cL_law 377 = .ok (.aload_n 2, 1) := by decide +kernel
theorem dL_law_378 : decode cL_law 378 = .ok (.invokevirtual 56, 3) := by decide +kernel
theorem dL_law_381 : decode cL_law 381 = .ok (.if_icmp .eq 454, 3) := by decide +kernel
theorem dL_law_384 : decode cL_law 384 = .ok (.iconst 0, 1) := by decide +kernel
theorem dL_law_385 : decode cL_law 385 = .ok (.ireturn, 1) := by decide +kernel
theorem dL_law_386 : decode cL_law 386 = .ok (.aload_n 1, 1) := by decide +kernel
theorem dL_law_387 : decode cL_law 387 = .ok (.invokevirtual 57, 3) := by decide +kernel
theorem dL_law_390 : decode cL_law 390 = .ok (.aload_n 2, 1) := by decide +kernel
theorem dL_law_391 : decode cL_law 391 = .ok (.invokevirtual 60, 3) := by decide +kernel
theorem dL_law_394 : decode cL_law 394 = .ok (.if_icmp .eq 441, 3) := by decide +kernel
theorem dL_law_397 : decode cL_law 397 = .ok (.iconst 0, 1) := by decide +kernel
theorem dL_law_398 : decode cL_law 398 = .ok (.ireturn, 1) := by decide +kernel
theorem dL_law_399 : decode cL_law 399 = .ok (.aload_n 1, 1) := by decide +kernel
theorem dL_law_400 : decode cL_law 400 = .ok (.aload_n 0, 1) := by decide +kernel
theorem dL_law_401 : decode cL_law 401 = .ok (.iload_n 3, 1) := by decide +kernel
theorem dL_law_402 : decode cL_law 402 = .ok (.iconst 1, 1) := by decide +kernel
theorem dL_law_403 : decode cL_law 403 = .ok (.iadd, 1) := by decide +kernel
theorem dL_law_404 : decode cL_law 404 = .ok (.iaload, 1) := by decide +kernel
theorem dL_law_405 : decode cL_law 405 = .ok (.aload_n 0, 1) := by decide +kernel
theorem dL_law_406 : decode cL_law 406 = .ok (.iload_n 3, 1) := by decide +kernel
theorem dL_law_407 : decode cL_law 407 = .ok (.iconst 2, 1) := by decide +kernel
theorem dL_law_408 : decode cL_law 408 = .ok (.iadd, 1) := by decide +kernel
theorem dL_law_409 : decode cL_law 409 = .ok (.iaload, 1) := by decide +kernel
theorem dL_law_410 : decode cL_law 410 = .ok (.invokevirtual 61, 3) := by decide +kernel
theorem dL_law_413 : decode cL_law 413 = .ok (.aload_n 2, 1) := by decide +kernel
theorem dL_law_414 : decode cL_law 414 = .ok (.aload_n 0, 1) := by decide +kernel
theorem dL_law_415 : decode cL_law 415 = .ok (.iload_n 3, 1) := by decide +kernel
theorem dL_law_416 : decode cL_law 416 = .ok (.iconst 1, 1) := by decide +kernel
theorem dL_law_417 : decode cL_law 417 = .ok (.iadd, 1) := by decide +kernel
theorem dL_law_418 : decode cL_law 418 = .ok (.iaload, 1) := by decide +kernel
theorem dL_law_419 : decode cL_law 419 = .ok (.aload_n 0, 1) := by decide +kernel
theorem dL_law_420 : decode cL_law 420 = .ok (.iload_n 3, 1) := by decide +kernel
theorem dL_law_421 : decode cL_law 421 = .ok (.iconst 2, 1) := by decide +kernel
theorem dL_law_422 : decode cL_law 422 = .ok (.iadd, 1) := by decide +kernel
theorem dL_law_423 : decode cL_law 423 = .ok (.iaload, 1) := by decide +kernel
theorem dL_law_424 : decode cL_law 424 = .ok (.invokevirtual 64, 3) := by decide +kernel
theorem dL_law_427 : decode cL_law 427 = .ok (.if_icmp .eq 408, 3) := by decide +kernel
theorem dL_law_430 : decode cL_law 430 = .ok (.iconst 0, 1) := by decide +kernel
theorem dL_law_431 : decode cL_law 431 = .ok (.ireturn, 1) := by decide +kernel
theorem dL_law_432 : decode cL_law 432 = .ok (.aload_n 1, 1) := by decide +kernel
theorem dL_law_433 : decode cL_law 433 = .ok (.aload_n 0, 1) := by decide +kernel
theorem dL_law_434 : decode cL_law 434 = .ok (.iload_n 3, 1) := by decide +kernel
theorem dL_law_435 : decode cL_law 435 = .ok (.iconst 1, 1) := by decide +kernel
theorem dL_law_436 : decode cL_law 436 = .ok (.iadd, 1) := by decide +kernel
theorem dL_law_437 : decode cL_law 437 = .ok (.iaload, 1) := by decide +kernel
theorem dL_law_438 : decode cL_law 438 = .ok (.aload_n 0, 1) := by decide +kernel
theorem dL_law_439 : decode cL_law 439 = .ok (.iload_n 3, 1) := by decide +kernel
theorem dL_law_440 : decode cL_law 440 = .ok (.iconst 2, 1) := by decide +kernel
theorem dL_law_441 : decode cL_law 441 = .ok (.iadd, 1) := by decide +kernel
theorem dL_law_442 : decode cL_law 442 = .ok (.iaload, 1) := by decide +kernel
theorem dL_law_443 : decode cL_law 443 = .ok (.invokevirtual 65, 3) := by decide +kernel
theorem dL_law_446 : decode cL_law 446 = .ok (.aload_n 2, 1) := by decide +kernel
theorem dL_law_447 : decode cL_law 447 = .ok (.aload_n 0, 1) := by decide +kernel
theorem dL_law_448 : decode cL_law 448 = .ok (.iload_n 3, 1) := by decide +kernel
theorem dL_law_449 : decode cL_law 449 = .ok (.iconst 1, 1) := by decide +kernel
theorem dL_law_450 : decode cL_law 450 = .ok (.iadd, 1) := by decide +kernel
theorem dL_law_451 : decode cL_law 451 = .ok (.iaload, 1) := by decide +kernel
theorem dL_law_452 : decode cL_law 452 = .ok (.aload_n 0, 1) := by decide +kernel
theorem dL_law_453 : decode cL_law 453 = .ok (.iload_n 3, 1) := by decide +kernel
theorem dL_law_454 : decode cL_law 454 = .ok (.iconst 2, 1) := by decide +kernel
theorem dL_law_455 : decode cL_law 455 = .ok (.iadd, 1) := by decide +kernel
theorem dL_law_456 : decode cL_law 456 = .ok (.iaload, 1) := by decide +kernel
theorem dL_law_457 : decode cL_law 457 = .ok (.invokevirtual 68, 3) := by decide +kernel
theorem dL_law_460 : decode cL_law 460 = .ok (.if_icmp .eq 375, 3) := by decide +kernel
theorem dL_law_463 : decode cL_law 463 = .ok (.iconst 0, 1) := by decide +kernel
theorem dL_law_464 : decode cL_law 464 = .ok (.ireturn, 1) := by decide +kernel
theorem dL_law_465 : decode cL_law 465 = .ok (.aload_n 1, 1) := by decide +kernel
theorem dL_law_466 : decode cL_law 466 = .ok (.aload_n 0, 1) := by decide +kernel
theorem dL_law_467 : decode cL_law 467 = .ok (.iload_n 3, 1) := by decide +kernel
theorem dL_law_468 : decode cL_law 468 = .ok (.iconst 1, 1) := by decide +kernel
theorem dL_law_469 : decode cL_law 469 = .ok (.iadd, 1) := by decide +kernel
theorem dL_law_470 : decode cL_law 470 = .ok (.iaload, 1) := by decide +kernel
theorem dL_law_471 : decode cL_law 471 = .ok (.aload_n 0, 1) := by decide +kernel
theorem dL_law_472 : decode cL_law 472 = .ok (.iload_n 3, 1) := by decide +kernel
theorem dL_law_473 : decode cL_law 473 = .ok (.iconst 2, 1) := by decide +kernel
theorem dL_law_474 : decode cL_law 474 = .ok (.iadd, 1) := by decide +kernel
theorem dL_law_475 : decode cL_law 475 = .ok (.iaload, 1) := by decide +kernel
theorem dL_law_476 : decode cL_law 476 = .ok (.invokevirtual 69, 3) := by decide +kernel
theorem dL_law_479 : decode cL_law 479 = .ok (.aload_n 2, 1) := by decide +kernel
theorem dL_law_480 : decode cL_law 480 = .ok (.aload_n 0, 1) := by decide +kernel
theorem dL_law_481 : decode cL_law 481 = .ok (.iload_n 3, 1) := by decide +kernel
theorem dL_law_482 : decode cL_law 482 = .ok (.iconst 1, 1) := by decide +kernel
theorem dL_law_483 : decode cL_law 483 = .ok (.iadd, 1) := by decide +kernel
theorem dL_law_484 : decode cL_law 484 = .ok (.iaload, 1) := by decide +kernel
theorem dL_law_485 : decode cL_law 485 = .ok (.aload_n 0, 1) := by decide +kernel
theorem dL_law_486 : decode cL_law 486 = .ok (.iload_n 3, 1) := by decide +kernel
theorem dL_law_487 : decode cL_law 487 = .ok (.iconst 2, 1) := by decide +kernel
theorem dL_law_488 : decode cL_law 488 = .ok (.iadd, 1) := by decide +kernel
theorem dL_law_489 : decode cL_law 489 = .ok (.iaload, 1) := by decide +kernel
theorem dL_law_490 : decode cL_law 490 = .ok (.invokevirtual 72, 3) := by decide +kernel
theorem dL_law_493 : decode cL_law 493 = .ok (.if_icmp .eq 342, 3) := by decide +kernel
theorem dL_law_496 : decode cL_law 496 = .ok (.iconst 0, 1) := by decide +kernel
theorem dL_law_497 : decode cL_law 497 = .ok (.ireturn, 1) := by decide +kernel
theorem dL_law_498 : decode cL_law 498 = .ok (.aload_n 1, 1) := by decide +kernel
theorem dL_law_499 : decode cL_law 499 = .ok (.aload_n 0, 1) := by decide +kernel
theorem dL_law_500 : decode cL_law 500 = .ok (.iload_n 3, 1) := by decide +kernel
theorem dL_law_501 : decode cL_law 501 = .ok (.iconst 1, 1) := by decide +kernel
theorem dL_law_502 : decode cL_law 502 = .ok (.iadd, 1) := by decide +kernel
theorem dL_law_503 : decode cL_law 503 = .ok (.iaload, 1) := by decide +kernel
theorem dL_law_504 : decode cL_law 504 = .ok (.invokevirtual 73, 3) := by decide +kernel
theorem dL_law_507 : decode cL_law 507 = .ok (.aload_n 2, 1) := by decide +kernel
theorem dL_law_508 : decode cL_law 508 = .ok (.aload_n 0, 1) := by decide +kernel
theorem dL_law_509 : decode cL_law 509 = .ok (.iload_n 3, 1) := by decide +kernel
theorem dL_law_510 : decode cL_law 510 = .ok (.iconst 1, 1) := by decide +kernel
theorem dL_law_511 : decode cL_law 511 = .ok (.iadd, 1) := by decide +kernel
theorem dL_law_512 : decode cL_law 512 = .ok (.iaload, 1) := by decide +kernel
theorem dL_law_513 : decode cL_law 513 = .ok (.invokevirtual 76, 3) := by decide +kernel
theorem dL_law_516 : decode cL_law 516 = .ok (.if_icmp .eq 319, 3) := by decide +kernel
theorem dL_law_519 : decode cL_law 519 = .ok (.iconst 0, 1) := by decide +kernel
theorem dL_law_520 : decode cL_law 520 = .ok (.ireturn, 1) := by decide +kernel
theorem dL_law_521 : decode cL_law 521 = .ok (.aload_n 1, 1) := by decide +kernel
theorem dL_law_522 : decode cL_law 522 = .ok (.aload_n 0, 1) := by decide +kernel
theorem dL_law_523 : decode cL_law 523 = .ok (.iload_n 3, 1) := by decide +kernel
theorem dL_law_524 : decode cL_law 524 = .ok (.iconst 1, 1) := by decide +kernel
theorem dL_law_525 : decode cL_law 525 = .ok (.iadd, 1) := by decide +kernel
theorem dL_law_526 : decode cL_law 526 = .ok (.iaload, 1) := by decide +kernel
theorem dL_law_527 : decode cL_law 527 = .ok (.invokevirtual 77, 3) := by decide +kernel
theorem dL_law_530 : decode cL_law 530 = .ok (.aload_n 2, 1) := by decide +kernel
theorem dL_law_531 : decode cL_law 531 = .ok (.aload_n 0, 1) := by decide +kernel
theorem dL_law_532 : decode cL_law 532 = .ok (.iload_n 3, 1) := by decide +kernel
theorem dL_law_533 : decode cL_law 533 = .ok (.iconst 1, 1) := by decide +kernel
theorem dL_law_534 : decode cL_law 534 = .ok (.iadd, 1) := by decide +kernel
theorem dL_law_535 : decode cL_law 535 = .ok (.iaload, 1) := by decide +kernel
theorem dL_law_536 : decode cL_law 536 = .ok (.invokevirtual 80, 3) := by decide +kernel
theorem dL_law_539 : decode cL_law 539 = .ok (.if_icmp .eq 296, 3) := by decide +kernel
theorem dL_law_542 : decode cL_law 542 = .ok (.iconst 0, 1) := by decide +kernel
theorem dL_law_543 : decode cL_law 543 = .ok (.ireturn, 1) := by decide +kernel
theorem dL_law_544 : decode cL_law 544 = .ok (.aload_n 1, 1) := by decide +kernel
theorem dL_law_545 : decode cL_law 545 = .ok (.aload_n 0, 1) := by decide +kernel
theorem dL_law_546 : decode cL_law 546 = .ok (.iload_n 3, 1) := by decide +kernel
theorem dL_law_547 : decode cL_law 547 = .ok (.iconst 1, 1) := by decide +kernel
theorem dL_law_548 : decode cL_law 548 = .ok (.iadd, 1) := by decide +kernel
theorem dL_law_549 : decode cL_law 549 = .ok (.iaload, 1) := by decide +kernel
theorem dL_law_550 : decode cL_law 550 = .ok (.aload_n 0, 1) := by decide +kernel
theorem dL_law_551 : decode cL_law 551 = .ok (.iload_n 3, 1) := by decide +kernel
theorem dL_law_552 : decode cL_law 552 = .ok (.iconst 2, 1) := by decide +kernel
theorem dL_law_553 : decode cL_law 553 = .ok (.iadd, 1) := by decide +kernel
theorem dL_law_554 : decode cL_law 554 = .ok (.iaload, 1) := by decide +kernel
theorem dL_law_555 : decode cL_law 555 = .ok (.invokevirtual 81, 3) := by decide +kernel
theorem dL_law_558 : decode cL_law 558 = .ok (.aload_n 2, 1) := by decide +kernel
theorem dL_law_559 : decode cL_law 559 = .ok (.aload_n 0, 1) := by decide +kernel
theorem dL_law_560 : decode cL_law 560 = .ok (.iload_n 3, 1) := by decide +kernel
theorem dL_law_561 : decode cL_law 561 = .ok (.iconst 1, 1) := by decide +kernel
theorem dL_law_562 : decode cL_law 562 = .ok (.iadd, 1) := by decide +kernel
theorem dL_law_563 : decode cL_law 563 = .ok (.iaload, 1) := by decide +kernel
theorem dL_law_564 : decode cL_law 564 = .ok (.aload_n 0, 1) := by decide +kernel
theorem dL_law_565 : decode cL_law 565 = .ok (.iload_n 3, 1) := by decide +kernel
theorem dL_law_566 : decode cL_law 566 = .ok (.iconst 2, 1) := by decide +kernel
theorem dL_law_567 : decode cL_law 567 = .ok (.iadd, 1) := by decide +kernel
theorem dL_law_568 : decode cL_law 568 = .ok (.iaload, 1) := by decide +kernel
theorem dL_law_569 : decode cL_law 569 = .ok (.invokevirtual 84, 3) := by decide +kernel
theorem dL_law_572 : decode cL_law 572 = .ok (.if_icmp .eq 263, 3) := by decide +kernel
theorem dL_law_575 : decode cL_law 575 = .ok (.iconst 0, 1) := by decide +kernel
theorem dL_law_576 : decode cL_law 576 = .ok (.ireturn, 1) := by decide +kernel
theorem dL_law_577 : decode cL_law 577 = .ok (.aload_n 1, 1) := by decide +kernel
theorem dL_law_578 : decode cL_law 578 = .ok (.aload_n 0, 1) := by decide +kernel
theorem dL_law_579 : decode cL_law 579 = .ok (.iload_n 3, 1) := by decide +kernel
theorem dL_law_580 : decode cL_law 580 = .ok (.iconst 1, 1) := by decide +kernel
theorem dL_law_581 : decode cL_law 581 = .ok (.iadd, 1) := by decide +kernel
theorem dL_law_582 : decode cL_law 582 = .ok (.iaload, 1) := by decide +kernel
theorem dL_law_583 : decode cL_law 583 = .ok (.aload_n 0, 1) := by decide +kernel
theorem dL_law_584 : decode cL_law 584 = .ok (.iload_n 3, 1) := by decide +kernel
theorem dL_law_585 : decode cL_law 585 = .ok (.iconst 2, 1) := by decide +kernel
theorem dL_law_586 : decode cL_law 586 = .ok (.iadd, 1) := by decide +kernel
theorem dL_law_587 : decode cL_law 587 = .ok (.iaload, 1) := by decide +kernel
theorem dL_law_588 : decode cL_law 588 = .ok (.invokevirtual 85, 3) := by decide +kernel
theorem dL_law_591 : decode cL_law 591 = .ok (.aload_n 2, 1) := by decide +kernel
theorem dL_law_592 : decode cL_law 592 = .ok (.aload_n 0, 1) := by decide +kernel
theorem dL_law_593 : decode cL_law 593 = .ok (.iload_n 3, 1) := by decide +kernel
theorem dL_law_594 : decode cL_law 594 = .ok (.iconst 1, 1) := by decide +kernel
theorem dL_law_595 : decode cL_law 595 = .ok (.iadd, 1) := by decide +kernel
theorem dL_law_596 : decode cL_law 596 = .ok (.iaload, 1) := by decide +kernel
theorem dL_law_597 : decode cL_law 597 = .ok (.aload_n 0, 1) := by decide +kernel
theorem dL_law_598 : decode cL_law 598 = .ok (.iload_n 3, 1) := by decide +kernel
theorem dL_law_599 : decode cL_law 599 = .ok (.iconst 2, 1) := by decide +kernel
theorem dL_law_600 : decode cL_law 600 = .ok (.iadd, 1) := by decide +kernel
theorem dL_law_601 : decode cL_law 601 = .ok (.iaload, 1) := by decide +kernel
theorem dL_law_602 : decode cL_law 602 = .ok (.invokevirtual 88, 3) := by decide +kernel
theorem dL_law_605 : decode cL_law 605 = .ok (.if_icmp .eq 230, 3) := by decide +kernel
theorem dL_law_608 : decode cL_law 608 = .ok (.iconst 0, 1) := by decide +kernel
theorem dL_law_609 : decode cL_law 609 = .ok (.ireturn, 1) := by decide +kernel
theorem dL_law_610 : decode cL_law 610 = .ok (.aload_n 1, 1) := by decide +kernel
theorem dL_law_611 : decode cL_law 611 = .ok (.aload_n 0, 1) := by decide +kernel
theorem dL_law_612 : decode cL_law 612 = .ok (.iload_n 3, 1) := by decide +kernel
theorem dL_law_613 : decode cL_law 613 = .ok (.iconst 1, 1) := by decide +kernel
theorem dL_law_614 : decode cL_law 614 = .ok (.iadd, 1) := by decide +kernel
theorem dL_law_615 : decode cL_law 615 = .ok (.iaload, 1) := by decide +kernel
theorem dL_law_616 : decode cL_law 616 = .ok (.aload_n 0, 1) := by decide +kernel
theorem dL_law_617 : decode cL_law 617 = .ok (.iload_n 3, 1) := by decide +kernel
theorem dL_law_618 : decode cL_law 618 = .ok (.iconst 2, 1) := by decide +kernel
theorem dL_law_619 : decode cL_law 619 = .ok (.iadd, 1) := by decide +kernel
theorem dL_law_620 : decode cL_law 620 = .ok (.iaload, 1) := by decide +kernel
theorem dL_law_621 : decode cL_law 621 = .ok (.invokevirtual 89, 3) := by decide +kernel
theorem dL_law_624 : decode cL_law 624 = .ok (.aload_n 2, 1) := by decide +kernel
theorem dL_law_625 : decode cL_law 625 = .ok (.aload_n 0, 1) := by decide +kernel
theorem dL_law_626 : decode cL_law 626 = .ok (.iload_n 3, 1) := by decide +kernel
theorem dL_law_627 : decode cL_law 627 = .ok (.iconst 1, 1) := by decide +kernel
theorem dL_law_628 : decode cL_law 628 = .ok (.iadd, 1) := by decide +kernel
theorem dL_law_629 : decode cL_law 629 = .ok (.iaload, 1) := by decide +kernel
theorem dL_law_630 : decode cL_law 630 = .ok (.aload_n 0, 1) := by decide +kernel
theorem dL_law_631 : decode cL_law 631 = .ok (.iload_n 3, 1) := by decide +kernel
theorem dL_law_632 : decode cL_law 632 = .ok (.iconst 2, 1) := by decide +kernel
theorem dL_law_633 : decode cL_law 633 = .ok (.iadd, 1) := by decide +kernel
theorem dL_law_634 : decode cL_law 634 = .ok (.iaload, 1) := by decide +kernel
theorem dL_law_635 : decode cL_law 635 = .ok (.invokevirtual 92, 3) := by decide +kernel
theorem dL_law_638 : decode cL_law 638 = .ok (.if_icmp .eq 197, 3) := by decide +kernel
theorem dL_law_641 : decode cL_law 641 = .ok (.iconst 0, 1) := by decide +kernel
theorem dL_law_642 : decode cL_law 642 = .ok (.ireturn, 1) := by decide +kernel
theorem dL_law_643 : decode cL_law 643 = .ok (.aload_n 1, 1) := by decide +kernel
theorem dL_law_644 : decode cL_law 644 = .ok (.aload_n 0, 1) := by decide +kernel
theorem dL_law_645 : decode cL_law 645 = .ok (.iload_n 3, 1) := by decide +kernel
theorem dL_law_646 : decode cL_law 646 = .ok (.iconst 1, 1) := by decide +kernel
theorem dL_law_647 : decode cL_law 647 = .ok (.iadd, 1) := by decide +kernel
theorem dL_law_648 : decode cL_law 648 = .ok (.iaload, 1) := by decide +kernel
theorem dL_law_649 : decode cL_law 649 = .ok (.invokevirtual 93, 3) := by decide +kernel
theorem dL_law_652 : decode cL_law 652 = .ok (.aload_n 2, 1) := by decide +kernel
theorem dL_law_653 : decode cL_law 653 = .ok (.aload_n 0, 1) := by decide +kernel
theorem dL_law_654 : decode cL_law 654 = .ok (.iload_n 3, 1) := by decide +kernel
theorem dL_law_655 : decode cL_law 655 = .ok (.iconst 1, 1) := by decide +kernel
theorem dL_law_656 : decode cL_law 656 = .ok (.iadd, 1) := by decide +kernel
theorem dL_law_657 : decode cL_law 657 = .ok (.iaload, 1) := by decide +kernel
theorem dL_law_658 : decode cL_law 658 = .ok (.invokevirtual 96, 3) := by decide +kernel
theorem dL_law_661 : decode cL_law 661 = .ok (.if_icmp .eq 174, 3) := by decide +kernel
theorem dL_law_664 : decode cL_law 664 = .ok (.iconst 0, 1) := by decide +kernel
theorem dL_law_665 : decode cL_law 665 = .ok (.ireturn, 1) := by decide +kernel
theorem dL_law_666 : decode cL_law 666 = .ok (.aload_n 1, 1) := by decide +kernel
theorem dL_law_667 : decode cL_law 667 = .ok (.invokevirtual 97, 3) := by decide +kernel
theorem dL_law_670 : decode cL_law 670 = .ok (.aload_n 2, 1) := by decide +kernel
theorem dL_law_671 : decode cL_law 671 = .ok (.invokevirtual 100, 3) := by decide +kernel
theorem dL_law_674 : decode cL_law 674 = .ok (.if_icmp .eq 161, 3) := by decide +kernel
theorem dL_law_677 : decode cL_law 677 = .ok (.iconst 0, 1) := by decide +kernel
theorem dL_law_678 : decode cL_law 678 = .ok (.ireturn, 1) := by decide +kernel
theorem dL_law_679 : decode cL_law 679 = .ok (.aload_n 1, 1) := by decide +kernel
theorem dL_law_680 : decode cL_law 680 = .ok (.aload_n 0, 1) := by decide +kernel
theorem dL_law_681 : decode cL_law 681 = .ok (.iload_n 3, 1) := by decide +kernel
theorem dL_law_682 : decode cL_law 682 = .ok (.iconst 1, 1) := by decide +kernel
theorem dL_law_683 : decode cL_law 683 = .ok (.iadd, 1) := by decide +kernel
theorem dL_law_684 : decode cL_law 684 = .ok (.iaload, 1) := by decide +kernel
theorem dL_law_685 : decode cL_law 685 = .ok (.invokevirtual 101, 3) := by decide +kernel
theorem dL_law_688 : decode cL_law 688 = .ok (.aload_n 2, 1) := by decide +kernel
theorem dL_law_689 : decode cL_law 689 = .ok (.aload_n 0, 1) := by decide +kernel
theorem dL_law_690 : decode cL_law 690 = .ok (.iload_n 3, 1) := by decide +kernel
theorem dL_law_691 : decode cL_law 691 = .ok (.iconst 1, 1) := by decide +kernel
theorem dL_law_692 : decode cL_law 692 = .ok (.iadd, 1) := by decide +kernel
theorem dL_law_693 : decode cL_law 693 = .ok (.iaload, 1) := by decide +kernel
theorem dL_law_694 : decode cL_law 694 = .ok (.invokevirtual 104, 3) := by decide +kernel
theorem dL_law_697 : decode cL_law 697 = .ok (.if_icmp .eq 138, 3) := by decide +kernel
theorem dL_law_700 : decode cL_law 700 = .ok (.iconst 0, 1) := by decide +kernel
theorem dL_law_701 : decode cL_law 701 = .ok (.ireturn, 1) := by decide +kernel
theorem dL_law_702 : decode cL_law 702 = .ok (.aload_n 1, 1) := by decide +kernel
theorem dL_law_703 : decode cL_law 703 = .ok (.aload_n 0, 1) := by decide +kernel
theorem dL_law_704 : decode cL_law 704 = .ok (.iload_n 3, 1) := by decide +kernel
theorem dL_law_705 : decode cL_law 705 = .ok (.iconst 1, 1) := by decide +kernel
theorem dL_law_706 : decode cL_law 706 = .ok (.iadd, 1) := by decide +kernel
theorem dL_law_707 : decode cL_law 707 = .ok (.iaload, 1) := by decide +kernel
theorem dL_law_708 : decode cL_law 708 = .ok (.aload_n 0, 1) := by decide +kernel
theorem dL_law_709 : decode cL_law 709 = .ok (.iload_n 3, 1) := by decide +kernel
theorem dL_law_710 : decode cL_law 710 = .ok (.iconst 2, 1) := by decide +kernel
theorem dL_law_711 : decode cL_law 711 = .ok (.iadd, 1) := by decide +kernel
theorem dL_law_712 : decode cL_law 712 = .ok (.iaload, 1) := by decide +kernel
theorem dL_law_713 : decode cL_law 713 = .ok (.aload_n 0, 1) := by decide +kernel
theorem dL_law_714 : decode cL_law 714 = .ok (.iload_n 3, 1) := by decide +kernel
theorem dL_law_715 : decode cL_law 715 = .ok (.iconst 3, 1) := by decide +kernel
theorem dL_law_716 : decode cL_law 716 = .ok (.iadd, 1) := by decide +kernel
theorem dL_law_717 : decode cL_law 717 = .ok (.iaload, 1) := by decide +kernel
theorem dL_law_718 : decode cL_law 718 = .ok (.invokevirtual 105, 3) := by decide +kernel
theorem dL_law_721 : decode cL_law 721 = .ok (.aload_n 2, 1) := by decide +kernel
theorem dL_law_722 : decode cL_law 722 = .ok (.aload_n 0, 1) := by decide +kernel
theorem dL_law_723 : decode cL_law 723 = .ok (.iload_n 3, 1) := by decide +kernel
theorem dL_law_724 : decode cL_law 724 = .ok (.iconst 1, 1) := by decide +kernel
theorem dL_law_725 : decode cL_law 725 = .ok (.iadd, 1) := by decide +kernel
theorem dL_law_726 : decode cL_law 726 = .ok (.iaload, 1) := by decide +kernel
theorem dL_law_727 : decode cL_law 727 = .ok (.aload_n 0, 1) := by decide +kernel
theorem dL_law_728 : decode cL_law 728 = .ok (.iload_n 3, 1) := by decide +kernel
theorem dL_law_729 : decode cL_law 729 = .ok (.iconst 2, 1) := by decide +kernel
theorem dL_law_730 : decode cL_law 730 = .ok (.iadd, 1) := by decide +kernel
theorem dL_law_731 : decode cL_law 731 = .ok (.iaload, 1) := by decide +kernel
theorem dL_law_732 : decode cL_law 732 = .ok (.aload_n 0, 1) := by decide +kernel
theorem dL_law_733 : decode cL_law 733 = .ok (.iload_n 3, 1) := by decide +kernel
theorem dL_law_734 : decode cL_law 734 = .ok (.iconst 3, 1) := by decide +kernel
theorem dL_law_735 : decode cL_law 735 = .ok (.iadd, 1) := by decide +kernel
theorem dL_law_736 : decode cL_law 736 = .ok (.iaload, 1) := by decide +kernel
theorem dL_law_737 : decode cL_law 737 = .ok (.invokevirtual 109, 3) := by decide +kernel
theorem dL_law_740 : decode cL_law 740 = .ok (.if_icmp .eq 95, 3) := by decide +kernel
theorem dL_law_743 : decode cL_law 743 = .ok (.iconst 0, 1) := by decide +kernel
theorem dL_law_744 : decode cL_law 744 = .ok (.ireturn, 1) := by decide +kernel
theorem dL_law_745 : decode cL_law 745 = .ok (.aload_n 1, 1) := by decide +kernel
theorem dL_law_746 : decode cL_law 746 = .ok (.aload_n 0, 1) := by decide +kernel
theorem dL_law_747 : decode cL_law 747 = .ok (.iload_n 3, 1) := by decide +kernel
theorem dL_law_748 : decode cL_law 748 = .ok (.iconst 1, 1) := by decide +kernel
theorem dL_law_749 : decode cL_law 749 = .ok (.iadd, 1) := by decide +kernel
theorem dL_law_750 : decode cL_law 750 = .ok (.iaload, 1) := by decide +kernel
theorem dL_law_751 : decode cL_law 751 = .ok (.invokevirtual 110, 3) := by decide +kernel
theorem dL_law_754 : decode cL_law 754 = .ok (.dstore 4, 2) := by decide +kernel
theorem dL_law_756 : decode cL_law 756 = .ok (.aload_n 2, 1) := by decide +kernel
theorem dL_law_757 : decode cL_law 757 = .ok (.aload_n 0, 1) := by decide +kernel
theorem dL_law_758 : decode cL_law 758 = .ok (.iload_n 3, 1) := by decide +kernel
theorem dL_law_759 : decode cL_law 759 = .ok (.iconst 1, 1) := by decide +kernel
theorem dL_law_760 : decode cL_law 760 = .ok (.iadd, 1) := by decide +kernel
theorem dL_law_761 : decode cL_law 761 = .ok (.iaload, 1) := by decide +kernel
theorem dL_law_762 : decode cL_law 762 = .ok (.invokevirtual 114, 3) := by decide +kernel
theorem dL_law_765 : decode cL_law 765 = .ok (.dstore 6, 2) := by decide +kernel
theorem dL_law_767 : decode cL_law 767 = .ok (.dload 4, 2) := by decide +kernel
theorem dL_law_769 : decode cL_law 769 = .ok (.dload 6, 2) := by decide +kernel
theorem dL_law_771 : decode cL_law 771 = .ok (.dcmp .l, 1) := by decide +kernel
theorem dL_law_772 : decode cL_law 772 = .ok (.ifCond .eq 21, 3) := by decide +kernel
theorem dL_law_775 : decode cL_law 775 = .ok (.dload 4, 2) := by decide +kernel
theorem dL_law_777 : decode cL_law 777 = .ok (.dload 4, 2) := by decide +kernel
theorem dL_law_779 : decode cL_law 779 = .ok (.dcmp .l, 1) := by decide +kernel
theorem dL_law_780 : decode cL_law 780 = .ok (.ifCond .eq 11, 3) := by decide +kernel
theorem dL_law_783 : decode cL_law 783 = .ok (.dload 6, 2) := by decide +kernel
theorem dL_law_785 : decode cL_law 785 = .ok (.dload 6, 2) := by decide +kernel
theorem dL_law_787 : decode cL_law 787 = .ok (.dcmp .l, 1) := by decide +kernel
theorem dL_law_788 : decode cL_law 788 = .ok (.ifCond .ne 5, 3) := by decide +kernel
theorem dL_law_791 : decode cL_law 791 = .ok (.iconst 0, 1) := by decide +kernel
theorem dL_law_792 : decode cL_law 792 = .ok (.ireturn, 1) := by decide +kernel
theorem dL_law_793 : decode cL_law 793 = .ok (.goto 42, 3) := by decide +kernel
theorem dL_law_796 : decode cL_law 796 = .ok (.aload_n 1, 1) := by decide +kernel
theorem dL_law_797 : decode cL_law 797 = .ok (.invokevirtual 115, 3) := by decide +kernel
theorem dL_law_800 : decode cL_law 800 = .ok (.aload_n 2, 1) := by decide +kernel
theorem dL_law_801 : decode cL_law 801 = .ok (.invokevirtual 118, 3) := by decide +kernel
theorem dL_law_804 : decode cL_law 804 = .ok (.if_icmp .eq 31, 3) := by decide +kernel
theorem dL_law_807 : decode cL_law 807 = .ok (.iconst 0, 1) := by decide +kernel
theorem dL_law_808 : decode cL_law 808 = .ok (.ireturn, 1) := by decide +kernel
theorem dL_law_809 : decode cL_law 809 = .ok (.aload_n 1, 1) := by decide +kernel
theorem dL_law_810 : decode cL_law 810 = .ok (.invokevirtual 119, 3) := by decide +kernel
theorem dL_law_813 : decode cL_law 813 = .ok (.aload_n 2, 1) := by decide +kernel
theorem dL_law_814 : decode cL_law 814 = .ok (.invokevirtual 122, 3) := by decide +kernel
theorem dL_law_817 : decode cL_law 817 = .ok (.if_icmp .eq 18, 3) := by decide +kernel
theorem dL_law_820 : decode cL_law 820 = .ok (.iconst 0, 1) := by decide +kernel
theorem dL_law_821 : decode cL_law 821 = .ok (.ireturn, 1) := by decide +kernel
theorem dL_law_822 : decode cL_law 822 = .ok (.aload_n 1, 1) := by decide +kernel
theorem dL_law_823 : decode cL_law 823 = .ok (.invokevirtual 123, 3) := by decide +kernel
theorem dL_law_826 : decode cL_law 826 = .ok (.aload_n 2, 1) := by decide +kernel
theorem dL_law_827 : decode cL_law 827 = .ok (.invokevirtual 126, 3) := by decide +kernel
theorem dL_law_830 : decode cL_law 830 = .ok (.if_icmp .eq 5, 3) := by decide +kernel
theorem dL_law_833 : decode cL_law 833 = .ok (.iconst 0, 1) := by decide +kernel
theorem dL_law_834 : decode cL_law 834 = .ok (.ireturn, 1) := by decide +kernel
theorem dL_law_835 : decode cL_law 835 = .ok (.iinc 3 5, 3) := by decide +kernel
theorem dL_law_838 : decode cL_law 838 = .ok (.goto (-820), 3) := by decide +kernel
theorem dL_law_841 : decode cL_law 841 = .ok (.iconst 1, 1) := by decide +kernel
theorem dL_law_842 : decode cL_law 842 = .ok (.ireturn, 1) := by decide +kernel
end
section
/-! THE MINI MACHINE: a memory of words M : place -> offset -> Int32 over 154 fixed places; V is the kit's W over it, T is Met -/
abbrev mx_M : Type := Nat → Nat → Int32
abbrev mx_Sh : Type := (Nat × Nat) ⊕ (Nat × List (Option Nat))
def mx_up (M : mx_M) (p i : Nat) (v : Int32) : mx_M := fun q j => if q = p then (if j = i then v else M q j) else M q j
/-- the shape of slot j of the Field at place a -/
def mx_fsh (a : Nat) : Nat → mx_Sh
  | 0 => .inr (3, [some (a + 1), some (a + 6), some (a + 12), some (a + 13), none, none, none, none, none])
  | 1 => .inr (2, [some (a + 2), some (a + 3), some (a + 4), some (a + 5), none])
  | 2 => .inl (0, 4)
  | 3 => .inl (0, 4)
  | 4 => .inl (0, 4)
  | 5 => .inl (0, 4)
  | 6 => .inr (0, [some (a + 7), some (a + 8), some (a + 9), some (a + 10), some (a + 11), none])
  | 7 => .inl (0, 60)
  | 8 => .inl (0, 60)
  | 9 => .inl (0, 60)
  | 10 => .inl (1, 60)
  | 11 => .inl (1, 60)
  | 12 => .inl (0, 2)
  | _ => .inl (0, 8)
/-- the shapes: 0 the class's object; Fields at 1, 15, 29 (field, trial, snapshot); the history 43 and its row 44, its Fields at 45, 59, 73, 87; the pad 101; the reader 103 with Emitters at 104; the lanes 109; the model 143 -/
def mx_sh (p : Nat) : mx_Sh :=
  if p = 0 then .inr (7, [some 1, some 15, some 29, none, some 43, some 101, some 103, some 109])
  else if p < 43 then mx_fsh ((p - 1) / 14 * 14 + 1) ((p - 1) % 14)
  else if p = 43 then .inr (4, [some 44, none])
  else if p = 44 then .inl (2, 4)
  else if p < 101 then mx_fsh ((p - 45) / 14 * 14 + 45) ((p - 45) % 14)
  else if p = 101 then .inr (6, [some 102, none])
  else if p = 102 then .inl (0, 60)
  else if p = 103 then .inr (1, [some 104, none, none, none])
  else if p = 104 then .inr (2, [some 105, some 106, some 107, some 108, none])
  else if p < 109 then .inl (0, 4)
  else if p = 109 then .inr (5, [some 110, some 111])
  else if p = 110 then .inl (0, 31)
  else if p = 111 then .inl (3, 31)
  else if p < 143 then .inl (0, 10)
  else if p = 143 then .inr (8, [some 144, some 145, some 146, none, some 147, none, some 148, none, some 149, none, none, some 150, none, some 151, some 152, some 153])
  else if p = 146 then .inl (0, 1332)
  else if p = 148 then .inl (0, 60)
  else if p = 149 then .inl (1, 60)
  else if p = 150 then .inl (0, 16)
  else if p = 151 then .inl (0, 31)
  else if p = 152 then .inl (0, 310)
  else if p = 153 then .inl (0, 31)
  else if p < 154 then .inl (0, 333)
  else .inl (9, 0)
def mx_r (ad : Nat → Nat) : Value → Value
  | .ref k => .ref (ad k)
  | v => v
/-- which place a row of references holds: the history's row by its word, the outer row of asidesFrom by its place -/
def mx_rf (k : Nat) (f : Nat → Int32) (i : Nat) : Nat := if k = 2 then (f i).toNatClampNeg else 112 + i
def mx_fv (ad : Nat → Nat) (f : Nat → Int32) (j : Nat) (o : Option Nat) : Value := match o with
  | some p => .ref (ad p)
  | none => .int (f j)
def mx_c (ad : Nat → Nat) (cy : Nat → ClassId) (sh : mx_Sh) (f : Nat → Int32) : va_E := match sh with
  | .inl a => if a.1 < 2 then .inl (cy a.1, a.2, .inl f) else .inl (cy a.1, a.2, .inr (.inr (.inr (.inr (fun i => some (ad (mx_rf a.1 f i)))))))
  | .inr o => .inr (o.1, o.2.mapIdx (mx_fv ad f))
def mx_w (ad : Nat → Nat) (cy : Nat → ClassId) (M : mx_M) : va_W := (List.range 154).map (fun p => (ad p, mx_c ad cy (mx_sh p) (M p)))
def mx_ty (cy : Nat → ClassId) : List (ClassId × FieldType) := [(cy 0, .int), (cy 1, .boolean), (cy 2, .object RX3), (cy 3, .array .int)]
def mx_D (ad : Nat → Nat) (A : Nat → Prop) : Prop := (∀ i j, i < 154 → j < 154 → ad i = ad j → i = j) ∧ ∀ i, i < 154 → A (ad i)
def mx_A (ad : Nat → Nat) : Nat → Prop := fun q => ∃ i, i < 154 ∧ q = ad i
theorem mx_w_get (ad : Nat → Nat) (cy : Nat → ClassId) (M : mx_M) {p : Nat} (h : p < 154) : (mx_w ad cy M)[p]? = some (ad p, mx_c ad cy (mx_sh p) (M p)) := by
  simp [mx_w, h]
theorem mx_w_set (ad : Nat → Nat) (cy : Nat → ClassId) (M : mx_M) {p : Nat} {e : va_E} {N : mx_M} (h : p < 154) (he : e = mx_c ad cy (mx_sh p) (N p)) (hN : ∀ q, q ≠ p → N q = M q) : (mx_w ad cy M).set p (ad p, e) = mx_w ad cy N := by
  subst he
  apply List.ext_getElem?
  intro i
  by_cases hi : i < 154
  · rw [mx_w_get ad cy N hi]
    by_cases hip : i = p
    · subst hip
      rw [List.getElem?_set_self (by simp [mx_w, hi])]
    · rw [List.getElem?_set_ne (Ne.symm hip), mx_w_get ad cy M hi, hN i hip]
  · rw [List.getElem?_eq_none (by simp [mx_w]; omega), List.getElem?_eq_none (by simp [mx_w]; omega)]
theorem mx_D.va {ad : Nat → Nat} {A : Nat → Prop} (h : mx_D ad A) (cy : Nat → ClassId) (M : mx_M) : va_D A (mx_w ad cy M) := by
  have key : ∀ (k : Nat) (q : Nat × va_E), (mx_w ad cy M)[k]? = some q → k < 154 ∧ q.1 = ad k := by
    intro k q hk
    have hl : k < 154 := by
      have := (List.getElem?_eq_some_iff.mp hk).1
      simpa [mx_w] using this
    rw [mx_w_get ad cy M hl] at hk
    cases hk
    exact ⟨hl, rfl⟩
  refine ⟨fun i j x y hi hj hxy => ?_, fun k q hk => ?_⟩
  · obtain ⟨a1, a2⟩ := key i x hi
    obtain ⟨b1, b2⟩ := key j y hj
    exact h.1 i j a1 b1 (a2.symm.trans (hxy.trans b2))
  · obtain ⟨a1, a2⟩ := key k q hk
    rw [a2]
    exact h.2 k a1
theorem mx_D.self {ad : Nat → Nat} (h : ∀ i j, i < 154 → j < 154 → ad i = ad j → i = j) : mx_D ad (mx_A ad) := ⟨h, fun i hi => ⟨i, hi, rfl⟩⟩
/-- the words of every method: all of the tables -/
def mx_TW : List Cond := lw_tbl.filter goodWord
def mx_nest : List Cond := tables_1.filter (fun w => match w with | .methodLinkNest .. => true | _ => false)
def mx_S (D : va_G) (cy : Nat → ClassId) (U : State) : Prop := va_K D vwCl (mx_ty cy) U ∧ ∀ w ∈ mx_nest, va_Nw w U
/-- the locals -/
def mx_L (ad : Nat → Nat) (ls : List (Option Value)) (a : Array Slot) (nL : Nat) : Prop := a.size = nL ∧ lv_wf a ∧ ls.length = nL ∧ ∀ (i : Nat) (v : Value), ls[i]? = some (some v) → a[i]? = some (.val (mx_r ad v))
def mx_c1 (ls : List (Option Value)) : Bool := ls.all (fun o => match o with | some v => v.category == 1 | none => true)
theorem mx_r_cat (ad : Nat → Nat) (v : Value) : (mx_r ad v).category = v.category := by cases v <;> rfl
/-- as the kit has the locals -/
def mx_as (ad : Nat → Nat) (ls : List (Option Value)) : List (Nat × Value) := (List.range ls.length).filterMap (fun i => match ls[i]? with | some (some v) => some (i, mx_r ad v) | _ => none)
theorem mx_L.has {ad : Nat → Nat} {ls : List (Option Value)} {a : Array Slot} {nL : Nat} (h : mx_L ad ls a nL) : lv_has a nL (mx_as ad ls) := by
  refine ⟨h.1, h.2.1, fun q hq => ?_⟩
  obtain ⟨i, -, hi⟩ := List.mem_filterMap.mp hq
  split at hi
  · rename_i v hv
    cases hi
    exact h.2.2.2 i v hv
  · cases hi
theorem mx_as_mem {ad : Nat → Nat} {ls : List (Option Value)} {i : Nat} {v : Value} (h : ls[i]? = some (some v)) : (i, mx_r ad v) ∈ mx_as ad ls := by
  refine List.mem_filterMap.mpr ⟨i, List.mem_range.mpr (List.getElem?_eq_some_iff.mp h).1, ?_⟩
  rw [h]
theorem mx_c1_at {ls : List (Option Value)} (h : mx_c1 ls = true) {i : Nat} {v : Value} (hv : ls[i]? = some (some v)) : v.category = 1 := by
  have := List.all_eq_true.mp h _ (List.mem_of_getElem? hv)
  simpa using this
theorem mx_L.store {ad : Nat → Nat} {ls : List (Option Value)} {a a' : Array Slot} {nL i : Nat} {v : Value} (h : mx_L ad ls a nL) (hc : mx_c1 ls = true) (h' : lv_has a' nL ((i, mx_r ad v) :: (mx_as ad ls).filter (fun q => !(q.1 == i) && !(q.1 + 1 == i && q.2.category == 2)))) : mx_L ad (ls.set i (some v)) a' nL := by
  refine ⟨h'.1, h'.2.1, by rw [List.length_set]; exact h.2.2.1, fun j w hj => ?_⟩
  by_cases hji : j = i
  · subst hji
    have hl : j < ls.length := by
      have := (List.getElem?_eq_some_iff.mp hj).1
      simpa using this
    rw [List.getElem?_set_self hl] at hj
    cases hj
    exact h'.2.2 (j, mx_r ad v) List.mem_cons_self
  · rw [List.getElem?_set_ne (Ne.symm hji)] at hj
    refine h'.2.2 (j, mx_r ad w) (List.mem_cons_of_mem _ (List.mem_filter.mpr ⟨mx_as_mem hj, ?_⟩))
    have hcw : (mx_r ad w).category = 1 := by rw [mx_r_cat]; exact mx_c1_at hc hj
    simp [hji, hcw]
/-- what may be returned by a method that returns ret -/
def mx_n (ret : Option FieldType) (v : Option Value) : Prop := match v with
  | none => ret = none
  | some (.int x) => ret = some .int ∨ (ret = some .boolean ∧ narrow .boolean (.int x) = .int x)
  | some (.double _) => ret = some .double
  | _ => False
def mx_ri (v : Option Value) : Instr := match v with
  | none => .return_
  | some (.double _) => .dreturn
  | _ => .ireturn
def mx_rm (d : Nat) : Room := { frames := d, cells := 0, slots := 0, locals := 36 * d }
def mx_V (cc : ByteArray) (own : String) (nL : Nat) (ret : Option FieldType) (d pc : Nat) (ls : List (Option Value)) (st : List Value) (M : mx_M) (Q : Option Value → mx_M → Prop) : Prop :=
  ∀ (p : Program) (l : Launch) (e : Env) (R : Room) (s : State) (m : MethodId) (args : Array Value) (below : List Frame) (meth : Method) (c : Code) (D : va_G) (ad : Nat → Nat) (cy : Nat → ClassId) (A : Nat → Prop) (H0 : Heap) (cells slots : Nat) (Z : State → Prop),
    p.tables.exec = Jvm.exec → c.code = cc → c.maxLocals = nL → s.vm.findClass own = some m.cls → (∀ w ∈ mx_TW, w.before args s = true) → mx_S D cy s → (d ≤ R.frames ∧ 36 * d ≤ R.locals ∧ cells ≤ R.cells ∧ slots ≤ R.slots) → mx_D ad A →
    (∀ (v : Option Value) (M' : mx_M) (H : Heap) (locs : List Loc) (ls' : Array Slot) (pc' : Nat), Q v M' → mx_n ret v → va_P D vwCl (mx_w ad cy M') H → va_S A H0 H locs → decode cc pc' = .ok (mx_ri v, 1) → W p l e R s m args below meth c H locs cells slots Z (F0 m pc' ls' ((v.map (mx_r ad)).toList))) →
    ∀ (H : Heap) (locs : List Loc) (lsA : Array Slot), va_P D vwCl (mx_w ad cy M) H → va_S A H0 H locs → mx_L ad ls lsA nL → W p l e R s m args below meth c H locs cells slots Z (F0 m pc lsA (st.map (mx_r ad)))
def mx_Qm (Q : Option Value → mx_M → Prop) (D : va_G) (ad : Nat → Nat) (cy : Nat → ClassId) : Array Value → State → Outcome → State → Prop := fun _ st o t => (∃ (v : Option Value) (M' : mx_M), o = .returned (v.map (mx_r ad)) ∧ Q v M' ∧ va_P D vwCl (mx_w ad cy M') t.heap) ∧ va_F (mx_A ad) st t
def mx_Pm (av : List Value) (M : mx_M) (D : va_G) (ad : Nat → Nat) (cy : Nat → ClassId) : Array Value → State → Prop := fun v U => v = (av.map (mx_r ad)).toArray ∧ va_P D vwCl (mx_w ad cy M) U.heap ∧ mx_S D cy U ∧ ∀ i j, i < 154 → j < 154 → ad i = ad j → i = j
/-- A METHOD'S TRIPLE -/
def mx_T (y : MethodName) (cc : ByteArray) (nL : Nat) (ret : Option FieldType) (d : Nat) (av : List Value) (M : mx_M) (Q : Option Value → mx_M → Prop) : Prop :=
  ∀ (l : Launch) (D : va_G) (ad : Nat → Nat) (cy : Nat → ClassId), Met l y (Cond.code y cc nL ret :: mx_TW) (mx_rm d) (mx_Pm av M D ad cy) (mx_Qm Q D ad cy) 0 0 (mx_A ad)
theorem mx_lg (vs : List Value) (h : vs.all (fun v => v.category == 1) = true) : lg_sl vs = vs.map Slot.val := by
  induction vs with
  | nil => rfl
  | cons v vs ih =>
    simp only [List.all_cons, Bool.and_eq_true, beq_iff_eq] at h
    have := ih h.2
    simp only [lg_sl, List.flatMap_cons] at this ⊢
    rw [this, if_neg (by omega)]
    rfl
theorem mx_L.entry (ad : Nat → Nat) (av : List Value) (nL : Nat) (hn : av.length ≤ nL) (h : av.all (fun v => v.category == 1) = true) : mx_L ad (av.map some ++ List.replicate (nL - av.length) none) ((lg_sl (av.map (mx_r ad)) ++ List.replicate (nL - (lg_sl (av.map (mx_r ad))).length) Slot.unset).toArray) nL := by
  have hc : (av.map (mx_r ad)).all (fun v => v.category == 1) = true := by
    rw [List.all_map]
    refine List.all_eq_true.mpr fun v hv => ?_
    have := List.all_eq_true.mp h v hv
    simpa [mx_r_cat] using this
  have hl := lv_entry (av.map (mx_r ad)) (n := nL) (by rw [mx_lg _ hc]; simpa using hn)
  refine ⟨hl.1, hl.2.1, by simp; omega, fun i v hv => ?_⟩
  rw [mx_lg _ hc]
  by_cases hi : i < av.length
  · rw [List.getElem?_append_left (by simpa using hi)] at hv
    rw [List.getElem?_toArray, List.getElem?_append_left (by simpa using hi)]
    simp only [List.getElem?_map, Option.map_eq_some_iff] at hv ⊢
    obtain ⟨w, hw, he⟩ := hv
    cases he
    exact ⟨_, ⟨_, hw, rfl⟩, rfl⟩
  · rw [List.getElem?_append_right (by simpa using hi)] at hv
    rw [List.getElem?_replicate] at hv
    split at hv
    · cases hv
    · cases hv
theorem mx_T.of {y : MethodName} {cc : ByteArray} {nL : Nat} {ret : Option FieldType} {d : Nat} {av : List Value} {M : mx_M} {Q : Option Value → mx_M → Prop} (hy : plainName y.cls = true) (hn : av.length ≤ nL) (hc : av.all (fun v => v.category == 1) = true)
    (h : mx_V cc y.cls nL ret d 0 (av.map some ++ List.replicate (nL - av.length) none) [] M Q) : mx_T y cc nL ret d av M Q := by
  intro l D ad cy
  refine Met.ofW (cc := cc) (maxL := nL) (ret := ret) hy rfl ?_
  intro p e s m args below meth c s₁ B hml hv
  obtain ⟨rfl, hP, hS, hi⟩ := hv
  have hts : ∀ w ∈ mx_TW, w.before (av.map (mx_r ad)).toArray s = true := fun w hw => atoms_spec (ws := Cond.code y cc nL ret :: mx_TW) B.pre w (List.mem_cons_of_mem _ hw)
  rw [lg_entry_eq]
  have hlocks := B.notSynchronized
  have hr := B.returns
  refine h p l e _ s m _ below meth c D ad cy (mx_A ad) s.heap 0 0 _ B.exec B.bytes hml (findClass_of_methodNamed B.named) hts hS ⟨Nat.le_refl d, Nat.le_refl (36 * d), Nat.le_refl 0, Nat.le_refl 0⟩ (mx_D.self hi) ?_ s.heap [] _ hP va_S.rf (mx_L.entry ad av nL hn hc)
  intro v M' H locs ls' pc' hQ hn' hP' hS' hdg
  have fin : ∀ t : State, t.heap = H → mx_Qm Q D ad cy (av.map (mx_r ad)).toArray s (.returned (v.map (mx_r ad))) t := fun t ht => ⟨⟨v, M', rfl, hQ, by rw [ht]; exact hP'⟩, hS'.F ht⟩
  match v, hn', hdg, fin with
  | none, hn', hdg, fin =>
    exact W.vret B.exec B.bytes (hr.trans hn') (fun t ht _ => fin t ht) hS'.2.2 hdg
  | some (.int x), hn', hdg, fin =>
    rcases hn' with hn' | ⟨hn', hnar⟩
    · exact W.iret B.exec B.bytes (hr.trans hn') (fun t ht _ => fin t ht) hS'.2.2 hdg
    · exact W.zret B.exec B.bytes (hr.trans hn') hnar (fun t ht _ => fin t ht) hS'.2.2 hdg
  | some (.double x), hn', hdg, fin =>
    exact W.dret B.exec B.bytes (hr.trans hn') (fun t ht _ => fin t ht) hS'.2.2 hdg
end
section
theorem mx_up_eq (M : mx_M) (p i : Nat) (v : Int32) : mx_up M p i v p i = v := by simp [mx_up]
theorem mx_up_ne {M : mx_M} {p i : Nat} {v : Int32} {q : Nat} (h : q ≠ p) : mx_up M p i v q = M q := by
  funext j
  simp [mx_up, h]
/-- k words of row a over those of row b -/
def mx_cp (M : mx_M) (a b k : Nat) : mx_M := fun q j => if q = b then (if j < k then M a j else M b j) else M q j
theorem mx_cp_ne {M : mx_M} {a b k q : Nat} (h : q ≠ b) : mx_cp M a b k q = M q := by
  funext j
  simp [mx_cp, h]
theorem mx_sh_ge {p : Nat} (h : ¬ p < 154) : mx_sh p = .inl (9, 0) := by
  unfold mx_sh
  repeat (first | rw [if_neg (by omega)])
theorem mx_sh_lt {p : Nat} (h : (∃ o, mx_sh p = .inr o) ∨ ∃ k n, k < 4 ∧ mx_sh p = .inl (k, n)) : p < 154 := by
  by_cases hp : p < 154
  · exact hp
  · rw [mx_sh_ge hp] at h
    rcases h with ⟨o, h⟩ | ⟨k, n, hk, h⟩
    · cases h
    · cases h
      omega
def mx_len (s : mx_Sh) : Nat := match s with
  | .inl a => a.2
  | .inr _ => 0
theorem mx_sh_lens : ∀ p, p < 154 → mx_len (mx_sh p) ≤ 1332 := by decide +kernel
theorem mx_sh_len {p k n : Nat} (h : mx_sh p = .inl (k, n)) : n ≤ 1332 := by
  by_cases hp : p < 154
  · have := mx_sh_lens p hp
    rw [h] at this
    exact this
  · rw [mx_sh_ge hp] at h
    cases h
    omega
theorem mx_c_obj (ad : Nat → Nat) (cy : Nat → ClassId) {a ci : Nat} {t : List (Option Nat)} {f : Nat → Int32} (h : mx_sh a = .inr (ci, t)) : mx_c ad cy (mx_sh a) f = .inr (ci, t.mapIdx (mx_fv ad f)) := by rw [h]; rfl
theorem mx_c_arr (ad : Nat → Nat) (cy : Nat → ClassId) {a k n : Nat} {f : Nat → Int32} (hk : k < 2) (h : mx_sh a = .inl (k, n)) : mx_c ad cy (mx_sh a) f = .inl (cy k, n, .inl f) := by rw [h]; simp [mx_c, hk]
theorem mx_c_rarr (ad : Nat → Nat) (cy : Nat → ClassId) {a k n : Nat} {f : Nat → Int32} (hk : ¬ k < 2) (h : mx_sh a = .inl (k, n)) : mx_c ad cy (mx_sh a) f = .inl (cy k, n, .inr (.inr (.inr (.inr (fun i => some (ad (mx_rf k f i))))))) := by rw [h]; simp [mx_c, hk]
theorem mx_c_put (ad : Nat → Nat) (cy : Nat → ClassId) {a ci k : Nat} {t : List (Option Nat)} {M : mx_M} {x : Int32} (h : mx_sh a = .inr (ci, t)) (ht : t[k]? = some none) : (.inr (ci, (t.mapIdx (mx_fv ad (M a))).set k (.int x)) : va_E) = mx_c ad cy (mx_sh a) (mx_up M a k x a) := by
  rw [mx_c_obj ad cy h]
  congr 2
  apply List.ext_getElem?
  intro j
  by_cases hj : j = k
  · subst hj
    rw [List.getElem?_set_self (by rw [List.length_mapIdx]; exact (List.getElem?_eq_some_iff.mp ht).1), List.getElem?_mapIdx, ht]
    simp [mx_fv, mx_up]
  · rw [List.getElem?_set_ne (Ne.symm hj), List.getElem?_mapIdx, List.getElem?_mapIdx]
    cases t[j]? with
    | none => rfl
    | some o => cases o <;> simp [mx_fv, mx_up, hj]
theorem mx_c_ast (ad : Nat → Nat) (cy : Nat → ClassId) {a k n j : Nat} {M : mx_M} {y : Int32} (hk : k < 2) (h : mx_sh a = .inl (k, n)) : (.inl (cy k, n, .inl (upd (M a) j y)) : va_E) = mx_c ad cy (mx_sh a) (mx_up M a j y a) := by
  rw [mx_c_arr ad cy hk h]
  congr 4
  funext i
  simp [upd, mx_up]
theorem mx_c_aast (ad : Nat → Nat) (cy : Nat → ClassId) {a n j b : Nat} {M : mx_M} (h : mx_sh a = .inl (2, n)) (hb : b < 154) : (.inl (cy 2, n, .inr (.inr (.inr (.inr (va_up (fun i => some (ad (mx_rf 2 (M a) i))) j (some (ad b))))))) : va_E) = mx_c ad cy (mx_sh a) (mx_up M a j (nI b) a) := by
  rw [mx_c_rarr ad cy (by decide) h]
  congr 7
  funext i
  by_cases hi : i = j
  · subst hi
    simp [va_up, mx_rf, mx_up, nI_clamp (show b < 2 ^ 31 by omega)]
  · simp [va_up, mx_rf, mx_up, hi]
theorem mx_c_cp (ad : Nat → Nat) (cy : Nat → ClassId) {a b n k : Nat} {M : mx_M} (h : mx_sh b = .inl (0, n)) : (.inl (cy 0, n, .inl (va_cpy (M a) (M b) 0 0 k)) : va_E) = mx_c ad cy (mx_sh b) (mx_cp M a b k b) := by
  rw [mx_c_arr ad cy (by decide) h]
  congr 4
  funext i
  by_cases hi : i < k <;> simp [va_cpy, mx_cp, hi]
theorem mx_in {w : Cond} (i : Nat) (h : lw_tbl[i]? = some w) (hg : goodWord w = true) : w ∈ mx_TW := List.mem_filter.mpr ⟨List.mem_of_getElem? h, hg⟩
/-- a field: the link number idx of the class own is the field k of the class number ci -/
def mx_F (own : String) (idx ci k : Nat) (ty : FieldType) (fin : Bool) : Prop := ∃ (C : String) (T : u_T) (N : Nat) (t0 : Nat → FieldType), vwCl[ci]? = some (C, T, N) ∧ k < N ∧ Cond.fieldLink own idx (T k).1 (T k).2.1 (T k).2.2.1 ∈ mx_TW ∧ (∀ w ∈ u_ws C T N, w ∈ mx_TW) ∧ (∀ j, j < N → parseFieldDescriptor (T j).2.2.1 = some (t0 j)) ∧ (∀ a, a < N → ∀ b, b < N → a ≠ b → (T a).2.1 ≠ (T b).2.1) ∧ t0 k = ty ∧ (T k).2.2.2 = fin
section MXA
variable {p : Program} {l : Launch} {e : Env} {R : Room} {s : State} {m : MethodId} {args : Array Value} {below : List Frame} {meth : Method} {c : Code} {H : Heap} {locs : List Loc} {cells slots : Nat} {Q : State → Prop}
variable {cc : ByteArray} {pc : Nat} {ls : Array Slot} {rest : List Value} {D : va_G} {cl : List vw_C} {a : Nat} {tys : List (ClassId × FieldType)} {ws : va_W}
theorem mx_aalda (hexec : p.tables.exec = Jvm.exec) (hb : c.code = cc) (hK : va_K D cl tys s) (hP : va_P D cl ws H) (q0 t0 : Nat) {cA : ClassId} {ty : FieldType} {n : Nat} {f : Nat → Option Nat} (ha : ws[q0]? = some (a, .inl (cA, n, .inr (.inr (.inr (.inr f)))))) (ht : tys[t0]? = some (cA, .array ty)) {i : Int32} (hin : vp_in i n) (hdg : decode cc pc = .ok (.aaload, 1))
    (kk : W p l e R s m args below meth c H locs cells slots Q (F0 m (pc + 1) ls (va_rf (f i.toNatClampNeg) :: rest))) : W p l e R s m args below meth c H locs cells slots Q (F0 m pc ls (.int i :: .ref a :: rest)) := by
  have hlt : i.toNatClampNeg < n := Nat.not_le.mp fun q => hin (Or.inr q)
  exact W.aald (v := va_rf (f i.toNatClampNeg)) (ty := .array ty) hexec hb (hP q0 _ ha) ((hK.2 t0 _ ht).1 n (fun j => va_rf (f j))) rfl (fun q => by cases q) (by show ¬ (i < 0 ∨ (arrV _ _ _).slots.size ≤ _); rw [arrV_size]; exact hin) (by show (arrV _ _ _).slots[_]? = _; rw [arrV_read _ _ hlt]) rfl rfl hdg kk
end MXA
theorem mx_w_nat : Cond.native arraycopyName ∈ mx_TW := mx_in 328 (by decide +kernel) (by decide +kernel)
theorem mx_w_acs : Cond.static arraycopyName ∈ mx_TW := mx_in 327 (by decide +kernel) (by decide +kernel)
theorem mx_w_sys : Cond.initialized "java/lang/System" ∈ mx_TW := mx_in 63 (by decide +kernel) (by decide +kernel)
theorem mx_iload {cc : ByteArray} {own : String} {nL : Nat} {ret : Option FieldType} {d pc pc' : Nat} {ls : List (Option Value)} {st : List Value} {M : mx_M} {Q : Option Value → mx_M → Prop} {i : Nat} {x : Int32} (hd : decode cc pc = .ok (.iload i, 2)) (hl : ls[i]? = some (some (.int x))) (hp : pc + 2 = pc') (k : mx_V cc own nL ret d pc' ls (.int x :: st) M Q) : mx_V cc own nL ret d pc ls st M Q := by
  intro p l e R s m args below meth c D ad cy A H0 cells slots Z hx hb hml hown hts hS hR hD hE H locs lsA hP hSS hL
  subst hp
  exact lv_iload hx hb hd (hL.2.2.2 i _ hl) (k p l e R s m args below meth c D ad cy A H0 cells slots Z hx hb hml hown hts hS hR hD hE H locs lsA hP hSS hL)
theorem mx_iload_n {cc : ByteArray} {own : String} {nL : Nat} {ret : Option FieldType} {d pc pc' : Nat} {ls : List (Option Value)} {st : List Value} {M : mx_M} {Q : Option Value → mx_M → Prop} {i : Fin 4} {x : Int32} (hd : decode cc pc = .ok (.iload_n i, 1)) (hl : ls[i.val]? = some (some (.int x))) (hp : pc + 1 = pc') (k : mx_V cc own nL ret d pc' ls (.int x :: st) M Q) : mx_V cc own nL ret d pc ls st M Q := by
  intro p l e R s m args below meth c D ad cy A H0 cells slots Z hx hb hml hown hts hS hR hD hE H locs lsA hP hSS hL
  subst hp
  exact lv_iload_n hx hb hd rfl (hL.2.2.2 i.val _ hl) (k p l e R s m args below meth c D ad cy A H0 cells slots Z hx hb hml hown hts hS hR hD hE H locs lsA hP hSS hL)
theorem mx_aload {cc : ByteArray} {own : String} {nL : Nat} {ret : Option FieldType} {d pc pc' : Nat} {ls : List (Option Value)} {st : List Value} {M : mx_M} {Q : Option Value → mx_M → Prop} {i : Nat} {x : Nat} (hd : decode cc pc = .ok (.aload i, 2)) (hl : ls[i]? = some (some (.ref x))) (hp : pc + 2 = pc') (k : mx_V cc own nL ret d pc' ls (.ref x :: st) M Q) : mx_V cc own nL ret d pc ls st M Q := by
  intro p l e R s m args below meth c D ad cy A H0 cells slots Z hx hb hml hown hts hS hR hD hE H locs lsA hP hSS hL
  subst hp
  exact lv_aload hx hb hd (hL.2.2.2 i _ hl) (k p l e R s m args below meth c D ad cy A H0 cells slots Z hx hb hml hown hts hS hR hD hE H locs lsA hP hSS hL)
theorem mx_aload_n {cc : ByteArray} {own : String} {nL : Nat} {ret : Option FieldType} {d pc pc' : Nat} {ls : List (Option Value)} {st : List Value} {M : mx_M} {Q : Option Value → mx_M → Prop} {i : Fin 4} {x : Nat} (hd : decode cc pc = .ok (.aload_n i, 1)) (hl : ls[i.val]? = some (some (.ref x))) (hp : pc + 1 = pc') (k : mx_V cc own nL ret d pc' ls (.ref x :: st) M Q) : mx_V cc own nL ret d pc ls st M Q := by
  intro p l e R s m args below meth c D ad cy A H0 cells slots Z hx hb hml hown hts hS hR hD hE H locs lsA hP hSS hL
  subst hp
  exact lv_aload_n hx hb hd rfl (hL.2.2.2 i.val _ hl) (k p l e R s m args below meth c D ad cy A H0 cells slots Z hx hb hml hown hts hS hR hD hE H locs lsA hP hSS hL)
theorem mx_iconst {cc : ByteArray} {own : String} {nL : Nat} {ret : Option FieldType} {d pc pc' : Nat} {ls : List (Option Value)} {st : List Value} {M : mx_M} {Q : Option Value → mx_M → Prop} {n : Int} {v : Int32} (hd : decode cc pc = .ok (.iconst n, 1)) (hv : Int32.ofInt n = v) (hp : pc + 1 = pc') (k : mx_V cc own nL ret d pc' ls (.int v :: st) M Q) : mx_V cc own nL ret d pc ls st M Q := by
  intro p l e R s m args below meth c D ad cy A H0 cells slots Z hx hb hml hown hts hS hR hD hE H locs lsA hP hSS hL
  subst hp
  exact lv_iconst hx hb hd hv (k p l e R s m args below meth c D ad cy A H0 cells slots Z hx hb hml hown hts hS hR hD hE H locs lsA hP hSS hL)
theorem mx_bipush {cc : ByteArray} {own : String} {nL : Nat} {ret : Option FieldType} {d pc pc' : Nat} {ls : List (Option Value)} {st : List Value} {M : mx_M} {Q : Option Value → mx_M → Prop} {n : Int} {v : Int32} (hd : decode cc pc = .ok (.bipush n, 2)) (hv : (Int8.ofInt n).toInt32 = v) (hp : pc + 2 = pc') (k : mx_V cc own nL ret d pc' ls (.int v :: st) M Q) : mx_V cc own nL ret d pc ls st M Q := by
  intro p l e R s m args below meth c D ad cy A H0 cells slots Z hx hb hml hown hts hS hR hD hE H locs lsA hP hSS hL
  subst hp
  exact lv_bipush hx hb hd hv (k p l e R s m args below meth c D ad cy A H0 cells slots Z hx hb hml hown hts hS hR hD hE H locs lsA hP hSS hL)
theorem mx_sipush {cc : ByteArray} {own : String} {nL : Nat} {ret : Option FieldType} {d pc pc' : Nat} {ls : List (Option Value)} {st : List Value} {M : mx_M} {Q : Option Value → mx_M → Prop} {n : Int} {v : Int32} (hd : decode cc pc = .ok (.sipush n, 3)) (hv : (Int16.ofInt n).toInt32 = v) (hp : pc + 3 = pc') (k : mx_V cc own nL ret d pc' ls (.int v :: st) M Q) : mx_V cc own nL ret d pc ls st M Q := by
  intro p l e R s m args below meth c D ad cy A H0 cells slots Z hx hb hml hown hts hS hR hD hE H locs lsA hP hSS hL
  subst hp
  exact lv_sipush hx hb hd hv (k p l e R s m args below meth c D ad cy A H0 cells slots Z hx hb hml hown hts hS hR hD hE H locs lsA hP hSS hL)
theorem mx_istore {cc : ByteArray} {own : String} {nL : Nat} {ret : Option FieldType} {d pc pc' : Nat} {ls : List (Option Value)} {st : List Value} {M : mx_M} {Q : Option Value → mx_M → Prop} {i : Nat} {x : Int32} {ls' : List (Option Value)} (hd : decode cc pc = .ok (.istore i, 2)) (hi : i < nL) (hc : mx_c1 ls = true) (hls : ls.set i (some (.int x)) = ls') (hp : pc + 2 = pc') (k : mx_V cc own nL ret d pc' ls' st M Q) : mx_V cc own nL ret d pc ls (.int x :: st) M Q := by
  intro p l e R s m args below meth c D ad cy A H0 cells slots Z hx hb hml hown hts hS hR hD hE H locs lsA hP hSS hL
  subst hp
  subst hls
  exact lv_istore hx hb hd hL.has hi rfl (fun a' h' => k p l e R s m args below meth c D ad cy A H0 cells slots Z hx hb hml hown hts hS hR hD hE H locs a' hP hSS (hL.store hc h'))
theorem mx_istore_n {cc : ByteArray} {own : String} {nL : Nat} {ret : Option FieldType} {d pc pc' : Nat} {ls : List (Option Value)} {st : List Value} {M : mx_M} {Q : Option Value → mx_M → Prop} {i : Fin 4} {x : Int32} {ls' : List (Option Value)} (hd : decode cc pc = .ok (.istore_n i, 1)) (hi : i.val < nL) (hc : mx_c1 ls = true) (hls : ls.set i.val (some (.int x)) = ls') (hp : pc + 1 = pc') (k : mx_V cc own nL ret d pc' ls' st M Q) : mx_V cc own nL ret d pc ls (.int x :: st) M Q := by
  intro p l e R s m args below meth c D ad cy A H0 cells slots Z hx hb hml hown hts hS hR hD hE H locs lsA hP hSS hL
  subst hp
  subst hls
  exact lv_istore_n hx hb hd rfl hL.has hi rfl (fun a' h' => k p l e R s m args below meth c D ad cy A H0 cells slots Z hx hb hml hown hts hS hR hD hE H locs a' hP hSS (hL.store hc h'))
theorem mx_astore {cc : ByteArray} {own : String} {nL : Nat} {ret : Option FieldType} {d pc pc' : Nat} {ls : List (Option Value)} {st : List Value} {M : mx_M} {Q : Option Value → mx_M → Prop} {i : Nat} {x : Nat} {ls' : List (Option Value)} (hd : decode cc pc = .ok (.astore i, 2)) (hi : i < nL) (hc : mx_c1 ls = true) (hls : ls.set i (some (.ref x)) = ls') (hp : pc + 2 = pc') (k : mx_V cc own nL ret d pc' ls' st M Q) : mx_V cc own nL ret d pc ls (.ref x :: st) M Q := by
  intro p l e R s m args below meth c D ad cy A H0 cells slots Z hx hb hml hown hts hS hR hD hE H locs lsA hP hSS hL
  subst hp
  subst hls
  exact lv_astore hx hb hd hL.has hi rfl (fun a' h' => k p l e R s m args below meth c D ad cy A H0 cells slots Z hx hb hml hown hts hS hR hD hE H locs a' hP hSS (hL.store (v := .ref x) hc h'))
theorem mx_astore_n {cc : ByteArray} {own : String} {nL : Nat} {ret : Option FieldType} {d pc pc' : Nat} {ls : List (Option Value)} {st : List Value} {M : mx_M} {Q : Option Value → mx_M → Prop} {i : Fin 4} {x : Nat} {ls' : List (Option Value)} (hd : decode cc pc = .ok (.astore_n i, 1)) (hi : i.val < nL) (hc : mx_c1 ls = true) (hls : ls.set i.val (some (.ref x)) = ls') (hp : pc + 1 = pc') (k : mx_V cc own nL ret d pc' ls' st M Q) : mx_V cc own nL ret d pc ls (.ref x :: st) M Q := by
  intro p l e R s m args below meth c D ad cy A H0 cells slots Z hx hb hml hown hts hS hR hD hE H locs lsA hP hSS hL
  subst hp
  subst hls
  exact lv_astore_n hx hb hd rfl hL.has hi rfl (fun a' h' => k p l e R s m args below meth c D ad cy A H0 cells slots Z hx hb hml hown hts hS hR hD hE H locs a' hP hSS (hL.store (v := .ref x) hc h'))
theorem mx_iinc {cc : ByteArray} {own : String} {nL : Nat} {ret : Option FieldType} {d pc pc' : Nat} {ls : List (Option Value)} {st : List Value} {M : mx_M} {Q : Option Value → mx_M → Prop} {i : Nat} {n : Int} {x v : Int32} {ls' : List (Option Value)} (hd : decode cc pc = .ok (.iinc i n, 3)) (hl : ls[i]? = some (some (.int x))) (hv : x + Int32.ofInt n = v) (hi : i < nL) (hc : mx_c1 ls = true) (hls : ls.set i (some (.int v)) = ls') (hp : pc + 3 = pc') (k : mx_V cc own nL ret d pc' ls' st M Q) : mx_V cc own nL ret d pc ls st M Q := by
  intro p l e R s m args below meth c D ad cy A H0 cells slots Z hx hb hml hown hts hS hR hD hE H locs lsA hP hSS hL
  subst hp
  subst hls
  obtain ⟨j, hj⟩ := List.getElem?_of_mem (mx_as_mem (ad := ad) hl)
  exact lv_iinc (k := j) hx hb hd hL.has hj hv hi rfl (fun a' h' => k p l e R s m args below meth c D ad cy A H0 cells slots Z hx hb hml hown hts hS hR hD hE H locs a' hP hSS (hL.store hc h'))
theorem mx_iadd {cc : ByteArray} {own : String} {nL : Nat} {ret : Option FieldType} {d pc pc' : Nat} {ls : List (Option Value)} {st : List Value} {M : mx_M} {Q : Option Value → mx_M → Prop} {x y v : Int32} (hd : decode cc pc = .ok (.iadd, 1)) (hv : x + y = v) (hp : pc + 1 = pc') (k : mx_V cc own nL ret d pc' ls (.int v :: st) M Q) : mx_V cc own nL ret d pc ls (.int y :: .int x :: st) M Q := by
  intro p l e R s m args below meth c D ad cy A H0 cells slots Z hx hb hml hown hts hS hR hD hE H locs lsA hP hSS hL
  subst hp
  subst hv
  exact lv_iadd hx hb hd (k p l e R s m args below meth c D ad cy A H0 cells slots Z hx hb hml hown hts hS hR hD hE H locs lsA hP hSS hL)
theorem mx_isub {cc : ByteArray} {own : String} {nL : Nat} {ret : Option FieldType} {d pc pc' : Nat} {ls : List (Option Value)} {st : List Value} {M : mx_M} {Q : Option Value → mx_M → Prop} {x y v : Int32} (hd : decode cc pc = .ok (.isub, 1)) (hv : x - y = v) (hp : pc + 1 = pc') (k : mx_V cc own nL ret d pc' ls (.int v :: st) M Q) : mx_V cc own nL ret d pc ls (.int y :: .int x :: st) M Q := by
  intro p l e R s m args below meth c D ad cy A H0 cells slots Z hx hb hml hown hts hS hR hD hE H locs lsA hP hSS hL
  subst hp
  subst hv
  exact lv_isub hx hb hd (k p l e R s m args below meth c D ad cy A H0 cells slots Z hx hb hml hown hts hS hR hD hE H locs lsA hP hSS hL)
theorem mx_imul {cc : ByteArray} {own : String} {nL : Nat} {ret : Option FieldType} {d pc pc' : Nat} {ls : List (Option Value)} {st : List Value} {M : mx_M} {Q : Option Value → mx_M → Prop} {x y v : Int32} (hd : decode cc pc = .ok (.imul, 1)) (hv : x * y = v) (hp : pc + 1 = pc') (k : mx_V cc own nL ret d pc' ls (.int v :: st) M Q) : mx_V cc own nL ret d pc ls (.int y :: .int x :: st) M Q := by
  intro p l e R s m args below meth c D ad cy A H0 cells slots Z hx hb hml hown hts hS hR hD hE H locs lsA hP hSS hL
  subst hp
  subst hv
  exact lv_imul hx hb hd (k p l e R s m args below meth c D ad cy A H0 cells slots Z hx hb hml hown hts hS hR hD hE H locs lsA hP hSS hL)
theorem mx_iand {cc : ByteArray} {own : String} {nL : Nat} {ret : Option FieldType} {d pc pc' : Nat} {ls : List (Option Value)} {st : List Value} {M : mx_M} {Q : Option Value → mx_M → Prop} {x y v : Int32} (hd : decode cc pc = .ok (.iand, 1)) (hv : x &&& y = v) (hp : pc + 1 = pc') (k : mx_V cc own nL ret d pc' ls (.int v :: st) M Q) : mx_V cc own nL ret d pc ls (.int y :: .int x :: st) M Q := by
  intro p l e R s m args below meth c D ad cy A H0 cells slots Z hx hb hml hown hts hS hR hD hE H locs lsA hP hSS hL
  subst hp
  subst hv
  exact lv_iand hx hb hd (k p l e R s m args below meth c D ad cy A H0 cells slots Z hx hb hml hown hts hS hR hD hE H locs lsA hP hSS hL)
theorem mx_ior {cc : ByteArray} {own : String} {nL : Nat} {ret : Option FieldType} {d pc pc' : Nat} {ls : List (Option Value)} {st : List Value} {M : mx_M} {Q : Option Value → mx_M → Prop} {x y v : Int32} (hd : decode cc pc = .ok (.ior, 1)) (hv : x ||| y = v) (hp : pc + 1 = pc') (k : mx_V cc own nL ret d pc' ls (.int v :: st) M Q) : mx_V cc own nL ret d pc ls (.int y :: .int x :: st) M Q := by
  intro p l e R s m args below meth c D ad cy A H0 cells slots Z hx hb hml hown hts hS hR hD hE H locs lsA hP hSS hL
  subst hp
  subst hv
  exact lv_ior hx hb hd (k p l e R s m args below meth c D ad cy A H0 cells slots Z hx hb hml hown hts hS hR hD hE H locs lsA hP hSS hL)
theorem mx_ixor {cc : ByteArray} {own : String} {nL : Nat} {ret : Option FieldType} {d pc pc' : Nat} {ls : List (Option Value)} {st : List Value} {M : mx_M} {Q : Option Value → mx_M → Prop} {x y v : Int32} (hd : decode cc pc = .ok (.ixor, 1)) (hv : x ^^^ y = v) (hp : pc + 1 = pc') (k : mx_V cc own nL ret d pc' ls (.int v :: st) M Q) : mx_V cc own nL ret d pc ls (.int y :: .int x :: st) M Q := by
  intro p l e R s m args below meth c D ad cy A H0 cells slots Z hx hb hml hown hts hS hR hD hE H locs lsA hP hSS hL
  subst hp
  subst hv
  exact lv_ixor hx hb hd (k p l e R s m args below meth c D ad cy A H0 cells slots Z hx hb hml hown hts hS hR hD hE H locs lsA hP hSS hL)
theorem mx_ishl {cc : ByteArray} {own : String} {nL : Nat} {ret : Option FieldType} {d pc pc' : Nat} {ls : List (Option Value)} {st : List Value} {M : mx_M} {Q : Option Value → mx_M → Prop} {x y v : Int32} (hd : decode cc pc = .ok (.ishl, 1)) (hv : x <<< (y &&& 31) = v) (hp : pc + 1 = pc') (k : mx_V cc own nL ret d pc' ls (.int v :: st) M Q) : mx_V cc own nL ret d pc ls (.int y :: .int x :: st) M Q := by
  intro p l e R s m args below meth c D ad cy A H0 cells slots Z hx hb hml hown hts hS hR hD hE H locs lsA hP hSS hL
  subst hp
  subst hv
  exact lv_ishl hx hb hd (k p l e R s m args below meth c D ad cy A H0 cells slots Z hx hb hml hown hts hS hR hD hE H locs lsA hP hSS hL)
theorem mx_ishr {cc : ByteArray} {own : String} {nL : Nat} {ret : Option FieldType} {d pc pc' : Nat} {ls : List (Option Value)} {st : List Value} {M : mx_M} {Q : Option Value → mx_M → Prop} {x y v : Int32} (hd : decode cc pc = .ok (.ishr, 1)) (hv : x >>> (y &&& 31) = v) (hp : pc + 1 = pc') (k : mx_V cc own nL ret d pc' ls (.int v :: st) M Q) : mx_V cc own nL ret d pc ls (.int y :: .int x :: st) M Q := by
  intro p l e R s m args below meth c D ad cy A H0 cells slots Z hx hb hml hown hts hS hR hD hE H locs lsA hP hSS hL
  subst hp
  subst hv
  exact lv_ishr hx hb hd (k p l e R s m args below meth c D ad cy A H0 cells slots Z hx hb hml hown hts hS hR hD hE H locs lsA hP hSS hL)
theorem mx_iushr {cc : ByteArray} {own : String} {nL : Nat} {ret : Option FieldType} {d pc pc' : Nat} {ls : List (Option Value)} {st : List Value} {M : mx_M} {Q : Option Value → mx_M → Prop} {x y v : Int32} (hd : decode cc pc = .ok (.iushr, 1)) (hv : (x.toUInt32 >>> (y.toUInt32 &&& Int32.toUInt32 31)).toInt32 = v) (hp : pc + 1 = pc') (k : mx_V cc own nL ret d pc' ls (.int v :: st) M Q) : mx_V cc own nL ret d pc ls (.int y :: .int x :: st) M Q := by
  intro p l e R s m args below meth c D ad cy A H0 cells slots Z hx hb hml hown hts hS hR hD hE H locs lsA hP hSS hL
  subst hp
  exact lv_iushr hx hb hd hv (k p l e R s m args below meth c D ad cy A H0 cells slots Z hx hb hml hown hts hS hR hD hE H locs lsA hP hSS hL)
theorem mx_irem {cc : ByteArray} {own : String} {nL : Nat} {ret : Option FieldType} {d pc pc' : Nat} {ls : List (Option Value)} {st : List Value} {M : mx_M} {Q : Option Value → mx_M → Prop} {x y v : Int32} (hd : decode cc pc = .ok (.irem, 1)) (hy : ¬ y = 0) (hv : x - x / y * y = v) (hp : pc + 1 = pc') (k : mx_V cc own nL ret d pc' ls (.int v :: st) M Q) : mx_V cc own nL ret d pc ls (.int y :: .int x :: st) M Q := by
  intro p l e R s m args below meth c D ad cy A H0 cells slots Z hx hb hml hown hts hS hR hD hE H locs lsA hP hSS hL
  subst hp
  subst hv
  exact lv_irem hx hb hd hy (k p l e R s m args below meth c D ad cy A H0 cells slots Z hx hb hml hown hts hS hR hD hE H locs lsA hP hSS hL)
theorem mx_ineg {cc : ByteArray} {own : String} {nL : Nat} {ret : Option FieldType} {d pc pc' : Nat} {ls : List (Option Value)} {st : List Value} {M : mx_M} {Q : Option Value → mx_M → Prop} {x v : Int32} (hd : decode cc pc = .ok (.ineg, 1)) (hv : -x = v) (hp : pc + 1 = pc') (k : mx_V cc own nL ret d pc' ls (.int v :: st) M Q) : mx_V cc own nL ret d pc ls (.int x :: st) M Q := by
  intro p l e R s m args below meth c D ad cy A H0 cells slots Z hx hb hml hown hts hS hR hD hE H locs lsA hP hSS hL
  subst hp
  subst hv
  exact lv_ineg hx hb hd (k p l e R s m args below meth c D ad cy A H0 cells slots Z hx hb hml hown hts hS hR hD hE H locs lsA hP hSS hL)
theorem mx_i2d {cc : ByteArray} {own : String} {nL : Nat} {ret : Option FieldType} {d pc pc' : Nat} {ls : List (Option Value)} {st : List Value} {M : mx_M} {Q : Option Value → mx_M → Prop} {x : Int32} (hd : decode cc pc = .ok (.i2d, 1)) (hp : pc + 1 = pc') (k : mx_V cc own nL ret d pc' ls (.double (FP.i2d x) :: st) M Q) : mx_V cc own nL ret d pc ls (.int x :: st) M Q := by
  intro p l e R s m args below meth c D ad cy A H0 cells slots Z hx hb hml hown hts hS hR hD hE H locs lsA hP hSS hL
  subst hp
  exact lv_i2d hx hb hd (k p l e R s m args below meth c D ad cy A H0 cells slots Z hx hb hml hown hts hS hR hD hE H locs lsA hP hSS hL)
theorem mx_ddiv {cc : ByteArray} {own : String} {nL : Nat} {ret : Option FieldType} {d pc pc' : Nat} {ls : List (Option Value)} {st : List Value} {M : mx_M} {Q : Option Value → mx_M → Prop} {x y : UInt64} (hd : decode cc pc = .ok (.ddiv, 1)) (hne : vf_n64 (FP.ddiv x y)) (hp : pc + 1 = pc') (k : mx_V cc own nL ret d pc' ls (.double (FP.ddiv x y) :: st) M Q) : mx_V cc own nL ret d pc ls (.double y :: .double x :: st) M Q := by
  intro p l e R s m args below meth c D ad cy A H0 cells slots Z hx hb hml hown hts hS hR hD hE H locs lsA hP hSS hL
  subst hp
  exact lv_ddiv hx hb hd hne (k p l e R s m args below meth c D ad cy A H0 cells slots Z hx hb hml hown hts hS hR hD hE H locs lsA hP hSS hL)
theorem mx_ldc2d {cc : ByteArray} {own : String} {nL : Nat} {ret : Option FieldType} {d pc pc' : Nat} {ls : List (Option Value)} {st : List Value} {M : mx_M} {Q : Option Value → mx_M → Prop} {idx : Nat} {v : UInt64} (hd : decode cc pc = .ok (.ldc2_w idx, 3)) (hc : Cond.constantDouble own idx v ∈ mx_TW) (hp : pc + 3 = pc') (k : mx_V cc own nL ret d pc' ls (.double v :: st) M Q) : mx_V cc own nL ret d pc ls st M Q := by
  intro p l e R s m args below meth c D ad cy A H0 cells slots Z hx hb hml hown hts hS hR hD hE H locs lsA hP hSS hL
  subst hp
  exact lv_ldc2d hx hb hown (hts _ hc) hd (k p l e R s m args below meth c D ad cy A H0 cells slots Z hx hb hml hown hts hS hR hD hE H locs lsA hP hSS hL)
theorem mx_ldcw {cc : ByteArray} {own : String} {nL : Nat} {ret : Option FieldType} {d pc pc' : Nat} {ls : List (Option Value)} {st : List Value} {M : mx_M} {Q : Option Value → mx_M → Prop} {idx : Nat} {v : Int32} (hd : decode cc pc = .ok (.ldc_w idx, 3)) (hc : Cond.constant own idx v ∈ mx_TW) (hp : pc + 3 = pc') (k : mx_V cc own nL ret d pc' ls (.int v :: st) M Q) : mx_V cc own nL ret d pc ls st M Q := by
  intro p l e R s m args below meth c D ad cy A H0 cells slots Z hx hb hml hown hts hS hR hD hE H locs lsA hP hSS hL
  subst hp
  exact lv_ldcw hx hb hown (hts _ hc) hd (k p l e R s m args below meth c D ad cy A H0 cells slots Z hx hb hml hown hts hS hR hD hE H locs lsA hP hSS hL)
theorem mx_dup {cc : ByteArray} {own : String} {nL : Nat} {ret : Option FieldType} {d pc pc' : Nat} {ls : List (Option Value)} {st : List Value} {M : mx_M} {Q : Option Value → mx_M → Prop} {v : Value} (hd : decode cc pc = .ok (.dup, 1)) (hv : v.category = 1) (hp : pc + 1 = pc') (k : mx_V cc own nL ret d pc' ls (v :: v :: st) M Q) : mx_V cc own nL ret d pc ls (v :: st) M Q := by
  intro p l e R s m args below meth c D ad cy A H0 cells slots Z hx hb hml hown hts hS hR hD hE H locs lsA hP hSS hL
  subst hp
  exact lv_dup hx hb hd ((mx_r_cat ad v).trans hv) (k p l e R s m args below meth c D ad cy A H0 cells slots Z hx hb hml hown hts hS hR hD hE H locs lsA hP hSS hL)
theorem mx_dup2 {cc : ByteArray} {own : String} {nL : Nat} {ret : Option FieldType} {d pc pc' : Nat} {ls : List (Option Value)} {st : List Value} {M : mx_M} {Q : Option Value → mx_M → Prop} {v w : Value} (hd : decode cc pc = .ok (.dup2, 1)) (hv : v.category = 1) (hw : w.category = 1) (hp : pc + 1 = pc') (k : mx_V cc own nL ret d pc' ls (v :: w :: v :: w :: st) M Q) : mx_V cc own nL ret d pc ls (v :: w :: st) M Q := by
  intro p l e R s m args below meth c D ad cy A H0 cells slots Z hx hb hml hown hts hS hR hD hE H locs lsA hP hSS hL
  subst hp
  exact lv_dup2_11 hx hb hd ((mx_r_cat ad v).trans hv) ((mx_r_cat ad w).trans hw) (k p l e R s m args below meth c D ad cy A H0 cells slots Z hx hb hml hown hts hS hR hD hE H locs lsA hP hSS hL)
theorem mx_pop {cc : ByteArray} {own : String} {nL : Nat} {ret : Option FieldType} {d pc pc' : Nat} {ls : List (Option Value)} {st : List Value} {M : mx_M} {Q : Option Value → mx_M → Prop} {v : Value} (hd : decode cc pc = .ok (.pop, 1)) (hv : v.category = 1) (hp : pc + 1 = pc') (k : mx_V cc own nL ret d pc' ls st M Q) : mx_V cc own nL ret d pc ls (v :: st) M Q := by
  intro p l e R s m args below meth c D ad cy A H0 cells slots Z hx hb hml hown hts hS hR hD hE H locs lsA hP hSS hL
  subst hp
  exact lv_pop hx hb hd ((mx_r_cat ad v).trans hv) (k p l e R s m args below meth c D ad cy A H0 cells slots Z hx hb hml hown hts hS hR hD hE H locs lsA hP hSS hL)
theorem mx_if_eq {cc : ByteArray} {own : String} {nL : Nat} {ret : Option FieldType} {d pc pc' : Nat} {ls : List (Option Value)} {st : List Value} {M : mx_M} {Q : Option Value → mx_M → Prop} {x : Int32} {off : Int} {tgt : Nat} (hd : decode cc pc = .ok (.ifCond .eq off, 3)) (ht : (pc : Int) + off = (tgt : Int)) (hp : pc + 3 = pc') (kt : x = 0 → mx_V cc own nL ret d tgt ls st M Q) (kf : ¬ x = 0 → mx_V cc own nL ret d pc' ls st M Q) : mx_V cc own nL ret d pc ls (.int x :: st) M Q := by
  intro p l e R s m args below meth c D ad cy A H0 cells slots Z hx hb hml hown hts hS hR hD hE H locs lsA hP hSS hL
  subst hp
  exact lv_if_eq hx hb hd ht (fun q => kt q p l e R s m args below meth c D ad cy A H0 cells slots Z hx hb hml hown hts hS hR hD hE H locs lsA hP hSS hL) (fun q => kf q p l e R s m args below meth c D ad cy A H0 cells slots Z hx hb hml hown hts hS hR hD hE H locs lsA hP hSS hL)
theorem mx_if_ne {cc : ByteArray} {own : String} {nL : Nat} {ret : Option FieldType} {d pc pc' : Nat} {ls : List (Option Value)} {st : List Value} {M : mx_M} {Q : Option Value → mx_M → Prop} {x : Int32} {off : Int} {tgt : Nat} (hd : decode cc pc = .ok (.ifCond .ne off, 3)) (ht : (pc : Int) + off = (tgt : Int)) (hp : pc + 3 = pc') (kt : x ≠ 0 → mx_V cc own nL ret d tgt ls st M Q) (kf : x = 0 → mx_V cc own nL ret d pc' ls st M Q) : mx_V cc own nL ret d pc ls (.int x :: st) M Q := by
  intro p l e R s m args below meth c D ad cy A H0 cells slots Z hx hb hml hown hts hS hR hD hE H locs lsA hP hSS hL
  subst hp
  exact lv_if_ne hx hb hd ht (fun q => kt q p l e R s m args below meth c D ad cy A H0 cells slots Z hx hb hml hown hts hS hR hD hE H locs lsA hP hSS hL) (fun q => kf q p l e R s m args below meth c D ad cy A H0 cells slots Z hx hb hml hown hts hS hR hD hE H locs lsA hP hSS hL)
theorem mx_if_lt {cc : ByteArray} {own : String} {nL : Nat} {ret : Option FieldType} {d pc pc' : Nat} {ls : List (Option Value)} {st : List Value} {M : mx_M} {Q : Option Value → mx_M → Prop} {x : Int32} {off : Int} {tgt : Nat} (hd : decode cc pc = .ok (.ifCond .lt off, 3)) (ht : (pc : Int) + off = (tgt : Int)) (hp : pc + 3 = pc') (kt : x < 0 → mx_V cc own nL ret d tgt ls st M Q) (kf : ¬ x < 0 → mx_V cc own nL ret d pc' ls st M Q) : mx_V cc own nL ret d pc ls (.int x :: st) M Q := by
  intro p l e R s m args below meth c D ad cy A H0 cells slots Z hx hb hml hown hts hS hR hD hE H locs lsA hP hSS hL
  subst hp
  exact lv_if_lt hx hb hd ht (fun q => kt q p l e R s m args below meth c D ad cy A H0 cells slots Z hx hb hml hown hts hS hR hD hE H locs lsA hP hSS hL) (fun q => kf q p l e R s m args below meth c D ad cy A H0 cells slots Z hx hb hml hown hts hS hR hD hE H locs lsA hP hSS hL)
theorem mx_if_ge {cc : ByteArray} {own : String} {nL : Nat} {ret : Option FieldType} {d pc pc' : Nat} {ls : List (Option Value)} {st : List Value} {M : mx_M} {Q : Option Value → mx_M → Prop} {x : Int32} {off : Int} {tgt : Nat} (hd : decode cc pc = .ok (.ifCond .ge off, 3)) (ht : (pc : Int) + off = (tgt : Int)) (hp : pc + 3 = pc') (kt : 0 ≤ x → mx_V cc own nL ret d tgt ls st M Q) (kf : ¬ 0 ≤ x → mx_V cc own nL ret d pc' ls st M Q) : mx_V cc own nL ret d pc ls (.int x :: st) M Q := by
  intro p l e R s m args below meth c D ad cy A H0 cells slots Z hx hb hml hown hts hS hR hD hE H locs lsA hP hSS hL
  subst hp
  exact lv_if_ge hx hb hd ht (fun q => kt q p l e R s m args below meth c D ad cy A H0 cells slots Z hx hb hml hown hts hS hR hD hE H locs lsA hP hSS hL) (fun q => kf q p l e R s m args below meth c D ad cy A H0 cells slots Z hx hb hml hown hts hS hR hD hE H locs lsA hP hSS hL)
theorem mx_if_gt {cc : ByteArray} {own : String} {nL : Nat} {ret : Option FieldType} {d pc pc' : Nat} {ls : List (Option Value)} {st : List Value} {M : mx_M} {Q : Option Value → mx_M → Prop} {x : Int32} {off : Int} {tgt : Nat} (hd : decode cc pc = .ok (.ifCond .gt off, 3)) (ht : (pc : Int) + off = (tgt : Int)) (hp : pc + 3 = pc') (kt : 0 < x → mx_V cc own nL ret d tgt ls st M Q) (kf : ¬ 0 < x → mx_V cc own nL ret d pc' ls st M Q) : mx_V cc own nL ret d pc ls (.int x :: st) M Q := by
  intro p l e R s m args below meth c D ad cy A H0 cells slots Z hx hb hml hown hts hS hR hD hE H locs lsA hP hSS hL
  subst hp
  exact lv_if_gt hx hb hd ht (fun q => kt q p l e R s m args below meth c D ad cy A H0 cells slots Z hx hb hml hown hts hS hR hD hE H locs lsA hP hSS hL) (fun q => kf q p l e R s m args below meth c D ad cy A H0 cells slots Z hx hb hml hown hts hS hR hD hE H locs lsA hP hSS hL)
theorem mx_if_le {cc : ByteArray} {own : String} {nL : Nat} {ret : Option FieldType} {d pc pc' : Nat} {ls : List (Option Value)} {st : List Value} {M : mx_M} {Q : Option Value → mx_M → Prop} {x : Int32} {off : Int} {tgt : Nat} (hd : decode cc pc = .ok (.ifCond .le off, 3)) (ht : (pc : Int) + off = (tgt : Int)) (hp : pc + 3 = pc') (kt : x ≤ 0 → mx_V cc own nL ret d tgt ls st M Q) (kf : ¬ x ≤ 0 → mx_V cc own nL ret d pc' ls st M Q) : mx_V cc own nL ret d pc ls (.int x :: st) M Q := by
  intro p l e R s m args below meth c D ad cy A H0 cells slots Z hx hb hml hown hts hS hR hD hE H locs lsA hP hSS hL
  subst hp
  exact lv_if_le hx hb hd ht (fun q => kt q p l e R s m args below meth c D ad cy A H0 cells slots Z hx hb hml hown hts hS hR hD hE H locs lsA hP hSS hL) (fun q => kf q p l e R s m args below meth c D ad cy A H0 cells slots Z hx hb hml hown hts hS hR hD hE H locs lsA hP hSS hL)
theorem mx_icmp_eq {cc : ByteArray} {own : String} {nL : Nat} {ret : Option FieldType} {d pc pc' : Nat} {ls : List (Option Value)} {st : List Value} {M : mx_M} {Q : Option Value → mx_M → Prop} {x y : Int32} {off : Int} {tgt : Nat} (hd : decode cc pc = .ok (.if_icmp .eq off, 3)) (ht : (pc : Int) + off = (tgt : Int)) (hp : pc + 3 = pc') (kt : x = y → mx_V cc own nL ret d tgt ls st M Q) (kf : ¬ x = y → mx_V cc own nL ret d pc' ls st M Q) : mx_V cc own nL ret d pc ls (.int y :: .int x :: st) M Q := by
  intro p l e R s m args below meth c D ad cy A H0 cells slots Z hx hb hml hown hts hS hR hD hE H locs lsA hP hSS hL
  subst hp
  exact lv_icmp_eq hx hb hd ht (fun q => kt q p l e R s m args below meth c D ad cy A H0 cells slots Z hx hb hml hown hts hS hR hD hE H locs lsA hP hSS hL) (fun q => kf q p l e R s m args below meth c D ad cy A H0 cells slots Z hx hb hml hown hts hS hR hD hE H locs lsA hP hSS hL)
theorem mx_icmp_ne {cc : ByteArray} {own : String} {nL : Nat} {ret : Option FieldType} {d pc pc' : Nat} {ls : List (Option Value)} {st : List Value} {M : mx_M} {Q : Option Value → mx_M → Prop} {x y : Int32} {off : Int} {tgt : Nat} (hd : decode cc pc = .ok (.if_icmp .ne off, 3)) (ht : (pc : Int) + off = (tgt : Int)) (hp : pc + 3 = pc') (kt : x ≠ y → mx_V cc own nL ret d tgt ls st M Q) (kf : x = y → mx_V cc own nL ret d pc' ls st M Q) : mx_V cc own nL ret d pc ls (.int y :: .int x :: st) M Q := by
  intro p l e R s m args below meth c D ad cy A H0 cells slots Z hx hb hml hown hts hS hR hD hE H locs lsA hP hSS hL
  subst hp
  exact lv_icmp_ne hx hb hd ht (fun q => kt q p l e R s m args below meth c D ad cy A H0 cells slots Z hx hb hml hown hts hS hR hD hE H locs lsA hP hSS hL) (fun q => kf q p l e R s m args below meth c D ad cy A H0 cells slots Z hx hb hml hown hts hS hR hD hE H locs lsA hP hSS hL)
theorem mx_icmp_lt {cc : ByteArray} {own : String} {nL : Nat} {ret : Option FieldType} {d pc pc' : Nat} {ls : List (Option Value)} {st : List Value} {M : mx_M} {Q : Option Value → mx_M → Prop} {x y : Int32} {off : Int} {tgt : Nat} (hd : decode cc pc = .ok (.if_icmp .lt off, 3)) (ht : (pc : Int) + off = (tgt : Int)) (hp : pc + 3 = pc') (kt : x < y → mx_V cc own nL ret d tgt ls st M Q) (kf : ¬ x < y → mx_V cc own nL ret d pc' ls st M Q) : mx_V cc own nL ret d pc ls (.int y :: .int x :: st) M Q := by
  intro p l e R s m args below meth c D ad cy A H0 cells slots Z hx hb hml hown hts hS hR hD hE H locs lsA hP hSS hL
  subst hp
  exact lv_icmp_lt hx hb hd ht (fun q => kt q p l e R s m args below meth c D ad cy A H0 cells slots Z hx hb hml hown hts hS hR hD hE H locs lsA hP hSS hL) (fun q => kf q p l e R s m args below meth c D ad cy A H0 cells slots Z hx hb hml hown hts hS hR hD hE H locs lsA hP hSS hL)
theorem mx_icmp_ge {cc : ByteArray} {own : String} {nL : Nat} {ret : Option FieldType} {d pc pc' : Nat} {ls : List (Option Value)} {st : List Value} {M : mx_M} {Q : Option Value → mx_M → Prop} {x y : Int32} {off : Int} {tgt : Nat} (hd : decode cc pc = .ok (.if_icmp .ge off, 3)) (ht : (pc : Int) + off = (tgt : Int)) (hp : pc + 3 = pc') (kt : y ≤ x → mx_V cc own nL ret d tgt ls st M Q) (kf : ¬ y ≤ x → mx_V cc own nL ret d pc' ls st M Q) : mx_V cc own nL ret d pc ls (.int y :: .int x :: st) M Q := by
  intro p l e R s m args below meth c D ad cy A H0 cells slots Z hx hb hml hown hts hS hR hD hE H locs lsA hP hSS hL
  subst hp
  exact lv_icmp_ge hx hb hd ht (fun q => kt q p l e R s m args below meth c D ad cy A H0 cells slots Z hx hb hml hown hts hS hR hD hE H locs lsA hP hSS hL) (fun q => kf q p l e R s m args below meth c D ad cy A H0 cells slots Z hx hb hml hown hts hS hR hD hE H locs lsA hP hSS hL)
theorem mx_icmp_gt {cc : ByteArray} {own : String} {nL : Nat} {ret : Option FieldType} {d pc pc' : Nat} {ls : List (Option Value)} {st : List Value} {M : mx_M} {Q : Option Value → mx_M → Prop} {x y : Int32} {off : Int} {tgt : Nat} (hd : decode cc pc = .ok (.if_icmp .gt off, 3)) (ht : (pc : Int) + off = (tgt : Int)) (hp : pc + 3 = pc') (kt : y < x → mx_V cc own nL ret d tgt ls st M Q) (kf : ¬ y < x → mx_V cc own nL ret d pc' ls st M Q) : mx_V cc own nL ret d pc ls (.int y :: .int x :: st) M Q := by
  intro p l e R s m args below meth c D ad cy A H0 cells slots Z hx hb hml hown hts hS hR hD hE H locs lsA hP hSS hL
  subst hp
  exact lv_icmp_gt hx hb hd ht (fun q => kt q p l e R s m args below meth c D ad cy A H0 cells slots Z hx hb hml hown hts hS hR hD hE H locs lsA hP hSS hL) (fun q => kf q p l e R s m args below meth c D ad cy A H0 cells slots Z hx hb hml hown hts hS hR hD hE H locs lsA hP hSS hL)
theorem mx_icmp_le {cc : ByteArray} {own : String} {nL : Nat} {ret : Option FieldType} {d pc pc' : Nat} {ls : List (Option Value)} {st : List Value} {M : mx_M} {Q : Option Value → mx_M → Prop} {x y : Int32} {off : Int} {tgt : Nat} (hd : decode cc pc = .ok (.if_icmp .le off, 3)) (ht : (pc : Int) + off = (tgt : Int)) (hp : pc + 3 = pc') (kt : x ≤ y → mx_V cc own nL ret d tgt ls st M Q) (kf : ¬ x ≤ y → mx_V cc own nL ret d pc' ls st M Q) : mx_V cc own nL ret d pc ls (.int y :: .int x :: st) M Q := by
  intro p l e R s m args below meth c D ad cy A H0 cells slots Z hx hb hml hown hts hS hR hD hE H locs lsA hP hSS hL
  subst hp
  exact lv_icmp_le hx hb hd ht (fun q => kt q p l e R s m args below meth c D ad cy A H0 cells slots Z hx hb hml hown hts hS hR hD hE H locs lsA hP hSS hL) (fun q => kf q p l e R s m args below meth c D ad cy A H0 cells slots Z hx hb hml hown hts hS hR hD hE H locs lsA hP hSS hL)
theorem mx_goto {cc : ByteArray} {own : String} {nL : Nat} {ret : Option FieldType} {d pc pc' : Nat} {ls : List (Option Value)} {st : List Value} {M : mx_M} {Q : Option Value → mx_M → Prop} {off : Int} (hd : decode cc pc = .ok (.goto off, 3)) (ht : (pc : Int) + off = (pc' : Int))  (k : mx_V cc own nL ret d pc' ls st M Q) : mx_V cc own nL ret d pc ls st M Q := by
  intro p l e R s m args below meth c D ad cy A H0 cells slots Z hx hb hml hown hts hS hR hD hE H locs lsA hP hSS hL
  exact lv_goto hx hb hd ht (k p l e R s m args below meth c D ad cy A H0 cells slots Z hx hb hml hown hts hS hR hD hE H locs lsA hP hSS hL)
theorem mx_tableIn {cc : ByteArray} {own : String} {nL : Nat} {ret : Option FieldType} {d pc pc' : Nat} {ls : List (Option Value)} {st : List Value} {M : mx_M} {Q : Option Value → mx_M → Prop} {dflt lo hi : Int} {offs : Array Int} {len : Nat} {x : Int32} {off : Int} (hd : decode cc pc = .ok (.tableswitch dflt lo hi offs, len)) (h1 : ¬ x.toInt < lo) (h2 : ¬ hi < x.toInt) (ho : offs[(x.toInt - lo).toNat]? = some off) (ht : (pc : Int) + off = (pc' : Int))  (k : mx_V cc own nL ret d pc' ls st M Q) : mx_V cc own nL ret d pc ls (.int x :: st) M Q := by
  intro p l e R s m args below meth c D ad cy A H0 cells slots Z hx hb hml hown hts hS hR hD hE H locs lsA hP hSS hL
  exact lv_tableIn hx hb hd h1 h2 ho ht (k p l e R s m args below meth c D ad cy A H0 cells slots Z hx hb hml hown hts hS hR hD hE H locs lsA hP hSS hL)
theorem mx_tableOut {cc : ByteArray} {own : String} {nL : Nat} {ret : Option FieldType} {d pc pc' : Nat} {ls : List (Option Value)} {st : List Value} {M : mx_M} {Q : Option Value → mx_M → Prop} {dflt lo hi : Int} {offs : Array Int} {len : Nat} {x : Int32} (hd : decode cc pc = .ok (.tableswitch dflt lo hi offs, len)) (h : x.toInt < lo ∨ hi < x.toInt) (ht : (pc : Int) + dflt = (pc' : Int))  (k : mx_V cc own nL ret d pc' ls st M Q) : mx_V cc own nL ret d pc ls (.int x :: st) M Q := by
  intro p l e R s m args below meth c D ad cy A H0 cells slots Z hx hb hml hown hts hS hR hD hE H locs lsA hP hSS hL
  exact lv_tableOut hx hb hd h ht (k p l e R s m args below meth c D ad cy A H0 cells slots Z hx hb hml hown hts hS hR hD hE H locs lsA hP hSS hL)
theorem mx_lookup {cc : ByteArray} {own : String} {nL : Nat} {ret : Option FieldType} {d pc pc' : Nat} {ls : List (Option Value)} {st : List Value} {M : mx_M} {Q : Option Value → mx_M → Prop} {dflt : Int} {ps : Array (Int × Int)} {len : Nat} {x : Int32} {off : Int} (hd : decode cc pc = .ok (.lookupswitch dflt ps, len)) (h : (ps.toList.zip (ps.toList.drop 1)).all (fun (a, next) => a.1 < next.1) = true) (ho : Op.lookupswitch.offset ps.toList dflt x.toInt = off) (ht : (pc : Int) + off = (pc' : Int))  (k : mx_V cc own nL ret d pc' ls st M Q) : mx_V cc own nL ret d pc ls (.int x :: st) M Q := by
  intro p l e R s m args below meth c D ad cy A H0 cells slots Z hx hb hml hown hts hS hR hD hE H locs lsA hP hSS hL
  exact lv_lookup hx hb hd h ho ht (k p l e R s m args below meth c D ad cy A H0 cells slots Z hx hb hml hown hts hS hR hD hE H locs lsA hP hSS hL)
theorem mx_getf {cc : ByteArray} {own : String} {nL : Nat} {ret : Option FieldType} {d pc pc' : Nat} {ls : List (Option Value)} {st : List Value} {M : mx_M} {Q : Option Value → mx_M → Prop} {idx ci k0 a : Nat} {ty : FieldType} {fin : Bool} {t : List (Option Nat)} {v : Int32} (hd : decode cc pc = .ok (.getfield idx, 3)) (hf : mx_F own idx ci k0 ty fin) (hs : mx_sh a = .inr (ci, t)) (ht : t[k0]? = some none) (hv : M a k0 = v) (hp : pc + 3 = pc') (k : mx_V cc own nL ret d pc' ls (.int v :: st) M Q) : mx_V cc own nL ret d pc ls (.ref a :: st) M Q := by
  intro p l e R s m args below meth c D ad cy A H0 cells slots Z hx hb hml hown hts hS hR hD hE H locs lsA hP hSS hL
  subst hp
  subst hv
  obtain ⟨C, T, N, t0, h1, h2, h3, h4, h5, h6, h7, h8⟩ := hf
  exact va_get (Ts := mx_TW) (v := .int (M a k0)) hx hb hts h4 hown hS.1 hP a ((mx_w_get ad cy M (mx_sh_lt (Or.inl ⟨_, hs⟩))).trans (congrArg (fun e => some (ad a, e)) (mx_c_obj ad cy hs))) h1 k0 h2 (hts _ h3) (fun _ h => h) (by rw [List.getElem?_mapIdx, ht]; rfl) hd (k p l e R s m args below meth c D ad cy A H0 cells slots Z hx hb hml hown hts hS hR hD hE H locs lsA hP hSS hL)
theorem mx_getr {cc : ByteArray} {own : String} {nL : Nat} {ret : Option FieldType} {d pc pc' : Nat} {ls : List (Option Value)} {st : List Value} {M : mx_M} {Q : Option Value → mx_M → Prop} {idx ci k0 a b : Nat} {ty : FieldType} {fin : Bool} {t : List (Option Nat)} (hd : decode cc pc = .ok (.getfield idx, 3)) (hf : mx_F own idx ci k0 ty fin) (hs : mx_sh a = .inr (ci, t)) (ht : t[k0]? = some (some b)) (hp : pc + 3 = pc') (k : mx_V cc own nL ret d pc' ls (.ref b :: st) M Q) : mx_V cc own nL ret d pc ls (.ref a :: st) M Q := by
  intro p l e R s m args below meth c D ad cy A H0 cells slots Z hx hb hml hown hts hS hR hD hE H locs lsA hP hSS hL
  subst hp
  obtain ⟨C, T, N, t0, h1, h2, h3, h4, h5, h6, h7, h8⟩ := hf
  exact va_get (Ts := mx_TW) (v := .ref (ad b)) hx hb hts h4 hown hS.1 hP a ((mx_w_get ad cy M (mx_sh_lt (Or.inl ⟨_, hs⟩))).trans (congrArg (fun e => some (ad a, e)) (mx_c_obj ad cy hs))) h1 k0 h2 (hts _ h3) (fun _ h => h) (by rw [List.getElem?_mapIdx, ht]; rfl) hd (k p l e R s m args below meth c D ad cy A H0 cells slots Z hx hb hml hown hts hS hR hD hE H locs lsA hP hSS hL)
theorem mx_putf {cc : ByteArray} {own : String} {nL : Nat} {ret : Option FieldType} {d pc pc' : Nat} {ls : List (Option Value)} {st : List Value} {M : mx_M} {Q : Option Value → mx_M → Prop} {idx ci k0 a : Nat} {ty : FieldType} {t : List (Option Nat)} {x : Int32} (hd : decode cc pc = .ok (.putfield idx, 3)) (hf : mx_F own idx ci k0 ty false) (hs : mx_sh a = .inr (ci, t)) (ht : t[k0]? = some none) (hn : narrow ty (.int x) = .int x ∧ fits ty (.int x) = true) (hp : pc + 3 = pc') (k : mx_V cc own nL ret d pc' ls st (mx_up M a k0 x) Q) : mx_V cc own nL ret d pc ls (.int x :: .ref a :: st) M Q := by
  intro p l e R s m args below meth c D ad cy A H0 cells slots Z hx hb hml hown hts hS hR hD hE H locs lsA hP hSS hL
  subst hp
  obtain ⟨C, T, N, t0, h1, h2, h3, h4, h5, h6, h7, h8⟩ := hf
  have ha := mx_sh_lt (Or.inl ⟨_, hs⟩)
  refine va_put (Ts := mx_TW) (v := .int x) (ty := ty) hx hb hts h4 t0 h5 h6 hown hS.1 hP (hD.va cy M) hSS a ((mx_w_get ad cy M ha).trans (congrArg (fun e => some (ad a, e)) (mx_c_obj ad cy hs))) h1 k0 h2 (hts _ h3) (fun _ h => h) h8 ((h5 k0 h2).trans (congrArg some h7)) hn.1 hn.2 (by rw [List.length_mapIdx]; exact (List.getElem?_eq_some_iff.mp ht).1) hd (fun H1 locs1 hP1 _ hS1 => ?_)
  rw [mx_w_set ad cy M (N := mx_up M a k0 x) ha (mx_c_put ad cy hs ht) (fun q hq => mx_up_ne hq)] at hP1
  exact (k p l e R s m args below meth c D ad cy A H0 cells slots Z hx hb hml hown hts hS hR hD hE H1 locs1 lsA hP1 hS1 hL)
theorem mx_iald {cc : ByteArray} {own : String} {nL : Nat} {ret : Option FieldType} {d pc pc' : Nat} {ls : List (Option Value)} {st : List Value} {M : mx_M} {Q : Option Value → mx_M → Prop} {a n j : Nat} {x v : Int32} (hd : decode cc pc = .ok (.iaload, 1)) (hs : mx_sh a = .inl (0, n)) (hxj : x = nI j) (hj : j < n) (hv : M a j = v) (hp : pc + 1 = pc') (k : mx_V cc own nL ret d pc' ls (.int v :: st) M Q) : mx_V cc own nL ret d pc ls (.int x :: .ref a :: st) M Q := by
  intro p l e R s m args below meth c D ad cy A H0 cells slots Z hx hb hml hown hts hS hR hD hE H locs lsA hP hSS hL
  subst hp
  subst hxj; subst hv
  have hl := mx_sh_len hs
  have hc : (nI j).toNatClampNeg = j := nI_clamp (by omega)
  refine va_iald hx hb hS.1 hP a 0 ((mx_w_get ad cy M (mx_sh_lt (Or.inr ⟨0, n, by decide, hs⟩))).trans (congrArg (fun e => some (ad a, e)) (mx_c_arr ad cy (by decide) hs))) rfl (vp_in_nI hj (by omega)) hd ?_
  rw [hc]
  exact (k p l e R s m args below meth c D ad cy A H0 cells slots Z hx hb hml hown hts hS hR hD hE H locs lsA hP hSS hL)
theorem mx_iast {cc : ByteArray} {own : String} {nL : Nat} {ret : Option FieldType} {d pc pc' : Nat} {ls : List (Option Value)} {st : List Value} {M : mx_M} {Q : Option Value → mx_M → Prop} {a n j : Nat} {x y : Int32} (hd : decode cc pc = .ok (.iastore, 1)) (hs : mx_sh a = .inl (0, n)) (hxj : x = nI j) (hj : j < n) (hp : pc + 1 = pc') (k : mx_V cc own nL ret d pc' ls st (mx_up M a j y) Q) : mx_V cc own nL ret d pc ls (.int y :: .int x :: .ref a :: st) M Q := by
  intro p l e R s m args below meth c D ad cy A H0 cells slots Z hx hb hml hown hts hS hR hD hE H locs lsA hP hSS hL
  subst hp
  subst hxj
  have hl := mx_sh_len hs
  have ha := mx_sh_lt (Or.inr ⟨0, n, by decide, hs⟩)
  have hc : (nI j).toNatClampNeg = j := nI_clamp (by omega)
  refine va_iast hx hb hS.1 hP (hD.va cy M) hSS a 0 ((mx_w_get ad cy M ha).trans (congrArg (fun e => some (ad a, e)) (mx_c_arr ad cy (by decide) hs))) rfl (vp_in_nI hj (by omega)) hd (fun H1 locs1 hP1 _ hS1 => ?_)
  rw [hc, mx_w_set ad cy M (N := mx_up M a j y) ha (mx_c_ast ad cy (by decide) hs) (fun q hq => mx_up_ne hq)] at hP1
  exact (k p l e R s m args below meth c D ad cy A H0 cells slots Z hx hb hml hown hts hS hR hD hE H1 locs1 lsA hP1 hS1 hL)
theorem mx_bald {cc : ByteArray} {own : String} {nL : Nat} {ret : Option FieldType} {d pc pc' : Nat} {ls : List (Option Value)} {st : List Value} {M : mx_M} {Q : Option Value → mx_M → Prop} {a n j : Nat} {x v : Int32} (hd : decode cc pc = .ok (.baload, 1)) (hs : mx_sh a = .inl (1, n)) (hxj : x = nI j) (hj : j < n) (hv : M a j = v) (hp : pc + 1 = pc') (k : mx_V cc own nL ret d pc' ls (.int v :: st) M Q) : mx_V cc own nL ret d pc ls (.int x :: .ref a :: st) M Q := by
  intro p l e R s m args below meth c D ad cy A H0 cells slots Z hx hb hml hown hts hS hR hD hE H locs lsA hP hSS hL
  subst hp
  subst hxj; subst hv
  have hl := mx_sh_len hs
  have hc : (nI j).toNatClampNeg = j := nI_clamp (by omega)
  refine va_zald hx hb hS.1 hP a 1 ((mx_w_get ad cy M (mx_sh_lt (Or.inr ⟨1, n, by decide, hs⟩))).trans (congrArg (fun e => some (ad a, e)) (mx_c_arr ad cy (by decide) hs))) rfl (vp_in_nI hj (by omega)) hd ?_
  rw [hc]
  exact (k p l e R s m args below meth c D ad cy A H0 cells slots Z hx hb hml hown hts hS hR hD hE H locs lsA hP hSS hL)
theorem mx_bast {cc : ByteArray} {own : String} {nL : Nat} {ret : Option FieldType} {d pc pc' : Nat} {ls : List (Option Value)} {st : List Value} {M : mx_M} {Q : Option Value → mx_M → Prop} {a n j : Nat} {x y : Int32} (hd : decode cc pc = .ok (.bastore, 1)) (hs : mx_sh a = .inl (1, n)) (hxj : x = nI j) (hj : j < n) (hy : vp_nar .boolean y = y) (hp : pc + 1 = pc') (k : mx_V cc own nL ret d pc' ls st (mx_up M a j y) Q) : mx_V cc own nL ret d pc ls (.int y :: .int x :: .ref a :: st) M Q := by
  intro p l e R s m args below meth c D ad cy A H0 cells slots Z hx hb hml hown hts hS hR hD hE H locs lsA hP hSS hL
  subst hp
  subst hxj
  have hl := mx_sh_len hs
  have ha := mx_sh_lt (Or.inr ⟨1, n, by decide, hs⟩)
  have hc : (nI j).toNatClampNeg = j := nI_clamp (by omega)
  refine va_zast hx hb hS.1 hP (hD.va cy M) hSS a 1 ((mx_w_get ad cy M ha).trans (congrArg (fun e => some (ad a, e)) (mx_c_arr ad cy (by decide) hs))) rfl (vp_in_nI hj (by omega)) hd (fun H1 locs1 hP1 _ hS1 => ?_)
  rw [hc, hy, mx_w_set ad cy M (N := mx_up M a j y) ha (mx_c_ast ad cy (by decide) hs) (fun q hq => mx_up_ne hq)] at hP1
  exact (k p l e R s m args below meth c D ad cy A H0 cells slots Z hx hb hml hown hts hS hR hD hE H1 locs1 lsA hP1 hS1 hL)
theorem mx_aald2 {cc : ByteArray} {own : String} {nL : Nat} {ret : Option FieldType} {d pc pc' : Nat} {ls : List (Option Value)} {st : List Value} {M : mx_M} {Q : Option Value → mx_M → Prop} {a n j b : Nat} {x : Int32} (hd : decode cc pc = .ok (.aaload, 1)) (hs : mx_sh a = .inl (2, n)) (hxj : x = nI j) (hj : j < n) (hv : (M a j).toNatClampNeg = b) (hp : pc + 1 = pc') (k : mx_V cc own nL ret d pc' ls (.ref b :: st) M Q) : mx_V cc own nL ret d pc ls (.int x :: .ref a :: st) M Q := by
  intro p l e R s m args below meth c D ad cy A H0 cells slots Z hx hb hml hown hts hS hR hD hE H locs lsA hP hSS hL
  subst hp
  subst hxj; subst hv
  have hl := mx_sh_len hs
  have hc : (nI j).toNatClampNeg = j := nI_clamp (by omega)
  refine va_aldq (C := RX3) hx hb hS.1 hP a 2 ((mx_w_get ad cy M (mx_sh_lt (Or.inr ⟨2, n, by decide, hs⟩))).trans (congrArg (fun e => some (ad a, e)) (mx_c_rarr ad cy (by decide) hs))) rfl (vp_in_nI hj (by omega)) hd ?_
  rw [hc]
  exact (k p l e R s m args below meth c D ad cy A H0 cells slots Z hx hb hml hown hts hS hR hD hE H locs lsA hP hSS hL)
theorem mx_aald3 {cc : ByteArray} {own : String} {nL : Nat} {ret : Option FieldType} {d pc pc' : Nat} {ls : List (Option Value)} {st : List Value} {M : mx_M} {Q : Option Value → mx_M → Prop} {a n j : Nat} {x : Int32} (hd : decode cc pc = .ok (.aaload, 1)) (hs : mx_sh a = .inl (3, n)) (hxj : x = nI j) (hj : j < n) (hp : pc + 1 = pc') (k : mx_V cc own nL ret d pc' ls (.ref (112 + j) :: st) M Q) : mx_V cc own nL ret d pc ls (.int x :: .ref a :: st) M Q := by
  intro p l e R s m args below meth c D ad cy A H0 cells slots Z hx hb hml hown hts hS hR hD hE H locs lsA hP hSS hL
  subst hp
  subst hxj
  have hl := mx_sh_len hs
  have hc : (nI j).toNatClampNeg = j := nI_clamp (by omega)
  refine mx_aalda hx hb hS.1 hP a 3 ((mx_w_get ad cy M (mx_sh_lt (Or.inr ⟨3, n, by decide, hs⟩))).trans (congrArg (fun e => some (ad a, e)) (mx_c_rarr ad cy (by decide) hs))) rfl (vp_in_nI hj (by omega)) hd ?_
  rw [hc]
  exact (k p l e R s m args below meth c D ad cy A H0 cells slots Z hx hb hml hown hts hS hR hD hE H locs lsA hP hSS hL)
theorem mx_aast {cc : ByteArray} {own : String} {nL : Nat} {ret : Option FieldType} {d pc pc' : Nat} {ls : List (Option Value)} {st : List Value} {M : mx_M} {Q : Option Value → mx_M → Prop} {a n j b : Nat} {x : Int32} {t : List (Option Nat)} (hd : decode cc pc = .ok (.aastore, 1)) (hs : mx_sh a = .inl (2, n)) (hxj : x = nI j) (hj : j < n) (hb0 : mx_sh b = .inr (3, t)) (hp : pc + 1 = pc') (k : mx_V cc own nL ret d pc' ls st (mx_up M a j (nI b)) Q) : mx_V cc own nL ret d pc ls (.ref b :: .int x :: .ref a :: st) M Q := by
  intro p l e R s m args below meth c D ad cy A H0 cells slots Z hx hb hml hown hts hS hR hD hE H locs lsA hP hSS hL
  subst hp
  subst hxj
  have hl := mx_sh_len hs
  have ha := mx_sh_lt (Or.inr ⟨2, n, by decide, hs⟩)
  have hb1 := mx_sh_lt (Or.inl ⟨_, hb0⟩)
  have hc : (nI j).toNatClampNeg = j := nI_clamp (by omega)
  refine va_astq (r := (RX3, TX3, 9)) hx hb hS.1 hP (hD.va cy M) hSS a 2 b 3 ((mx_w_get ad cy M ha).trans (congrArg (fun e => some (ad a, e)) (mx_c_rarr ad cy (by decide) hs))) rfl ((mx_w_get ad cy M hb1).trans (congrArg (fun e => some (ad b, e)) (mx_c_obj ad cy hb0))) rfl (vp_in_nI hj (by omega)) hd (fun H1 locs1 hP1 _ hS1 => ?_)
  rw [hc, mx_w_set ad cy M (N := mx_up M a j (nI b)) ha (mx_c_aast ad cy hs hb1) (fun q hq => mx_up_ne hq)] at hP1
  exact (k p l e R s m args below meth c D ad cy A H0 cells slots Z hx hb hml hown hts hS hR hD hE H1 locs1 lsA hP1 hS1 hL)
theorem mx_acopy {cc : ByteArray} {own : String} {nL : Nat} {ret : Option FieldType} {d pc pc' : Nat} {ls : List (Option Value)} {st : List Value} {M : mx_M} {Q : Option Value → mx_M → Prop} {a b n n' k1 idx : Nat} {xs ys zs : Int32} (hd : decode cc pc = .ok (.invokestatic idx, 3)) (h1 : Cond.methodLink own idx arraycopyName ∈ mx_TW) (hs : mx_sh a = .inl (0, n)) (hs' : mx_sh b = .inl (0, n')) (hxs : xs = 0) (hys : ys = 0) (hzs : zs = nI k1) (hk : k1 ≤ n) (hk' : k1 ≤ n') (hr : (st.map fun v => v.category).sum ≤ 8) (hd1 : 1 ≤ d) (hp : pc + 3 = pc') (k : mx_V cc own nL ret d pc' ls st (mx_cp M a b k1) Q) : mx_V cc own nL ret d pc ls (.int zs :: .int ys :: .ref b :: .int xs :: .ref a :: st) M Q := by
  intro p l e R s m args below meth c D ad cy A H0 cells slots Z hx hb hml hown hts hS hR hD hE H locs lsA hP hSS hL
  subst hp
  subst hxs; subst hys; subst hzs
  have hl := mx_sh_len hs
  have hl' := mx_sh_len hs'
  have ha := mx_sh_lt (Or.inr ⟨0, n, by decide, hs⟩)
  have hb1 := mx_sh_lt (Or.inr ⟨0, n', by decide, hs'⟩)
  have hc : (nI k1).toNatClampNeg = k1 := nI_clamp (by omega)
  have h0 : (0 : Int32).toNatClampNeg = 0 := by decide
  have hst : ((st.map (mx_r ad)).map fun v => v.category).sum ≤ 8 := by
    rw [List.map_map, show ((fun v : Value => v.category) ∘ mx_r ad) = (fun v => v.category) from funext (mx_r_cat ad)]; exact hr
  refine va_copyi (ty := .int) hx hb (hml.trans hL.1.symm) hown (hts _ h1) (hts _ mx_w_nat) (hts _ mx_w_acs) (hts _ mx_w_sys) hS.1 hP (hD.va cy M) hSS a b 0 0 ((mx_w_get ad cy M ha).trans (congrArg (fun e => some (ad a, e)) (mx_c_arr ad cy (by decide) hs))) ((mx_w_get ad cy M hb1).trans (congrArg (fun e => some (ad b, e)) (mx_c_arr ad cy (by decide) hs'))) rfl rfl rfl (by decide) (by decide) (nI_pos (by omega)) (by rw [hc, h0]; omega) (by rw [hc, h0]; omega) (fun _ _ => rfl) (by omega) (Nat.le_trans (Nat.add_le_add_right hst _) (Nat.le_trans (by decide) (Nat.le_trans (Nat.mul_le_mul_left 36 hd1) hR.2.1))) hd (fun H1 locs1 hP1 _ hS1 => ?_)
  rw [hc, h0, mx_w_set ad cy M (N := mx_cp M a b k1) hb1 (mx_c_cp ad cy hs') (fun q hq => mx_cp_ne hq)] at hP1
  exact (k p l e R s m args below meth c D ad cy A H0 cells slots Z hx hb hml hown hts hS hR hD hE H1 locs1 lsA hP1 hS1 hL)
theorem mx_iret {cc : ByteArray} {own : String} {nL : Nat} {ret : Option FieldType} {d pc : Nat} {ls : List (Option Value)} {M : mx_M} {Q : Option Value → mx_M → Prop} {x : Int32} (hd : decode cc pc = .ok (.ireturn, 1)) (hn : mx_n ret (some (.int x))) (hq : Q (some (.int x)) M) : mx_V cc own nL ret d pc ls [.int x] M Q := by
  intro p l e R s m args below meth c D ad cy A H0 cells slots Z hx hb hml hown hts hS hR hD hE H locs lsA hP hSS hL
  exact hE (some (.int x)) M H locs lsA pc hq hn hP hSS hd
theorem mx_dret {cc : ByteArray} {own : String} {nL : Nat} {ret : Option FieldType} {d pc : Nat} {ls : List (Option Value)} {M : mx_M} {Q : Option Value → mx_M → Prop} {x : UInt64} (hd : decode cc pc = .ok (.dreturn, 1)) (hn : mx_n ret (some (.double x))) (hq : Q (some (.double x)) M) : mx_V cc own nL ret d pc ls [.double x] M Q := by
  intro p l e R s m args below meth c D ad cy A H0 cells slots Z hx hb hml hown hts hS hR hD hE H locs lsA hP hSS hL
  exact hE (some (.double x)) M H locs lsA pc hq hn hP hSS hd
theorem mx_vret {cc : ByteArray} {own : String} {nL : Nat} {ret : Option FieldType} {d pc : Nat} {ls : List (Option Value)} {M : mx_M} {Q : Option Value → mx_M → Prop}  (hd : decode cc pc = .ok (.return_, 1)) (hn : mx_n ret none) (hq : Q none M) : mx_V cc own nL ret d pc ls [] M Q := by
  intro p l e R s m args below meth c D ad cy A H0 cells slots Z hx hb hml hown hts hS hR hD hE H locs lsA hP hSS hL
  exact hE none M H locs lsA pc hq hn hP hSS hd
theorem mx_GI {y : MethodName} {cc : ByteArray} {nL : Nat} {ret : Option FieldType} (h : Cond.code y cc nL ret ∈ mx_TW) : GoodIn mx_TW (Cond.code y cc nL ret :: mx_TW) := by
  intro w hw
  have hm : w ∈ mx_TW := by
    rcases List.mem_cons.mp hw with rfl | hw
    · exact h
    · exact hw
  exact ⟨hm, good_of_word (List.mem_filter.mp hm).2⟩
theorem mx_nest_is {w : Cond} (h : w ∈ mx_nest) : ∃ a i x b, w = .methodLinkNest a i x b := by
  have := (List.mem_filter.mp h).2
  cases w <;> simp at this
  exact ⟨_, _, _, _, rfl⟩
theorem mx_S.warm {D : va_G} {cy : Nat → ClassId} {s U : State} (hW : s.WarmedH U.vm) (h : mx_S D cy s) : mx_S D cy U := by
  refine ⟨va_K.moved hW.alike h.1, fun w hw => ?_⟩
  obtain ⟨a, i, x, b, rfl⟩ := mx_nest_is hw
  exact va_Nw.warmM hW (h.2 _ hw)
theorem mx_S.same {D : va_G} {cy : Nat → ClassId} {s U : State} (hv : s.vm = U.vm) (h : mx_S D cy s) : mx_S D cy U := by
  refine ⟨va_K.moved (by rw [hv]; exact Vm.Alike.refl _) h.1, fun w hw => ?_⟩
  have h1 := h.2 w hw
  obtain ⟨a, i, x, b, rfl⟩ := mx_nest_is hw
  exact va_Nw.same rfl hv h1
theorem mx_blind (av : List Value) (M : mx_M) (D : va_G) (ad : Nat → Nat) (cy : Nat → ClassId) : FrameBlind (mx_Pm av M D ad cy) := fun a U g mk q => ⟨q.1, q.2.1, mx_S.same (s := U) (U := U.calling g mk a) rfl q.2.2.1, q.2.2.2⟩
theorem mx_run {p : Program} {l : Launch} {e : Env} {R : Room} {s : State} {m : MethodId} {args : Array Value} {below : List Frame} {meth : Method} {c : Code} {H H0 : Heap} {locs : List Loc} {cells slots : Nat} {Z : State → Prop} {pc : Nat} {ls : Array Slot} {rest st0 : List Value} {a : Array Value} {D : va_G} {ad : Nat → Nat} {cy : Nat → ClassId} {A : Nat → Prop} {Q2 : Option Value → mx_M → Prop}
    (hr : va_Run p l e R s m args below meth c H locs cells slots 0 0 (F0 m pc ls st0) rest (mx_Qm Q2 D ad cy a) (mx_A ad)) (hS : va_S A H0 H locs) (hA : ∀ q, mx_A ad q → A q)
    (kk : ∀ (v : Option Value) (M' : mx_M) (H1 : Heap) (locs1 : List Loc), Q2 v M' → va_P D vwCl (mx_w ad cy M') H1 → va_S A H0 H1 locs1 → W p l e R s m args below meth c H1 locs1 cells slots Z (F0 m (pc + 3) ls ((v.map (mx_r ad)).toList ++ rest))) : W p l e R s m args below meth c H locs cells slots Z (F0 m pc ls st0) := by
  intro T hT X
  obtain ⟨v, st₀, t, T', L, h0, X', hL, e1, e2, ⟨⟨u, M', hv, hq, hp⟩, hz, hk⟩, st⟩ := hr T hT X
  cases hv
  rw [h0] at hz hk
  rw [← e1] at hp hz hk
  obtain ⟨t2, a1, b1⟩ := kk u M' T'.heap (locs ++ L) hq hp
    ⟨Nat.le_trans hS.1 hz, fun q h1 h2 => by rw [hk q (Nat.lt_of_lt_of_le h1 hS.1) (fun z => h2 (hA q z))]; exact hS.2.1 q h1 h2, fun q hq => by
      rcases List.mem_append.mp hq with h | h
      · exact hS.2.2 q h
      · exact hA _ (hL q h)⟩ T' rfl X'
  exact ⟨t2, st t2 a1, b1⟩
/-- what the tables say of a method -/
def mx_y (y : MethodName) (cc : ByteArray) (nL : Nat) (ret : Option FieldType) (n : Nat) : Prop := Cond.code y cc nL ret ∈ mx_TW ∧ Cond.initialized y.cls ∈ mx_TW ∧ (y.cls ≠ "java/lang/invoke/MethodHandle" ∧ y.cls ≠ "java/lang/invoke/VarHandle" ∧ (parseMethodDescriptor y.desc).map (fun d => d.parameters.length) = some n) ∧ nL ≤ 17
def mx_cV (own : String) (idx : Nat) (y : MethodName) (cc : ByteArray) (nL : Nat) (ret : Option FieldType) (n ci : Nat) : Prop := Cond.methodLink own idx y ∈ mx_TW ∧ mx_y y cc nL ret n ∧ Cond.instanceMethod y ∈ mx_TW ∧ Cond.selects y.cls y y ∈ mx_TW ∧ ∃ T N, vwCl[ci]? = some (y.cls, T, N)
def mx_cS (own : String) (idx : Nat) (y : MethodName) (cc : ByteArray) (nL : Nat) (ret : Option FieldType) (n : Nat) : Prop := Cond.methodLink own idx y ∈ mx_TW ∧ mx_y y cc nL ret n ∧ Cond.static y ∈ mx_TW
def mx_cN (own : String) (idx : Nat) (y : MethodName) (cc : ByteArray) (nL : Nat) (ret : Option FieldType) (n : Nat) : Prop := (∃ host, Cond.methodLinkNest own idx y host ∈ mx_nest) ∧ mx_y y cc nL ret n ∧ Cond.static y ∈ mx_TW
theorem mx_cats (ad : Nat → Nat) {st : List Value} (h : (st.map fun v => v.category).sum ≤ 8) : ((st.map (mx_r ad)).map fun v => v.category).sum ≤ 8 := by
  rw [List.map_map, show ((fun v : Value => v.category) ∘ mx_r ad) = (fun v => v.category) from funext (mx_r_cat ad)]; exact h
theorem mx_callV {cc : ByteArray} {own : String} {nL : Nat} {ret : Option FieldType} {d pc pc' : Nat} {ls : List (Option Value)} {st st0 : List Value} {M : mx_M} {Q : Option Value → mx_M → Prop}
    {idx b ci n nL2 d2 : Nat} {y : MethodName} {cc2 : ByteArray} {ret2 : Option FieldType} {As : List Value} {t : List (Option Nat)} {Q2 : Option Value → mx_M → Prop}
    (hd : decode cc pc = .ok (.invokevirtual idx, 3)) (hc : mx_cV own idx y cc2 nL2 ret2 n ci) (hs : mx_sh b = .inr (ci, t)) (hT : mx_T y cc2 nL2 ret2 d2 (.ref b :: As) M Q2) (hn : As.length = n) (hd2 : d2 + 1 ≤ d) (hst : st0 = As.reverse ++ .ref b :: st) (hr : (st.map fun v => v.category).sum ≤ 8) (hp : pc + 3 = pc')
    (k : ∀ (v : Option Value) (M' : mx_M), Q2 v M' → mx_V cc own nL ret d pc' ls (v.toList ++ st) M' Q) : mx_V cc own nL ret d pc ls st0 M Q := by
  intro p l e R s m args below meth c D ad cy A H0 cells slots Z hx hb hml hown hts hS hR hD hE H locs lsA hP hSS hL
  subst hp; subst hst
  obtain ⟨c1, ⟨c2, c3, c4, c7⟩, c5, c6, T0, N0, c8⟩ := hc
  have cb : CallB R s args own idx y cc2 nL2 ret2 (Cond.code y cc2 nL2 ret2 :: mx_TW) (mx_rm d2) 0 0 n := callB_of n hts (mx_GI c2) rfl rfl rfl (hts _ c3) (hts _ c1) c4 ⟨by show d2 + 1 ≤ _; omega, by show 8 + (nL2 + 11) + 36 * d2 ≤ _; omega⟩
  have hrun := va_runV (As := As.map (mx_r ad)) (rest := st.map (mx_r ad)) (cells := cells) (slots := slots) (locs := locs) (below := below) (meth := meth) (e := e) (H := H) (g := F0 m pc lsA ((As.reverse ++ .ref b :: st).map (mx_r ad))) (⟨hx, hb, hml, hown, hts⟩ : CallFix p m c cc nL s args mx_TW own) (hT l D ad cy) ⟨cb, hts _ c5, hts _ c6⟩
    ⟨mx_blind _ _ _ _ _, va_recv hS.1 hP c8 ((mx_w_get ad cy M (mx_sh_lt (Or.inl ⟨_, hs⟩))).trans (congrArg (fun e => some (ad b, e)) (mx_c_obj ad cy hs))), fun U hU hW => ⟨rfl, by rw [hU]; exact hP, mx_S.warm hW hS, hD.1⟩⟩ rfl (by rw [List.length_map]; exact hn) hL.1 (by simp [mx_r]) (lv_room (mx_cats ad hr)) hd ⟨hR.2.2.1, hR.2.2.2⟩
  refine mx_run hrun hSS (fun q hq => by obtain ⟨i, hi, rfl⟩ := hq; exact hD.2 i hi) (fun v M' H1 locs1 hq hP1 hS1 => ?_)
  have h := k v M' hq p l e R s m args below meth c D ad cy A H0 cells slots Z hx hb hml hown hts hS hR hD hE H1 locs1 lsA hP1 hS1 hL
  cases v <;> exact h
theorem mx_callS {cc : ByteArray} {own : String} {nL : Nat} {ret : Option FieldType} {d pc pc' : Nat} {ls : List (Option Value)} {st st0 : List Value} {M : mx_M} {Q : Option Value → mx_M → Prop}
    {idx n nL2 d2 : Nat} {y : MethodName} {cc2 : ByteArray} {ret2 : Option FieldType} {As : List Value} {Q2 : Option Value → mx_M → Prop}
    (hd : decode cc pc = .ok (.invokestatic idx, 3)) (hc : mx_cS own idx y cc2 nL2 ret2 n) (hT : mx_T y cc2 nL2 ret2 d2 As M Q2) (hn : As.length = n) (hd2 : d2 + 1 ≤ d) (hst : st0 = As.reverse ++ st) (hr : (st.map fun v => v.category).sum ≤ 8) (hp : pc + 3 = pc')
    (k : ∀ (v : Option Value) (M' : mx_M), Q2 v M' → mx_V cc own nL ret d pc' ls (v.toList ++ st) M' Q) : mx_V cc own nL ret d pc ls st0 M Q := by
  intro p l e R s m args below meth c D ad cy A H0 cells slots Z hx hb hml hown hts hS hR hD hE H locs lsA hP hSS hL
  subst hp; subst hst
  obtain ⟨c1, ⟨c2, c3, c4, c7⟩, c5⟩ := hc
  have cb : CallB R s args own idx y cc2 nL2 ret2 (Cond.code y cc2 nL2 ret2 :: mx_TW) (mx_rm d2) 0 0 n := callB_of n hts (mx_GI c2) rfl rfl rfl (hts _ c3) (hts _ c1) c4 ⟨by show d2 + 1 ≤ _; omega, by show 8 + (nL2 + 11) + 36 * d2 ≤ _; omega⟩
  have hrun := va_runS (As := As.map (mx_r ad)) (rest := st.map (mx_r ad)) (cells := cells) (slots := slots) (locs := locs) (below := below) (meth := meth) (e := e) (H := H) (g := F0 m pc lsA ((As.reverse ++ st).map (mx_r ad))) (⟨hx, hb, hml, hown, hts⟩ : CallFix p m c cc nL s args mx_TW own) (hT l D ad cy) ⟨cb, hts _ c5⟩
    ⟨mx_blind _ _ _ _ _, fun U hU hW => ⟨rfl, by rw [hU]; exact hP, mx_S.warm hW hS, hD.1⟩⟩ rfl (by rw [List.length_map]; exact hn) hL.1 (by simp) (lv_room (mx_cats ad hr)) hd ⟨hR.2.2.1, hR.2.2.2⟩
  refine mx_run hrun hSS (fun q hq => by obtain ⟨i, hi, rfl⟩ := hq; exact hD.2 i hi) (fun v M' H1 locs1 hq hP1 hS1 => ?_)
  have h := k v M' hq p l e R s m args below meth c D ad cy A H0 cells slots Z hx hb hml hown hts hS hR hD hE H1 locs1 lsA hP1 hS1 hL
  cases v <;> exact h
theorem mx_callN {cc : ByteArray} {own : String} {nL : Nat} {ret : Option FieldType} {d pc pc' : Nat} {ls : List (Option Value)} {st st0 : List Value} {M : mx_M} {Q : Option Value → mx_M → Prop}
    {idx n nL2 d2 : Nat} {y : MethodName} {cc2 : ByteArray} {ret2 : Option FieldType} {As : List Value} {Q2 : Option Value → mx_M → Prop}
    (hd : decode cc pc = .ok (.invokestatic idx, 3)) (hc : mx_cN own idx y cc2 nL2 ret2 n) (hT : mx_T y cc2 nL2 ret2 d2 As M Q2) (hn : As.length = n) (hd2 : d2 + 1 ≤ d) (hst : st0 = As.reverse ++ st) (hr : (st.map fun v => v.category).sum ≤ 8) (hp : pc + 3 = pc')
    (k : ∀ (v : Option Value) (M' : mx_M), Q2 v M' → mx_V cc own nL ret d pc' ls (v.toList ++ st) M' Q) : mx_V cc own nL ret d pc ls st0 M Q := by
  intro p l e R s m args below meth c D ad cy A H0 cells slots Z hx hb hml hown hts hS hR hD hE H locs lsA hP hSS hL
  subst hp; subst hst
  obtain ⟨⟨host, c1⟩, ⟨c2, c3, c4, c7⟩, c5⟩ := hc
  have cb : va_CN R s args own idx y host cc2 nL2 ret2 (Cond.code y cc2 nL2 ret2 :: mx_TW) (mx_rm d2) 0 0 n := va_cnB n hts (mx_GI c2) rfl rfl rfl (hS.2 _ c1) (hts _ c3) c4 ⟨by show d2 + 1 ≤ _; omega, by show 8 + (nL2 + 11) + 36 * d2 ≤ _; omega⟩
  have hrun := va_runSN (As := As.map (mx_r ad)) (rest := st.map (mx_r ad)) (cells := cells) (slots := slots) (locs := locs) (below := below) (meth := meth) (e := e) (H := H) (g := F0 m pc lsA ((As.reverse ++ st).map (mx_r ad))) (⟨hx, hb, hml, hown, hts⟩ : CallFix p m c cc nL s args mx_TW own) (hT l D ad cy) ⟨cb, hts _ c5, trivial⟩
    ⟨mx_blind _ _ _ _ _, fun U hU hW => ⟨rfl, by rw [hU]; exact hP, mx_S.warm hW hS, hD.1⟩⟩ rfl (by rw [List.length_map]; exact hn) hL.1 (by simp) (lv_room (mx_cats ad hr)) hd ⟨hR.2.2.1, hR.2.2.2⟩
  refine mx_run hrun hSS (fun q hq => by obtain ⟨i, hi, rfl⟩ := hq; exact hD.2 i hi) (fun v M' H1 locs1 hq hP1 hS1 => ?_)
  have h := k v M' hq p l e R s m args below meth c D ad cy A H0 cells slots Z hx hb hml hown hts hS hR hD hE H1 locs1 lsA hP1 hS1 hL
  cases v <;> exact h
end
section
theorem mw_X0 : ∀ w ∈ u_ws RX0 TX0 6, w ∈ mx_TW := by decide +kernel
theorem mw_X1 : ∀ w ∈ u_ws RX1 TX1 4, w ∈ mx_TW := by decide +kernel
theorem mw_X2 : ∀ w ∈ u_ws RX2 TX2 5, w ∈ mx_TW := by decide +kernel
theorem mw_X3 : ∀ w ∈ u_ws RX3 TX3 9, w ∈ mx_TW := by decide +kernel
theorem mw_X4 : ∀ w ∈ u_ws RX4 TX4 2, w ∈ mx_TW := by decide +kernel
theorem mw_X5 : ∀ w ∈ u_ws RX5 TX5 2, w ∈ mx_TW := by decide +kernel
theorem mw_X6 : ∀ w ∈ u_ws RX6 TX6 2, w ∈ mx_TW := by decide +kernel
theorem mw_X7 : ∀ w ∈ u_ws RX7 TX7 8, w ∈ mx_TW := by decide +kernel
theorem mw_X8 : ∀ w ∈ u_ws RX8 TX8 16, w ∈ mx_TW := by decide +kernel
theorem fl_X2_9 : mx_F RX2 9 2 0 (tyX2 0) true := ⟨RX2, TX2, 5, tyX2, rfl, by decide, mx_in 86 (by decide +kernel) (by decide +kernel), mw_X2, tyX2_ok, nmX2, rfl, rfl⟩
theorem fl_X3_88 : mx_F RX3 88 2 0 (tyX2 0) true := ⟨RX2, TX2, 5, tyX2, rfl, by decide, mx_in 87 (by decide +kernel) (by decide +kernel), mw_X2, tyX2_ok, nmX2, rfl, rfl⟩
theorem fl_X7_145 : mx_F RX7 145 2 0 (tyX2 0) true := ⟨RX2, TX2, 5, tyX2, rfl, by decide, mx_in 88 (by decide +kernel) (by decide +kernel), mw_X2, tyX2_ok, nmX2, rfl, rfl⟩
theorem fl_X2_15 : mx_F RX2 15 2 1 (tyX2 1) true := ⟨RX2, TX2, 5, tyX2, rfl, by decide, mx_in 89 (by decide +kernel) (by decide +kernel), mw_X2, tyX2_ok, nmX2, rfl, rfl⟩
theorem fl_X3_91 : mx_F RX3 91 2 1 (tyX2 1) true := ⟨RX2, TX2, 5, tyX2, rfl, by decide, mx_in 90 (by decide +kernel) (by decide +kernel), mw_X2, tyX2_ok, nmX2, rfl, rfl⟩
theorem fl_X7_148 : mx_F RX7 148 2 1 (tyX2 1) true := ⟨RX2, TX2, 5, tyX2, rfl, by decide, mx_in 91 (by decide +kernel) (by decide +kernel), mw_X2, tyX2_ok, nmX2, rfl, rfl⟩
theorem fl_X2_18 : mx_F RX2 18 2 2 (tyX2 2) true := ⟨RX2, TX2, 5, tyX2, rfl, by decide, mx_in 92 (by decide +kernel) (by decide +kernel), mw_X2, tyX2_ok, nmX2, rfl, rfl⟩
theorem fl_X1_76 : mx_F RX1 76 2 2 (tyX2 2) true := ⟨RX2, TX2, 5, tyX2, rfl, by decide, mx_in 93 (by decide +kernel) (by decide +kernel), mw_X2, tyX2_ok, nmX2, rfl, rfl⟩
theorem fl_X7_151 : mx_F RX7 151 2 2 (tyX2 2) true := ⟨RX2, TX2, 5, tyX2, rfl, by decide, mx_in 94 (by decide +kernel) (by decide +kernel), mw_X2, tyX2_ok, nmX2, rfl, rfl⟩
theorem fl_X2_21 : mx_F RX2 21 2 3 (tyX2 3) true := ⟨RX2, TX2, 5, tyX2, rfl, by decide, mx_in 95 (by decide +kernel) (by decide +kernel), mw_X2, tyX2_ok, nmX2, rfl, rfl⟩
theorem fl_X1_79 : mx_F RX1 79 2 3 (tyX2 3) true := ⟨RX2, TX2, 5, tyX2, rfl, by decide, mx_in 96 (by decide +kernel) (by decide +kernel), mw_X2, tyX2_ok, nmX2, rfl, rfl⟩
theorem fl_X7_154 : mx_F RX7 154 2 3 (tyX2 3) true := ⟨RX2, TX2, 5, tyX2, rfl, by decide, mx_in 97 (by decide +kernel) (by decide +kernel), mw_X2, tyX2_ok, nmX2, rfl, rfl⟩
theorem fl_X2_24 : mx_F RX2 24 2 4 (tyX2 4) false := ⟨RX2, TX2, 5, tyX2, rfl, by decide, mx_in 98 (by decide +kernel) (by decide +kernel), mw_X2, tyX2_ok, nmX2, rfl, rfl⟩
theorem fl_X1_28 : mx_F RX1 28 2 4 (tyX2 4) false := ⟨RX2, TX2, 5, tyX2, rfl, by decide, mx_in 99 (by decide +kernel) (by decide +kernel), mw_X2, tyX2_ok, nmX2, rfl, rfl⟩
theorem fl_X7_82 : mx_F RX7 82 2 4 (tyX2 4) false := ⟨RX2, TX2, 5, tyX2, rfl, by decide, mx_in 100 (by decide +kernel) (by decide +kernel), mw_X2, tyX2_ok, nmX2, rfl, rfl⟩
theorem fl_X3_81 : mx_F RX3 81 2 4 (tyX2 4) false := ⟨RX2, TX2, 5, tyX2, rfl, by decide, mx_in 101 (by decide +kernel) (by decide +kernel), mw_X2, tyX2_ok, nmX2, rfl, rfl⟩
theorem fl_X0_9 : mx_F RX0 9 0 0 (tyX0 0) true := ⟨RX0, TX0, 6, tyX0, rfl, by decide, mx_in 120 (by decide +kernel) (by decide +kernel), mw_X0, tyX0_ok, nmX0, rfl, rfl⟩
theorem fl_X7_171 : mx_F RX7 171 0 0 (tyX0 0) true := ⟨RX0, TX0, 6, tyX0, rfl, by decide, mx_in 121 (by decide +kernel) (by decide +kernel), mw_X0, tyX0_ok, nmX0, rfl, rfl⟩
theorem fl_X0_15 : mx_F RX0 15 0 1 (tyX0 1) true := ⟨RX0, TX0, 6, tyX0, rfl, by decide, mx_in 122 (by decide +kernel) (by decide +kernel), mw_X0, tyX0_ok, nmX0, rfl, rfl⟩
theorem fl_X7_174 : mx_F RX7 174 0 1 (tyX0 1) true := ⟨RX0, TX0, 6, tyX0, rfl, by decide, mx_in 123 (by decide +kernel) (by decide +kernel), mw_X0, tyX0_ok, nmX0, rfl, rfl⟩
theorem fl_X0_18 : mx_F RX0 18 0 2 (tyX0 2) true := ⟨RX0, TX0, 6, tyX0, rfl, by decide, mx_in 124 (by decide +kernel) (by decide +kernel), mw_X0, tyX0_ok, nmX0, rfl, rfl⟩
theorem fl_X7_175 : mx_F RX7 175 0 2 (tyX0 2) true := ⟨RX0, TX0, 6, tyX0, rfl, by decide, mx_in 125 (by decide +kernel) (by decide +kernel), mw_X0, tyX0_ok, nmX0, rfl, rfl⟩
theorem fl_X0_21 : mx_F RX0 21 0 3 (tyX0 3) true := ⟨RX0, TX0, 6, tyX0, rfl, by decide, mx_in 126 (by decide +kernel) (by decide +kernel), mw_X0, tyX0_ok, nmX0, rfl, rfl⟩
theorem fl_X7_178 : mx_F RX7 178 0 3 (tyX0 3) true := ⟨RX0, TX0, 6, tyX0, rfl, by decide, mx_in 127 (by decide +kernel) (by decide +kernel), mw_X0, tyX0_ok, nmX0, rfl, rfl⟩
theorem fl_X0_25 : mx_F RX0 25 0 4 (tyX0 4) true := ⟨RX0, TX0, 6, tyX0, rfl, by decide, mx_in 128 (by decide +kernel) (by decide +kernel), mw_X0, tyX0_ok, nmX0, rfl, rfl⟩
theorem fl_X7_182 : mx_F RX7 182 0 4 (tyX0 4) true := ⟨RX0, TX0, 6, tyX0, rfl, by decide, mx_in 129 (by decide +kernel) (by decide +kernel), mw_X0, tyX0_ok, nmX0, rfl, rfl⟩
theorem fl_X0_28 : mx_F RX0 28 0 5 (tyX0 5) false := ⟨RX0, TX0, 6, tyX0, rfl, by decide, mx_in 130 (by decide +kernel) (by decide +kernel), mw_X0, tyX0_ok, nmX0, rfl, rfl⟩
theorem fl_X7_191 : mx_F RX7 191 0 5 (tyX0 5) false := ⟨RX0, TX0, 6, tyX0, rfl, by decide, mx_in 131 (by decide +kernel) (by decide +kernel), mw_X0, tyX0_ok, nmX0, rfl, rfl⟩
theorem fl_X3_12 : mx_F RX3 12 3 0 (tyX3 0) true := ⟨RX3, TX3, 9, tyX3, rfl, by decide, mx_in 146 (by decide +kernel) (by decide +kernel), mw_X3, tyX3_ok, nmX3, rfl, rfl⟩
theorem fl_X7_64 : mx_F RX7 64 3 0 (tyX3 0) true := ⟨RX3, TX3, 9, tyX3, rfl, by decide, mx_in 147 (by decide +kernel) (by decide +kernel), mw_X3, tyX3_ok, nmX3, rfl, rfl⟩
theorem fl_X3_21 : mx_F RX3 21 3 1 (tyX3 1) true := ⟨RX3, TX3, 9, tyX3, rfl, by decide, mx_in 148 (by decide +kernel) (by decide +kernel), mw_X3, tyX3_ok, nmX3, rfl, rfl⟩
theorem fl_X5_20 : mx_F RX5 20 3 1 (tyX3 1) true := ⟨RX3, TX3, 9, tyX3, rfl, by decide, mx_in 149 (by decide +kernel) (by decide +kernel), mw_X3, tyX3_ok, nmX3, rfl, rfl⟩
theorem fl_X7_164 : mx_F RX7 164 3 1 (tyX3 1) true := ⟨RX3, TX3, 9, tyX3, rfl, by decide, mx_in 150 (by decide +kernel) (by decide +kernel), mw_X3, tyX3_ok, nmX3, rfl, rfl⟩
theorem fl_X3_25 : mx_F RX3 25 3 2 (tyX3 2) true := ⟨RX3, TX3, 9, tyX3, rfl, by decide, mx_in 151 (by decide +kernel) (by decide +kernel), mw_X3, tyX3_ok, nmX3, rfl, rfl⟩
theorem fl_X7_117 : mx_F RX7 117 3 2 (tyX3 2) true := ⟨RX3, TX3, 9, tyX3, rfl, by decide, mx_in 152 (by decide +kernel) (by decide +kernel), mw_X3, tyX3_ok, nmX3, rfl, rfl⟩
theorem fl_X3_29 : mx_F RX3 29 3 3 (tyX3 3) true := ⟨RX3, TX3, 9, tyX3, rfl, by decide, mx_in 153 (by decide +kernel) (by decide +kernel), mw_X3, tyX3_ok, nmX3, rfl, rfl⟩
theorem fl_X7_188 : mx_F RX7 188 3 3 (tyX3 3) true := ⟨RX3, TX3, 9, tyX3, rfl, by decide, mx_in 154 (by decide +kernel) (by decide +kernel), mw_X3, tyX3_ok, nmX3, rfl, rfl⟩
theorem fl_X3_32 : mx_F RX3 32 3 4 (tyX3 4) false := ⟨RX3, TX3, 9, tyX3, rfl, by decide, mx_in 155 (by decide +kernel) (by decide +kernel), mw_X3, tyX3_ok, nmX3, rfl, rfl⟩
theorem fl_X7_192 : mx_F RX7 192 3 4 (tyX3 4) false := ⟨RX3, TX3, 9, tyX3, rfl, by decide, mx_in 156 (by decide +kernel) (by decide +kernel), mw_X3, tyX3_ok, nmX3, rfl, rfl⟩
theorem fl_X3_36 : mx_F RX3 36 3 5 (tyX3 5) false := ⟨RX3, TX3, 9, tyX3, rfl, by decide, mx_in 157 (by decide +kernel) (by decide +kernel), mw_X3, tyX3_ok, nmX3, rfl, rfl⟩
theorem fl_X7_195 : mx_F RX7 195 3 5 (tyX3 5) false := ⟨RX3, TX3, 9, tyX3, rfl, by decide, mx_in 158 (by decide +kernel) (by decide +kernel), mw_X3, tyX3_ok, nmX3, rfl, rfl⟩
theorem fl_X3_39 : mx_F RX3 39 3 6 (tyX3 6) false := ⟨RX3, TX3, 9, tyX3, rfl, by decide, mx_in 159 (by decide +kernel) (by decide +kernel), mw_X3, tyX3_ok, nmX3, rfl, rfl⟩
theorem fl_X7_198 : mx_F RX7 198 3 6 (tyX3 6) false := ⟨RX3, TX3, 9, tyX3, rfl, by decide, mx_in 160 (by decide +kernel) (by decide +kernel), mw_X3, tyX3_ok, nmX3, rfl, rfl⟩
theorem fl_X3_42 : mx_F RX3 42 3 7 (tyX3 7) false := ⟨RX3, TX3, 9, tyX3, rfl, by decide, mx_in 161 (by decide +kernel) (by decide +kernel), mw_X3, tyX3_ok, nmX3, rfl, rfl⟩
theorem fl_X7_157 : mx_F RX7 157 3 7 (tyX3 7) false := ⟨RX3, TX3, 9, tyX3, rfl, by decide, mx_in 162 (by decide +kernel) (by decide +kernel), mw_X3, tyX3_ok, nmX3, rfl, rfl⟩
theorem fl_X3_45 : mx_F RX3 45 3 8 (tyX3 8) false := ⟨RX3, TX3, 9, tyX3, rfl, by decide, mx_in 163 (by decide +kernel) (by decide +kernel), mw_X3, tyX3_ok, nmX3, rfl, rfl⟩
theorem fl_X7_96 : mx_F RX7 96 3 8 (tyX3 8) false := ⟨RX3, TX3, 9, tyX3, rfl, by decide, mx_in 164 (by decide +kernel) (by decide +kernel), mw_X3, tyX3_ok, nmX3, rfl, rfl⟩
theorem fl_X4_11 : mx_F RX4 11 4 0 (tyX4 0) true := ⟨RX4, TX4, 2, tyX4, rfl, by decide, mx_in 193 (by decide +kernel) (by decide +kernel), mw_X4, tyX4_ok, nmX4, rfl, rfl⟩
theorem fl_X4_17 : mx_F RX4 17 4 1 (tyX4 1) false := ⟨RX4, TX4, 2, tyX4, rfl, by decide, mx_in 194 (by decide +kernel) (by decide +kernel), mw_X4, tyX4_ok, nmX4, rfl, rfl⟩
theorem fl_X7_201 : mx_F RX7 201 4 1 (tyX4 1) false := ⟨RX4, TX4, 2, tyX4, rfl, by decide, mx_in 195 (by decide +kernel) (by decide +kernel), mw_X4, tyX4_ok, nmX4, rfl, rfl⟩
theorem fl_X6_9 : mx_F RX6 9 6 0 (tyX6 0) true := ⟨RX6, TX6, 2, tyX6, rfl, by decide, mx_in 207 (by decide +kernel) (by decide +kernel), mw_X6, tyX6_ok, nmX6, rfl, rfl⟩
theorem fl_X1_36 : mx_F RX1 36 6 0 (tyX6 0) true := ⟨RX6, TX6, 2, tyX6, rfl, by decide, mx_in 208 (by decide +kernel) (by decide +kernel), mw_X6, tyX6_ok, nmX6, rfl, rfl⟩
theorem fl_X7_139 : mx_F RX7 139 6 0 (tyX6 0) true := ⟨RX6, TX6, 2, tyX6, rfl, by decide, mx_in 209 (by decide +kernel) (by decide +kernel), mw_X6, tyX6_ok, nmX6, rfl, rfl⟩
theorem fl_X6_15 : mx_F RX6 15 6 1 (tyX6 1) false := ⟨RX6, TX6, 2, tyX6, rfl, by decide, mx_in 210 (by decide +kernel) (by decide +kernel), mw_X6, tyX6_ok, nmX6, rfl, rfl⟩
theorem fl_X1_31 : mx_F RX1 31 6 1 (tyX6 1) false := ⟨RX6, TX6, 2, tyX6, rfl, by decide, mx_in 211 (by decide +kernel) (by decide +kernel), mw_X6, tyX6_ok, nmX6, rfl, rfl⟩
theorem fl_X7_124 : mx_F RX7 124 6 1 (tyX6 1) false := ⟨RX6, TX6, 2, tyX6, rfl, by decide, mx_in 212 (by decide +kernel) (by decide +kernel), mw_X6, tyX6_ok, nmX6, rfl, rfl⟩
theorem fl_X1_12 : mx_F RX1 12 1 0 (tyX1 0) true := ⟨RX1, TX1, 4, tyX1, rfl, by decide, mx_in 226 (by decide +kernel) (by decide +kernel), mw_X1, tyX1_ok, nmX1, rfl, rfl⟩
theorem fl_X7_134 : mx_F RX7 134 1 0 (tyX1 0) true := ⟨RX1, TX1, 4, tyX1, rfl, by decide, mx_in 227 (by decide +kernel) (by decide +kernel), mw_X1, tyX1_ok, nmX1, rfl, rfl⟩
theorem fl_X1_18 : mx_F RX1 18 1 1 (tyX1 1) false := ⟨RX1, TX1, 4, tyX1, rfl, by decide, mx_in 228 (by decide +kernel) (by decide +kernel), mw_X1, tyX1_ok, nmX1, rfl, rfl⟩
theorem fl_X1_22 : mx_F RX1 22 1 2 (tyX1 2) false := ⟨RX1, TX1, 4, tyX1, rfl, by decide, mx_in 229 (by decide +kernel) (by decide +kernel), mw_X1, tyX1_ok, nmX1, rfl, rfl⟩
theorem fl_X1_25 : mx_F RX1 25 1 3 (tyX1 3) false := ⟨RX1, TX1, 4, tyX1, rfl, by decide, mx_in 230 (by decide +kernel) (by decide +kernel), mw_X1, tyX1_ok, nmX1, rfl, rfl⟩
theorem fl_X5_9 : mx_F RX5 9 5 0 (tyX5 0) true := ⟨RX5, TX5, 2, tyX5, rfl, by decide, mx_in 248 (by decide +kernel) (by decide +kernel), mw_X5, tyX5_ok, nmX5, rfl, rfl⟩
theorem fl_X7_205 : mx_F RX7 205 5 0 (tyX5 0) true := ⟨RX5, TX5, 2, tyX5, rfl, by decide, mx_in 249 (by decide +kernel) (by decide +kernel), mw_X5, tyX5_ok, nmX5, rfl, rfl⟩
theorem fl_X5_17 : mx_F RX5 17 5 1 (tyX5 1) true := ⟨RX5, TX5, 2, tyX5, rfl, by decide, mx_in 250 (by decide +kernel) (by decide +kernel), mw_X5, tyX5_ok, nmX5, rfl, rfl⟩
theorem fl_X7_10 : mx_F RX7 10 7 0 (tyX7 0) true := ⟨RX7, TX7, 8, tyX7, rfl, by decide, mx_in 256 (by decide +kernel) (by decide +kernel), mw_X7, tyX7_ok, nmX7, rfl, rfl⟩
theorem fl_X7_16 : mx_F RX7 16 7 1 (tyX7 1) true := ⟨RX7, TX7, 8, tyX7, rfl, by decide, mx_in 257 (by decide +kernel) (by decide +kernel), mw_X7, tyX7_ok, nmX7, rfl, rfl⟩
theorem fl_X7_19 : mx_F RX7 19 7 2 (tyX7 2) true := ⟨RX7, TX7, 8, tyX7, rfl, by decide, mx_in 258 (by decide +kernel) (by decide +kernel), mw_X7, tyX7_ok, nmX7, rfl, rfl⟩
theorem fl_X7_22 : mx_F RX7 22 7 3 (tyX7 3) false := ⟨RX7, TX7, 8, tyX7, rfl, by decide, mx_in 259 (by decide +kernel) (by decide +kernel), mw_X7, tyX7_ok, nmX7, rfl, rfl⟩
theorem fl_X7_29 : mx_F RX7 29 7 4 (tyX7 4) true := ⟨RX7, TX7, 8, tyX7, rfl, by decide, mx_in 260 (by decide +kernel) (by decide +kernel), mw_X7, tyX7_ok, nmX7, rfl, rfl⟩
theorem fl_X7_36 : mx_F RX7 36 7 5 (tyX7 5) true := ⟨RX7, TX7, 8, tyX7, rfl, by decide, mx_in 261 (by decide +kernel) (by decide +kernel), mw_X7, tyX7_ok, nmX7, rfl, rfl⟩
theorem fl_X7_43 : mx_F RX7 43 7 6 (tyX7 6) true := ⟨RX7, TX7, 8, tyX7, rfl, by decide, mx_in 262 (by decide +kernel) (by decide +kernel), mw_X7, tyX7_ok, nmX7, rfl, rfl⟩
theorem fl_X7_50 : mx_F RX7 50 7 7 (tyX7 7) true := ⟨RX7, TX7, 8, tyX7, rfl, by decide, mx_in 263 (by decide +kernel) (by decide +kernel), mw_X7, tyX7_ok, nmX7, rfl, rfl⟩
theorem fl_X8_7 : mx_F RX8 7 8 0 (tyX8 0) true := ⟨RX8, TX8, 16, tyX8, rfl, by decide, mx_in 702 (by decide +kernel) (by decide +kernel), mw_X8, tyX8_ok, nmX8, rfl, rfl⟩
theorem fl_X8_13 : mx_F RX8 13 8 1 (tyX8 1) true := ⟨RX8, TX8, 16, tyX8, rfl, by decide, mx_in 703 (by decide +kernel) (by decide +kernel), mw_X8, tyX8_ok, nmX8, rfl, rfl⟩
theorem fl_X8_16 : mx_F RX8 16 8 2 (tyX8 2) true := ⟨RX8, TX8, 16, tyX8, rfl, by decide, mx_in 704 (by decide +kernel) (by decide +kernel), mw_X8, tyX8_ok, nmX8, rfl, rfl⟩
theorem fl_X8_41 : mx_F RX8 41 8 3 (tyX8 3) false := ⟨RX8, TX8, 16, tyX8, rfl, by decide, mx_in 705 (by decide +kernel) (by decide +kernel), mw_X8, tyX8_ok, nmX8, rfl, rfl⟩
theorem fl_X8_19 : mx_F RX8 19 8 4 (tyX8 4) true := ⟨RX8, TX8, 16, tyX8, rfl, by decide, mx_in 706 (by decide +kernel) (by decide +kernel), mw_X8, tyX8_ok, nmX8, rfl, rfl⟩
theorem fl_X8_177 : mx_F RX8 177 8 5 (tyX8 5) false := ⟨RX8, TX8, 16, tyX8, rfl, by decide, mx_in 707 (by decide +kernel) (by decide +kernel), mw_X8, tyX8_ok, nmX8, rfl, rfl⟩
theorem fl_X8_22 : mx_F RX8 22 8 6 (tyX8 6) true := ⟨RX8, TX8, 16, tyX8, rfl, by decide, mx_in 708 (by decide +kernel) (by decide +kernel), mw_X8, tyX8_ok, nmX8, rfl, rfl⟩
theorem fl_X8_116 : mx_F RX8 116 8 7 (tyX8 7) false := ⟨RX8, TX8, 16, tyX8, rfl, by decide, mx_in 709 (by decide +kernel) (by decide +kernel), mw_X8, tyX8_ok, nmX8, rfl, rfl⟩
theorem fl_X8_25 : mx_F RX8 25 8 8 (tyX8 8) true := ⟨RX8, TX8, 16, tyX8, rfl, by decide, mx_in 710 (by decide +kernel) (by decide +kernel), mw_X8, tyX8_ok, nmX8, rfl, rfl⟩
theorem fl_X8_119 : mx_F RX8 119 8 9 (tyX8 9) false := ⟨RX8, TX8, 16, tyX8, rfl, by decide, mx_in 711 (by decide +kernel) (by decide +kernel), mw_X8, tyX8_ok, nmX8, rfl, rfl⟩
theorem fl_X8_122 : mx_F RX8 122 8 10 (tyX8 10) false := ⟨RX8, TX8, 16, tyX8, rfl, by decide, mx_in 712 (by decide +kernel) (by decide +kernel), mw_X8, tyX8_ok, nmX8, rfl, rfl⟩
theorem fl_X8_29 : mx_F RX8 29 8 11 (tyX8 11) true := ⟨RX8, TX8, 16, tyX8, rfl, by decide, mx_in 713 (by decide +kernel) (by decide +kernel), mw_X8, tyX8_ok, nmX8, rfl, rfl⟩
theorem fl_X8_133 : mx_F RX8 133 8 12 (tyX8 12) false := ⟨RX8, TX8, 16, tyX8, rfl, by decide, mx_in 714 (by decide +kernel) (by decide +kernel), mw_X8, tyX8_ok, nmX8, rfl, rfl⟩
theorem fl_X8_32 : mx_F RX8 32 8 13 (tyX8 13) true := ⟨RX8, TX8, 16, tyX8, rfl, by decide, mx_in 715 (by decide +kernel) (by decide +kernel), mw_X8, tyX8_ok, nmX8, rfl, rfl⟩
theorem fl_X8_35 : mx_F RX8 35 8 14 (tyX8 14) true := ⟨RX8, TX8, 16, tyX8, rfl, by decide, mx_in 716 (by decide +kernel) (by decide +kernel), mw_X8, tyX8_ok, nmX8, rfl, rfl⟩
theorem fl_X8_38 : mx_F RX8 38 8 15 (tyX8 15) true := ⟨RX8, TX8, 16, tyX8, rfl, by decide, mx_in 717 (by decide +kernel) (by decide +kernel), mw_X8, tyX8_ok, nmX8, rfl, rfl⟩
theorem my_X7_emitter : mx_y yX7_emitter cX7_emitter 5 (some .int) 4 := ⟨mx_in 284 (by decide +kernel) (by decide +kernel), mx_in 54 (by decide +kernel) (by decide +kernel), by decide +kernel, by decide⟩
theorem cl_L_13 : mx_cV RL 13 yX7_emitter cX7_emitter 5 (some .int) 4 7 := ⟨mx_in 281 (by decide +kernel) (by decide +kernel), my_X7_emitter, mx_in 282 (by decide +kernel) (by decide +kernel), mx_in 283 (by decide +kernel) (by decide +kernel), _, _, rfl⟩
theorem my_X7_isColumn : mx_y yX7_isColumn cX7_isColumn 1 (some .boolean) 1 := ⟨mx_in 287 (by decide +kernel) (by decide +kernel), mx_in 54 (by decide +kernel) (by decide +kernel), by decide +kernel, by decide⟩
theorem cl_X7_54 : mx_cS RX7 54 yX7_isColumn cX7_isColumn 1 (some .boolean) 1 := ⟨mx_in 285 (by decide +kernel) (by decide +kernel), my_X7_isColumn, mx_in 286 (by decide +kernel) (by decide +kernel)⟩
theorem my_X7_isPattern : mx_y yX7_isPattern cX7_isPattern 1 (some .boolean) 1 := ⟨mx_in 290 (by decide +kernel) (by decide +kernel), mx_in 54 (by decide +kernel) (by decide +kernel), by decide +kernel, by decide⟩
theorem cl_X7_58 : mx_cS RX7 58 yX7_isPattern cX7_isPattern 1 (some .boolean) 1 := ⟨mx_in 288 (by decide +kernel) (by decide +kernel), my_X7_isPattern, mx_in 289 (by decide +kernel) (by decide +kernel)⟩
theorem my_X7_isPeriod : mx_y yX7_isPeriod cX7_isPeriod 1 (some .boolean) 1 := ⟨mx_in 293 (by decide +kernel) (by decide +kernel), mx_in 54 (by decide +kernel) (by decide +kernel), by decide +kernel, by decide⟩
theorem cl_X7_61 : mx_cS RX7 61 yX7_isPeriod cX7_isPeriod 1 (some .boolean) 1 := ⟨mx_in 291 (by decide +kernel) (by decide +kernel), my_X7_isPeriod, mx_in 292 (by decide +kernel) (by decide +kernel)⟩
theorem my_X2_isFull : mx_y yX2_isFull cX2_isFull 1 (some .boolean) 0 := ⟨mx_in 297 (by decide +kernel) (by decide +kernel), mx_in 56 (by decide +kernel) (by decide +kernel), by decide +kernel, by decide⟩
theorem cl_X7_68 : mx_cV RX7 68 yX2_isFull cX2_isFull 1 (some .boolean) 0 2 := ⟨mx_in 294 (by decide +kernel) (by decide +kernel), my_X2_isFull, mx_in 295 (by decide +kernel) (by decide +kernel), mx_in 296 (by decide +kernel) (by decide +kernel), _, _, rfl⟩
theorem my_X4_record : mx_y yX4_record cX4_record 2 none 1 := ⟨mx_in 301 (by decide +kernel) (by decide +kernel), mx_in 58 (by decide +kernel) (by decide +kernel), by decide +kernel, by decide⟩
theorem cl_X7_74 : mx_cV RX7 74 yX4_record cX4_record 2 none 1 4 := ⟨mx_in 298 (by decide +kernel) (by decide +kernel), my_X4_record, mx_in 299 (by decide +kernel) (by decide +kernel), mx_in 300 (by decide +kernel) (by decide +kernel), _, _, rfl⟩
theorem my_X4_dropOldest : mx_y yX4_dropOldest cX4_dropOldest 3 none 0 := ⟨mx_in 305 (by decide +kernel) (by decide +kernel), mx_in 58 (by decide +kernel) (by decide +kernel), by decide +kernel, by decide⟩
theorem cl_X4_22 : mx_cV RX4 22 yX4_dropOldest cX4_dropOldest 3 none 0 4 := ⟨mx_in 302 (by decide +kernel) (by decide +kernel), my_X4_dropOldest, mx_in 304 (by decide +kernel) (by decide +kernel), mx_in 0 (by decide +kernel) (by decide +kernel), _, _, rfl⟩
theorem my_X3_copyFrom : mx_y yX3_copyFrom cX3_copyFrom 2 none 1 := ⟨mx_in 309 (by decide +kernel) (by decide +kernel), mx_in 55 (by decide +kernel) (by decide +kernel), by decide +kernel, by decide⟩
theorem cl_X4_25 : mx_cV RX4 25 yX3_copyFrom cX3_copyFrom 2 none 1 3 := ⟨mx_in 306 (by decide +kernel) (by decide +kernel), my_X3_copyFrom, mx_in 307 (by decide +kernel) (by decide +kernel), mx_in 308 (by decide +kernel) (by decide +kernel), _, _, rfl⟩
theorem my_X2_copyFrom : mx_y yX2_copyFrom cX2_copyFrom 3 none 1 := ⟨mx_in 313 (by decide +kernel) (by decide +kernel), mx_in 56 (by decide +kernel) (by decide +kernel), by decide +kernel, by decide⟩
theorem cl_X3_49 : mx_cV RX3 49 yX2_copyFrom cX2_copyFrom 3 none 1 2 := ⟨mx_in 310 (by decide +kernel) (by decide +kernel), my_X2_copyFrom, mx_in 311 (by decide +kernel) (by decide +kernel), mx_in 312 (by decide +kernel) (by decide +kernel), _, _, rfl⟩
theorem my_X2_put : mx_y yX2_put cX2_put 4 none 3 := ⟨mx_in 317 (by decide +kernel) (by decide +kernel), mx_in 56 (by decide +kernel) (by decide +kernel), by decide +kernel, by decide⟩
theorem cl_X2_36 : mx_cV RX2 36 yX2_put cX2_put 4 none 3 2 := ⟨mx_in 314 (by decide +kernel) (by decide +kernel), my_X2_put, mx_in 316 (by decide +kernel) (by decide +kernel), mx_in 1 (by decide +kernel) (by decide +kernel), _, _, rfl⟩
theorem my_X0_copyFrom : mx_y yX0_copyFrom cX0_copyFrom 3 none 1 := ⟨mx_in 321 (by decide +kernel) (by decide +kernel), mx_in 57 (by decide +kernel) (by decide +kernel), by decide +kernel, by decide⟩
theorem cl_X3_53 : mx_cV RX3 53 yX0_copyFrom cX0_copyFrom 3 none 1 0 := ⟨mx_in 318 (by decide +kernel) (by decide +kernel), my_X0_copyFrom, mx_in 319 (by decide +kernel) (by decide +kernel), mx_in 320 (by decide +kernel) (by decide +kernel), _, _, rfl⟩
theorem my_X0_put : mx_y yX0_put cX0_put 4 none 3 := ⟨mx_in 325 (by decide +kernel) (by decide +kernel), mx_in 57 (by decide +kernel) (by decide +kernel), by decide +kernel, by decide⟩
theorem cl_X0_32 : mx_cV RX0 32 yX0_put cX0_put 4 none 3 0 := ⟨mx_in 322 (by decide +kernel) (by decide +kernel), my_X0_put, mx_in 324 (by decide +kernel) (by decide +kernel), mx_in 2 (by decide +kernel) (by decide +kernel), _, _, rfl⟩
theorem my_X2_add : mx_y yX2_add cX2_add 5 none 4 := ⟨mx_in 332 (by decide +kernel) (by decide +kernel), mx_in 56 (by decide +kernel) (by decide +kernel), by decide +kernel, by decide⟩
theorem cl_X7_78 : mx_cV RX7 78 yX2_add cX2_add 5 none 4 2 := ⟨mx_in 329 (by decide +kernel) (by decide +kernel), my_X2_add, mx_in 330 (by decide +kernel) (by decide +kernel), mx_in 331 (by decide +kernel) (by decide +kernel), _, _, rfl⟩
theorem cl_X2_28 : mx_cV RX2 28 yX2_isFull cX2_isFull 1 (some .boolean) 0 2 := ⟨mx_in 333 (by decide +kernel) (by decide +kernel), my_X2_isFull, mx_in 295 (by decide +kernel) (by decide +kernel), mx_in 296 (by decide +kernel) (by decide +kernel), _, _, rfl⟩
theorem my_X7_takeAway : mx_y yX7_takeAway cX7_takeAway 2 (some .int) 1 := ⟨mx_in 337 (by decide +kernel) (by decide +kernel), mx_in 54 (by decide +kernel) (by decide +kernel), by decide +kernel, by decide⟩
theorem cl_L_18 : mx_cV RL 18 yX7_takeAway cX7_takeAway 2 (some .int) 1 7 := ⟨mx_in 334 (by decide +kernel) (by decide +kernel), my_X7_takeAway, mx_in 335 (by decide +kernel) (by decide +kernel), mx_in 336 (by decide +kernel) (by decide +kernel), _, _, rfl⟩
theorem my_X2_has : mx_y yX2_has cX2_has 2 (some .boolean) 1 := ⟨mx_in 341 (by decide +kernel) (by decide +kernel), mx_in 56 (by decide +kernel) (by decide +kernel), by decide +kernel, by decide⟩
theorem cl_X7_86 : mx_cV RX7 86 yX2_has cX2_has 2 (some .boolean) 1 2 := ⟨mx_in 338 (by decide +kernel) (by decide +kernel), my_X2_has, mx_in 339 (by decide +kernel) (by decide +kernel), mx_in 340 (by decide +kernel) (by decide +kernel), _, _, rfl⟩
theorem my_X2_remove : mx_y yX2_remove cX2_remove 3 none 1 := ⟨mx_in 345 (by decide +kernel) (by decide +kernel), mx_in 56 (by decide +kernel) (by decide +kernel), by decide +kernel, by decide⟩
theorem cl_X7_89 : mx_cV RX7 89 yX2_remove cX2_remove 3 none 1 2 := ⟨mx_in 342 (by decide +kernel) (by decide +kernel), my_X2_remove, mx_in 343 (by decide +kernel) (by decide +kernel), mx_in 344 (by decide +kernel) (by decide +kernel), _, _, rfl⟩
theorem cl_X2_32 : mx_cV RX2 32 yX2_has cX2_has 2 (some .boolean) 1 2 := ⟨mx_in 346 (by decide +kernel) (by decide +kernel), my_X2_has, mx_in 339 (by decide +kernel) (by decide +kernel), mx_in 340 (by decide +kernel) (by decide +kernel), _, _, rfl⟩
theorem my_X7_tick : mx_y yX7_tick cX7_tick 2 (some .int) 1 := ⟨mx_in 350 (by decide +kernel) (by decide +kernel), mx_in 54 (by decide +kernel) (by decide +kernel), by decide +kernel, by decide⟩
theorem cl_L_23 : mx_cV RL 23 yX7_tick cX7_tick 2 (some .int) 1 7 := ⟨mx_in 347 (by decide +kernel) (by decide +kernel), my_X7_tick, mx_in 348 (by decide +kernel) (by decide +kernel), mx_in 349 (by decide +kernel) (by decide +kernel), _, _, rfl⟩
theorem my_X7_isStep : mx_y yX7_isStep cX7_isStep 1 (some .boolean) 1 := ⟨mx_in 353 (by decide +kernel) (by decide +kernel), mx_in 54 (by decide +kernel) (by decide +kernel), by decide +kernel, by decide⟩
theorem cl_X7_93 : mx_cS RX7 93 yX7_isStep cX7_isStep 1 (some .boolean) 1 := ⟨mx_in 351 (by decide +kernel) (by decide +kernel), my_X7_isStep, mx_in 352 (by decide +kernel) (by decide +kernel)⟩
theorem my_X3_passTick : mx_y yX3_passTick cX3_passTick 3 (some .int) 1 := ⟨mx_in 357 (by decide +kernel) (by decide +kernel), mx_in 55 (by decide +kernel) (by decide +kernel), by decide +kernel, by decide⟩
theorem cl_X7_99 : mx_cV RX7 99 yX3_passTick cX3_passTick 3 (some .int) 1 3 := ⟨mx_in 354 (by decide +kernel) (by decide +kernel), my_X3_passTick, mx_in 355 (by decide +kernel) (by decide +kernel), mx_in 356 (by decide +kernel) (by decide +kernel), _, _, rfl⟩
theorem cl_X3_62 : mx_cN RX3 62 yX7_isColumn cX7_isColumn 1 (some .boolean) 1 := ⟨⟨RX7, List.mem_filter.mpr ⟨List.mem_of_getElem? (i := 305) (by decide +kernel), rfl⟩⟩, my_X7_isColumn, mx_in 286 (by decide +kernel) (by decide +kernel)⟩
theorem my_X3_advance : mx_y yX3_advance cX3_advance 2 none 0 := ⟨mx_in 362 (by decide +kernel) (by decide +kernel), mx_in 55 (by decide +kernel) (by decide +kernel), by decide +kernel, by decide⟩
theorem cl_X3_66 : mx_cV RX3 66 yX3_advance cX3_advance 2 none 0 3 := ⟨mx_in 359 (by decide +kernel) (by decide +kernel), my_X3_advance, mx_in 360 (by decide +kernel) (by decide +kernel), mx_in 361 (by decide +kernel) (by decide +kernel), _, _, rfl⟩
theorem my_X0_fall : mx_y yX0_fall cX0_fall 4 (some .int) 1 := ⟨mx_in 366 (by decide +kernel) (by decide +kernel), mx_in 57 (by decide +kernel) (by decide +kernel), by decide +kernel, by decide⟩
theorem cl_X3_77 : mx_cV RX3 77 yX0_fall cX0_fall 4 (some .int) 1 0 := ⟨mx_in 363 (by decide +kernel) (by decide +kernel), my_X0_fall, mx_in 364 (by decide +kernel) (by decide +kernel), mx_in 365 (by decide +kernel) (by decide +kernel), _, _, rfl⟩
theorem cl_X0_36 : mx_cN RX0 36 yX7_isColumn cX7_isColumn 1 (some .boolean) 1 := ⟨⟨RX7, List.mem_filter.mpr ⟨List.mem_of_getElem? (i := 314) (by decide +kernel), rfl⟩⟩, my_X7_isColumn, mx_in 286 (by decide +kernel) (by decide +kernel)⟩
theorem my_X0_keepOnly : mx_y yX0_keepOnly cX0_keepOnly 3 (some .int) 1 := ⟨mx_in 371 (by decide +kernel) (by decide +kernel), mx_in 57 (by decide +kernel) (by decide +kernel), by decide +kernel, by decide⟩
theorem cl_X0_40 : mx_cV RX0 40 yX0_keepOnly cX0_keepOnly 3 (some .int) 1 0 := ⟨mx_in 368 (by decide +kernel) (by decide +kernel), my_X0_keepOnly, mx_in 369 (by decide +kernel) (by decide +kernel), mx_in 370 (by decide +kernel) (by decide +kernel), _, _, rfl⟩
theorem my_X2_firesAt : mx_y yX2_firesAt cX2_firesAt 4 (some .boolean) 2 := ⟨mx_in 375 (by decide +kernel) (by decide +kernel), mx_in 56 (by decide +kernel) (by decide +kernel), by decide +kernel, by decide⟩
theorem cl_X3_84 : mx_cV RX3 84 yX2_firesAt cX2_firesAt 4 (some .boolean) 2 2 := ⟨mx_in 372 (by decide +kernel) (by decide +kernel), my_X2_firesAt, mx_in 373 (by decide +kernel) (by decide +kernel), mx_in 374 (by decide +kernel) (by decide +kernel), _, _, rfl⟩
theorem my_X3_fire : mx_y yX3_fire cX3_fire 4 none 2 := ⟨mx_in 379 (by decide +kernel) (by decide +kernel), mx_in 55 (by decide +kernel) (by decide +kernel), by decide +kernel, by decide⟩
theorem cl_X3_94 : mx_cV RX3 94 yX3_fire cX3_fire 4 none 2 3 := ⟨mx_in 376 (by decide +kernel) (by decide +kernel), my_X3_fire, mx_in 378 (by decide +kernel) (by decide +kernel), mx_in 3 (by decide +kernel) (by decide +kernel), _, _, rfl⟩
theorem my_X3_shoot : mx_y yX3_shoot cX3_shoot 4 none 3 := ⟨mx_in 383 (by decide +kernel) (by decide +kernel), mx_in 55 (by decide +kernel) (by decide +kernel), by decide +kernel, by decide⟩
theorem cl_X3_98 : mx_cV RX3 98 yX3_shoot cX3_shoot 4 none 3 3 := ⟨mx_in 380 (by decide +kernel) (by decide +kernel), my_X3_shoot, mx_in 382 (by decide +kernel) (by decide +kernel), mx_in 4 (by decide +kernel) (by decide +kernel), _, _, rfl⟩
theorem my_X0_add : mx_y yX0_add cX0_add 4 (some .boolean) 3 := ⟨mx_in 387 (by decide +kernel) (by decide +kernel), mx_in 57 (by decide +kernel) (by decide +kernel), by decide +kernel, by decide⟩
theorem cl_X3_108 : mx_cV RX3 108 yX0_add cX0_add 4 (some .boolean) 3 0 := ⟨mx_in 384 (by decide +kernel) (by decide +kernel), my_X0_add, mx_in 385 (by decide +kernel) (by decide +kernel), mx_in 386 (by decide +kernel) (by decide +kernel), _, _, rfl⟩
theorem my_J6_compare_7cf53 : mx_y yJ6_compare_7cf53 cJ6_compare_7cf53 2 (some .int) 2 := ⟨mx_in 390 (by decide +kernel) (by decide +kernel), mx_in 64 (by decide +kernel) (by decide +kernel), by decide +kernel, by decide⟩
theorem cl_X3_102 : mx_cS RX3 102 yJ6_compare_7cf53 cJ6_compare_7cf53 2 (some .int) 2 := ⟨mx_in 388 (by decide +kernel) (by decide +kernel), my_J6_compare_7cf53, mx_in 389 (by decide +kernel) (by decide +kernel)⟩
theorem my_X3_takeHits : mx_y yX3_takeHits cX3_takeHits 2 (some .int) 0 := ⟨mx_in 394 (by decide +kernel) (by decide +kernel), mx_in 55 (by decide +kernel) (by decide +kernel), by decide +kernel, by decide⟩
theorem cl_X3_69 : mx_cV RX3 69 yX3_takeHits cX3_takeHits 2 (some .int) 0 3 := ⟨mx_in 391 (by decide +kernel) (by decide +kernel), my_X3_takeHits, mx_in 393 (by decide +kernel) (by decide +kernel), mx_in 5 (by decide +kernel) (by decide +kernel), _, _, rfl⟩
theorem my_X0_takeAround : mx_y yX0_takeAround cX0_takeAround 6 (some .int) 2 := ⟨mx_in 398 (by decide +kernel) (by decide +kernel), mx_in 57 (by decide +kernel) (by decide +kernel), by decide +kernel, by decide⟩
theorem cl_X3_112 : mx_cV RX3 112 yX0_takeAround cX0_takeAround 6 (some .int) 2 0 := ⟨mx_in 395 (by decide +kernel) (by decide +kernel), my_X0_takeAround, mx_in 396 (by decide +kernel) (by decide +kernel), mx_in 397 (by decide +kernel) (by decide +kernel), _, _, rfl⟩
theorem my_J9_abs_0f7a4 : mx_y yJ9_abs_0f7a4 cJ9_abs_0f7a4 1 (some .int) 1 := ⟨mx_in 401 (by decide +kernel) (by decide +kernel), mx_in 65 (by decide +kernel) (by decide +kernel), by decide +kernel, by decide⟩
theorem cl_X0_44 : mx_cS RX0 44 yJ9_abs_0f7a4 cJ9_abs_0f7a4 1 (some .int) 1 := ⟨mx_in 399 (by decide +kernel) (by decide +kernel), my_J9_abs_0f7a4, mx_in 400 (by decide +kernel) (by decide +kernel)⟩
theorem my_X0_grazeBeside : mx_y yX0_grazeBeside cX0_grazeBeside 4 (some .int) 1 := ⟨mx_in 405 (by decide +kernel) (by decide +kernel), mx_in 57 (by decide +kernel) (by decide +kernel), by decide +kernel, by decide⟩
theorem cl_X3_73 : mx_cV RX3 73 yX0_grazeBeside cX0_grazeBeside 4 (some .int) 1 0 := ⟨mx_in 402 (by decide +kernel) (by decide +kernel), my_X0_grazeBeside, mx_in 403 (by decide +kernel) (by decide +kernel), mx_in 404 (by decide +kernel) (by decide +kernel), _, _, rfl⟩
theorem my_X0_isBeside : mx_y yX0_isBeside cX0_isBeside 4 (some .boolean) 2 := ⟨mx_in 409 (by decide +kernel) (by decide +kernel), mx_in 57 (by decide +kernel) (by decide +kernel), by decide +kernel, by decide⟩
theorem cl_X0_49 : mx_cV RX0 49 yX0_isBeside cX0_isBeside 4 (some .boolean) 2 0 := ⟨mx_in 406 (by decide +kernel) (by decide +kernel), my_X0_isBeside, mx_in 408 (by decide +kernel) (by decide +kernel), mx_in 6 (by decide +kernel) (by decide +kernel), _, _, rfl⟩
theorem my_X7_bomb : mx_y yX7_bomb cX7_bomb 1 (some .int) 0 := ⟨mx_in 413 (by decide +kernel) (by decide +kernel), mx_in 54 (by decide +kernel) (by decide +kernel), by decide +kernel, by decide⟩
theorem cl_L_27 : mx_cV RL 27 yX7_bomb cX7_bomb 1 (some .int) 0 7 := ⟨mx_in 410 (by decide +kernel) (by decide +kernel), my_X7_bomb, mx_in 411 (by decide +kernel) (by decide +kernel), mx_in 412 (by decide +kernel) (by decide +kernel), _, _, rfl⟩
theorem my_X3_canBomb : mx_y yX3_canBomb cX3_canBomb 1 (some .boolean) 0 := ⟨mx_in 417 (by decide +kernel) (by decide +kernel), mx_in 55 (by decide +kernel) (by decide +kernel), by decide +kernel, by decide⟩
theorem cl_X7_103 : mx_cV RX7 103 yX3_canBomb cX3_canBomb 1 (some .boolean) 0 3 := ⟨mx_in 414 (by decide +kernel) (by decide +kernel), my_X3_canBomb, mx_in 415 (by decide +kernel) (by decide +kernel), mx_in 416 (by decide +kernel) (by decide +kernel), _, _, rfl⟩
theorem my_X3_throwBomb : mx_y yX3_throwBomb cX3_throwBomb 2 (some .int) 0 := ⟨mx_in 421 (by decide +kernel) (by decide +kernel), mx_in 55 (by decide +kernel) (by decide +kernel), by decide +kernel, by decide⟩
theorem cl_X7_106 : mx_cV RX7 106 yX3_throwBomb cX3_throwBomb 2 (some .int) 0 3 := ⟨mx_in 418 (by decide +kernel) (by decide +kernel), my_X3_throwBomb, mx_in 419 (by decide +kernel) (by decide +kernel), mx_in 420 (by decide +kernel) (by decide +kernel), _, _, rfl⟩
theorem my_X7_clearField : mx_y yX7_clearField cX7_clearField 1 (some .int) 0 := ⟨mx_in 425 (by decide +kernel) (by decide +kernel), mx_in 54 (by decide +kernel) (by decide +kernel), by decide +kernel, by decide⟩
theorem cl_L_32 : mx_cV RL 32 yX7_clearField cX7_clearField 1 (some .int) 0 7 := ⟨mx_in 422 (by decide +kernel) (by decide +kernel), my_X7_clearField, mx_in 423 (by decide +kernel) (by decide +kernel), mx_in 424 (by decide +kernel) (by decide +kernel), _, _, rfl⟩
theorem my_X3_sweep : mx_y yX3_sweep cX3_sweep 2 (some .int) 0 := ⟨mx_in 429 (by decide +kernel) (by decide +kernel), mx_in 55 (by decide +kernel) (by decide +kernel), by decide +kernel, by decide⟩
theorem cl_X7_110 : mx_cV RX7 110 yX3_sweep cX3_sweep 2 (some .int) 0 3 := ⟨mx_in 426 (by decide +kernel) (by decide +kernel), my_X3_sweep, mx_in 427 (by decide +kernel) (by decide +kernel), mx_in 428 (by decide +kernel) (by decide +kernel), _, _, rfl⟩
theorem cl_X3_115 : mx_cV RX3 115 yX0_keepOnly cX0_keepOnly 3 (some .int) 1 0 := ⟨mx_in 430 (by decide +kernel) (by decide +kernel), my_X0_keepOnly, mx_in 369 (by decide +kernel) (by decide +kernel), mx_in 370 (by decide +kernel) (by decide +kernel), _, _, rfl⟩
theorem my_X7_set : mx_y yX7_set cX7_set 4 (some .int) 2 := ⟨mx_in 434 (by decide +kernel) (by decide +kernel), mx_in 54 (by decide +kernel) (by decide +kernel), by decide +kernel, by decide⟩
theorem cl_L_36 : mx_cV RL 36 yX7_set cX7_set 4 (some .int) 2 7 := ⟨mx_in 431 (by decide +kernel) (by decide +kernel), my_X7_set, mx_in 432 (by decide +kernel) (by decide +kernel), mx_in 433 (by decide +kernel) (by decide +kernel), _, _, rfl⟩
theorem my_X7_isSetting : mx_y yX7_isSetting cX7_isSetting 2 (some .boolean) 2 := ⟨mx_in 437 (by decide +kernel) (by decide +kernel), mx_in 54 (by decide +kernel) (by decide +kernel), by decide +kernel, by decide⟩
theorem cl_X7_113 : mx_cS RX7 113 yX7_isSetting cX7_isSetting 2 (some .boolean) 2 := ⟨mx_in 435 (by decide +kernel) (by decide +kernel), my_X7_isSetting, mx_in 436 (by decide +kernel) (by decide +kernel)⟩
theorem my_X7_append : mx_y yX7_append cX7_append 2 (some .int) 1 := ⟨mx_in 441 (by decide +kernel) (by decide +kernel), mx_in 54 (by decide +kernel) (by decide +kernel), by decide +kernel, by decide⟩
theorem cl_L_41 : mx_cV RL 41 yX7_append cX7_append 2 (some .int) 1 7 := ⟨mx_in 438 (by decide +kernel) (by decide +kernel), my_X7_append, mx_in 439 (by decide +kernel) (by decide +kernel), mx_in 440 (by decide +kernel) (by decide +kernel), _, _, rfl⟩
theorem my_X6_isFull : mx_y yX6_isFull cX6_isFull 1 (some .boolean) 0 := ⟨mx_in 445 (by decide +kernel) (by decide +kernel), mx_in 59 (by decide +kernel) (by decide +kernel), by decide +kernel, by decide⟩
theorem cl_X7_121 : mx_cV RX7 121 yX6_isFull cX6_isFull 1 (some .boolean) 0 6 := ⟨mx_in 442 (by decide +kernel) (by decide +kernel), my_X6_isFull, mx_in 443 (by decide +kernel) (by decide +kernel), mx_in 444 (by decide +kernel) (by decide +kernel), _, _, rfl⟩
theorem my_X6_add : mx_y yX6_add cX6_add 2 none 1 := ⟨mx_in 449 (by decide +kernel) (by decide +kernel), mx_in 59 (by decide +kernel) (by decide +kernel), by decide +kernel, by decide⟩
theorem cl_X7_122 : mx_cV RX7 122 yX6_add cX6_add 2 none 1 6 := ⟨mx_in 446 (by decide +kernel) (by decide +kernel), my_X6_add, mx_in 447 (by decide +kernel) (by decide +kernel), mx_in 448 (by decide +kernel) (by decide +kernel), _, _, rfl⟩
theorem cl_X6_19 : mx_cV RX6 19 yX6_isFull cX6_isFull 1 (some .boolean) 0 6 := ⟨mx_in 450 (by decide +kernel) (by decide +kernel), my_X6_isFull, mx_in 443 (by decide +kernel) (by decide +kernel), mx_in 444 (by decide +kernel) (by decide +kernel), _, _, rfl⟩
theorem my_X7_clear : mx_y yX7_clear cX7_clear 2 (some .int) 0 := ⟨mx_in 454 (by decide +kernel) (by decide +kernel), mx_in 54 (by decide +kernel) (by decide +kernel), by decide +kernel, by decide⟩
theorem cl_L_45 : mx_cV RL 45 yX7_clear cX7_clear 2 (some .int) 0 7 := ⟨mx_in 451 (by decide +kernel) (by decide +kernel), my_X7_clear, mx_in 452 (by decide +kernel) (by decide +kernel), mx_in 453 (by decide +kernel) (by decide +kernel), _, _, rfl⟩
theorem my_X7_fault : mx_y yX7_fault cX7_fault 2 (some .int) 1 := ⟨mx_in 458 (by decide +kernel) (by decide +kernel), mx_in 54 (by decide +kernel) (by decide +kernel), by decide +kernel, by decide⟩
theorem cl_L_49 : mx_cV RL 49 yX7_fault cX7_fault 2 (some .int) 1 7 := ⟨mx_in 455 (by decide +kernel) (by decide +kernel), my_X7_fault, mx_in 456 (by decide +kernel) (by decide +kernel), mx_in 457 (by decide +kernel) (by decide +kernel), _, _, rfl⟩
theorem my_X1_faultIn : mx_y yX1_faultIn cX1_faultIn 3 (some .int) 1 := ⟨mx_in 462 (by decide +kernel) (by decide +kernel), mx_in 60 (by decide +kernel) (by decide +kernel), by decide +kernel, by decide⟩
theorem cl_X7_127 : mx_cV RX7 127 yX1_faultIn cX1_faultIn 3 (some .int) 1 1 := ⟨mx_in 459 (by decide +kernel) (by decide +kernel), my_X1_faultIn, mx_in 460 (by decide +kernel) (by decide +kernel), mx_in 461 (by decide +kernel) (by decide +kernel), _, _, rfl⟩
theorem my_X1_takes : mx_y yX1_takes cX1_takes 2 (some .boolean) 1 := ⟨mx_in 466 (by decide +kernel) (by decide +kernel), mx_in 60 (by decide +kernel) (by decide +kernel), by decide +kernel, by decide⟩
theorem cl_X1_40 : mx_cV RX1 40 yX1_takes cX1_takes 2 (some .boolean) 1 1 := ⟨mx_in 463 (by decide +kernel) (by decide +kernel), my_X1_takes, mx_in 465 (by decide +kernel) (by decide +kernel), mx_in 7 (by decide +kernel) (by decide +kernel), _, _, rfl⟩
theorem my_X1_takesColumn : mx_y yX1_takesColumn cX1_takesColumn 2 (some .boolean) 1 := ⟨mx_in 470 (by decide +kernel) (by decide +kernel), mx_in 60 (by decide +kernel) (by decide +kernel), by decide +kernel, by decide⟩
theorem cl_X1_44 : mx_cV RX1 44 yX1_takesColumn cX1_takesColumn 2 (some .boolean) 1 1 := ⟨mx_in 467 (by decide +kernel) (by decide +kernel), my_X1_takesColumn, mx_in 469 (by decide +kernel) (by decide +kernel), mx_in 8 (by decide +kernel) (by decide +kernel), _, _, rfl⟩
theorem cl_X1_63 : mx_cN RX1 63 yX7_isColumn cX7_isColumn 1 (some .boolean) 1 := ⟨⟨RX7, List.mem_filter.mpr ⟨List.mem_of_getElem? (i := 418) (by decide +kernel), rfl⟩⟩, my_X7_isColumn, mx_in 286 (by decide +kernel) (by decide +kernel)⟩
theorem my_X1_patternOf : mx_y yX1_patternOf cX1_patternOf 1 (some .int) 1 := ⟨mx_in 474 (by decide +kernel) (by decide +kernel), mx_in 60 (by decide +kernel) (by decide +kernel), by decide +kernel, by decide⟩
theorem cl_X1_47 : mx_cS RX1 47 yX1_patternOf cX1_patternOf 1 (some .int) 1 := ⟨mx_in 472 (by decide +kernel) (by decide +kernel), my_X1_patternOf, mx_in 473 (by decide +kernel) (by decide +kernel)⟩
theorem my_X1_takesPattern : mx_y yX1_takesPattern cX1_takesPattern 2 (some .boolean) 1 := ⟨mx_in 478 (by decide +kernel) (by decide +kernel), mx_in 60 (by decide +kernel) (by decide +kernel), by decide +kernel, by decide⟩
theorem cl_X1_51 : mx_cV RX1 51 yX1_takesPattern cX1_takesPattern 2 (some .boolean) 1 1 := ⟨mx_in 475 (by decide +kernel) (by decide +kernel), my_X1_takesPattern, mx_in 477 (by decide +kernel) (by decide +kernel), mx_in 9 (by decide +kernel) (by decide +kernel), _, _, rfl⟩
theorem cl_X1_66 : mx_cN RX1 66 yX7_isPattern cX7_isPattern 1 (some .boolean) 1 := ⟨⟨RX7, List.mem_filter.mpr ⟨List.mem_of_getElem? (i := 426) (by decide +kernel), rfl⟩⟩, my_X7_isPattern, mx_in 289 (by decide +kernel) (by decide +kernel)⟩
theorem my_X1_takesPeriod : mx_y yX1_takesPeriod cX1_takesPeriod 2 (some .boolean) 1 := ⟨mx_in 483 (by decide +kernel) (by decide +kernel), mx_in 60 (by decide +kernel) (by decide +kernel), by decide +kernel, by decide⟩
theorem cl_X1_54 : mx_cV RX1 54 yX1_takesPeriod cX1_takesPeriod 2 (some .boolean) 1 1 := ⟨mx_in 480 (by decide +kernel) (by decide +kernel), my_X1_takesPeriod, mx_in 482 (by decide +kernel) (by decide +kernel), mx_in 10 (by decide +kernel) (by decide +kernel), _, _, rfl⟩
theorem cl_X1_69 : mx_cN RX1 69 yX7_isPeriod cX7_isPeriod 1 (some .boolean) 1 := ⟨⟨RX7, List.mem_filter.mpr ⟨List.mem_of_getElem? (i := 431) (by decide +kernel), rfl⟩⟩, my_X7_isPeriod, mx_in 292 (by decide +kernel) (by decide +kernel)⟩
theorem cl_X1_72 : mx_cV RX1 72 yX2_add cX2_add 5 none 4 2 := ⟨mx_in 485 (by decide +kernel) (by decide +kernel), my_X2_add, mx_in 330 (by decide +kernel) (by decide +kernel), mx_in 331 (by decide +kernel) (by decide +kernel), _, _, rfl⟩
theorem my_X1_takesPhase : mx_y yX1_takesPhase cX1_takesPhase 3 (some .boolean) 1 := ⟨mx_in 489 (by decide +kernel) (by decide +kernel), mx_in 60 (by decide +kernel) (by decide +kernel), by decide +kernel, by decide⟩
theorem cl_X1_57 : mx_cV RX1 57 yX1_takesPhase cX1_takesPhase 3 (some .boolean) 1 1 := ⟨mx_in 486 (by decide +kernel) (by decide +kernel), my_X1_takesPhase, mx_in 488 (by decide +kernel) (by decide +kernel), mx_in 11 (by decide +kernel) (by decide +kernel), _, _, rfl⟩
theorem my_X1_takesMark : mx_y yX1_takesMark cX1_takesMark 2 (some .boolean) 1 := ⟨mx_in 493 (by decide +kernel) (by decide +kernel), mx_in 60 (by decide +kernel) (by decide +kernel), by decide +kernel, by decide⟩
theorem cl_X1_60 : mx_cV RX1 60 yX1_takesMark cX1_takesMark 2 (some .boolean) 1 1 := ⟨mx_in 490 (by decide +kernel) (by decide +kernel), my_X1_takesMark, mx_in 492 (by decide +kernel) (by decide +kernel), mx_in 12 (by decide +kernel) (by decide +kernel), _, _, rfl⟩
theorem cl_X1_82 : mx_cV RX1 82 yX2_isFull cX2_isFull 1 (some .boolean) 0 2 := ⟨mx_in 494 (by decide +kernel) (by decide +kernel), my_X2_isFull, mx_in 295 (by decide +kernel) (by decide +kernel), mx_in 296 (by decide +kernel) (by decide +kernel), _, _, rfl⟩
theorem my_X6_faultInSteps : mx_y yX6_faultInSteps cX6_faultInSteps 2 (some .int) 0 := ⟨mx_in 498 (by decide +kernel) (by decide +kernel), mx_in 59 (by decide +kernel) (by decide +kernel), by decide +kernel, by decide⟩
theorem cl_X7_131 : mx_cV RX7 131 yX6_faultInSteps cX6_faultInSteps 2 (some .int) 0 6 := ⟨mx_in 495 (by decide +kernel) (by decide +kernel), my_X6_faultInSteps, mx_in 496 (by decide +kernel) (by decide +kernel), mx_in 497 (by decide +kernel) (by decide +kernel), _, _, rfl⟩
theorem my_X6_isStepSign : mx_y yX6_isStepSign cX6_isStepSign 1 (some .boolean) 1 := ⟨mx_in 501 (by decide +kernel) (by decide +kernel), mx_in 59 (by decide +kernel) (by decide +kernel), by decide +kernel, by decide⟩
theorem cl_X6_23 : mx_cS RX6 23 yX6_isStepSign cX6_isStepSign 1 (some .boolean) 1 := ⟨mx_in 499 (by decide +kernel) (by decide +kernel), my_X6_isStepSign, mx_in 500 (by decide +kernel) (by decide +kernel)⟩
theorem my_X7_hang : mx_y yX7_hang cX7_hang 1 (some .int) 0 := ⟨mx_in 505 (by decide +kernel) (by decide +kernel), mx_in 54 (by decide +kernel) (by decide +kernel), by decide +kernel, by decide⟩
theorem cl_L_53 : mx_cV RL 53 yX7_hang cX7_hang 1 (some .int) 0 7 := ⟨mx_in 502 (by decide +kernel) (by decide +kernel), my_X7_hang, mx_in 503 (by decide +kernel) (by decide +kernel), mx_in 504 (by decide +kernel) (by decide +kernel), _, _, rfl⟩
theorem cl_X7_135 : mx_cV RX7 135 yX2_copyFrom cX2_copyFrom 3 none 1 2 := ⟨mx_in 506 (by decide +kernel) (by decide +kernel), my_X2_copyFrom, mx_in 311 (by decide +kernel) (by decide +kernel), mx_in 312 (by decide +kernel) (by decide +kernel), _, _, rfl⟩
theorem my_X7_play : mx_y yX7_play cX7_play 2 (some .int) 0 := ⟨mx_in 510 (by decide +kernel) (by decide +kernel), mx_in 54 (by decide +kernel) (by decide +kernel), by decide +kernel, by decide⟩
theorem cl_L_57 : mx_cV RL 57 yX7_play cX7_play 2 (some .int) 0 7 := ⟨mx_in 507 (by decide +kernel) (by decide +kernel), my_X7_play, mx_in 508 (by decide +kernel) (by decide +kernel), mx_in 509 (by decide +kernel) (by decide +kernel), _, _, rfl⟩
theorem my_X7_playOne : mx_y yX7_playOne cX7_playOne 2 (some .boolean) 1 := ⟨mx_in 514 (by decide +kernel) (by decide +kernel), mx_in 54 (by decide +kernel) (by decide +kernel), by decide +kernel, by decide⟩
theorem cl_X7_142 : mx_cV RX7 142 yX7_playOne cX7_playOne 2 (some .boolean) 1 7 := ⟨mx_in 511 (by decide +kernel) (by decide +kernel), my_X7_playOne, mx_in 513 (by decide +kernel) (by decide +kernel), mx_in 13 (by decide +kernel) (by decide +kernel), _, _, rfl⟩
theorem my_X7_emitterOf : mx_y yX7_emitterOf cX7_emitterOf 3 (some .int) 2 := ⟨mx_in 518 (by decide +kernel) (by decide +kernel), mx_in 54 (by decide +kernel) (by decide +kernel), by decide +kernel, by decide⟩
theorem cl_L_61 : mx_cV RL 61 yX7_emitterOf cX7_emitterOf 3 (some .int) 2 7 := ⟨mx_in 515 (by decide +kernel) (by decide +kernel), my_X7_emitterOf, mx_in 516 (by decide +kernel) (by decide +kernel), mx_in 517 (by decide +kernel) (by decide +kernel), _, _, rfl⟩
theorem my_X2_ticksToFire : mx_y yX2_ticksToFire cX2_ticksToFire 4 (some .int) 2 := ⟨mx_in 522 (by decide +kernel) (by decide +kernel), mx_in 56 (by decide +kernel) (by decide +kernel), by decide +kernel, by decide⟩
theorem cl_X7_160 : mx_cV RX7 160 yX2_ticksToFire cX2_ticksToFire 4 (some .int) 2 2 := ⟨mx_in 519 (by decide +kernel) (by decide +kernel), my_X2_ticksToFire, mx_in 520 (by decide +kernel) (by decide +kernel), mx_in 521 (by decide +kernel) (by decide +kernel), _, _, rfl⟩
theorem cl_X2_40 : mx_cV RX2 40 yX2_firesAt cX2_firesAt 4 (some .boolean) 2 2 := ⟨mx_in 523 (by decide +kernel) (by decide +kernel), my_X2_firesAt, mx_in 373 (by decide +kernel) (by decide +kernel), mx_in 374 (by decide +kernel) (by decide +kernel), _, _, rfl⟩
theorem my_X7_bullet : mx_y yX7_bullet cX7_bullet 3 (some .int) 2 := ⟨mx_in 527 (by decide +kernel) (by decide +kernel), mx_in 54 (by decide +kernel) (by decide +kernel), by decide +kernel, by decide⟩
theorem cl_L_65 : mx_cV RL 65 yX7_bullet cX7_bullet 3 (some .int) 2 7 := ⟨mx_in 524 (by decide +kernel) (by decide +kernel), my_X7_bullet, mx_in 525 (by decide +kernel) (by decide +kernel), mx_in 526 (by decide +kernel) (by decide +kernel), _, _, rfl⟩
theorem my_X0_has : mx_y yX0_has cX0_has 2 (some .boolean) 1 := ⟨mx_in 531 (by decide +kernel) (by decide +kernel), mx_in 57 (by decide +kernel) (by decide +kernel), by decide +kernel, by decide⟩
theorem cl_X7_168 : mx_cV RX7 168 yX0_has cX0_has 2 (some .boolean) 1 0 := ⟨mx_in 528 (by decide +kernel) (by decide +kernel), my_X0_has, mx_in 529 (by decide +kernel) (by decide +kernel), mx_in 530 (by decide +kernel) (by decide +kernel), _, _, rfl⟩
theorem my_X7_at : mx_y yX7_at cX7_at 3 (some .int) 2 := ⟨mx_in 535 (by decide +kernel) (by decide +kernel), mx_in 54 (by decide +kernel) (by decide +kernel), by decide +kernel, by decide⟩
theorem cl_L_69 : mx_cV RL 69 yX7_at cX7_at 3 (some .int) 2 7 := ⟨mx_in 532 (by decide +kernel) (by decide +kernel), my_X7_at, mx_in 533 (by decide +kernel) (by decide +kernel), mx_in 534 (by decide +kernel) (by decide +kernel), _, _, rfl⟩
theorem my_X0_countIn : mx_y yX0_countIn cX0_countIn 5 (some .int) 2 := ⟨mx_in 539 (by decide +kernel) (by decide +kernel), mx_in 57 (by decide +kernel) (by decide +kernel), by decide +kernel, by decide⟩
theorem cl_X7_185 : mx_cV RX7 185 yX0_countIn cX0_countIn 5 (some .int) 2 0 := ⟨mx_in 536 (by decide +kernel) (by decide +kernel), my_X0_countIn, mx_in 537 (by decide +kernel) (by decide +kernel), mx_in 538 (by decide +kernel) (by decide +kernel), _, _, rfl⟩
theorem my_X7_count : mx_y yX7_count cX7_count 2 (some .int) 1 := ⟨mx_in 543 (by decide +kernel) (by decide +kernel), mx_in 54 (by decide +kernel) (by decide +kernel), by decide +kernel, by decide⟩
theorem cl_L_73 : mx_cV RL 73 yX7_count cX7_count 2 (some .int) 1 7 := ⟨mx_in 540 (by decide +kernel) (by decide +kernel), my_X7_count, mx_in 541 (by decide +kernel) (by decide +kernel), mx_in 542 (by decide +kernel) (by decide +kernel), _, _, rfl⟩
theorem my_X7_free : mx_y yX7_free cX7_free 2 (some .int) 1 := ⟨mx_in 547 (by decide +kernel) (by decide +kernel), mx_in 54 (by decide +kernel) (by decide +kernel), by decide +kernel, by decide⟩
theorem cl_L_77 : mx_cV RL 77 yX7_free cX7_free 2 (some .int) 1 7 := ⟨mx_in 544 (by decide +kernel) (by decide +kernel), my_X7_free, mx_in 545 (by decide +kernel) (by decide +kernel), mx_in 546 (by decide +kernel) (by decide +kernel), _, _, rfl⟩
theorem my_X7_foresee : mx_y yX7_foresee cX7_foresee 2 none 1 := ⟨mx_in 551 (by decide +kernel) (by decide +kernel), mx_in 54 (by decide +kernel) (by decide +kernel), by decide +kernel, by decide⟩
theorem cl_X7_202 : mx_cV RX7 202 yX7_foresee cX7_foresee 2 none 1 7 := ⟨mx_in 548 (by decide +kernel) (by decide +kernel), my_X7_foresee, mx_in 550 (by decide +kernel) (by decide +kernel), mx_in 14 (by decide +kernel) (by decide +kernel), _, _, rfl⟩
theorem cl_X7_236 : mx_cV RX7 236 yX3_copyFrom cX3_copyFrom 2 none 1 3 := ⟨mx_in 552 (by decide +kernel) (by decide +kernel), my_X3_copyFrom, mx_in 307 (by decide +kernel) (by decide +kernel), mx_in 308 (by decide +kernel) (by decide +kernel), _, _, rfl⟩
theorem my_X5_foresee : mx_y yX5_foresee cX5_foresee 4 none 2 := ⟨mx_in 556 (by decide +kernel) (by decide +kernel), mx_in 61 (by decide +kernel) (by decide +kernel), by decide +kernel, by decide⟩
theorem cl_X7_238 : mx_cV RX7 238 yX5_foresee cX5_foresee 4 none 2 5 := ⟨mx_in 553 (by decide +kernel) (by decide +kernel), my_X5_foresee, mx_in 554 (by decide +kernel) (by decide +kernel), mx_in 555 (by decide +kernel) (by decide +kernel), _, _, rfl⟩
theorem my_X0_freeColumns : mx_y yX0_freeColumns cX0_freeColumns 3 (some .int) 0 := ⟨mx_in 560 (by decide +kernel) (by decide +kernel), mx_in 57 (by decide +kernel) (by decide +kernel), by decide +kernel, by decide⟩
theorem cl_X5_26 : mx_cV RX5 26 yX0_freeColumns cX0_freeColumns 3 (some .int) 0 0 := ⟨mx_in 557 (by decide +kernel) (by decide +kernel), my_X0_freeColumns, mx_in 558 (by decide +kernel) (by decide +kernel), mx_in 559 (by decide +kernel) (by decide +kernel), _, _, rfl⟩
theorem cl_X5_32 : mx_cV RX5 32 yX3_advance cX3_advance 2 none 0 3 := ⟨mx_in 561 (by decide +kernel) (by decide +kernel), my_X3_advance, mx_in 360 (by decide +kernel) (by decide +kernel), mx_in 361 (by decide +kernel) (by decide +kernel), _, _, rfl⟩
theorem my_X7_lane : mx_y yX7_lane cX7_lane 3 (some .int) 2 := ⟨mx_in 565 (by decide +kernel) (by decide +kernel), mx_in 54 (by decide +kernel) (by decide +kernel), by decide +kernel, by decide⟩
theorem cl_L_81 : mx_cV RL 81 yX7_lane cX7_lane 3 (some .int) 2 7 := ⟨mx_in 562 (by decide +kernel) (by decide +kernel), my_X7_lane, mx_in 563 (by decide +kernel) (by decide +kernel), mx_in 564 (by decide +kernel) (by decide +kernel), _, _, rfl⟩
theorem my_X5_countLanes : mx_y yX5_countLanes cX5_countLanes 4 (some .int) 1 := ⟨mx_in 569 (by decide +kernel) (by decide +kernel), mx_in 61 (by decide +kernel) (by decide +kernel), by decide +kernel, by decide⟩
theorem cl_X7_208 : mx_cV RX7 208 yX5_countLanes cX5_countLanes 4 (some .int) 1 5 := ⟨mx_in 566 (by decide +kernel) (by decide +kernel), my_X5_countLanes, mx_in 567 (by decide +kernel) (by decide +kernel), mx_in 568 (by decide +kernel) (by decide +kernel), _, _, rfl⟩
theorem my_X5_isFree : mx_y yX5_isFree cX5_isFree 3 (some .boolean) 2 := ⟨mx_in 573 (by decide +kernel) (by decide +kernel), mx_in 61 (by decide +kernel) (by decide +kernel), by decide +kernel, by decide⟩
theorem cl_X5_45 : mx_cV RX5 45 yX5_isFree cX5_isFree 3 (some .boolean) 2 5 := ⟨mx_in 570 (by decide +kernel) (by decide +kernel), my_X5_isFree, mx_in 572 (by decide +kernel) (by decide +kernel), mx_in 15 (by decide +kernel) (by decide +kernel), _, _, rfl⟩
theorem cl_X5_41 : mx_cN RX5 41 yX7_isColumn cX7_isColumn 1 (some .boolean) 1 := ⟨⟨RX7, List.mem_filter.mpr ⟨List.mem_of_getElem? (i := 521) (by decide +kernel), rfl⟩⟩, my_X7_isColumn, mx_in 286 (by decide +kernel) (by decide +kernel)⟩
theorem my_X5_widest : mx_y yX5_widest cX5_widest 4 (some .int) 1 := ⟨mx_in 578 (by decide +kernel) (by decide +kernel), mx_in 61 (by decide +kernel) (by decide +kernel), by decide +kernel, by decide⟩
theorem cl_X7_211 : mx_cV RX7 211 yX5_widest cX5_widest 4 (some .int) 1 5 := ⟨mx_in 575 (by decide +kernel) (by decide +kernel), my_X5_widest, mx_in 576 (by decide +kernel) (by decide +kernel), mx_in 577 (by decide +kernel) (by decide +kernel), _, _, rfl⟩
theorem my_X5_widthFrom : mx_y yX5_widthFrom cX5_widthFrom 4 (some .int) 2 := ⟨mx_in 582 (by decide +kernel) (by decide +kernel), mx_in 61 (by decide +kernel) (by decide +kernel), by decide +kernel, by decide⟩
theorem cl_X5_49 : mx_cV RX5 49 yX5_widthFrom cX5_widthFrom 4 (some .int) 2 5 := ⟨mx_in 579 (by decide +kernel) (by decide +kernel), my_X5_widthFrom, mx_in 581 (by decide +kernel) (by decide +kernel), mx_in 16 (by decide +kernel) (by decide +kernel), _, _, rfl⟩
theorem my_J9_max_7cf53 : mx_y yJ9_max_7cf53 cJ9_max_7cf53 2 (some .int) 2 := ⟨mx_in 585 (by decide +kernel) (by decide +kernel), mx_in 65 (by decide +kernel) (by decide +kernel), by decide +kernel, by decide⟩
theorem cl_X5_53 : mx_cS RX5 53 yJ9_max_7cf53 cJ9_max_7cf53 2 (some .int) 2 := ⟨mx_in 583 (by decide +kernel) (by decide +kernel), my_J9_max_7cf53, mx_in 584 (by decide +kernel) (by decide +kernel)⟩
theorem my_X5_startOfWidest : mx_y yX5_startOfWidest cX5_startOfWidest 4 (some .int) 1 := ⟨mx_in 589 (by decide +kernel) (by decide +kernel), mx_in 61 (by decide +kernel) (by decide +kernel), by decide +kernel, by decide⟩
theorem cl_X7_214 : mx_cV RX7 214 yX5_startOfWidest cX5_startOfWidest 4 (some .int) 1 5 := ⟨mx_in 586 (by decide +kernel) (by decide +kernel), my_X5_startOfWidest, mx_in 587 (by decide +kernel) (by decide +kernel), mx_in 588 (by decide +kernel) (by decide +kernel), _, _, rfl⟩
theorem cl_X5_58 : mx_cV RX5 58 yX5_widest cX5_widest 4 (some .int) 1 5 := ⟨mx_in 590 (by decide +kernel) (by decide +kernel), my_X5_widest, mx_in 576 (by decide +kernel) (by decide +kernel), mx_in 577 (by decide +kernel) (by decide +kernel), _, _, rfl⟩
theorem my_X7_ends : mx_y yX7_ends cX7_ends 3 (some .int) 2 := ⟨mx_in 594 (by decide +kernel) (by decide +kernel), mx_in 54 (by decide +kernel) (by decide +kernel), by decide +kernel, by decide⟩
theorem cl_L_85 : mx_cV RL 85 yX7_ends cX7_ends 3 (some .int) 2 7 := ⟨mx_in 591 (by decide +kernel) (by decide +kernel), my_X7_ends, mx_in 592 (by decide +kernel) (by decide +kernel), mx_in 593 (by decide +kernel) (by decide +kernel), _, _, rfl⟩
theorem my_X7_isSpan : mx_y yX7_isSpan cX7_isSpan 1 (some .boolean) 1 := ⟨mx_in 597 (by decide +kernel) (by decide +kernel), mx_in 54 (by decide +kernel) (by decide +kernel), by decide +kernel, by decide⟩
theorem cl_X7_217 : mx_cS RX7 217 yX7_isSpan cX7_isSpan 1 (some .boolean) 1 := ⟨mx_in 595 (by decide +kernel) (by decide +kernel), my_X7_isSpan, mx_in 596 (by decide +kernel) (by decide +kernel)⟩
theorem my_X5_endsForwards : mx_y yX5_endsForwards cX5_endsForwards 5 (some .int) 2 := ⟨mx_in 601 (by decide +kernel) (by decide +kernel), mx_in 61 (by decide +kernel) (by decide +kernel), by decide +kernel, by decide⟩
theorem cl_X7_220 : mx_cV RX7 220 yX5_endsForwards cX5_endsForwards 5 (some .int) 2 5 := ⟨mx_in 598 (by decide +kernel) (by decide +kernel), my_X5_endsForwards, mx_in 599 (by decide +kernel) (by decide +kernel), mx_in 600 (by decide +kernel) (by decide +kernel), _, _, rfl⟩
theorem my_X5_spread : mx_y yX5_spread cX5_spread 1 (some .int) 1 := ⟨mx_in 604 (by decide +kernel) (by decide +kernel), mx_in 61 (by decide +kernel) (by decide +kernel), by decide +kernel, by decide⟩
theorem cl_X5_61 : mx_cS RX5 61 yX5_spread cX5_spread 1 (some .int) 1 := ⟨mx_in 602 (by decide +kernel) (by decide +kernel), my_X5_spread, mx_in 603 (by decide +kernel) (by decide +kernel)⟩
theorem my_J6_bitCount_0f7a4 : mx_y yJ6_bitCount_0f7a4 cJ6_bitCount_0f7a4 1 (some .int) 1 := ⟨mx_in 607 (by decide +kernel) (by decide +kernel), mx_in 64 (by decide +kernel) (by decide +kernel), by decide +kernel, by decide⟩
theorem cl_X5_35 : mx_cS RX5 35 yJ6_bitCount_0f7a4 cJ6_bitCount_0f7a4 1 (some .int) 1 := ⟨mx_in 605 (by decide +kernel) (by decide +kernel), my_J6_bitCount_0f7a4, mx_in 606 (by decide +kernel) (by decide +kernel)⟩
theorem my_X5_endsBackwards : mx_y yX5_endsBackwards cX5_endsBackwards 5 (some .int) 2 := ⟨mx_in 614 (by decide +kernel) (by decide +kernel), mx_in 61 (by decide +kernel) (by decide +kernel), by decide +kernel, by decide⟩
theorem cl_X7_223 : mx_cV RX7 223 yX5_endsBackwards cX5_endsBackwards 5 (some .int) 2 5 := ⟨mx_in 611 (by decide +kernel) (by decide +kernel), my_X5_endsBackwards, mx_in 612 (by decide +kernel) (by decide +kernel), mx_in 613 (by decide +kernel) (by decide +kernel), _, _, rfl⟩
theorem my_X5_leadsBack : mx_y yX5_leadsBack cX5_leadsBack 6 (some .boolean) 3 := ⟨mx_in 618 (by decide +kernel) (by decide +kernel), mx_in 61 (by decide +kernel) (by decide +kernel), by decide +kernel, by decide⟩
theorem cl_X5_64 : mx_cV RX5 64 yX5_leadsBack cX5_leadsBack 6 (some .boolean) 3 5 := ⟨mx_in 615 (by decide +kernel) (by decide +kernel), my_X5_leadsBack, mx_in 617 (by decide +kernel) (by decide +kernel), mx_in 17 (by decide +kernel) (by decide +kernel), _, _, rfl⟩
theorem my_X7_way : mx_y yX7_way cX7_way 3 (some .int) 2 := ⟨mx_in 622 (by decide +kernel) (by decide +kernel), mx_in 54 (by decide +kernel) (by decide +kernel), by decide +kernel, by decide⟩
theorem cl_L_89 : mx_cV RL 89 yX7_way cX7_way 3 (some .int) 2 7 := ⟨mx_in 619 (by decide +kernel) (by decide +kernel), my_X7_way, mx_in 620 (by decide +kernel) (by decide +kernel), mx_in 621 (by decide +kernel) (by decide +kernel), _, _, rfl⟩
theorem my_X5_calmestAt : mx_y yX5_calmestAt cX5_calmestAt 6 (some .int) 3 := ⟨mx_in 626 (by decide +kernel) (by decide +kernel), mx_in 61 (by decide +kernel) (by decide +kernel), by decide +kernel, by decide⟩
theorem cl_X7_226 : mx_cV RX7 226 yX5_calmestAt cX5_calmestAt 6 (some .int) 3 5 := ⟨mx_in 623 (by decide +kernel) (by decide +kernel), my_X5_calmestAt, mx_in 624 (by decide +kernel) (by decide +kernel), mx_in 625 (by decide +kernel) (by decide +kernel), _, _, rfl⟩
theorem my_X5_fewestAsides : mx_y yX5_fewestAsides cX5_fewestAsides 4 (some .int) 2 := ⟨mx_in 630 (by decide +kernel) (by decide +kernel), mx_in 61 (by decide +kernel) (by decide +kernel), by decide +kernel, by decide⟩
theorem cl_X5_76 : mx_cV RX5 76 yX5_fewestAsides cX5_fewestAsides 4 (some .int) 2 5 := ⟨mx_in 627 (by decide +kernel) (by decide +kernel), my_X5_fewestAsides, mx_in 628 (by decide +kernel) (by decide +kernel), mx_in 629 (by decide +kernel) (by decide +kernel), _, _, rfl⟩
theorem my_X5_tellAsides : mx_y yX5_tellAsides cX5_tellAsides 4 none 1 := ⟨mx_in 634 (by decide +kernel) (by decide +kernel), mx_in 61 (by decide +kernel) (by decide +kernel), by decide +kernel, by decide⟩
theorem cl_X5_68 : mx_cV RX5 68 yX5_tellAsides cX5_tellAsides 4 none 1 5 := ⟨mx_in 631 (by decide +kernel) (by decide +kernel), my_X5_tellAsides, mx_in 633 (by decide +kernel) (by decide +kernel), mx_in 18 (by decide +kernel) (by decide +kernel), _, _, rfl⟩
theorem my_X5_fewestAfter : mx_y yX5_fewestAfter cX5_fewestAfter 4 (some .int) 3 := ⟨mx_in 638 (by decide +kernel) (by decide +kernel), mx_in 61 (by decide +kernel) (by decide +kernel), by decide +kernel, by decide⟩
theorem cl_X5_72 : mx_cV RX5 72 yX5_fewestAfter cX5_fewestAfter 4 (some .int) 3 5 := ⟨mx_in 635 (by decide +kernel) (by decide +kernel), my_X5_fewestAfter, mx_in 637 (by decide +kernel) (by decide +kernel), mx_in 19 (by decide +kernel) (by decide +kernel), _, _, rfl⟩
theorem my_X5_calmestNext : mx_y yX5_calmestNext cX5_calmestNext 7 (some .int) 2 := ⟨mx_in 642 (by decide +kernel) (by decide +kernel), mx_in 61 (by decide +kernel) (by decide +kernel), by decide +kernel, by decide⟩
theorem cl_X5_79 : mx_cV RX5 79 yX5_calmestNext cX5_calmestNext 7 (some .int) 2 5 := ⟨mx_in 639 (by decide +kernel) (by decide +kernel), my_X5_calmestNext, mx_in 641 (by decide +kernel) (by decide +kernel), mx_in 20 (by decide +kernel) (by decide +kernel), _, _, rfl⟩
theorem my_J9_min_7cf53 : mx_y yJ9_min_7cf53 cJ9_min_7cf53 2 (some .int) 2 := ⟨mx_in 645 (by decide +kernel) (by decide +kernel), mx_in 65 (by decide +kernel) (by decide +kernel), by decide +kernel, by decide⟩
theorem cl_X5_85 : mx_cS RX5 85 yJ9_min_7cf53 cJ9_min_7cf53 2 (some .int) 2 := ⟨mx_in 643 (by decide +kernel) (by decide +kernel), my_J9_min_7cf53, mx_in 644 (by decide +kernel) (by decide +kernel)⟩
theorem my_X5_asidesBy : mx_y yX5_asidesBy cX5_asidesBy 4 (some .int) 3 := ⟨mx_in 649 (by decide +kernel) (by decide +kernel), mx_in 61 (by decide +kernel) (by decide +kernel), by decide +kernel, by decide⟩
theorem cl_X5_82 : mx_cV RX5 82 yX5_asidesBy cX5_asidesBy 4 (some .int) 3 5 := ⟨mx_in 646 (by decide +kernel) (by decide +kernel), my_X5_asidesBy, mx_in 648 (by decide +kernel) (by decide +kernel), mx_in 21 (by decide +kernel) (by decide +kernel), _, _, rfl⟩
theorem my_X7_asides : mx_y yX7_asides cX7_asides 2 (some .int) 1 := ⟨mx_in 653 (by decide +kernel) (by decide +kernel), mx_in 54 (by decide +kernel) (by decide +kernel), by decide +kernel, by decide⟩
theorem cl_L_93 : mx_cV RL 93 yX7_asides cX7_asides 2 (some .int) 1 7 := ⟨mx_in 650 (by decide +kernel) (by decide +kernel), my_X7_asides, mx_in 651 (by decide +kernel) (by decide +kernel), mx_in 652 (by decide +kernel) (by decide +kernel), _, _, rfl⟩
theorem cl_X7_230 : mx_cV RX7 230 yX5_fewestAsides cX5_fewestAsides 4 (some .int) 2 5 := ⟨mx_in 654 (by decide +kernel) (by decide +kernel), my_X5_fewestAsides, mx_in 628 (by decide +kernel) (by decide +kernel), mx_in 629 (by decide +kernel) (by decide +kernel), _, _, rfl⟩
theorem my_X7_fair : mx_y yX7_fair cX7_fair 1 (some .int) 0 := ⟨mx_in 658 (by decide +kernel) (by decide +kernel), mx_in 54 (by decide +kernel) (by decide +kernel), by decide +kernel, by decide⟩
theorem cl_L_97 : mx_cV RL 97 yX7_fair cX7_fair 1 (some .int) 0 7 := ⟨mx_in 655 (by decide +kernel) (by decide +kernel), my_X7_fair, mx_in 656 (by decide +kernel) (by decide +kernel), mx_in 657 (by decide +kernel) (by decide +kernel), _, _, rfl⟩
theorem my_X5_longestWay : mx_y yX5_longestWay cX5_longestWay 4 (some .int) 1 := ⟨mx_in 662 (by decide +kernel) (by decide +kernel), mx_in 61 (by decide +kernel) (by decide +kernel), by decide +kernel, by decide⟩
theorem cl_X7_233 : mx_cV RX7 233 yX5_longestWay cX5_longestWay 4 (some .int) 1 5 := ⟨mx_in 659 (by decide +kernel) (by decide +kernel), my_X5_longestWay, mx_in 660 (by decide +kernel) (by decide +kernel), mx_in 661 (by decide +kernel) (by decide +kernel), _, _, rfl⟩
theorem my_X7_shuts : mx_y yX7_shuts cX7_shuts 6 (some .int) 1 := ⟨mx_in 666 (by decide +kernel) (by decide +kernel), mx_in 54 (by decide +kernel) (by decide +kernel), by decide +kernel, by decide⟩
theorem cl_L_101 : mx_cV RL 101 yX7_shuts cX7_shuts 6 (some .int) 1 7 := ⟨mx_in 663 (by decide +kernel) (by decide +kernel), my_X7_shuts, mx_in 664 (by decide +kernel) (by decide +kernel), mx_in 665 (by decide +kernel) (by decide +kernel), _, _, rfl⟩
theorem my_X5_sumFree : mx_y yX5_sumFree cX5_sumFree 4 (some .int) 1 := ⟨mx_in 670 (by decide +kernel) (by decide +kernel), mx_in 61 (by decide +kernel) (by decide +kernel), by decide +kernel, by decide⟩
theorem cl_X7_241 : mx_cV RX7 241 yX5_sumFree cX5_sumFree 4 (some .int) 1 5 := ⟨mx_in 667 (by decide +kernel) (by decide +kernel), my_X5_sumFree, mx_in 668 (by decide +kernel) (by decide +kernel), mx_in 669 (by decide +kernel) (by decide +kernel), _, _, rfl⟩
theorem my_X7_ifStepped : mx_y yX7_ifStepped cX7_ifStepped 5 (some .int) 3 := ⟨mx_in 674 (by decide +kernel) (by decide +kernel), mx_in 54 (by decide +kernel) (by decide +kernel), by decide +kernel, by decide⟩
theorem cl_L_105 : mx_cV RL 105 yX7_ifStepped cX7_ifStepped 5 (some .int) 3 7 := ⟨mx_in 671 (by decide +kernel) (by decide +kernel), my_X7_ifStepped, mx_in 672 (by decide +kernel) (by decide +kernel), mx_in 673 (by decide +kernel) (by decide +kernel), _, _, rfl⟩
theorem my_X7_openness : mx_y yX7_openness cX7_openness 2 (some .double) 1 := ⟨mx_in 678 (by decide +kernel) (by decide +kernel), mx_in 54 (by decide +kernel) (by decide +kernel), by decide +kernel, by decide⟩
theorem cl_L_110 : mx_cV RL 110 yX7_openness cX7_openness 2 (some .double) 1 7 := ⟨mx_in 675 (by decide +kernel) (by decide +kernel), my_X7_openness, mx_in 676 (by decide +kernel) (by decide +kernel), mx_in 677 (by decide +kernel) (by decide +kernel), _, _, rfl⟩
theorem my_X7_undo : mx_y yX7_undo cX7_undo 1 (some .int) 0 := ⟨mx_in 683 (by decide +kernel) (by decide +kernel), mx_in 54 (by decide +kernel) (by decide +kernel), by decide +kernel, by decide⟩
theorem cl_L_115 : mx_cV RL 115 yX7_undo cX7_undo 1 (some .int) 0 7 := ⟨mx_in 680 (by decide +kernel) (by decide +kernel), my_X7_undo, mx_in 681 (by decide +kernel) (by decide +kernel), mx_in 682 (by decide +kernel) (by decide +kernel), _, _, rfl⟩
theorem my_X4_takeBack : mx_y yX4_takeBack cX4_takeBack 2 none 1 := ⟨mx_in 687 (by decide +kernel) (by decide +kernel), mx_in 58 (by decide +kernel) (by decide +kernel), by decide +kernel, by decide⟩
theorem cl_X7_246 : mx_cV RX7 246 yX4_takeBack cX4_takeBack 2 none 1 4 := ⟨mx_in 684 (by decide +kernel) (by decide +kernel), my_X4_takeBack, mx_in 685 (by decide +kernel) (by decide +kernel), mx_in 686 (by decide +kernel) (by decide +kernel), _, _, rfl⟩
theorem my_X7_save : mx_y yX7_save cX7_save 1 (some .int) 0 := ⟨mx_in 691 (by decide +kernel) (by decide +kernel), mx_in 54 (by decide +kernel) (by decide +kernel), by decide +kernel, by decide⟩
theorem cl_L_119 : mx_cV RL 119 yX7_save cX7_save 1 (some .int) 0 7 := ⟨mx_in 688 (by decide +kernel) (by decide +kernel), my_X7_save, mx_in 689 (by decide +kernel) (by decide +kernel), mx_in 690 (by decide +kernel) (by decide +kernel), _, _, rfl⟩
theorem my_X7_restore : mx_y yX7_restore cX7_restore 1 (some .int) 0 := ⟨mx_in 695 (by decide +kernel) (by decide +kernel), mx_in 54 (by decide +kernel) (by decide +kernel), by decide +kernel, by decide⟩
theorem cl_L_123 : mx_cV RL 123 yX7_restore cX7_restore 1 (some .int) 0 7 := ⟨mx_in 692 (by decide +kernel) (by decide +kernel), my_X7_restore, mx_in 693 (by decide +kernel) (by decide +kernel), mx_in 694 (by decide +kernel) (by decide +kernel), _, _, rfl⟩
theorem my_X8_emitter : mx_y yX8_emitter cX8_emitter 5 (some .int) 4 := ⟨mx_in 754 (by decide +kernel) (by decide +kernel), mx_in 62 (by decide +kernel) (by decide +kernel), by decide +kernel, by decide⟩
theorem cl_L_17 : mx_cV RL 17 yX8_emitter cX8_emitter 5 (some .int) 4 8 := ⟨mx_in 751 (by decide +kernel) (by decide +kernel), my_X8_emitter, mx_in 752 (by decide +kernel) (by decide +kernel), mx_in 753 (by decide +kernel) (by decide +kernel), _, _, rfl⟩
theorem my_X8_in : mx_y yX8_in cX8_in 3 (some .boolean) 3 := ⟨mx_in 757 (by decide +kernel) (by decide +kernel), mx_in 62 (by decide +kernel) (by decide +kernel), by decide +kernel, by decide⟩
theorem cl_X8_49 : mx_cS RX8 49 yX8_in cX8_in 3 (some .boolean) 3 := ⟨mx_in 755 (by decide +kernel) (by decide +kernel), my_X8_in, mx_in 756 (by decide +kernel) (by decide +kernel)⟩
theorem my_X8_records : mx_y yX8_records cX8_records 2 none 0 := ⟨mx_in 761 (by decide +kernel) (by decide +kernel), mx_in 62 (by decide +kernel) (by decide +kernel), by decide +kernel, by decide⟩
theorem cl_X8_90 : mx_cV RX8 90 yX8_records cX8_records 2 none 0 8 := ⟨mx_in 758 (by decide +kernel) (by decide +kernel), my_X8_records, mx_in 760 (by decide +kernel) (by decide +kernel), mx_in 22 (by decide +kernel) (by decide +kernel), _, _, rfl⟩
theorem my_X8_copies : mx_y yX8_copies cX8_copies 5 none 4 := ⟨mx_in 764 (by decide +kernel) (by decide +kernel), mx_in 62 (by decide +kernel) (by decide +kernel), by decide +kernel, by decide⟩
theorem cl_X8_45 : mx_cS RX8 45 yX8_copies cX8_copies 5 none 4 := ⟨mx_in 762 (by decide +kernel) (by decide +kernel), my_X8_copies, mx_in 763 (by decide +kernel) (by decide +kernel)⟩
theorem my_X8_addsEmitter : mx_y yX8_addsEmitter cX8_addsEmitter 6 none 4 := ⟨mx_in 768 (by decide +kernel) (by decide +kernel), mx_in 62 (by decide +kernel) (by decide +kernel), by decide +kernel, by decide⟩
theorem cl_X8_93 : mx_cV RX8 93 yX8_addsEmitter cX8_addsEmitter 6 none 4 8 := ⟨mx_in 765 (by decide +kernel) (by decide +kernel), my_X8_addsEmitter, mx_in 767 (by decide +kernel) (by decide +kernel), mx_in 23 (by decide +kernel) (by decide +kernel), _, _, rfl⟩
theorem my_X8_takeAway : mx_y yX8_takeAway cX8_takeAway 2 (some .int) 1 := ⟨mx_in 772 (by decide +kernel) (by decide +kernel), mx_in 62 (by decide +kernel) (by decide +kernel), by decide +kernel, by decide⟩
theorem cl_L_22 : mx_cV RL 22 yX8_takeAway cX8_takeAway 2 (some .int) 1 8 := ⟨mx_in 769 (by decide +kernel) (by decide +kernel), my_X8_takeAway, mx_in 770 (by decide +kernel) (by decide +kernel), mx_in 771 (by decide +kernel) (by decide +kernel), _, _, rfl⟩
theorem my_X8_isEmitter : mx_y yX8_isEmitter cX8_isEmitter 2 (some .boolean) 1 := ⟨mx_in 776 (by decide +kernel) (by decide +kernel), mx_in 62 (by decide +kernel) (by decide +kernel), by decide +kernel, by decide⟩
theorem cl_X8_97 : mx_cV RX8 97 yX8_isEmitter cX8_isEmitter 2 (some .boolean) 1 8 := ⟨mx_in 773 (by decide +kernel) (by decide +kernel), my_X8_isEmitter, mx_in 775 (by decide +kernel) (by decide +kernel), mx_in 24 (by decide +kernel) (by decide +kernel), _, _, rfl⟩
theorem my_X8_dropsEmitter : mx_y yX8_dropsEmitter cX8_dropsEmitter 3 none 1 := ⟨mx_in 780 (by decide +kernel) (by decide +kernel), mx_in 62 (by decide +kernel) (by decide +kernel), by decide +kernel, by decide⟩
theorem cl_X8_101 : mx_cV RX8 101 yX8_dropsEmitter cX8_dropsEmitter 3 none 1 8 := ⟨mx_in 777 (by decide +kernel) (by decide +kernel), my_X8_dropsEmitter, mx_in 779 (by decide +kernel) (by decide +kernel), mx_in 25 (by decide +kernel) (by decide +kernel), _, _, rfl⟩
theorem my_X8_tick : mx_y yX8_tick cX8_tick 2 (some .int) 1 := ⟨mx_in 784 (by decide +kernel) (by decide +kernel), mx_in 62 (by decide +kernel) (by decide +kernel), by decide +kernel, by decide⟩
theorem cl_L_26 : mx_cV RL 26 yX8_tick cX8_tick 2 (some .int) 1 8 := ⟨mx_in 781 (by decide +kernel) (by decide +kernel), my_X8_tick, mx_in 782 (by decide +kernel) (by decide +kernel), mx_in 783 (by decide +kernel) (by decide +kernel), _, _, rfl⟩
theorem my_X8_goTick : mx_y yX8_goTick cX8_goTick 3 (some .int) 1 := ⟨mx_in 788 (by decide +kernel) (by decide +kernel), mx_in 62 (by decide +kernel) (by decide +kernel), by decide +kernel, by decide⟩
theorem cl_X8_105 : mx_cV RX8 105 yX8_goTick cX8_goTick 3 (some .int) 1 8 := ⟨mx_in 785 (by decide +kernel) (by decide +kernel), my_X8_goTick, mx_in 787 (by decide +kernel) (by decide +kernel), mx_in 26 (by decide +kernel) (by decide +kernel), _, _, rfl⟩
theorem my_X8_moves : mx_y yX8_moves cX8_moves 2 none 0 := ⟨mx_in 792 (by decide +kernel) (by decide +kernel), mx_in 62 (by decide +kernel) (by decide +kernel), by decide +kernel, by decide⟩
theorem cl_X8_81 : mx_cV RX8 81 yX8_moves cX8_moves 2 none 0 8 := ⟨mx_in 789 (by decide +kernel) (by decide +kernel), my_X8_moves, mx_in 791 (by decide +kernel) (by decide +kernel), mx_in 27 (by decide +kernel) (by decide +kernel), _, _, rfl⟩
theorem my_X8_falls : mx_y yX8_falls cX8_falls 4 none 0 := ⟨mx_in 796 (by decide +kernel) (by decide +kernel), mx_in 62 (by decide +kernel) (by decide +kernel), by decide +kernel, by decide⟩
theorem cl_X8_68 : mx_cV RX8 68 yX8_falls cX8_falls 4 none 0 8 := ⟨mx_in 793 (by decide +kernel) (by decide +kernel), my_X8_falls, mx_in 795 (by decide +kernel) (by decide +kernel), mx_in 28 (by decide +kernel) (by decide +kernel), _, _, rfl⟩
theorem my_X8_of : mx_y yX8_of cX8_of 3 (some .int) 2 := ⟨mx_in 800 (by decide +kernel) (by decide +kernel), mx_in 62 (by decide +kernel) (by decide +kernel), by decide +kernel, by decide⟩
theorem cl_X8_53 : mx_cV RX8 53 yX8_of cX8_of 3 (some .int) 2 8 := ⟨mx_in 797 (by decide +kernel) (by decide +kernel), my_X8_of, mx_in 799 (by decide +kernel) (by decide +kernel), mx_in 29 (by decide +kernel) (by decide +kernel), _, _, rfl⟩
theorem my_X8_lays : mx_y yX8_lays cX8_lays 4 none 3 := ⟨mx_in 804 (by decide +kernel) (by decide +kernel), mx_in 62 (by decide +kernel) (by decide +kernel), by decide +kernel, by decide⟩
theorem cl_X8_57 : mx_cV RX8 57 yX8_lays cX8_lays 4 none 3 8 := ⟨mx_in 801 (by decide +kernel) (by decide +kernel), my_X8_lays, mx_in 803 (by decide +kernel) (by decide +kernel), mx_in 30 (by decide +kernel) (by decide +kernel), _, _, rfl⟩
theorem my_X8_takesAway : mx_y yX8_takesAway cX8_takesAway 5 (some .int) 0 := ⟨mx_in 808 (by decide +kernel) (by decide +kernel), mx_in 62 (by decide +kernel) (by decide +kernel), by decide +kernel, by decide⟩
theorem cl_X8_61 : mx_cV RX8 61 yX8_takesAway cX8_takesAway 5 (some .int) 0 8 := ⟨mx_in 805 (by decide +kernel) (by decide +kernel), my_X8_takesAway, mx_in 807 (by decide +kernel) (by decide +kernel), mx_in 31 (by decide +kernel) (by decide +kernel), _, _, rfl⟩
theorem my_X8_ofEmitter : mx_y yX8_ofEmitter cX8_ofEmitter 3 (some .int) 2 := ⟨mx_in 812 (by decide +kernel) (by decide +kernel), mx_in 62 (by decide +kernel) (by decide +kernel), by decide +kernel, by decide⟩
theorem cl_X8_71 : mx_cV RX8 71 yX8_ofEmitter cX8_ofEmitter 3 (some .int) 2 8 := ⟨mx_in 809 (by decide +kernel) (by decide +kernel), my_X8_ofEmitter, mx_in 811 (by decide +kernel) (by decide +kernel), mx_in 32 (by decide +kernel) (by decide +kernel), _, _, rfl⟩
theorem my_X8_firesPattern : mx_y yX8_firesPattern cX8_firesPattern 3 none 2 := ⟨mx_in 816 (by decide +kernel) (by decide +kernel), mx_in 62 (by decide +kernel) (by decide +kernel), by decide +kernel, by decide⟩
theorem cl_X8_74 : mx_cV RX8 74 yX8_firesPattern cX8_firesPattern 3 none 2 8 := ⟨mx_in 813 (by decide +kernel) (by decide +kernel), my_X8_firesPattern, mx_in 815 (by decide +kernel) (by decide +kernel), mx_in 33 (by decide +kernel) (by decide +kernel), _, _, rfl⟩
theorem my_X8_fires : mx_y yX8_fires cX8_fires 5 none 3 := ⟨mx_in 820 (by decide +kernel) (by decide +kernel), mx_in 62 (by decide +kernel) (by decide +kernel), by decide +kernel, by decide⟩
theorem cl_X8_65 : mx_cV RX8 65 yX8_fires cX8_fires 5 none 3 8 := ⟨mx_in 817 (by decide +kernel) (by decide +kernel), my_X8_fires, mx_in 819 (by decide +kernel) (by decide +kernel), mx_in 34 (by decide +kernel) (by decide +kernel), _, _, rfl⟩
theorem my_X8_hits : mx_y yX8_hits cX8_hits 2 (some .int) 0 := ⟨mx_in 824 (by decide +kernel) (by decide +kernel), mx_in 62 (by decide +kernel) (by decide +kernel), by decide +kernel, by decide⟩
theorem cl_X8_84 : mx_cV RX8 84 yX8_hits cX8_hits 2 (some .int) 0 8 := ⟨mx_in 821 (by decide +kernel) (by decide +kernel), my_X8_hits, mx_in 823 (by decide +kernel) (by decide +kernel), mx_in 35 (by decide +kernel) (by decide +kernel), _, _, rfl⟩
theorem my_X8_isAt : mx_y yX8_isAt cX8_isAt 4 (some .boolean) 3 := ⟨mx_in 828 (by decide +kernel) (by decide +kernel), mx_in 62 (by decide +kernel) (by decide +kernel), by decide +kernel, by decide⟩
theorem cl_X8_78 : mx_cV RX8 78 yX8_isAt cX8_isAt 4 (some .boolean) 3 8 := ⟨mx_in 825 (by decide +kernel) (by decide +kernel), my_X8_isAt, mx_in 827 (by decide +kernel) (by decide +kernel), mx_in 36 (by decide +kernel) (by decide +kernel), _, _, rfl⟩
theorem my_X8_grazes : mx_y yX8_grazes cX8_grazes 4 none 0 := ⟨mx_in 832 (by decide +kernel) (by decide +kernel), mx_in 62 (by decide +kernel) (by decide +kernel), by decide +kernel, by decide⟩
theorem cl_X8_87 : mx_cV RX8 87 yX8_grazes cX8_grazes 4 none 0 8 := ⟨mx_in 829 (by decide +kernel) (by decide +kernel), my_X8_grazes, mx_in 831 (by decide +kernel) (by decide +kernel), mx_in 37 (by decide +kernel) (by decide +kernel), _, _, rfl⟩
theorem my_X8_bomb : mx_y yX8_bomb cX8_bomb 1 (some .int) 0 := ⟨mx_in 836 (by decide +kernel) (by decide +kernel), mx_in 62 (by decide +kernel) (by decide +kernel), by decide +kernel, by decide⟩
theorem cl_L_31 : mx_cV RL 31 yX8_bomb cX8_bomb 1 (some .int) 0 8 := ⟨mx_in 833 (by decide +kernel) (by decide +kernel), my_X8_bomb, mx_in 834 (by decide +kernel) (by decide +kernel), mx_in 835 (by decide +kernel) (by decide +kernel), _, _, rfl⟩
theorem my_X8_canBomb : mx_y yX8_canBomb cX8_canBomb 1 (some .boolean) 0 := ⟨mx_in 840 (by decide +kernel) (by decide +kernel), mx_in 62 (by decide +kernel) (by decide +kernel), by decide +kernel, by decide⟩
theorem cl_X8_109 : mx_cV RX8 109 yX8_canBomb cX8_canBomb 1 (some .boolean) 0 8 := ⟨mx_in 837 (by decide +kernel) (by decide +kernel), my_X8_canBomb, mx_in 839 (by decide +kernel) (by decide +kernel), mx_in 38 (by decide +kernel) (by decide +kernel), _, _, rfl⟩
theorem my_X8_goBomb : mx_y yX8_goBomb cX8_goBomb 3 (some .int) 0 := ⟨mx_in 844 (by decide +kernel) (by decide +kernel), mx_in 62 (by decide +kernel) (by decide +kernel), by decide +kernel, by decide⟩
theorem cl_X8_113 : mx_cV RX8 113 yX8_goBomb cX8_goBomb 3 (some .int) 0 8 := ⟨mx_in 841 (by decide +kernel) (by decide +kernel), my_X8_goBomb, mx_in 843 (by decide +kernel) (by decide +kernel), mx_in 39 (by decide +kernel) (by decide +kernel), _, _, rfl⟩
theorem my_X8_clearField : mx_y yX8_clearField cX8_clearField 3 (some .int) 0 := ⟨mx_in 848 (by decide +kernel) (by decide +kernel), mx_in 62 (by decide +kernel) (by decide +kernel), by decide +kernel, by decide⟩
theorem cl_L_35 : mx_cV RL 35 yX8_clearField cX8_clearField 3 (some .int) 0 8 := ⟨mx_in 845 (by decide +kernel) (by decide +kernel), my_X8_clearField, mx_in 846 (by decide +kernel) (by decide +kernel), mx_in 847 (by decide +kernel) (by decide +kernel), _, _, rfl⟩
theorem my_X8_set : mx_y yX8_set cX8_set 4 (some .int) 2 := ⟨mx_in 852 (by decide +kernel) (by decide +kernel), mx_in 62 (by decide +kernel) (by decide +kernel), by decide +kernel, by decide⟩
theorem cl_L_40 : mx_cV RL 40 yX8_set cX8_set 4 (some .int) 2 8 := ⟨mx_in 849 (by decide +kernel) (by decide +kernel), my_X8_set, mx_in 850 (by decide +kernel) (by decide +kernel), mx_in 851 (by decide +kernel) (by decide +kernel), _, _, rfl⟩
theorem my_X8_append : mx_y yX8_append cX8_append 2 (some .int) 1 := ⟨mx_in 856 (by decide +kernel) (by decide +kernel), mx_in 62 (by decide +kernel) (by decide +kernel), by decide +kernel, by decide⟩
theorem cl_L_44 : mx_cV RL 44 yX8_append cX8_append 2 (some .int) 1 8 := ⟨mx_in 853 (by decide +kernel) (by decide +kernel), my_X8_append, mx_in 854 (by decide +kernel) (by decide +kernel), mx_in 855 (by decide +kernel) (by decide +kernel), _, _, rfl⟩
theorem my_X8_clear : mx_y yX8_clear cX8_clear 2 (some .int) 0 := ⟨mx_in 860 (by decide +kernel) (by decide +kernel), mx_in 62 (by decide +kernel) (by decide +kernel), by decide +kernel, by decide⟩
theorem cl_L_48 : mx_cV RL 48 yX8_clear cX8_clear 2 (some .int) 0 8 := ⟨mx_in 857 (by decide +kernel) (by decide +kernel), my_X8_clear, mx_in 858 (by decide +kernel) (by decide +kernel), mx_in 859 (by decide +kernel) (by decide +kernel), _, _, rfl⟩
theorem my_X8_fault : mx_y yX8_fault cX8_fault 2 (some .int) 1 := ⟨mx_in 864 (by decide +kernel) (by decide +kernel), mx_in 62 (by decide +kernel) (by decide +kernel), by decide +kernel, by decide⟩
theorem cl_L_52 : mx_cV RL 52 yX8_fault cX8_fault 2 (some .int) 1 8 := ⟨mx_in 861 (by decide +kernel) (by decide +kernel), my_X8_fault, mx_in 862 (by decide +kernel) (by decide +kernel), mx_in 863 (by decide +kernel) (by decide +kernel), _, _, rfl⟩
theorem my_X8_isCurtain : mx_y yX8_isCurtain cX8_isCurtain 1 (some .boolean) 0 := ⟨mx_in 868 (by decide +kernel) (by decide +kernel), mx_in 62 (by decide +kernel) (by decide +kernel), by decide +kernel, by decide⟩
theorem cl_X8_145 : mx_cV RX8 145 yX8_isCurtain cX8_isCurtain 1 (some .boolean) 0 8 := ⟨mx_in 865 (by decide +kernel) (by decide +kernel), my_X8_isCurtain, mx_in 867 (by decide +kernel) (by decide +kernel), mx_in 40 (by decide +kernel) (by decide +kernel), _, _, rfl⟩
theorem my_X8_takesEmitter : mx_y yX8_takesEmitter cX8_takesEmitter 2 none 0 := ⟨mx_in 872 (by decide +kernel) (by decide +kernel), mx_in 62 (by decide +kernel) (by decide +kernel), by decide +kernel, by decide⟩
theorem cl_X8_142 : mx_cV RX8 142 yX8_takesEmitter cX8_takesEmitter 2 none 0 8 := ⟨mx_in 869 (by decide +kernel) (by decide +kernel), my_X8_takesEmitter, mx_in 871 (by decide +kernel) (by decide +kernel), mx_in 41 (by decide +kernel) (by decide +kernel), _, _, rfl⟩
theorem my_X8_takesDigit : mx_y yX8_takesDigit cX8_takesDigit 4 (some .int) 2 := ⟨mx_in 876 (by decide +kernel) (by decide +kernel), mx_in 62 (by decide +kernel) (by decide +kernel), by decide +kernel, by decide⟩
theorem cl_X8_136 : mx_cV RX8 136 yX8_takesDigit cX8_takesDigit 4 (some .int) 2 8 := ⟨mx_in 873 (by decide +kernel) (by decide +kernel), my_X8_takesDigit, mx_in 875 (by decide +kernel) (by decide +kernel), mx_in 42 (by decide +kernel) (by decide +kernel), _, _, rfl⟩
theorem my_X8_here : mx_y yX8_here cX8_here 1 (some .int) 0 := ⟨mx_in 880 (by decide +kernel) (by decide +kernel), mx_in 62 (by decide +kernel) (by decide +kernel), by decide +kernel, by decide⟩
theorem cl_X8_126 : mx_cV RX8 126 yX8_here cX8_here 1 (some .int) 0 8 := ⟨mx_in 877 (by decide +kernel) (by decide +kernel), my_X8_here, mx_in 879 (by decide +kernel) (by decide +kernel), mx_in 43 (by decide +kernel) (by decide +kernel), _, _, rfl⟩
theorem my_X8_takes : mx_y yX8_takes cX8_takes 2 none 1 := ⟨mx_in 884 (by decide +kernel) (by decide +kernel), mx_in 62 (by decide +kernel) (by decide +kernel), by decide +kernel, by decide⟩
theorem cl_X8_129 : mx_cV RX8 129 yX8_takes cX8_takes 2 none 1 8 := ⟨mx_in 881 (by decide +kernel) (by decide +kernel), my_X8_takes, mx_in 883 (by decide +kernel) (by decide +kernel), mx_in 44 (by decide +kernel) (by decide +kernel), _, _, rfl⟩
theorem my_X8_patternOf : mx_y yX8_patternOf cX8_patternOf 1 (some .int) 1 := ⟨mx_in 887 (by decide +kernel) (by decide +kernel), mx_in 62 (by decide +kernel) (by decide +kernel), by decide +kernel, by decide⟩
theorem cl_X8_139 : mx_cS RX8 139 yX8_patternOf cX8_patternOf 1 (some .int) 1 := ⟨mx_in 885 (by decide +kernel) (by decide +kernel), my_X8_patternOf, mx_in 886 (by decide +kernel) (by decide +kernel)⟩
theorem my_X8_areSteps : mx_y yX8_areSteps cX8_areSteps 1 (some .boolean) 0 := ⟨mx_in 891 (by decide +kernel) (by decide +kernel), mx_in 62 (by decide +kernel) (by decide +kernel), by decide +kernel, by decide⟩
theorem cl_X8_148 : mx_cV RX8 148 yX8_areSteps cX8_areSteps 1 (some .boolean) 0 8 := ⟨mx_in 888 (by decide +kernel) (by decide +kernel), my_X8_areSteps, mx_in 890 (by decide +kernel) (by decide +kernel), mx_in 45 (by decide +kernel) (by decide +kernel), _, _, rfl⟩
theorem my_X8_hang : mx_y yX8_hang cX8_hang 2 (some .int) 0 := ⟨mx_in 895 (by decide +kernel) (by decide +kernel), mx_in 62 (by decide +kernel) (by decide +kernel), by decide +kernel, by decide⟩
theorem cl_L_56 : mx_cV RL 56 yX8_hang cX8_hang 2 (some .int) 0 8 := ⟨mx_in 892 (by decide +kernel) (by decide +kernel), my_X8_hang, mx_in 893 (by decide +kernel) (by decide +kernel), mx_in 894 (by decide +kernel) (by decide +kernel), _, _, rfl⟩
theorem my_X8_play : mx_y yX8_play cX8_play 5 (some .int) 0 := ⟨mx_in 899 (by decide +kernel) (by decide +kernel), mx_in 62 (by decide +kernel) (by decide +kernel), by decide +kernel, by decide⟩
theorem cl_L_60 : mx_cV RL 60 yX8_play cX8_play 5 (some .int) 0 8 := ⟨mx_in 896 (by decide +kernel) (by decide +kernel), my_X8_play, mx_in 897 (by decide +kernel) (by decide +kernel), mx_in 898 (by decide +kernel) (by decide +kernel), _, _, rfl⟩
theorem my_X8_emitterOf : mx_y yX8_emitterOf cX8_emitterOf 4 (some .int) 2 := ⟨mx_in 903 (by decide +kernel) (by decide +kernel), mx_in 62 (by decide +kernel) (by decide +kernel), by decide +kernel, by decide⟩
theorem cl_L_64 : mx_cV RL 64 yX8_emitterOf cX8_emitterOf 4 (some .int) 2 8 := ⟨mx_in 900 (by decide +kernel) (by decide +kernel), my_X8_emitterOf, mx_in 901 (by decide +kernel) (by decide +kernel), mx_in 902 (by decide +kernel) (by decide +kernel), _, _, rfl⟩
theorem my_X8_bullet : mx_y yX8_bullet cX8_bullet 3 (some .int) 2 := ⟨mx_in 907 (by decide +kernel) (by decide +kernel), mx_in 62 (by decide +kernel) (by decide +kernel), by decide +kernel, by decide⟩
theorem cl_L_68 : mx_cV RL 68 yX8_bullet cX8_bullet 3 (some .int) 2 8 := ⟨mx_in 904 (by decide +kernel) (by decide +kernel), my_X8_bullet, mx_in 905 (by decide +kernel) (by decide +kernel), mx_in 906 (by decide +kernel) (by decide +kernel), _, _, rfl⟩
theorem my_X8_at : mx_y yX8_at cX8_at 3 (some .int) 2 := ⟨mx_in 911 (by decide +kernel) (by decide +kernel), mx_in 62 (by decide +kernel) (by decide +kernel), by decide +kernel, by decide⟩
theorem cl_L_72 : mx_cV RL 72 yX8_at cX8_at 3 (some .int) 2 8 := ⟨mx_in 908 (by decide +kernel) (by decide +kernel), my_X8_at, mx_in 909 (by decide +kernel) (by decide +kernel), mx_in 910 (by decide +kernel) (by decide +kernel), _, _, rfl⟩
theorem my_X8_bulletsAt : mx_y yX8_bulletsAt cX8_bulletsAt 5 (some .int) 2 := ⟨mx_in 915 (by decide +kernel) (by decide +kernel), mx_in 62 (by decide +kernel) (by decide +kernel), by decide +kernel, by decide⟩
theorem cl_X8_151 : mx_cV RX8 151 yX8_bulletsAt cX8_bulletsAt 5 (some .int) 2 8 := ⟨mx_in 912 (by decide +kernel) (by decide +kernel), my_X8_bulletsAt, mx_in 914 (by decide +kernel) (by decide +kernel), mx_in 46 (by decide +kernel) (by decide +kernel), _, _, rfl⟩
theorem my_X8_count : mx_y yX8_count cX8_count 2 (some .int) 1 := ⟨mx_in 919 (by decide +kernel) (by decide +kernel), mx_in 62 (by decide +kernel) (by decide +kernel), by decide +kernel, by decide⟩
theorem cl_L_76 : mx_cV RL 76 yX8_count cX8_count 2 (some .int) 1 8 := ⟨mx_in 916 (by decide +kernel) (by decide +kernel), my_X8_count, mx_in 917 (by decide +kernel) (by decide +kernel), mx_in 918 (by decide +kernel) (by decide +kernel), _, _, rfl⟩
theorem my_X8_free : mx_y yX8_free cX8_free 2 (some .int) 1 := ⟨mx_in 923 (by decide +kernel) (by decide +kernel), mx_in 62 (by decide +kernel) (by decide +kernel), by decide +kernel, by decide⟩
theorem cl_L_80 : mx_cV RL 80 yX8_free cX8_free 2 (some .int) 1 8 := ⟨mx_in 920 (by decide +kernel) (by decide +kernel), my_X8_free, mx_in 921 (by decide +kernel) (by decide +kernel), mx_in 922 (by decide +kernel) (by decide +kernel), _, _, rfl⟩
theorem my_X8_forecasts : mx_y yX8_forecasts cX8_forecasts 4 none 2 := ⟨mx_in 927 (by decide +kernel) (by decide +kernel), mx_in 62 (by decide +kernel) (by decide +kernel), by decide +kernel, by decide⟩
theorem cl_X8_157 : mx_cV RX8 157 yX8_forecasts cX8_forecasts 4 none 2 8 := ⟨mx_in 924 (by decide +kernel) (by decide +kernel), my_X8_forecasts, mx_in 926 (by decide +kernel) (by decide +kernel), mx_in 47 (by decide +kernel) (by decide +kernel), _, _, rfl⟩
theorem my_X8_freeNow : mx_y yX8_freeNow cX8_freeNow 3 (some .int) 0 := ⟨mx_in 931 (by decide +kernel) (by decide +kernel), mx_in 62 (by decide +kernel) (by decide +kernel), by decide +kernel, by decide⟩
theorem cl_X8_154 : mx_cV RX8 154 yX8_freeNow cX8_freeNow 3 (some .int) 0 8 := ⟨mx_in 928 (by decide +kernel) (by decide +kernel), my_X8_freeNow, mx_in 930 (by decide +kernel) (by decide +kernel), mx_in 48 (by decide +kernel) (by decide +kernel), _, _, rfl⟩
theorem my_X8_lane : mx_y yX8_lane cX8_lane 8 (some .int) 2 := ⟨mx_in 935 (by decide +kernel) (by decide +kernel), mx_in 62 (by decide +kernel) (by decide +kernel), by decide +kernel, by decide⟩
theorem cl_L_84 : mx_cV RL 84 yX8_lane cX8_lane 8 (some .int) 2 8 := ⟨mx_in 932 (by decide +kernel) (by decide +kernel), my_X8_lane, mx_in 933 (by decide +kernel) (by decide +kernel), mx_in 934 (by decide +kernel) (by decide +kernel), _, _, rfl⟩
theorem my_X8_ends : mx_y yX8_ends cX8_ends 3 (some .int) 2 := ⟨mx_in 939 (by decide +kernel) (by decide +kernel), mx_in 62 (by decide +kernel) (by decide +kernel), by decide +kernel, by decide⟩
theorem cl_L_88 : mx_cV RL 88 yX8_ends cX8_ends 3 (some .int) 2 8 := ⟨mx_in 936 (by decide +kernel) (by decide +kernel), my_X8_ends, mx_in 937 (by decide +kernel) (by decide +kernel), mx_in 938 (by decide +kernel) (by decide +kernel), _, _, rfl⟩
theorem my_X8_endsOf : mx_y yX8_endsOf cX8_endsOf 4 (some .int) 1 := ⟨mx_in 943 (by decide +kernel) (by decide +kernel), mx_in 62 (by decide +kernel) (by decide +kernel), by decide +kernel, by decide⟩
theorem cl_X8_160 : mx_cV RX8 160 yX8_endsOf cX8_endsOf 4 (some .int) 1 8 := ⟨mx_in 940 (by decide +kernel) (by decide +kernel), my_X8_endsOf, mx_in 942 (by decide +kernel) (by decide +kernel), mx_in 49 (by decide +kernel) (by decide +kernel), _, _, rfl⟩
theorem my_X8_ones : mx_y yX8_ones cX8_ones 3 (some .int) 1 := ⟨mx_in 946 (by decide +kernel) (by decide +kernel), mx_in 62 (by decide +kernel) (by decide +kernel), by decide +kernel, by decide⟩
theorem cl_X8_163 : mx_cS RX8 163 yX8_ones cX8_ones 3 (some .int) 1 := ⟨mx_in 944 (by decide +kernel) (by decide +kernel), my_X8_ones, mx_in 945 (by decide +kernel) (by decide +kernel)⟩
theorem my_X8_way : mx_y yX8_way cX8_way 3 (some .int) 2 := ⟨mx_in 950 (by decide +kernel) (by decide +kernel), mx_in 62 (by decide +kernel) (by decide +kernel), by decide +kernel, by decide⟩
theorem cl_L_92 : mx_cV RL 92 yX8_way cX8_way 3 (some .int) 2 8 := ⟨mx_in 947 (by decide +kernel) (by decide +kernel), my_X8_way, mx_in 948 (by decide +kernel) (by decide +kernel), mx_in 949 (by decide +kernel) (by decide +kernel), _, _, rfl⟩
theorem my_X8_findsWay : mx_y yX8_findsWay cX8_findsWay 8 (some .int) 1 := ⟨mx_in 954 (by decide +kernel) (by decide +kernel), mx_in 62 (by decide +kernel) (by decide +kernel), by decide +kernel, by decide⟩
theorem cl_X8_169 : mx_cV RX8 169 yX8_findsWay cX8_findsWay 8 (some .int) 1 8 := ⟨mx_in 951 (by decide +kernel) (by decide +kernel), my_X8_findsWay, mx_in 953 (by decide +kernel) (by decide +kernel), mx_in 50 (by decide +kernel) (by decide +kernel), _, _, rfl⟩
theorem my_X8_fewestAt : mx_y yX8_fewestAt cX8_fewestAt 3 (some .int) 2 := ⟨mx_in 958 (by decide +kernel) (by decide +kernel), mx_in 62 (by decide +kernel) (by decide +kernel), by decide +kernel, by decide⟩
theorem cl_X8_166 : mx_cV RX8 166 yX8_fewestAt cX8_fewestAt 3 (some .int) 2 8 := ⟨mx_in 955 (by decide +kernel) (by decide +kernel), my_X8_fewestAt, mx_in 957 (by decide +kernel) (by decide +kernel), mx_in 51 (by decide +kernel) (by decide +kernel), _, _, rfl⟩
theorem my_X8_asides : mx_y yX8_asides cX8_asides 2 (some .int) 1 := ⟨mx_in 962 (by decide +kernel) (by decide +kernel), mx_in 62 (by decide +kernel) (by decide +kernel), by decide +kernel, by decide⟩
theorem cl_L_96 : mx_cV RL 96 yX8_asides cX8_asides 2 (some .int) 1 8 := ⟨mx_in 959 (by decide +kernel) (by decide +kernel), my_X8_asides, mx_in 960 (by decide +kernel) (by decide +kernel), mx_in 961 (by decide +kernel) (by decide +kernel), _, _, rfl⟩
theorem my_X8_fair : mx_y yX8_fair cX8_fair 2 (some .int) 0 := ⟨mx_in 966 (by decide +kernel) (by decide +kernel), mx_in 62 (by decide +kernel) (by decide +kernel), by decide +kernel, by decide⟩
theorem cl_L_100 : mx_cV RL 100 yX8_fair cX8_fair 2 (some .int) 0 8 := ⟨mx_in 963 (by decide +kernel) (by decide +kernel), my_X8_fair, mx_in 964 (by decide +kernel) (by decide +kernel), mx_in 965 (by decide +kernel) (by decide +kernel), _, _, rfl⟩
theorem my_X8_shuts : mx_y yX8_shuts cX8_shuts 6 (some .int) 1 := ⟨mx_in 970 (by decide +kernel) (by decide +kernel), mx_in 62 (by decide +kernel) (by decide +kernel), by decide +kernel, by decide⟩
theorem cl_L_104 : mx_cV RL 104 yX8_shuts cX8_shuts 6 (some .int) 1 8 := ⟨mx_in 967 (by decide +kernel) (by decide +kernel), my_X8_shuts, mx_in 968 (by decide +kernel) (by decide +kernel), mx_in 969 (by decide +kernel) (by decide +kernel), _, _, rfl⟩
theorem my_X8_opens : mx_y yX8_opens cX8_opens 5 (some .int) 2 := ⟨mx_in 974 (by decide +kernel) (by decide +kernel), mx_in 62 (by decide +kernel) (by decide +kernel), by decide +kernel, by decide⟩
theorem cl_X8_172 : mx_cV RX8 172 yX8_opens cX8_opens 5 (some .int) 2 8 := ⟨mx_in 971 (by decide +kernel) (by decide +kernel), my_X8_opens, mx_in 973 (by decide +kernel) (by decide +kernel), mx_in 52 (by decide +kernel) (by decide +kernel), _, _, rfl⟩
theorem my_X8_openness : mx_y yX8_openness cX8_openness 2 (some .double) 1 := ⟨mx_in 978 (by decide +kernel) (by decide +kernel), mx_in 62 (by decide +kernel) (by decide +kernel), by decide +kernel, by decide⟩
theorem cl_L_114 : mx_cV RL 114 yX8_openness cX8_openness 2 (some .double) 1 8 := ⟨mx_in 975 (by decide +kernel) (by decide +kernel), my_X8_openness, mx_in 976 (by decide +kernel) (by decide +kernel), mx_in 977 (by decide +kernel) (by decide +kernel), _, _, rfl⟩
theorem my_X8_ifStepped : mx_y yX8_ifStepped cX8_ifStepped 6 (some .int) 3 := ⟨mx_in 983 (by decide +kernel) (by decide +kernel), mx_in 62 (by decide +kernel) (by decide +kernel), by decide +kernel, by decide⟩
theorem cl_L_109 : mx_cV RL 109 yX8_ifStepped cX8_ifStepped 6 (some .int) 3 8 := ⟨mx_in 980 (by decide +kernel) (by decide +kernel), my_X8_ifStepped, mx_in 981 (by decide +kernel) (by decide +kernel), mx_in 982 (by decide +kernel) (by decide +kernel), _, _, rfl⟩
theorem my_X8_undo : mx_y yX8_undo cX8_undo 1 (some .int) 0 := ⟨mx_in 987 (by decide +kernel) (by decide +kernel), mx_in 62 (by decide +kernel) (by decide +kernel), by decide +kernel, by decide⟩
theorem cl_L_118 : mx_cV RL 118 yX8_undo cX8_undo 1 (some .int) 0 8 := ⟨mx_in 984 (by decide +kernel) (by decide +kernel), my_X8_undo, mx_in 985 (by decide +kernel) (by decide +kernel), mx_in 986 (by decide +kernel) (by decide +kernel), _, _, rfl⟩
theorem my_X8_save : mx_y yX8_save cX8_save 1 (some .int) 0 := ⟨mx_in 991 (by decide +kernel) (by decide +kernel), mx_in 62 (by decide +kernel) (by decide +kernel), by decide +kernel, by decide⟩
theorem cl_L_122 : mx_cV RL 122 yX8_save cX8_save 1 (some .int) 0 8 := ⟨mx_in 988 (by decide +kernel) (by decide +kernel), my_X8_save, mx_in 989 (by decide +kernel) (by decide +kernel), mx_in 990 (by decide +kernel) (by decide +kernel), _, _, rfl⟩
theorem my_X8_restore : mx_y yX8_restore cX8_restore 1 (some .int) 0 := ⟨mx_in 995 (by decide +kernel) (by decide +kernel), mx_in 62 (by decide +kernel) (by decide +kernel), by decide +kernel, by decide⟩
theorem cl_L_126 : mx_cV RL 126 yX8_restore cX8_restore 1 (some .int) 0 8 := ⟨mx_in 992 (by decide +kernel) (by decide +kernel), my_X8_restore, mx_in 993 (by decide +kernel) (by decide +kernel), mx_in 994 (by decide +kernel) (by decide +kernel), _, _, rfl⟩
end
section
theorem mx_T.of1 {y : MethodName} {cc : ByteArray} {own : String} {nL : Nat} {ret : Option FieldType} {d : Nat} {av : List Value} {ls : List (Option Value)} {M : mx_M} {Q : Option Value → mx_M → Prop} (hy : plainName y.cls = true) (ho : y.cls = own) (hn : av.length ≤ nL) (hc : av.all (fun v => v.category == 1) = true)
    (hls : av.map some ++ List.replicate (nL - av.length) none = ls) (h : mx_V cc own nL ret d 0 ls [] M Q) : mx_T y cc nL ret d av M Q := by
  subst ho; subst hls
  exact mx_T.of hy hn hc h
/-- more room, a weaker end -/
theorem mx_V.post {cc : ByteArray} {own : String} {nL : Nat} {ret : Option FieldType} {d pc : Nat} {ls : List (Option Value)} {st : List Value} {M : mx_M} {Q Q2 : Option Value → mx_M → Prop} (h : mx_V cc own nL ret d pc ls st M Q2) (hq : ∀ v M', Q2 v M' → Q v M') : mx_V cc own nL ret d pc ls st M Q := by
  intro p l e R s m args below meth c D ad cy A H0 cells slots Z hx hb hml hown hts hS hR hD hE H locs lsA hP hSS hL
  exact h p l e R s m args below meth c D ad cy A H0 cells slots Z hx hb hml hown hts hS hR hD (fun v M' H locs ls' pc' h1 h2 h3 h4 h5 => hE v M' H locs ls' pc' (hq v M' h1) h2 h3 h4 h5) H locs lsA hP hSS hL
theorem mx_T.post {y : MethodName} {cc : ByteArray} {nL : Nat} {ret : Option FieldType} {d : Nat} {av : List Value} {M : mx_M} {Q Q2 : Option Value → mx_M → Prop} (h : mx_T y cc nL ret d av M Q2) (hq : ∀ v M', Q2 v M' → Q v M') : mx_T y cc nL ret d av M Q := by
  intro l D ad cy p e ha hc hk s m args below hf happ hP hK
  obtain ⟨k, o, h1, h2, h3, ⟨⟨v, M', e1, e2, e3⟩, e4⟩, e5⟩ := h l D ad cy p e ha hc hk s m args below hf happ hP hK
  exact ⟨k, o, h1, h2, h3, ⟨⟨v, M', e1, hq v M' e2, e3⟩, e4⟩, e5⟩
/-! shapes of the class's own parts -/
def EmS (e : Nat) : Prop := mx_sh e = .inr (2, [some (e + 1), some (e + 2), some (e + 3), some (e + 4), none]) ∧ mx_sh (e + 1) = .inl (0, 4) ∧ mx_sh (e + 2) = .inl (0, 4) ∧ mx_sh (e + 3) = .inl (0, 4) ∧ mx_sh (e + 4) = .inl (0, 4)
def BuS (b : Nat) : Prop := mx_sh b = .inr (0, [some (b + 1), some (b + 2), some (b + 3), some (b + 4), some (b + 5), none]) ∧ mx_sh (b + 1) = .inl (0, 60) ∧ mx_sh (b + 2) = .inl (0, 60) ∧ mx_sh (b + 3) = .inl (0, 60) ∧ mx_sh (b + 4) = .inl (1, 60) ∧ mx_sh (b + 5) = .inl (1, 60)
def FiS (a : Nat) : Prop := mx_sh a = .inr (3, [some (a + 1), some (a + 6), some (a + 12), some (a + 13), none, none, none, none, none]) ∧ EmS (a + 1) ∧ BuS (a + 6) ∧ mx_sh (a + 12) = .inl (0, 2) ∧ mx_sh (a + 13) = .inl (0, 8)
/-- the Fields' places -/
def FB (a : Nat) : Prop := a = 1 ∨ a = 15 ∨ a = 29 ∨ a = 45 ∨ a = 59 ∨ a = 73 ∨ a = 87
theorem FB.s {a : Nat} (h : FB a) : FiS a := by
  rcases h with rfl | rfl | rfl | rfl | rfl | rfl | rfl <;> exact ⟨rfl, ⟨rfl, rfl, rfl, rfl, rfl⟩, ⟨rfl, rfl, rfl, rfl, rfl, rfl⟩, rfl, rfl⟩
theorem EmS104 : EmS 104 := ⟨rfl, rfl, rfl, rfl, rfl⟩
theorem FB.apart {a b : Nat} (ha : FB a) (hb : FB b) (h : a ≠ b) : a + 14 ≤ b ∨ b + 14 ≤ a := by
  unfold FB at ha hb
  omega
theorem mx_b0 : vp_nar .boolean 0 = 0 := by decide
theorem mx_b1 : vp_nar .boolean 1 = 1 := by decide
theorem mx_w_absS : Cond.static Lib.Math.abs.name ∈ mx_TW := mx_in 400 (by decide +kernel) (by decide +kernel)
theorem mx_w_absC : Cond.code Lib.Math.abs.name Lib.Math.abs.code 1 (some .int) ∈ mx_TW := mx_in 401 (by decide +kernel) (by decide +kernel)
theorem mx_w_maxS : Cond.static Lib.Math.max.name ∈ mx_TW := mx_in 584 (by decide +kernel) (by decide +kernel)
theorem mx_w_maxC : Cond.code Lib.Math.max.name Lib.Math.max.code 2 (some .int) ∈ mx_TW := mx_in 585 (by decide +kernel) (by decide +kernel)
theorem mx_w_minS : Cond.static Lib.Math.min.name ∈ mx_TW := mx_in 644 (by decide +kernel) (by decide +kernel)
theorem mx_w_minC : Cond.code Lib.Math.min.name Lib.Math.min.code 2 (some .int) ∈ mx_TW := mx_in 645 (by decide +kernel) (by decide +kernel)
theorem mx_w_math : Cond.initialized "java/lang/Math" ∈ mx_TW := mx_in 65 (by decide +kernel) (by decide +kernel)
theorem cl_m_abs : Cond.methodLink RX0 44 Lib.Math.abs.name ∈ mx_TW := mx_in 399 (by decide +kernel) (by decide +kernel)
theorem cl_m_max : Cond.methodLink RX5 53 Lib.Math.max.name ∈ mx_TW := mx_in 583 (by decide +kernel) (by decide +kernel)
theorem cl_m_min : Cond.methodLink RX5 85 Lib.Math.min.name ∈ mx_TW := mx_in 643 (by decide +kernel) (by decide +kernel)
theorem mx_mabs {cc : ByteArray} {own : String} {nL : Nat} {ret : Option FieldType} {d pc pc' : Nat} {ls : List (Option Value)} {st : List Value} {M : mx_M} {Q : Option Value → mx_M → Prop} {x v : Int32} {idx : Nat} (hd : decode cc pc = .ok (.invokestatic idx, 3)) (h1 : Cond.methodLink own idx Lib.Math.abs.name ∈ mx_TW) (hd1 : 1 ≤ d) (hr : (st.map fun v => v.category).sum ≤ 8) (hv : (if 0 ≤ x then x else 0 - x) = v) (hp : pc + 3 = pc') (k : mx_V cc own nL ret d pc' ls (.int v :: st) M Q) : mx_V cc own nL ret d pc ls (.int x :: st) M Q := by
  intro p l e R s m args below meth c D ad cy A H0 cells slots Z hx hb hml hown hts hS hR hD hE H locs lsA hP hSS hL
  subst hp; subst hv
  have hst := mx_cats ad hr
  exact va_mabs hx hb (hml.trans hL.1.symm) hown (hts _ h1) (hts _ mx_w_absS) (hts _ mx_w_math) (hts _ mx_w_absC) (by omega) (by omega) hR.2.2.1 hR.2.2.2 hd (k p l e R s m args below meth c D ad cy A H0 cells slots Z hx hb hml hown hts hS hR hD hE H locs lsA hP hSS hL)
theorem mx_mmax {cc : ByteArray} {own : String} {nL : Nat} {ret : Option FieldType} {d pc pc' : Nat} {ls : List (Option Value)} {st : List Value} {M : mx_M} {Q : Option Value → mx_M → Prop} {x y v : Int32} {idx : Nat} (hd : decode cc pc = .ok (.invokestatic idx, 3)) (h1 : Cond.methodLink own idx Lib.Math.max.name ∈ mx_TW) (hd1 : 1 ≤ d) (hr : (st.map fun v => v.category).sum ≤ 8) (hv : (if x < y then y else x) = v) (hp : pc + 3 = pc') (k : mx_V cc own nL ret d pc' ls (.int v :: st) M Q) : mx_V cc own nL ret d pc ls (.int y :: .int x :: st) M Q := by
  intro p l e R s m args below meth c D ad cy A H0 cells slots Z hx hb hml hown hts hS hR hD hE H locs lsA hP hSS hL
  subst hp; subst hv
  have hst := mx_cats ad hr
  exact va_mmax hx hb (hml.trans hL.1.symm) hown (hts _ h1) (hts _ mx_w_maxS) (hts _ mx_w_math) (hts _ mx_w_maxC) (by omega) (by omega) hR.2.2.1 hR.2.2.2 hd (k p l e R s m args below meth c D ad cy A H0 cells slots Z hx hb hml hown hts hS hR hD hE H locs lsA hP hSS hL)
theorem mx_mmin {cc : ByteArray} {own : String} {nL : Nat} {ret : Option FieldType} {d pc pc' : Nat} {ls : List (Option Value)} {st : List Value} {M : mx_M} {Q : Option Value → mx_M → Prop} {x y v : Int32} {idx : Nat} (hd : decode cc pc = .ok (.invokestatic idx, 3)) (h1 : Cond.methodLink own idx Lib.Math.min.name ∈ mx_TW) (hd1 : 1 ≤ d) (hr : (st.map fun v => v.category).sum ≤ 8) (hv : (if y < x then y else x) = v) (hp : pc + 3 = pc') (k : mx_V cc own nL ret d pc' ls (.int v :: st) M Q) : mx_V cc own nL ret d pc ls (.int y :: .int x :: st) M Q := by
  intro p l e R s m args below meth c D ad cy A H0 cells slots Z hx hb hml hown hts hS hR hD hE H locs lsA hP hSS hL
  subst hp; subst hv
  have hst := mx_cats ad hr
  exact va_mmin hx hb (hml.trans hL.1.symm) hown (hts _ h1) (hts _ mx_w_minS) (hts _ mx_w_math) (hts _ mx_w_minC) (by omega) (by omega) hR.2.2.1 hR.2.2.2 hd (k p l e R s m args below meth c D ad cy A H0 cells slots Z hx hb hml hown hts hS hR hD hE H locs lsA hP hSS hL)
end
section
/-! numbers -/
theorem nI_t (n : Nat) (h : n < 2147483648) : (nI n).toInt = (n : Int) := nI_toInt h
theorem z_t : (0 : Int32).toInt = 0 := rfl
theorem m1_t : (-1 : Int32).toInt = -1 := rfl
def bI (P : Prop) [Decidable P] : Int32 := if P then nI 1 else nI 0
theorem bI_t {P : Prop} [Decidable P] (h : P) : nI 1 = bI P := by unfold bI; rw [if_pos h]
theorem bI_f {P : Prop} [Decidable P] (h : ¬ P) : nI 0 = bI P := by unfold bI; rw [if_neg h]
theorem bI_0 {P : Prop} [Decidable P] : bI P = 0 ↔ ¬ P := by
  unfold bI
  by_cases h : P
  · rw [if_pos h]; exact ⟨fun q => absurd q (by decide), fun q => absurd h q⟩
  · rw [if_neg h]; exact ⟨fun _ => h, fun _ => rfl⟩
theorem bI_n {P : Prop} [Decidable P] : bI P ≠ 0 ↔ P := by
  rw [ne_eq, bI_0, Decidable.not_not]
theorem bI_c {P Q : Prop} [Decidable P] [Decidable Q] (h : P ↔ Q) : bI P = bI Q := by
  unfold bI
  by_cases q : Q
  · rw [if_pos (h.mpr q), if_pos q]
  · rw [if_neg (fun z => q (h.mp z)), if_neg q]
theorem bI_nb (P : Prop) [Decidable P] : narrow .boolean (.int (bI P)) = .int (bI P) := by
  unfold bI; split <;> decide
theorem bI_vb (P : Prop) [Decidable P] : vp_nar .boolean (bI P) = bI P := by
  unfold bI; split <;> decide
theorem nI_vb {n : Nat} (h : n < 2) : vp_nar .boolean (nI n) = nI n := by
  rcases (show n = 0 ∨ n = 1 by omega) with rfl | rfl <;> decide
theorem nI_fb {n : Nat} (h : n < 2) : narrow .boolean (.int (nI n)) = .int (nI n) ∧ fits .boolean (.int (nI n)) = true := by
  rcases (show n = 0 ∨ n = 1 by omega) with rfl | rfl <;> decide
theorem nI_fi (x : Int32) : narrow .int (.int x) = .int x ∧ fits .int (.int x) = true := ⟨rfl, rfl⟩
/-- drifts and steps: 0, 1, 2 for -1, 0, 1 -/
def dr (d : Nat) : Int32 := nI d - nI 1
theorem dr_neg : ∀ d, d < 3 → -(dr d) = dr (2 - d) := by decide
theorem dr_add : ∀ c, c < 12 → ∀ d, d < 3 → 1 ≤ c + d → nI c + dr d = nI (c + d - 1) := by decide +kernel
theorem dr_in : ∀ c, c < 12 → ∀ d, d < 3 → ((0 ≤ nI c + dr d ∧ nI c + dr d < nI 10) ↔ (1 ≤ c + d ∧ c + d ≤ 10)) := by decide +kernel
theorem dr_1 (d : Nat) : nI 1 + dr d = nI d := by
  unfold dr
  rw [Int32.add_comm, Int32.sub_add_cancel]
theorem dr_of (d : Nat) : dr d + nI 1 = nI d := by
  unfold dr
  rw [Int32.sub_add_cancel]
/-- the distance -/
def adf (c p : Nat) : Nat := if p ≤ c then c - p else p - c
theorem adf_lt {c p n : Nat} (hc : c < n) (hp : p < n) : adf c p < n := by
  unfold adf; split <;> omega
theorem adf_abs : ∀ c, c < 12 → ∀ p, p < 12 → (if 0 ≤ nI c - nI p then nI c - nI p else 0 - (nI c - nI p)) = nI (adf c p) := by decide +kernel
/-! bullets: row, column, drift and 1, weaves, grazed -/
abbrev Bu : Type := Nat × Nat × Nat × Nat × Nat
def BuV (x : Bu) : Prop := x.1 < 12 ∧ x.2.1 < 10 ∧ x.2.2.1 < 3 ∧ x.2.2.2.1 < 2 ∧ x.2.2.2.2 < 2
def BuW (M : mx_M) (b j : Nat) (x : Bu) : Prop := M (b + 1) j = nI x.1 ∧ M (b + 2) j = nI x.2.1 ∧ M (b + 3) j = dr x.2.2.1 ∧ M (b + 4) j = nI x.2.2.2.1 ∧ M (b + 5) j = nI x.2.2.2.2
def BuP (M : mx_M) (b o : Nat) (L : List Bu) : Prop := ∀ (j : Nat) (x : Bu), L[j]? = some x → BuW M b (o + j) x
def BuL (L : List Bu) : Prop := L.length ≤ 60 ∧ ∀ x ∈ L, BuV x
def BuA (M : mx_M) (b : Nat) (L : List Bu) : Prop := M b 5 = nI L.length ∧ BuL L ∧ BuP M b 0 L
theorem BuW.fr {M M' : mx_M} {b j : Nat} {x : Bu} (h : BuW M b j x) (hf : ∀ q, b < q → q ≤ b + 5 → M' q j = M q j) : BuW M' b j x := by
  obtain ⟨h1, h2, h3, h4, h5⟩ := h
  exact ⟨(hf _ (by omega) (by omega)).trans h1, (hf _ (by omega) (by omega)).trans h2, (hf _ (by omega) (by omega)).trans h3, (hf _ (by omega) (by omega)).trans h4, (hf _ (by omega) (by omega)).trans h5⟩
theorem BuP.fr {M M' : mx_M} {b o : Nat} {L : List Bu} (h : BuP M b o L) (hf : ∀ q j, b < q → q ≤ b + 5 → o ≤ j → j < o + L.length → M' q j = M q j) : BuP M' b o L := by
  intro j x hj
  have hl := (List.getElem?_eq_some_iff.mp hj).1
  exact (h j x hj).fr (fun q h1 h2 => hf q _ h1 h2 (by omega) (by omega))
theorem BuP.nil {M : mx_M} {b o : Nat} : BuP M b o [] := fun j x h => by simp at h
theorem BuP.cons {M : mx_M} {b o : Nat} {x : Bu} {L : List Bu} : BuP M b o (x :: L) ↔ BuW M b o x ∧ BuP M b (o + 1) L := by
  constructor
  · intro h
    refine ⟨h 0 x rfl, fun j y hj => ?_⟩
    have := h (j + 1) y (by simpa using hj)
    rwa [show o + (j + 1) = o + 1 + j by omega] at this
  · rintro ⟨h1, h2⟩ j y hj
    cases j with
    | zero => cases hj; exact h1
    | succ j =>
      have := h2 j y (by simpa using hj)
      rwa [show o + 1 + j = o + (j + 1) by omega] at this
theorem BuP.app {M : mx_M} {b : Nat} {L L' : List Bu} : ∀ {o : Nat}, BuP M b o (L ++ L') ↔ BuP M b o L ∧ BuP M b (o + L.length) L' := by
  induction L with
  | nil => intro o; simp [BuP.nil]
  | cons x L ih =>
    intro o
    rw [List.cons_append, BuP.cons, BuP.cons, ih, and_assoc, List.length_cons, show o + 1 + L.length = o + (L.length + 1) by omega]
theorem BuP.snoc {M : mx_M} {b o : Nat} {L : List Bu} {x : Bu} (h1 : BuP M b o L) (h2 : BuW M b (o + L.length) x) : BuP M b o (L ++ [x]) := BuP.app.mpr ⟨h1, BuP.cons.mpr ⟨h2, BuP.nil⟩⟩
/-- nothing but the places from a to b (b not) has changed -/
def Out (M M' : mx_M) (a b : Nat) : Prop := ∀ q, (q < a ∨ b ≤ q) → M' q = M q
theorem Out.rf {M : mx_M} {a b : Nat} : Out M M a b := fun _ _ => rfl
theorem Out.tr {M M1 M2 : mx_M} {a b : Nat} (h1 : Out M M1 a b) (h2 : Out M1 M2 a b) : Out M M2 a b := fun q h => (h2 q h).trans (h1 q h)
theorem Out.wd {M M' : mx_M} {a b a' b' : Nat} (h : Out M M' a b) (h1 : a' ≤ a) (h2 : b ≤ b') : Out M M' a' b' := fun q hq => h q (by omega)
theorem Out.up {M M' : mx_M} {a b p i : Nat} {v : Int32} (h : Out M M' a b) (h1 : a ≤ p) (h2 : p < b) : Out M (mx_up M' p i v) a b := fun q hq => (mx_up_ne (by omega)).trans (h q hq)
/-- a bullet's fall; none: it leaves -/
def fallB (turn : Nat) (x : Bu) : Option Bu :=
  if 11 ≤ x.1 ∨ ((x.2.1 + x.2.2.1 < 1 ∨ 10 < x.2.1 + x.2.2.1) ∧ turn ≠ 1) then none
  else some (x.1 + 1, x.2.1 + (if x.2.1 + x.2.2.1 < 1 ∨ 10 < x.2.1 + x.2.2.1 then 2 - x.2.2.1 else x.2.2.1) - 1, (if x.2.2.2.1 = 1 then 2 - (if x.2.1 + x.2.2.1 < 1 ∨ 10 < x.2.1 + x.2.2.1 then 2 - x.2.2.1 else x.2.2.1) else (if x.2.1 + x.2.2.1 < 1 ∨ 10 < x.2.1 + x.2.2.1 then 2 - x.2.2.1 else x.2.2.1)), x.2.2.2.1, x.2.2.2.2)
theorem fallB_V {turn : Nat} {x y : Bu} (hx : BuV x) (h : fallB turn x = some y) : BuV y := by
  obtain ⟨r, c, d, w, g⟩ := x
  unfold fallB at h
  split at h
  · cases h
  · rename_i hn
    cases h
    obtain ⟨h1, h2, h3, h4, h5⟩ := hx
    dsimp only at h1 h2 h3 h4 h5 hn ⊢
    refine ⟨?_, ?_, ?_, h4, h5⟩
    · omega
    · dsimp only
      split <;> omega
    · dsimp only
      split <;> split <;> omega
/-- what a hit (reach 0) or a bomb takes away -/
def takenB (p reach : Nat) (x : Bu) : Bool := decide (11 ≤ x.1 + reach ∧ adf x.2.1 p ≤ reach)
/-- beside the sprite -/
def nearB (p : Nat) (x : Bu) : Bool := decide ((x.1 = 11 ∧ adf x.2.1 p = 1) ∨ (x.1 = 10 ∧ adf x.2.1 p ≤ 1))
def freshB (p : Nat) (x : Bu) : Bool := decide (x.2.2.2.2 = 0) && nearB p x
def grzB (p : Nat) (x : Bu) : Bu := if freshB p x then (x.1, x.2.1, x.2.2.1, x.2.2.2.1, 1) else x
def atB (r c : Nat) (x : Bu) : Bool := decide (x.1 = r ∧ x.2.1 = c)
theorem grzB_V {p : Nat} {x : Bu} (hx : BuV x) : BuV (grzB p x) := by
  unfold grzB
  split
  · exact ⟨hx.1, hx.2.1, hx.2.2.1, hx.2.2.2.1, Nat.le_refl 2⟩
  · exact hx
theorem bI_rt {P : Prop} [Decidable P] (h : P) : some (Value.int (nI 1)) = some (Value.int (bI P)) := by rw [bI_t h]
theorem bI_rf {P : Prop} [Decidable P] (h : ¬ P) : some (Value.int (nI 0)) = some (Value.int (bI P)) := by rw [bI_f h]
end
section
set_option maxHeartbeats 1000000 in
set_option maxRecDepth 10000 in
theorem t_X7_isColumn (M : mx_M) (x : Int32) : mx_T yX7_isColumn cX7_isColumn 1 (some .boolean) 1 [.int x] M (fun v M' => v = some (.int (bI (0 ≤ x ∧ x < nI 10))) ∧ M' = M) := by
  refine mx_T.of1 (own := RX7) (ls := [some (.int x)]) (by decide +kernel) rfl (Nat.le_of_ble_eq_true rfl) rfl rfl ?_
  refine mx_iload_n (pc' := 1) dX7_isColumn_0 rfl rfl ?_
  refine mx_if_lt (tgt := 14) (pc' := 4) dX7_isColumn_1 (by decide) rfl (fun c1 => ?_) (fun c1 => ?_)
  · refine mx_iconst (pc' := 15) (v := nI 0) dX7_isColumn_14 (by decide) rfl ?_
    refine mx_iret dX7_isColumn_15 (Or.inr ⟨rfl, by decide⟩) ?_
    first | exact ⟨bI_rt (by (simp (disch := omega) only [Int32.lt_iff_toInt_lt, Int32.le_iff_toInt_le, ← Int32.toInt_inj, ne_eq, nI_t, z_t, m1_t] at * <;> omega)), rfl⟩ | exact ⟨bI_rf (by (simp (disch := omega) only [Int32.lt_iff_toInt_lt, Int32.le_iff_toInt_le, ← Int32.toInt_inj, ne_eq, nI_t, z_t, m1_t] at * <;> omega)), rfl⟩
  · refine mx_iload_n (pc' := 5) dX7_isColumn_4 rfl rfl ?_
    refine mx_bipush (pc' := 7) (v := nI 10) dX7_isColumn_5 (by decide) rfl ?_
    refine mx_icmp_ge (tgt := 14) (pc' := 10) dX7_isColumn_7 (by decide) rfl (fun c7 => ?_) (fun c7 => ?_)
    · refine mx_iconst (pc' := 15) (v := nI 0) dX7_isColumn_14 (by decide) rfl ?_
      refine mx_iret dX7_isColumn_15 (Or.inr ⟨rfl, by decide⟩) ?_
      first | exact ⟨bI_rt (by (simp (disch := omega) only [Int32.lt_iff_toInt_lt, Int32.le_iff_toInt_le, ← Int32.toInt_inj, ne_eq, nI_t, z_t, m1_t] at * <;> omega)), rfl⟩ | exact ⟨bI_rf (by (simp (disch := omega) only [Int32.lt_iff_toInt_lt, Int32.le_iff_toInt_le, ← Int32.toInt_inj, ne_eq, nI_t, z_t, m1_t] at * <;> omega)), rfl⟩
    · refine mx_iconst (pc' := 11) (v := nI 1) dX7_isColumn_10 (by decide) rfl ?_
      refine mx_goto (pc' := 15) dX7_isColumn_11 (by decide) ?_
      refine mx_iret dX7_isColumn_15 (Or.inr ⟨rfl, by decide⟩) ?_
      first | exact ⟨bI_rt (by (simp (disch := omega) only [Int32.lt_iff_toInt_lt, Int32.le_iff_toInt_le, ← Int32.toInt_inj, ne_eq, nI_t, z_t, m1_t] at * <;> omega)), rfl⟩ | exact ⟨bI_rf (by (simp (disch := omega) only [Int32.lt_iff_toInt_lt, Int32.le_iff_toInt_le, ← Int32.toInt_inj, ne_eq, nI_t, z_t, m1_t] at * <;> omega)), rfl⟩

set_option maxHeartbeats 1000000 in
set_option maxRecDepth 10000 in
theorem t_X7_isPattern (M : mx_M) (x : Int32) : mx_T yX7_isPattern cX7_isPattern 1 (some .boolean) 1 [.int x] M (fun v M' => v = some (.int (bI (0 ≤ x ∧ x ≤ nI 5))) ∧ M' = M) := by
  refine mx_T.of1 (own := RX7) (ls := [some (.int x)]) (by decide +kernel) rfl (Nat.le_of_ble_eq_true rfl) rfl rfl ?_
  refine mx_iload_n (pc' := 1) dX7_isPattern_0 rfl rfl ?_
  refine mx_if_lt (tgt := 13) (pc' := 4) dX7_isPattern_1 (by decide) rfl (fun c1 => ?_) (fun c1 => ?_)
  · refine mx_iconst (pc' := 14) (v := nI 0) dX7_isPattern_13 (by decide) rfl ?_
    refine mx_iret dX7_isPattern_14 (Or.inr ⟨rfl, by decide⟩) ?_
    first | exact ⟨bI_rt (by (simp (disch := omega) only [Int32.lt_iff_toInt_lt, Int32.le_iff_toInt_le, ← Int32.toInt_inj, ne_eq, nI_t, z_t, m1_t] at * <;> omega)), rfl⟩ | exact ⟨bI_rf (by (simp (disch := omega) only [Int32.lt_iff_toInt_lt, Int32.le_iff_toInt_le, ← Int32.toInt_inj, ne_eq, nI_t, z_t, m1_t] at * <;> omega)), rfl⟩
  · refine mx_iload_n (pc' := 5) dX7_isPattern_4 rfl rfl ?_
    refine mx_iconst (pc' := 6) (v := nI 5) dX7_isPattern_5 (by decide) rfl ?_
    refine mx_icmp_gt (tgt := 13) (pc' := 9) dX7_isPattern_6 (by decide) rfl (fun c6 => ?_) (fun c6 => ?_)
    · refine mx_iconst (pc' := 14) (v := nI 0) dX7_isPattern_13 (by decide) rfl ?_
      refine mx_iret dX7_isPattern_14 (Or.inr ⟨rfl, by decide⟩) ?_
      first | exact ⟨bI_rt (by (simp (disch := omega) only [Int32.lt_iff_toInt_lt, Int32.le_iff_toInt_le, ← Int32.toInt_inj, ne_eq, nI_t, z_t, m1_t] at * <;> omega)), rfl⟩ | exact ⟨bI_rf (by (simp (disch := omega) only [Int32.lt_iff_toInt_lt, Int32.le_iff_toInt_le, ← Int32.toInt_inj, ne_eq, nI_t, z_t, m1_t] at * <;> omega)), rfl⟩
    · refine mx_iconst (pc' := 10) (v := nI 1) dX7_isPattern_9 (by decide) rfl ?_
      refine mx_goto (pc' := 14) dX7_isPattern_10 (by decide) ?_
      refine mx_iret dX7_isPattern_14 (Or.inr ⟨rfl, by decide⟩) ?_
      first | exact ⟨bI_rt (by (simp (disch := omega) only [Int32.lt_iff_toInt_lt, Int32.le_iff_toInt_le, ← Int32.toInt_inj, ne_eq, nI_t, z_t, m1_t] at * <;> omega)), rfl⟩ | exact ⟨bI_rf (by (simp (disch := omega) only [Int32.lt_iff_toInt_lt, Int32.le_iff_toInt_le, ← Int32.toInt_inj, ne_eq, nI_t, z_t, m1_t] at * <;> omega)), rfl⟩

set_option maxHeartbeats 1000000 in
set_option maxRecDepth 10000 in
theorem t_X7_isPeriod (M : mx_M) (x : Int32) : mx_T yX7_isPeriod cX7_isPeriod 1 (some .boolean) 1 [.int x] M (fun v M' => v = some (.int (bI (nI 1 ≤ x ∧ x ≤ nI 9))) ∧ M' = M) := by
  refine mx_T.of1 (own := RX7) (ls := [some (.int x)]) (by decide +kernel) rfl (Nat.le_of_ble_eq_true rfl) rfl rfl ?_
  refine mx_iload_n (pc' := 1) dX7_isPeriod_0 rfl rfl ?_
  refine mx_iconst (pc' := 2) (v := nI 1) dX7_isPeriod_1 (by decide) rfl ?_
  refine mx_icmp_lt (tgt := 15) (pc' := 5) dX7_isPeriod_2 (by decide) rfl (fun c2 => ?_) (fun c2 => ?_)
  · refine mx_iconst (pc' := 16) (v := nI 0) dX7_isPeriod_15 (by decide) rfl ?_
    refine mx_iret dX7_isPeriod_16 (Or.inr ⟨rfl, by decide⟩) ?_
    first | exact ⟨bI_rt (by (simp (disch := omega) only [Int32.lt_iff_toInt_lt, Int32.le_iff_toInt_le, ← Int32.toInt_inj, ne_eq, nI_t, z_t, m1_t] at * <;> omega)), rfl⟩ | exact ⟨bI_rf (by (simp (disch := omega) only [Int32.lt_iff_toInt_lt, Int32.le_iff_toInt_le, ← Int32.toInt_inj, ne_eq, nI_t, z_t, m1_t] at * <;> omega)), rfl⟩
  · refine mx_iload_n (pc' := 6) dX7_isPeriod_5 rfl rfl ?_
    refine mx_bipush (pc' := 8) (v := nI 9) dX7_isPeriod_6 (by decide) rfl ?_
    refine mx_icmp_gt (tgt := 15) (pc' := 11) dX7_isPeriod_8 (by decide) rfl (fun c8 => ?_) (fun c8 => ?_)
    · refine mx_iconst (pc' := 16) (v := nI 0) dX7_isPeriod_15 (by decide) rfl ?_
      refine mx_iret dX7_isPeriod_16 (Or.inr ⟨rfl, by decide⟩) ?_
      first | exact ⟨bI_rt (by (simp (disch := omega) only [Int32.lt_iff_toInt_lt, Int32.le_iff_toInt_le, ← Int32.toInt_inj, ne_eq, nI_t, z_t, m1_t] at * <;> omega)), rfl⟩ | exact ⟨bI_rf (by (simp (disch := omega) only [Int32.lt_iff_toInt_lt, Int32.le_iff_toInt_le, ← Int32.toInt_inj, ne_eq, nI_t, z_t, m1_t] at * <;> omega)), rfl⟩
    · refine mx_iconst (pc' := 12) (v := nI 1) dX7_isPeriod_11 (by decide) rfl ?_
      refine mx_goto (pc' := 16) dX7_isPeriod_12 (by decide) ?_
      refine mx_iret dX7_isPeriod_16 (Or.inr ⟨rfl, by decide⟩) ?_
      first | exact ⟨bI_rt (by (simp (disch := omega) only [Int32.lt_iff_toInt_lt, Int32.le_iff_toInt_le, ← Int32.toInt_inj, ne_eq, nI_t, z_t, m1_t] at * <;> omega)), rfl⟩ | exact ⟨bI_rf (by (simp (disch := omega) only [Int32.lt_iff_toInt_lt, Int32.le_iff_toInt_le, ← Int32.toInt_inj, ne_eq, nI_t, z_t, m1_t] at * <;> omega)), rfl⟩

set_option maxHeartbeats 1000000 in
set_option maxRecDepth 10000 in
theorem t_X7_isStep (M : mx_M) (x : Int32) : mx_T yX7_isStep cX7_isStep 1 (some .boolean) 1 [.int x] M (fun v M' => v = some (.int (bI ((-1) ≤ x ∧ x ≤ nI 1))) ∧ M' = M) := by
  refine mx_T.of1 (own := RX7) (ls := [some (.int x)]) (by decide +kernel) rfl (Nat.le_of_ble_eq_true rfl) rfl rfl ?_
  refine mx_iload_n (pc' := 1) dX7_isStep_0 rfl rfl ?_
  refine mx_iconst (pc' := 2) (v := (-1)) dX7_isStep_1 (by decide) rfl ?_
  refine mx_icmp_lt (tgt := 14) (pc' := 5) dX7_isStep_2 (by decide) rfl (fun c2 => ?_) (fun c2 => ?_)
  · refine mx_iconst (pc' := 15) (v := nI 0) dX7_isStep_14 (by decide) rfl ?_
    refine mx_iret dX7_isStep_15 (Or.inr ⟨rfl, by decide⟩) ?_
    first | exact ⟨bI_rt (by (simp (disch := omega) only [Int32.lt_iff_toInt_lt, Int32.le_iff_toInt_le, ← Int32.toInt_inj, ne_eq, nI_t, z_t, m1_t] at * <;> omega)), rfl⟩ | exact ⟨bI_rf (by (simp (disch := omega) only [Int32.lt_iff_toInt_lt, Int32.le_iff_toInt_le, ← Int32.toInt_inj, ne_eq, nI_t, z_t, m1_t] at * <;> omega)), rfl⟩
  · refine mx_iload_n (pc' := 6) dX7_isStep_5 rfl rfl ?_
    refine mx_iconst (pc' := 7) (v := nI 1) dX7_isStep_6 (by decide) rfl ?_
    refine mx_icmp_gt (tgt := 14) (pc' := 10) dX7_isStep_7 (by decide) rfl (fun c7 => ?_) (fun c7 => ?_)
    · refine mx_iconst (pc' := 15) (v := nI 0) dX7_isStep_14 (by decide) rfl ?_
      refine mx_iret dX7_isStep_15 (Or.inr ⟨rfl, by decide⟩) ?_
      first | exact ⟨bI_rt (by (simp (disch := omega) only [Int32.lt_iff_toInt_lt, Int32.le_iff_toInt_le, ← Int32.toInt_inj, ne_eq, nI_t, z_t, m1_t] at * <;> omega)), rfl⟩ | exact ⟨bI_rf (by (simp (disch := omega) only [Int32.lt_iff_toInt_lt, Int32.le_iff_toInt_le, ← Int32.toInt_inj, ne_eq, nI_t, z_t, m1_t] at * <;> omega)), rfl⟩
    · refine mx_iconst (pc' := 11) (v := nI 1) dX7_isStep_10 (by decide) rfl ?_
      refine mx_goto (pc' := 15) dX7_isStep_11 (by decide) ?_
      refine mx_iret dX7_isStep_15 (Or.inr ⟨rfl, by decide⟩) ?_
      first | exact ⟨bI_rt (by (simp (disch := omega) only [Int32.lt_iff_toInt_lt, Int32.le_iff_toInt_le, ← Int32.toInt_inj, ne_eq, nI_t, z_t, m1_t] at * <;> omega)), rfl⟩ | exact ⟨bI_rf (by (simp (disch := omega) only [Int32.lt_iff_toInt_lt, Int32.le_iff_toInt_le, ← Int32.toInt_inj, ne_eq, nI_t, z_t, m1_t] at * <;> omega)), rfl⟩

set_option maxHeartbeats 1000000 in
set_option maxRecDepth 10000 in
theorem t_X7_isSpan (M : mx_M) (x : Int32) : mx_T yX7_isSpan cX7_isSpan 1 (some .boolean) 1 [.int x] M (fun v M' => v = some (.int (bI (nI 1 ≤ x ∧ x ≤ nI 30))) ∧ M' = M) := by
  refine mx_T.of1 (own := RX7) (ls := [some (.int x)]) (by decide +kernel) rfl (Nat.le_of_ble_eq_true rfl) rfl rfl ?_
  refine mx_iload_n (pc' := 1) dX7_isSpan_0 rfl rfl ?_
  refine mx_iconst (pc' := 2) (v := nI 1) dX7_isSpan_1 (by decide) rfl ?_
  refine mx_icmp_lt (tgt := 15) (pc' := 5) dX7_isSpan_2 (by decide) rfl (fun c2 => ?_) (fun c2 => ?_)
  · refine mx_iconst (pc' := 16) (v := nI 0) dX7_isSpan_15 (by decide) rfl ?_
    refine mx_iret dX7_isSpan_16 (Or.inr ⟨rfl, by decide⟩) ?_
    first | exact ⟨bI_rt (by (simp (disch := omega) only [Int32.lt_iff_toInt_lt, Int32.le_iff_toInt_le, ← Int32.toInt_inj, ne_eq, nI_t, z_t, m1_t] at * <;> omega)), rfl⟩ | exact ⟨bI_rf (by (simp (disch := omega) only [Int32.lt_iff_toInt_lt, Int32.le_iff_toInt_le, ← Int32.toInt_inj, ne_eq, nI_t, z_t, m1_t] at * <;> omega)), rfl⟩
  · refine mx_iload_n (pc' := 6) dX7_isSpan_5 rfl rfl ?_
    refine mx_bipush (pc' := 8) (v := nI 30) dX7_isSpan_6 (by decide) rfl ?_
    refine mx_icmp_gt (tgt := 15) (pc' := 11) dX7_isSpan_8 (by decide) rfl (fun c8 => ?_) (fun c8 => ?_)
    · refine mx_iconst (pc' := 16) (v := nI 0) dX7_isSpan_15 (by decide) rfl ?_
      refine mx_iret dX7_isSpan_16 (Or.inr ⟨rfl, by decide⟩) ?_
      first | exact ⟨bI_rt (by (simp (disch := omega) only [Int32.lt_iff_toInt_lt, Int32.le_iff_toInt_le, ← Int32.toInt_inj, ne_eq, nI_t, z_t, m1_t] at * <;> omega)), rfl⟩ | exact ⟨bI_rf (by (simp (disch := omega) only [Int32.lt_iff_toInt_lt, Int32.le_iff_toInt_le, ← Int32.toInt_inj, ne_eq, nI_t, z_t, m1_t] at * <;> omega)), rfl⟩
    · refine mx_iconst (pc' := 12) (v := nI 1) dX7_isSpan_11 (by decide) rfl ?_
      refine mx_goto (pc' := 16) dX7_isSpan_12 (by decide) ?_
      refine mx_iret dX7_isSpan_16 (Or.inr ⟨rfl, by decide⟩) ?_
      first | exact ⟨bI_rt (by (simp (disch := omega) only [Int32.lt_iff_toInt_lt, Int32.le_iff_toInt_le, ← Int32.toInt_inj, ne_eq, nI_t, z_t, m1_t] at * <;> omega)), rfl⟩ | exact ⟨bI_rf (by (simp (disch := omega) only [Int32.lt_iff_toInt_lt, Int32.le_iff_toInt_le, ← Int32.toInt_inj, ne_eq, nI_t, z_t, m1_t] at * <;> omega)), rfl⟩

set_option maxHeartbeats 1000000 in
set_option maxRecDepth 10000 in
theorem t_X7_isSetting (M : mx_M) (x y : Int32) : mx_T yX7_isSetting cX7_isSetting 2 (some .boolean) 1 [.int x, .int y] M (fun v M' => v = some (.int (bI ((x = 0 ∧ (y = 0 ∨ y = nI 1)) ∨ (x = nI 1 ∧ nI 1 ≤ y ∧ y ≤ nI 5)))) ∧ M' = M) := by
  refine mx_T.of1 (own := RX7) (ls := [some (.int x), some (.int y)]) (by decide +kernel) rfl (Nat.le_of_ble_eq_true rfl) rfl rfl ?_
  refine mx_iload_n (pc' := 1) dX7_isSetting_0 rfl rfl ?_
  refine mx_if_ne (tgt := 19) (pc' := 4) dX7_isSetting_1 (by decide) rfl (fun c1 => ?_) (fun c1 => ?_)
  · refine mx_iload_n (pc' := 20) dX7_isSetting_19 rfl rfl ?_
    refine mx_iconst (pc' := 21) (v := nI 1) dX7_isSetting_20 (by decide) rfl ?_
    refine mx_icmp_ne (tgt := 38) (pc' := 24) dX7_isSetting_21 (by decide) rfl (fun c21 => ?_) (fun c21 => ?_)
    · refine mx_iconst (pc' := 39) (v := nI 0) dX7_isSetting_38 (by decide) rfl ?_
      refine mx_iret dX7_isSetting_39 (Or.inr ⟨rfl, by decide⟩) ?_
      first | exact ⟨bI_rt (by (simp (disch := omega) only [Int32.lt_iff_toInt_lt, Int32.le_iff_toInt_le, ← Int32.toInt_inj, ne_eq, nI_t, z_t, m1_t] at * <;> omega)), rfl⟩ | exact ⟨bI_rf (by (simp (disch := omega) only [Int32.lt_iff_toInt_lt, Int32.le_iff_toInt_le, ← Int32.toInt_inj, ne_eq, nI_t, z_t, m1_t] at * <;> omega)), rfl⟩
    · refine mx_iload_n (pc' := 25) dX7_isSetting_24 rfl rfl ?_
      refine mx_iconst (pc' := 26) (v := nI 1) dX7_isSetting_25 (by decide) rfl ?_
      refine mx_icmp_lt (tgt := 38) (pc' := 29) dX7_isSetting_26 (by decide) rfl (fun c26 => ?_) (fun c26 => ?_)
      · refine mx_iconst (pc' := 39) (v := nI 0) dX7_isSetting_38 (by decide) rfl ?_
        refine mx_iret dX7_isSetting_39 (Or.inr ⟨rfl, by decide⟩) ?_
        first | exact ⟨bI_rt (by (simp (disch := omega) only [Int32.lt_iff_toInt_lt, Int32.le_iff_toInt_le, ← Int32.toInt_inj, ne_eq, nI_t, z_t, m1_t] at * <;> omega)), rfl⟩ | exact ⟨bI_rf (by (simp (disch := omega) only [Int32.lt_iff_toInt_lt, Int32.le_iff_toInt_le, ← Int32.toInt_inj, ne_eq, nI_t, z_t, m1_t] at * <;> omega)), rfl⟩
      · refine mx_iload_n (pc' := 30) dX7_isSetting_29 rfl rfl ?_
        refine mx_iconst (pc' := 31) (v := nI 5) dX7_isSetting_30 (by decide) rfl ?_
        refine mx_icmp_gt (tgt := 38) (pc' := 34) dX7_isSetting_31 (by decide) rfl (fun c31 => ?_) (fun c31 => ?_)
        · refine mx_iconst (pc' := 39) (v := nI 0) dX7_isSetting_38 (by decide) rfl ?_
          refine mx_iret dX7_isSetting_39 (Or.inr ⟨rfl, by decide⟩) ?_
          first | exact ⟨bI_rt (by (simp (disch := omega) only [Int32.lt_iff_toInt_lt, Int32.le_iff_toInt_le, ← Int32.toInt_inj, ne_eq, nI_t, z_t, m1_t] at * <;> omega)), rfl⟩ | exact ⟨bI_rf (by (simp (disch := omega) only [Int32.lt_iff_toInt_lt, Int32.le_iff_toInt_le, ← Int32.toInt_inj, ne_eq, nI_t, z_t, m1_t] at * <;> omega)), rfl⟩
        · refine mx_iconst (pc' := 35) (v := nI 1) dX7_isSetting_34 (by decide) rfl ?_
          refine mx_goto (pc' := 39) dX7_isSetting_35 (by decide) ?_
          refine mx_iret dX7_isSetting_39 (Or.inr ⟨rfl, by decide⟩) ?_
          first | exact ⟨bI_rt (by (simp (disch := omega) only [Int32.lt_iff_toInt_lt, Int32.le_iff_toInt_le, ← Int32.toInt_inj, ne_eq, nI_t, z_t, m1_t] at * <;> omega)), rfl⟩ | exact ⟨bI_rf (by (simp (disch := omega) only [Int32.lt_iff_toInt_lt, Int32.le_iff_toInt_le, ← Int32.toInt_inj, ne_eq, nI_t, z_t, m1_t] at * <;> omega)), rfl⟩
  · refine mx_iload_n (pc' := 5) dX7_isSetting_4 rfl rfl ?_
    refine mx_if_eq (tgt := 13) (pc' := 8) dX7_isSetting_5 (by decide) rfl (fun c5 => ?_) (fun c5 => ?_)
    · refine mx_iconst (pc' := 14) (v := nI 1) dX7_isSetting_13 (by decide) rfl ?_
      refine mx_goto (pc' := 18) dX7_isSetting_14 (by decide) ?_
      refine mx_iret dX7_isSetting_18 (Or.inr ⟨rfl, by decide⟩) ?_
      first | exact ⟨bI_rt (by (simp (disch := omega) only [Int32.lt_iff_toInt_lt, Int32.le_iff_toInt_le, ← Int32.toInt_inj, ne_eq, nI_t, z_t, m1_t] at * <;> omega)), rfl⟩ | exact ⟨bI_rf (by (simp (disch := omega) only [Int32.lt_iff_toInt_lt, Int32.le_iff_toInt_le, ← Int32.toInt_inj, ne_eq, nI_t, z_t, m1_t] at * <;> omega)), rfl⟩
    · refine mx_iload_n (pc' := 9) dX7_isSetting_8 rfl rfl ?_
      refine mx_iconst (pc' := 10) (v := nI 1) dX7_isSetting_9 (by decide) rfl ?_
      refine mx_icmp_ne (tgt := 17) (pc' := 13) dX7_isSetting_10 (by decide) rfl (fun c10 => ?_) (fun c10 => ?_)
      · refine mx_iconst (pc' := 18) (v := nI 0) dX7_isSetting_17 (by decide) rfl ?_
        refine mx_iret dX7_isSetting_18 (Or.inr ⟨rfl, by decide⟩) ?_
        first | exact ⟨bI_rt (by (simp (disch := omega) only [Int32.lt_iff_toInt_lt, Int32.le_iff_toInt_le, ← Int32.toInt_inj, ne_eq, nI_t, z_t, m1_t] at * <;> omega)), rfl⟩ | exact ⟨bI_rf (by (simp (disch := omega) only [Int32.lt_iff_toInt_lt, Int32.le_iff_toInt_le, ← Int32.toInt_inj, ne_eq, nI_t, z_t, m1_t] at * <;> omega)), rfl⟩
      · refine mx_iconst (pc' := 14) (v := nI 1) dX7_isSetting_13 (by decide) rfl ?_
        refine mx_goto (pc' := 18) dX7_isSetting_14 (by decide) ?_
        refine mx_iret dX7_isSetting_18 (Or.inr ⟨rfl, by decide⟩) ?_
        first | exact ⟨bI_rt (by (simp (disch := omega) only [Int32.lt_iff_toInt_lt, Int32.le_iff_toInt_le, ← Int32.toInt_inj, ne_eq, nI_t, z_t, m1_t] at * <;> omega)), rfl⟩ | exact ⟨bI_rf (by (simp (disch := omega) only [Int32.lt_iff_toInt_lt, Int32.le_iff_toInt_le, ← Int32.toInt_inj, ne_eq, nI_t, z_t, m1_t] at * <;> omega)), rfl⟩

set_option maxHeartbeats 1000000 in
set_option maxRecDepth 10000 in
theorem t_J6_compare_7cf53 (M : mx_M) (x y : Int32) : mx_T yJ6_compare_7cf53 cJ6_compare_7cf53 2 (some .int) 1 [.int x, .int y] M (fun v M' => v = some (.int (if x < y then (-1) else if x = y then nI 0 else nI 1)) ∧ M' = M) := by
  refine mx_T.of1 (own := RJ6) (ls := [some (.int x), some (.int y)]) (by decide +kernel) rfl (Nat.le_of_ble_eq_true rfl) rfl rfl ?_
  refine mx_iload_n (pc' := 1) dJ6_compare_7cf53_0 rfl rfl ?_
  refine mx_iload_n (pc' := 2) dJ6_compare_7cf53_1 rfl rfl ?_
  refine mx_icmp_ge (tgt := 9) (pc' := 5) dJ6_compare_7cf53_2 (by decide) rfl (fun c2 => ?_) (fun c2 => ?_)
  · have c2 : ¬ x < y := Int32.not_lt.mpr c2
    refine mx_iload_n (pc' := 10) dJ6_compare_7cf53_9 rfl rfl ?_
    refine mx_iload_n (pc' := 11) dJ6_compare_7cf53_10 rfl rfl ?_
    refine mx_icmp_ne (tgt := 18) (pc' := 14) dJ6_compare_7cf53_11 (by decide) rfl (fun c11 => ?_) (fun c11 => ?_)
    · refine mx_iconst (pc' := 19) (v := nI 1) dJ6_compare_7cf53_18 (by decide) rfl ?_
      refine mx_iret dJ6_compare_7cf53_19 (Or.inl rfl) ?_
      exact ⟨by simp [*], rfl⟩
    · refine mx_iconst (pc' := 15) (v := nI 0) dJ6_compare_7cf53_14 (by decide) rfl ?_
      refine mx_goto (pc' := 19) dJ6_compare_7cf53_15 (by decide) ?_
      refine mx_iret dJ6_compare_7cf53_19 (Or.inl rfl) ?_
      exact ⟨by simp [*], rfl⟩
  · have c2 : x < y := Int32.not_le.mp c2
    refine mx_iconst (pc' := 6) (v := (-1)) dJ6_compare_7cf53_5 (by decide) rfl ?_
    refine mx_goto (pc' := 19) dJ6_compare_7cf53_6 (by decide) ?_
    refine mx_iret dJ6_compare_7cf53_19 (Or.inl rfl) ?_
    exact ⟨by simp [*], rfl⟩

set_option maxHeartbeats 1000000 in
set_option maxRecDepth 10000 in
theorem t_X0_has (M : mx_M) (b n : Nat) (hs : BuS b) (hn : M b 5 = nI n) (h60 : n ≤ 60) (x : Int32) : mx_T yX0_has cX0_has 2 (some .boolean) 1 [.ref b, .int x] M (fun v M' => v = some (.int (bI (0 ≤ x ∧ x < nI n))) ∧ M' = M) := by
  obtain ⟨s0, s1, s2, s3, s4, s5⟩ := hs
  refine mx_T.of1 (own := RX0) (ls := [some (.ref b), some (.int x)]) (by decide +kernel) rfl (Nat.le_of_ble_eq_true rfl) rfl rfl ?_
  refine mx_iload_n (pc' := 1) dX0_has_0 rfl rfl ?_
  refine mx_if_lt (tgt := 16) (pc' := 4) dX0_has_1 (by decide) rfl (fun c1 => ?_) (fun c1 => ?_)
  · refine mx_iconst (pc' := 17) (v := nI 0) dX0_has_16 (by decide) rfl ?_
    refine mx_iret dX0_has_17 (Or.inr ⟨rfl, by decide⟩) ?_
    first | exact ⟨bI_rt (by (simp (disch := omega) only [Int32.lt_iff_toInt_lt, Int32.le_iff_toInt_le, ← Int32.toInt_inj, ne_eq, nI_t, z_t, m1_t] at * <;> omega)), rfl⟩ | exact ⟨bI_rf (by (simp (disch := omega) only [Int32.lt_iff_toInt_lt, Int32.le_iff_toInt_le, ← Int32.toInt_inj, ne_eq, nI_t, z_t, m1_t] at * <;> omega)), rfl⟩
  · refine mx_iload_n (pc' := 5) dX0_has_4 rfl rfl ?_
    refine mx_aload_n (pc' := 6) dX0_has_5 rfl rfl ?_
    refine mx_getf (pc' := 9) (v := nI n) dX0_has_6 fl_X0_28 (by assumption) (by rfl) (hn) rfl ?_
    refine mx_icmp_ge (tgt := 16) (pc' := 12) dX0_has_9 (by decide) rfl (fun c9 => ?_) (fun c9 => ?_)
    · refine mx_iconst (pc' := 17) (v := nI 0) dX0_has_16 (by decide) rfl ?_
      refine mx_iret dX0_has_17 (Or.inr ⟨rfl, by decide⟩) ?_
      first | exact ⟨bI_rt (by (simp (disch := omega) only [Int32.lt_iff_toInt_lt, Int32.le_iff_toInt_le, ← Int32.toInt_inj, ne_eq, nI_t, z_t, m1_t] at * <;> omega)), rfl⟩ | exact ⟨bI_rf (by (simp (disch := omega) only [Int32.lt_iff_toInt_lt, Int32.le_iff_toInt_le, ← Int32.toInt_inj, ne_eq, nI_t, z_t, m1_t] at * <;> omega)), rfl⟩
    · refine mx_iconst (pc' := 13) (v := nI 1) dX0_has_12 (by decide) rfl ?_
      refine mx_goto (pc' := 17) dX0_has_13 (by decide) ?_
      refine mx_iret dX0_has_17 (Or.inr ⟨rfl, by decide⟩) ?_
      first | exact ⟨bI_rt (by (simp (disch := omega) only [Int32.lt_iff_toInt_lt, Int32.le_iff_toInt_le, ← Int32.toInt_inj, ne_eq, nI_t, z_t, m1_t] at * <;> omega)), rfl⟩ | exact ⟨bI_rf (by (simp (disch := omega) only [Int32.lt_iff_toInt_lt, Int32.le_iff_toInt_le, ← Int32.toInt_inj, ne_eq, nI_t, z_t, m1_t] at * <;> omega)), rfl⟩

set_option maxHeartbeats 1000000 in
set_option maxRecDepth 10000 in
theorem t_X0_keepOnly (M : mx_M) (b n : Nat) (hs : BuS b) (hn : M b 5 = nI n) (k : Nat) (hk : k ≤ n) : mx_T yX0_keepOnly cX0_keepOnly 3 (some .int) 1 [.ref b, .int (nI k)] M (fun v M' => v = some (.int (nI (n - k))) ∧ M' = mx_up M b 5 (nI k)) := by
  obtain ⟨s0, s1, s2, s3, s4, s5⟩ := hs
  refine mx_T.of1 (own := RX0) (ls := [some (.ref b), some (.int (nI k)), none]) (by decide +kernel) rfl (Nat.le_of_ble_eq_true rfl) rfl rfl ?_
  refine mx_aload_n (pc' := 1) dX0_keepOnly_0 rfl rfl ?_
  refine mx_getf (pc' := 4) (v := nI n) dX0_keepOnly_1 fl_X0_28 (by assumption) (by rfl) (hn) rfl ?_
  refine mx_iload_n (pc' := 5) dX0_keepOnly_4 rfl rfl ?_
  refine mx_isub (pc' := 6) (v := nI (n - k)) dX0_keepOnly_5 (pk_sub hk) rfl ?_
  refine mx_istore_n (pc' := 7) (ls' := [_, _, _]) dX0_keepOnly_6 (by decide) rfl rfl rfl ?_
  refine mx_aload_n (pc' := 8) dX0_keepOnly_7 rfl rfl ?_
  refine mx_iload_n (pc' := 9) dX0_keepOnly_8 rfl rfl ?_
  refine mx_putf (pc' := 12) dX0_keepOnly_9 fl_X0_28 (by assumption) (by rfl) (⟨rfl, rfl⟩) rfl ?_
  refine mx_iload_n (pc' := 13) dX0_keepOnly_12 rfl rfl ?_
  refine mx_iret dX0_keepOnly_13 (Or.inl rfl) ?_
  exact ⟨rfl, rfl⟩

set_option maxHeartbeats 1000000 in
set_option maxRecDepth 10000 in
theorem t_X0_put (M : mx_M) (b b' : Nat) (hs : BuS b) (hs' : BuS b') (hb : b' = b ∨ b + 6 ≤ b' ∨ b' + 6 ≤ b) (t f : Nat) (ht : t < 60) (hf : f < 60) (h4 : vp_nar .boolean (M (b' + 4) f) = M (b' + 4) f) (h5 : vp_nar .boolean (M (b' + 5) f) = M (b' + 5) f) : mx_T yX0_put cX0_put 4 none 1 [.ref b, .int (nI t), .ref b', .int (nI f)] M (fun v M' => v = none ∧ (∀ q j, (q < b + 1 ∨ b + 5 < q ∨ j ≠ t) → M' q j = M q j) ∧ M' (b + 1) t = M (b' + 1) f ∧ M' (b + 2) t = M (b' + 2) f ∧ M' (b + 3) t = M (b' + 3) f ∧ M' (b + 4) t = M (b' + 4) f ∧ M' (b + 5) t = M (b' + 5) f) := by
  obtain ⟨s0, s1, s2, s3, s4, s5⟩ := hs
  obtain ⟨u0, u1, u2, u3, u4, u5⟩ := hs'
  refine mx_T.of1 (own := RX0) (ls := [some (.ref b), some (.int (nI t)), some (.ref b'), some (.int (nI f))]) (by decide +kernel) rfl (Nat.le_of_ble_eq_true rfl) rfl rfl ?_
  refine mx_aload_n (pc' := 1) dX0_put_0 rfl rfl ?_
  refine mx_getr (pc' := 4) dX0_put_1 fl_X0_9 (by assumption) (by rfl) rfl ?_
  refine mx_iload_n (pc' := 5) dX0_put_4 rfl rfl ?_
  refine mx_aload_n (pc' := 6) dX0_put_5 rfl rfl ?_
  refine mx_getr (pc' := 9) dX0_put_6 fl_X0_9 (by assumption) (by rfl) rfl ?_
  refine mx_iload_n (pc' := 10) dX0_put_9 rfl rfl ?_
  refine mx_iald (pc' := 11) (v := M (b' + 1) f) dX0_put_10 (by assumption) (rfl) (by omega) (by simp only [mx_up]; repeat rw [if_neg (by omega)]) rfl ?_
  refine mx_iast (pc' := 12) dX0_put_11 (by assumption) (rfl) (by omega) rfl ?_
  refine mx_aload_n (pc' := 13) dX0_put_12 rfl rfl ?_
  refine mx_getr (pc' := 16) dX0_put_13 fl_X0_15 (by assumption) (by rfl) rfl ?_
  refine mx_iload_n (pc' := 17) dX0_put_16 rfl rfl ?_
  refine mx_aload_n (pc' := 18) dX0_put_17 rfl rfl ?_
  refine mx_getr (pc' := 21) dX0_put_18 fl_X0_15 (by assumption) (by rfl) rfl ?_
  refine mx_iload_n (pc' := 22) dX0_put_21 rfl rfl ?_
  refine mx_iald (pc' := 23) (v := M (b' + 2) f) dX0_put_22 (by assumption) (rfl) (by omega) (by simp only [mx_up]; repeat rw [if_neg (by omega)]) rfl ?_
  refine mx_iast (pc' := 24) dX0_put_23 (by assumption) (rfl) (by omega) rfl ?_
  refine mx_aload_n (pc' := 25) dX0_put_24 rfl rfl ?_
  refine mx_getr (pc' := 28) dX0_put_25 fl_X0_18 (by assumption) (by rfl) rfl ?_
  refine mx_iload_n (pc' := 29) dX0_put_28 rfl rfl ?_
  refine mx_aload_n (pc' := 30) dX0_put_29 rfl rfl ?_
  refine mx_getr (pc' := 33) dX0_put_30 fl_X0_18 (by assumption) (by rfl) rfl ?_
  refine mx_iload_n (pc' := 34) dX0_put_33 rfl rfl ?_
  refine mx_iald (pc' := 35) (v := M (b' + 3) f) dX0_put_34 (by assumption) (rfl) (by omega) (by simp only [mx_up]; repeat rw [if_neg (by omega)]) rfl ?_
  refine mx_iast (pc' := 36) dX0_put_35 (by assumption) (rfl) (by omega) rfl ?_
  refine mx_aload_n (pc' := 37) dX0_put_36 rfl rfl ?_
  refine mx_getr (pc' := 40) dX0_put_37 fl_X0_21 (by assumption) (by rfl) rfl ?_
  refine mx_iload_n (pc' := 41) dX0_put_40 rfl rfl ?_
  refine mx_aload_n (pc' := 42) dX0_put_41 rfl rfl ?_
  refine mx_getr (pc' := 45) dX0_put_42 fl_X0_21 (by assumption) (by rfl) rfl ?_
  refine mx_iload_n (pc' := 46) dX0_put_45 rfl rfl ?_
  refine mx_bald (pc' := 47) (v := M (b' + 4) f) dX0_put_46 (by assumption) (rfl) (by omega) (by simp only [mx_up]; repeat rw [if_neg (by omega)]) rfl ?_
  refine mx_bast (pc' := 48) dX0_put_47 (by assumption) (rfl) (by omega) (h4) rfl ?_
  refine mx_aload_n (pc' := 49) dX0_put_48 rfl rfl ?_
  refine mx_getr (pc' := 52) dX0_put_49 fl_X0_25 (by assumption) (by rfl) rfl ?_
  refine mx_iload_n (pc' := 53) dX0_put_52 rfl rfl ?_
  refine mx_aload_n (pc' := 54) dX0_put_53 rfl rfl ?_
  refine mx_getr (pc' := 57) dX0_put_54 fl_X0_25 (by assumption) (by rfl) rfl ?_
  refine mx_iload_n (pc' := 58) dX0_put_57 rfl rfl ?_
  refine mx_bald (pc' := 59) (v := M (b' + 5) f) dX0_put_58 (by assumption) (rfl) (by omega) (by simp only [mx_up]; repeat rw [if_neg (by omega)]) rfl ?_
  refine mx_bast (pc' := 60) dX0_put_59 (by assumption) (rfl) (by omega) (h5) rfl ?_
  refine mx_vret dX0_put_60 rfl ?_
  refine ⟨rfl, fun q j hq => ?_, ?_, ?_, ?_, ?_, ?_⟩
  · simp only [mx_up]
    by_cases hj : j = t
    · subst hj
      repeat rw [if_neg (by omega)]
    · simp [hj]
  all_goals (simp [mx_up])

/-- put, of a bullet that is known -/
theorem t_X0_putW (M : mx_M) (b b' : Nat) (hs : BuS b) (hs' : BuS b') (hb : b' = b ∨ b + 6 ≤ b' ∨ b' + 6 ≤ b) (t f : Nat) (ht : t < 60) (hf : f < 60) (x : Bu) (hx : BuW M b' f x) (hV : BuV x) : mx_T yX0_put cX0_put 4 none 1 [.ref b, .int (nI t), .ref b', .int (nI f)] M (fun v M' => v = none ∧ (∀ q j, (q < b + 1 ∨ b + 5 < q ∨ j ≠ t) → M' q j = M q j) ∧ BuW M' b t x) := by
  obtain ⟨x1, x2, x3, x4, x5⟩ := hx
  refine (t_X0_put M b b' hs hs' hb t f ht hf (by rw [x4]; exact nI_vb hV.2.2.2.1) (by rw [x5]; exact nI_vb hV.2.2.2.2)).post ?_
  rintro v M' ⟨e, h, h1, h2, h3, h4, h5⟩
  exact ⟨e, h, h1.trans x1, h2.trans x2, h3.trans x3, h4.trans x4, h5.trans x5⟩
end
section
theorem take_snoc {α : Type} {L : List α} {i : Nat} {x : α} (h : L[i]? = some x) : L.take (i + 1) = L.take i ++ [x] := by
  rw [List.take_add_one, h]; rfl
theorem get_lt {α : Type} {L : List α} {i : Nat} (h : i < L.length) : ∃ x, L[i]? = some x := ⟨_, List.getElem?_eq_getElem h⟩
theorem len_lt {α : Type} {L : List α} {i : Nat} {x : α} (h : L[i]? = some x) : i < L.length := (List.getElem?_eq_some_iff.mp h).1
theorem take_len {α : Type} {L : List α} {i : Nat} (h : L.length ≤ i) : L.take i = L := List.take_of_length_le h
theorem BuP.at {M : mx_M} {b : Nat} {L : List Bu} (h : BuP M b 0 L) {i : Nat} {x : Bu} (hx : L[i]? = some x) : BuW M b i x := by
  have := h i x hx
  rwa [Nat.zero_add] at this
set_option maxHeartbeats 1000000 in
set_option maxRecDepth 10000 in
theorem t_X0_add (M : mx_M) (b : Nat) (hs : BuS b) (L : List Bu) (hA : BuA M b L) (c d w : Nat) (hc : c < 10) (hd : d < 3) (hw : w < 2) : mx_T yX0_add cX0_add 4 (some .boolean) 1 [.ref b, .int (nI c), .int (dr d), .int (nI w)] M (fun v M' => (L.length < 60 → v = some (.int (nI 1)) ∧ BuA M' b (L ++ [(0, c, d, w, 0)]) ∧ Out M M' b (b + 6)) ∧ (¬ L.length < 60 → v = some (.int (nI 0)) ∧ M' = M)) := by
  obtain ⟨s0, s1, s2, s3, s4, s5⟩ := hs
  obtain ⟨hn, hL, hP⟩ := hA
  have h60 := hL.1
  refine mx_T.of1 (own := RX0) (ls := [some (.ref b), some (.int (nI c)), some (.int (dr d)), some (.int (nI w))]) (by decide +kernel) rfl (Nat.le_of_ble_eq_true rfl) rfl rfl ?_
  refine mx_aload_n (pc' := 1) dX0_add_0 rfl rfl ?_
  refine mx_getf (pc' := 4) (v := nI L.length) dX0_add_1 fl_X0_28 (by assumption) (by rfl) (hn) rfl ?_
  refine mx_bipush (pc' := 6) (v := nI 60) dX0_add_4 (by decide) rfl ?_
  refine mx_icmp_lt (tgt := 11) (pc' := 9) dX0_add_6 (by decide) rfl (fun c6 => ?_) (fun c6 => ?_)
  · have c6 := (nI_ltI (by omega) (by omega)).mp c6
    refine mx_aload_n (pc' := 12) dX0_add_11 rfl rfl ?_
    refine mx_getr (pc' := 15) dX0_add_12 fl_X0_9 (by assumption) (by rfl) rfl ?_
    refine mx_aload_n (pc' := 16) dX0_add_15 rfl rfl ?_
    refine mx_getf (pc' := 19) (v := nI L.length) dX0_add_16 fl_X0_28 (by assumption) (by rfl) (hn) rfl ?_
    refine mx_iconst (pc' := 20) (v := nI 0) dX0_add_19 (by decide) rfl ?_
    refine mx_iast (pc' := 21) dX0_add_20 (by assumption) (rfl) (by omega) rfl ?_
    refine mx_aload_n (pc' := 22) dX0_add_21 rfl rfl ?_
    refine mx_getr (pc' := 25) dX0_add_22 fl_X0_15 (by assumption) (by rfl) rfl ?_
    refine mx_aload_n (pc' := 26) dX0_add_25 rfl rfl ?_
    refine mx_getf (pc' := 29) (v := nI L.length) dX0_add_26 fl_X0_28 (by assumption) (by rfl) (((by simp only [mx_up]; repeat rw [if_neg (by omega)]) : _ = M b 5).trans hn) rfl ?_
    refine mx_iload_n (pc' := 30) dX0_add_29 rfl rfl ?_
    refine mx_iast (pc' := 31) dX0_add_30 (by assumption) (rfl) (by omega) rfl ?_
    refine mx_aload_n (pc' := 32) dX0_add_31 rfl rfl ?_
    refine mx_getr (pc' := 35) dX0_add_32 fl_X0_18 (by assumption) (by rfl) rfl ?_
    refine mx_aload_n (pc' := 36) dX0_add_35 rfl rfl ?_
    refine mx_getf (pc' := 39) (v := nI L.length) dX0_add_36 fl_X0_28 (by assumption) (by rfl) (((by simp only [mx_up]; repeat rw [if_neg (by omega)]) : _ = M b 5).trans hn) rfl ?_
    refine mx_iload_n (pc' := 40) dX0_add_39 rfl rfl ?_
    refine mx_iast (pc' := 41) dX0_add_40 (by assumption) (rfl) (by omega) rfl ?_
    refine mx_aload_n (pc' := 42) dX0_add_41 rfl rfl ?_
    refine mx_getr (pc' := 45) dX0_add_42 fl_X0_21 (by assumption) (by rfl) rfl ?_
    refine mx_aload_n (pc' := 46) dX0_add_45 rfl rfl ?_
    refine mx_getf (pc' := 49) (v := nI L.length) dX0_add_46 fl_X0_28 (by assumption) (by rfl) (((by simp only [mx_up]; repeat rw [if_neg (by omega)]) : _ = M b 5).trans hn) rfl ?_
    refine mx_iload_n (pc' := 50) dX0_add_49 rfl rfl ?_
    refine mx_bast (pc' := 51) dX0_add_50 (by assumption) (rfl) (by omega) (nI_vb hw) rfl ?_
    refine mx_aload_n (pc' := 52) dX0_add_51 rfl rfl ?_
    refine mx_getr (pc' := 55) dX0_add_52 fl_X0_25 (by assumption) (by rfl) rfl ?_
    refine mx_aload_n (pc' := 56) dX0_add_55 rfl rfl ?_
    refine mx_getf (pc' := 59) (v := nI L.length) dX0_add_56 fl_X0_28 (by assumption) (by rfl) (((by simp only [mx_up]; repeat rw [if_neg (by omega)]) : _ = M b 5).trans hn) rfl ?_
    refine mx_iconst (pc' := 60) (v := nI 0) dX0_add_59 (by decide) rfl ?_
    refine mx_bast (pc' := 61) dX0_add_60 (by assumption) (rfl) (by omega) (by decide) rfl ?_
    refine mx_aload_n (pc' := 62) dX0_add_61 rfl rfl ?_
    refine mx_dup (pc' := 63) dX0_add_62 rfl rfl ?_
    refine mx_getf (pc' := 66) (v := nI L.length) dX0_add_63 fl_X0_28 (by assumption) (by rfl) (((by simp only [mx_up]; repeat rw [if_neg (by omega)]) : _ = M b 5).trans hn) rfl ?_
    refine mx_iconst (pc' := 67) (v := nI 1) dX0_add_66 (by decide) rfl ?_
    refine mx_iadd (pc' := 68) (v := nI (L.length + 1)) dX0_add_67 (nI_add _ 1) rfl ?_
    refine mx_putf (pc' := 71) dX0_add_68 fl_X0_28 (by assumption) (by rfl) (⟨rfl, rfl⟩) rfl ?_
    refine mx_iconst (pc' := 72) (v := nI 1) dX0_add_71 (by decide) rfl ?_
    refine mx_iret dX0_add_72 (Or.inr ⟨rfl, by decide⟩) ?_
    refine ⟨fun _ => ⟨rfl, ⟨by simp [mx_up], ⟨by simp; omega, fun x hx => ?_⟩, BuP.snoc (hP.fr fun q j h1 h2 h3 h4 => ?_) ⟨by simp [mx_up], by simp [mx_up], by simp [mx_up], by simp [mx_up], by simp [mx_up]⟩⟩, (by repeat (first | exact Out.rf | assumption | refine Out.up ?_ (by omega) (by omega)))⟩, fun h => absurd c6 h⟩
    · rcases List.mem_append.mp hx with hx | hx
      · exact hL.2 x hx
      · rw [List.mem_singleton.mp hx]
        exact ⟨Nat.zero_lt_succ _, hc, hd, hw, Nat.zero_lt_succ _⟩
    · simp [mx_up, show j ≠ L.length by omega, show q ≠ b by omega]
  · have c6 := Nat.not_lt.mp (fun z => c6 ((nI_ltI (by omega) (by omega)).mpr z))
    refine mx_iconst (pc' := 10) (v := nI 0) dX0_add_9 (by decide) rfl ?_
    refine mx_iret dX0_add_10 (Or.inr ⟨rfl, by decide⟩) ?_
    exact ⟨fun h => absurd h (by omega), fun _ => ⟨rfl, rfl⟩⟩

set_option maxHeartbeats 1000000 in
set_option maxRecDepth 10000 in
theorem l_X0_copyFrom (M : mx_M) (b b' : Nat) (hs : BuS b) (hs' : BuS b') (hb : b + 6 ≤ b' ∨ b' + 6 ≤ b) (L : List Bu) (hL : BuL L) (hP : BuP M b' 0 L) : ∀ (k : Nat) (i : Nat) (M1 : mx_M), L.length < i + k → i ≤ L.length → M1 b 5 = nI L.length → BuP M1 b 0 (L.take i) → Out M M1 b (b + 6) → mx_V cX0_copyFrom RX0 3 none 2 10 [some (.ref b), some (.ref b'), some (.int (nI i))] [] M1 (fun v M' => v = none ∧ BuA M' b L ∧ Out M M' b (b + 6)) := by
  obtain ⟨s0, s1, s2, s3, s4, s5⟩ := hs
  have h60 := hL.1
  intro k
  induction k with
  | zero =>
    intro i M1 hk hi hn hP1 hO
    exact absurd hk (by omega)
  | succ k ih =>
    intro i M1 hk hi hn hP1 hO
    refine mx_iload_n (pc' := 11) dX0_copyFrom_10 rfl rfl ?_
    refine mx_aload_n (pc' := 12) dX0_copyFrom_11 rfl rfl ?_
    refine mx_getf (pc' := 15) (v := nI L.length) dX0_copyFrom_12 fl_X0_28 (by assumption) (by rfl) (hn) rfl ?_
    refine mx_icmp_ge (tgt := 31) (pc' := 18) dX0_copyFrom_15 (by decide) rfl (fun c15 => ?_) (fun c15 => ?_)
    · have c15 := (nI_leI (by omega) (by omega)).mp c15
      refine mx_vret dX0_copyFrom_31 rfl ?_
      exact ⟨rfl, ⟨hn, hL, by rw [← take_len c15]; exact hP1⟩, hO⟩
    · have c15 := Nat.not_le.mp (fun z => c15 ((nI_leI (by omega) (by omega)).mpr z))
      obtain ⟨x, hx⟩ := get_lt c15
      refine mx_aload_n (pc' := 19) dX0_copyFrom_18 rfl rfl ?_
      refine mx_iload_n (pc' := 20) dX0_copyFrom_19 rfl rfl ?_
      refine mx_aload_n (pc' := 21) dX0_copyFrom_20 rfl rfl ?_
      refine mx_iload_n (pc' := 22) dX0_copyFrom_21 rfl rfl ?_
      refine mx_callV (pc' := 25) dX0_copyFrom_22 cl_X0_32 (s0) (t_X0_putW M1 b b' ⟨s0, s1, s2, s3, s4, s5⟩ hs' (by omega) i i (by omega) (by omega) x ((hP.at hx).fr fun q z1 z2 => by rw [hO q (by omega)]) (hL.2 x (List.mem_of_getElem? hx))) rfl (by decide) rfl (by decide) rfl (fun v N22 hv => ?_)
      obtain ⟨rfl, h1, h2⟩ := hv
      refine mx_iinc (pc' := 28) (ls' := [_, _, _]) (v := nI (i + 1)) dX0_copyFrom_25 rfl (nI_add i 1) (by decide) rfl rfl rfl ?_
      refine mx_goto (pc' := 10) dX0_copyFrom_28 (by decide) ?_
      exact ih (i + 1) N22 (by omega) (by omega) (by rw [h1 b 5 (by omega)]; exact hn) (by rw [take_snoc hx]; exact BuP.snoc (hP1.fr fun q j z1 z2 z3 z4 => h1 q j (by rw [List.length_take] at z4; omega)) (by rw [List.length_take, Nat.min_eq_left hi, Nat.zero_add]; exact h2)) (hO.tr (fun q hq => funext fun j => h1 q j (by omega)))

set_option maxHeartbeats 1000000 in
set_option maxRecDepth 10000 in
theorem t_X0_copyFrom (M : mx_M) (b b' : Nat) (hs : BuS b) (hs' : BuS b') (hb : b + 6 ≤ b' ∨ b' + 6 ≤ b) (L : List Bu) (hA : BuA M b' L) : mx_T yX0_copyFrom cX0_copyFrom 3 none 2 [.ref b, .ref b'] M (fun v M' => v = none ∧ BuA M' b L ∧ Out M M' b (b + 6)) := by
  obtain ⟨s0, s1, s2, s3, s4, s5⟩ := hs
  obtain ⟨u0, u1, u2, u3, u4, u5⟩ := hs'
  refine mx_T.of1 (own := RX0) (ls := [some (.ref b), some (.ref b'), none]) (by decide +kernel) rfl (Nat.le_of_ble_eq_true rfl) rfl rfl ?_
  refine mx_aload_n (pc' := 1) dX0_copyFrom_0 rfl rfl ?_
  refine mx_aload_n (pc' := 2) dX0_copyFrom_1 rfl rfl ?_
  refine mx_getf (pc' := 5) (v := nI L.length) dX0_copyFrom_2 fl_X0_28 (by assumption) (by rfl) (hA.1) rfl ?_
  refine mx_putf (pc' := 8) dX0_copyFrom_5 fl_X0_28 (by assumption) (by rfl) (⟨rfl, rfl⟩) rfl ?_
  refine mx_iconst (pc' := 9) (v := nI 0) dX0_copyFrom_8 (by decide) rfl ?_
  refine mx_istore_n (pc' := 10) (ls' := [_, _, _]) dX0_copyFrom_9 (by decide) rfl rfl rfl ?_
  exact l_X0_copyFrom M b b' ⟨s0, s1, s2, s3, s4, s5⟩ ⟨u0, u1, u2, u3, u4, u5⟩ hb L hA.2.1 hA.2.2 (L.length + 1) 0 _ (by omega) (by omega) (mx_up_eq _ _ _ _) BuP.nil (by repeat (first | exact Out.rf | assumption | refine Out.up ?_ (by omega) (by omega)))

set_option maxHeartbeats 1000000 in
set_option maxRecDepth 10000 in
theorem l_X0_countIn (M : mx_M) (b : Nat) (hs : BuS b) (L : List Bu) (hA : BuA M b L) (r c : Nat) (hr : r < 12) (hc : c < 10) : ∀ (k : Nat) (i f : Nat), L.length < i + k → i ≤ L.length → f = (L.take i).countP (atB r c) → mx_V cX0_countIn RX0 5 (some .int) 1 5 [some (.ref b), some (.int (nI r)), some (.int (nI c)), some (.int (nI f)), some (.int (nI i))] [] M (fun v M' => v = some (.int (nI (L.countP (atB r c)))) ∧ M' = M) := by
  obtain ⟨s0, s1, s2, s3, s4, s5⟩ := hs
  have h60 := hA.2.1.1
  intro k
  induction k with
  | zero =>
    intro i f hk hi hf
    exact absurd hk (by omega)
  | succ k ih =>
    intro i f hk hi hf
    refine mx_iload (pc' := 7) dX0_countIn_5 rfl rfl ?_
    refine mx_aload_n (pc' := 8) dX0_countIn_7 rfl rfl ?_
    refine mx_getf (pc' := 11) (v := nI L.length) dX0_countIn_8 fl_X0_28 (by assumption) (by rfl) (hA.1) rfl ?_
    refine mx_icmp_ge (tgt := 45) (pc' := 14) dX0_countIn_11 (by decide) rfl (fun c11 => ?_) (fun c11 => ?_)
    · have c11 := (nI_leI (by omega) (by omega)).mp c11
      refine mx_iload_n (pc' := 46) dX0_countIn_45 rfl rfl ?_
      refine mx_iret dX0_countIn_46 (Or.inl rfl) ?_
      exact ⟨by rw [hf, take_len c11], rfl⟩
    · have c11 := Nat.not_le.mp (fun z => c11 ((nI_leI (by omega) (by omega)).mpr z))
      obtain ⟨x, hx⟩ := get_lt c11
      obtain ⟨x1, x2, x3, x4, x5⟩ := hA.2.2.at hx
      obtain ⟨v1, v2, -, -, -⟩ := hA.2.1.2 x (List.mem_of_getElem? hx)
      refine mx_aload_n (pc' := 15) dX0_countIn_14 rfl rfl ?_
      refine mx_getr (pc' := 18) dX0_countIn_15 fl_X0_9 (by assumption) (by rfl) rfl ?_
      refine mx_iload (pc' := 20) dX0_countIn_18 rfl rfl ?_
      refine mx_iald (pc' := 21) (v := nI x.1) dX0_countIn_20 (by assumption) (rfl) (by omega) (x1) rfl ?_
      refine mx_iload_n (pc' := 22) dX0_countIn_21 rfl rfl ?_
      refine mx_icmp_ne (tgt := 39) (pc' := 25) dX0_countIn_22 (by decide) rfl (fun c22 => ?_) (fun c22 => ?_)
      · have c22 : ¬ _ := fun z => c22 ((nI_eq (by omega) (by omega)).mpr z)
        have c33 : True := trivial
        refine mx_iinc (pc' := 42) (ls' := [_, _, _, _, _]) (v := nI (i + 1)) dX0_countIn_39 rfl (nI_add i 1) (by decide) rfl rfl rfl ?_
        refine mx_goto (pc' := 5) dX0_countIn_42 (by decide) ?_
        refine ih (i + 1) _ (by omega) (by omega) ?_
        rw [take_snoc hx, List.countP_append, ← hf]
        simp [atB, c22, c33]
      · have c22 := (nI_eq (by omega) (by omega)).mp c22
        refine mx_aload_n (pc' := 26) dX0_countIn_25 rfl rfl ?_
        refine mx_getr (pc' := 29) dX0_countIn_26 fl_X0_15 (by assumption) (by rfl) rfl ?_
        refine mx_iload (pc' := 31) dX0_countIn_29 rfl rfl ?_
        refine mx_iald (pc' := 32) (v := nI x.2.1) dX0_countIn_31 (by assumption) (rfl) (by omega) (x2) rfl ?_
        refine mx_iload_n (pc' := 33) dX0_countIn_32 rfl rfl ?_
        refine mx_icmp_ne (tgt := 39) (pc' := 36) dX0_countIn_33 (by decide) rfl (fun c33 => ?_) (fun c33 => ?_)
        · have c33 : ¬ _ := fun z => c33 ((nI_eq (by omega) (by omega)).mpr z)
          refine mx_iinc (pc' := 42) (ls' := [_, _, _, _, _]) (v := nI (i + 1)) dX0_countIn_39 rfl (nI_add i 1) (by decide) rfl rfl rfl ?_
          refine mx_goto (pc' := 5) dX0_countIn_42 (by decide) ?_
          refine ih (i + 1) _ (by omega) (by omega) ?_
          rw [take_snoc hx, List.countP_append, ← hf]
          simp [atB, c22, c33]
        · have c33 := (nI_eq (by omega) (by omega)).mp c33
          refine mx_iinc (pc' := 39) (ls' := [_, _, _, _, _]) (v := nI (f + 1)) dX0_countIn_36 rfl (nI_add f 1) (by decide) rfl rfl rfl ?_
          refine mx_iinc (pc' := 42) (ls' := [_, _, _, _, _]) (v := nI (i + 1)) dX0_countIn_39 rfl (nI_add i 1) (by decide) rfl rfl rfl ?_
          refine mx_goto (pc' := 5) dX0_countIn_42 (by decide) ?_
          refine ih (i + 1) _ (by omega) (by omega) ?_
          rw [take_snoc hx, List.countP_append, ← hf]
          simp [atB, c22, c33]

set_option maxHeartbeats 1000000 in
set_option maxRecDepth 10000 in
theorem t_X0_countIn (M : mx_M) (b : Nat) (hs : BuS b) (L : List Bu) (hA : BuA M b L) (r c : Nat) (hr : r < 12) (hc : c < 10) : mx_T yX0_countIn cX0_countIn 5 (some .int) 1 [.ref b, .int (nI r), .int (nI c)] M (fun v M' => v = some (.int (nI (L.countP (atB r c)))) ∧ M' = M) := by
  refine mx_T.of1 (own := RX0) (ls := [some (.ref b), some (.int (nI r)), some (.int (nI c)), none, none]) (by decide +kernel) rfl (Nat.le_of_ble_eq_true rfl) rfl rfl ?_
  refine mx_iconst (pc' := 1) (v := nI 0) dX0_countIn_0 (by decide) rfl ?_
  refine mx_istore_n (pc' := 2) (ls' := [_, _, _, _, _]) dX0_countIn_1 (by decide) rfl rfl rfl ?_
  refine mx_iconst (pc' := 3) (v := nI 0) dX0_countIn_2 (by decide) rfl ?_
  refine mx_istore (pc' := 5) (ls' := [_, _, _, _, _]) dX0_countIn_3 (by decide) rfl rfl rfl ?_
  exact l_X0_countIn M b hs L hA r c hr hc (L.length + 1) 0 0 (by omega) (by omega) rfl
end
section
theorem drop_cons {α : Type} {L : List α} {i : Nat} {x : α} (h : L[i]? = some x) : L.drop i = x :: L.drop (i + 1) := by
  obtain ⟨hl, he⟩ := List.getElem?_eq_some_iff.mp h
  rw [List.drop_eq_getElem_cons hl, he]
set_option maxHeartbeats 1000000 in
set_option maxRecDepth 10000 in
theorem l_X0_fall (M : mx_M) (b t : Nat) (hs : BuS b) (ht : t < 2) (L : List Bu) (hL : BuL L) : ∀ (k : Nat) (i : Nat) (M1 : mx_M), L.length < i + k → i ≤ L.length → M1 b 5 = nI L.length → ((L.take i).filterMap (fallB t)).length ≤ i → BuP M1 b 0 ((L.take i).filterMap (fallB t)) → BuP M1 b i (L.drop i) → Out M M1 b (b + 6) → mx_V cX0_fall RX0 4 (some .int) 3 4 [some (.ref b), some (.int (nI t)), some (.int (nI ((L.take i).filterMap (fallB t)).length)), some (.int (nI i))] [] M1 (fun v M' => v = some (.int (nI (L.length - (L.filterMap (fallB t)).length))) ∧ BuA M' b (L.filterMap (fallB t)) ∧ Out M M' b (b + 6)) := by
  obtain ⟨s0, s1, s2, s3, s4, s5⟩ := hs
  have h60 := hL.1
  intro k
  induction k with
  | zero =>
    intro i M1 hk hi hn hpl hP1 hP2 hO
    exact absurd hk (by omega)
  | succ k ih =>
    intro i M1 hk hi hn hpl hP1 hP2 hO
    refine mx_iload_n (pc' := 5) dX0_fall_4 rfl rfl ?_
    refine mx_aload_n (pc' := 6) dX0_fall_5 rfl rfl ?_
    refine mx_getf (pc' := 9) (v := nI L.length) dX0_fall_6 fl_X0_28 (by assumption) (by rfl) (hn) rfl ?_
    refine mx_icmp_ge (tgt := 134) (pc' := 12) dX0_fall_9 (by decide) rfl (fun c9 => ?_) (fun c9 => ?_)
    · have c9 := (nI_leI (by omega) (by omega)).mp c9
      refine mx_aload_n (pc' := 135) dX0_fall_134 rfl rfl ?_
      refine mx_iload_n (pc' := 136) dX0_fall_135 rfl rfl ?_
      refine mx_callV (pc' := 139) dX0_fall_136 cl_X0_40 (s0) (t_X0_keepOnly M1 b L.length ⟨s0, s1, s2, s3, s4, s5⟩ hn _ (by omega)) rfl (by decide) rfl (by decide) rfl (fun v N136 hv => ?_)
      obtain ⟨rfl, hv⟩ := hv
      rw [hv]
      refine mx_iret dX0_fall_139 (Or.inl rfl) ?_
      rw [take_len c9] at hP1 hpl ⊢
      refine ⟨rfl, ⟨mx_up_eq _ _ _ _, ⟨by have := hL.1; omega, fun y hy => ?_⟩, hP1.fr fun q j z1 z2 z3 z4 => ?_⟩, (by repeat (first | exact Out.rf | assumption | refine Out.up ?_ (by omega) (by omega)))⟩
      · obtain ⟨z, hz, hzy⟩ := List.mem_filterMap.mp hy
        exact fallB_V (hL.2 z hz) hzy
      · rw [mx_up_ne (by omega)]
    · have c9 := Nat.not_le.mp (fun z => c9 ((nI_leI (by omega) (by omega)).mpr z))
      obtain ⟨x, hx⟩ := get_lt c9
      rw [drop_cons hx, BuP.cons] at hP2
      have hV := hL.2 x (List.mem_of_getElem? hx)
      obtain ⟨r, c, d, w, g⟩ := x
      obtain ⟨v1, v2, v3, v4, v5⟩ := id hV
      dsimp only at v1 v2 v3 v4 v5
      have J95 : ∀ (d1 d2 : Nat) (N : mx_M), d1 < 3 → d2 < 3 → (t = 1 → d1 = if c + d < 1 ∨ 10 < c + d then 2 - d else d) → (t ≠ 1 → d1 = d) → (d2 = if w = 1 then 2 - d1 else d1) → N (b + 1) i = nI (r + 1) → N (b + 2) i = nI c + dr d1 → N (b + 3) i = dr d2 → N (b + 4) i = nI w → N (b + 5) i = nI g → (∀ q j, (q < b + 1 ∨ b + 5 < q ∨ j ≠ i) → N q j = M1 q j) → mx_V cX0_fall RX0 4 (some .int) 3 95 [some (.ref b), some (.int (nI t)), some (.int (nI ((L.take i).filterMap (fallB t)).length)), some (.int (nI i))] [] N (fun v M' => v = some (.int (nI (L.length - (L.filterMap (fallB t)).length))) ∧ BuA M' b (L.filterMap (fallB t)) ∧ Out M M' b (b + 6)) := by
        intro d1 d2 N hd1 hd2' hc1 hc2 hd2 n1 n2 n3 n4 n5 hN
        refine mx_aload_n (pc' := 96) dX0_fall_95 rfl rfl ?_
        refine mx_getr (pc' := 99) dX0_fall_96 fl_X0_9 (by assumption) (by rfl) rfl ?_
        refine mx_iload_n (pc' := 100) dX0_fall_99 rfl rfl ?_
        refine mx_iald (pc' := 101) (v := nI (r + 1)) dX0_fall_100 (by assumption) (rfl) (by omega) (n1) rfl ?_
        refine mx_bipush (pc' := 103) (v := nI 11) dX0_fall_101 (by decide) rfl ?_
        refine mx_icmp_gt (tgt := 128) (pc' := 106) dX0_fall_103 (by decide) rfl (fun c103 => ?_) (fun c103 => ?_)
        · have c103 := (nI_ltI (by omega) (by omega)).mp c103
          have hf : fallB t (r, c, d, w, g) = none := if_pos (Or.inl (by show 11 ≤ r; omega))
          have e : (L.take (i + 1)).filterMap (fallB t) = (L.take i).filterMap (fallB t) := by
            rw [take_snoc hx, List.filterMap_append]
            simp [hf]
          refine mx_iinc (pc' := 131) (ls' := [_, _, _, _]) (v := nI (i + 1)) dX0_fall_128 rfl (nI_add i 1) (by decide) rfl rfl rfl ?_
          refine mx_goto (pc' := 4) dX0_fall_131 (by decide) ?_
          rw [← e]
          refine ih (i + 1) N (by omega) (by omega) ?_ ?_ ?_ ?_ ?_
          · rw [hN b 5 (by omega)]; exact hn
          · rw [e]; omega
          · rw [e]
            exact hP1.fr fun q j z1 z2 z3 z4 => hN q j (by omega)
          · exact hP2.2.fr fun q j z1 z2 z3 z4 => hN q j (by omega)
          · exact hO.tr fun q z => funext fun j => hN q j (by omega)
        · have c103 := Nat.not_lt.mp (fun z => c103 ((nI_ltI (by omega) (by omega)).mpr z))
          refine mx_aload_n (pc' := 107) dX0_fall_106 rfl rfl ?_
          refine mx_getr (pc' := 110) dX0_fall_107 fl_X0_15 (by assumption) (by rfl) rfl ?_
          refine mx_iload_n (pc' := 111) dX0_fall_110 rfl rfl ?_
          refine mx_iald (pc' := 112) (v := nI c + dr d1) dX0_fall_111 (by assumption) (rfl) (by omega) (n2) rfl ?_
          refine mx_callN (pc' := 115) dX0_fall_112 cl_X0_36 (t_X7_isColumn _ _) rfl (by decide) rfl (by decide) rfl (fun v N112 hv => ?_)
          obtain ⟨rfl, hv⟩ := hv
          rw [hv]
          refine mx_if_eq (tgt := 128) (pc' := 118) dX0_fall_115 (by decide) rfl (fun c115 => ?_) (fun c115 => ?_)
          · have c115 : ¬ (1 ≤ c + d1 ∧ c + d1 ≤ 10) := fun z => bI_0.mp c115 ((dr_in c (by omega) d1 hd1).mpr z)
            have hf : fallB t (r, c, d, w, g) = none := by
              refine if_pos (Or.inr ?_)
              dsimp only
              by_cases ht1 : t = 1
              · have := hc1 ht1
                split at this <;> omega
              · have := hc2 ht1
                omega
            have e : (L.take (i + 1)).filterMap (fallB t) = (L.take i).filterMap (fallB t) := by
              rw [take_snoc hx, List.filterMap_append]
              simp [hf]
            refine mx_iinc (pc' := 131) (ls' := [_, _, _, _]) (v := nI (i + 1)) dX0_fall_128 rfl (nI_add i 1) (by decide) rfl rfl rfl ?_
            refine mx_goto (pc' := 4) dX0_fall_131 (by decide) ?_
            rw [← e]
            refine ih (i + 1) N (by omega) (by omega) ?_ ?_ ?_ ?_ ?_
            · rw [hN b 5 (by omega)]; exact hn
            · rw [e]; omega
            · rw [e]
              exact hP1.fr fun q j z1 z2 z3 z4 => hN q j (by omega)
            · exact hP2.2.fr fun q j z1 z2 z3 z4 => hN q j (by omega)
            · exact hO.tr fun q z => funext fun j => hN q j (by omega)
          · have c115 := (dr_in c (by omega) d1 hd1).mp (bI_n.mp c115)
            have hf : fallB t (r, c, d, w, g) = some (r + 1, c + d1 - 1, d2, w, g) := by
              have e1 : ¬ (11 ≤ r ∨ ((c + d < 1 ∨ 10 < c + d) ∧ t ≠ 1)) := by
                by_cases ht1 : t = 1
                · omega
                · have := hc2 ht1
                  omega
              have e2 : (if c + d < 1 ∨ 10 < c + d then 2 - d else d) = d1 := by
                by_cases ht1 : t = 1
                · exact (hc1 ht1).symm
                · have := hc2 ht1
                  rw [if_neg (by omega)]
                  exact this.symm
              unfold fallB
              dsimp only
              rw [if_neg e1, e2, ← hd2]
            have e : (L.take (i + 1)).filterMap (fallB t) = (L.take i).filterMap (fallB t) ++ [(r + 1, c + d1 - 1, d2, w, g)] := by
              rw [take_snoc hx, List.filterMap_append]
              simp [hf]
            refine mx_aload_n (pc' := 119) dX0_fall_118 rfl rfl ?_
            refine mx_iload_n (pc' := 120) dX0_fall_119 rfl rfl ?_
            refine mx_aload_n (pc' := 121) dX0_fall_120 rfl rfl ?_
            refine mx_iload_n (pc' := 122) dX0_fall_121 rfl rfl ?_
            refine mx_callV (pc' := 125) dX0_fall_122 cl_X0_32 (s0) (t_X0_putW N b b ⟨s0, s1, s2, s3, s4, s5⟩ ⟨s0, s1, s2, s3, s4, s5⟩ (Or.inl rfl) _ i (by omega) (by omega) (r + 1, c + d1 - 1, d2, w, g) ⟨n1, n2.trans (dr_add c (by omega) d1 hd1 (by omega)), n3, n4, n5⟩ (fallB_V hV hf)) rfl (by decide) rfl (by decide) rfl (fun v N122 hv => ?_)
            obtain ⟨rfl, p1, p2⟩ := hv
            refine mx_iinc (pc' := 128) (ls' := [_, _, _, _]) (v := nI (((L.take i).filterMap (fallB t)).length + 1)) dX0_fall_125 rfl (nI_add _ 1) (by decide) rfl rfl rfl ?_
            refine mx_iinc (pc' := 131) (ls' := [_, _, _, _]) (v := nI (i + 1)) dX0_fall_128 rfl (nI_add i 1) (by decide) rfl rfl rfl ?_
            refine mx_goto (pc' := 4) dX0_fall_131 (by decide) ?_
            rw [show ((L.take i).filterMap (fallB t)).length + 1 = ((L.take (i + 1)).filterMap (fallB t)).length by rw [e, List.length_append]; rfl]
            refine ih (i + 1) N122 (by omega) (by omega) ?_ ?_ ?_ ?_ ?_
            · rw [p1 b 5 (by omega), hN b 5 (by omega)]; exact hn
            · rw [e, List.length_append]; show _ + 1 ≤ _; omega
            · rw [e]
              refine BuP.snoc (hP1.fr fun q j z1 z2 z3 z4 => ?_) (by rw [Nat.zero_add]; exact p2)
              rw [p1 q j (by omega), hN q j (by omega)]
            · refine hP2.2.fr fun q j z1 z2 z3 z4 => ?_
              rw [p1 q j (by omega), hN q j (by omega)]
            · exact hO.tr fun q z => funext fun j => by rw [p1 q j (by omega), hN q j (by omega)]
      have J48 : ∀ (d1 : Nat) (N : mx_M), d1 < 3 → (t = 1 → d1 = if c + d < 1 ∨ 10 < c + d then 2 - d else d) → (t ≠ 1 → d1 = d) → BuW N b i (r, c, d1, w, g) → (∀ q j, (q < b + 1 ∨ b + 5 < q ∨ j ≠ i) → N q j = M1 q j) → mx_V cX0_fall RX0 4 (some .int) 3 48 [some (.ref b), some (.int (nI t)), some (.int (nI ((L.take i).filterMap (fallB t)).length)), some (.int (nI i))] [] N (fun v M' => v = some (.int (nI (L.length - (L.filterMap (fallB t)).length))) ∧ BuA M' b (L.filterMap (fallB t)) ∧ Out M M' b (b + 6)) := by
        intro d1 N hd1 hc1 hc2 hw hN
        obtain ⟨n1, n2, n3, n4, n5⟩ := hw
        dsimp only at n1 n2 n3 n4 n5
        refine mx_aload_n (pc' := 49) dX0_fall_48 rfl rfl ?_
        refine mx_getr (pc' := 52) dX0_fall_49 fl_X0_9 (by assumption) (by rfl) rfl ?_
        refine mx_iload_n (pc' := 53) dX0_fall_52 rfl rfl ?_
        refine mx_dup2 (pc' := 54) dX0_fall_53 rfl rfl rfl ?_
        refine mx_iald (pc' := 55) (v := nI r) dX0_fall_54 (by assumption) (rfl) (by omega) (n1) rfl ?_
        refine mx_iconst (pc' := 56) (v := nI 1) dX0_fall_55 (by decide) rfl ?_
        refine mx_iadd (pc' := 57) (v := nI (r + 1)) dX0_fall_56 (nI_add r 1) rfl ?_
        refine mx_iast (pc' := 58) dX0_fall_57 (by assumption) (rfl) (by omega) rfl ?_
        refine mx_aload_n (pc' := 59) dX0_fall_58 rfl rfl ?_
        refine mx_getr (pc' := 62) dX0_fall_59 fl_X0_15 (by assumption) (by rfl) rfl ?_
        refine mx_iload_n (pc' := 63) dX0_fall_62 rfl rfl ?_
        refine mx_dup2 (pc' := 64) dX0_fall_63 rfl rfl rfl ?_
        refine mx_iald (pc' := 65) (v := nI c) dX0_fall_64 (by assumption) (rfl) (by omega) (((by simp only [mx_up]; repeat rw [if_neg (by omega)]) : _ = N (b + 2) i).trans n2) rfl ?_
        refine mx_aload_n (pc' := 66) dX0_fall_65 rfl rfl ?_
        refine mx_getr (pc' := 69) dX0_fall_66 fl_X0_18 (by assumption) (by rfl) rfl ?_
        refine mx_iload_n (pc' := 70) dX0_fall_69 rfl rfl ?_
        refine mx_iald (pc' := 71) (v := dr d1) dX0_fall_70 (by assumption) (rfl) (by omega) (((by simp only [mx_up]; repeat rw [if_neg (by omega)]) : _ = N (b + 3) i).trans n3) rfl ?_
        refine mx_iadd (pc' := 72) dX0_fall_71 (rfl) rfl ?_
        refine mx_iast (pc' := 73) dX0_fall_72 (by assumption) (rfl) (by omega) rfl ?_
        refine mx_aload_n (pc' := 74) dX0_fall_73 rfl rfl ?_
        refine mx_getr (pc' := 77) dX0_fall_74 fl_X0_21 (by assumption) (by rfl) rfl ?_
        refine mx_iload_n (pc' := 78) dX0_fall_77 rfl rfl ?_
        refine mx_bald (pc' := 79) (v := nI w) dX0_fall_78 (by assumption) (rfl) (by omega) (((by simp only [mx_up]; repeat rw [if_neg (by omega)]) : _ = N (b + 4) i).trans n4) rfl ?_
        refine mx_if_eq (tgt := 95) (pc' := 82) dX0_fall_79 (by decide) rfl (fun c79 => ?_) (fun c79 => ?_)
        · have c79 : w = 0 := (nI_eq (a := w) (b := 0) (by omega) (by omega)).mp c79
          refine J95 d1 d1 _ hd1 hd1 hc1 hc2 (by rw [if_neg (by omega)]) ?_ ?_ ?_ ?_ ?_ ?_
          · simp [mx_up]
          · simp [mx_up]
          · simp [mx_up, n3]
          · simp [mx_up, n4]
          · simp [mx_up, n5]
          · intro q j z
            rw [← hN q j z]
            rcases z with z | z | z
            · simp [mx_up, show q ≠ b + 1 by omega, show q ≠ b + 2 by omega, show q ≠ b + 3 by omega]
            · simp [mx_up, show q ≠ b + 1 by omega, show q ≠ b + 2 by omega, show q ≠ b + 3 by omega]
            · simp [mx_up, z]
        · have c79 : w = 1 := by
            have : ¬ w = 0 := fun z => c79 (by rw [z]; rfl)
            omega
          refine mx_aload_n (pc' := 83) dX0_fall_82 rfl rfl ?_
          refine mx_getr (pc' := 86) dX0_fall_83 fl_X0_18 (by assumption) (by rfl) rfl ?_
          refine mx_iload_n (pc' := 87) dX0_fall_86 rfl rfl ?_
          refine mx_aload_n (pc' := 88) dX0_fall_87 rfl rfl ?_
          refine mx_getr (pc' := 91) dX0_fall_88 fl_X0_18 (by assumption) (by rfl) rfl ?_
          refine mx_iload_n (pc' := 92) dX0_fall_91 rfl rfl ?_
          refine mx_iald (pc' := 93) (v := dr d1) dX0_fall_92 (by assumption) (rfl) (by omega) (((by simp only [mx_up]; repeat rw [if_neg (by omega)]) : _ = N (b + 3) i).trans n3) rfl ?_
          refine mx_ineg (pc' := 94) (v := dr (2 - d1)) dX0_fall_93 (dr_neg d1 hd1) rfl ?_
          refine mx_iast (pc' := 95) dX0_fall_94 (by assumption) (rfl) (by omega) rfl ?_
          refine J95 d1 (2 - d1) _ hd1 (by omega) hc1 hc2 (by rw [if_pos c79]) ?_ ?_ ?_ ?_ ?_ ?_
          · simp [mx_up]
          · simp [mx_up]
          · simp [mx_up, n3]
          · simp [mx_up, n4]
          · simp [mx_up, n5]
          · intro q j z
            rw [← hN q j z]
            rcases z with z | z | z
            · simp [mx_up, show q ≠ b + 1 by omega, show q ≠ b + 2 by omega, show q ≠ b + 3 by omega]
            · simp [mx_up, show q ≠ b + 1 by omega, show q ≠ b + 2 by omega, show q ≠ b + 3 by omega]
            · simp [mx_up, z]
      obtain ⟨w1, w2, w3, w4, w5⟩ := id hP2.1
      dsimp only at w1 w2 w3 w4 w5
      refine mx_iload_n (pc' := 13) dX0_fall_12 rfl rfl ?_
      refine mx_if_eq (tgt := 48) (pc' := 16) dX0_fall_13 (by decide) rfl (fun c13 => ?_) (fun c13 => ?_)
      · have c13 : t = 0 := (nI_eq (a := t) (b := 0) (by omega) (by omega)).mp c13
        exact J48 d M1 v3 (fun z => by omega) (fun _ => rfl) hP2.1 (fun _ _ _ => rfl)
      · have c13 : t = 1 := by
          have : ¬ t = 0 := fun z => c13 (by rw [z]; rfl)
          omega
        refine mx_aload_n (pc' := 17) dX0_fall_16 rfl rfl ?_
        refine mx_getr (pc' := 20) dX0_fall_17 fl_X0_15 (by assumption) (by rfl) rfl ?_
        refine mx_iload_n (pc' := 21) dX0_fall_20 rfl rfl ?_
        refine mx_iald (pc' := 22) (v := nI c) dX0_fall_21 (by assumption) (rfl) (by omega) (w2) rfl ?_
        refine mx_aload_n (pc' := 23) dX0_fall_22 rfl rfl ?_
        refine mx_getr (pc' := 26) dX0_fall_23 fl_X0_18 (by assumption) (by rfl) rfl ?_
        refine mx_iload_n (pc' := 27) dX0_fall_26 rfl rfl ?_
        refine mx_iald (pc' := 28) (v := dr d) dX0_fall_27 (by assumption) (rfl) (by omega) (w3) rfl ?_
        refine mx_iadd (pc' := 29) dX0_fall_28 (rfl) rfl ?_
        refine mx_callN (pc' := 32) dX0_fall_29 cl_X0_36 (t_X7_isColumn _ _) rfl (by decide) rfl (by decide) rfl (fun v N29 hv => ?_)
        obtain ⟨rfl, hv⟩ := hv
        rw [hv]
        refine mx_if_ne (tgt := 48) (pc' := 35) dX0_fall_32 (by decide) rfl (fun c32 => ?_) (fun c32 => ?_)
        · have c32 := (dr_in c (by omega) d v3).mp (bI_n.mp c32)
          exact J48 d _ v3 (fun z => by rw [if_neg (by omega)]) (fun _ => rfl) hP2.1 (fun _ _ _ => rfl)
        · have c32 : ¬ (1 ≤ c + d ∧ c + d ≤ 10) := fun z => bI_0.mp c32 ((dr_in c (by omega) d v3).mpr z)
          refine mx_aload_n (pc' := 36) dX0_fall_35 rfl rfl ?_
          refine mx_getr (pc' := 39) dX0_fall_36 fl_X0_18 (by assumption) (by rfl) rfl ?_
          refine mx_iload_n (pc' := 40) dX0_fall_39 rfl rfl ?_
          refine mx_aload_n (pc' := 41) dX0_fall_40 rfl rfl ?_
          refine mx_getr (pc' := 44) dX0_fall_41 fl_X0_18 (by assumption) (by rfl) rfl ?_
          refine mx_iload_n (pc' := 45) dX0_fall_44 rfl rfl ?_
          refine mx_iald (pc' := 46) (v := dr d) dX0_fall_45 (by assumption) (rfl) (by omega) (w3) rfl ?_
          refine mx_ineg (pc' := 47) (v := dr (2 - d)) dX0_fall_46 (dr_neg d v3) rfl ?_
          refine mx_iast (pc' := 48) dX0_fall_47 (by assumption) (rfl) (by omega) rfl ?_
          refine J48 (2 - d) _ (by omega) (fun z => by rw [if_pos (by omega)]) (fun z => absurd c13 z) ⟨by simp [mx_up, w1], by simp [mx_up, w2], by simp [mx_up], by simp [mx_up, w4], by simp [mx_up, w5]⟩ ?_
          intro q j z
          rcases z with z | z | z
          · simp [mx_up, show q ≠ b + 3 by omega]
          · simp [mx_up, show q ≠ b + 3 by omega]
          · simp [mx_up, z]

set_option maxHeartbeats 1000000 in
set_option maxRecDepth 10000 in
theorem t_X0_fall (M : mx_M) (b t : Nat) (hs : BuS b) (ht : t < 2) (L : List Bu) (hA : BuA M b L) : mx_T yX0_fall cX0_fall 4 (some .int) 3 [.ref b, .int (nI t)] M (fun v M' => v = some (.int (nI (L.length - (L.filterMap (fallB t)).length))) ∧ BuA M' b (L.filterMap (fallB t)) ∧ Out M M' b (b + 6)) := by
  refine mx_T.of1 (own := RX0) (ls := [some (.ref b), some (.int (nI t)), none, none]) (by decide +kernel) rfl (Nat.le_of_ble_eq_true rfl) rfl rfl ?_
  refine mx_iconst (pc' := 1) (v := nI 0) dX0_fall_0 (by decide) rfl ?_
  refine mx_istore_n (pc' := 2) (ls' := [_, _, _, _]) dX0_fall_1 (by decide) rfl rfl rfl ?_
  refine mx_iconst (pc' := 3) (v := nI 0) dX0_fall_2 (by decide) rfl ?_
  refine mx_istore_n (pc' := 4) (ls' := [_, _, _, _]) dX0_fall_3 (by decide) rfl rfl rfl ?_
  exact l_X0_fall M b t hs ht L hA.2.1 (L.length + 1) 0 M (by omega) (by omega) hA.1 (Nat.le_refl 0) BuP.nil hA.2.2 Out.rf
end
section
set_option maxHeartbeats 1000000 in
set_option maxRecDepth 10000 in
theorem l_X0_takeAround (M : mx_M) (b p reach : Nat) (hs : BuS b) (hp : p < 10) (hr : reach ≤ 5) (L : List Bu) (hL : BuL L) : ∀ (k : Nat) (i : Nat) (M1 : mx_M) (z : Option Value), mx_c1 [z] = true → L.length < i + k → i ≤ L.length → M1 b 5 = nI L.length → ((L.take i).filter (fun x => !takenB p reach x)).length ≤ i → BuP M1 b 0 ((L.take i).filter (fun x => !takenB p reach x)) → BuP M1 b i (L.drop i) → Out M M1 b (b + 6) → mx_V cX0_takeAround RX0 6 (some .int) 3 5 [some (.ref b), some (.int (nI p)), some (.int (nI reach)), some (.int (nI ((L.take i).filter (fun x => !takenB p reach x)).length)), some (.int (nI i)), z] [] M1 (fun v M' => v = some (.int (nI (L.length - (L.filter (fun x => !takenB p reach x)).length))) ∧ BuA M' b (L.filter (fun x => !takenB p reach x)) ∧ Out M M' b (b + 6)) := by
  obtain ⟨s0, s1, s2, s3, s4, s5⟩ := hs
  have h60 := hL.1
  intro k
  induction k with
  | zero =>
    intro i M1 z hz hk hi hn hpl hP1 hP2 hO
    exact absurd hk (by omega)
  | succ k ih =>
    intro i M1 z hz hk hi hn hpl hP1 hP2 hO
    refine mx_iload (pc' := 7) dX0_takeAround_5 rfl rfl ?_
    refine mx_aload_n (pc' := 8) dX0_takeAround_7 rfl rfl ?_
    refine mx_getf (pc' := 11) (v := nI L.length) dX0_takeAround_8 fl_X0_28 (by assumption) (by rfl) (hn) rfl ?_
    refine mx_icmp_ge (tgt := 73) (pc' := 14) dX0_takeAround_11 (by decide) rfl (fun c11 => ?_) (fun c11 => ?_)
    · have c11 := (nI_leI (by omega) (by omega)).mp c11
      refine mx_aload_n (pc' := 74) dX0_takeAround_73 rfl rfl ?_
      refine mx_iload_n (pc' := 75) dX0_takeAround_74 rfl rfl ?_
      refine mx_callV (pc' := 78) dX0_takeAround_75 cl_X0_40 (s0) (t_X0_keepOnly M1 b L.length ⟨s0, s1, s2, s3, s4, s5⟩ hn _ (by omega)) rfl (by decide) rfl (by decide) rfl (fun v N75 hv => ?_)
      obtain ⟨rfl, hv⟩ := hv
      rw [hv]
      refine mx_iret dX0_takeAround_78 (Or.inl rfl) ?_
      rw [take_len c11] at hP1 hpl ⊢
      refine ⟨rfl, ⟨mx_up_eq _ _ _ _, ⟨by have := hL.1; omega, fun y hy => hL.2 y (List.mem_filter.mp hy).1⟩, hP1.fr fun q j z1 z2 z3 z4 => ?_⟩, (by repeat (first | exact Out.rf | assumption | refine Out.up ?_ (by omega) (by omega)))⟩
      rw [mx_up_ne (by omega)]
    · have c11 := Nat.not_le.mp (fun z => c11 ((nI_leI (by omega) (by omega)).mpr z))
      obtain ⟨x, hx⟩ := get_lt c11
      rw [drop_cons hx, BuP.cons] at hP2
      have hV := hL.2 x (List.mem_of_getElem? hx)
      obtain ⟨r, c, d, w, g⟩ := x
      obtain ⟨v1, v2, v3, v4, v5⟩ := id hV
      obtain ⟨w1, w2, w3, w4, w5⟩ := id hP2.1
      dsimp only at v1 v2 v3 v4 v5 w1 w2 w3 w4 w5
      refine mx_aload_n (pc' := 15) dX0_takeAround_14 rfl rfl ?_
      refine mx_getr (pc' := 18) dX0_takeAround_15 fl_X0_9 (by assumption) (by rfl) rfl ?_
      refine mx_iload (pc' := 20) dX0_takeAround_18 rfl rfl ?_
      refine mx_iald (pc' := 21) (v := nI r) dX0_takeAround_20 (by assumption) (rfl) (by omega) (w1) rfl ?_
      refine mx_bipush (pc' := 23) (v := nI 11) dX0_takeAround_21 (by decide) rfl ?_
      refine mx_iload_n (pc' := 24) dX0_takeAround_23 rfl rfl ?_
      refine mx_isub (pc' := 25) (v := nI (11 - reach)) dX0_takeAround_24 (pk_sub (a := 11) (by omega)) rfl ?_
      refine mx_icmp_lt (tgt := 32) (pc' := 28) dX0_takeAround_25 (by decide) rfl (fun c25 => ?_) (fun c25 => ?_)
      · have c25 := (nI_ltI (by omega) (by omega)).mp c25
        refine mx_iconst (pc' := 33) (v := nI 0) dX0_takeAround_32 (by decide) rfl ?_
        refine mx_istore (pc' := 35) (ls' := [_, _, _, _, _, _]) dX0_takeAround_33 (by decide) (by simpa [mx_c1, Value.category] using hz) rfl rfl ?_
        refine mx_iload (pc' := 37) dX0_takeAround_35 rfl rfl ?_
        refine mx_if_eq (tgt := 56) (pc' := 40) dX0_takeAround_37 (by decide) rfl (fun c37 => ?_) (fun c37 => ?_)
        · have hf : takenB p reach (r, c, d, w, g) = false := decide_eq_false (fun z => by have z1 : 11 ≤ r + reach := z.1; have z2 : adf c p ≤ reach := z.2; omega)
          refine mx_aload_n (pc' := 57) dX0_takeAround_56 rfl rfl ?_
          refine mx_iload_n (pc' := 58) dX0_takeAround_57 rfl rfl ?_
          refine mx_aload_n (pc' := 59) dX0_takeAround_58 rfl rfl ?_
          refine mx_iload (pc' := 61) dX0_takeAround_59 rfl rfl ?_
          refine mx_callV (pc' := 64) dX0_takeAround_61 cl_X0_32 (s0) (t_X0_putW M1 b b ⟨s0, s1, s2, s3, s4, s5⟩ ⟨s0, s1, s2, s3, s4, s5⟩ (Or.inl rfl) _ i (by omega) (by omega) (r, c, d, w, g) hP2.1 hV) rfl (by decide) rfl (by decide) rfl (fun v N61 hv => ?_)
          obtain ⟨rfl, p1, p2⟩ := hv
          refine mx_iinc (pc' := 67) (ls' := [_, _, _, _, _, _]) (v := nI (((L.take i).filter (fun x => !takenB p reach x)).length + 1)) dX0_takeAround_64 rfl (nI_add _ 1) (by decide) rfl rfl rfl ?_
          refine mx_iinc (pc' := 70) (ls' := [_, _, _, _, _, _]) (v := nI (i + 1)) dX0_takeAround_67 rfl (nI_add i 1) (by decide) rfl rfl rfl ?_
          refine mx_goto (pc' := 5) dX0_takeAround_70 (by decide) ?_
          have e : (L.take (i + 1)).filter (fun x => !takenB p reach x) = (L.take i).filter (fun x => !takenB p reach x) ++ [(r, c, d, w, g)] := by
            rw [take_snoc hx, List.filter_append]
            simp [hf]
          rw [show ((L.take i).filter (fun x => !takenB p reach x)).length + 1 = ((L.take (i + 1)).filter (fun x => !takenB p reach x)).length by rw [e, List.length_append]; rfl]
          refine ih (i + 1) N61 _ rfl (by omega) (by omega) ?_ ?_ ?_ ?_ ?_
          · rw [p1 b 5 (by omega)]; exact hn
          · rw [e, List.length_append]; show _ + 1 ≤ _; omega
          · rw [e]
            refine BuP.snoc (hP1.fr fun q j z1 z2 z3 z4 => ?_) (by rw [Nat.zero_add]; exact p2)
            rw [p1 q j (by omega)]
          · refine hP2.2.fr fun q j z1 z2 z3 z4 => ?_
            rw [p1 q j (by omega)]
          · exact hO.tr fun q z => funext fun j => by rw [p1 q j (by omega)]
        · exact absurd rfl c37
      · have c25 := Nat.not_lt.mp (fun z => c25 ((nI_ltI (by omega) (by omega)).mpr z))
        refine mx_iconst (pc' := 29) (v := nI 1) dX0_takeAround_28 (by decide) rfl ?_
        refine mx_goto (pc' := 33) dX0_takeAround_29 (by decide) ?_
        refine mx_istore (pc' := 35) (ls' := [_, _, _, _, _, _]) dX0_takeAround_33 (by decide) (by simpa [mx_c1, Value.category] using hz) rfl rfl ?_
        refine mx_iload (pc' := 37) dX0_takeAround_35 rfl rfl ?_
        refine mx_if_eq (tgt := 56) (pc' := 40) dX0_takeAround_37 (by decide) rfl (fun c37 => ?_) (fun c37 => ?_)
        · exact absurd c37 (by decide)
        · refine mx_aload_n (pc' := 41) dX0_takeAround_40 rfl rfl ?_
          refine mx_getr (pc' := 44) dX0_takeAround_41 fl_X0_15 (by assumption) (by rfl) rfl ?_
          refine mx_iload (pc' := 46) dX0_takeAround_44 rfl rfl ?_
          refine mx_iald (pc' := 47) (v := nI c) dX0_takeAround_46 (by assumption) (rfl) (by omega) (w2) rfl ?_
          refine mx_iload_n (pc' := 48) dX0_takeAround_47 rfl rfl ?_
          refine mx_isub (pc' := 49) dX0_takeAround_48 (rfl) rfl ?_
          refine mx_mabs (pc' := 52) (v := nI (adf c p)) dX0_takeAround_49 cl_m_abs (by decide) (by decide) (adf_abs c (by omega) p (by omega)) rfl ?_
          refine mx_iload_n (pc' := 53) dX0_takeAround_52 rfl rfl ?_
          refine mx_icmp_le (tgt := 67) (pc' := 56) dX0_takeAround_53 (by decide) rfl (fun c53 => ?_) (fun c53 => ?_)
          · have had := adf_lt (n := 12) (c := c) (p := p) (by omega) (by omega)
            have c53 := (nI_leI (by omega) (by omega)).mp c53
            have hf : takenB p reach (r, c, d, w, g) = true := decide_eq_true ⟨by show 11 ≤ r + reach; omega, c53⟩
            refine mx_iinc (pc' := 70) (ls' := [_, _, _, _, _, _]) (v := nI (i + 1)) dX0_takeAround_67 rfl (nI_add i 1) (by decide) rfl rfl rfl ?_
            refine mx_goto (pc' := 5) dX0_takeAround_70 (by decide) ?_
            have e : (L.take (i + 1)).filter (fun x => !takenB p reach x) = (L.take i).filter (fun x => !takenB p reach x) := by
              rw [take_snoc hx, List.filter_append]
              simp [hf]
            rw [← e]
            refine ih (i + 1) M1 _ rfl (by omega) (by omega) hn ?_ ?_ hP2.2 hO
            · rw [e]; omega
            · rw [e]; exact hP1
          · have had := adf_lt (n := 12) (c := c) (p := p) (by omega) (by omega)
            have c53 := Nat.not_le.mp (fun z => c53 ((nI_leI (by omega) (by omega)).mpr z))
            have hf : takenB p reach (r, c, d, w, g) = false := decide_eq_false (fun z => by have z1 : 11 ≤ r + reach := z.1; have z2 : adf c p ≤ reach := z.2; omega)
            refine mx_aload_n (pc' := 57) dX0_takeAround_56 rfl rfl ?_
            refine mx_iload_n (pc' := 58) dX0_takeAround_57 rfl rfl ?_
            refine mx_aload_n (pc' := 59) dX0_takeAround_58 rfl rfl ?_
            refine mx_iload (pc' := 61) dX0_takeAround_59 rfl rfl ?_
            refine mx_callV (pc' := 64) dX0_takeAround_61 cl_X0_32 (s0) (t_X0_putW M1 b b ⟨s0, s1, s2, s3, s4, s5⟩ ⟨s0, s1, s2, s3, s4, s5⟩ (Or.inl rfl) _ i (by omega) (by omega) (r, c, d, w, g) hP2.1 hV) rfl (by decide) rfl (by decide) rfl (fun v N61 hv => ?_)
            obtain ⟨rfl, p1, p2⟩ := hv
            refine mx_iinc (pc' := 67) (ls' := [_, _, _, _, _, _]) (v := nI (((L.take i).filter (fun x => !takenB p reach x)).length + 1)) dX0_takeAround_64 rfl (nI_add _ 1) (by decide) rfl rfl rfl ?_
            refine mx_iinc (pc' := 70) (ls' := [_, _, _, _, _, _]) (v := nI (i + 1)) dX0_takeAround_67 rfl (nI_add i 1) (by decide) rfl rfl rfl ?_
            refine mx_goto (pc' := 5) dX0_takeAround_70 (by decide) ?_
            have e : (L.take (i + 1)).filter (fun x => !takenB p reach x) = (L.take i).filter (fun x => !takenB p reach x) ++ [(r, c, d, w, g)] := by
              rw [take_snoc hx, List.filter_append]
              simp [hf]
            rw [show ((L.take i).filter (fun x => !takenB p reach x)).length + 1 = ((L.take (i + 1)).filter (fun x => !takenB p reach x)).length by rw [e, List.length_append]; rfl]
            refine ih (i + 1) N61 _ rfl (by omega) (by omega) ?_ ?_ ?_ ?_ ?_
            · rw [p1 b 5 (by omega)]; exact hn
            · rw [e, List.length_append]; show _ + 1 ≤ _; omega
            · rw [e]
              refine BuP.snoc (hP1.fr fun q j z1 z2 z3 z4 => ?_) (by rw [Nat.zero_add]; exact p2)
              rw [p1 q j (by omega)]
            · refine hP2.2.fr fun q j z1 z2 z3 z4 => ?_
              rw [p1 q j (by omega)]
            · exact hO.tr fun q z => funext fun j => by rw [p1 q j (by omega)]

set_option maxHeartbeats 1000000 in
set_option maxRecDepth 10000 in
theorem t_X0_takeAround (M : mx_M) (b p reach : Nat) (hs : BuS b) (hp : p < 10) (hr : reach ≤ 5) (L : List Bu) (hA : BuA M b L) : mx_T yX0_takeAround cX0_takeAround 6 (some .int) 3 [.ref b, .int (nI p), .int (nI reach)] M (fun v M' => v = some (.int (nI (L.length - (L.filter (fun x => !takenB p reach x)).length))) ∧ BuA M' b (L.filter (fun x => !takenB p reach x)) ∧ Out M M' b (b + 6)) := by
  refine mx_T.of1 (own := RX0) (ls := [some (.ref b), some (.int (nI p)), some (.int (nI reach)), none, none, none]) (by decide +kernel) rfl (Nat.le_of_ble_eq_true rfl) rfl rfl ?_
  refine mx_iconst (pc' := 1) (v := nI 0) dX0_takeAround_0 (by decide) rfl ?_
  refine mx_istore_n (pc' := 2) (ls' := [_, _, _, _, _, _]) dX0_takeAround_1 (by decide) (rfl) rfl rfl ?_
  refine mx_iconst (pc' := 3) (v := nI 0) dX0_takeAround_2 (by decide) rfl ?_
  refine mx_istore (pc' := 5) (ls' := [_, _, _, _, _, _]) dX0_takeAround_3 (by decide) (rfl) rfl rfl ?_
  exact l_X0_takeAround M b p reach hs hp hr L hA.2.1 (L.length + 1) 0 M none rfl (by omega) (by omega) hA.1 (Nat.le_refl 0) BuP.nil hA.2.2 Out.rf

set_option maxHeartbeats 1000000 in
set_option maxRecDepth 10000 in
theorem t_X0_isBeside (M : mx_M) (b i p : Nat) (hs : BuS b) (hp : p < 10) (hi : i < 60) (x : Bu) (hx : BuW M b i x) (hV : BuV x) : mx_T yX0_isBeside cX0_isBeside 4 (some .boolean) 1 [.ref b, .int (nI i), .int (nI p)] M (fun v M' => v = some (.int (bI (nearB p x = true))) ∧ M' = M) := by
  obtain ⟨s0, s1, s2, s3, s4, s5⟩ := hs
  obtain ⟨r, c, d, w, g⟩ := x
  obtain ⟨w1, w2, w3, w4, w5⟩ := hx
  obtain ⟨v1, v2, v3, v4, v5⟩ := hV
  dsimp only at v1 v2 v3 v4 v5 w1 w2 w3 w4 w5
  have ha := adf_lt (n := 12) (c := c) (p := p) (by omega) (by omega)
  refine mx_T.of1 (own := RX0) (ls := [some (.ref b), some (.int (nI i)), some (.int (nI p)), none]) (by decide +kernel) rfl (Nat.le_of_ble_eq_true rfl) rfl rfl ?_
  refine mx_aload_n (pc' := 1) dX0_isBeside_0 rfl rfl ?_
  refine mx_getr (pc' := 4) dX0_isBeside_1 fl_X0_15 (by assumption) (by rfl) rfl ?_
  refine mx_iload_n (pc' := 5) dX0_isBeside_4 rfl rfl ?_
  refine mx_iald (pc' := 6) (v := nI c) dX0_isBeside_5 (by assumption) (rfl) (by omega) (w2) rfl ?_
  refine mx_iload_n (pc' := 7) dX0_isBeside_6 rfl rfl ?_
  refine mx_isub (pc' := 8) dX0_isBeside_7 (rfl) rfl ?_
  refine mx_mabs (pc' := 11) (v := nI (adf c p)) dX0_isBeside_8 cl_m_abs (by decide) (by decide) (adf_abs c (by omega) p (by omega)) rfl ?_
  refine mx_istore_n (pc' := 12) (ls' := [_, _, _, _]) dX0_isBeside_11 (by decide) (rfl) rfl rfl ?_
  refine mx_aload_n (pc' := 13) dX0_isBeside_12 rfl rfl ?_
  refine mx_getr (pc' := 16) dX0_isBeside_13 fl_X0_9 (by assumption) (by rfl) rfl ?_
  refine mx_iload_n (pc' := 17) dX0_isBeside_16 rfl rfl ?_
  refine mx_iald (pc' := 18) (v := nI r) dX0_isBeside_17 (by assumption) (rfl) (by omega) (w1) rfl ?_
  refine mx_bipush (pc' := 20) (v := nI 11) dX0_isBeside_18 (by decide) rfl ?_
  refine mx_icmp_ne (tgt := 34) (pc' := 23) dX0_isBeside_20 (by decide) rfl (fun c20 => ?_) (fun c20 => ?_)
  · have c20 : ¬ _ := fun z => c20 ((nI_eq (by omega) (by omega)).mpr z)
    refine mx_aload_n (pc' := 35) dX0_isBeside_34 rfl rfl ?_
    refine mx_getr (pc' := 38) dX0_isBeside_35 fl_X0_9 (by assumption) (by rfl) rfl ?_
    refine mx_iload_n (pc' := 39) dX0_isBeside_38 rfl rfl ?_
    refine mx_iald (pc' := 40) (v := nI r) dX0_isBeside_39 (by assumption) (rfl) (by omega) (w1) rfl ?_
    refine mx_bipush (pc' := 42) (v := nI 10) dX0_isBeside_40 (by decide) rfl ?_
    refine mx_icmp_ne (tgt := 54) (pc' := 45) dX0_isBeside_42 (by decide) rfl (fun c42 => ?_) (fun c42 => ?_)
    · have c42 : ¬ _ := fun z => c42 ((nI_eq (by omega) (by omega)).mpr z)
      refine mx_iconst (pc' := 55) (v := nI 0) dX0_isBeside_54 (by decide) rfl ?_
      refine mx_iret dX0_isBeside_55 (Or.inr ⟨rfl, by decide⟩) ?_
      first | exact ⟨bI_rt (decide_eq_true (by dsimp only; omega)), rfl⟩ | exact ⟨bI_rf (fun z => by have z := of_decide_eq_true z; dsimp only at z; omega), rfl⟩
    · have c42 := (nI_eq (by omega) (by omega)).mp c42
      refine mx_iload_n (pc' := 46) dX0_isBeside_45 rfl rfl ?_
      refine mx_iconst (pc' := 47) (v := nI 1) dX0_isBeside_46 (by decide) rfl ?_
      refine mx_icmp_gt (tgt := 54) (pc' := 50) dX0_isBeside_47 (by decide) rfl (fun c47 => ?_) (fun c47 => ?_)
      · have c47 := Nat.not_le.mp (fun z => absurd c47 (Int32.not_lt.mpr ((nI_leI (by omega) (by omega)).mpr z)))
        refine mx_iconst (pc' := 55) (v := nI 0) dX0_isBeside_54 (by decide) rfl ?_
        refine mx_iret dX0_isBeside_55 (Or.inr ⟨rfl, by decide⟩) ?_
        first | exact ⟨bI_rt (decide_eq_true (by dsimp only; omega)), rfl⟩ | exact ⟨bI_rf (fun z => by have z := of_decide_eq_true z; dsimp only at z; omega), rfl⟩
      · have c47 := (nI_leI (by omega) (by omega)).mp (Int32.not_lt.mp c47)
        refine mx_iconst (pc' := 51) (v := nI 1) dX0_isBeside_50 (by decide) rfl ?_
        refine mx_goto (pc' := 55) dX0_isBeside_51 (by decide) ?_
        refine mx_iret dX0_isBeside_55 (Or.inr ⟨rfl, by decide⟩) ?_
        first | exact ⟨bI_rt (decide_eq_true (by dsimp only; omega)), rfl⟩ | exact ⟨bI_rf (fun z => by have z := of_decide_eq_true z; dsimp only at z; omega), rfl⟩
  · have c20 := (nI_eq (by omega) (by omega)).mp c20
    refine mx_iload_n (pc' := 24) dX0_isBeside_23 rfl rfl ?_
    refine mx_iconst (pc' := 25) (v := nI 1) dX0_isBeside_24 (by decide) rfl ?_
    refine mx_icmp_ne (tgt := 32) (pc' := 28) dX0_isBeside_25 (by decide) rfl (fun c25 => ?_) (fun c25 => ?_)
    · have c25 : ¬ _ := fun z => c25 ((nI_eq (by omega) (by omega)).mpr z)
      refine mx_iconst (pc' := 33) (v := nI 0) dX0_isBeside_32 (by decide) rfl ?_
      refine mx_iret dX0_isBeside_33 (Or.inr ⟨rfl, by decide⟩) ?_
      first | exact ⟨bI_rt (decide_eq_true (by dsimp only; omega)), rfl⟩ | exact ⟨bI_rf (fun z => by have z := of_decide_eq_true z; dsimp only at z; omega), rfl⟩
    · have c25 := (nI_eq (by omega) (by omega)).mp c25
      refine mx_iconst (pc' := 29) (v := nI 1) dX0_isBeside_28 (by decide) rfl ?_
      refine mx_goto (pc' := 33) dX0_isBeside_29 (by decide) ?_
      refine mx_iret dX0_isBeside_33 (Or.inr ⟨rfl, by decide⟩) ?_
      first | exact ⟨bI_rt (decide_eq_true (by dsimp only; omega)), rfl⟩ | exact ⟨bI_rf (fun z => by have z := of_decide_eq_true z; dsimp only at z; omega), rfl⟩

set_option maxHeartbeats 1000000 in
set_option maxRecDepth 10000 in
theorem l_X0_grazeBeside (M : mx_M) (b p : Nat) (hs : BuS b) (hp : p < 10) (L : List Bu) (hL : BuL L) : ∀ (k : Nat) (i : Nat) (M1 : mx_M) (f : Nat), L.length < i + k → i ≤ L.length → M1 b 5 = nI L.length → f = (L.take i).countP (freshB p) → BuP M1 b 0 ((L.take i).map (grzB p)) → BuP M1 b i (L.drop i) → Out M M1 (b + 5) (b + 6) → mx_V cX0_grazeBeside RX0 4 (some .int) 3 4 [some (.ref b), some (.int (nI p)), some (.int (nI f)), some (.int (nI i))] [] M1 (fun v M' => v = some (.int (nI (L.countP (freshB p)))) ∧ BuA M' b (L.map (grzB p)) ∧ Out M M' (b + 5) (b + 6)) := by
  obtain ⟨s0, s1, s2, s3, s4, s5⟩ := hs
  have h60 := hL.1
  intro k
  induction k with
  | zero =>
    intro i M1 f hk hi hn hf hP1 hP2 hO
    exact absurd hk (by omega)
  | succ k ih =>
    intro i M1 f hk hi hn hf hP1 hP2 hO
    refine mx_iload_n (pc' := 5) dX0_grazeBeside_4 rfl rfl ?_
    refine mx_aload_n (pc' := 6) dX0_grazeBeside_5 rfl rfl ?_
    refine mx_getf (pc' := 9) (v := nI L.length) dX0_grazeBeside_6 fl_X0_28 (by assumption) (by rfl) (hn) rfl ?_
    refine mx_icmp_ge (tgt := 46) (pc' := 12) dX0_grazeBeside_9 (by decide) rfl (fun c9 => ?_) (fun c9 => ?_)
    · have c9 := (nI_leI (by omega) (by omega)).mp c9
      refine mx_iload_n (pc' := 47) dX0_grazeBeside_46 rfl rfl ?_
      refine mx_iret dX0_grazeBeside_47 (Or.inl rfl) ?_
      rw [take_len c9] at hP1 hf
      exact ⟨by rw [hf], ⟨by rw [List.length_map]; exact hn, ⟨by rw [List.length_map]; exact hL.1, fun y hy => by obtain ⟨z, hz, e⟩ := List.mem_map.mp hy; rw [← e]; exact grzB_V (hL.2 z hz)⟩, hP1⟩, hO⟩
    · have c9 := Nat.not_le.mp (fun z => c9 ((nI_leI (by omega) (by omega)).mpr z))
      obtain ⟨x, hx⟩ := get_lt c9
      rw [drop_cons hx, BuP.cons] at hP2
      have hV := hL.2 x (List.mem_of_getElem? hx)
      obtain ⟨r, c, d, w, g⟩ := x
      obtain ⟨v1, v2, v3, v4, v5⟩ := id hV
      obtain ⟨w1, w2, w3, w4, w5⟩ := id hP2.1
      dsimp only at v1 v2 v3 v4 v5 w1 w2 w3 w4 w5
      refine mx_aload_n (pc' := 13) dX0_grazeBeside_12 rfl rfl ?_
      refine mx_getr (pc' := 16) dX0_grazeBeside_13 fl_X0_25 (by assumption) (by rfl) rfl ?_
      refine mx_iload_n (pc' := 17) dX0_grazeBeside_16 rfl rfl ?_
      refine mx_bald (pc' := 18) (v := nI g) dX0_grazeBeside_17 (by assumption) (rfl) (by omega) (w5) rfl ?_
      refine mx_if_ne (tgt := 40) (pc' := 21) dX0_grazeBeside_18 (by decide) rfl (fun c18 => ?_) (fun c18 => ?_)
      · have c18 : g ≠ 0 := fun z => c18 (by rw [z]; rfl)
        have hnf : freshB p (r, c, d, w, g) = false := by simp [freshB, c18]
        refine mx_iinc (pc' := 43) (ls' := [_, _, _, _]) (v := nI (i + 1)) dX0_grazeBeside_40 rfl (nI_add i 1) (by decide) rfl rfl rfl ?_
        refine mx_goto (pc' := 4) dX0_grazeBeside_43 (by decide) ?_
        refine ih (i + 1) M1 _ (by omega) (by omega) hn ?_ ?_ hP2.2 hO
        · rw [take_snoc hx, List.countP_append, ← hf]
          simp [hnf]
        · rw [take_snoc hx, List.map_append]
          refine BuP.snoc hP1 ?_
          rw [List.length_map, List.length_take, Nat.min_eq_left hi, Nat.zero_add, show grzB p (r, c, d, w, g) = (r, c, d, w, g) from if_neg (by rw [hnf]; decide)]
          exact hP2.1
      · have c18 : g = 0 := (nI_eq (a := g) (b := 0) (by omega) (by omega)).mp (by first | exact c18 | exact Decidable.not_not.mp c18)
        refine mx_aload_n (pc' := 22) dX0_grazeBeside_21 rfl rfl ?_
        refine mx_iload_n (pc' := 23) dX0_grazeBeside_22 rfl rfl ?_
        refine mx_iload_n (pc' := 24) dX0_grazeBeside_23 rfl rfl ?_
        refine mx_callV (pc' := 27) dX0_grazeBeside_24 cl_X0_49 (s0) (t_X0_isBeside M1 b i p ⟨s0, s1, s2, s3, s4, s5⟩ hp (by omega) (r, c, d, w, g) hP2.1 hV) rfl (by decide) rfl (by decide) rfl (fun v N24 hv => ?_)
        obtain ⟨rfl, hv⟩ := hv
        rw [hv]
        refine mx_if_eq (tgt := 40) (pc' := 30) dX0_grazeBeside_27 (by decide) rfl (fun c27 => ?_) (fun c27 => ?_)
        · have hnf : freshB p (r, c, d, w, g) = false := by
            have := bI_0.mp c27
            simp [freshB, this]
          refine mx_iinc (pc' := 43) (ls' := [_, _, _, _]) (v := nI (i + 1)) dX0_grazeBeside_40 rfl (nI_add i 1) (by decide) rfl rfl rfl ?_
          refine mx_goto (pc' := 4) dX0_grazeBeside_43 (by decide) ?_
          refine ih (i + 1) M1 _ (by omega) (by omega) hn ?_ ?_ hP2.2 hO
          · rw [take_snoc hx, List.countP_append, ← hf]
            simp [hnf]
          · rw [take_snoc hx, List.map_append]
            refine BuP.snoc hP1 ?_
            rw [List.length_map, List.length_take, Nat.min_eq_left hi, Nat.zero_add, show grzB p (r, c, d, w, g) = (r, c, d, w, g) from if_neg (by rw [hnf]; decide)]
            exact hP2.1
        · have hnf : freshB p (r, c, d, w, g) = true := by
            have := bI_n.mp c27
            subst c18
            simp [freshB, this]
          refine mx_aload_n (pc' := 31) dX0_grazeBeside_30 rfl rfl ?_
          refine mx_getr (pc' := 34) dX0_grazeBeside_31 fl_X0_25 (by assumption) (by rfl) rfl ?_
          refine mx_iload_n (pc' := 35) dX0_grazeBeside_34 rfl rfl ?_
          refine mx_iconst (pc' := 36) (v := nI 1) dX0_grazeBeside_35 (by decide) rfl ?_
          refine mx_bast (pc' := 37) dX0_grazeBeside_36 (by assumption) (rfl) (by omega) (by decide) rfl ?_
          refine mx_iinc (pc' := 40) (ls' := [_, _, _, _]) (v := nI (f + 1)) dX0_grazeBeside_37 rfl (nI_add f 1) (by decide) rfl rfl rfl ?_
          refine mx_iinc (pc' := 43) (ls' := [_, _, _, _]) (v := nI (i + 1)) dX0_grazeBeside_40 rfl (nI_add i 1) (by decide) rfl rfl rfl ?_
          refine mx_goto (pc' := 4) dX0_grazeBeside_43 (by decide) ?_
          refine ih (i + 1) _ _ (by omega) (by omega) ?_ ?_ ?_ ?_ ?_
          · rw [mx_up_ne (by omega)]; exact hn
          · rw [take_snoc hx, List.countP_append, ← hf]
            simp [hnf]
          · rw [take_snoc hx, List.map_append]
            refine BuP.snoc (hP1.fr fun q j z1 z2 z3 z4 => ?_) ?_
            · rw [List.length_map, List.length_take] at z4
              simp [mx_up, show j ≠ i by omega]
            · rw [List.length_map, List.length_take, Nat.min_eq_left hi, Nat.zero_add, show grzB p (r, c, d, w, g) = (r, c, d, w, 1) from if_pos hnf]
              exact ⟨by simp [mx_up, w1], by simp [mx_up, w2], by simp [mx_up, w3], by simp [mx_up, w4], by simp [mx_up]⟩
          · refine hP2.2.fr fun q j z1 z2 z3 z4 => ?_
            simp [mx_up, show j ≠ i by omega]
          · exact hO.up (by omega) (by omega)

set_option maxHeartbeats 1000000 in
set_option maxRecDepth 10000 in
theorem t_X0_grazeBeside (M : mx_M) (b p : Nat) (hs : BuS b) (hp : p < 10) (L : List Bu) (hA : BuA M b L) : mx_T yX0_grazeBeside cX0_grazeBeside 4 (some .int) 3 [.ref b, .int (nI p)] M (fun v M' => v = some (.int (nI (L.countP (freshB p)))) ∧ BuA M' b (L.map (grzB p)) ∧ Out M M' (b + 5) (b + 6)) := by
  refine mx_T.of1 (own := RX0) (ls := [some (.ref b), some (.int (nI p)), none, none]) (by decide +kernel) rfl (Nat.le_of_ble_eq_true rfl) rfl rfl ?_
  refine mx_iconst (pc' := 1) (v := nI 0) dX0_grazeBeside_0 (by decide) rfl ?_
  refine mx_istore_n (pc' := 2) (ls' := [_, _, _, _]) dX0_grazeBeside_1 (by decide) (rfl) rfl rfl ?_
  refine mx_iconst (pc' := 3) (v := nI 0) dX0_grazeBeside_2 (by decide) rfl ?_
  refine mx_istore_n (pc' := 4) (ls' := [_, _, _, _]) dX0_grazeBeside_3 (by decide) (rfl) rfl rfl ?_
  exact l_X0_grazeBeside M b p hs hp L hA.2.1 (L.length + 1) 0 M 0 (by omega) (by omega) hA.1 rfl BuP.nil hA.2.2 Out.rf

/-- ten bits -/
def bits10 (f : Nat → Bool) : Nat := (f 0).toNat + 2 * (f 1).toNat + 4 * (f 2).toNat + 8 * (f 3).toNat + 16 * (f 4).toNat + 32 * (f 5).toNat + 64 * (f 6).toNat + 128 * (f 7).toNat + 256 * (f 8).toNat + 512 * (f 9).toNat
theorem bits10_lt (f : Nat → Bool) : bits10 f < 1024 := by
  unfold bits10
  have h : ∀ b : Bool, b.toNat ≤ 1 := by decide
  have := h (f 0); have := h (f 1); have := h (f 2); have := h (f 3); have := h (f 4); have := h (f 5); have := h (f 6); have := h (f 7); have := h (f 8); have := h (f 9)
  omega
theorem bits10_tb (f : Nat → Bool) : ∀ c, c < 10 → (bits10 f).testBit c = f c := by
  intro c hc
  unfold bits10
  rcases (show c = 0 ∨ c = 1 ∨ c = 2 ∨ c = 3 ∨ c = 4 ∨ c = 5 ∨ c = 6 ∨ c = 7 ∨ c = 8 ∨ c = 9 by omega) with h | h | h | h | h | h | h | h | h | h <;> subst h <;> generalize f 0 = b0 <;> generalize f 1 = b1 <;> generalize f 2 = b2 <;> generalize f 3 = b3 <;> generalize f 4 = b4 <;> generalize f 5 = b5 <;> generalize f 6 = b6 <;> generalize f 7 = b7 <;> generalize f 8 = b8 <;> generalize f 9 = b9 <;> revert b0 b1 b2 b3 b4 b5 b6 b7 b8 b9 <;> decide +kernel
theorem bits_eq {a b : Nat} (ha : a < 1024) (hb : b < 1024) (h : ∀ c, c < 10 → a.testBit c = b.testBit c) : a = b := by
  apply Nat.eq_of_testBit_eq
  intro i
  by_cases hi : i < 10
  · exact h i hi
  · have h1 : 1024 ≤ 2 ^ i := by
      have := Nat.pow_le_pow_right (n := 2) (by decide) (show 10 ≤ i by omega)
      exact this
    rw [Nat.testBit_lt_two_pow (by omega), Nat.testBit_lt_two_pow (by omega)]
/-- the free columns, as bits -/
def frB (L : List Bu) : Nat := bits10 (fun c => !L.any (atB 11 c))
theorem frc_1 : ∀ f, f < 1024 → ∀ c, c < 10 → nI f &&& ((nI 1 <<< (nI c &&& 31)) ^^^ (-1)) = nI (f &&& (1023 - 2 ^ c)) := by decide +kernel
theorem frc_2 : ∀ c, c < 10 → ∀ k, k < 10 → (1023 - 2 ^ c).testBit k = decide (k ≠ c) := by decide +kernel
set_option maxHeartbeats 1000000 in
set_option maxRecDepth 10000 in
theorem l_X0_freeColumns (M : mx_M) (b : Nat) (hs : BuS b) (L : List Bu) (hA : BuA M b L) : ∀ (k : Nat) (i f : Nat), L.length < i + k → i ≤ L.length → f < 1024 → (∀ c, c < 10 → f.testBit c = !(L.take i).any (atB 11 c)) → mx_V cX0_freeColumns RX0 3 (some .int) 1 6 [some (.ref b), some (.int (nI f)), some (.int (nI i))] [] M (fun v M' => v = some (.int (nI (frB L))) ∧ M' = M) := by
  obtain ⟨s0, s1, s2, s3, s4, s5⟩ := hs
  have h60 := hA.2.1.1
  intro k
  induction k with
  | zero =>
    intro i f hk hi hf hb
    exact absurd hk (by omega)
  | succ k ih =>
    intro i f hk hi hf hb
    refine mx_iload_n (pc' := 7) dX0_freeColumns_6 rfl rfl ?_
    refine mx_aload_n (pc' := 8) dX0_freeColumns_7 rfl rfl ?_
    refine mx_getf (pc' := 11) (v := nI L.length) dX0_freeColumns_8 fl_X0_28 (by assumption) (by rfl) (hA.1) rfl ?_
    refine mx_icmp_ge (tgt := 44) (pc' := 14) dX0_freeColumns_11 (by decide) rfl (fun c11 => ?_) (fun c11 => ?_)
    · have c11 := (nI_leI (by omega) (by omega)).mp c11
      refine mx_iload_n (pc' := 45) dX0_freeColumns_44 rfl rfl ?_
      refine mx_iret dX0_freeColumns_45 (Or.inl rfl) ?_
      exact ⟨by rw [bits_eq hf (bits10_lt _) (fun k2 hk2 => (hb k2 hk2).trans (by rw [bits10_tb _ k2 hk2, take_len c11]))]; rfl, rfl⟩
    · have c11 := Nat.not_le.mp (fun z => c11 ((nI_leI (by omega) (by omega)).mpr z))
      obtain ⟨x, hx⟩ := get_lt c11
      have hV := hA.2.1.2 x (List.mem_of_getElem? hx)
      have hW := hA.2.2.at hx
      obtain ⟨r, c, d, w, g⟩ := x
      obtain ⟨v1, v2, v3, v4, v5⟩ := hV
      obtain ⟨w1, w2, w3, w4, w5⟩ := hW
      dsimp only at v1 v2 v3 v4 v5 w1 w2 w3 w4 w5
      refine mx_aload_n (pc' := 15) dX0_freeColumns_14 rfl rfl ?_
      refine mx_getr (pc' := 18) dX0_freeColumns_15 fl_X0_9 (by assumption) (by rfl) rfl ?_
      refine mx_iload_n (pc' := 19) dX0_freeColumns_18 rfl rfl ?_
      refine mx_iald (pc' := 20) (v := nI r) dX0_freeColumns_19 (by assumption) (rfl) (by omega) (w1) rfl ?_
      refine mx_bipush (pc' := 22) (v := nI 11) dX0_freeColumns_20 (by decide) rfl ?_
      refine mx_icmp_ne (tgt := 38) (pc' := 25) dX0_freeColumns_22 (by decide) rfl (fun c22 => ?_) (fun c22 => ?_)
      · have c22 : ¬ _ := fun z => c22 ((nI_eq (by omega) (by omega)).mpr z)
        refine mx_iinc (pc' := 41) (ls' := [_, _, _]) (v := nI (i + 1)) dX0_freeColumns_38 rfl (nI_add i 1) (by decide) rfl rfl rfl ?_
        refine mx_goto (pc' := 6) dX0_freeColumns_41 (by decide) ?_
        refine ih (i + 1) _ (by omega) (by omega) hf ?_
        intro k2 hk2
        rw [hb k2 hk2, take_snoc hx, List.any_append]
        simp [atB, c22]
      · have c22 := (nI_eq (by omega) (by omega)).mp c22
        refine mx_iload_n (pc' := 26) dX0_freeColumns_25 rfl rfl ?_
        refine mx_iconst (pc' := 27) (v := nI 1) dX0_freeColumns_26 (by decide) rfl ?_
        refine mx_aload_n (pc' := 28) dX0_freeColumns_27 rfl rfl ?_
        refine mx_getr (pc' := 31) dX0_freeColumns_28 fl_X0_15 (by assumption) (by rfl) rfl ?_
        refine mx_iload_n (pc' := 32) dX0_freeColumns_31 rfl rfl ?_
        refine mx_iald (pc' := 33) (v := nI c) dX0_freeColumns_32 (by assumption) (rfl) (by omega) (w2) rfl ?_
        refine mx_ishl (pc' := 34) dX0_freeColumns_33 (rfl) rfl ?_
        refine mx_iconst (pc' := 35) (v := (-1)) dX0_freeColumns_34 (by decide) rfl ?_
        refine mx_ixor (pc' := 36) dX0_freeColumns_35 (rfl) rfl ?_
        refine mx_iand (pc' := 37) (v := nI (f &&& (1023 - 2 ^ c))) dX0_freeColumns_36 (frc_1 f hf c (by omega)) rfl ?_
        refine mx_istore_n (pc' := 38) (ls' := [_, _, _]) dX0_freeColumns_37 (by decide) (rfl) rfl rfl ?_
        refine mx_iinc (pc' := 41) (ls' := [_, _, _]) (v := nI (i + 1)) dX0_freeColumns_38 rfl (nI_add i 1) (by decide) rfl rfl rfl ?_
        refine mx_goto (pc' := 6) dX0_freeColumns_41 (by decide) ?_
        refine ih (i + 1) _ (by omega) (by omega) (Nat.lt_of_le_of_lt Nat.and_le_left hf) ?_
        intro k2 hk2
        rw [Nat.testBit_and, hb k2 hk2, frc_2 c (by omega) k2 hk2, take_snoc hx, List.any_append]
        by_cases e : k2 = c
        · subst e
          simp [atB, c22]
        · simp [atB, e, show ¬ c = k2 from fun z => e z.symm]

set_option maxHeartbeats 1000000 in
set_option maxRecDepth 10000 in
theorem t_X0_freeColumns (M : mx_M) (b : Nat) (hs : BuS b) (L : List Bu) (hA : BuA M b L) : mx_T yX0_freeColumns cX0_freeColumns 3 (some .int) 1 [.ref b] M (fun v M' => v = some (.int (nI (frB L))) ∧ M' = M) := by
  refine mx_T.of1 (own := RX0) (ls := [some (.ref b), none, none]) (by decide +kernel) rfl (Nat.le_of_ble_eq_true rfl) rfl rfl ?_
  refine mx_sipush (pc' := 3) (v := nI 1023) dX0_freeColumns_0 (by decide) rfl ?_
  refine mx_istore_n (pc' := 4) (ls' := [_, _, _]) dX0_freeColumns_3 (by decide) (rfl) rfl rfl ?_
  refine mx_iconst (pc' := 5) (v := nI 0) dX0_freeColumns_4 (by decide) rfl ?_
  refine mx_istore_n (pc' := 6) (ls' := [_, _, _]) dX0_freeColumns_5 (by decide) (rfl) rfl rfl ?_
  exact l_X0_freeColumns M b hs L hA (L.length + 1) 0 1023 (by omega) (by omega) (by decide) (by intro c hc; rw [List.take_zero]; revert c; decide +kernel)
end
section
/-! emitters: column, pattern, period, phase -/
abbrev Em : Type := Nat × Nat × Nat × Nat
def EmV (x : Em) : Prop := x.1 < 10 ∧ x.2.1 < 6 ∧ 1 ≤ x.2.2.1 ∧ x.2.2.1 ≤ 9 ∧ x.2.2.2 < x.2.2.1
def EmW (M : mx_M) (e j : Nat) (x : Em) : Prop := M (e + 1) j = nI x.1 ∧ M (e + 2) j = nI x.2.1 ∧ M (e + 3) j = nI x.2.2.1 ∧ M (e + 4) j = nI x.2.2.2
def EmP (M : mx_M) (e o : Nat) (L : List Em) : Prop := ∀ (j : Nat) (x : Em), L[j]? = some x → EmW M e (o + j) x
def EmL (L : List Em) : Prop := L.length ≤ 4 ∧ ∀ x ∈ L, EmV x
def EmA (M : mx_M) (e : Nat) (L : List Em) : Prop := M e 4 = nI L.length ∧ EmL L ∧ EmP M e 0 L
theorem EmW.fr {M M' : mx_M} {e j : Nat} {x : Em} (h : EmW M e j x) (hf : ∀ q, e < q → q ≤ e + 4 → M' q j = M q j) : EmW M' e j x := by
  obtain ⟨h1, h2, h3, h4⟩ := h
  exact ⟨(hf _ (by omega) (by omega)).trans h1, (hf _ (by omega) (by omega)).trans h2, (hf _ (by omega) (by omega)).trans h3, (hf _ (by omega) (by omega)).trans h4⟩
theorem EmP.fr {M M' : mx_M} {e o : Nat} {L : List Em} (h : EmP M e o L) (hf : ∀ q j, e < q → q ≤ e + 4 → o ≤ j → j < o + L.length → M' q j = M q j) : EmP M' e o L := by
  intro j x hj
  have hl := (List.getElem?_eq_some_iff.mp hj).1
  exact (h j x hj).fr (fun q h1 h2 => hf q _ h1 h2 (by omega) (by omega))
theorem EmP.nil {M : mx_M} {e o : Nat} : EmP M e o [] := fun j x h => by simp at h
theorem EmP.cons {M : mx_M} {e o : Nat} {x : Em} {L : List Em} : EmP M e o (x :: L) ↔ EmW M e o x ∧ EmP M e (o + 1) L := by
  constructor
  · intro h
    refine ⟨h 0 x rfl, fun j y hj => ?_⟩
    have := h (j + 1) y (by simpa using hj)
    rwa [show o + (j + 1) = o + 1 + j by omega] at this
  · rintro ⟨h1, h2⟩ j y hj
    cases j with
    | zero => cases hj; exact h1
    | succ j =>
      have := h2 j y (by simpa using hj)
      rwa [show o + 1 + j = o + (j + 1) by omega] at this
theorem EmP.app {M : mx_M} {e : Nat} {L L' : List Em} : ∀ {o : Nat}, EmP M e o (L ++ L') ↔ EmP M e o L ∧ EmP M e (o + L.length) L' := by
  induction L with
  | nil => intro o; simp [EmP.nil]
  | cons x L ih =>
    intro o
    rw [List.cons_append, EmP.cons, EmP.cons, ih, and_assoc, List.length_cons, show o + 1 + L.length = o + (L.length + 1) by omega]
theorem EmP.snoc {M : mx_M} {e o : Nat} {L : List Em} {x : Em} (h1 : EmP M e o L) (h2 : EmW M e (o + L.length) x) : EmP M e o (L ++ [x]) := EmP.app.mpr ⟨h1, EmP.cons.mpr ⟨h2, EmP.nil⟩⟩
theorem EmP.at {M : mx_M} {e : Nat} {L : List Em} (h : EmP M e 0 L) {i : Nat} {x : Em} (hx : L[i]? = some x) : EmW M e i x := by
  have := h i x hx
  rwa [Nat.zero_add] at this
/-- how many ticks until it fires next -/
def wtF (q f t : Nat) : Nat := (f + q - (t + 1) % q) % q + 1
theorem wtF_1 : ∀ q, q < 10 → ∀ f, f < q → ∀ r, r < q → (r + ((f + q - (r + 1) % q) % q + 1)) % q = f := by decide +kernel
theorem wtF_2 : ∀ q, q < 10 → ∀ f, f < q → ∀ r, r < q → (f + q - (r + 1) % q) % q + 1 ≤ q := by decide +kernel
theorem wtF_3 : ∀ q, q < 10 → ∀ f, f < q → ∀ r, r < q → ∀ m, m < (f + q - (r + 1) % q) % q → (r + (m + 1)) % q ≠ f := by decide +kernel
theorem wtF_ok {q f t : Nat} (h1 : 1 ≤ q) (h9 : q ≤ 9) (hf : f < q) : (t + wtF q f t) % q = f ∧ wtF q f t ≤ q ∧ ∀ m, m < wtF q f t → 1 ≤ m → (t + m) % q ≠ f := by
  have hr : t % q < q := Nat.mod_lt _ (by omega)
  have e : (t % q + 1) % q = (t + 1) % q := by rw [Nat.mod_add_mod]
  have h1 := wtF_1 q (by omega) f hf (t % q) hr
  have h2 := wtF_2 q (by omega) f hf (t % q) hr
  have h3 := wtF_3 q (by omega) f hf (t % q) hr
  rw [e] at h1 h2 h3
  refine ⟨?_, h2, fun m h4 h5 h6 => ?_⟩
  · rw [Nat.mod_add_mod] at h1
    exact h1
  · obtain ⟨m, rfl⟩ : ∃ j, m = j + 1 := ⟨m - 1, by omega⟩
    refine h3 m (by unfold wtF at h4; omega) ?_
    rw [Nat.mod_add_mod]; exact h6
set_option maxHeartbeats 1000000 in
set_option maxRecDepth 10000 in
theorem t_X2_has (M : mx_M) (e n : Nat) (hs : EmS e) (hn : M e 4 = nI n) (h60 : n ≤ 4) (x : Int32) : mx_T yX2_has cX2_has 2 (some .boolean) 1 [.ref e, .int x] M (fun v M' => v = some (.int (bI (0 ≤ x ∧ x < nI n))) ∧ M' = M) := by
  obtain ⟨s0, s1, s2, s3, s4⟩ := hs
  refine mx_T.of1 (own := RX2) (ls := [some (.ref e), some (.int x)]) (by decide +kernel) rfl (Nat.le_of_ble_eq_true rfl) rfl rfl ?_
  refine mx_iload_n (pc' := 1) dX2_has_0 rfl rfl ?_
  refine mx_if_lt (tgt := 16) (pc' := 4) dX2_has_1 (by decide) rfl (fun c1 => ?_) (fun c1 => ?_)
  · refine mx_iconst (pc' := 17) (v := nI 0) dX2_has_16 (by decide) rfl ?_
    refine mx_iret dX2_has_17 (Or.inr ⟨rfl, by decide⟩) ?_
    first | exact ⟨bI_rt (by (simp (disch := omega) only [Int32.lt_iff_toInt_lt, Int32.le_iff_toInt_le, ← Int32.toInt_inj, ne_eq, nI_t, z_t, m1_t] at * <;> omega)), rfl⟩ | exact ⟨bI_rf (by (simp (disch := omega) only [Int32.lt_iff_toInt_lt, Int32.le_iff_toInt_le, ← Int32.toInt_inj, ne_eq, nI_t, z_t, m1_t] at * <;> omega)), rfl⟩
  · refine mx_iload_n (pc' := 5) dX2_has_4 rfl rfl ?_
    refine mx_aload_n (pc' := 6) dX2_has_5 rfl rfl ?_
    refine mx_getf (pc' := 9) (v := nI n) dX2_has_6 fl_X2_24 (by assumption) (by rfl) (hn) rfl ?_
    refine mx_icmp_ge (tgt := 16) (pc' := 12) dX2_has_9 (by decide) rfl (fun c9 => ?_) (fun c9 => ?_)
    · refine mx_iconst (pc' := 17) (v := nI 0) dX2_has_16 (by decide) rfl ?_
      refine mx_iret dX2_has_17 (Or.inr ⟨rfl, by decide⟩) ?_
      first | exact ⟨bI_rt (by (simp (disch := omega) only [Int32.lt_iff_toInt_lt, Int32.le_iff_toInt_le, ← Int32.toInt_inj, ne_eq, nI_t, z_t, m1_t] at * <;> omega)), rfl⟩ | exact ⟨bI_rf (by (simp (disch := omega) only [Int32.lt_iff_toInt_lt, Int32.le_iff_toInt_le, ← Int32.toInt_inj, ne_eq, nI_t, z_t, m1_t] at * <;> omega)), rfl⟩
    · refine mx_iconst (pc' := 13) (v := nI 1) dX2_has_12 (by decide) rfl ?_
      refine mx_goto (pc' := 17) dX2_has_13 (by decide) ?_
      refine mx_iret dX2_has_17 (Or.inr ⟨rfl, by decide⟩) ?_
      first | exact ⟨bI_rt (by (simp (disch := omega) only [Int32.lt_iff_toInt_lt, Int32.le_iff_toInt_le, ← Int32.toInt_inj, ne_eq, nI_t, z_t, m1_t] at * <;> omega)), rfl⟩ | exact ⟨bI_rf (by (simp (disch := omega) only [Int32.lt_iff_toInt_lt, Int32.le_iff_toInt_le, ← Int32.toInt_inj, ne_eq, nI_t, z_t, m1_t] at * <;> omega)), rfl⟩

set_option maxHeartbeats 1000000 in
set_option maxRecDepth 10000 in
theorem t_X2_isFull (M : mx_M) (e n : Nat) (hs : EmS e) (hn : M e 4 = nI n) (h60 : n ≤ 4) : mx_T yX2_isFull cX2_isFull 1 (some .boolean) 1 [.ref e] M (fun v M' => v = some (.int (bI (n = 4))) ∧ M' = M) := by
  obtain ⟨s0, s1, s2, s3, s4⟩ := hs
  refine mx_T.of1 (own := RX2) (ls := [some (.ref e)]) (by decide +kernel) rfl (Nat.le_of_ble_eq_true rfl) rfl rfl ?_
  refine mx_aload_n (pc' := 1) dX2_isFull_0 rfl rfl ?_
  refine mx_getf (pc' := 4) (v := nI n) dX2_isFull_1 fl_X2_24 (by assumption) (by rfl) (hn) rfl ?_
  refine mx_iconst (pc' := 5) (v := nI 4) dX2_isFull_4 (by decide) rfl ?_
  refine mx_icmp_lt (tgt := 12) (pc' := 8) dX2_isFull_5 (by decide) rfl (fun c5 => ?_) (fun c5 => ?_)
  · refine mx_iconst (pc' := 13) (v := nI 0) dX2_isFull_12 (by decide) rfl ?_
    refine mx_iret dX2_isFull_13 (Or.inr ⟨rfl, by decide⟩) ?_
    first | exact ⟨bI_rt (by (simp (disch := omega) only [Int32.lt_iff_toInt_lt, Int32.le_iff_toInt_le, ← Int32.toInt_inj, ne_eq, nI_t, z_t, m1_t] at * <;> omega)), rfl⟩ | exact ⟨bI_rf (by (simp (disch := omega) only [Int32.lt_iff_toInt_lt, Int32.le_iff_toInt_le, ← Int32.toInt_inj, ne_eq, nI_t, z_t, m1_t] at * <;> omega)), rfl⟩
  · refine mx_iconst (pc' := 9) (v := nI 1) dX2_isFull_8 (by decide) rfl ?_
    refine mx_goto (pc' := 13) dX2_isFull_9 (by decide) ?_
    refine mx_iret dX2_isFull_13 (Or.inr ⟨rfl, by decide⟩) ?_
    first | exact ⟨bI_rt (by (simp (disch := omega) only [Int32.lt_iff_toInt_lt, Int32.le_iff_toInt_le, ← Int32.toInt_inj, ne_eq, nI_t, z_t, m1_t] at * <;> omega)), rfl⟩ | exact ⟨bI_rf (by (simp (disch := omega) only [Int32.lt_iff_toInt_lt, Int32.le_iff_toInt_le, ← Int32.toInt_inj, ne_eq, nI_t, z_t, m1_t] at * <;> omega)), rfl⟩

set_option maxHeartbeats 1000000 in
set_option maxRecDepth 10000 in
theorem t_X2_add (M : mx_M) (e : Nat) (hs : EmS e) (L : List Em) (hA : EmA M e L) (hlt : L.length < 4) (x : Em) (hV : EmV x) : mx_T yX2_add cX2_add 5 none 2 [.ref e, .int (nI x.1), .int (nI x.2.1), .int (nI x.2.2.1), .int (nI x.2.2.2)] M (fun v M' => v = none ∧ EmA M' e (L ++ [x]) ∧ Out M M' e (e + 5)) := by
  obtain ⟨s0, s1, s2, s3, s4⟩ := hs
  obtain ⟨hn, hL, hP⟩ := hA
  refine mx_T.of1 (own := RX2) (ls := [some (.ref e), some (.int (nI x.1)), some (.int (nI x.2.1)), some (.int (nI x.2.2.1)), some (.int (nI x.2.2.2))]) (by decide +kernel) rfl (Nat.le_of_ble_eq_true rfl) rfl rfl ?_
  refine mx_aload_n (pc' := 1) dX2_add_0 rfl rfl ?_
  refine mx_callV (pc' := 4) dX2_add_1 cl_X2_28 (s0) (t_X2_isFull M e L.length ⟨s0, s1, s2, s3, s4⟩ hn hL.1) rfl (by decide) rfl (by decide) rfl (fun v N1 hv => ?_)
  obtain ⟨rfl, hv⟩ := hv
  rw [hv]
  refine mx_if_eq (tgt := 8) (pc' := 7) dX2_add_4 (by decide) rfl (fun c4 => ?_) (fun c4 => ?_)
  · have c4 : ¬ L.length = 4 := bI_0.mp c4
    have h4 := hL.1
    refine mx_aload_n (pc' := 9) dX2_add_8 rfl rfl ?_
    refine mx_getr (pc' := 12) dX2_add_9 fl_X2_9 (by assumption) (by rfl) rfl ?_
    refine mx_aload_n (pc' := 13) dX2_add_12 rfl rfl ?_
    refine mx_getf (pc' := 16) (v := nI L.length) dX2_add_13 fl_X2_24 (by assumption) (by rfl) (hn) rfl ?_
    refine mx_iload_n (pc' := 17) dX2_add_16 rfl rfl ?_
    refine mx_iast (pc' := 18) dX2_add_17 (by assumption) (rfl) (by omega) rfl ?_
    refine mx_aload_n (pc' := 19) dX2_add_18 rfl rfl ?_
    refine mx_getr (pc' := 22) dX2_add_19 fl_X2_15 (by assumption) (by rfl) rfl ?_
    refine mx_aload_n (pc' := 23) dX2_add_22 rfl rfl ?_
    refine mx_getf (pc' := 26) (v := nI L.length) dX2_add_23 fl_X2_24 (by assumption) (by rfl) (((by simp only [mx_up]; repeat rw [if_neg (by omega)]) : _ = M e 4).trans hn) rfl ?_
    refine mx_iload_n (pc' := 27) dX2_add_26 rfl rfl ?_
    refine mx_iast (pc' := 28) dX2_add_27 (by assumption) (rfl) (by omega) rfl ?_
    refine mx_aload_n (pc' := 29) dX2_add_28 rfl rfl ?_
    refine mx_getr (pc' := 32) dX2_add_29 fl_X2_18 (by assumption) (by rfl) rfl ?_
    refine mx_aload_n (pc' := 33) dX2_add_32 rfl rfl ?_
    refine mx_getf (pc' := 36) (v := nI L.length) dX2_add_33 fl_X2_24 (by assumption) (by rfl) (((by simp only [mx_up]; repeat rw [if_neg (by omega)]) : _ = M e 4).trans hn) rfl ?_
    refine mx_iload_n (pc' := 37) dX2_add_36 rfl rfl ?_
    refine mx_iast (pc' := 38) dX2_add_37 (by assumption) (rfl) (by omega) rfl ?_
    refine mx_aload_n (pc' := 39) dX2_add_38 rfl rfl ?_
    refine mx_getr (pc' := 42) dX2_add_39 fl_X2_21 (by assumption) (by rfl) rfl ?_
    refine mx_aload_n (pc' := 43) dX2_add_42 rfl rfl ?_
    refine mx_getf (pc' := 46) (v := nI L.length) dX2_add_43 fl_X2_24 (by assumption) (by rfl) (((by simp only [mx_up]; repeat rw [if_neg (by omega)]) : _ = M e 4).trans hn) rfl ?_
    refine mx_iload (pc' := 48) dX2_add_46 rfl rfl ?_
    refine mx_iast (pc' := 49) dX2_add_48 (by assumption) (rfl) (by omega) rfl ?_
    refine mx_aload_n (pc' := 50) dX2_add_49 rfl rfl ?_
    refine mx_dup (pc' := 51) dX2_add_50 rfl rfl ?_
    refine mx_getf (pc' := 54) (v := nI L.length) dX2_add_51 fl_X2_24 (by assumption) (by rfl) (((by simp only [mx_up]; repeat rw [if_neg (by omega)]) : _ = M e 4).trans hn) rfl ?_
    refine mx_iconst (pc' := 55) (v := nI 1) dX2_add_54 (by decide) rfl ?_
    refine mx_iadd (pc' := 56) (v := nI (L.length + 1)) dX2_add_55 (nI_add _ 1) rfl ?_
    refine mx_putf (pc' := 59) dX2_add_56 fl_X2_24 (by assumption) (by rfl) (⟨rfl, rfl⟩) rfl ?_
    refine mx_vret dX2_add_59 rfl ?_
    refine ⟨rfl, ⟨by simp [mx_up], ⟨by simp; omega, fun y hy => ?_⟩, EmP.snoc (hP.fr fun q j h1 h2 h3 h4 => ?_) ⟨by simp [mx_up], by simp [mx_up], by simp [mx_up], by simp [mx_up]⟩⟩, (by repeat (first | exact Out.rf | assumption | refine Out.up ?_ (by omega) (by omega)))⟩
    · rcases List.mem_append.mp hy with hy | hy
      · exact hL.2 y hy
      · rw [List.mem_singleton.mp hy]; exact hV
    · simp [mx_up, show j ≠ L.length by omega, show q ≠ e by omega]
  · have c4 : L.length = 4 := bI_n.mp c4
    refine mx_vret dX2_add_7 rfl ?_
    exact absurd c4 (by omega)

set_option maxHeartbeats 1000000 in
set_option maxRecDepth 10000 in
theorem t_X2_put (M : mx_M) (e e' : Nat) (hs : EmS e) (hs' : EmS e') (hb : e' = e ∨ e + 5 ≤ e' ∨ e' + 5 ≤ e) (t f : Nat) (ht : t < 4) (hf : f < 4) : mx_T yX2_put cX2_put 4 none 1 [.ref e, .int (nI t), .ref e', .int (nI f)] M (fun v M' => v = none ∧ (∀ q j, (q < e + 1 ∨ e + 4 < q ∨ j ≠ t) → M' q j = M q j) ∧ M' (e + 1) t = M (e' + 1) f ∧ M' (e + 2) t = M (e' + 2) f ∧ M' (e + 3) t = M (e' + 3) f ∧ M' (e + 4) t = M (e' + 4) f) := by
  obtain ⟨s0, s1, s2, s3, s4⟩ := hs
  obtain ⟨u0, u1, u2, u3, u4⟩ := hs'
  refine mx_T.of1 (own := RX2) (ls := [some (.ref e), some (.int (nI t)), some (.ref e'), some (.int (nI f))]) (by decide +kernel) rfl (Nat.le_of_ble_eq_true rfl) rfl rfl ?_
  refine mx_aload_n (pc' := 1) dX2_put_0 rfl rfl ?_
  refine mx_getr (pc' := 4) dX2_put_1 fl_X2_9 (by assumption) (by rfl) rfl ?_
  refine mx_iload_n (pc' := 5) dX2_put_4 rfl rfl ?_
  refine mx_aload_n (pc' := 6) dX2_put_5 rfl rfl ?_
  refine mx_getr (pc' := 9) dX2_put_6 fl_X2_9 (by assumption) (by rfl) rfl ?_
  refine mx_iload_n (pc' := 10) dX2_put_9 rfl rfl ?_
  refine mx_iald (pc' := 11) (v := M (e' + 1) f) dX2_put_10 (by assumption) (rfl) (by omega) (by simp only [mx_up]; repeat rw [if_neg (by omega)]) rfl ?_
  refine mx_iast (pc' := 12) dX2_put_11 (by assumption) (rfl) (by omega) rfl ?_
  refine mx_aload_n (pc' := 13) dX2_put_12 rfl rfl ?_
  refine mx_getr (pc' := 16) dX2_put_13 fl_X2_15 (by assumption) (by rfl) rfl ?_
  refine mx_iload_n (pc' := 17) dX2_put_16 rfl rfl ?_
  refine mx_aload_n (pc' := 18) dX2_put_17 rfl rfl ?_
  refine mx_getr (pc' := 21) dX2_put_18 fl_X2_15 (by assumption) (by rfl) rfl ?_
  refine mx_iload_n (pc' := 22) dX2_put_21 rfl rfl ?_
  refine mx_iald (pc' := 23) (v := M (e' + 2) f) dX2_put_22 (by assumption) (rfl) (by omega) (by simp only [mx_up]; repeat rw [if_neg (by omega)]) rfl ?_
  refine mx_iast (pc' := 24) dX2_put_23 (by assumption) (rfl) (by omega) rfl ?_
  refine mx_aload_n (pc' := 25) dX2_put_24 rfl rfl ?_
  refine mx_getr (pc' := 28) dX2_put_25 fl_X2_18 (by assumption) (by rfl) rfl ?_
  refine mx_iload_n (pc' := 29) dX2_put_28 rfl rfl ?_
  refine mx_aload_n (pc' := 30) dX2_put_29 rfl rfl ?_
  refine mx_getr (pc' := 33) dX2_put_30 fl_X2_18 (by assumption) (by rfl) rfl ?_
  refine mx_iload_n (pc' := 34) dX2_put_33 rfl rfl ?_
  refine mx_iald (pc' := 35) (v := M (e' + 3) f) dX2_put_34 (by assumption) (rfl) (by omega) (by simp only [mx_up]; repeat rw [if_neg (by omega)]) rfl ?_
  refine mx_iast (pc' := 36) dX2_put_35 (by assumption) (rfl) (by omega) rfl ?_
  refine mx_aload_n (pc' := 37) dX2_put_36 rfl rfl ?_
  refine mx_getr (pc' := 40) dX2_put_37 fl_X2_21 (by assumption) (by rfl) rfl ?_
  refine mx_iload_n (pc' := 41) dX2_put_40 rfl rfl ?_
  refine mx_aload_n (pc' := 42) dX2_put_41 rfl rfl ?_
  refine mx_getr (pc' := 45) dX2_put_42 fl_X2_21 (by assumption) (by rfl) rfl ?_
  refine mx_iload_n (pc' := 46) dX2_put_45 rfl rfl ?_
  refine mx_iald (pc' := 47) (v := M (e' + 4) f) dX2_put_46 (by assumption) (rfl) (by omega) (by simp only [mx_up]; repeat rw [if_neg (by omega)]) rfl ?_
  refine mx_iast (pc' := 48) dX2_put_47 (by assumption) (rfl) (by omega) rfl ?_
  refine mx_vret dX2_put_48 rfl ?_
  refine ⟨rfl, fun q j hq => ?_, ?_, ?_, ?_, ?_⟩
  · simp only [mx_up]
    by_cases hj : j = t
    · subst hj
      repeat rw [if_neg (by omega)]
    · simp [hj]
  all_goals (simp [mx_up])

theorem t_X2_putW (M : mx_M) (e e' : Nat) (hs : EmS e) (hs' : EmS e') (hb : e' = e ∨ e + 5 ≤ e' ∨ e' + 5 ≤ e) (t f : Nat) (ht : t < 4) (hf : f < 4) (x : Em) (hx : EmW M e' f x) : mx_T yX2_put cX2_put 4 none 1 [.ref e, .int (nI t), .ref e', .int (nI f)] M (fun v M' => v = none ∧ (∀ q j, (q < e + 1 ∨ e + 4 < q ∨ j ≠ t) → M' q j = M q j) ∧ EmW M' e t x) := by
  obtain ⟨x1, x2, x3, x4⟩ := hx
  refine (t_X2_put M e e' hs hs' hb t f ht hf).post ?_
  rintro v M' ⟨e1, h, h1, h2, h3, h4⟩
  exact ⟨e1, h, h1.trans x1, h2.trans x2, h3.trans x3, h4.trans x4⟩
set_option maxHeartbeats 1000000 in
set_option maxRecDepth 10000 in
theorem l_X2_copyFrom (M : mx_M) (e e' : Nat) (hs : EmS e) (hs' : EmS e') (hb : e + 5 ≤ e' ∨ e' + 5 ≤ e) (L : List Em) (hL : EmL L) (hP : EmP M e' 0 L) : ∀ (k : Nat) (i : Nat) (M1 : mx_M), L.length < i + k → i ≤ L.length → M1 e 4 = nI L.length → EmP M1 e 0 (L.take i) → Out M M1 e (e + 5) → mx_V cX2_copyFrom RX2 3 none 2 10 [some (.ref e), some (.ref e'), some (.int (nI i))] [] M1 (fun v M' => v = none ∧ EmA M' e L ∧ Out M M' e (e + 5)) := by
  obtain ⟨s0, s1, s2, s3, s4⟩ := hs
  have h60 := hL.1
  intro k
  induction k with
  | zero =>
    intro i M1 hk hi hn hP1 hO
    exact absurd hk (by omega)
  | succ k ih =>
    intro i M1 hk hi hn hP1 hO
    refine mx_iload_n (pc' := 11) dX2_copyFrom_10 rfl rfl ?_
    refine mx_aload_n (pc' := 12) dX2_copyFrom_11 rfl rfl ?_
    refine mx_getf (pc' := 15) (v := nI L.length) dX2_copyFrom_12 fl_X2_24 (by assumption) (by rfl) (hn) rfl ?_
    refine mx_icmp_ge (tgt := 31) (pc' := 18) dX2_copyFrom_15 (by decide) rfl (fun c15 => ?_) (fun c15 => ?_)
    · have c15 := (nI_leI (by omega) (by omega)).mp c15
      refine mx_vret dX2_copyFrom_31 rfl ?_
      exact ⟨rfl, ⟨hn, hL, by rw [← take_len c15]; exact hP1⟩, hO⟩
    · have c15 := Nat.not_le.mp (fun z => c15 ((nI_leI (by omega) (by omega)).mpr z))
      obtain ⟨x, hx⟩ := get_lt c15
      refine mx_aload_n (pc' := 19) dX2_copyFrom_18 rfl rfl ?_
      refine mx_iload_n (pc' := 20) dX2_copyFrom_19 rfl rfl ?_
      refine mx_aload_n (pc' := 21) dX2_copyFrom_20 rfl rfl ?_
      refine mx_iload_n (pc' := 22) dX2_copyFrom_21 rfl rfl ?_
      refine mx_callV (pc' := 25) dX2_copyFrom_22 cl_X2_36 (s0) (t_X2_putW M1 e e' ⟨s0, s1, s2, s3, s4⟩ hs' (by omega) i i (by omega) (by omega) x ((hP.at hx).fr fun q z1 z2 => by rw [hO q (by omega)])) rfl (by decide) rfl (by decide) rfl (fun v N22 hv => ?_)
      obtain ⟨rfl, h1, h2⟩ := hv
      refine mx_iinc (pc' := 28) (ls' := [_, _, _]) (v := nI (i + 1)) dX2_copyFrom_25 rfl (nI_add i 1) (by decide) rfl rfl rfl ?_
      refine mx_goto (pc' := 10) dX2_copyFrom_28 (by decide) ?_
      exact ih (i + 1) N22 (by omega) (by omega) (by rw [h1 e 4 (by omega)]; exact hn) (by rw [take_snoc hx]; exact EmP.snoc (hP1.fr fun q j z1 z2 z3 z4 => h1 q j (by rw [List.length_take] at z4; omega)) (by rw [List.length_take, Nat.min_eq_left hi, Nat.zero_add]; exact h2)) (hO.tr (fun q hq => funext fun j => h1 q j (by omega)))

set_option maxHeartbeats 1000000 in
set_option maxRecDepth 10000 in
theorem t_X2_copyFrom (M : mx_M) (e e' : Nat) (hs : EmS e) (hs' : EmS e') (hb : e + 5 ≤ e' ∨ e' + 5 ≤ e) (L : List Em) (hA : EmA M e' L) : mx_T yX2_copyFrom cX2_copyFrom 3 none 2 [.ref e, .ref e'] M (fun v M' => v = none ∧ EmA M' e L ∧ Out M M' e (e + 5)) := by
  obtain ⟨s0, s1, s2, s3, s4⟩ := hs
  obtain ⟨u0, u1, u2, u3, u4⟩ := hs'
  refine mx_T.of1 (own := RX2) (ls := [some (.ref e), some (.ref e'), none]) (by decide +kernel) rfl (Nat.le_of_ble_eq_true rfl) rfl rfl ?_
  refine mx_aload_n (pc' := 1) dX2_copyFrom_0 rfl rfl ?_
  refine mx_aload_n (pc' := 2) dX2_copyFrom_1 rfl rfl ?_
  refine mx_getf (pc' := 5) (v := nI L.length) dX2_copyFrom_2 fl_X2_24 (by assumption) (by rfl) (hA.1) rfl ?_
  refine mx_putf (pc' := 8) dX2_copyFrom_5 fl_X2_24 (by assumption) (by rfl) (⟨rfl, rfl⟩) rfl ?_
  refine mx_iconst (pc' := 9) (v := nI 0) dX2_copyFrom_8 (by decide) rfl ?_
  refine mx_istore_n (pc' := 10) (ls' := [_, _, _]) dX2_copyFrom_9 (by decide) (rfl) rfl rfl ?_
  exact l_X2_copyFrom M e e' ⟨s0, s1, s2, s3, s4⟩ ⟨u0, u1, u2, u3, u4⟩ hb L hA.2.1 hA.2.2 (L.length + 1) 0 _ (by omega) (by omega) (mx_up_eq _ _ _ _) EmP.nil (by repeat (first | exact Out.rf | assumption | refine Out.up ?_ (by omega) (by omega)))

set_option maxHeartbeats 1000000 in
set_option maxRecDepth 10000 in
theorem l_X2_remove (M : mx_M) (e r : Nat) (hs : EmS e) (L : List Em) (hL : EmL L) (hr : r < L.length) : ∀ (k : Nat) (i : Nat) (M1 : mx_M), L.length < i + 1 + k → i < L.length → r ≤ i → M1 e 4 = nI L.length → EmP M1 e 0 ((L.eraseIdx r).take i) → EmP M1 e (i + 1) (L.drop (i + 1)) → Out M M1 e (e + 5) → mx_V cX2_remove RX2 3 none 2 13 [some (.ref e), some (.int (nI r)), some (.int (nI (i + 1)))] [] M1 (fun v M' => v = none ∧ EmA M' e (L.eraseIdx r) ∧ Out M M' e (e + 5)) := by
  obtain ⟨s0, s1, s2, s3, s4⟩ := hs
  have h60 := hL.1
  intro k
  induction k with
  | zero =>
    intro i M1 hk hi hri hn hP1 hP2 hO
    exact absurd hk (by omega)
  | succ k ih =>
    intro i M1 hk hi hri hn hP1 hP2 hO
    refine mx_iload_n (pc' := 14) dX2_remove_13 rfl rfl ?_
    refine mx_aload_n (pc' := 15) dX2_remove_14 rfl rfl ?_
    refine mx_getf (pc' := 18) (v := nI L.length) dX2_remove_15 fl_X2_24 (by assumption) (by rfl) (hn) rfl ?_
    refine mx_icmp_ge (tgt := 36) (pc' := 21) dX2_remove_18 (by decide) rfl (fun c18 => ?_) (fun c18 => ?_)
    · have c18 := (nI_leI (by omega) (by omega)).mp c18
      refine mx_aload_n (pc' := 37) dX2_remove_36 rfl rfl ?_
      refine mx_dup (pc' := 38) dX2_remove_37 rfl rfl ?_
      refine mx_getf (pc' := 41) (v := nI L.length) dX2_remove_38 fl_X2_24 (by assumption) (by rfl) (hn) rfl ?_
      refine mx_iconst (pc' := 42) (v := nI 1) dX2_remove_41 (by decide) rfl ?_
      refine mx_isub (pc' := 43) (v := nI (L.length - 1)) dX2_remove_42 (pk_sub (b := 1) (by omega)) rfl ?_
      refine mx_putf (pc' := 46) dX2_remove_43 fl_X2_24 (by assumption) (by rfl) (⟨rfl, rfl⟩) rfl ?_
      refine mx_vret dX2_remove_46 rfl ?_
      have hl : (L.eraseIdx r).length = L.length - 1 := List.length_eraseIdx_of_lt hr
      rw [take_len (by omega)] at hP1
      exact ⟨rfl, ⟨by rw [hl]; exact mx_up_eq _ _ _ _, ⟨by omega, fun y hy => hL.2 y (List.mem_of_mem_eraseIdx hy)⟩, hP1.fr fun q j z1 z2 z3 z4 => by rw [mx_up_ne (by omega)]⟩, (by repeat (first | exact Out.rf | assumption | refine Out.up ?_ (by omega) (by omega)))⟩
    · have c18 := Nat.not_le.mp (fun z => c18 ((nI_leI (by omega) (by omega)).mpr z))
      obtain ⟨x, hx⟩ := get_lt c18
      refine mx_aload_n (pc' := 22) dX2_remove_21 rfl rfl ?_
      refine mx_iload_n (pc' := 23) dX2_remove_22 rfl rfl ?_
      refine mx_iconst (pc' := 24) (v := nI 1) dX2_remove_23 (by decide) rfl ?_
      refine mx_isub (pc' := 25) (v := nI i) dX2_remove_24 (pk_sub (b := 1) (by omega)) rfl ?_
      refine mx_aload_n (pc' := 26) dX2_remove_25 rfl rfl ?_
      refine mx_iload_n (pc' := 27) dX2_remove_26 rfl rfl ?_
      refine mx_callV (pc' := 30) dX2_remove_27 cl_X2_36 (s0) (t_X2_putW M1 e e ⟨s0, s1, s2, s3, s4⟩ ⟨s0, s1, s2, s3, s4⟩ (Or.inl rfl) i (i + 1) (by omega) (by omega) x (by have := hP2; rw [drop_cons hx, EmP.cons] at this; exact this.1)) rfl (by decide) rfl (by decide) rfl (fun v N27 hv => ?_)
      obtain ⟨rfl, h1, h2⟩ := hv
      refine mx_iinc (pc' := 33) (ls' := [_, _, _]) (v := nI (i + 1 + 1)) dX2_remove_30 rfl (nI_add (i + 1) 1) (by decide) rfl rfl rfl ?_
      refine mx_goto (pc' := 13) dX2_remove_33 (by decide) ?_
      have he : (L.eraseIdx r)[i]? = some x := by
        rw [List.getElem?_eraseIdx, if_neg (by omega)]; exact hx
      rw [drop_cons hx, EmP.cons] at hP2
      refine ih (i + 1) N27 (by omega) (by omega) (by omega) (by rw [h1 e 4 (by omega)]; exact hn) ?_ (hP2.2.fr fun q j z1 z2 z3 z4 => h1 q j (by omega)) (hO.tr (fun q hq => funext fun j => h1 q j (by omega)))
      rw [take_snoc he]
      refine EmP.snoc (hP1.fr fun q j z1 z2 z3 z4 => h1 q j (by rw [List.length_take] at z4; omega)) ?_
      rw [List.length_take, Nat.min_eq_left (by have := len_lt he; omega), Nat.zero_add]; exact h2

set_option maxHeartbeats 1000000 in
set_option maxRecDepth 10000 in
theorem t_X2_remove (M : mx_M) (e r : Nat) (hs : EmS e) (L : List Em) (hA : EmA M e L) (hr : r < L.length) : mx_T yX2_remove cX2_remove 3 none 2 [.ref e, .int (nI r)] M (fun v M' => v = none ∧ EmA M' e (L.eraseIdx r) ∧ Out M M' e (e + 5)) := by
  obtain ⟨s0, s1, s2, s3, s4⟩ := hs
  refine mx_T.of1 (own := RX2) (ls := [some (.ref e), some (.int (nI r)), none]) (by decide +kernel) rfl (Nat.le_of_ble_eq_true rfl) rfl rfl ?_
  refine mx_aload_n (pc' := 1) dX2_remove_0 rfl rfl ?_
  refine mx_iload_n (pc' := 2) dX2_remove_1 rfl rfl ?_
  refine mx_callV (pc' := 5) dX2_remove_2 cl_X2_32 (s0) (t_X2_has M e L.length ⟨s0, s1, s2, s3, s4⟩ hA.1 hA.2.1.1 _) rfl (by decide) rfl (by decide) rfl (fun v N2 hv => ?_)
  obtain ⟨rfl, hv⟩ := hv
  rw [hv]
  refine mx_if_ne (tgt := 9) (pc' := 8) dX2_remove_5 (by decide) rfl (fun c5 => ?_) (fun c5 => ?_)
  · have h4 := hA.2.1.1
    refine mx_iload_n (pc' := 10) dX2_remove_9 rfl rfl ?_
    refine mx_iconst (pc' := 11) (v := nI 1) dX2_remove_10 (by decide) rfl ?_
    refine mx_iadd (pc' := 12) (v := nI (r + 1)) dX2_remove_11 (nI_add r 1) rfl ?_
    refine mx_istore_n (pc' := 13) (ls' := [_, _, _]) dX2_remove_12 (by decide) (rfl) rfl rfl ?_
    refine l_X2_remove M e r ⟨s0, s1, s2, s3, s4⟩ L hA.2.1 hr (L.length + 1) r _ (by omega) (by omega) (Nat.le_refl r) hA.1 ?_ ?_ Out.rf
    · intro j x hj
      have hl : j < r := by
        have := len_lt hj
        rw [List.length_take] at this; omega
      rw [List.getElem?_take, if_pos hl, List.getElem?_eraseIdx, if_pos hl] at hj
      exact hA.2.2 j x hj
    · intro j x hj
      rw [List.getElem?_drop] at hj
      have := hA.2.2 (r + 1 + j) x hj
      rwa [Nat.zero_add] at this
  · have h4 := hA.2.1.1
    exact absurd c5 (bI_n.mpr ⟨nI_pos' (by omega), nI_lt hr (by omega)⟩)

set_option maxHeartbeats 1000000 in
set_option maxRecDepth 10000 in
theorem t_X2_firesAt (M : mx_M) (e i t : Nat) (hs : EmS e) (hi : i < 4) (x : Em) (hx : EmW M e i x) (hV : EmV x) (ht : t < 2147483648) : mx_T yX2_firesAt cX2_firesAt 4 (some .boolean) 1 [.ref e, .int (nI i), .int (nI t)] M (fun v M' => v = some (.int (bI (t % x.2.2.1 = x.2.2.2))) ∧ M' = M) := by
  obtain ⟨s0, s1, s2, s3, s4⟩ := hs
  obtain ⟨c, p, q, f⟩ := x
  obtain ⟨w1, w2, w3, w4⟩ := hx
  obtain ⟨v1, v2, v3, v4, v5⟩ := hV
  dsimp only at w1 w2 w3 w4 v1 v2 v3 v4 v5
  refine mx_T.of1 (own := RX2) (ls := [some (.ref e), some (.int (nI i)), some (.int (nI t)), none]) (by decide +kernel) rfl (Nat.le_of_ble_eq_true rfl) rfl rfl ?_
  refine mx_aload_n (pc' := 1) dX2_firesAt_0 rfl rfl ?_
  refine mx_getr (pc' := 4) dX2_firesAt_1 fl_X2_18 (by assumption) (by rfl) rfl ?_
  refine mx_iload_n (pc' := 5) dX2_firesAt_4 rfl rfl ?_
  refine mx_iald (pc' := 6) (v := nI q) dX2_firesAt_5 (by assumption) (rfl) (by omega) (w3) rfl ?_
  refine mx_istore_n (pc' := 7) (ls' := [_, _, _, _]) dX2_firesAt_6 (by decide) (rfl) rfl rfl ?_
  refine mx_iload_n (pc' := 8) dX2_firesAt_7 rfl rfl ?_
  refine mx_if_le (tgt := 27) (pc' := 11) dX2_firesAt_8 (by decide) rfl (fun c8 => ?_) (fun c8 => ?_)
  · exact absurd c8 (nI_nle (by omega) (by omega))
  · refine mx_iload_n (pc' := 12) dX2_firesAt_11 rfl rfl ?_
    refine mx_iload_n (pc' := 13) dX2_firesAt_12 rfl rfl ?_
    refine mx_irem (pc' := 14) (v := nI (t % q)) dX2_firesAt_13 (nI_ne0 (by omega) (by omega)) (pk_rem (by omega) (by omega) (by omega)) rfl ?_
    refine mx_aload_n (pc' := 15) dX2_firesAt_14 rfl rfl ?_
    refine mx_getr (pc' := 18) dX2_firesAt_15 fl_X2_21 (by assumption) (by rfl) rfl ?_
    refine mx_iload_n (pc' := 19) dX2_firesAt_18 rfl rfl ?_
    refine mx_iald (pc' := 20) (v := nI f) dX2_firesAt_19 (by assumption) (rfl) (by omega) (w4) rfl ?_
    refine mx_icmp_ne (tgt := 27) (pc' := 23) dX2_firesAt_20 (by decide) rfl (fun c20 => ?_) (fun c20 => ?_)
    · have hm : t % q < q := Nat.mod_lt _ (by omega)
      have c20 : ¬ _ := fun z => c20 ((nI_eq (by omega) (by omega)).mpr z)
      refine mx_iconst (pc' := 28) (v := nI 0) dX2_firesAt_27 (by decide) rfl ?_
      refine mx_iret dX2_firesAt_28 (Or.inr ⟨rfl, by decide⟩) ?_
      first | exact ⟨bI_rt c20, rfl⟩ | exact ⟨bI_rf c20, rfl⟩
    · have hm : t % q < q := Nat.mod_lt _ (by omega)
      have c20 := (nI_eq (by omega) (by omega)).mp c20
      refine mx_iconst (pc' := 24) (v := nI 1) dX2_firesAt_23 (by decide) rfl ?_
      refine mx_goto (pc' := 28) dX2_firesAt_24 (by decide) ?_
      refine mx_iret dX2_firesAt_28 (Or.inr ⟨rfl, by decide⟩) ?_
      first | exact ⟨bI_rt c20, rfl⟩ | exact ⟨bI_rf c20, rfl⟩

set_option maxHeartbeats 1000000 in
set_option maxRecDepth 10000 in
theorem l_X2_ticksToFire (M : mx_M) (e i t : Nat) (hs : EmS e) (hi : i < 4) (x : Em) (hx : EmW M e i x) (hV : EmV x) (ht : t + 10 < 2147483648) : ∀ (k : Nat) (n : Nat), x.2.2.1 < n + k → n ≤ x.2.2.1 → 1 ≤ n → (∀ m, m < n → 1 ≤ m → (t + m) % x.2.2.1 ≠ x.2.2.2) → mx_V cX2_ticksToFire RX2 4 (some .int) 2 2 [some (.ref e), some (.int (nI i)), some (.int (nI t)), some (.int (nI n))] [] M (fun v M' => v = some (.int (nI (wtF x.2.2.1 x.2.2.2 t))) ∧ M' = M) := by
  obtain ⟨s0, s1, s2, s3, s4⟩ := hs
  obtain ⟨v1, v2, v3, v4, v5⟩ := id hV
  intro k
  induction k with
  | zero =>
    intro n hk hi2 h1 hm
    exact absurd hk (by omega)
  | succ k ih =>
    intro n hk hi2 h1 hm
    refine mx_iload_n (pc' := 3) dX2_ticksToFire_2 rfl rfl ?_
    refine mx_aload_n (pc' := 4) dX2_ticksToFire_3 rfl rfl ?_
    refine mx_getr (pc' := 7) dX2_ticksToFire_4 fl_X2_18 (by assumption) (by rfl) rfl ?_
    refine mx_iload_n (pc' := 8) dX2_ticksToFire_7 rfl rfl ?_
    refine mx_iald (pc' := 9) (v := nI x.2.2.1) dX2_ticksToFire_8 (by assumption) (rfl) (by omega) (hx.2.2.1) rfl ?_
    refine mx_icmp_ge (tgt := 29) (pc' := 12) dX2_ticksToFire_9 (by decide) rfl (fun c9 => ?_) (fun c9 => ?_)
    · have c9 := (nI_leI (by omega) (by omega)).mp c9
      refine mx_iload_n (pc' := 30) dX2_ticksToFire_29 rfl rfl ?_
      refine mx_iret dX2_ticksToFire_30 (Or.inl rfl) ?_
      refine ⟨?_, rfl⟩
      have h := wtF_ok (t := t) v3 v4 v5
      rw [show n = wtF x.2.2.1 x.2.2.2 t from ?_]
      rcases Nat.lt_trichotomy n (wtF x.2.2.1 x.2.2.2 t) with z | z | z
      · omega
      · exact z
      · exact absurd h.1 (hm _ z (Nat.le_add_left 1 _))
    · have c9 := Nat.not_le.mp (fun z => c9 ((nI_leI (by omega) (by omega)).mpr z))
      refine mx_aload_n (pc' := 13) dX2_ticksToFire_12 rfl rfl ?_
      refine mx_iload_n (pc' := 14) dX2_ticksToFire_13 rfl rfl ?_
      refine mx_iload_n (pc' := 15) dX2_ticksToFire_14 rfl rfl ?_
      refine mx_iload_n (pc' := 16) dX2_ticksToFire_15 rfl rfl ?_
      refine mx_iadd (pc' := 17) (v := nI (t + n)) dX2_ticksToFire_16 (nI_add t n) rfl ?_
      refine mx_callV (pc' := 20) dX2_ticksToFire_17 cl_X2_40 (s0) (t_X2_firesAt M e i (t + n) ⟨s0, s1, s2, s3, s4⟩ hi x hx hV (by omega)) rfl (by decide) rfl (by decide) rfl (fun v N17 hv => ?_)
      obtain ⟨rfl, hv⟩ := hv
      rw [hv]
      refine mx_if_ne (tgt := 29) (pc' := 23) dX2_ticksToFire_20 (by decide) rfl (fun c20 => ?_) (fun c20 => ?_)
      · have c20 := bI_n.mp c20
        refine mx_iload_n (pc' := 30) dX2_ticksToFire_29 rfl rfl ?_
        refine mx_iret dX2_ticksToFire_30 (Or.inl rfl) ?_
        refine ⟨?_, rfl⟩
        have h := wtF_ok (t := t) v3 v4 v5
        rw [show n = wtF x.2.2.1 x.2.2.2 t from ?_]
        rcases Nat.lt_trichotomy n (wtF x.2.2.1 x.2.2.2 t) with z | z | z
        · exact absurd c20 (h.2.2 n z h1)
        · exact z
        · exact absurd h.1 (hm _ z (Nat.le_add_left 1 _))
      · have c20 : ¬ (t + n) % x.2.2.1 = x.2.2.2 := bI_0.mp c20
        refine mx_iinc (pc' := 26) (ls' := [_, _, _, _]) (v := nI (n + 1)) dX2_ticksToFire_23 rfl (nI_add n 1) (by decide) rfl rfl rfl ?_
        refine mx_goto (pc' := 2) dX2_ticksToFire_26 (by decide) ?_
        refine ih (n + 1) (by omega) (by omega) (by omega) ?_
        intro m z1 z2
        by_cases z : m = n
        · rw [z]; exact c20
        · exact hm m (by omega) z2

set_option maxHeartbeats 1000000 in
set_option maxRecDepth 10000 in
theorem t_X2_ticksToFire (M : mx_M) (e i t : Nat) (hs : EmS e) (hi : i < 4) (x : Em) (hx : EmW M e i x) (hV : EmV x) (ht : t + 10 < 2147483648) : mx_T yX2_ticksToFire cX2_ticksToFire 4 (some .int) 2 [.ref e, .int (nI i), .int (nI t)] M (fun v M' => v = some (.int (nI (wtF x.2.2.1 x.2.2.2 t))) ∧ M' = M) := by
  refine mx_T.of1 (own := RX2) (ls := [some (.ref e), some (.int (nI i)), some (.int (nI t)), none]) (by decide +kernel) rfl (Nat.le_of_ble_eq_true rfl) rfl rfl ?_
  refine mx_iconst (pc' := 1) (v := nI 1) dX2_ticksToFire_0 (by decide) rfl ?_
  refine mx_istore_n (pc' := 2) (ls' := [_, _, _, _]) dX2_ticksToFire_1 (by decide) (rfl) rfl rfl ?_
  exact l_X2_ticksToFire M e i t hs hi x hx hV ht (x.2.2.1 + 1) 1 (by omega) hV.2.2.1 (Nat.le_refl 1) (fun m z1 z2 => by omega)
end
section
/-! the field: emitters, bullets, scalars (0 sprite, 1 shields, 2 bombs, 3 ticks, 4 down, 5 TURN, 6 BLAST), accounts (0 fired .. 7 hits) -/
abbrev FS : Type := List Em × List Bu × (Nat → Nat) × (Nat → Int32)
def FiA (M : mx_M) (a : Nat) (F : FS) : Prop := EmA M (a + 1) F.1 ∧ BuA M (a + 6) F.2.1 ∧ (∀ j, j < 5 → M a (4 + j) = nI (F.2.2.1 j)) ∧ (∀ j, j < 2 → M (a + 12) j = nI (F.2.2.1 (5 + j))) ∧ ∀ j, j < 8 → M (a + 13) j = F.2.2.2 j
def FV (F : FS) : Prop := F.2.2.1 0 < 10 ∧ F.2.2.1 1 ≤ 3 ∧ F.2.2.1 2 ≤ 2 ∧ F.2.2.1 4 < 2 ∧ F.2.2.1 5 < 2 ∧ 1 ≤ F.2.2.1 6 ∧ F.2.2.1 6 ≤ 5
theorem EmA.fr {M M' : mx_M} {e : Nat} {L : List Em} (h : EmA M e L) (hf : ∀ q, e ≤ q → q ≤ e + 4 → M' q = M q) : EmA M' e L := ⟨by rw [hf e (by omega) (by omega)]; exact h.1, h.2.1, h.2.2.fr fun q j h1 h2 _ _ => by rw [hf q (by omega) h2]⟩
theorem BuA.fr {M M' : mx_M} {b : Nat} {L : List Bu} (h : BuA M b L) (hf : ∀ q, b ≤ q → q ≤ b + 5 → M' q = M q) : BuA M' b L := ⟨by rw [hf b (by omega) (by omega)]; exact h.1, h.2.1, h.2.2.fr fun q j h1 h2 _ _ => by rw [hf q (by omega) h2]⟩
theorem FiA.fr {M M' : mx_M} {a : Nat} {F : FS} (h : FiA M a F) (hf : ∀ q, a ≤ q → q < a + 14 → M' q = M q) : FiA M' a F :=
  ⟨h.1.fr fun q h1 h2 => hf q (by omega) (by omega), h.2.1.fr fun q h1 h2 => hf q (by omega) (by omega), fun j hj => by rw [hf a (by omega) (by omega)]; exact h.2.2.1 j hj, fun j hj => by rw [hf (a + 12) (by omega) (by omega)]; exact h.2.2.2.1 j hj, fun j hj => by rw [hf (a + 13) (by omega) (by omega)]; exact h.2.2.2.2 j hj⟩
theorem FiA.ac {M : mx_M} {a : Nat} {F : FS} (h : FiA M a F) (k : Nat) (x : Int32) : FiA (mx_up M (a + 13) k x) a (F.1, F.2.1, F.2.2.1, upd F.2.2.2 k x) := by
  have e : ∀ q, q ≠ a + 13 → mx_up M (a + 13) k x q = M q := fun q hq => mx_up_ne hq
  refine ⟨h.1.fr fun q h1 h2 => e q (by omega), h.2.1.fr fun q h1 h2 => e q (by omega), fun j hj => by rw [e a (by omega)]; exact h.2.2.1 j hj, fun j hj => by rw [e (a + 12) (by omega)]; exact h.2.2.2.1 j hj, fun j hj => ?_⟩
  have := h.2.2.2.2 j hj
  by_cases hjk : j = k
  · subst hjk; simp [mx_up, upd]
  · simp [mx_up, upd, hjk, this]
theorem FiA.sc {M : mx_M} {a : Nat} {F : FS} (h : FiA M a F) (k : Nat) (hk : k < 5) (n : Nat) : FiA (mx_up M a (4 + k) (nI n)) a (F.1, F.2.1, va_up F.2.2.1 k n, F.2.2.2) := by
  have e : ∀ q, q ≠ a → mx_up M a (4 + k) (nI n) q = M q := fun q hq => mx_up_ne hq
  refine ⟨h.1.fr fun q h1 h2 => e q (by omega), h.2.1.fr fun q h1 h2 => e q (by omega), fun j hj => ?_, fun j hj => ?_, fun j hj => by rw [e (a + 13) (by omega)]; exact h.2.2.2.2 j hj⟩
  · have := h.2.2.1 j hj
    by_cases hjk : j = k
    · subst hjk; simp [mx_up, va_up]
    · simp [mx_up, va_up, hjk, this, show ¬ 4 + j = 4 + k by omega]
  · rw [e (a + 12) (by omega), h.2.2.2.1 j hj]
    simp [va_up, show ¬ 5 + j = k by omega]
theorem FiA.st {M : mx_M} {a : Nat} {F : FS} (h : FiA M a F) (k : Nat) (hk : k < 2) (n : Nat) : FiA (mx_up M (a + 12) k (nI n)) a (F.1, F.2.1, va_up F.2.2.1 (5 + k) n, F.2.2.2) := by
  have e : ∀ q, q ≠ a + 12 → mx_up M (a + 12) k (nI n) q = M q := fun q hq => mx_up_ne hq
  refine ⟨h.1.fr fun q h1 h2 => e q (by omega), h.2.1.fr fun q h1 h2 => e q (by omega), fun j hj => ?_, fun j hj => ?_, fun j hj => by rw [e (a + 13) (by omega)]; exact h.2.2.2.2 j hj⟩
  · rw [e a (by omega), h.2.2.1 j hj]
    simp [va_up, show ¬ j = 5 + k by omega]
  · have := h.2.2.2.1 j hj
    by_cases hjk : j = k
    · subst hjk; simp [mx_up, va_up]
    · simp [mx_up, va_up, hjk, this]
theorem FiA.bu {M M' : mx_M} {a : Nat} {F : FS} {B : List Bu} (h : FiA M a F) (hB : BuA M' (a + 6) B) (hO : Out M M' (a + 6) (a + 6 + 6)) : FiA M' a (F.1, B, F.2.2.1, F.2.2.2) :=
  ⟨h.1.fr fun q h1 h2 => hO q (by omega), hB, fun j hj => by rw [hO a (by omega)]; exact h.2.2.1 j hj, fun j hj => by rw [hO (a + 12) (by omega)]; exact h.2.2.2.1 j hj, fun j hj => by rw [hO (a + 13) (by omega)]; exact h.2.2.2.2 j hj⟩
theorem FiA.em {M M' : mx_M} {a : Nat} {F : FS} {E : List Em} (h : FiA M a F) (hE : EmA M' (a + 1) E) (hO : Out M M' (a + 1) (a + 1 + 5)) : FiA M' a (E, F.2.1, F.2.2.1, F.2.2.2) :=
  ⟨hE, h.2.1.fr fun q h1 h2 => hO q (by omega), fun j hj => by rw [hO a (by omega)]; exact h.2.2.1 j hj, fun j hj => by rw [hO (a + 12) (by omega)]; exact h.2.2.2.1 j hj, fun j hj => by rw [hO (a + 13) (by omega)]; exact h.2.2.2.2 j hj⟩
def fTick (F : FS) : FS := (F.1, F.2.1, va_up F.2.2.1 3 (F.2.2.1 3 + 1), F.2.2.2)
def fFalls (F : FS) : FS := (F.1, F.2.1.filterMap (fallB (F.2.2.1 5)), F.2.2.1, upd F.2.2.2 2 (F.2.2.2 2 + nI (F.2.1.length - (F.2.1.filterMap (fallB (F.2.2.1 5))).length)))
def fShoot (c d w : Nat) (F : FS) : FS := if F.2.1.length < 60 then (F.1, F.2.1 ++ [(0, c, d, w, 0)], F.2.2.1, upd F.2.2.2 0 (F.2.2.2 0 + nI 1)) else (F.1, F.2.1, F.2.2.1, upd F.2.2.2 1 (F.2.2.2 1 + nI 1))
def fFire (c p : Nat) (F : FS) : FS := match p with
  | 0 => fShoot c 1 0 F
  | 1 => fShoot c 0 0 F
  | 2 => fShoot c 2 0 F
  | 3 => fShoot c 2 1 F
  | 4 => fShoot c (if F.2.2.1 0 < c then 0 else if F.2.2.1 0 = c then 1 else 2) 0 F
  | _ => fShoot c 2 0 (fShoot c 1 0 (fShoot c 0 0 F))
def fStep1 (F : FS) (x : Em) : FS := if F.2.2.1 3 % x.2.2.1 = x.2.2.2 then fFire x.1 x.2.1 F else F
def fAdv (F : FS) : FS := F.1.foldl fStep1 (fFalls (fTick F))
def fHitB (F : FS) : List Bu := F.2.1.filter (fun x => !takenB (F.2.2.1 0) 0 x)
def fHits (F : FS) : Nat × FS :=
  if F.2.1.length - (fHitB F).length = 0 then (0, (F.1, fHitB F, F.2.2.1, F.2.2.2))
  else if F.2.2.1 1 = 0 then (2, (F.1, fHitB F, va_up F.2.2.1 4 1, upd (upd F.2.2.2 3 (F.2.2.2 3 + nI (F.2.1.length - (fHitB F).length))) 7 (F.2.2.2 7 + nI 1)))
  else (1, (F.1, fHitB F, va_up F.2.2.1 1 (F.2.2.1 1 - 1), upd (upd F.2.2.2 3 (F.2.2.2 3 + nI (F.2.1.length - (fHitB F).length))) 7 (F.2.2.2 7 + nI 1)))
def fGraze (F : FS) : FS := (F.1, F.2.1.map (grzB (F.2.2.1 0)), F.2.2.1, upd F.2.2.2 6 (F.2.2.2 6 + nI (F.2.1.countP (freshB (F.2.2.1 0)))))
def fMove (k : Nat) (F : FS) : FS := if 1 ≤ F.2.2.1 0 + k ∧ F.2.2.1 0 + k ≤ 10 then (F.1, F.2.1, va_up F.2.2.1 0 (F.2.2.1 0 + k - 1), F.2.2.2) else F
def fPass (k : Nat) (F : FS) : Nat × FS := ((fHits (fAdv (fMove k F))).1, if (fHits (fAdv (fMove k F))).2.2.2.1 4 = 0 then fGraze (fHits (fAdv (fMove k F))).2 else (fHits (fAdv (fMove k F))).2)
def fBombB (F : FS) : List Bu := F.2.1.filter (fun x => !takenB (F.2.2.1 0) (F.2.2.1 6) x)
def fBomb (F : FS) : Nat × FS := (F.2.1.length - (fBombB F).length, (F.1, fBombB F, va_up F.2.2.1 2 (F.2.2.1 2 - 1), upd F.2.2.2 4 (F.2.2.2 4 + nI (F.2.1.length - (fBombB F).length))))
def fSweep (F : FS) : Nat × FS := (F.2.1.length, (F.1, [], va_up (va_up (va_up F.2.2.1 1 3) 2 2) 4 0, upd F.2.2.2 5 (F.2.2.2 5 + nI F.2.1.length)))
theorem fShoot_1 (c d w : Nat) (F : FS) : (fShoot c d w F).1 = F.1 ∧ (fShoot c d w F).2.2.1 = F.2.2.1 := by
  unfold fShoot; split <;> exact ⟨rfl, rfl⟩
theorem fFire_1 (c p : Nat) (F : FS) : (fFire c p F).1 = F.1 ∧ (fFire c p F).2.2.1 = F.2.2.1 := by
  unfold fFire; split
  · exact fShoot_1 ..
  · exact fShoot_1 ..
  · exact fShoot_1 ..
  · exact fShoot_1 ..
  · exact fShoot_1 ..
  · exact ⟨by rw [(fShoot_1 ..).1, (fShoot_1 ..).1, (fShoot_1 ..).1], by rw [(fShoot_1 ..).2, (fShoot_1 ..).2, (fShoot_1 ..).2]⟩
theorem fStep1_1 (F : FS) (x : Em) : (fStep1 F x).1 = F.1 ∧ (fStep1 F x).2.2.1 = F.2.2.1 := by
  unfold fStep1; split
  · exact fFire_1 ..
  · exact ⟨rfl, rfl⟩
theorem fold1_1 (L : List Em) : ∀ F : FS, (L.foldl fStep1 F).1 = F.1 ∧ (L.foldl fStep1 F).2.2.1 = F.2.2.1 := by
  induction L with
  | nil => intro F; exact ⟨rfl, rfl⟩
  | cons x L ih =>
    intro F
    rw [List.foldl_cons]
    exact ⟨(ih _).1.trans (fStep1_1 F x).1, (ih _).2.trans (fStep1_1 F x).2⟩
theorem fAdv_1 (F : FS) : (fAdv F).1 = F.1 ∧ (fAdv F).2.2.1 = va_up F.2.2.1 3 (F.2.2.1 3 + 1) := ⟨(fold1_1 _ _).1, (fold1_1 _ _).2⟩
theorem FV.adv {F : FS} (h : FV F) : FV (fAdv F) := by
  unfold FV
  rw [(fAdv_1 F).2]
  exact h
theorem FV.move {F : FS} (h : FV F) (k : Nat) : FV (fMove k F) := by
  unfold fMove
  split
  · rename_i hk
    exact ⟨by show F.2.2.1 0 + k - 1 < 10; omega, h.2⟩
  · exact h
theorem FV.hits {F : FS} (h : FV F) : FV (fHits F).2 := by
  obtain ⟨h0, h1, h2, h4, h5, h6, h7⟩ := h
  unfold fHits
  split
  · exact ⟨h0, h1, h2, h4, h5, h6, h7⟩
  · split
    · exact ⟨h0, h1, h2, Nat.lt_succ_self 1, h5, h6, h7⟩
    · exact ⟨h0, by show F.2.2.1 1 - 1 ≤ 3; omega, h2, h4, h5, h6, h7⟩
theorem FV.pass {F : FS} (h : FV F) (k : Nat) : FV (fPass k F).2 := by
  have h1 := ((h.move k).adv).hits
  unfold fPass
  dsimp only
  split
  · exact h1
  · exact h1
theorem FV.bomb {F : FS} (h : FV F) : FV (fBomb F).2 := by
  obtain ⟨h0, h1, h2, h4, h5, h6, h7⟩ := h
  exact ⟨h0, h1, by show F.2.2.1 2 - 1 ≤ 2; omega, h4, h5, h6, h7⟩
theorem FV.sweep {F : FS} (h : FV F) : FV (fSweep F).2 := by
  obtain ⟨h0, h1, h2, h4, h5, h6, h7⟩ := h
  exact ⟨h0, Nat.le_refl 3, Nat.le_refl 2, Nat.zero_lt_succ 1, h5, h6, h7⟩
theorem fHits_0 (F : FS) : (fHits F).2.1 = F.1 := by
  unfold fHits; split
  · rfl
  · split <;> rfl
theorem fMove_0 (k : Nat) (F : FS) : (fMove k F).1 = F.1 ∧ (fMove k F).2.2.1 3 = F.2.2.1 3 := by
  unfold fMove; split <;> exact ⟨rfl, rfl⟩
theorem cmp_dr : ∀ s, s < 10 → ∀ c, c < 10 → (if nI s < nI c then (-1) else if nI s = nI c then nI 0 else nI 1) = dr (if s < c then 0 else if s = c then 1 else 2) := by decide +kernel
/-- an update between, back to the named world -/
theorem FiA.eq {M : mx_M} {a : Nat} {F G : FS} (h : FiA M a F) (e : F = G) : FiA M a G := e ▸ h
set_option maxHeartbeats 1000000 in
set_option maxRecDepth 10000 in
theorem t_X3_shoot (M : mx_M) (a : Nat) (hs : FB a) (F : FS) (hF : FiA M a F) (c d w : Nat) (hc : c < 10) (hd : d < 3) (hw : w < 2) : mx_T yX3_shoot cX3_shoot 4 none 2 [.ref a, .int (nI c), .int (dr d), .int (nI w)] M (fun v M' => v = none ∧ FiA M' a (fShoot c d w F) ∧ Out M M' a (a + 14)) := by
  obtain ⟨s0, ⟨e0, e1, e2, e3, e4⟩, ⟨b0, b1, b2, b3, b4, b5⟩, s12, s13⟩ := hs.s
  refine mx_T.of1 (own := RX3) (ls := [some (.ref a), some (.int (nI c)), some (.int (dr d)), some (.int (nI w))]) (by decide +kernel) rfl (Nat.le_of_ble_eq_true rfl) rfl rfl ?_
  refine mx_aload_n (pc' := 1) dX3_shoot_0 rfl rfl ?_
  refine mx_getr (pc' := 4) dX3_shoot_1 fl_X3_21 (by assumption) (by rfl) rfl ?_
  refine mx_iload_n (pc' := 5) dX3_shoot_4 rfl rfl ?_
  refine mx_iload_n (pc' := 6) dX3_shoot_5 rfl rfl ?_
  refine mx_iload_n (pc' := 7) dX3_shoot_6 rfl rfl ?_
  refine mx_callV (pc' := 10) dX3_shoot_7 cl_X3_108 (b0) (t_X0_add M (a + 6) ⟨b0, b1, b2, b3, b4, b5⟩ F.2.1 hF.2.1 c d w hc hd hw) rfl (by decide) rfl (Nat.le_of_ble_eq_true rfl) rfl (fun v N7 hv => ?_)
  have hv1 := hv
  obtain ⟨x, hx⟩ : ∃ x : Nat, v = some (.int (nI x)) ∧ (x = 0 ∨ x = 1) ∧ (x = 1 → F.2.1.length < 60) ∧ (x = 0 → ¬ F.2.1.length < 60) := by
    by_cases hlt : F.2.1.length < 60
    · exact ⟨1, (hv.1 hlt).1, Or.inr rfl, fun _ => hlt, fun z => by omega⟩
    · exact ⟨0, (hv.2 hlt).1, Or.inl rfl, fun z => by omega, fun _ => hlt⟩
  obtain ⟨rfl, hx0, hx1, hx2⟩ := hx
  refine mx_if_eq (tgt := 26) (pc' := 13) dX3_shoot_10 (by decide) rfl (fun c10 => ?_) (fun c10 => ?_)
  · have c10 : x = 0 := (nI_eq (a := x) (b := 0) (by omega) (by omega)).mp c10
    have hlt := hx2 c10
    obtain ⟨-, hv⟩ := hv.2 hlt
    rw [hv]
    refine mx_aload_n (pc' := 27) dX3_shoot_26 rfl rfl ?_
    refine mx_getr (pc' := 30) dX3_shoot_27 fl_X3_29 (by assumption) (by rfl) rfl ?_
    refine mx_iconst (pc' := 31) (v := nI 1) dX3_shoot_30 (by decide) rfl ?_
    refine mx_dup2 (pc' := 32) dX3_shoot_31 rfl rfl rfl ?_
    refine mx_iald (pc' := 33) (v := F.2.2.2 1) dX3_shoot_32 (by assumption) (rfl) (by omega) (hF.2.2.2.2 1 (by decide)) rfl ?_
    refine mx_iconst (pc' := 34) (v := nI 1) dX3_shoot_33 (by decide) rfl ?_
    refine mx_iadd (pc' := 35) dX3_shoot_34 (rfl) rfl ?_
    refine mx_iast (pc' := 36) dX3_shoot_35 (by assumption) (rfl) (by omega) rfl ?_
    refine mx_vret dX3_shoot_36 rfl ?_
    exact ⟨rfl, (hF.ac 1 _).eq (if_neg hlt).symm, Out.rf.up (by omega) (by omega)⟩
  · have c10 : x = 1 := by
      have : ¬ x = 0 := fun z => c10 (by rw [z]; rfl)
      omega
    have hlt := hx1 c10
    obtain ⟨-, hA, hO⟩ := hv.1 hlt
    have hF2 := hF.bu hA hO
    refine mx_aload_n (pc' := 14) dX3_shoot_13 rfl rfl ?_
    refine mx_getr (pc' := 17) dX3_shoot_14 fl_X3_29 (by assumption) (by rfl) rfl ?_
    refine mx_iconst (pc' := 18) (v := nI 0) dX3_shoot_17 (by decide) rfl ?_
    refine mx_dup2 (pc' := 19) dX3_shoot_18 rfl rfl rfl ?_
    refine mx_iald (pc' := 20) (v := F.2.2.2 0) dX3_shoot_19 (by assumption) (rfl) (by omega) (hF2.2.2.2.2 0 (by decide)) rfl ?_
    refine mx_iconst (pc' := 21) (v := nI 1) dX3_shoot_20 (by decide) rfl ?_
    refine mx_iadd (pc' := 22) dX3_shoot_21 (rfl) rfl ?_
    refine mx_iast (pc' := 23) dX3_shoot_22 (by assumption) (rfl) (by omega) rfl ?_
    refine mx_goto (pc' := 36) dX3_shoot_23 (by decide) ?_
    refine mx_vret dX3_shoot_36 rfl ?_
    exact ⟨rfl, (hF2.ac 0 _).eq (if_pos hlt).symm, (hO.wd (by omega) (by omega)).up (by omega) (by omega)⟩

set_option maxHeartbeats 1000000 in
set_option maxRecDepth 10000 in
theorem t_X3_fire (M : mx_M) (a : Nat) (hs : FB a) (F : FS) (hF : FiA M a F) (hV : FV F) (c p : Nat) (hc : c < 10) (hp : p < 6) : mx_T yX3_fire cX3_fire 4 none 3 [.ref a, .int (nI c), .int (nI p)] M (fun v M' => v = none ∧ FiA M' a (fFire c p F) ∧ Out M M' a (a + 14)) := by
  obtain ⟨s0, ⟨e0, e1, e2, e3, e4⟩, ⟨b0, b1, b2, b3, b4, b5⟩, s12, s13⟩ := hs.s
  have h0 := hV.1
  have hO9 : Out M M a (a + 14) := Out.rf
  refine mx_T.of1 (own := RX3) (ls := [some (.ref a), some (.int (nI c)), some (.int (nI p)), none]) (by decide +kernel) rfl (Nat.le_of_ble_eq_true rfl) rfl rfl ?_
  refine mx_iload_n (pc' := 1) dX3_fire_0 rfl rfl ?_
  rcases (show p = 0 ∨ p = 1 ∨ p = 2 ∨ p = 3 ∨ p = 4 ∨ p = 5 by omega) with rfl | rfl | rfl | rfl | rfl | rfl
  · refine mx_tableIn (pc' := 36) dX3_fire_1 (by decide) (by decide) (by rfl) (by decide) ?_
    refine mx_aload_n (pc' := 37) dX3_fire_36 rfl rfl ?_
    refine mx_iload_n (pc' := 38) dX3_fire_37 rfl rfl ?_
    refine mx_iconst (pc' := 39) (v := dr 1) dX3_fire_38 (by decide) rfl ?_
    refine mx_iconst (pc' := 40) (v := nI 0) dX3_fire_39 (by decide) rfl ?_
    refine mx_callV (pc' := 43) dX3_fire_40 cl_X3_98 (s0) (t_X3_shoot _ a hs F hF c 1 0 hc (by first | decide | (split <;> first | decide | (split <;> decide))) (by decide)) rfl (by decide) rfl (Nat.le_of_ble_eq_true rfl) rfl (fun v N40 hv => ?_)
    obtain ⟨rfl, hF, hO⟩ := hv
    refine mx_goto (pc' := 113) dX3_fire_43 (by decide) ?_
    refine mx_vret dX3_fire_113 rfl ?_
    exact ⟨rfl, hF, hO⟩
  · refine mx_tableIn (pc' := 46) dX3_fire_1 (by decide) (by decide) (by rfl) (by decide) ?_
    refine mx_aload_n (pc' := 47) dX3_fire_46 rfl rfl ?_
    refine mx_iload_n (pc' := 48) dX3_fire_47 rfl rfl ?_
    refine mx_iconst (pc' := 49) (v := dr 0) dX3_fire_48 (by decide) rfl ?_
    refine mx_iconst (pc' := 50) (v := nI 0) dX3_fire_49 (by decide) rfl ?_
    refine mx_callV (pc' := 53) dX3_fire_50 cl_X3_98 (s0) (t_X3_shoot _ a hs F hF c 0 0 hc (by first | decide | (split <;> first | decide | (split <;> decide))) (by decide)) rfl (by decide) rfl (Nat.le_of_ble_eq_true rfl) rfl (fun v N50 hv => ?_)
    obtain ⟨rfl, hF, hO⟩ := hv
    refine mx_goto (pc' := 113) dX3_fire_53 (by decide) ?_
    refine mx_vret dX3_fire_113 rfl ?_
    exact ⟨rfl, hF, hO⟩
  · refine mx_tableIn (pc' := 56) dX3_fire_1 (by decide) (by decide) (by rfl) (by decide) ?_
    refine mx_aload_n (pc' := 57) dX3_fire_56 rfl rfl ?_
    refine mx_iload_n (pc' := 58) dX3_fire_57 rfl rfl ?_
    refine mx_iconst (pc' := 59) (v := dr 2) dX3_fire_58 (by decide) rfl ?_
    refine mx_iconst (pc' := 60) (v := nI 0) dX3_fire_59 (by decide) rfl ?_
    refine mx_callV (pc' := 63) dX3_fire_60 cl_X3_98 (s0) (t_X3_shoot _ a hs F hF c 2 0 hc (by first | decide | (split <;> first | decide | (split <;> decide))) (by decide)) rfl (by decide) rfl (Nat.le_of_ble_eq_true rfl) rfl (fun v N60 hv => ?_)
    obtain ⟨rfl, hF, hO⟩ := hv
    refine mx_goto (pc' := 113) dX3_fire_63 (by decide) ?_
    refine mx_vret dX3_fire_113 rfl ?_
    exact ⟨rfl, hF, hO⟩
  · refine mx_tableIn (pc' := 66) dX3_fire_1 (by decide) (by decide) (by rfl) (by decide) ?_
    refine mx_aload_n (pc' := 67) dX3_fire_66 rfl rfl ?_
    refine mx_iload_n (pc' := 68) dX3_fire_67 rfl rfl ?_
    refine mx_iconst (pc' := 69) (v := dr 2) dX3_fire_68 (by decide) rfl ?_
    refine mx_iconst (pc' := 70) (v := nI 1) dX3_fire_69 (by decide) rfl ?_
    refine mx_callV (pc' := 73) dX3_fire_70 cl_X3_98 (s0) (t_X3_shoot _ a hs F hF c 2 1 hc (by first | decide | (split <;> first | decide | (split <;> decide))) (by decide)) rfl (by decide) rfl (Nat.le_of_ble_eq_true rfl) rfl (fun v N70 hv => ?_)
    obtain ⟨rfl, hF, hO⟩ := hv
    refine mx_goto (pc' := 113) dX3_fire_73 (by decide) ?_
    refine mx_vret dX3_fire_113 rfl ?_
    exact ⟨rfl, hF, hO⟩
  · refine mx_tableIn (pc' := 76) dX3_fire_1 (by decide) (by decide) (by rfl) (by decide) ?_
    refine mx_aload_n (pc' := 77) dX3_fire_76 rfl rfl ?_
    refine mx_iload_n (pc' := 78) dX3_fire_77 rfl rfl ?_
    refine mx_aload_n (pc' := 79) dX3_fire_78 rfl rfl ?_
    refine mx_getf (pc' := 82) (v := nI (F.2.2.1 0)) dX3_fire_79 fl_X3_32 (by assumption) (by rfl) (hF.2.2.1 0 (by decide)) rfl ?_
    refine mx_iload_n (pc' := 83) dX3_fire_82 rfl rfl ?_
    refine mx_callS (pc' := 86) dX3_fire_83 cl_X3_102 (t_J6_compare_7cf53 _ _ _) rfl (by decide) rfl (Nat.le_of_ble_eq_true rfl) rfl (fun v N83 hv => ?_)
    obtain ⟨rfl, hv⟩ := hv
    rw [hv, cmp_dr _ h0 c hc]
    refine mx_iconst (pc' := 87) (v := nI 0) dX3_fire_86 (by decide) rfl ?_
    refine mx_callV (pc' := 90) dX3_fire_87 cl_X3_98 (s0) (t_X3_shoot _ a hs F hF c _ 0 hc (by first | decide | (split <;> first | decide | (split <;> decide))) (by decide)) rfl (by decide) rfl (Nat.le_of_ble_eq_true rfl) rfl (fun v N87 hv => ?_)
    obtain ⟨rfl, hF, hO⟩ := hv
    refine mx_goto (pc' := 113) dX3_fire_90 (by decide) ?_
    refine mx_vret dX3_fire_113 rfl ?_
    exact ⟨rfl, hF, hO⟩
  · refine mx_tableOut (pc' := 93) dX3_fire_1 (Or.inr (by decide)) (by decide) ?_
    refine mx_iconst (pc' := 94) (v := dr 0) dX3_fire_93 (by decide) rfl ?_
    refine mx_istore_n (pc' := 95) (ls' := [_, _, _, _]) dX3_fire_94 (by decide) (rfl) rfl rfl ?_
    refine mx_iload_n (pc' := 96) dX3_fire_95 rfl rfl ?_
    refine mx_iconst (pc' := 97) (v := nI 1) dX3_fire_96 (by decide) rfl ?_
    refine mx_icmp_gt (tgt := 113) (pc' := 100) dX3_fire_97 (by decide) rfl (fun c97 => ?_) (fun c97 => ?_)
    · exact absurd c97 (by decide)
    · refine mx_aload_n (pc' := 101) dX3_fire_100 rfl rfl ?_
      refine mx_iload_n (pc' := 102) dX3_fire_101 rfl rfl ?_
      refine mx_iload_n (pc' := 103) dX3_fire_102 rfl rfl ?_
      refine mx_iconst (pc' := 104) (v := nI 0) dX3_fire_103 (by decide) rfl ?_
      refine mx_callV (pc' := 107) dX3_fire_104 cl_X3_98 (s0) (t_X3_shoot _ a hs _ hF c 0 0 hc (by decide) (by decide)) rfl (by decide) rfl (Nat.le_of_ble_eq_true rfl) rfl (fun v N104 hv => ?_)
      obtain ⟨rfl, hF, hO⟩ := (hv : _ ∧ _ ∧ Out _ _ _ _)
      have hO9 := hO9.tr hO
      refine mx_iinc (pc' := 110) (ls' := [_, _, _, _]) (v := dr 1) dX3_fire_107 rfl (by decide) (by decide) rfl rfl rfl ?_
      refine mx_goto (pc' := 95) dX3_fire_110 (by decide) ?_
      refine mx_iload_n (pc' := 96) dX3_fire_95 rfl rfl ?_
      refine mx_iconst (pc' := 97) (v := nI 1) dX3_fire_96 (by decide) rfl ?_
      refine mx_icmp_gt (tgt := 113) (pc' := 100) dX3_fire_97 (by decide) rfl (fun c97 => ?_) (fun c97 => ?_)
      · exact absurd c97 (by decide)
      · refine mx_aload_n (pc' := 101) dX3_fire_100 rfl rfl ?_
        refine mx_iload_n (pc' := 102) dX3_fire_101 rfl rfl ?_
        refine mx_iload_n (pc' := 103) dX3_fire_102 rfl rfl ?_
        refine mx_iconst (pc' := 104) (v := nI 0) dX3_fire_103 (by decide) rfl ?_
        refine mx_callV (pc' := 107) dX3_fire_104 cl_X3_98 (s0) (t_X3_shoot _ a hs _ hF c 1 0 hc (by decide) (by decide)) rfl (by decide) rfl (Nat.le_of_ble_eq_true rfl) rfl (fun v N104 hv => ?_)
        obtain ⟨rfl, hF, hO⟩ := (hv : _ ∧ _ ∧ Out _ _ _ _)
        have hO9 := hO9.tr hO
        refine mx_iinc (pc' := 110) (ls' := [_, _, _, _]) (v := dr 2) dX3_fire_107 rfl (by decide) (by decide) rfl rfl rfl ?_
        refine mx_goto (pc' := 95) dX3_fire_110 (by decide) ?_
        refine mx_iload_n (pc' := 96) dX3_fire_95 rfl rfl ?_
        refine mx_iconst (pc' := 97) (v := nI 1) dX3_fire_96 (by decide) rfl ?_
        refine mx_icmp_gt (tgt := 113) (pc' := 100) dX3_fire_97 (by decide) rfl (fun c97 => ?_) (fun c97 => ?_)
        · exact absurd c97 (by decide)
        · refine mx_aload_n (pc' := 101) dX3_fire_100 rfl rfl ?_
          refine mx_iload_n (pc' := 102) dX3_fire_101 rfl rfl ?_
          refine mx_iload_n (pc' := 103) dX3_fire_102 rfl rfl ?_
          refine mx_iconst (pc' := 104) (v := nI 0) dX3_fire_103 (by decide) rfl ?_
          refine mx_callV (pc' := 107) dX3_fire_104 cl_X3_98 (s0) (t_X3_shoot _ a hs _ hF c 2 0 hc (by decide) (by decide)) rfl (by decide) rfl (Nat.le_of_ble_eq_true rfl) rfl (fun v N104 hv => ?_)
          obtain ⟨rfl, hF, hO⟩ := (hv : _ ∧ _ ∧ Out _ _ _ _)
          have hO9 := hO9.tr hO
          refine mx_iinc (pc' := 110) (ls' := [_, _, _, _]) (v := dr 3) dX3_fire_107 rfl (by decide) (by decide) rfl rfl rfl ?_
          refine mx_goto (pc' := 95) dX3_fire_110 (by decide) ?_
          refine mx_iload_n (pc' := 96) dX3_fire_95 rfl rfl ?_
          refine mx_iconst (pc' := 97) (v := nI 1) dX3_fire_96 (by decide) rfl ?_
          refine mx_icmp_gt (tgt := 113) (pc' := 100) dX3_fire_97 (by decide) rfl (fun c97 => ?_) (fun c97 => ?_)
          · refine mx_vret dX3_fire_113 rfl ?_
            exact ⟨rfl, hF, hO9⟩
          · exact absurd (by decide) c97
end
section
set_option maxHeartbeats 1000000 in
set_option maxRecDepth 10000 in
theorem l_X3_advance (M : mx_M) (a : Nat) (hs : FB a) (E : List Em) (t : Nat) (ht : t < 2147483648) (R : FS) : ∀ (k : Nat) (i : Nat) (M1 : mx_M) (H : FS), E.length < i + k → i ≤ E.length → H.1 = E → FV H → H.2.2.1 3 = t → FiA M1 a H → (E.drop i).foldl fStep1 H = R → Out M M1 a (a + 14) → mx_V cX3_advance RX3 2 none 4 43 [some (.ref a), some (.int (nI i))] [] M1 (fun v M' => v = none ∧ FiA M' a R ∧ Out M M' a (a + 14)) := by
  obtain ⟨s0, ⟨e0, e1, e2, e3, e4⟩, ⟨b0, b1, b2, b3, b4, b5⟩, s12, s13⟩ := hs.s
  intro k
  induction k with
  | zero =>
    intro i M1 H hk hi hE hV hT hF hR hO
    exact absurd hk (by omega)
  | succ k ih =>
    intro i M1 H hk hi hE hV hT hF hR hO
    have h4 : E.length ≤ 4 := hE ▸ hF.1.2.1.1
    refine mx_iload_n (pc' := 44) dX3_advance_43 rfl rfl ?_
    refine mx_aload_n (pc' := 45) dX3_advance_44 rfl rfl ?_
    refine mx_getr (pc' := 48) dX3_advance_45 fl_X3_12 (by assumption) (by rfl) rfl ?_
    refine mx_getf (pc' := 51) (v := nI E.length) dX3_advance_48 fl_X3_81 (by assumption) (by rfl) (hE ▸ hF.1.1) rfl ?_
    refine mx_icmp_ge (tgt := 97) (pc' := 54) dX3_advance_51 (by decide) rfl (fun c51 => ?_) (fun c51 => ?_)
    · have c51 := (nI_leI (by omega) (by omega)).mp c51
      refine mx_vret dX3_advance_97 rfl ?_
      rw [List.drop_eq_nil_of_le c51] at hR
      exact ⟨rfl, hF.eq hR, hO⟩
    · have c51 := Nat.not_le.mp (fun z => c51 ((nI_leI (by omega) (by omega)).mpr z))
      obtain ⟨x, hx⟩ := get_lt c51
      have hx2 : H.1[i]? = some x := hE ▸ hx
      have hW := hF.1.2.2.at hx2
      have hXV := hF.1.2.1.2 x (List.mem_of_getElem? hx2)
      refine mx_aload_n (pc' := 55) dX3_advance_54 rfl rfl ?_
      refine mx_getr (pc' := 58) dX3_advance_55 fl_X3_12 (by assumption) (by rfl) rfl ?_
      refine mx_iload_n (pc' := 59) dX3_advance_58 rfl rfl ?_
      refine mx_aload_n (pc' := 60) dX3_advance_59 rfl rfl ?_
      refine mx_getf (pc' := 63) (v := nI t) dX3_advance_60 fl_X3_42 (by assumption) (by rfl) ((hF.2.2.1 3 (by decide)).trans (congrArg nI hT)) rfl ?_
      refine mx_callV (pc' := 66) dX3_advance_63 cl_X3_84 (e0) (t_X2_firesAt M1 (a + 1) i t ⟨e0, e1, e2, e3, e4⟩ (by omega) x hW hXV ht) rfl (by decide) rfl (Nat.le_of_ble_eq_true rfl) rfl (fun v N63 hv => ?_)
      obtain ⟨rfl, hv⟩ := hv
      rw [hv]
      refine mx_if_eq (tgt := 91) (pc' := 69) dX3_advance_66 (by decide) rfl (fun c66 => ?_) (fun c66 => ?_)
      · have c66 := bI_0.mp c66
        refine mx_iinc (pc' := 94) (ls' := [_, _]) (v := nI (i + 1)) dX3_advance_91 rfl (nI_add i 1) (by decide) rfl rfl rfl ?_
        refine mx_goto (pc' := 43) dX3_advance_94 (by decide) ?_
        rw [drop_cons hx, List.foldl_cons] at hR
        have h1 := fStep1_1 H x
        have e : fStep1 H x = H := if_neg (by rw [hT]; exact c66)
        rw [e] at hR
        refine ih (i + 1) M1 _ (by omega) (by omega) hE hV hT hF hR hO
      · have c66 := bI_n.mp c66
        refine mx_aload_n (pc' := 70) dX3_advance_69 rfl rfl ?_
        refine mx_aload_n (pc' := 71) dX3_advance_70 rfl rfl ?_
        refine mx_getr (pc' := 74) dX3_advance_71 fl_X3_12 (by assumption) (by rfl) rfl ?_
        refine mx_getr (pc' := 77) dX3_advance_74 fl_X3_88 (by assumption) (by rfl) rfl ?_
        refine mx_iload_n (pc' := 78) dX3_advance_77 rfl rfl ?_
        refine mx_iald (pc' := 79) (v := nI x.1) dX3_advance_78 (by assumption) (rfl) (by omega) (hW.1) rfl ?_
        refine mx_aload_n (pc' := 80) dX3_advance_79 rfl rfl ?_
        refine mx_getr (pc' := 83) dX3_advance_80 fl_X3_12 (by assumption) (by rfl) rfl ?_
        refine mx_getr (pc' := 86) dX3_advance_83 fl_X3_91 (by assumption) (by rfl) rfl ?_
        refine mx_iload_n (pc' := 87) dX3_advance_86 rfl rfl ?_
        refine mx_iald (pc' := 88) (v := nI x.2.1) dX3_advance_87 (by assumption) (rfl) (by omega) (hW.2.1) rfl ?_
        refine mx_callV (pc' := 91) dX3_advance_88 cl_X3_94 (s0) (t_X3_fire M1 a hs H hF hV x.1 x.2.1 hXV.1 hXV.2.1) rfl (by decide) rfl (Nat.le_of_ble_eq_true rfl) rfl (fun v N88 hv => ?_)
        obtain ⟨rfl, hF2, hO2⟩ := hv
        refine mx_iinc (pc' := 94) (ls' := [_, _]) (v := nI (i + 1)) dX3_advance_91 rfl (nI_add i 1) (by decide) rfl rfl rfl ?_
        refine mx_goto (pc' := 43) dX3_advance_94 (by decide) ?_
        rw [drop_cons hx, List.foldl_cons] at hR
        have h1 := fStep1_1 H x
        have e : fStep1 H x = fFire x.1 x.2.1 H := if_pos (by rw [hT]; exact c66)
        rw [e] at hR h1
        refine ih (i + 1) N88 _ (by omega) (by omega) (h1.1.trans hE) (by unfold FV; rw [h1.2]; exact hV) (by rw [h1.2]; exact hT) hF2 hR (hO.tr hO2)

set_option maxHeartbeats 1000000 in
set_option maxRecDepth 10000 in
theorem t_X3_advance (M : mx_M) (a : Nat) (hs : FB a) (F : FS) (hF : FiA M a F) (hV : FV F) (ht : F.2.2.1 3 + 1 < 2147483648) : mx_T yX3_advance cX3_advance 2 none 4 [.ref a] M (fun v M' => v = none ∧ FiA M' a (fAdv F) ∧ Out M M' a (a + 14)) := by
  obtain ⟨s0, ⟨e0, e1, e2, e3, e4⟩, ⟨b0, b1, b2, b3, b4, b5⟩, s12, s13⟩ := hs.s
  refine mx_T.of1 (own := RX3) (ls := [some (.ref a), none]) (by decide +kernel) rfl (Nat.le_of_ble_eq_true rfl) rfl rfl ?_
  refine mx_aload_n (pc' := 1) dX3_advance_0 rfl rfl ?_
  refine mx_dup (pc' := 2) dX3_advance_1 rfl rfl ?_
  refine mx_getf (pc' := 5) (v := nI (F.2.2.1 3)) dX3_advance_2 fl_X3_42 (by assumption) (by rfl) (hF.2.2.1 3 (by decide)) rfl ?_
  refine mx_iconst (pc' := 6) (v := nI 1) dX3_advance_5 (by decide) rfl ?_
  refine mx_iadd (pc' := 7) (v := nI (F.2.2.1 3 + 1)) dX3_advance_6 (nI_add _ 1) rfl ?_
  refine mx_putf (pc' := 10) dX3_advance_7 fl_X3_42 (by assumption) (by rfl) (⟨rfl, rfl⟩) rfl ?_
  have hF1 := hF.sc 3 (by decide) (F.2.2.1 3 + 1)
  have h5 : F.2.2.1 5 < 2 := hV.2.2.2.2.1
  refine mx_aload_n (pc' := 11) dX3_advance_10 rfl rfl ?_
  refine mx_getr (pc' := 14) dX3_advance_11 fl_X3_29 (by assumption) (by rfl) rfl ?_
  refine mx_iconst (pc' := 15) (v := nI 2) dX3_advance_14 (by decide) rfl ?_
  refine mx_dup2 (pc' := 16) dX3_advance_15 rfl rfl rfl ?_
  refine mx_iald (pc' := 17) (v := F.2.2.2 2) dX3_advance_16 (by assumption) (rfl) (by omega) (hF1.2.2.2.2 2 (by decide)) rfl ?_
  refine mx_aload_n (pc' := 18) dX3_advance_17 rfl rfl ?_
  refine mx_getr (pc' := 21) dX3_advance_18 fl_X3_21 (by assumption) (by rfl) rfl ?_
  refine mx_aload_n (pc' := 22) dX3_advance_21 rfl rfl ?_
  refine mx_getr (pc' := 25) dX3_advance_22 fl_X3_25 (by assumption) (by rfl) rfl ?_
  refine mx_iconst (pc' := 26) (v := nI 0) dX3_advance_25 (by decide) rfl ?_
  refine mx_iald (pc' := 27) (v := nI (F.2.2.1 5)) dX3_advance_26 (by assumption) (rfl) (by omega) (hF1.2.2.2.1 0 (by decide)) rfl ?_
  refine mx_iconst (pc' := 28) (v := nI 1) dX3_advance_27 (by decide) rfl ?_
  refine mx_icmp_ne (tgt := 35) (pc' := 31) dX3_advance_28 (by decide) rfl (fun c28 => ?_) (fun c28 => ?_)
  · have c28 : ¬ _ := fun z => c28 ((nI_eq (by omega) (by omega)).mpr z)
    have c28 : F.2.2.1 5 = 0 := by omega
    refine mx_iconst (pc' := 36) (v := nI (F.2.2.1 5)) dX3_advance_35 (by rw [c28]; decide) rfl ?_
    refine mx_callV (pc' := 39) dX3_advance_36 cl_X3_77 (b0) (t_X0_fall _ (a + 6) (F.2.2.1 5) ⟨b0, b1, b2, b3, b4, b5⟩ h5 F.2.1 hF1.2.1) rfl (by decide) rfl (Nat.le_of_ble_eq_true rfl) rfl (fun v N36 hv => ?_)
    obtain ⟨rfl, hA, hO⟩ := hv
    have hF2 := hF1.bu hA hO
    refine mx_iadd (pc' := 40) dX3_advance_39 (rfl) rfl ?_
    refine mx_iast (pc' := 41) dX3_advance_40 (by assumption) (rfl) (by omega) rfl ?_
    refine mx_iconst (pc' := 42) (v := nI 0) dX3_advance_41 (by decide) rfl ?_
    refine mx_istore_n (pc' := 43) (ls' := [_, _]) dX3_advance_42 (by decide) (rfl) rfl rfl ?_
    have hF3 := hF2.ac 2 (F.2.2.2 2 + nI (F.2.1.length - (F.2.1.filterMap (fallB (F.2.2.1 5))).length))
    exact l_X3_advance M a hs F.1 (F.2.2.1 3 + 1) ht _ (F.1.length + 1) 0 _ (fFalls (fTick F)) (by omega) (by omega) rfl hV rfl hF3 rfl ((((Out.rf.up (by omega) (by omega)).tr (hO.wd (by omega) (by omega))).up (by omega) (by omega)))
  · have c28 := (nI_eq (by omega) (by omega)).mp c28
    refine mx_iconst (pc' := 32) (v := nI (F.2.2.1 5)) dX3_advance_31 (by rw [c28]; decide) rfl ?_
    refine mx_goto (pc' := 36) dX3_advance_32 (by decide) ?_
    refine mx_callV (pc' := 39) dX3_advance_36 cl_X3_77 (b0) (t_X0_fall _ (a + 6) (F.2.2.1 5) ⟨b0, b1, b2, b3, b4, b5⟩ h5 F.2.1 hF1.2.1) rfl (by decide) rfl (Nat.le_of_ble_eq_true rfl) rfl (fun v N36 hv => ?_)
    obtain ⟨rfl, hA, hO⟩ := hv
    have hF2 := hF1.bu hA hO
    refine mx_iadd (pc' := 40) dX3_advance_39 (rfl) rfl ?_
    refine mx_iast (pc' := 41) dX3_advance_40 (by assumption) (rfl) (by omega) rfl ?_
    refine mx_iconst (pc' := 42) (v := nI 0) dX3_advance_41 (by decide) rfl ?_
    refine mx_istore_n (pc' := 43) (ls' := [_, _]) dX3_advance_42 (by decide) (rfl) rfl rfl ?_
    have hF3 := hF2.ac 2 (F.2.2.2 2 + nI (F.2.1.length - (F.2.1.filterMap (fallB (F.2.2.1 5))).length))
    exact l_X3_advance M a hs F.1 (F.2.2.1 3 + 1) ht _ (F.1.length + 1) 0 _ (fFalls (fTick F)) (by omega) (by omega) rfl hV rfl hF3 rfl ((((Out.rf.up (by omega) (by omega)).tr (hO.wd (by omega) (by omega))).up (by omega) (by omega)))

set_option maxHeartbeats 1000000 in
set_option maxRecDepth 10000 in
theorem t_X3_takeHits (M : mx_M) (a : Nat) (hs : FB a) (F : FS) (hF : FiA M a F) (hV : FV F) : mx_T yX3_takeHits cX3_takeHits 2 (some .int) 4 [.ref a] M (fun v M' => v = some (.int (nI (fHits F).1)) ∧ FiA M' a (fHits F).2 ∧ Out M M' a (a + 14)) := by
  obtain ⟨s0, ⟨e0, e1, e2, e3, e4⟩, ⟨b0, b1, b2, b3, b4, b5⟩, s12, s13⟩ := hs.s
  refine mx_T.of1 (own := RX3) (ls := [some (.ref a), none]) (by decide +kernel) rfl (Nat.le_of_ble_eq_true rfl) rfl rfl ?_
  refine mx_aload_n (pc' := 1) dX3_takeHits_0 rfl rfl ?_
  refine mx_getr (pc' := 4) dX3_takeHits_1 fl_X3_21 (by assumption) (by rfl) rfl ?_
  refine mx_aload_n (pc' := 5) dX3_takeHits_4 rfl rfl ?_
  refine mx_getf (pc' := 8) (v := nI (F.2.2.1 0)) dX3_takeHits_5 fl_X3_32 (by assumption) (by rfl) (hF.2.2.1 0 (by decide)) rfl ?_
  refine mx_iconst (pc' := 9) (v := nI 0) dX3_takeHits_8 (by decide) rfl ?_
  refine mx_callV (pc' := 12) dX3_takeHits_9 cl_X3_112 (b0) (t_X0_takeAround M (a + 6) (F.2.2.1 0) 0 ⟨b0, b1, b2, b3, b4, b5⟩ hV.1 (by decide) F.2.1 hF.2.1) rfl (by decide) rfl (Nat.le_of_ble_eq_true rfl) rfl (fun v N9 hv => ?_)
  obtain ⟨rfl, hA, hO⟩ := hv
  have hF2 := hF.bu hA hO
  have hO := hO.wd (a' := a) (b' := a + 14) (by omega) (by omega)
  have hl : F.2.1.length - (fHitB F).length < 2147483648 := by have := hF.2.1.2.1.1; omega
  refine mx_istore_n (pc' := 13) (ls' := [_, _]) dX3_takeHits_12 (by decide) (rfl) rfl rfl ?_
  refine mx_iload_n (pc' := 14) dX3_takeHits_13 rfl rfl ?_
  refine mx_if_ne (tgt := 19) (pc' := 17) dX3_takeHits_14 (by decide) rfl (fun c14 => ?_) (fun c14 => ?_)
  · have c14 : ¬ F.2.1.length - (fHitB F).length = 0 := fun z => c14 (by show nI (F.2.1.length - (fHitB F).length) = 0; rw [z]; rfl)
    refine mx_aload_n (pc' := 20) dX3_takeHits_19 rfl rfl ?_
    refine mx_getr (pc' := 23) dX3_takeHits_20 fl_X3_29 (by assumption) (by rfl) rfl ?_
    refine mx_iconst (pc' := 24) (v := nI 3) dX3_takeHits_23 (by decide) rfl ?_
    refine mx_dup2 (pc' := 25) dX3_takeHits_24 rfl rfl rfl ?_
    refine mx_iald (pc' := 26) (v := F.2.2.2 3) dX3_takeHits_25 (by assumption) (rfl) (by omega) (hF2.2.2.2.2 3 (by decide)) rfl ?_
    refine mx_iload_n (pc' := 27) dX3_takeHits_26 rfl rfl ?_
    refine mx_iadd (pc' := 28) dX3_takeHits_27 (rfl) rfl ?_
    refine mx_iast (pc' := 29) dX3_takeHits_28 (by assumption) (rfl) (by omega) rfl ?_
    have hF3 := hF2.ac 3 (F.2.2.2 3 + nI (F.2.1.length - (fHitB F).length))
    have hO3 := hO.up (p := a + 13) (i := 3) (v := F.2.2.2 3 + nI (F.2.1.length - (fHitB F).length)) (by omega) (by omega)
    refine mx_aload_n (pc' := 30) dX3_takeHits_29 rfl rfl ?_
    refine mx_getr (pc' := 33) dX3_takeHits_30 fl_X3_29 (by assumption) (by rfl) rfl ?_
    refine mx_bipush (pc' := 35) (v := nI 7) dX3_takeHits_33 (by decide) rfl ?_
    refine mx_dup2 (pc' := 36) dX3_takeHits_35 rfl rfl rfl ?_
    refine mx_iald (pc' := 37) (v := F.2.2.2 7) dX3_takeHits_36 (by assumption) (rfl) (by omega) (hF3.2.2.2.2 7 (by decide)) rfl ?_
    refine mx_iconst (pc' := 38) (v := nI 1) dX3_takeHits_37 (by decide) rfl ?_
    refine mx_iadd (pc' := 39) dX3_takeHits_38 (rfl) rfl ?_
    refine mx_iast (pc' := 40) dX3_takeHits_39 (by assumption) (rfl) (by omega) rfl ?_
    have hF4 := hF3.ac 7 (F.2.2.2 7 + nI 1)
    have hO4 := hO3.up (p := a + 13) (i := 7) (v := F.2.2.2 7 + nI 1) (by omega) (by omega)
    refine mx_aload_n (pc' := 41) dX3_takeHits_40 rfl rfl ?_
    refine mx_getf (pc' := 44) (v := nI (F.2.2.1 1)) dX3_takeHits_41 fl_X3_36 (by assumption) (by rfl) (hF4.2.2.1 1 (by decide)) rfl ?_
    refine mx_if_ne (tgt := 54) (pc' := 47) dX3_takeHits_44 (by decide) rfl (fun c44 => ?_) (fun c44 => ?_)
    · have c44 : ¬ F.2.2.1 1 = 0 := fun z => c44 (by rw [z]; rfl)
      have h1 := hV.2.1
      refine mx_aload_n (pc' := 55) dX3_takeHits_54 rfl rfl ?_
      refine mx_dup (pc' := 56) dX3_takeHits_55 rfl rfl ?_
      refine mx_getf (pc' := 59) (v := nI (F.2.2.1 1)) dX3_takeHits_56 fl_X3_36 (by assumption) (by rfl) (hF4.2.2.1 1 (by decide)) rfl ?_
      refine mx_iconst (pc' := 60) (v := nI 1) dX3_takeHits_59 (by decide) rfl ?_
      refine mx_isub (pc' := 61) (v := nI (F.2.2.1 1 - 1)) dX3_takeHits_60 (pk_sub (b := 1) (by omega)) rfl ?_
      refine mx_putf (pc' := 64) dX3_takeHits_61 fl_X3_36 (by assumption) (by rfl) (⟨rfl, rfl⟩) rfl ?_
      refine mx_iconst (pc' := 65) (v := nI 1) dX3_takeHits_64 (by decide) rfl ?_
      refine mx_iret dX3_takeHits_65 (Or.inl rfl) ?_
      have e : fHits F = (1, (F.1, fHitB F, va_up F.2.2.1 1 (F.2.2.1 1 - 1), upd (upd F.2.2.2 3 (F.2.2.2 3 + nI (F.2.1.length - (fHitB F).length))) 7 (F.2.2.2 7 + nI 1))) := (if_neg c14).trans (if_neg c44)
      rw [e]
      exact ⟨rfl, hF4.sc 1 (by decide) _, hO4.up (by omega) (by omega)⟩
    · have h1 := hV.2.1
      have c44 : F.2.2.1 1 = 0 := (nI_eq (a := F.2.2.1 1) (b := 0) (by omega) (by omega)).mp c44
      refine mx_aload_n (pc' := 48) dX3_takeHits_47 rfl rfl ?_
      refine mx_iconst (pc' := 49) (v := nI 1) dX3_takeHits_48 (by decide) rfl ?_
      refine mx_putf (pc' := 52) dX3_takeHits_49 fl_X3_45 (by assumption) (by rfl) (⟨by decide, by decide⟩) rfl ?_
      refine mx_iconst (pc' := 53) (v := nI 2) dX3_takeHits_52 (by decide) rfl ?_
      refine mx_iret dX3_takeHits_53 (Or.inl rfl) ?_
      have e : fHits F = (2, (F.1, fHitB F, va_up F.2.2.1 4 1, upd (upd F.2.2.2 3 (F.2.2.2 3 + nI (F.2.1.length - (fHitB F).length))) 7 (F.2.2.2 7 + nI 1))) := (if_neg c14).trans (if_pos c44)
      rw [e]
      exact ⟨rfl, hF4.sc 4 (by decide) 1, hO4.up (by omega) (by omega)⟩
  · have c14 : F.2.1.length - (fHitB F).length = 0 := (nI_eq (a := F.2.1.length - (fHitB F).length) (b := 0) hl (by omega)).mp c14
    refine mx_iconst (pc' := 18) (v := nI 0) dX3_takeHits_17 (by decide) rfl ?_
    refine mx_iret dX3_takeHits_18 (Or.inl rfl) ?_
    have e : fHits F = (0, (F.1, fHitB F, F.2.2.1, F.2.2.2)) := if_pos c14
    rw [e]
    exact ⟨rfl, hF2, hO⟩

set_option maxHeartbeats 1000000 in
set_option maxRecDepth 10000 in
theorem t_X3_passTick (M : mx_M) (a : Nat) (hs : FB a) (F : FS) (hF : FiA M a F) (hV : FV F) (ht : F.2.2.1 3 + 1 < 2147483648) (k : Nat) (hk : k < 3) : mx_T yX3_passTick cX3_passTick 3 (some .int) 5 [.ref a, .int (dr k)] M (fun v M' => v = some (.int (nI (fPass k F).1)) ∧ FiA M' a (fPass k F).2 ∧ Out M M' a (a + 14)) := by
  obtain ⟨s0, ⟨e0, e1, e2, e3, e4⟩, ⟨b0, b1, b2, b3, b4, b5⟩, s12, s13⟩ := hs.s
  have h0 := hV.1
  have J22 : ∀ (N : mx_M) (G : FS), fMove k F = G → FiA N a G → Out M N a (a + 14) → mx_V cX3_passTick RX3 3 (some .int) 5 22 [some (.ref a), some (.int (dr k)), none] [] N (fun v M' => v = some (.int (nI (fPass k F).1)) ∧ FiA M' a (fPass k F).2 ∧ Out M M' a (a + 14)) := by
    intro N G hG hF hO
    have hVG : FV G := hG ▸ hV.move k
    have hT : G.2.2.1 3 + 1 < 2147483648 := by rw [← hG, (fMove_0 k F).2]; exact ht
    refine mx_aload_n (pc' := 23) dX3_passTick_22 rfl rfl ?_
    refine mx_callV (pc' := 26) dX3_passTick_23 cl_X3_66 (s0) (t_X3_advance N a hs G hF hVG hT) rfl (by decide) rfl (Nat.le_of_ble_eq_true rfl) rfl (fun v N23 hv => ?_)
    obtain ⟨rfl, hF2, hO2⟩ := hv
    refine mx_aload_n (pc' := 27) dX3_passTick_26 rfl rfl ?_
    refine mx_callV (pc' := 30) dX3_passTick_27 cl_X3_69 (s0) (t_X3_takeHits N23 a hs _ hF2 hVG.adv) rfl (by decide) rfl (Nat.le_of_ble_eq_true rfl) rfl (fun v N27 hv => ?_)
    obtain ⟨rfl, hF3, hO3⟩ := hv
    have hV3 := hVG.adv.hits
    have hO9 := (hO.tr hO2).tr hO3
    generalize hR : fHits (fAdv G) = R at hF3 hV3 ⊢
    have h4 := hV3.2.2.2.1
    refine mx_istore_n (pc' := 31) (ls' := [_, _, _]) dX3_passTick_30 (by decide) (rfl) rfl rfl ?_
    refine mx_aload_n (pc' := 32) dX3_passTick_31 rfl rfl ?_
    refine mx_getf (pc' := 35) (v := nI (R.2.2.2.1 4)) dX3_passTick_32 fl_X3_45 (by assumption) (by rfl) (hF3.2.2.1 4 (by decide)) rfl ?_
    refine mx_if_ne (tgt := 59) (pc' := 38) dX3_passTick_35 (by decide) rfl (fun c35 => ?_) (fun c35 => ?_)
    · have c35 : ¬ R.2.2.2.1 4 = 0 := fun z => c35 (by rw [z]; rfl)
      refine mx_iload_n (pc' := 60) dX3_passTick_59 rfl rfl ?_
      refine mx_iret dX3_passTick_60 (Or.inl rfl) ?_
      have e : fPass k F = (R.1, R.2) := by
        unfold fPass
        rw [hG, hR, if_neg c35]
      rw [e]
      exact ⟨rfl, hF3, hO9⟩
    · have c35 : R.2.2.2.1 4 = 0 := (nI_eq (a := R.2.2.2.1 4) (b := 0) (by omega) (by omega)).mp c35
      refine mx_aload_n (pc' := 39) dX3_passTick_38 rfl rfl ?_
      refine mx_getr (pc' := 42) dX3_passTick_39 fl_X3_29 (by assumption) (by rfl) rfl ?_
      refine mx_bipush (pc' := 44) (v := nI 6) dX3_passTick_42 (by decide) rfl ?_
      refine mx_dup2 (pc' := 45) dX3_passTick_44 rfl rfl rfl ?_
      refine mx_iald (pc' := 46) (v := R.2.2.2.2 6) dX3_passTick_45 (by assumption) (rfl) (by omega) (hF3.2.2.2.2 6 (by decide)) rfl ?_
      refine mx_aload_n (pc' := 47) dX3_passTick_46 rfl rfl ?_
      refine mx_getr (pc' := 50) dX3_passTick_47 fl_X3_21 (by assumption) (by rfl) rfl ?_
      refine mx_aload_n (pc' := 51) dX3_passTick_50 rfl rfl ?_
      refine mx_getf (pc' := 54) (v := nI (R.2.2.2.1 0)) dX3_passTick_51 fl_X3_32 (by assumption) (by rfl) (hF3.2.2.1 0 (by decide)) rfl ?_
      refine mx_callV (pc' := 57) dX3_passTick_54 cl_X3_73 (b0) (t_X0_grazeBeside N27 (a + 6) (R.2.2.2.1 0) ⟨b0, b1, b2, b3, b4, b5⟩ hV3.1 R.2.2.1 hF3.2.1) rfl (by decide) rfl (Nat.le_of_ble_eq_true rfl) rfl (fun v N54 hv => ?_)
      obtain ⟨rfl, hA, hO4⟩ := hv
      have hF4 := hF3.bu hA (hO4.wd (by omega) (by omega))
      refine mx_iadd (pc' := 58) dX3_passTick_57 (rfl) rfl ?_
      refine mx_iast (pc' := 59) dX3_passTick_58 (by assumption) (rfl) (by omega) rfl ?_
      refine mx_iload_n (pc' := 60) dX3_passTick_59 rfl rfl ?_
      refine mx_iret dX3_passTick_60 (Or.inl rfl) ?_
      have e : fPass k F = (R.1, fGraze R.2) := by
        unfold fPass
        rw [hG, hR, if_pos c35]
      rw [e]
      exact ⟨rfl, hF4.ac 6 _, (hO9.tr (hO4.wd (by omega) (by omega))).up (by omega) (by omega)⟩
  refine mx_T.of1 (own := RX3) (ls := [some (.ref a), some (.int (dr k)), none]) (by decide +kernel) rfl (Nat.le_of_ble_eq_true rfl) rfl rfl ?_
  refine mx_aload_n (pc' := 1) dX3_passTick_0 rfl rfl ?_
  refine mx_getf (pc' := 4) (v := nI (F.2.2.1 0)) dX3_passTick_1 fl_X3_32 (by assumption) (by rfl) (hF.2.2.1 0 (by decide)) rfl ?_
  refine mx_iload_n (pc' := 5) dX3_passTick_4 rfl rfl ?_
  refine mx_iadd (pc' := 6) dX3_passTick_5 (rfl) rfl ?_
  refine mx_callN (pc' := 9) dX3_passTick_6 cl_X3_62 (t_X7_isColumn _ _) rfl (by decide) rfl (Nat.le_of_ble_eq_true rfl) rfl (fun v N6 hv => ?_)
  obtain ⟨rfl, hv⟩ := hv
  rw [hv]
  refine mx_if_eq (tgt := 22) (pc' := 12) dX3_passTick_9 (by decide) rfl (fun c9 => ?_) (fun c9 => ?_)
  · have c9 : ¬ (1 ≤ F.2.2.1 0 + k ∧ F.2.2.1 0 + k ≤ 10) := fun z => bI_0.mp c9 ((dr_in _ (by omega) k hk).mpr z)
    exact J22 M F (if_neg c9) hF Out.rf
  · have c9 := (dr_in (F.2.2.1 0) (by omega) k hk).mp (bI_n.mp c9)
    refine mx_aload_n (pc' := 13) dX3_passTick_12 rfl rfl ?_
    refine mx_dup (pc' := 14) dX3_passTick_13 rfl rfl ?_
    refine mx_getf (pc' := 17) (v := nI (F.2.2.1 0)) dX3_passTick_14 fl_X3_32 (by assumption) (by rfl) (hF.2.2.1 0 (by decide)) rfl ?_
    refine mx_iload_n (pc' := 18) dX3_passTick_17 rfl rfl ?_
    refine mx_iadd (pc' := 19) (v := nI (F.2.2.1 0 + k - 1)) dX3_passTick_18 (dr_add _ (by omega) k hk (by omega)) rfl ?_
    refine mx_putf (pc' := 22) dX3_passTick_19 fl_X3_32 (by assumption) (by rfl) (⟨rfl, rfl⟩) rfl ?_
    exact J22 _ _ (if_pos c9) (hF.sc 0 (by decide) _) (Out.rf.up (by omega) (by omega))

set_option maxHeartbeats 1000000 in
set_option maxRecDepth 10000 in
theorem t_X3_canBomb (M : mx_M) (a : Nat) (hs : FB a) (F : FS) (hF : FiA M a F) (hV : FV F) : mx_T yX3_canBomb cX3_canBomb 1 (some .boolean) 1 [.ref a] M (fun v M' => v = some (.int (bI (F.2.2.1 4 = 0 ∧ 0 < F.2.2.1 2))) ∧ M' = M) := by
  obtain ⟨s0, ⟨e0, e1, e2, e3, e4⟩, ⟨b0, b1, b2, b3, b4, b5⟩, s12, s13⟩ := hs.s
  have h4 := hV.2.2.2.1
  have h2 := hV.2.2.1
  refine mx_T.of1 (own := RX3) (ls := [some (.ref a)]) (by decide +kernel) rfl (Nat.le_of_ble_eq_true rfl) rfl rfl ?_
  refine mx_aload_n (pc' := 1) dX3_canBomb_0 rfl rfl ?_
  refine mx_getf (pc' := 4) (v := nI (F.2.2.1 4)) dX3_canBomb_1 fl_X3_45 (by assumption) (by rfl) (hF.2.2.1 4 (by decide)) rfl ?_
  refine mx_if_ne (tgt := 18) (pc' := 7) dX3_canBomb_4 (by decide) rfl (fun c4 => ?_) (fun c4 => ?_)
  · have c4 : ¬ F.2.2.1 4 = 0 := fun z => c4 (by rw [z]; rfl)
    refine mx_iconst (pc' := 19) (v := nI 0) dX3_canBomb_18 (by decide) rfl ?_
    refine mx_iret dX3_canBomb_19 (Or.inr ⟨rfl, by decide⟩) ?_
    first | exact ⟨bI_rt ⟨c4, c11⟩, rfl⟩ | exact ⟨bI_rf (fun z => c11 z.2), rfl⟩ | exact ⟨bI_rf (fun z => c4 z.1), rfl⟩
  · have c4 : F.2.2.1 4 = 0 := (nI_eq (a := F.2.2.1 4) (b := 0) (by omega) (by omega)).mp c4
    refine mx_aload_n (pc' := 8) dX3_canBomb_7 rfl rfl ?_
    refine mx_getf (pc' := 11) (v := nI (F.2.2.1 2)) dX3_canBomb_8 fl_X3_39 (by assumption) (by rfl) (hF.2.2.1 2 (by decide)) rfl ?_
    refine mx_if_le (tgt := 18) (pc' := 14) dX3_canBomb_11 (by decide) rfl (fun c11 => ?_) (fun c11 => ?_)
    · have c11 : ¬ 0 < F.2.2.1 2 := fun z => nI_nle z (by omega) c11
      refine mx_iconst (pc' := 19) (v := nI 0) dX3_canBomb_18 (by decide) rfl ?_
      refine mx_iret dX3_canBomb_19 (Or.inr ⟨rfl, by decide⟩) ?_
      first | exact ⟨bI_rt ⟨c4, c11⟩, rfl⟩ | exact ⟨bI_rf (fun z => c11 z.2), rfl⟩ | exact ⟨bI_rf (fun z => c4 z.1), rfl⟩
    · have c11 : 0 < F.2.2.1 2 := Nat.pos_of_ne_zero (fun z => c11 (by rw [z]; decide))
      refine mx_iconst (pc' := 15) (v := nI 1) dX3_canBomb_14 (by decide) rfl ?_
      refine mx_goto (pc' := 19) dX3_canBomb_15 (by decide) ?_
      refine mx_iret dX3_canBomb_19 (Or.inr ⟨rfl, by decide⟩) ?_
      first | exact ⟨bI_rt ⟨c4, c11⟩, rfl⟩ | exact ⟨bI_rf (fun z => c11 z.2), rfl⟩ | exact ⟨bI_rf (fun z => c4 z.1), rfl⟩

set_option maxHeartbeats 1000000 in
set_option maxRecDepth 10000 in
theorem t_X3_throwBomb (M : mx_M) (a : Nat) (hs : FB a) (F : FS) (hF : FiA M a F) (hV : FV F) (hb : 0 < F.2.2.1 2) : mx_T yX3_throwBomb cX3_throwBomb 2 (some .int) 4 [.ref a] M (fun v M' => v = some (.int (nI (fBomb F).1)) ∧ FiA M' a (fBomb F).2 ∧ Out M M' a (a + 14)) := by
  obtain ⟨s0, ⟨e0, e1, e2, e3, e4⟩, ⟨b0, b1, b2, b3, b4, b5⟩, s12, s13⟩ := hs.s
  refine mx_T.of1 (own := RX3) (ls := [some (.ref a), none]) (by decide +kernel) rfl (Nat.le_of_ble_eq_true rfl) rfl rfl ?_
  refine mx_aload_n (pc' := 1) dX3_throwBomb_0 rfl rfl ?_
  refine mx_dup (pc' := 2) dX3_throwBomb_1 rfl rfl ?_
  refine mx_getf (pc' := 5) (v := nI (F.2.2.1 2)) dX3_throwBomb_2 fl_X3_39 (by assumption) (by rfl) (hF.2.2.1 2 (by decide)) rfl ?_
  refine mx_iconst (pc' := 6) (v := nI 1) dX3_throwBomb_5 (by decide) rfl ?_
  refine mx_isub (pc' := 7) (v := nI (F.2.2.1 2 - 1)) dX3_throwBomb_6 (pk_sub (b := 1) (by omega)) rfl ?_
  refine mx_putf (pc' := 10) dX3_throwBomb_7 fl_X3_39 (by assumption) (by rfl) (⟨rfl, rfl⟩) rfl ?_
  have hF1 := hF.sc 2 (by decide) (F.2.2.1 2 - 1)
  refine mx_aload_n (pc' := 11) dX3_throwBomb_10 rfl rfl ?_
  refine mx_getr (pc' := 14) dX3_throwBomb_11 fl_X3_21 (by assumption) (by rfl) rfl ?_
  refine mx_aload_n (pc' := 15) dX3_throwBomb_14 rfl rfl ?_
  refine mx_getf (pc' := 18) (v := nI (F.2.2.1 0)) dX3_throwBomb_15 fl_X3_32 (by assumption) (by rfl) (hF1.2.2.1 0 (by decide)) rfl ?_
  refine mx_aload_n (pc' := 19) dX3_throwBomb_18 rfl rfl ?_
  refine mx_getr (pc' := 22) dX3_throwBomb_19 fl_X3_25 (by assumption) (by rfl) rfl ?_
  refine mx_iconst (pc' := 23) (v := nI 1) dX3_throwBomb_22 (by decide) rfl ?_
  refine mx_iald (pc' := 24) (v := nI (F.2.2.1 6)) dX3_throwBomb_23 (by assumption) (rfl) (by omega) (hF1.2.2.2.1 1 (by decide)) rfl ?_
  refine mx_callV (pc' := 27) dX3_throwBomb_24 cl_X3_112 (b0) (t_X0_takeAround _ (a + 6) (F.2.2.1 0) (F.2.2.1 6) ⟨b0, b1, b2, b3, b4, b5⟩ hV.1 hV.2.2.2.2.2.2 F.2.1 hF1.2.1) rfl (by decide) rfl (Nat.le_of_ble_eq_true rfl) rfl (fun v N24 hv => ?_)
  obtain ⟨rfl, hA, hO⟩ := hv
  have hF2 := hF1.bu hA hO
  refine mx_istore_n (pc' := 28) (ls' := [_, _]) dX3_throwBomb_27 (by decide) (rfl) rfl rfl ?_
  refine mx_aload_n (pc' := 29) dX3_throwBomb_28 rfl rfl ?_
  refine mx_getr (pc' := 32) dX3_throwBomb_29 fl_X3_29 (by assumption) (by rfl) rfl ?_
  refine mx_iconst (pc' := 33) (v := nI 4) dX3_throwBomb_32 (by decide) rfl ?_
  refine mx_dup2 (pc' := 34) dX3_throwBomb_33 rfl rfl rfl ?_
  refine mx_iald (pc' := 35) (v := F.2.2.2 4) dX3_throwBomb_34 (by assumption) (rfl) (by omega) (hF2.2.2.2.2 4 (by decide)) rfl ?_
  refine mx_iload_n (pc' := 36) dX3_throwBomb_35 rfl rfl ?_
  refine mx_iadd (pc' := 37) dX3_throwBomb_36 (rfl) rfl ?_
  refine mx_iast (pc' := 38) dX3_throwBomb_37 (by assumption) (rfl) (by omega) rfl ?_
  refine mx_iload_n (pc' := 39) dX3_throwBomb_38 rfl rfl ?_
  refine mx_iret dX3_throwBomb_39 (Or.inl rfl) ?_
  exact ⟨rfl, hF2.ac 4 _, (((Out.rf.up (by omega) (by omega)).tr (hO.wd (by omega) (by omega))).up (by omega) (by omega))⟩

set_option maxHeartbeats 1000000 in
set_option maxRecDepth 10000 in
theorem t_X3_sweep (M : mx_M) (a : Nat) (hs : FB a) (F : FS) (hF : FiA M a F) : mx_T yX3_sweep cX3_sweep 2 (some .int) 2 [.ref a] M (fun v M' => v = some (.int (nI (fSweep F).1)) ∧ FiA M' a (fSweep F).2 ∧ Out M M' a (a + 14)) := by
  obtain ⟨s0, ⟨e0, e1, e2, e3, e4⟩, ⟨b0, b1, b2, b3, b4, b5⟩, s12, s13⟩ := hs.s
  refine mx_T.of1 (own := RX3) (ls := [some (.ref a), none]) (by decide +kernel) rfl (Nat.le_of_ble_eq_true rfl) rfl rfl ?_
  refine mx_aload_n (pc' := 1) dX3_sweep_0 rfl rfl ?_
  refine mx_getr (pc' := 4) dX3_sweep_1 fl_X3_21 (by assumption) (by rfl) rfl ?_
  refine mx_iconst (pc' := 5) (v := nI 0) dX3_sweep_4 (by decide) rfl ?_
  refine mx_callV (pc' := 8) dX3_sweep_5 cl_X3_115 (b0) (t_X0_keepOnly M (a + 6) F.2.1.length ⟨b0, b1, b2, b3, b4, b5⟩ hF.2.1.1 0 (by omega)) rfl (by decide) rfl (Nat.le_of_ble_eq_true rfl) rfl (fun v N5 hv => ?_)
  obtain ⟨rfl, hv⟩ := hv
  rw [hv]
  have hA : BuA (mx_up M (a + 6) 5 (nI 0)) (a + 6) [] := ⟨mx_up_eq _ _ _ _, ⟨by decide, fun x hx => by simp at hx⟩, BuP.nil⟩
  have hF2 := hF.bu hA (Out.rf.up (by omega) (by omega))
  refine mx_istore_n (pc' := 9) (ls' := [_, _]) dX3_sweep_8 (by decide) (rfl) rfl rfl ?_
  refine mx_aload_n (pc' := 10) dX3_sweep_9 rfl rfl ?_
  refine mx_getr (pc' := 13) dX3_sweep_10 fl_X3_29 (by assumption) (by rfl) rfl ?_
  refine mx_iconst (pc' := 14) (v := nI 5) dX3_sweep_13 (by decide) rfl ?_
  refine mx_dup2 (pc' := 15) dX3_sweep_14 rfl rfl rfl ?_
  refine mx_iald (pc' := 16) (v := F.2.2.2 5) dX3_sweep_15 (by assumption) (rfl) (by omega) (hF2.2.2.2.2 5 (by decide)) rfl ?_
  refine mx_iload_n (pc' := 17) dX3_sweep_16 rfl rfl ?_
  refine mx_iadd (pc' := 18) dX3_sweep_17 (rfl) rfl ?_
  refine mx_iast (pc' := 19) dX3_sweep_18 (by assumption) (rfl) (by omega) rfl ?_
  refine mx_aload_n (pc' := 20) dX3_sweep_19 rfl rfl ?_
  refine mx_iconst (pc' := 21) (v := nI 3) dX3_sweep_20 (by decide) rfl ?_
  refine mx_putf (pc' := 24) dX3_sweep_21 fl_X3_36 (by assumption) (by rfl) (⟨rfl, rfl⟩) rfl ?_
  refine mx_aload_n (pc' := 25) dX3_sweep_24 rfl rfl ?_
  refine mx_iconst (pc' := 26) (v := nI 2) dX3_sweep_25 (by decide) rfl ?_
  refine mx_putf (pc' := 29) dX3_sweep_26 fl_X3_39 (by assumption) (by rfl) (⟨rfl, rfl⟩) rfl ?_
  refine mx_aload_n (pc' := 30) dX3_sweep_29 rfl rfl ?_
  refine mx_iconst (pc' := 31) (v := nI 0) dX3_sweep_30 (by decide) rfl ?_
  refine mx_putf (pc' := 34) dX3_sweep_31 fl_X3_45 (by assumption) (by rfl) (⟨by decide, by decide⟩) rfl ?_
  refine mx_iload_n (pc' := 35) dX3_sweep_34 rfl rfl ?_
  refine mx_iret dX3_sweep_35 (Or.inl rfl) ?_
  exact ⟨rfl, ((((hF2.ac 5 _).sc 1 (by decide) 3).sc 2 (by decide) 2).sc 4 (by decide) 0), by repeat (first | exact Out.rf | refine Out.up ?_ (by omega) (by omega))⟩

set_option maxHeartbeats 1000000 in
set_option maxRecDepth 10000 in
theorem t_X3_copyFrom (M : mx_M) (a b : Nat) (hs : FB a) (hs2 : FB b) (hab : a ≠ b) (F : FS) (hF : FiA M b F) (hV : FV F) : mx_T yX3_copyFrom cX3_copyFrom 2 none 3 [.ref a, .ref b] M (fun v M' => v = none ∧ FiA M' a F ∧ Out M M' a (a + 14)) := by
  have hap := hs.apart hs2 hab
  obtain ⟨s0, ⟨e0, e1, e2, e3, e4⟩, ⟨b0, b1, b2, b3, b4, b5⟩, s12, s13⟩ := hs.s
  obtain ⟨t0, ⟨f0, f1, f2, f3, f4⟩, ⟨c0, c1, c2, c3, c4, c5⟩, t12, t13⟩ := hs2.s
  refine mx_T.of1 (own := RX3) (ls := [some (.ref a), some (.ref b)]) (by decide +kernel) rfl (Nat.le_of_ble_eq_true rfl) rfl rfl ?_
  refine mx_aload_n (pc' := 1) dX3_copyFrom_0 rfl rfl ?_
  refine mx_getr (pc' := 4) dX3_copyFrom_1 fl_X3_12 (by assumption) (by rfl) rfl ?_
  refine mx_aload_n (pc' := 5) dX3_copyFrom_4 rfl rfl ?_
  refine mx_getr (pc' := 8) dX3_copyFrom_5 fl_X3_12 (by assumption) (by rfl) rfl ?_
  refine mx_callV (pc' := 11) dX3_copyFrom_8 cl_X3_49 (e0) (t_X2_copyFrom M (a + 1) (b + 1) ⟨e0, e1, e2, e3, e4⟩ ⟨f0, f1, f2, f3, f4⟩ (by omega) F.1 hF.1) rfl (by decide) rfl (Nat.le_of_ble_eq_true rfl) rfl (fun v N8 hv => ?_)
  obtain ⟨rfl, hA, hO⟩ := hv
  refine mx_aload_n (pc' := 12) dX3_copyFrom_11 rfl rfl ?_
  refine mx_getr (pc' := 15) dX3_copyFrom_12 fl_X3_21 (by assumption) (by rfl) rfl ?_
  refine mx_aload_n (pc' := 16) dX3_copyFrom_15 rfl rfl ?_
  refine mx_getr (pc' := 19) dX3_copyFrom_16 fl_X3_21 (by assumption) (by rfl) rfl ?_
  refine mx_callV (pc' := 22) dX3_copyFrom_19 cl_X3_53 (b0) (t_X0_copyFrom N8 (a + 6) (b + 6) ⟨b0, b1, b2, b3, b4, b5⟩ ⟨c0, c1, c2, c3, c4, c5⟩ (by omega) F.2.1 (hF.2.1.fr fun q h1 h2 => hO q (by omega))) rfl (by decide) rfl (Nat.le_of_ble_eq_true rfl) rfl (fun v N19 hv => ?_)
  obtain ⟨rfl, hA2, hO2⟩ := hv
  have hO := (hO.wd (a' := a) (b' := a + 14) (by omega) (by omega)).tr (hO2.wd (a' := a) (b' := a + 14) (by omega) (by omega))
  have hA := hA.fr (M' := N19) fun q h1 h2 => hO2 q (by omega)
  have hB := hF.fr (M' := N19) fun q h1 h2 => hO q (by omega)
  refine mx_aload_n (pc' := 23) dX3_copyFrom_22 rfl rfl ?_
  refine mx_getr (pc' := 26) dX3_copyFrom_23 fl_X3_25 (by assumption) (by rfl) rfl ?_
  refine mx_iconst (pc' := 27) (v := nI 0) dX3_copyFrom_26 (by decide) rfl ?_
  refine mx_aload_n (pc' := 28) dX3_copyFrom_27 rfl rfl ?_
  refine mx_getr (pc' := 31) dX3_copyFrom_28 fl_X3_25 (by assumption) (by rfl) rfl ?_
  refine mx_iconst (pc' := 32) (v := nI 0) dX3_copyFrom_31 (by decide) rfl ?_
  refine mx_iconst (pc' := 33) (v := nI 2) dX3_copyFrom_32 (by decide) rfl ?_
  refine mx_acopy (pc' := 36) dX3_copyFrom_33 (mx_in 326 (by decide +kernel) (by decide +kernel)) t12 s12 rfl rfl rfl (by decide) (by decide) (by decide) (by decide) rfl ?_
  refine mx_aload_n (pc' := 37) dX3_copyFrom_36 rfl rfl ?_
  refine mx_getr (pc' := 40) dX3_copyFrom_37 fl_X3_29 (by assumption) (by rfl) rfl ?_
  refine mx_iconst (pc' := 41) (v := nI 0) dX3_copyFrom_40 (by decide) rfl ?_
  refine mx_aload_n (pc' := 42) dX3_copyFrom_41 rfl rfl ?_
  refine mx_getr (pc' := 45) dX3_copyFrom_42 fl_X3_29 (by assumption) (by rfl) rfl ?_
  refine mx_iconst (pc' := 46) (v := nI 0) dX3_copyFrom_45 (by decide) rfl ?_
  refine mx_bipush (pc' := 48) (v := nI 8) dX3_copyFrom_46 (by decide) rfl ?_
  refine mx_acopy (pc' := 51) dX3_copyFrom_48 (mx_in 326 (by decide +kernel) (by decide +kernel)) t13 s13 rfl rfl rfl (by decide) (by decide) (by decide) (by decide) rfl ?_
  refine mx_aload_n (pc' := 52) dX3_copyFrom_51 rfl rfl ?_
  refine mx_aload_n (pc' := 53) dX3_copyFrom_52 rfl rfl ?_
  refine mx_getf (pc' := 56) (v := nI (F.2.2.1 0)) dX3_copyFrom_53 fl_X3_32 (by assumption) (by rfl) (((by simp only [mx_up, mx_cp]; repeat rw [if_neg (by omega)]) : _ = N19 b 4).trans (hB.2.2.1 0 (by decide))) rfl ?_
  refine mx_putf (pc' := 59) dX3_copyFrom_56 fl_X3_32 (by assumption) (by rfl) (⟨rfl, rfl⟩) rfl ?_
  refine mx_aload_n (pc' := 60) dX3_copyFrom_59 rfl rfl ?_
  refine mx_aload_n (pc' := 61) dX3_copyFrom_60 rfl rfl ?_
  refine mx_getf (pc' := 64) (v := nI (F.2.2.1 1)) dX3_copyFrom_61 fl_X3_36 (by assumption) (by rfl) (((by simp only [mx_up, mx_cp]; repeat rw [if_neg (by omega)]) : _ = N19 b 5).trans (hB.2.2.1 1 (by decide))) rfl ?_
  refine mx_putf (pc' := 67) dX3_copyFrom_64 fl_X3_36 (by assumption) (by rfl) (⟨rfl, rfl⟩) rfl ?_
  refine mx_aload_n (pc' := 68) dX3_copyFrom_67 rfl rfl ?_
  refine mx_aload_n (pc' := 69) dX3_copyFrom_68 rfl rfl ?_
  refine mx_getf (pc' := 72) (v := nI (F.2.2.1 2)) dX3_copyFrom_69 fl_X3_39 (by assumption) (by rfl) (((by simp only [mx_up, mx_cp]; repeat rw [if_neg (by omega)]) : _ = N19 b 6).trans (hB.2.2.1 2 (by decide))) rfl ?_
  refine mx_putf (pc' := 75) dX3_copyFrom_72 fl_X3_39 (by assumption) (by rfl) (⟨rfl, rfl⟩) rfl ?_
  refine mx_aload_n (pc' := 76) dX3_copyFrom_75 rfl rfl ?_
  refine mx_aload_n (pc' := 77) dX3_copyFrom_76 rfl rfl ?_
  refine mx_getf (pc' := 80) (v := nI (F.2.2.1 3)) dX3_copyFrom_77 fl_X3_42 (by assumption) (by rfl) (((by simp only [mx_up, mx_cp]; repeat rw [if_neg (by omega)]) : _ = N19 b 7).trans (hB.2.2.1 3 (by decide))) rfl ?_
  refine mx_putf (pc' := 83) dX3_copyFrom_80 fl_X3_42 (by assumption) (by rfl) (⟨rfl, rfl⟩) rfl ?_
  refine mx_aload_n (pc' := 84) dX3_copyFrom_83 rfl rfl ?_
  refine mx_aload_n (pc' := 85) dX3_copyFrom_84 rfl rfl ?_
  refine mx_getf (pc' := 88) (v := nI (F.2.2.1 4)) dX3_copyFrom_85 fl_X3_45 (by assumption) (by rfl) (((by simp only [mx_up, mx_cp]; repeat rw [if_neg (by omega)]) : _ = N19 b 8).trans (hB.2.2.1 4 (by decide))) rfl ?_
  refine mx_putf (pc' := 91) dX3_copyFrom_88 fl_X3_45 (by assumption) (by rfl) (nI_fb hV.2.2.2.1) rfl ?_
  have hO9 : Out M (mx_cp (mx_cp N19 (b + 12) (a + 12) 2) (b + 13) (a + 13) 8) a (a + 14) := fun q hq => by rw [mx_cp_ne (by omega), mx_cp_ne (by omega)]; exact hO q hq
  refine mx_vret dX3_copyFrom_91 rfl ?_
  refine ⟨rfl, ⟨hA.fr fun q h1 h2 => ?_, hA2.fr fun q h1 h2 => ?_, fun j hj => ?_, fun j hj => ?_, fun j hj => ?_⟩, by repeat (first | exact hO9 | refine Out.up ?_ (by omega) (by omega))⟩
  · repeat rw [mx_up_ne (by omega)]
    rw [mx_cp_ne (by omega), mx_cp_ne (by omega)]
  · repeat rw [mx_up_ne (by omega)]
    rw [mx_cp_ne (by omega), mx_cp_ne (by omega)]
  · rcases (show j = 0 ∨ j = 1 ∨ j = 2 ∨ j = 3 ∨ j = 4 by omega) with rfl | rfl | rfl | rfl | rfl <;> simp [mx_up]
  · repeat rw [mx_up_ne (by omega)]
    rw [mx_cp_ne (by omega)]
    have := hB.2.2.2.1 j hj
    simp [mx_cp, hj, this]
  · repeat rw [mx_up_ne (by omega)]
    have := hB.2.2.2.2 j hj
    simp only [mx_cp, if_pos, hj]
    rw [if_neg (by omega)]
    exact this
end
section
/-! history: 43 and its row 44, its Fields at 45, 59, 73, 87 in some order -/
def HB (p : Nat) : Prop := p = 45 ∨ p = 59 ∨ p = 73 ∨ p = 87
theorem HB.f {p : Nat} (h : HB p) : FB p := by unfold HB at h; unfold FB; omega
def HiP (M : mx_M) (P : Nat → Nat) : Prop := (∀ j, j < 4 → HB (P j)) ∧ (∀ i j, i < 4 → j < 4 → P i = P j → i = j) ∧ ∀ j, j < 4 → M 44 j = nI (P j)
def HiA (M : mx_M) (H : List FS) : Prop := ∃ P : Nat → Nat, HiP M P ∧ M 43 1 = nI H.length ∧ H.length ≤ 4 ∧ ∀ (j : Nat) (F : FS), H[j]? = some F → FiA M (P j) F ∧ FV F
theorem HiA.fr {M M' : mx_M} {H : List FS} (h : HiA M H) (hf : ∀ q, 43 ≤ q → q < 101 → M' q = M q) : HiA M' H := by
  obtain ⟨P, ⟨p1, p2, p3⟩, h1, h2, h3⟩ := h
  refine ⟨P, ⟨p1, p2, fun j hj => by rw [hf 44 (by omega) (by omega)]; exact p3 j hj⟩, by rw [hf 43 (by omega) (by omega)]; exact h1, h2, fun j F hF => ⟨(h3 j F hF).1.fr fun q z1 z2 => hf q ?_ ?_, (h3 j F hF).2⟩⟩
  · have := p1 j (by have := len_lt hF; omega)
    unfold HB at this; omega
  · have := p1 j (by have := len_lt hF; omega)
    unfold HB at this; omega
theorem nI_cl {x : Int32} {n : Nat} (h : x = nI n) (hn : n < 2147483648) : x.toNatClampNeg = n := by rw [h]; exact nI_clamp hn
def hPush (F : FS) (H : List FS) : List FS := (if H.length = 4 then H.drop 1 else H) ++ [F]
set_option maxHeartbeats 1000000 in
set_option maxRecDepth 10000 in
theorem t_X4_dropOldest (M : mx_M) (P : Nat → Nat) (hP : HiP M P) (H : List FS) (h4 : H.length = 4) (h3 : ∀ (j : Nat) (F : FS), H[j]? = some F → FiA M (P j) F ∧ FV F) : mx_T yX4_dropOldest cX4_dropOldest 3 none 1 [.ref 43] M (fun v M' => v = none ∧ HiA M' (H.drop 1) ∧ Out M M' 43 45) := by
  obtain ⟨p1, p2, p3⟩ := hP
  have q0 := p1 0 (by decide)
  have q1 := p1 1 (by decide)
  have q2 := p1 2 (by decide)
  have q3 := p1 3 (by decide)
  unfold HB at q0 q1 q2 q3
  refine mx_T.of1 (own := RX4) (ls := [some (.ref 43), none, none]) (by decide +kernel) rfl (Nat.le_of_ble_eq_true rfl) rfl rfl ?_
  refine mx_aload_n (pc' := 1) dX4_dropOldest_0 rfl rfl ?_
  refine mx_getr (pc' := 4) dX4_dropOldest_1 fl_X4_11 (rfl) (by rfl) rfl ?_
  refine mx_iconst (pc' := 5) (v := nI 0) dX4_dropOldest_4 (by decide) rfl ?_
  refine mx_aald2 (pc' := 6) (b := P 0) dX4_dropOldest_5 (rfl) (rfl) (by decide) (nI_cl (p3 0 (by decide)) (by omega)) rfl ?_
  refine mx_astore_n (pc' := 7) (ls' := [_, _, _]) dX4_dropOldest_6 (by decide) (rfl) rfl rfl ?_
  refine mx_iconst (pc' := 8) (v := nI 1) dX4_dropOldest_7 (by decide) rfl ?_
  refine mx_istore_n (pc' := 9) (ls' := [_, _, _]) dX4_dropOldest_8 (by decide) (rfl) rfl rfl ?_
  refine mx_iload_n (pc' := 10) dX4_dropOldest_9 rfl rfl ?_
  refine mx_iconst (pc' := 11) (v := nI 4) dX4_dropOldest_10 (by decide) rfl ?_
  refine mx_icmp_ge (tgt := 34) (pc' := 14) dX4_dropOldest_11 (by decide) rfl (fun c11 => ?_) (fun c11 => ?_)
  · exact absurd c11 (by decide)
  · refine mx_aload_n (pc' := 15) dX4_dropOldest_14 rfl rfl ?_
    refine mx_getr (pc' := 18) dX4_dropOldest_15 fl_X4_11 (rfl) (by rfl) rfl ?_
    refine mx_iload_n (pc' := 19) dX4_dropOldest_18 rfl rfl ?_
    refine mx_iconst (pc' := 20) (v := nI 1) dX4_dropOldest_19 (by decide) rfl ?_
    refine mx_isub (pc' := 21) (v := nI 0) dX4_dropOldest_20 (by decide) rfl ?_
    refine mx_aload_n (pc' := 22) dX4_dropOldest_21 rfl rfl ?_
    refine mx_getr (pc' := 25) dX4_dropOldest_22 fl_X4_11 (rfl) (by rfl) rfl ?_
    refine mx_iload_n (pc' := 26) dX4_dropOldest_25 rfl rfl ?_
    refine mx_aald2 (pc' := 27) (b := P 1) dX4_dropOldest_26 (rfl) (rfl) (by decide) (nI_cl (((by simp [mx_up]) : _ = M 44 1).trans (p3 1 (by decide))) (by omega)) rfl ?_
    refine mx_aast (pc' := 28) dX4_dropOldest_27 (rfl) (rfl) (by decide) ((p1 1 (by decide)).f.s.1) rfl ?_
    refine mx_iinc (pc' := 31) (ls' := [_, _, _]) (v := nI 2) dX4_dropOldest_28 rfl (by decide) (by decide) rfl rfl rfl ?_
    refine mx_goto (pc' := 9) dX4_dropOldest_31 (by decide) ?_
    refine mx_iload_n (pc' := 10) dX4_dropOldest_9 rfl rfl ?_
    refine mx_iconst (pc' := 11) (v := nI 4) dX4_dropOldest_10 (by decide) rfl ?_
    refine mx_icmp_ge (tgt := 34) (pc' := 14) dX4_dropOldest_11 (by decide) rfl (fun c11 => ?_) (fun c11 => ?_)
    · exact absurd c11 (by decide)
    · refine mx_aload_n (pc' := 15) dX4_dropOldest_14 rfl rfl ?_
      refine mx_getr (pc' := 18) dX4_dropOldest_15 fl_X4_11 (rfl) (by rfl) rfl ?_
      refine mx_iload_n (pc' := 19) dX4_dropOldest_18 rfl rfl ?_
      refine mx_iconst (pc' := 20) (v := nI 1) dX4_dropOldest_19 (by decide) rfl ?_
      refine mx_isub (pc' := 21) (v := nI 1) dX4_dropOldest_20 (by decide) rfl ?_
      refine mx_aload_n (pc' := 22) dX4_dropOldest_21 rfl rfl ?_
      refine mx_getr (pc' := 25) dX4_dropOldest_22 fl_X4_11 (rfl) (by rfl) rfl ?_
      refine mx_iload_n (pc' := 26) dX4_dropOldest_25 rfl rfl ?_
      refine mx_aald2 (pc' := 27) (b := P 2) dX4_dropOldest_26 (rfl) (rfl) (by decide) (nI_cl (((by simp [mx_up]) : _ = M 44 2).trans (p3 2 (by decide))) (by omega)) rfl ?_
      refine mx_aast (pc' := 28) dX4_dropOldest_27 (rfl) (rfl) (by decide) ((p1 2 (by decide)).f.s.1) rfl ?_
      refine mx_iinc (pc' := 31) (ls' := [_, _, _]) (v := nI 3) dX4_dropOldest_28 rfl (by decide) (by decide) rfl rfl rfl ?_
      refine mx_goto (pc' := 9) dX4_dropOldest_31 (by decide) ?_
      refine mx_iload_n (pc' := 10) dX4_dropOldest_9 rfl rfl ?_
      refine mx_iconst (pc' := 11) (v := nI 4) dX4_dropOldest_10 (by decide) rfl ?_
      refine mx_icmp_ge (tgt := 34) (pc' := 14) dX4_dropOldest_11 (by decide) rfl (fun c11 => ?_) (fun c11 => ?_)
      · exact absurd c11 (by decide)
      · refine mx_aload_n (pc' := 15) dX4_dropOldest_14 rfl rfl ?_
        refine mx_getr (pc' := 18) dX4_dropOldest_15 fl_X4_11 (rfl) (by rfl) rfl ?_
        refine mx_iload_n (pc' := 19) dX4_dropOldest_18 rfl rfl ?_
        refine mx_iconst (pc' := 20) (v := nI 1) dX4_dropOldest_19 (by decide) rfl ?_
        refine mx_isub (pc' := 21) (v := nI 2) dX4_dropOldest_20 (by decide) rfl ?_
        refine mx_aload_n (pc' := 22) dX4_dropOldest_21 rfl rfl ?_
        refine mx_getr (pc' := 25) dX4_dropOldest_22 fl_X4_11 (rfl) (by rfl) rfl ?_
        refine mx_iload_n (pc' := 26) dX4_dropOldest_25 rfl rfl ?_
        refine mx_aald2 (pc' := 27) (b := P 3) dX4_dropOldest_26 (rfl) (rfl) (by decide) (nI_cl (((by simp [mx_up]) : _ = M 44 3).trans (p3 3 (by decide))) (by omega)) rfl ?_
        refine mx_aast (pc' := 28) dX4_dropOldest_27 (rfl) (rfl) (by decide) ((p1 3 (by decide)).f.s.1) rfl ?_
        refine mx_iinc (pc' := 31) (ls' := [_, _, _]) (v := nI 4) dX4_dropOldest_28 rfl (by decide) (by decide) rfl rfl rfl ?_
        refine mx_goto (pc' := 9) dX4_dropOldest_31 (by decide) ?_
        refine mx_iload_n (pc' := 10) dX4_dropOldest_9 rfl rfl ?_
        refine mx_iconst (pc' := 11) (v := nI 4) dX4_dropOldest_10 (by decide) rfl ?_
        refine mx_icmp_ge (tgt := 34) (pc' := 14) dX4_dropOldest_11 (by decide) rfl (fun c11 => ?_) (fun c11 => ?_)
        · refine mx_aload_n (pc' := 35) dX4_dropOldest_34 rfl rfl ?_
          refine mx_getr (pc' := 38) dX4_dropOldest_35 fl_X4_11 (rfl) (by rfl) rfl ?_
          refine mx_iconst (pc' := 39) (v := nI 3) dX4_dropOldest_38 (by decide) rfl ?_
          refine mx_aload_n (pc' := 40) dX4_dropOldest_39 rfl rfl ?_
          refine mx_aast (pc' := 41) dX4_dropOldest_40 (rfl) (rfl) (by decide) ((p1 0 (by decide)).f.s.1) rfl ?_
          refine mx_aload_n (pc' := 42) dX4_dropOldest_41 rfl rfl ?_
          refine mx_iconst (pc' := 43) (v := nI 3) dX4_dropOldest_42 (by decide) rfl ?_
          refine mx_putf (pc' := 46) dX4_dropOldest_43 fl_X4_17 (rfl) (by rfl) (⟨rfl, rfl⟩) rfl ?_
          refine mx_vret dX4_dropOldest_46 rfl ?_
          refine ⟨rfl, ⟨fun j => if j = 3 then P 0 else P (j + 1), ⟨fun j hj => ?_, fun i j hi hj e => ?_, fun j hj => ?_⟩, by simp [mx_up, h4], by simp; omega, fun j F hF => ?_⟩, fun q hq => ?_⟩
          · by_cases h : j = 3
            · simp [h, p1]
            · simp [h]; exact p1 _ (by omega)
          · dsimp only at e
            by_cases h : i = 3 <;> by_cases h' : j = 3
            · omega
            · rw [if_pos h, if_neg h'] at e
              have := p2 0 (j + 1) (by omega) (by omega) e
              omega
            · rw [if_neg h, if_pos h'] at e
              have := p2 (i + 1) 0 (by omega) (by omega) e
              omega
            · rw [if_neg h, if_neg h'] at e
              have := p2 (i + 1) (j + 1) (by omega) (by omega) e
              omega
          · rcases (show j = 0 ∨ j = 1 ∨ j = 2 ∨ j = 3 by omega) with rfl | rfl | rfl | rfl <;> simp [mx_up]
          · rw [List.getElem?_drop, Nat.add_comm] at hF
            have hl := len_lt hF
            have hj : j < 3 := by omega
            have h2 := h3 (j + 1) F hF
            simp only [show j ≠ 3 by omega, if_false]
            have hB := p1 (j + 1) (by omega)
            refine ⟨h2.1.fr fun q z1 z2 => ?_, h2.2⟩
            unfold HB at hB
            repeat rw [mx_up_ne (by omega)]
          · repeat rw [mx_up_ne (by omega)]
        · exact absurd (by decide) c11

set_option maxHeartbeats 1000000 in
set_option maxRecDepth 10000 in
theorem t_X4_record (M : mx_M) (b : Nat) (hs : FB b) (hb : b < 43) (F : FS) (hF : FiA M b F) (hV : FV F) (H : List FS) (hA : HiA M H) : mx_T yX4_record cX4_record 2 none 4 [.ref 43, .ref b] M (fun v M' => v = none ∧ HiA M' (hPush F H) ∧ Out M M' 43 101) := by
  have hfb : b = 1 ∨ b = 15 ∨ b = 29 := by unfold FB at hs; omega
  have J12 : ∀ (N : mx_M) (K : List FS), K.length < 4 → HiA N K → FiA N b F → hPush F H = K ++ [F] → Out M N 43 101 → mx_V cX4_record RX4 2 none 4 12 [some (.ref 43), some (.ref b)] [] N (fun v M' => v = none ∧ HiA M' (hPush F H) ∧ Out M M' 43 101) := by
    intro N K hK hA hF hPu hO
    obtain ⟨P, ⟨p1, p2, p3⟩, h1, h2, h3⟩ := hA
    have hBP := p1 K.length hK
    have hne : P K.length ≠ b := by unfold HB at hBP; omega
    refine mx_aload_n (pc' := 13) dX4_record_12 rfl rfl ?_
    refine mx_getr (pc' := 16) dX4_record_13 fl_X4_11 (rfl) (by rfl) rfl ?_
    refine mx_aload_n (pc' := 17) dX4_record_16 rfl rfl ?_
    refine mx_getf (pc' := 20) (v := nI K.length) dX4_record_17 fl_X4_17 (rfl) (by rfl) (h1) rfl ?_
    refine mx_aald2 (pc' := 21) (b := P K.length) dX4_record_20 (rfl) (rfl) (by omega) (nI_cl (p3 K.length hK) (by unfold HB at hBP; omega)) rfl ?_
    refine mx_aload_n (pc' := 22) dX4_record_21 rfl rfl ?_
    refine mx_callV (pc' := 25) dX4_record_22 cl_X4_25 (hBP.f.s.1) (t_X3_copyFrom N (P K.length) b hBP.f hs hne F hF hV) rfl (by decide) rfl (Nat.le_of_ble_eq_true rfl) rfl (fun v N22 hv => ?_)
    obtain ⟨rfl, hF2, hO2⟩ := hv
    refine mx_aload_n (pc' := 26) dX4_record_25 rfl rfl ?_
    refine mx_dup (pc' := 27) dX4_record_26 rfl rfl ?_
    refine mx_getf (pc' := 30) (v := nI K.length) dX4_record_27 fl_X4_17 (rfl) (by rfl) (by rw [hO2 43 (by unfold HB at hBP; omega)]; exact h1) rfl ?_
    refine mx_iconst (pc' := 31) (v := nI 1) dX4_record_30 (by decide) rfl ?_
    refine mx_iadd (pc' := 32) (v := nI (K.length + 1)) dX4_record_31 (nI_add _ 1) rfl ?_
    refine mx_putf (pc' := 35) dX4_record_32 fl_X4_17 (rfl) (by rfl) (⟨rfl, rfl⟩) rfl ?_
    refine mx_vret dX4_record_35 rfl ?_
    rw [hPu]
    have hz : ∀ q, q ≠ 43 → mx_up N22 43 1 (nI (K.length + 1)) q = N22 q := fun q z => mx_up_ne z
    refine ⟨rfl, ⟨P, ⟨p1, p2, fun j hj => by rw [hz 44 (by omega), hO2 44 (by unfold HB at hBP; omega)]; exact p3 j hj⟩, by rw [mx_up_eq, List.length_append]; rfl, by rw [List.length_append]; exact hK, fun j G hG => ?_⟩, hO.tr (fun q hq => by rw [hz q (by omega)]; exact hO2 q (by unfold HB at hBP; omega))⟩
    by_cases hj : j < K.length
    · rw [List.getElem?_append_left hj] at hG
      have hB := p1 j (by omega)
      have hn : P j ≠ P K.length := fun e => by have := p2 j K.length (by omega) hK e; omega
      have hap := hB.f.apart hBP.f hn
      refine ⟨(h3 j G hG).1.fr fun q z1 z2 => ?_, (h3 j G hG).2⟩
      rw [hz q (by unfold HB at hB; omega)]
      exact hO2 q (by omega)
    · have hl := len_lt hG
      rw [List.length_append, List.length_singleton] at hl
      obtain rfl : j = K.length := by omega
      rw [List.getElem?_append_right (Nat.le_refl _), Nat.sub_self] at hG
      cases hG
      exact ⟨hF2.fr fun q z1 z2 => hz q (by unfold HB at hBP; omega), hV⟩
  refine mx_T.of1 (own := RX4) (ls := [some (.ref 43), some (.ref b)]) (by decide +kernel) rfl (Nat.le_of_ble_eq_true rfl) rfl rfl ?_
  refine mx_aload_n (pc' := 1) dX4_record_0 rfl rfl ?_
  refine mx_getf (pc' := 4) (v := nI H.length) dX4_record_1 fl_X4_17 (rfl) (by rfl) (hA.choose_spec.2.1) rfl ?_
  refine mx_iconst (pc' := 5) (v := nI 4) dX4_record_4 (by decide) rfl ?_
  refine mx_icmp_lt (tgt := 12) (pc' := 8) dX4_record_5 (by decide) rfl (fun c5 => ?_) (fun c5 => ?_)
  · have h4 := hA.choose_spec.2.2.1
    have c5 := (nI_ltI (by omega) (by omega)).mp c5
    exact J12 M H c5 hA hF (by unfold hPush; rw [if_neg (by omega)]) Out.rf
  · have h4 := hA.choose_spec.2.2.1
    have c5 := Nat.not_lt.mp (fun z => c5 ((nI_ltI (by omega) (by omega)).mpr z))
    obtain ⟨P, hP, h1, h2, h3⟩ := hA
    refine mx_aload_n (pc' := 9) dX4_record_8 rfl rfl ?_
    refine mx_callV (pc' := 12) dX4_record_9 cl_X4_22 (rfl) (t_X4_dropOldest M P hP H (by omega) h3) rfl (by decide) rfl (Nat.le_of_ble_eq_true rfl) rfl (fun v N9 hv => ?_)
    obtain ⟨rfl, hA2, hO⟩ := hv
    exact J12 N9 (H.drop 1) (by rw [List.length_drop]; omega) hA2 (hF.fr fun q z1 z2 => hO q (by omega)) (by unfold hPush; rw [if_pos (by omega)]) (hO.wd (by omega) (by omega))

set_option maxHeartbeats 1000000 in
set_option maxRecDepth 10000 in
theorem t_X4_takeBack (M : mx_M) (F G : FS) (H : List FS) (hA : HiA M (H ++ [G])) : mx_T yX4_takeBack cX4_takeBack 2 none 4 [.ref 43, .ref 1] M (fun v M' => v = none ∧ HiA M' H ∧ FiA M' 1 G ∧ FV G ∧ (∀ q, (q < 1 ∨ (15 ≤ q ∧ q ≠ 43)) → M' q = M q)) := by
  obtain ⟨P, ⟨p1, p2, p3⟩, h1, h2, h3⟩ := hA
  rw [List.length_append, List.length_singleton] at h1 h2
  have hBP := p1 H.length (by omega)
  have hG := h3 H.length G (by rw [List.getElem?_append_right (Nat.le_refl _), Nat.sub_self]; rfl)
  refine mx_T.of1 (own := RX4) (ls := [some (.ref 43), some (.ref 1)]) (by decide +kernel) rfl (Nat.le_of_ble_eq_true rfl) rfl rfl ?_
  refine mx_aload_n (pc' := 1) dX4_takeBack_0 rfl rfl ?_
  refine mx_getf (pc' := 4) (v := nI (H.length + 1)) dX4_takeBack_1 fl_X4_17 (rfl) (by rfl) (h1) rfl ?_
  refine mx_if_le (tgt := 30) (pc' := 7) dX4_takeBack_4 (by decide) rfl (fun c4 => ?_) (fun c4 => ?_)
  · exact absurd c4 (nI_nle (by omega) (by omega))
  · refine mx_aload_n (pc' := 8) dX4_takeBack_7 rfl rfl ?_
    refine mx_dup (pc' := 9) dX4_takeBack_8 rfl rfl ?_
    refine mx_getf (pc' := 12) (v := nI (H.length + 1)) dX4_takeBack_9 fl_X4_17 (rfl) (by rfl) (h1) rfl ?_
    refine mx_iconst (pc' := 13) (v := nI 1) dX4_takeBack_12 (by decide) rfl ?_
    refine mx_isub (pc' := 14) (v := nI H.length) dX4_takeBack_13 (pk_sub (b := 1) (by omega)) rfl ?_
    refine mx_putf (pc' := 17) dX4_takeBack_14 fl_X4_17 (rfl) (by rfl) (⟨rfl, rfl⟩) rfl ?_
    refine mx_aload_n (pc' := 18) dX4_takeBack_17 rfl rfl ?_
    refine mx_aload_n (pc' := 19) dX4_takeBack_18 rfl rfl ?_
    refine mx_getr (pc' := 22) dX4_takeBack_19 fl_X4_11 (rfl) (by rfl) rfl ?_
    refine mx_aload_n (pc' := 23) dX4_takeBack_22 rfl rfl ?_
    refine mx_getf (pc' := 26) (v := nI H.length) dX4_takeBack_23 fl_X4_17 (rfl) (by rfl) (mx_up_eq _ _ _ _) rfl ?_
    refine mx_aald2 (pc' := 27) (b := P H.length) dX4_takeBack_26 (rfl) (rfl) (by omega) (nI_cl (((by simp [mx_up]) : _ = M 44 H.length).trans (p3 H.length (by omega))) (by unfold HB at hBP; omega)) rfl ?_
    refine mx_callV (pc' := 30) dX4_takeBack_27 cl_X4_25 (rfl) (t_X3_copyFrom _ 1 (P H.length) (Or.inl rfl) hBP.f (by unfold HB at hBP; omega) G (hG.1.fr fun q z1 z2 => mx_up_ne (by unfold HB at hBP; omega)) hG.2) rfl (by decide) rfl (Nat.le_of_ble_eq_true rfl) rfl (fun v N27 hv => ?_)
    obtain ⟨rfl, hF2, hO2⟩ := hv
    refine mx_vret dX4_takeBack_30 rfl ?_
    refine ⟨rfl, ⟨P, ⟨p1, p2, fun j hj => by rw [hO2 44 (by omega), mx_up_ne (by omega)]; exact p3 j hj⟩, by rw [hO2 43 (by omega)]; exact mx_up_eq _ _ _ _, by omega, fun j K hK => ?_⟩, hF2, hG.2, fun q hq => by rw [hO2 q (by omega), mx_up_ne (by omega)]⟩
    have hl := len_lt hK
    have hB := p1 j (by omega)
    have := h3 j K (by rw [List.getElem?_append_left hl]; exact hK)
    refine ⟨this.1.fr fun q z1 z2 => ?_, this.2⟩
    unfold HB at hB
    rw [hO2 q (by omega), mx_up_ne (by omega)]

/-! the pad: 101 and its row 102 -/
def PaA (M : mx_M) (L : List Nat) : Prop := M 101 1 = nI L.length ∧ L.length ≤ 60 ∧ (∀ c ∈ L, c < 127) ∧ ∀ (j c : Nat), L[j]? = some c → M 102 j = nI c
theorem PaA.fr {M M' : mx_M} {L : List Nat} (h : PaA M L) (h1 : M' 101 = M 101) (h2 : M' 102 = M 102) : PaA M' L := ⟨by rw [h1]; exact h.1, h.2.1, h.2.2.1, fun j c hc => by rw [h2]; exact h.2.2.2 j c hc⟩
def sgnS (c : Nat) : Bool := decide (c = 108 ∨ c = 115 ∨ c = 114 ∨ c = 98)
/-- the first sign that is no step -/
def badS : List Nat → Nat
  | [] => 0
  | c :: L => if sgnS c then badS L + 1 else 0
theorem badS_le : ∀ L : List Nat, badS L ≤ L.length
  | [] => Nat.le_refl 0
  | c :: L => by
    unfold badS
    split
    · exact Nat.succ_le_succ (badS_le L)
    · exact Nat.zero_le _
def stF (L : List Nat) : Int32 := if badS L < L.length then nI (badS L) else if L.length = 0 then nI 0 else (-4)
set_option maxHeartbeats 1000000 in
set_option maxRecDepth 10000 in
theorem t_X6_isFull (M : mx_M) (L : List Nat) (hA : PaA M L) : mx_T yX6_isFull cX6_isFull 1 (some .boolean) 1 [.ref 101] M (fun v M' => v = some (.int (bI (L.length = 60))) ∧ M' = M) := by
  have h60 := hA.2.1
  refine mx_T.of1 (own := RX6) (ls := [some (.ref 101)]) (by decide +kernel) rfl (Nat.le_of_ble_eq_true rfl) rfl rfl ?_
  refine mx_aload_n (pc' := 1) dX6_isFull_0 rfl rfl ?_
  refine mx_getf (pc' := 4) (v := nI L.length) dX6_isFull_1 fl_X6_15 (rfl) (by rfl) (hA.1) rfl ?_
  refine mx_bipush (pc' := 6) (v := nI 60) dX6_isFull_4 (by decide) rfl ?_
  refine mx_icmp_lt (tgt := 13) (pc' := 9) dX6_isFull_6 (by decide) rfl (fun c6 => ?_) (fun c6 => ?_)
  · refine mx_iconst (pc' := 14) (v := nI 0) dX6_isFull_13 (by decide) rfl ?_
    refine mx_iret dX6_isFull_14 (Or.inr ⟨rfl, by decide⟩) ?_
    first | exact ⟨bI_rt (by (simp (disch := omega) only [Int32.lt_iff_toInt_lt, Int32.le_iff_toInt_le, ← Int32.toInt_inj, ne_eq, nI_t, z_t, m1_t] at * <;> omega)), rfl⟩ | exact ⟨bI_rf (by (simp (disch := omega) only [Int32.lt_iff_toInt_lt, Int32.le_iff_toInt_le, ← Int32.toInt_inj, ne_eq, nI_t, z_t, m1_t] at * <;> omega)), rfl⟩
  · refine mx_iconst (pc' := 10) (v := nI 1) dX6_isFull_9 (by decide) rfl ?_
    refine mx_goto (pc' := 14) dX6_isFull_10 (by decide) ?_
    refine mx_iret dX6_isFull_14 (Or.inr ⟨rfl, by decide⟩) ?_
    first | exact ⟨bI_rt (by (simp (disch := omega) only [Int32.lt_iff_toInt_lt, Int32.le_iff_toInt_le, ← Int32.toInt_inj, ne_eq, nI_t, z_t, m1_t] at * <;> omega)), rfl⟩ | exact ⟨bI_rf (by (simp (disch := omega) only [Int32.lt_iff_toInt_lt, Int32.le_iff_toInt_le, ← Int32.toInt_inj, ne_eq, nI_t, z_t, m1_t] at * <;> omega)), rfl⟩

set_option maxHeartbeats 1000000 in
set_option maxRecDepth 10000 in
theorem t_X6_add (M : mx_M) (L : List Nat) (hA : PaA M L) (hl : L.length < 60) (c : Nat) (hc : c < 127) : mx_T yX6_add cX6_add 2 none 2 [.ref 101, .int (nI c)] M (fun v M' => v = none ∧ PaA M' (L ++ [c]) ∧ Out M M' 101 103) := by
  refine mx_T.of1 (own := RX6) (ls := [some (.ref 101), some (.int (nI c))]) (by decide +kernel) rfl (Nat.le_of_ble_eq_true rfl) rfl rfl ?_
  refine mx_aload_n (pc' := 1) dX6_add_0 rfl rfl ?_
  refine mx_callV (pc' := 4) dX6_add_1 cl_X6_19 (rfl) (t_X6_isFull M L hA) rfl (by decide) rfl (Nat.le_of_ble_eq_true rfl) rfl (fun v N1 hv => ?_)
  obtain ⟨rfl, hv⟩ := hv
  rw [hv]
  refine mx_if_ne (tgt := 27) (pc' := 7) dX6_add_4 (by decide) rfl (fun c4 => ?_) (fun c4 => ?_)
  · exact absurd (bI_n.mp c4) (by omega)
  · refine mx_aload_n (pc' := 8) dX6_add_7 rfl rfl ?_
    refine mx_getr (pc' := 11) dX6_add_8 fl_X6_9 (rfl) (by rfl) rfl ?_
    refine mx_aload_n (pc' := 12) dX6_add_11 rfl rfl ?_
    refine mx_getf (pc' := 15) (v := nI L.length) dX6_add_12 fl_X6_15 (rfl) (by rfl) (hA.1) rfl ?_
    refine mx_iload_n (pc' := 16) dX6_add_15 rfl rfl ?_
    refine mx_iast (pc' := 17) dX6_add_16 (rfl) (rfl) (by omega) rfl ?_
    refine mx_aload_n (pc' := 18) dX6_add_17 rfl rfl ?_
    refine mx_dup (pc' := 19) dX6_add_18 rfl rfl ?_
    refine mx_getf (pc' := 22) (v := nI L.length) dX6_add_19 fl_X6_15 (rfl) (by rfl) (((by simp [mx_up]) : _ = M 101 1).trans hA.1) rfl ?_
    refine mx_iconst (pc' := 23) (v := nI 1) dX6_add_22 (by decide) rfl ?_
    refine mx_iadd (pc' := 24) (v := nI (L.length + 1)) dX6_add_23 (nI_add _ 1) rfl ?_
    refine mx_putf (pc' := 27) dX6_add_24 fl_X6_15 (rfl) (by rfl) (⟨rfl, rfl⟩) rfl ?_
    refine mx_vret dX6_add_27 rfl ?_
    refine ⟨rfl, ⟨by simp [mx_up], by simp; omega, fun x hx => ?_, fun j x hx => ?_⟩, (by repeat (first | exact Out.rf | assumption | refine Out.up ?_ (by omega) (by omega)))⟩
    · rcases List.mem_append.mp hx with hx | hx
      · exact hA.2.2.1 x hx
      · rw [List.mem_singleton.mp hx]; exact hc
    · by_cases hj : j < L.length
      · rw [List.getElem?_append_left hj] at hx
        have := hA.2.2.2 j x hx
        simp [mx_up, show j ≠ L.length by omega, this]
      · have hl2 := len_lt hx
        rw [List.length_append, List.length_singleton] at hl2
        obtain rfl : j = L.length := by omega
        rw [List.getElem?_append_right (Nat.le_refl _), Nat.sub_self] at hx
        cases hx
        simp [mx_up]

set_option maxHeartbeats 1000000 in
set_option maxRecDepth 10000 in
theorem t_X6_isStepSign (M : mx_M) (c : Nat) (hc : c < 127) : mx_T yX6_isStepSign cX6_isStepSign 1 (some .boolean) 1 [.int (nI c)] M (fun v M' => v = some (.int (bI (sgnS c = true))) ∧ M' = M) := by
  refine mx_T.of1 (own := RX6) (ls := [some (.int (nI c))]) (by decide +kernel) rfl (Nat.le_of_ble_eq_true rfl) rfl rfl ?_
  refine mx_iload_n (pc' := 1) dX6_isStepSign_0 rfl rfl ?_
  refine mx_bipush (pc' := 3) (v := nI 108) dX6_isStepSign_1 (by decide) rfl ?_
  refine mx_icmp_eq (tgt := 24) (pc' := 6) dX6_isStepSign_3 (by decide) rfl (fun c3 => ?_) (fun c3 => ?_)
  · have c3 := (nI_eq (by omega) (by omega)).mp c3
    refine mx_iconst (pc' := 25) (v := nI 1) dX6_isStepSign_24 (by decide) rfl ?_
    refine mx_goto (pc' := 29) dX6_isStepSign_25 (by decide) ?_
    refine mx_iret dX6_isStepSign_29 (Or.inr ⟨rfl, by decide⟩) ?_
    first | exact ⟨bI_rt (decide_eq_true (by omega)), rfl⟩ | exact ⟨bI_rf (fun z => by have z := of_decide_eq_true z; omega), rfl⟩
  · have c3 : ¬ _ := fun z => c3 ((nI_eq (by omega) (by omega)).mpr z)
    refine mx_iload_n (pc' := 7) dX6_isStepSign_6 rfl rfl ?_
    refine mx_bipush (pc' := 9) (v := nI 115) dX6_isStepSign_7 (by decide) rfl ?_
    refine mx_icmp_eq (tgt := 24) (pc' := 12) dX6_isStepSign_9 (by decide) rfl (fun c9 => ?_) (fun c9 => ?_)
    · have c9 := (nI_eq (by omega) (by omega)).mp c9
      refine mx_iconst (pc' := 25) (v := nI 1) dX6_isStepSign_24 (by decide) rfl ?_
      refine mx_goto (pc' := 29) dX6_isStepSign_25 (by decide) ?_
      refine mx_iret dX6_isStepSign_29 (Or.inr ⟨rfl, by decide⟩) ?_
      first | exact ⟨bI_rt (decide_eq_true (by omega)), rfl⟩ | exact ⟨bI_rf (fun z => by have z := of_decide_eq_true z; omega), rfl⟩
    · have c9 : ¬ _ := fun z => c9 ((nI_eq (by omega) (by omega)).mpr z)
      refine mx_iload_n (pc' := 13) dX6_isStepSign_12 rfl rfl ?_
      refine mx_bipush (pc' := 15) (v := nI 114) dX6_isStepSign_13 (by decide) rfl ?_
      refine mx_icmp_eq (tgt := 24) (pc' := 18) dX6_isStepSign_15 (by decide) rfl (fun c15 => ?_) (fun c15 => ?_)
      · have c15 := (nI_eq (by omega) (by omega)).mp c15
        refine mx_iconst (pc' := 25) (v := nI 1) dX6_isStepSign_24 (by decide) rfl ?_
        refine mx_goto (pc' := 29) dX6_isStepSign_25 (by decide) ?_
        refine mx_iret dX6_isStepSign_29 (Or.inr ⟨rfl, by decide⟩) ?_
        first | exact ⟨bI_rt (decide_eq_true (by omega)), rfl⟩ | exact ⟨bI_rf (fun z => by have z := of_decide_eq_true z; omega), rfl⟩
      · have c15 : ¬ _ := fun z => c15 ((nI_eq (by omega) (by omega)).mpr z)
        refine mx_iload_n (pc' := 19) dX6_isStepSign_18 rfl rfl ?_
        refine mx_bipush (pc' := 21) (v := nI 98) dX6_isStepSign_19 (by decide) rfl ?_
        refine mx_icmp_ne (tgt := 28) (pc' := 24) dX6_isStepSign_21 (by decide) rfl (fun c21 => ?_) (fun c21 => ?_)
        · have c21 : ¬ _ := fun z => c21 ((nI_eq (by omega) (by omega)).mpr z)
          refine mx_iconst (pc' := 29) (v := nI 0) dX6_isStepSign_28 (by decide) rfl ?_
          refine mx_iret dX6_isStepSign_29 (Or.inr ⟨rfl, by decide⟩) ?_
          first | exact ⟨bI_rt (decide_eq_true (by omega)), rfl⟩ | exact ⟨bI_rf (fun z => by have z := of_decide_eq_true z; omega), rfl⟩
        · have c21 := (nI_eq (by omega) (by omega)).mp c21
          refine mx_iconst (pc' := 25) (v := nI 1) dX6_isStepSign_24 (by decide) rfl ?_
          refine mx_goto (pc' := 29) dX6_isStepSign_25 (by decide) ?_
          refine mx_iret dX6_isStepSign_29 (Or.inr ⟨rfl, by decide⟩) ?_
          first | exact ⟨bI_rt (decide_eq_true (by omega)), rfl⟩ | exact ⟨bI_rf (fun z => by have z := of_decide_eq_true z; omega), rfl⟩

set_option maxHeartbeats 1000000 in
set_option maxRecDepth 10000 in
theorem l_X6_faultInSteps (M : mx_M) (L : List Nat) (hA : PaA M L) : ∀ (k : Nat) (i : Nat), L.length < i + k → i ≤ L.length → badS L = i + badS (L.drop i) → mx_V cX6_faultInSteps RX6 2 (some .int) 2 2 [some (.ref 101), some (.int (nI i))] [] M (fun v M' => v = some (.int (stF L)) ∧ M' = M) := by
  have h60 := hA.2.1
  intro k
  induction k with
  | zero =>
    intro i hk hi hb
    exact absurd hk (by omega)
  | succ k ih =>
    intro i hk hi hb
    refine mx_iload_n (pc' := 3) dX6_faultInSteps_2 rfl rfl ?_
    refine mx_aload_n (pc' := 4) dX6_faultInSteps_3 rfl rfl ?_
    refine mx_getf (pc' := 7) (v := nI L.length) dX6_faultInSteps_4 fl_X6_15 (rfl) (by rfl) (hA.1) rfl ?_
    refine mx_icmp_ge (tgt := 30) (pc' := 10) dX6_faultInSteps_7 (by decide) rfl (fun c7 => ?_) (fun c7 => ?_)
    · have c7 := (nI_leI (by omega) (by omega)).mp c7
      have hb2 : badS L = L.length := by rw [hb, List.drop_eq_nil_of_le c7]; show i + 0 = _; omega
      refine mx_aload_n (pc' := 31) dX6_faultInSteps_30 rfl rfl ?_
      refine mx_getf (pc' := 34) (v := nI L.length) dX6_faultInSteps_31 fl_X6_15 (rfl) (by rfl) (hA.1) rfl ?_
      refine mx_if_ne (tgt := 41) (pc' := 37) dX6_faultInSteps_34 (by decide) rfl (fun c34 => ?_) (fun c34 => ?_)
      · have c34 : ¬ L.length = 0 := fun z => c34 (by rw [z]; rfl)
        refine mx_bipush (pc' := 43) (v := (-4)) dX6_faultInSteps_41 (by decide) rfl ?_
        refine mx_iret dX6_faultInSteps_43 (Or.inl rfl) ?_
        refine ⟨?_, rfl⟩
        unfold stF
        rw [hb2, if_neg (Nat.lt_irrefl _), if_neg c34]
      · have c34 : L.length = 0 := (nI_eq (a := L.length) (b := 0) (by omega) (by omega)).mp c34
        refine mx_iconst (pc' := 38) (v := nI 0) dX6_faultInSteps_37 (by decide) rfl ?_
        refine mx_goto (pc' := 43) dX6_faultInSteps_38 (by decide) ?_
        refine mx_iret dX6_faultInSteps_43 (Or.inl rfl) ?_
        refine ⟨?_, rfl⟩
        unfold stF
        rw [hb2, if_neg (Nat.lt_irrefl _), if_pos c34]
    · have c7 := Nat.not_le.mp (fun z => c7 ((nI_leI (by omega) (by omega)).mpr z))
      obtain ⟨c, hx⟩ := get_lt c7
      refine mx_aload_n (pc' := 11) dX6_faultInSteps_10 rfl rfl ?_
      refine mx_getr (pc' := 14) dX6_faultInSteps_11 fl_X6_9 (rfl) (by rfl) rfl ?_
      refine mx_iload_n (pc' := 15) dX6_faultInSteps_14 rfl rfl ?_
      refine mx_iald (pc' := 16) (v := nI c) dX6_faultInSteps_15 (rfl) (rfl) (by omega) (hA.2.2.2 i c hx) rfl ?_
      refine mx_callS (pc' := 19) dX6_faultInSteps_16 cl_X6_23 (t_X6_isStepSign M c (hA.2.2.1 c (List.mem_of_getElem? hx))) rfl (by decide) rfl (Nat.le_of_ble_eq_true rfl) rfl (fun v N16 hv => ?_)
      obtain ⟨rfl, hv⟩ := hv
      rw [hv]
      refine mx_if_ne (tgt := 24) (pc' := 22) dX6_faultInSteps_19 (by decide) rfl (fun c19 => ?_) (fun c19 => ?_)
      · have c19 := bI_n.mp c19
        refine mx_iinc (pc' := 27) (ls' := [_, _]) (v := nI (i + 1)) dX6_faultInSteps_24 rfl (nI_add i 1) (by decide) rfl rfl rfl ?_
        refine mx_goto (pc' := 2) dX6_faultInSteps_27 (by decide) ?_
        refine ih (i + 1) (by omega) (by omega) ?_
        rw [hb, drop_cons hx]
        have : badS (c :: L.drop (i + 1)) = badS (L.drop (i + 1)) + 1 := if_pos c19
        omega
      · have c19 := bI_0.mp c19
        refine mx_iload_n (pc' := 23) dX6_faultInSteps_22 rfl rfl ?_
        refine mx_iret dX6_faultInSteps_23 (Or.inl rfl) ?_
        have e : badS L = i := by
          rw [hb, drop_cons hx]
          have : badS (c :: L.drop (i + 1)) = 0 := if_neg c19
          omega
        refine ⟨?_, rfl⟩
        unfold stF
        rw [e, if_pos c7]

set_option maxHeartbeats 1000000 in
set_option maxRecDepth 10000 in
theorem t_X6_faultInSteps (M : mx_M) (L : List Nat) (hA : PaA M L) : mx_T yX6_faultInSteps cX6_faultInSteps 2 (some .int) 2 [.ref 101] M (fun v M' => v = some (.int (stF L)) ∧ M' = M) := by
  refine mx_T.of1 (own := RX6) (ls := [some (.ref 101), none]) (by decide +kernel) rfl (Nat.le_of_ble_eq_true rfl) rfl rfl ?_
  refine mx_iconst (pc' := 1) (v := nI 0) dX6_faultInSteps_0 (by decide) rfl ?_
  refine mx_istore_n (pc' := 2) (ls' := [_, _]) dX6_faultInSteps_1 (by decide) (rfl) rfl rfl ?_
  exact l_X6_faultInSteps M L hA (L.length + 1) 0 (by omega) (by omega) (by rw [List.drop_zero, Nat.zero_add])
end
section
/-! the reader: 103, its Emitters 104; a state: what is due, column, pattern, emitters -/
abbrev Cr : Type := Nat × Nat × Nat × List Em
def CrA (M : mx_M) (s : Cr) : Prop := s.1 ≤ 5 ∧ M 103 1 = nI s.1 ∧ ((s.1 = 1 ∨ s.1 = 2) → M 103 2 = nI s.2.1 ∧ s.2.1 < 10) ∧ (s.1 = 2 → M 103 3 = nI s.2.2.1 ∧ s.2.2.1 < 6) ∧ EmA M 104 s.2.2.2 ∧ (s.1 ≤ 2 → s.2.2.2.length < 4) ∧ (3 ≤ s.1 → s.2.2.2 ≠ [])
def patN (c : Nat) : Option Nat := if c = 100 then some 0 else if c = 108 then some 1 else if c = 114 then some 2 else if c = 119 then some 3 else if c = 97 then some 4 else if c = 102 then some 5 else none
def patI (c : Nat) : Int32 := match patN c with
  | some p => nI p
  | none => (-4)
def crS (s : Cr) (c : Nat) : Option Cr :=
  if s.1 = 0 then (if 48 ≤ c ∧ c ≤ 57 then some (1, c - 48, s.2.2.1, s.2.2.2) else none)
  else if s.1 = 1 then (match patN c with | some p => some (2, s.2.1, p, s.2.2.2) | none => none)
  else if s.1 = 2 then (if 49 ≤ c ∧ c ≤ 57 then some (3, s.2.1, s.2.2.1, s.2.2.2 ++ [(s.2.1, s.2.2.1, c - 48, 0)]) else none)
  else if s.1 = 4 then (match s.2.2.2.getLast? with | some e => if 48 ≤ c ∧ c - 48 < e.2.2.1 then some (5, s.2.1, s.2.2.1, s.2.2.2.dropLast ++ [(e.1, e.2.1, e.2.2.1, c - 48)]) else none | none => none)
  else if c = 43 ∧ s.1 = 3 then some (4, s.2.1, s.2.2.1, s.2.2.2)
  else if c = 59 ∧ s.2.2.2.length < 4 then some (0, s.2.1, s.2.2.1, s.2.2.2)
  else none
def crR (s : Cr) : List Nat → Nat × Option Cr
  | [] => (0, some s)
  | c :: L => match crS s c with
    | some t => ((crR t L).1 + 1, (crR t L).2)
    | none => (0, none)
def cr0 : Cr := (0, 0, 0, [])
def crF (L : List Nat) : Int32 := match (crR cr0 L).2 with
  | some s => if s.1 = 3 ∨ s.1 = 5 then (-4) else nI L.length
  | none => nI (crR cr0 L).1
theorem dg_1 : ∀ c, c < 127 → ((0 ≤ nI c - nI 48 ∧ nI c - nI 48 < nI 10) ↔ (48 ≤ c ∧ c ≤ 57)) := by decide +kernel
theorem dg_2 : ∀ c, c < 127 → ((nI 1 ≤ nI c - nI 48 ∧ nI c - nI 48 ≤ nI 9) ↔ (49 ≤ c ∧ c ≤ 57)) := by decide +kernel
theorem dg_3 : ∀ c, c < 127 → (nI c - nI 48 < 0 ↔ c < 48) := by decide +kernel
theorem pat_1 : ∀ c, c < 127 → ((0 ≤ patI c ∧ patI c ≤ nI 5) ↔ (patN c).isSome = true) := by decide +kernel
theorem pat_lt {c p : Nat} (h : patN c = some p) : p < 6 := by
  unfold patN at h
  repeat (split at h; · cases h; decide)
  cases h
theorem lk_1 : ∀ c, c < 127 → Op.lookupswitch.offset [(97, 67), (100, 59), (102, 69), (108, 61), (114, 63), (119, 65)] 71 (nI c).toInt = (if c = 97 then 67 else if c = 100 then 59 else if c = 102 then 69 else if c = 108 then 61 else if c = 114 then 63 else if c = 119 then 65 else 71) := by decide +kernel
set_option maxHeartbeats 1000000 in
set_option maxRecDepth 10000 in
theorem t_X1_patternOf (M : mx_M) (c : Nat) (hc : c < 127) : mx_T yX1_patternOf cX1_patternOf 1 (some .int) 1 [.int (nI c)] M (fun v M' => v = some (.int (patI c)) ∧ M' = M) := by
  refine mx_T.of1 (own := RX1) (ls := [some (.int (nI c))]) (by decide +kernel) rfl (Nat.le_of_ble_eq_true rfl) rfl rfl ?_
  refine mx_iload_n (pc' := 1) dX1_patternOf_0 rfl rfl ?_
  rcases (show c = 97 ∨ c = 100 ∨ c = 102 ∨ c = 108 ∨ c = 114 ∨ c = 119 ∨ (c ≠ 97 ∧ c ≠ 100 ∧ c ≠ 102 ∧ c ≠ 108 ∧ c ≠ 114 ∧ c ≠ 119) by omega) with rfl | rfl | rfl | rfl | rfl | rfl | h7
  · refine mx_lookup (pc' := 68) (off := 67) dX1_patternOf_1 rfl (lk_1 97 (by decide)) (by decide) ?_
    refine mx_iconst (pc' := 69) (v := nI 4) dX1_patternOf_68 (by decide) rfl ?_
    refine mx_iret dX1_patternOf_69 (Or.inl rfl) ?_
    exact ⟨rfl, rfl⟩
  · refine mx_lookup (pc' := 60) (off := 59) dX1_patternOf_1 rfl (lk_1 100 (by decide)) (by decide) ?_
    refine mx_iconst (pc' := 61) (v := nI 0) dX1_patternOf_60 (by decide) rfl ?_
    refine mx_iret dX1_patternOf_61 (Or.inl rfl) ?_
    exact ⟨rfl, rfl⟩
  · refine mx_lookup (pc' := 70) (off := 69) dX1_patternOf_1 rfl (lk_1 102 (by decide)) (by decide) ?_
    refine mx_iconst (pc' := 71) (v := nI 5) dX1_patternOf_70 (by decide) rfl ?_
    refine mx_iret dX1_patternOf_71 (Or.inl rfl) ?_
    exact ⟨rfl, rfl⟩
  · refine mx_lookup (pc' := 62) (off := 61) dX1_patternOf_1 rfl (lk_1 108 (by decide)) (by decide) ?_
    refine mx_iconst (pc' := 63) (v := nI 1) dX1_patternOf_62 (by decide) rfl ?_
    refine mx_iret dX1_patternOf_63 (Or.inl rfl) ?_
    exact ⟨rfl, rfl⟩
  · refine mx_lookup (pc' := 64) (off := 63) dX1_patternOf_1 rfl (lk_1 114 (by decide)) (by decide) ?_
    refine mx_iconst (pc' := 65) (v := nI 2) dX1_patternOf_64 (by decide) rfl ?_
    refine mx_iret dX1_patternOf_65 (Or.inl rfl) ?_
    exact ⟨rfl, rfl⟩
  · refine mx_lookup (pc' := 66) (off := 65) dX1_patternOf_1 rfl (lk_1 119 (by decide)) (by decide) ?_
    refine mx_iconst (pc' := 67) (v := nI 3) dX1_patternOf_66 (by decide) rfl ?_
    refine mx_iret dX1_patternOf_67 (Or.inl rfl) ?_
    exact ⟨rfl, rfl⟩
  · refine mx_lookup (pc' := 72) (off := 71) dX1_patternOf_1 rfl ((lk_1 c hc).trans (by simp [h7])) (by decide) ?_
    refine mx_bipush (pc' := 74) (v := (-4)) dX1_patternOf_72 (by decide) rfl ?_
    refine mx_iret dX1_patternOf_74 (Or.inl rfl) ?_
    exact ⟨by simp [patI, patN, h7], rfl⟩

set_option maxHeartbeats 1000000 in
set_option maxRecDepth 10000 in
theorem t_X1_takesColumn (M : mx_M) (x : Int32) : mx_T yX1_takesColumn cX1_takesColumn 2 (some .boolean) 2 [.ref 103, .int x] M (fun v M' => v = some (.int (bI (0 ≤ x ∧ x < nI 10))) ∧ M' = mx_up (mx_up M 103 2 x) 103 1 (nI 1)) := by
  refine mx_T.of1 (own := RX1) (ls := [some (.ref 103), some (.int x)]) (by decide +kernel) rfl (Nat.le_of_ble_eq_true rfl) rfl rfl ?_
  refine mx_aload_n (pc' := 1) dX1_takesColumn_0 rfl rfl ?_
  refine mx_iload_n (pc' := 2) dX1_takesColumn_1 rfl rfl ?_
  refine mx_putf (pc' := 5) dX1_takesColumn_2 fl_X1_22 (rfl) (by rfl) (⟨rfl, rfl⟩) rfl ?_
  refine mx_aload_n (pc' := 6) dX1_takesColumn_5 rfl rfl ?_
  refine mx_iconst (pc' := 7) (v := nI 1) dX1_takesColumn_6 (by decide) rfl ?_
  refine mx_putf (pc' := 10) dX1_takesColumn_7 fl_X1_18 (rfl) (by rfl) (⟨rfl, rfl⟩) rfl ?_
  refine mx_iload_n (pc' := 11) dX1_takesColumn_10 rfl rfl ?_
  refine mx_callN (pc' := 14) dX1_takesColumn_11 cl_X1_63 (t_X7_isColumn _ x) rfl (by decide) rfl (Nat.le_of_ble_eq_true rfl) rfl (fun v N11 hv => ?_)
  obtain ⟨rfl, hv⟩ := hv
  rw [hv]
  refine mx_iret dX1_takesColumn_14 (Or.inr ⟨rfl, bI_nb _⟩) ?_
  exact ⟨rfl, rfl⟩

set_option maxHeartbeats 1000000 in
set_option maxRecDepth 10000 in
theorem t_X1_takesPattern (M : mx_M) (x : Int32) : mx_T yX1_takesPattern cX1_takesPattern 2 (some .boolean) 2 [.ref 103, .int x] M (fun v M' => v = some (.int (bI (0 ≤ x ∧ x ≤ nI 5))) ∧ M' = mx_up (mx_up M 103 3 x) 103 1 (nI 2)) := by
  refine mx_T.of1 (own := RX1) (ls := [some (.ref 103), some (.int x)]) (by decide +kernel) rfl (Nat.le_of_ble_eq_true rfl) rfl rfl ?_
  refine mx_aload_n (pc' := 1) dX1_takesPattern_0 rfl rfl ?_
  refine mx_iload_n (pc' := 2) dX1_takesPattern_1 rfl rfl ?_
  refine mx_putf (pc' := 5) dX1_takesPattern_2 fl_X1_25 (rfl) (by rfl) (⟨rfl, rfl⟩) rfl ?_
  refine mx_aload_n (pc' := 6) dX1_takesPattern_5 rfl rfl ?_
  refine mx_iconst (pc' := 7) (v := nI 2) dX1_takesPattern_6 (by decide) rfl ?_
  refine mx_putf (pc' := 10) dX1_takesPattern_7 fl_X1_18 (rfl) (by rfl) (⟨rfl, rfl⟩) rfl ?_
  refine mx_iload_n (pc' := 11) dX1_takesPattern_10 rfl rfl ?_
  refine mx_callN (pc' := 14) dX1_takesPattern_11 cl_X1_66 (t_X7_isPattern _ x) rfl (by decide) rfl (Nat.le_of_ble_eq_true rfl) rfl (fun v N11 hv => ?_)
  obtain ⟨rfl, hv⟩ := hv
  rw [hv]
  refine mx_iret dX1_takesPattern_14 (Or.inr ⟨rfl, bI_nb _⟩) ?_
  exact ⟨rfl, rfl⟩

set_option maxHeartbeats 1000000 in
set_option maxRecDepth 10000 in
theorem t_X1_takesPeriod (M : mx_M) (s : Cr) (hA : CrA M s) (h2 : s.1 = 2) (c : Nat) (hc : c < 127) (x : Int32) (hx : x = nI c - nI 48) : mx_T yX1_takesPeriod cX1_takesPeriod 2 (some .boolean) 3 [.ref 103, .int x] M (fun v M' => v = some (.int (bI ((crS s c).isSome = true))) ∧ (∀ s', crS s c = some s' → CrA M' s') ∧ Out M M' 103 109) := by
  obtain ⟨g1, g2, g3, g4, g5, g6, g7⟩ := id hA
  refine mx_T.of1 (own := RX1) (ls := [some (.ref 103), some (.int x)]) (by decide +kernel) rfl (Nat.le_of_ble_eq_true rfl) rfl rfl ?_
  refine mx_iload_n (pc' := 1) dX1_takesPeriod_0 rfl rfl ?_
  refine mx_callN (pc' := 4) dX1_takesPeriod_1 cl_X1_69 (t_X7_isPeriod M x) rfl (by decide) rfl (Nat.le_of_ble_eq_true rfl) rfl (fun v N1 hv => ?_)
  obtain ⟨rfl, hv⟩ := hv
  rw [hv]
  refine mx_if_ne (tgt := 9) (pc' := 7) dX1_takesPeriod_4 (by decide) rfl (fun c4 => ?_) (fun c4 => ?_)
  · have c5 := (dg_2 c hc).mp (hx ▸ bI_n.mp c4)
    obtain rfl : x = nI (c - 48) := hx.trans (pk_sub (by omega))
    have e : crS s c = some (3, s.2.1, s.2.2.1, s.2.2.2 ++ [(s.2.1, s.2.2.1, c - 48, 0)]) := by simp [crS, h2, c5]
    refine mx_aload_n (pc' := 10) dX1_takesPeriod_9 rfl rfl ?_
    refine mx_getr (pc' := 13) dX1_takesPeriod_10 fl_X1_12 (rfl) (by rfl) rfl ?_
    refine mx_aload_n (pc' := 14) dX1_takesPeriod_13 rfl rfl ?_
    refine mx_getf (pc' := 17) (v := nI s.2.1) dX1_takesPeriod_14 fl_X1_22 (rfl) (by rfl) ((g3 (Or.inr h2)).1) rfl ?_
    refine mx_aload_n (pc' := 18) dX1_takesPeriod_17 rfl rfl ?_
    refine mx_getf (pc' := 21) (v := nI s.2.2.1) dX1_takesPeriod_18 fl_X1_25 (rfl) (by rfl) ((g4 h2).1) rfl ?_
    refine mx_iload_n (pc' := 22) dX1_takesPeriod_21 rfl rfl ?_
    refine mx_iconst (pc' := 23) (v := nI 0) dX1_takesPeriod_22 (by decide) rfl ?_
    refine mx_callV (pc' := 26) dX1_takesPeriod_23 cl_X1_72 (EmS104.1) (t_X2_add M 104 EmS104 s.2.2.2 g5 (g6 (by omega)) (s.2.1, s.2.2.1, c - 48, 0) ⟨(g3 (Or.inr h2)).2, (g4 h2).2, by show 1 ≤ c - 48; omega, by show c - 48 ≤ 9; omega, by show 0 < c - 48; omega⟩) rfl (by decide) rfl (Nat.le_of_ble_eq_true rfl) rfl (fun v N23 hv => ?_)
    obtain ⟨rfl, hE, hO⟩ := hv
    refine mx_aload_n (pc' := 27) dX1_takesPeriod_26 rfl rfl ?_
    refine mx_iconst (pc' := 28) (v := nI 3) dX1_takesPeriod_27 (by decide) rfl ?_
    refine mx_putf (pc' := 31) dX1_takesPeriod_28 fl_X1_18 (rfl) (by rfl) (⟨rfl, rfl⟩) rfl ?_
    refine mx_iconst (pc' := 32) (v := nI 1) dX1_takesPeriod_31 (by decide) rfl ?_
    refine mx_iret dX1_takesPeriod_32 (Or.inr ⟨rfl, by decide⟩) ?_
    refine ⟨bI_rt (by rw [e]; rfl), fun t ht => ?_, fun q hq => by rw [mx_up_ne (by omega)]; exact hO q (by omega)⟩
    rw [e] at ht
    cases ht
    exact ⟨Nat.le_of_ble_eq_true rfl, mx_up_eq _ _ _ _, fun z => by dsimp only at z; omega, fun z => by dsimp only at z; omega, hE.fr fun q z1 z2 => mx_up_ne (by omega), fun z => by dsimp only at z; omega, fun _ => by simp⟩
  · have c4 : ¬ (49 ≤ c ∧ c ≤ 57) := fun z => bI_0.mp c4 (hx ▸ (dg_2 c hc).mpr z)
    have e : crS s c = none := by simp [crS, h2, c4]
    refine mx_iconst (pc' := 8) (v := nI 0) dX1_takesPeriod_7 (by decide) rfl ?_
    refine mx_iret dX1_takesPeriod_8 (Or.inr ⟨rfl, by decide⟩) ?_
    exact ⟨bI_rf (by rw [e]; decide), (fun s z => by rw [e] at z; cases z), Out.rf⟩

set_option maxHeartbeats 1000000 in
set_option maxRecDepth 10000 in
theorem t_X1_takesPhase (M : mx_M) (s : Cr) (hA : CrA M s) (h4 : s.1 = 4) (c : Nat) (hc : c < 127) (x : Int32) (hx : x = nI c - nI 48) : mx_T yX1_takesPhase cX1_takesPhase 3 (some .boolean) 1 [.ref 103, .int x] M (fun v M' => v = some (.int (bI ((crS s c).isSome = true))) ∧ (∀ s', crS s c = some s' → CrA M' s') ∧ Out M M' 103 109) := by
  obtain ⟨g1, g2, g3, g4, g5, g6, g7⟩ := id hA
  obtain ⟨E, e, hE⟩ : ∃ E e, s.2.2.2 = E ++ [e] := ⟨_, _, (List.dropLast_concat_getLast (g7 (by omega))).symm⟩
  have hl : E.length + 1 ≤ 4 := by have := g5.2.1.1; rw [hE, List.length_append] at this; exact this
  have hP := g5.2.2
  rw [hE, EmP.app, EmP.cons, Nat.zero_add] at hP
  have hW := hP.2.1
  have hV := g5.2.1.2 e (by rw [hE]; simp)
  have hV9 := hV.2.2.2.1
  refine mx_T.of1 (own := RX1) (ls := [some (.ref 103), some (.int x), none]) (by decide +kernel) rfl (Nat.le_of_ble_eq_true rfl) rfl rfl ?_
  refine mx_aload_n (pc' := 1) dX1_takesPhase_0 rfl rfl ?_
  refine mx_getr (pc' := 4) dX1_takesPhase_1 fl_X1_12 (by first | rfl | exact EmS104.1) (by rfl) rfl ?_
  refine mx_getf (pc' := 7) (v := nI (E.length + 1)) dX1_takesPhase_4 fl_X1_28 (by first | rfl | exact EmS104.1) (by rfl) (g5.1.trans (congrArg nI (by rw [hE, List.length_append]; rfl))) rfl ?_
  refine mx_iconst (pc' := 8) (v := nI 1) dX1_takesPhase_7 (by decide) rfl ?_
  refine mx_isub (pc' := 9) (v := nI E.length) dX1_takesPhase_8 (pk_sub (b := 1) (by omega)) rfl ?_
  refine mx_istore_n (pc' := 10) (ls' := [_, _, _]) dX1_takesPhase_9 (by decide) (rfl) rfl rfl ?_
  refine mx_iload_n (pc' := 11) dX1_takesPhase_10 rfl rfl ?_
  refine mx_if_lt (tgt := 31) (pc' := 14) dX1_takesPhase_11 (by decide) rfl (fun c11 => ?_) (fun c11 => ?_)
  · exact absurd c11 (nI_pos (by omega))
  · refine mx_iload_n (pc' := 15) dX1_takesPhase_14 rfl rfl ?_
    refine mx_if_lt (tgt := 31) (pc' := 18) dX1_takesPhase_15 (by decide) rfl (fun c15 => ?_) (fun c15 => ?_)
    · have c15 : c < 48 := (dg_3 c hc).mp (hx ▸ c15)
      have e1 : crS s c = none := by simp [crS, h4, hE, show ¬ (48 ≤ c) by omega]
      refine mx_iconst (pc' := 32) (v := nI 0) dX1_takesPhase_31 (by decide) rfl ?_
      refine mx_iret dX1_takesPhase_32 (Or.inr ⟨rfl, by decide⟩) ?_
      exact ⟨bI_rf (by rw [e1]; decide), (fun s z => by rw [e1] at z; cases z), Out.rf⟩
    · have c15 : ¬ c < 48 := fun z => c15 (hx ▸ (dg_3 c hc).mpr z)
      obtain rfl : x = nI (c - 48) := hx.trans (pk_sub (by omega))
      refine mx_iload_n (pc' := 19) dX1_takesPhase_18 rfl rfl ?_
      refine mx_aload_n (pc' := 20) dX1_takesPhase_19 rfl rfl ?_
      refine mx_getr (pc' := 23) dX1_takesPhase_20 fl_X1_12 (by first | rfl | exact EmS104.1) (by rfl) rfl ?_
      refine mx_getr (pc' := 26) dX1_takesPhase_23 fl_X1_76 (by first | rfl | exact EmS104.1) (by rfl) rfl ?_
      refine mx_iload_n (pc' := 27) dX1_takesPhase_26 rfl rfl ?_
      refine mx_iald (pc' := 28) (v := nI e.2.2.1) dX1_takesPhase_27 (by first | rfl | exact EmS104.1) (rfl) (by omega) (hW.2.2.1) rfl ?_
      refine mx_icmp_lt (tgt := 33) (pc' := 31) dX1_takesPhase_28 (by decide) rfl (fun c28 => ?_) (fun c28 => ?_)
      · have c28 := (nI_ltI (by omega) (by omega)).mp c28
        have e1 : crS s c = some (5, s.2.1, s.2.2.1, E ++ [(e.1, e.2.1, e.2.2.1, c - 48)]) := by
          simp [crS, h4, hE, show 48 ≤ c by omega, c28]
        refine mx_aload_n (pc' := 34) dX1_takesPhase_33 rfl rfl ?_
        refine mx_getr (pc' := 37) dX1_takesPhase_34 fl_X1_12 (by first | rfl | exact EmS104.1) (by rfl) rfl ?_
        refine mx_getr (pc' := 40) dX1_takesPhase_37 fl_X1_79 (by first | rfl | exact EmS104.1) (by rfl) rfl ?_
        refine mx_iload_n (pc' := 41) dX1_takesPhase_40 rfl rfl ?_
        refine mx_iload_n (pc' := 42) dX1_takesPhase_41 rfl rfl ?_
        refine mx_iast (pc' := 43) dX1_takesPhase_42 (by first | rfl | exact EmS104.1) (rfl) (by omega) rfl ?_
        refine mx_aload_n (pc' := 44) dX1_takesPhase_43 rfl rfl ?_
        refine mx_iconst (pc' := 45) (v := nI 5) dX1_takesPhase_44 (by decide) rfl ?_
        refine mx_putf (pc' := 48) dX1_takesPhase_45 fl_X1_18 (by first | rfl | exact EmS104.1) (by rfl) (⟨rfl, rfl⟩) rfl ?_
        refine mx_iconst (pc' := 49) (v := nI 1) dX1_takesPhase_48 (by decide) rfl ?_
        refine mx_iret dX1_takesPhase_49 (Or.inr ⟨rfl, by decide⟩) ?_
        refine ⟨bI_rt (by rw [e1]; rfl), fun t ht => ?_, Out.up (Out.up Out.rf (by omega) (by omega)) (by omega) (by omega)⟩
        rw [e1] at ht
        cases ht
        refine ⟨Nat.le_of_ble_eq_true rfl, mx_up_eq _ _ _ _, fun z => by dsimp only at z; omega, fun z => by dsimp only at z; omega, ?_, fun z => by dsimp only at z; omega, fun _ => by simp⟩
        refine EmA.fr (M := mx_up M 108 E.length (nI (c - 48))) ⟨?_, ⟨?_, fun y hy => ?_⟩, EmP.snoc (hP.1.fr fun q j z1 z2 z3 z4 => ?_) ?_⟩ fun q z1 z2 => mx_up_ne (by omega)
        · rw [mx_up_ne (by omega), g5.1, hE, List.length_append, List.length_append]; rfl
        · rw [List.length_append, List.length_singleton]; omega
        · rcases List.mem_append.mp hy with hy | hy
          · exact g5.2.1.2 y (by rw [hE]; exact List.mem_append_left _ hy)
          · rw [List.mem_singleton.mp hy]
            exact ⟨hV.1, hV.2.1, hV.2.2.1, hV.2.2.2.1, c28⟩
        · simp [mx_up, show j ≠ E.length by omega]
        · rw [Nat.zero_add]
          exact ⟨by rw [mx_up_ne (by omega)]; exact hW.1, by rw [mx_up_ne (by omega)]; exact hW.2.1, by rw [mx_up_ne (by omega)]; exact hW.2.2.1, mx_up_eq _ _ _ _⟩
      · have c28 := Nat.not_lt.mp (fun z => c28 ((nI_ltI (by omega) (by omega)).mpr z))
        have e1 : crS s c = none := by
          simp [crS, h4, hE, show 48 ≤ c by omega, show ¬ c - 48 < e.2.2.1 by omega]
        refine mx_iconst (pc' := 32) (v := nI 0) dX1_takesPhase_31 (by decide) rfl ?_
        refine mx_iret dX1_takesPhase_32 (Or.inr ⟨rfl, by decide⟩) ?_
        exact ⟨bI_rf (by rw [e1]; decide), (fun s z => by rw [e1] at z; cases z), Out.rf⟩

set_option maxHeartbeats 1000000 in
set_option maxRecDepth 10000 in
theorem t_X1_takesMark (M : mx_M) (s : Cr) (hA : CrA M s) (h3 : s.1 = 3 ∨ s.1 = 5) (c : Nat) (hc : c < 127) : mx_T yX1_takesMark cX1_takesMark 2 (some .boolean) 2 [.ref 103, .int (nI c)] M (fun v M' => v = some (.int (bI ((crS s c).isSome = true))) ∧ (∀ s', crS s c = some s' → CrA M' s') ∧ Out M M' 103 109) := by
  obtain ⟨g1, g2, g3, g4, g5, g6, g7⟩ := id hA
  refine mx_T.of1 (own := RX1) (ls := [some (.ref 103), some (.int (nI c))]) (by decide +kernel) rfl (Nat.le_of_ble_eq_true rfl) rfl rfl ?_
  refine mx_iload_n (pc' := 1) dX1_takesMark_0 rfl rfl ?_
  refine mx_bipush (pc' := 3) (v := nI 43) dX1_takesMark_1 (by decide) rfl ?_
  refine mx_icmp_ne (tgt := 21) (pc' := 6) dX1_takesMark_3 (by decide) rfl (fun c3 => ?_) (fun c3 => ?_)
  · have c3 : ¬ _ := fun z => c3 ((nI_eq (by omega) (by omega)).mpr z)
    refine mx_iload_n (pc' := 22) dX1_takesMark_21 rfl rfl ?_
    refine mx_bipush (pc' := 24) (v := nI 59) dX1_takesMark_22 (by decide) rfl ?_
    refine mx_icmp_ne (tgt := 44) (pc' := 27) dX1_takesMark_24 (by decide) rfl (fun c24 => ?_) (fun c24 => ?_)
    · have c24 : ¬ _ := fun z => c24 ((nI_eq (by omega) (by omega)).mpr z)
      refine mx_iconst (pc' := 45) (v := nI 0) dX1_takesMark_44 (by decide) rfl ?_
      refine mx_iret dX1_takesMark_45 (Or.inr ⟨rfl, by decide⟩) ?_
      have e1 : crS s c = none := by
        unfold crS
        rw [if_neg (by omega), if_neg (by omega), if_neg (by omega), if_neg (by omega), if_neg (by omega), if_neg (by omega)]
      exact ⟨bI_rf (by rw [e1]; decide), (fun s z => by rw [e1] at z; cases z), Out.rf⟩
    · have c24 := (nI_eq (by omega) (by omega)).mp c24
      refine mx_aload_n (pc' := 28) dX1_takesMark_27 rfl rfl ?_
      refine mx_getr (pc' := 31) dX1_takesMark_28 fl_X1_12 (rfl) (by rfl) rfl ?_
      refine mx_callV (pc' := 34) dX1_takesMark_31 cl_X1_82 (EmS104.1) (t_X2_isFull M 104 s.2.2.2.length EmS104 g5.1 g5.2.1.1) rfl (by decide) rfl (Nat.le_of_ble_eq_true rfl) rfl (fun v N31 hv => ?_)
      obtain ⟨rfl, hv⟩ := hv
      rw [hv]
      refine mx_if_ne (tgt := 44) (pc' := 37) dX1_takesMark_34 (by decide) rfl (fun c34 => ?_) (fun c34 => ?_)
      · have c34 := bI_n.mp c34
        refine mx_iconst (pc' := 45) (v := nI 0) dX1_takesMark_44 (by decide) rfl ?_
        refine mx_iret dX1_takesMark_45 (Or.inr ⟨rfl, by decide⟩) ?_
        have e1 : crS s c = none := by
          unfold crS
          rw [if_neg (by omega), if_neg (by omega), if_neg (by omega), if_neg (by omega), if_neg (by omega), if_neg (by omega)]
        exact ⟨bI_rf (by rw [e1]; decide), (fun s z => by rw [e1] at z; cases z), Out.rf⟩
      · have c34 := bI_0.mp c34
        have h4 := g5.2.1.1
        refine mx_aload_n (pc' := 38) dX1_takesMark_37 rfl rfl ?_
        refine mx_iconst (pc' := 39) (v := nI 0) dX1_takesMark_38 (by decide) rfl ?_
        refine mx_putf (pc' := 42) dX1_takesMark_39 fl_X1_18 (rfl) (by rfl) (⟨rfl, rfl⟩) rfl ?_
        refine mx_iconst (pc' := 43) (v := nI 1) dX1_takesMark_42 (by decide) rfl ?_
        refine mx_iret dX1_takesMark_43 (Or.inr ⟨rfl, by decide⟩) ?_
        have e1 : crS s c = some (0, s.2.1, s.2.2.1, s.2.2.2) := by
          rcases h3 with h3 | h3 <;> simp [crS, c24, h3, show s.2.2.2.length < 4 by omega]
        refine ⟨bI_rt (by rw [e1]; rfl), fun t ht => ?_, Out.up Out.rf (by omega) (by omega)⟩
        rw [e1] at ht
        cases ht
        exact ⟨Nat.le_of_ble_eq_true rfl, mx_up_eq _ _ _ _, fun z => by dsimp only at z; omega, fun z => by dsimp only at z; omega, g5.fr fun q z1 z2 => mx_up_ne (by omega), fun _ => by show s.2.2.2.length < 4; omega, fun z => by dsimp only at z; omega⟩
  · have c3 := (nI_eq (by omega) (by omega)).mp c3
    refine mx_aload_n (pc' := 7) dX1_takesMark_6 rfl rfl ?_
    refine mx_getf (pc' := 10) (v := nI s.1) dX1_takesMark_7 fl_X1_18 (rfl) (by rfl) (g2) rfl ?_
    refine mx_iconst (pc' := 11) (v := nI 3) dX1_takesMark_10 (by decide) rfl ?_
    refine mx_icmp_ne (tgt := 21) (pc' := 14) dX1_takesMark_11 (by decide) rfl (fun c11 => ?_) (fun c11 => ?_)
    · have c11 : ¬ _ := fun z => c11 ((nI_eq (by omega) (by omega)).mpr z)
      refine mx_iload_n (pc' := 22) dX1_takesMark_21 rfl rfl ?_
      refine mx_bipush (pc' := 24) (v := nI 59) dX1_takesMark_22 (by decide) rfl ?_
      refine mx_icmp_ne (tgt := 44) (pc' := 27) dX1_takesMark_24 (by decide) rfl (fun c24 => ?_) (fun c24 => ?_)
      · have c24 : ¬ _ := fun z => c24 ((nI_eq (by omega) (by omega)).mpr z)
        refine mx_iconst (pc' := 45) (v := nI 0) dX1_takesMark_44 (by decide) rfl ?_
        refine mx_iret dX1_takesMark_45 (Or.inr ⟨rfl, by decide⟩) ?_
        have e1 : crS s c = none := by
          unfold crS
          rw [if_neg (by omega), if_neg (by omega), if_neg (by omega), if_neg (by omega), if_neg (by omega), if_neg (by omega)]
        exact ⟨bI_rf (by rw [e1]; decide), (fun s z => by rw [e1] at z; cases z), Out.rf⟩
      · have c24 := (nI_eq (by omega) (by omega)).mp c24
        refine mx_aload_n (pc' := 28) dX1_takesMark_27 rfl rfl ?_
        refine mx_getr (pc' := 31) dX1_takesMark_28 fl_X1_12 (rfl) (by rfl) rfl ?_
        refine mx_callV (pc' := 34) dX1_takesMark_31 cl_X1_82 (EmS104.1) (t_X2_isFull M 104 s.2.2.2.length EmS104 g5.1 g5.2.1.1) rfl (by decide) rfl (Nat.le_of_ble_eq_true rfl) rfl (fun v N31 hv => ?_)
        obtain ⟨rfl, hv⟩ := hv
        rw [hv]
        refine mx_if_ne (tgt := 44) (pc' := 37) dX1_takesMark_34 (by decide) rfl (fun c34 => ?_) (fun c34 => ?_)
        · have c34 := bI_n.mp c34
          refine mx_iconst (pc' := 45) (v := nI 0) dX1_takesMark_44 (by decide) rfl ?_
          refine mx_iret dX1_takesMark_45 (Or.inr ⟨rfl, by decide⟩) ?_
          have e1 : crS s c = none := by
            unfold crS
            rw [if_neg (by omega), if_neg (by omega), if_neg (by omega), if_neg (by omega), if_neg (by omega), if_neg (by omega)]
          exact ⟨bI_rf (by rw [e1]; decide), (fun s z => by rw [e1] at z; cases z), Out.rf⟩
        · have c34 := bI_0.mp c34
          have h4 := g5.2.1.1
          refine mx_aload_n (pc' := 38) dX1_takesMark_37 rfl rfl ?_
          refine mx_iconst (pc' := 39) (v := nI 0) dX1_takesMark_38 (by decide) rfl ?_
          refine mx_putf (pc' := 42) dX1_takesMark_39 fl_X1_18 (rfl) (by rfl) (⟨rfl, rfl⟩) rfl ?_
          refine mx_iconst (pc' := 43) (v := nI 1) dX1_takesMark_42 (by decide) rfl ?_
          refine mx_iret dX1_takesMark_43 (Or.inr ⟨rfl, by decide⟩) ?_
          have e1 : crS s c = some (0, s.2.1, s.2.2.1, s.2.2.2) := by
            rcases h3 with h3 | h3 <;> simp [crS, c24, h3, show s.2.2.2.length < 4 by omega]
          refine ⟨bI_rt (by rw [e1]; rfl), fun t ht => ?_, Out.up Out.rf (by omega) (by omega)⟩
          rw [e1] at ht
          cases ht
          exact ⟨Nat.le_of_ble_eq_true rfl, mx_up_eq _ _ _ _, fun z => by dsimp only at z; omega, fun z => by dsimp only at z; omega, g5.fr fun q z1 z2 => mx_up_ne (by omega), fun _ => by show s.2.2.2.length < 4; omega, fun z => by dsimp only at z; omega⟩
    · have c11 := (nI_eq (by omega) (by omega)).mp c11
      refine mx_aload_n (pc' := 15) dX1_takesMark_14 rfl rfl ?_
      refine mx_iconst (pc' := 16) (v := nI 4) dX1_takesMark_15 (by decide) rfl ?_
      refine mx_putf (pc' := 19) dX1_takesMark_16 fl_X1_18 (rfl) (by rfl) (⟨rfl, rfl⟩) rfl ?_
      refine mx_iconst (pc' := 20) (v := nI 1) dX1_takesMark_19 (by decide) rfl ?_
      refine mx_iret dX1_takesMark_20 (Or.inr ⟨rfl, by decide⟩) ?_
      have e1 : crS s c = some (4, s.2.1, s.2.2.1, s.2.2.2) := by simp [crS, c3, c11]
      refine ⟨bI_rt (by rw [e1]; rfl), fun t ht => ?_, Out.up Out.rf (by omega) (by omega)⟩
      rw [e1] at ht
      cases ht
      exact ⟨Nat.le_of_ble_eq_true rfl, mx_up_eq _ _ _ _, fun z => by dsimp only at z; omega, fun z => by dsimp only at z; omega, g5.fr fun q z1 z2 => mx_up_ne (by omega), fun z => by dsimp only at z; omega, fun _ => g7 (by omega)⟩

set_option maxHeartbeats 1000000 in
set_option maxRecDepth 10000 in
theorem t_X1_takes (M : mx_M) (s : Cr) (hA : CrA M s) (c : Nat) (hc : c < 127) : mx_T yX1_takes cX1_takes 2 (some .boolean) 4 [.ref 103, .int (nI c)] M (fun v M' => v = some (.int (bI ((crS s c).isSome = true))) ∧ (∀ s', crS s c = some s' → CrA M' s') ∧ Out M M' 103 109) := by
  obtain ⟨g1, g2, g3, g4, g5, g6, g7⟩ := id hA
  refine mx_T.of1 (own := RX1) (ls := [some (.ref 103), some (.int (nI c))]) (by decide +kernel) rfl (Nat.le_of_ble_eq_true rfl) rfl rfl ?_
  refine mx_aload_n (pc' := 1) dX1_takes_0 rfl rfl ?_
  refine mx_getf (pc' := 4) (v := nI s.1) dX1_takes_1 fl_X1_18 (rfl) (by rfl) (g2) rfl ?_
  rcases (show s.1 = 0 ∨ s.1 = 1 ∨ s.1 = 2 ∨ s.1 = 3 ∨ s.1 = 4 ∨ s.1 = 5 by omega) with h | h | h | h | h | h <;> rw [h]
  · refine mx_tableIn (pc' := 40) dX1_takes_4 (by decide) (by decide) (by rfl) (by decide) ?_
    refine mx_aload_n (pc' := 41) dX1_takes_40 rfl rfl ?_
    refine mx_iload_n (pc' := 42) dX1_takes_41 rfl rfl ?_
    refine mx_bipush (pc' := 44) (v := nI 48) dX1_takes_42 (by decide) rfl ?_
    refine mx_isub (pc' := 45) dX1_takes_44 (rfl) rfl ?_
    refine mx_callV (pc' := 48) dX1_takes_45 cl_X1_44 (rfl) (t_X1_takesColumn M _) rfl (by decide) rfl (Nat.le_of_ble_eq_true rfl) rfl (fun v N45 hv => ?_)
    obtain ⟨rfl, hv⟩ := hv
    rw [hv]
    refine mx_iret dX1_takes_48 (Or.inr ⟨rfl, bI_nb _⟩) ?_
    refine ⟨by rw [bI_c (Q := (crS s c).isSome = true)]; rw [dg_1 c hc]; by_cases z : 48 ≤ c ∧ c ≤ 57 <;> simp [crS, h, z], fun t ht => ?_, Out.up (Out.up Out.rf (by omega) (by omega)) (by omega) (by omega)⟩
    by_cases z : 48 ≤ c ∧ c ≤ 57
    · rw [show crS s c = some (1, c - 48, s.2.2.1, s.2.2.2) by simp [crS, h, z]] at ht
      cases ht
      exact ⟨Nat.le_of_ble_eq_true rfl, mx_up_eq _ _ _ _, fun _ => ⟨by rw [show mx_up (mx_up M 103 2 (nI c - nI 48)) 103 1 (nI 1) 103 2 = nI c - nI 48 by simp [mx_up]]; exact pk_sub z.1, by show c - 48 < 10; omega⟩, fun z => by dsimp only at z; omega, g5.fr fun q z1 z2 => by rw [mx_up_ne (by omega), mx_up_ne (by omega)], fun _ => g6 (by omega), fun z => by dsimp only at z; omega⟩
    · rw [show crS s c = none by simp [crS, h, z]] at ht
      cases ht
  · refine mx_tableIn (pc' := 49) dX1_takes_4 (by decide) (by decide) (by rfl) (by decide) ?_
    refine mx_aload_n (pc' := 50) dX1_takes_49 rfl rfl ?_
    refine mx_iload_n (pc' := 51) dX1_takes_50 rfl rfl ?_
    refine mx_callS (pc' := 54) dX1_takes_51 cl_X1_47 (t_X1_patternOf M c hc) rfl (by decide) rfl (Nat.le_of_ble_eq_true rfl) rfl (fun v N51 hv => ?_)
    obtain ⟨rfl, hv⟩ := hv
    rw [hv]
    refine mx_callV (pc' := 57) dX1_takes_54 cl_X1_51 (rfl) (t_X1_takesPattern M _) rfl (by decide) rfl (Nat.le_of_ble_eq_true rfl) rfl (fun v N54 hv => ?_)
    obtain ⟨rfl, hv⟩ := hv
    rw [hv]
    refine mx_iret dX1_takes_57 (Or.inr ⟨rfl, bI_nb _⟩) ?_
    refine ⟨by rw [bI_c (Q := (crS s c).isSome = true)]; rw [pat_1 c hc]; cases hz : patN c <;> simp [crS, h, hz], fun t ht => ?_, Out.up (Out.up Out.rf (by omega) (by omega)) (by omega) (by omega)⟩
    cases hz : patN c with
    | none =>
      rw [show crS s c = none by simp [crS, h, hz]] at ht
      cases ht
    | some pt =>
      rw [show crS s c = some (2, s.2.1, pt, s.2.2.2) by simp [crS, h, hz]] at ht
      cases ht
      have hg := g3 (Or.inl h)
      exact ⟨Nat.le_of_ble_eq_true rfl, mx_up_eq _ _ _ _, fun _ => ⟨by rw [show mx_up (mx_up M 103 3 (patI c)) 103 1 (nI 2) 103 2 = M 103 2 by simp [mx_up]]; exact hg.1, hg.2⟩, fun _ => ⟨by rw [show mx_up (mx_up M 103 3 (patI c)) 103 1 (nI 2) 103 3 = patI c by simp [mx_up]]; simp [patI, hz], pat_lt hz⟩, g5.fr fun q z1 z2 => by rw [mx_up_ne (by omega), mx_up_ne (by omega)], fun _ => g6 (by omega), fun z => by dsimp only at z; omega⟩
  · refine mx_tableIn (pc' := 58) dX1_takes_4 (by decide) (by decide) (by rfl) (by decide) ?_
    refine mx_aload_n (pc' := 59) dX1_takes_58 rfl rfl ?_
    refine mx_iload_n (pc' := 60) dX1_takes_59 rfl rfl ?_
    refine mx_bipush (pc' := 62) (v := nI 48) dX1_takes_60 (by decide) rfl ?_
    refine mx_isub (pc' := 63) dX1_takes_62 (rfl) rfl ?_
    refine mx_callV (pc' := 66) dX1_takes_63 cl_X1_54 (rfl) (t_X1_takesPeriod M s hA h c hc _ rfl) rfl (by decide) rfl (Nat.le_of_ble_eq_true rfl) rfl (fun v N63 hv => ?_)
    obtain ⟨rfl, hv⟩ := hv
    refine mx_iret dX1_takes_66 (Or.inr ⟨rfl, bI_nb _⟩) ?_
    exact ⟨rfl, hv⟩
  · refine mx_tableIn (pc' := 76) dX1_takes_4 (by decide) (by decide) (by rfl) (by decide) ?_
    refine mx_aload_n (pc' := 77) dX1_takes_76 rfl rfl ?_
    refine mx_iload_n (pc' := 78) dX1_takes_77 rfl rfl ?_
    refine mx_callV (pc' := 81) dX1_takes_78 cl_X1_60 (rfl) (t_X1_takesMark M s hA (by omega) c hc) rfl (by decide) rfl (Nat.le_of_ble_eq_true rfl) rfl (fun v N78 hv => ?_)
    obtain ⟨rfl, hv⟩ := hv
    refine mx_iret dX1_takes_81 (Or.inr ⟨rfl, bI_nb _⟩) ?_
    exact ⟨rfl, hv⟩
  · refine mx_tableIn (pc' := 67) dX1_takes_4 (by decide) (by decide) (by rfl) (by decide) ?_
    refine mx_aload_n (pc' := 68) dX1_takes_67 rfl rfl ?_
    refine mx_iload_n (pc' := 69) dX1_takes_68 rfl rfl ?_
    refine mx_bipush (pc' := 71) (v := nI 48) dX1_takes_69 (by decide) rfl ?_
    refine mx_isub (pc' := 72) dX1_takes_71 (rfl) rfl ?_
    refine mx_callV (pc' := 75) dX1_takes_72 cl_X1_57 (rfl) (t_X1_takesPhase M s hA h c hc _ rfl) rfl (by decide) rfl (Nat.le_of_ble_eq_true rfl) rfl (fun v N72 hv => ?_)
    obtain ⟨rfl, hv⟩ := hv
    refine mx_iret dX1_takes_75 (Or.inr ⟨rfl, bI_nb _⟩) ?_
    exact ⟨rfl, hv⟩
  · refine mx_tableOut (pc' := 76) dX1_takes_4 (Or.inr (by decide)) (by decide) ?_
    refine mx_aload_n (pc' := 77) dX1_takes_76 rfl rfl ?_
    refine mx_iload_n (pc' := 78) dX1_takes_77 rfl rfl ?_
    refine mx_callV (pc' := 81) dX1_takes_78 cl_X1_60 (rfl) (t_X1_takesMark M s hA (by omega) c hc) rfl (by decide) rfl (Nat.le_of_ble_eq_true rfl) rfl (fun v N78 hv => ?_)
    obtain ⟨rfl, hv⟩ := hv
    refine mx_iret dX1_takes_81 (Or.inr ⟨rfl, bI_nb _⟩) ?_
    exact ⟨rfl, hv⟩

set_option maxHeartbeats 1000000 in
set_option maxRecDepth 10000 in
theorem l_X1_faultIn (M : mx_M) (L : List Nat) (hA : PaA M L) : ∀ (k : Nat) (i : Nat) (M1 : mx_M) (s : Cr), L.length < i + k → i ≤ L.length → CrA M1 s → Out M M1 103 109 → (crR cr0 L).1 = i + (crR s (L.drop i)).1 → (crR cr0 L).2 = (crR s (L.drop i)).2 → mx_V cX1_faultIn RX1 3 (some .int) 5 15 [some (.ref 103), some (.ref 101), some (.int (nI i))] [] M1 (fun v M' => v = some (.int (crF L)) ∧ (∀ s, (crR cr0 L).2 = some s → EmA M' 104 s.2.2.2) ∧ Out M M' 103 109) := by
  have h60 := hA.2.1
  intro k
  induction k with
  | zero =>
    intro i M1 s hk hi hC hO hr1 hr2
    exact absurd hk (by omega)
  | succ k ih =>
    intro i M1 s hk hi hC hO hr1 hr2
    have hs5 := hC.1
    refine mx_iload_n (pc' := 16) dX1_faultIn_15 rfl rfl ?_
    refine mx_aload_n (pc' := 17) dX1_faultIn_16 rfl rfl ?_
    refine mx_getf (pc' := 20) (v := nI L.length) dX1_faultIn_17 fl_X1_31 (rfl) (by rfl) (by rw [hO 101 (by omega)]; exact hA.1) rfl ?_
    refine mx_icmp_ge (tgt := 44) (pc' := 23) dX1_faultIn_20 (by decide) rfl (fun c20 => ?_) (fun c20 => ?_)
    · have c20 := (nI_leI (by omega) (by omega)).mp c20
      rw [List.drop_eq_nil_of_le c20] at hr1 hr2
      refine mx_aload_n (pc' := 45) dX1_faultIn_44 rfl rfl ?_
      refine mx_getf (pc' := 48) (v := nI s.1) dX1_faultIn_45 fl_X1_18 (rfl) (by rfl) (hC.2.1) rfl ?_
      refine mx_iconst (pc' := 49) (v := nI 3) dX1_faultIn_48 (by decide) rfl ?_
      refine mx_icmp_eq (tgt := 60) (pc' := 52) dX1_faultIn_49 (by decide) rfl (fun c49 => ?_) (fun c49 => ?_)
      · have c49 := (nI_eq (by omega) (by omega)).mp c49
        refine mx_bipush (pc' := 62) (v := (-4)) dX1_faultIn_60 (by decide) rfl ?_
        refine mx_goto (pc' := 69) dX1_faultIn_62 (by decide) ?_
        refine mx_iret dX1_faultIn_69 (Or.inl rfl) ?_
        have e : (crR s []).2 = some s := rfl
        refine ⟨?_, (fun t z => by rw [hr2, e] at z; cases z; exact hC.2.2.2.2.1), hO⟩
        unfold crF
        rw [hr2, e]
        dsimp only
        rw [if_pos (by omega)]
      · have c49 : ¬ _ := fun z => c49 ((nI_eq (by omega) (by omega)).mpr z)
        refine mx_aload_n (pc' := 53) dX1_faultIn_52 rfl rfl ?_
        refine mx_getf (pc' := 56) (v := nI s.1) dX1_faultIn_53 fl_X1_18 (rfl) (by rfl) (hC.2.1) rfl ?_
        refine mx_iconst (pc' := 57) (v := nI 5) dX1_faultIn_56 (by decide) rfl ?_
        refine mx_icmp_ne (tgt := 65) (pc' := 60) dX1_faultIn_57 (by decide) rfl (fun c57 => ?_) (fun c57 => ?_)
        · have c57 : ¬ _ := fun z => c57 ((nI_eq (by omega) (by omega)).mpr z)
          refine mx_aload_n (pc' := 66) dX1_faultIn_65 rfl rfl ?_
          refine mx_getf (pc' := 69) (v := nI L.length) dX1_faultIn_66 fl_X1_31 (rfl) (by rfl) (by rw [hO 101 (by omega)]; exact hA.1) rfl ?_
          refine mx_iret dX1_faultIn_69 (Or.inl rfl) ?_
          have e : (crR s []).2 = some s := rfl
          refine ⟨?_, (fun t z => by rw [hr2, e] at z; cases z; exact hC.2.2.2.2.1), hO⟩
          unfold crF
          rw [hr2, e]
          dsimp only
          rw [if_neg (by omega)]
        · have c57 := (nI_eq (by omega) (by omega)).mp c57
          refine mx_bipush (pc' := 62) (v := (-4)) dX1_faultIn_60 (by decide) rfl ?_
          refine mx_goto (pc' := 69) dX1_faultIn_62 (by decide) ?_
          refine mx_iret dX1_faultIn_69 (Or.inl rfl) ?_
          have e : (crR s []).2 = some s := rfl
          refine ⟨?_, (fun t z => by rw [hr2, e] at z; cases z; exact hC.2.2.2.2.1), hO⟩
          unfold crF
          rw [hr2, e]
          dsimp only
          rw [if_pos (by omega)]
    · have c20 := Nat.not_le.mp (fun z => c20 ((nI_leI (by omega) (by omega)).mpr z))
      obtain ⟨c, hx⟩ := get_lt c20
      have hc := hA.2.2.1 c (List.mem_of_getElem? hx)
      rw [drop_cons hx] at hr1 hr2
      refine mx_aload_n (pc' := 24) dX1_faultIn_23 rfl rfl ?_
      refine mx_aload_n (pc' := 25) dX1_faultIn_24 rfl rfl ?_
      refine mx_getr (pc' := 28) dX1_faultIn_25 fl_X1_36 (rfl) (by rfl) rfl ?_
      refine mx_iload_n (pc' := 29) dX1_faultIn_28 rfl rfl ?_
      refine mx_iald (pc' := 30) (v := nI c) dX1_faultIn_29 (rfl) (rfl) (by omega) (by rw [hO 102 (by omega)]; exact hA.2.2.2 i c hx) rfl ?_
      refine mx_callV (pc' := 33) dX1_faultIn_30 cl_X1_40 (rfl) (t_X1_takes M1 s hC c hc) rfl (by decide) rfl (Nat.le_of_ble_eq_true rfl) rfl (fun v N30 hv => ?_)
      obtain ⟨rfl, hv, hO2⟩ := hv
      refine mx_if_ne (tgt := 38) (pc' := 36) dX1_faultIn_33 (by decide) rfl (fun c33 => ?_) (fun c33 => ?_)
      · have c33 := bI_n.mp c33
        obtain ⟨t, ht⟩ := Option.isSome_iff_exists.mp c33
        have er : crR s (c :: L.drop (i + 1)) = ((crR t (L.drop (i + 1))).1 + 1, (crR t (L.drop (i + 1))).2) := by simp [crR, ht]
        rw [er] at hr1 hr2
        refine mx_iinc (pc' := 41) (ls' := [_, _, _]) (v := nI (i + 1)) dX1_faultIn_38 rfl (nI_add i 1) (by decide) rfl rfl rfl ?_
        refine mx_goto (pc' := 15) dX1_faultIn_41 (by decide) ?_
        exact ih (i + 1) N30 t (by omega) (by omega) (hv t ht) (hO.tr hO2) (by omega) hr2
      · have c33 := bI_0.mp c33
        have e : crS s c = none := by
          cases hz : crS s c with
          | none => rfl
          | some t => rw [hz] at c33; exact absurd rfl c33
        have er : crR s (c :: L.drop (i + 1)) = (0, none) := by simp [crR, e]
        rw [er] at hr1 hr2
        refine mx_iload_n (pc' := 37) dX1_faultIn_36 rfl rfl ?_
        refine mx_iret dX1_faultIn_37 (Or.inl rfl) ?_
        refine ⟨?_, (fun s z => by rw [hr2] at z; cases z), hO.tr hO2⟩
        unfold crF
        rw [hr2]
        dsimp only
        rw [hr1]; rfl

set_option maxHeartbeats 1000000 in
set_option maxRecDepth 10000 in
theorem t_X1_faultIn (M : mx_M) (L : List Nat) (hA : PaA M L) : mx_T yX1_faultIn cX1_faultIn 3 (some .int) 5 [.ref 103, .ref 101] M (fun v M' => v = some (.int (crF L)) ∧ (∀ s, (crR cr0 L).2 = some s → EmA M' 104 s.2.2.2) ∧ Out M M' 103 109) := by
  refine mx_T.of1 (own := RX1) (ls := [some (.ref 103), some (.ref 101), none]) (by decide +kernel) rfl (Nat.le_of_ble_eq_true rfl) rfl rfl ?_
  refine mx_aload_n (pc' := 1) dX1_faultIn_0 rfl rfl ?_
  refine mx_getr (pc' := 4) dX1_faultIn_1 fl_X1_12 (by first | rfl | exact EmS104.1) (by rfl) rfl ?_
  refine mx_iconst (pc' := 5) (v := nI 0) dX1_faultIn_4 (by decide) rfl ?_
  refine mx_putf (pc' := 8) dX1_faultIn_5 fl_X1_28 (by first | rfl | exact EmS104.1) (by rfl) (⟨rfl, rfl⟩) rfl ?_
  refine mx_aload_n (pc' := 9) dX1_faultIn_8 rfl rfl ?_
  refine mx_iconst (pc' := 10) (v := nI 0) dX1_faultIn_9 (by decide) rfl ?_
  refine mx_putf (pc' := 13) dX1_faultIn_10 fl_X1_18 (by first | rfl | exact EmS104.1) (by rfl) (⟨rfl, rfl⟩) rfl ?_
  refine mx_iconst (pc' := 14) (v := nI 0) dX1_faultIn_13 (by decide) rfl ?_
  refine mx_istore_n (pc' := 15) (ls' := [_, _, _]) dX1_faultIn_14 (by decide) (rfl) rfl rfl ?_
  exact l_X1_faultIn M L hA (L.length + 1) 0 _ cr0 (by omega) (by omega) ⟨Nat.le_of_ble_eq_true rfl, mx_up_eq _ _ _ _, fun z => by have z : (0 : Nat) = 1 ∨ (0 : Nat) = 2 := z; omega, fun z => by have z : (0 : Nat) = 2 := z; omega, ⟨by simp [mx_up, cr0], ⟨by decide, fun x hx => by simp [cr0] at hx⟩, EmP.nil⟩, fun _ => by decide, fun z => by have z : 3 ≤ (0 : Nat) := z; omega⟩ (by repeat (first | exact Out.rf | refine Out.up ?_ (by omega) (by omega))) (by rw [List.drop_zero, Nat.zero_add]) (by rw [List.drop_zero])
end
